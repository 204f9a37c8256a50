section
-- ===== PART A: goes FIRST, ahead of the names: the tables' words, and 'selects' of the private methods out of them =====
/-- a private method of a class that the tables say can be made, by its rows of tables_1 -/
def lw_okq (q : MethodName × Nat) : Prop := (q.1.cls ≠ "java/lang/invoke/MethodHandle" ∧ q.1.cls ≠ "java/lang/invoke/VarHandle") ∧ Cond.instantiable q.1.cls q.2 ∈ tables_1 ∧ Cond.privateMethod q.1 ∈ tables_1 ∧ Cond.instanceMethod q.1 ∈ tables_1
theorem lw_p0 : lw_okq (⟨"java/lang/Throwable", "fillInStackTrace", "(I)Ljava/lang/Throwable;"⟩, 6) := ⟨⟨by decide +kernel, by decide +kernel⟩, List.mem_of_getElem? (i := 492) (by decide +kernel), List.mem_of_getElem? (i := 490) (by decide +kernel), List.mem_of_getElem? (i := 491) (by decide +kernel)⟩
theorem lw_p1 : lw_okq (⟨"PointsTo$Tokens", "addLetter", "(CII)V"⟩, 5) := ⟨⟨by decide +kernel, by decide +kernel⟩, List.mem_of_getElem? (i := 38) (by decide +kernel), List.mem_of_getElem? (i := 561) (by decide +kernel), List.mem_of_getElem? (i := 562) (by decide +kernel)⟩
theorem lw_p2 : lw_okq (⟨"PointsTo$Tokens", "add", "(II)V"⟩, 5) := ⟨⟨by decide +kernel, by decide +kernel⟩, List.mem_of_getElem? (i := 38) (by decide +kernel), List.mem_of_getElem? (i := 565) (by decide +kernel), List.mem_of_getElem? (i := 566) (by decide +kernel)⟩
theorem lw_p3 : lw_okq (⟨"PointsTo$Tokens", "tellWords", "()V"⟩, 5) := ⟨⟨by decide +kernel, by decide +kernel⟩, List.mem_of_getElem? (i := 38) (by decide +kernel), List.mem_of_getElem? (i := 572) (by decide +kernel), List.mem_of_getElem? (i := 573) (by decide +kernel)⟩
theorem lw_p4 : lw_okq (⟨"PointsTo$Parser", "parseClassHead", "()Z"⟩, 5) := ⟨⟨by decide +kernel, by decide +kernel⟩, List.mem_of_getElem? (i := 32) (by decide +kernel), List.mem_of_getElem? (i := 576) (by decide +kernel), List.mem_of_getElem? (i := 577) (by decide +kernel)⟩
theorem lw_p5 : lw_okq (⟨"PointsTo$Parser", "take", "(I)Z"⟩, 5) := ⟨⟨by decide +kernel, by decide +kernel⟩, List.mem_of_getElem? (i := 32) (by decide +kernel), List.mem_of_getElem? (i := 580) (by decide +kernel), List.mem_of_getElem? (i := 581) (by decide +kernel)⟩
theorem lw_p6 : lw_okq (⟨"PointsTo$Parser", "kind", "()I"⟩, 5) := ⟨⟨by decide +kernel, by decide +kernel⟩, List.mem_of_getElem? (i := 32) (by decide +kernel), List.mem_of_getElem? (i := 584) (by decide +kernel), List.mem_of_getElem? (i := 585) (by decide +kernel)⟩
theorem lw_p7 : lw_okq (⟨"PointsTo$Parser", "name", "()I"⟩, 5) := ⟨⟨by decide +kernel, by decide +kernel⟩, List.mem_of_getElem? (i := 32) (by decide +kernel), List.mem_of_getElem? (i := 588) (by decide +kernel), List.mem_of_getElem? (i := 589) (by decide +kernel)⟩
theorem lw_p8 : lw_okq (⟨"PointsTo$Parser", "refuse", "()Z"⟩, 5) := ⟨⟨by decide +kernel, by decide +kernel⟩, List.mem_of_getElem? (i := 32) (by decide +kernel), List.mem_of_getElem? (i := 603) (by decide +kernel), List.mem_of_getElem? (i := 604) (by decide +kernel)⟩
theorem lw_p9 : lw_okq (⟨"PointsTo$Parser", "parseField", "()Z"⟩, 5) := ⟨⟨by decide +kernel, by decide +kernel⟩, List.mem_of_getElem? (i := 32) (by decide +kernel), List.mem_of_getElem? (i := 611) (by decide +kernel), List.mem_of_getElem? (i := 612) (by decide +kernel)⟩
theorem lw_p10 : lw_okq (⟨"PointsTo$Parser", "parseMethod", "()Z"⟩, 5) := ⟨⟨by decide +kernel, by decide +kernel⟩, List.mem_of_getElem? (i := 32) (by decide +kernel), List.mem_of_getElem? (i := 627) (by decide +kernel), List.mem_of_getElem? (i := 628) (by decide +kernel)⟩
theorem lw_p11 : lw_okq (⟨"PointsTo$Program", "declared", "(II)I"⟩, 18) := ⟨⟨by decide +kernel, by decide +kernel⟩, List.mem_of_getElem? (i := 212) (by decide +kernel), List.mem_of_getElem? (i := 635) (by decide +kernel), List.mem_of_getElem? (i := 636) (by decide +kernel)⟩
theorem lw_p12 : lw_okq (⟨"PointsTo$Parser", "parseParameters", "()Z"⟩, 5) := ⟨⟨by decide +kernel, by decide +kernel⟩, List.mem_of_getElem? (i := 32) (by decide +kernel), List.mem_of_getElem? (i := 639) (by decide +kernel), List.mem_of_getElem? (i := 640) (by decide +kernel)⟩
theorem lw_p13 : lw_okq (⟨"PointsTo$Parser", "parseParameter", "()Z"⟩, 5) := ⟨⟨by decide +kernel, by decide +kernel⟩, List.mem_of_getElem? (i := 32) (by decide +kernel), List.mem_of_getElem? (i := 643) (by decide +kernel), List.mem_of_getElem? (i := 644) (by decide +kernel)⟩
theorem lw_p14 : lw_okq (⟨"PointsTo$Parser", "parseBody", "(I)Z"⟩, 5) := ⟨⟨by decide +kernel, by decide +kernel⟩, List.mem_of_getElem? (i := 32) (by decide +kernel), List.mem_of_getElem? (i := 655) (by decide +kernel), List.mem_of_getElem? (i := 656) (by decide +kernel)⟩
theorem lw_p15 : lw_okq (⟨"PointsTo$Parser", "parseBranch", "(LPointsTo$Statement;I)Z"⟩, 5) := ⟨⟨by decide +kernel, by decide +kernel⟩, List.mem_of_getElem? (i := 32) (by decide +kernel), List.mem_of_getElem? (i := 663) (by decide +kernel), List.mem_of_getElem? (i := 664) (by decide +kernel)⟩
def lw_privs_1 : List (MethodName × Nat) := [(⟨"java/lang/Throwable", "fillInStackTrace", "(I)Ljava/lang/Throwable;"⟩, 6), (⟨"PointsTo$Tokens", "addLetter", "(CII)V"⟩, 5), (⟨"PointsTo$Tokens", "add", "(II)V"⟩, 5), (⟨"PointsTo$Tokens", "tellWords", "()V"⟩, 5), (⟨"PointsTo$Parser", "parseClassHead", "()Z"⟩, 5), (⟨"PointsTo$Parser", "take", "(I)Z"⟩, 5), (⟨"PointsTo$Parser", "kind", "()I"⟩, 5), (⟨"PointsTo$Parser", "name", "()I"⟩, 5), (⟨"PointsTo$Parser", "refuse", "()Z"⟩, 5), (⟨"PointsTo$Parser", "parseField", "()Z"⟩, 5), (⟨"PointsTo$Parser", "parseMethod", "()Z"⟩, 5), (⟨"PointsTo$Program", "declared", "(II)I"⟩, 18), (⟨"PointsTo$Parser", "parseParameters", "()Z"⟩, 5), (⟨"PointsTo$Parser", "parseParameter", "()Z"⟩, 5), (⟨"PointsTo$Parser", "parseBody", "(I)Z"⟩, 5), (⟨"PointsTo$Parser", "parseBranch", "(LPointsTo$Statement;I)Z"⟩, 5)]
theorem lw_r1 : ∀ q ∈ lw_privs_1, lw_okq q := List.forall_mem_cons.mpr ⟨lw_p0, List.forall_mem_cons.mpr ⟨lw_p1, List.forall_mem_cons.mpr ⟨lw_p2, List.forall_mem_cons.mpr ⟨lw_p3, List.forall_mem_cons.mpr ⟨lw_p4, List.forall_mem_cons.mpr ⟨lw_p5, List.forall_mem_cons.mpr ⟨lw_p6, List.forall_mem_cons.mpr ⟨lw_p7, List.forall_mem_cons.mpr ⟨lw_p8, List.forall_mem_cons.mpr ⟨lw_p9, List.forall_mem_cons.mpr ⟨lw_p10, List.forall_mem_cons.mpr ⟨lw_p11, List.forall_mem_cons.mpr ⟨lw_p12, List.forall_mem_cons.mpr ⟨lw_p13, List.forall_mem_cons.mpr ⟨lw_p14, List.forall_mem_cons.mpr ⟨lw_p15, fun _ h => absurd h List.not_mem_nil⟩⟩⟩⟩⟩⟩⟩⟩⟩⟩⟩⟩⟩⟩⟩⟩
theorem lw_p16 : lw_okq (⟨"PointsTo$Parser", "parseVariable", "()I"⟩, 5) := ⟨⟨by decide +kernel, by decide +kernel⟩, List.mem_of_getElem? (i := 32) (by decide +kernel), List.mem_of_getElem? (i := 667) (by decide +kernel), List.mem_of_getElem? (i := 668) (by decide +kernel)⟩
theorem lw_p17 : lw_okq (⟨"PointsTo$Parser", "parseReturn", "(LPointsTo$Statement;)Z"⟩, 5) := ⟨⟨by decide +kernel, by decide +kernel⟩, List.mem_of_getElem? (i := 32) (by decide +kernel), List.mem_of_getElem? (i := 676) (by decide +kernel), List.mem_of_getElem? (i := 677) (by decide +kernel)⟩
theorem lw_p18 : lw_okq (⟨"PointsTo$Parser", "parseSimple", "(LPointsTo$Statement;)Z"⟩, 5) := ⟨⟨by decide +kernel, by decide +kernel⟩, List.mem_of_getElem? (i := 32) (by decide +kernel), List.mem_of_getElem? (i := 680) (by decide +kernel), List.mem_of_getElem? (i := 681) (by decide +kernel)⟩
theorem lw_p19 : lw_okq (⟨"PointsTo$Parser", "parseRight", "(LPointsTo$Statement;)Z"⟩, 5) := ⟨⟨by decide +kernel, by decide +kernel⟩, List.mem_of_getElem? (i := 32) (by decide +kernel), List.mem_of_getElem? (i := 684) (by decide +kernel), List.mem_of_getElem? (i := 685) (by decide +kernel)⟩
theorem lw_p20 : lw_okq (⟨"PointsTo$Parser", "parseNameBehind", "(ILPointsTo$Statement;)Z"⟩, 5) := ⟨⟨by decide +kernel, by decide +kernel⟩, List.mem_of_getElem? (i := 32) (by decide +kernel), List.mem_of_getElem? (i := 692) (by decide +kernel), List.mem_of_getElem? (i := 693) (by decide +kernel)⟩
theorem lw_p21 : lw_okq (⟨"PointsTo$Parser", "parseCall", "(LPointsTo$Statement;)Z"⟩, 5) := ⟨⟨by decide +kernel, by decide +kernel⟩, List.mem_of_getElem? (i := 32) (by decide +kernel), List.mem_of_getElem? (i := 700) (by decide +kernel), List.mem_of_getElem? (i := 701) (by decide +kernel)⟩
theorem lw_p22 : lw_okq (⟨"PointsTo$Parser", "parseStored", "(LPointsTo$Statement;)Z"⟩, 5) := ⟨⟨by decide +kernel, by decide +kernel⟩, List.mem_of_getElem? (i := 32) (by decide +kernel), List.mem_of_getElem? (i := 708) (by decide +kernel), List.mem_of_getElem? (i := 709) (by decide +kernel)⟩
theorem lw_p23 : lw_okq (⟨"PointsTo$Parser", "parseClassEnd", "()Z"⟩, 5) := ⟨⟨by decide +kernel, by decide +kernel⟩, List.mem_of_getElem? (i := 32) (by decide +kernel), List.mem_of_getElem? (i := 712) (by decide +kernel), List.mem_of_getElem? (i := 713) (by decide +kernel)⟩
theorem lw_p24 : lw_okq (⟨"PointsTo$Facts", "clear", "()V"⟩, 7) := ⟨⟨by decide +kernel, by decide +kernel⟩, List.mem_of_getElem? (i := 146) (by decide +kernel), List.mem_of_getElem? (i := 730) (by decide +kernel), List.mem_of_getElem? (i := 731) (by decide +kernel)⟩
theorem lw_p25 : lw_okq (⟨"PointsTo$Facts", "isKnown", "(I)Z"⟩, 7) := ⟨⟨by decide +kernel, by decide +kernel⟩, List.mem_of_getElem? (i := 146) (by decide +kernel), List.mem_of_getElem? (i := 741) (by decide +kernel), List.mem_of_getElem? (i := 742) (by decide +kernel)⟩
theorem lw_p26 : lw_okq (⟨"PointsTo$Facts", "follow", "(LPointsTo$Statement;)V"⟩, 7) := ⟨⟨by decide +kernel, by decide +kernel⟩, List.mem_of_getElem? (i := 146) (by decide +kernel), List.mem_of_getElem? (i := 745) (by decide +kernel), List.mem_of_getElem? (i := 746) (by decide +kernel)⟩
theorem lw_p27 : lw_okq (⟨"PointsTo$Facts", "tell", "([II)V"⟩, 7) := ⟨⟨by decide +kernel, by decide +kernel⟩, List.mem_of_getElem? (i := 146) (by decide +kernel), List.mem_of_getElem? (i := 749) (by decide +kernel), List.mem_of_getElem? (i := 750) (by decide +kernel)⟩
theorem lw_p28 : lw_okq (⟨"PointsTo$Facts", "tellAll", "([I[I)V"⟩, 7) := ⟨⟨by decide +kernel, by decide +kernel⟩, List.mem_of_getElem? (i := 146) (by decide +kernel), List.mem_of_getElem? (i := 753) (by decide +kernel), List.mem_of_getElem? (i := 754) (by decide +kernel)⟩
theorem lw_p29 : lw_okq (⟨"PointsTo$Facts", "followCast", "(LPointsTo$Statement;)V"⟩, 7) := ⟨⟨by decide +kernel, by decide +kernel⟩, List.mem_of_getElem? (i := 146) (by decide +kernel), List.mem_of_getElem? (i := 757) (by decide +kernel), List.mem_of_getElem? (i := 758) (by decide +kernel)⟩
theorem lw_p30 : lw_okq (⟨"PointsTo$Facts", "followLoad", "(LPointsTo$Statement;)V"⟩, 7) := ⟨⟨by decide +kernel, by decide +kernel⟩, List.mem_of_getElem? (i := 146) (by decide +kernel), List.mem_of_getElem? (i := 765) (by decide +kernel), List.mem_of_getElem? (i := 766) (by decide +kernel)⟩
theorem lw_p31 : lw_okq (⟨"PointsTo$Facts", "followStore", "(LPointsTo$Statement;)V"⟩, 7) := ⟨⟨by decide +kernel, by decide +kernel⟩, List.mem_of_getElem? (i := 146) (by decide +kernel), List.mem_of_getElem? (i := 773) (by decide +kernel), List.mem_of_getElem? (i := 774) (by decide +kernel)⟩
def lw_privs_2 : List (MethodName × Nat) := [(⟨"PointsTo$Parser", "parseVariable", "()I"⟩, 5), (⟨"PointsTo$Parser", "parseReturn", "(LPointsTo$Statement;)Z"⟩, 5), (⟨"PointsTo$Parser", "parseSimple", "(LPointsTo$Statement;)Z"⟩, 5), (⟨"PointsTo$Parser", "parseRight", "(LPointsTo$Statement;)Z"⟩, 5), (⟨"PointsTo$Parser", "parseNameBehind", "(ILPointsTo$Statement;)Z"⟩, 5), (⟨"PointsTo$Parser", "parseCall", "(LPointsTo$Statement;)Z"⟩, 5), (⟨"PointsTo$Parser", "parseStored", "(LPointsTo$Statement;)Z"⟩, 5), (⟨"PointsTo$Parser", "parseClassEnd", "()Z"⟩, 5), (⟨"PointsTo$Facts", "clear", "()V"⟩, 7), (⟨"PointsTo$Facts", "isKnown", "(I)Z"⟩, 7), (⟨"PointsTo$Facts", "follow", "(LPointsTo$Statement;)V"⟩, 7), (⟨"PointsTo$Facts", "tell", "([II)V"⟩, 7), (⟨"PointsTo$Facts", "tellAll", "([I[I)V"⟩, 7), (⟨"PointsTo$Facts", "followCast", "(LPointsTo$Statement;)V"⟩, 7), (⟨"PointsTo$Facts", "followLoad", "(LPointsTo$Statement;)V"⟩, 7), (⟨"PointsTo$Facts", "followStore", "(LPointsTo$Statement;)V"⟩, 7)]
theorem lw_r2 : ∀ q ∈ lw_privs_2, lw_okq q := List.forall_mem_cons.mpr ⟨lw_p16, List.forall_mem_cons.mpr ⟨lw_p17, List.forall_mem_cons.mpr ⟨lw_p18, List.forall_mem_cons.mpr ⟨lw_p19, List.forall_mem_cons.mpr ⟨lw_p20, List.forall_mem_cons.mpr ⟨lw_p21, List.forall_mem_cons.mpr ⟨lw_p22, List.forall_mem_cons.mpr ⟨lw_p23, List.forall_mem_cons.mpr ⟨lw_p24, List.forall_mem_cons.mpr ⟨lw_p25, List.forall_mem_cons.mpr ⟨lw_p26, List.forall_mem_cons.mpr ⟨lw_p27, List.forall_mem_cons.mpr ⟨lw_p28, List.forall_mem_cons.mpr ⟨lw_p29, List.forall_mem_cons.mpr ⟨lw_p30, List.forall_mem_cons.mpr ⟨lw_p31, fun _ h => absurd h List.not_mem_nil⟩⟩⟩⟩⟩⟩⟩⟩⟩⟩⟩⟩⟩⟩⟩⟩
theorem lw_p32 : lw_okq (⟨"PointsTo$Facts", "followReceivers", "(LPointsTo$Statement;)V"⟩, 7) := ⟨⟨by decide +kernel, by decide +kernel⟩, List.mem_of_getElem? (i := 146) (by decide +kernel), List.mem_of_getElem? (i := 778) (by decide +kernel), List.mem_of_getElem? (i := 779) (by decide +kernel)⟩
theorem lw_p33 : lw_okq (⟨"PointsTo$Facts", "followValues", "(LPointsTo$Statement;)V"⟩, 7) := ⟨⟨by decide +kernel, by decide +kernel⟩, List.mem_of_getElem? (i := 146) (by decide +kernel), List.mem_of_getElem? (i := 783) (by decide +kernel), List.mem_of_getElem? (i := 784) (by decide +kernel)⟩
theorem lw_p34 : lw_okq (⟨"PointsTo$Facts", "followCallee", "(LPointsTo$Statement;LPointsTo$Method;)V"⟩, 7) := ⟨⟨by decide +kernel, by decide +kernel⟩, List.mem_of_getElem? (i := 146) (by decide +kernel), List.mem_of_getElem? (i := 787) (by decide +kernel), List.mem_of_getElem? (i := 788) (by decide +kernel)⟩
theorem lw_p35 : lw_okq (⟨"PointsTo", "hasVariable", "(I)Z"⟩, 8) := ⟨⟨by decide +kernel, by decide +kernel⟩, List.mem_of_getElem? (i := 24) (by decide +kernel), List.mem_of_getElem? (i := 812) (by decide +kernel), List.mem_of_getElem? (i := 813) (by decide +kernel)⟩
theorem lw_p36 : lw_okq (⟨"PointsTo", "hasSite", "(I)Z"⟩, 8) := ⟨⟨by decide +kernel, by decide +kernel⟩, List.mem_of_getElem? (i := 24) (by decide +kernel), List.mem_of_getElem? (i := 819) (by decide +kernel), List.mem_of_getElem? (i := 820) (by decide +kernel)⟩
theorem lw_p37 : lw_okq (⟨"PointsTo", "hasMethod", "(I)Z"⟩, 8) := ⟨⟨by decide +kernel, by decide +kernel⟩, List.mem_of_getElem? (i := 24) (by decide +kernel), List.mem_of_getElem? (i := 853) (by decide +kernel), List.mem_of_getElem? (i := 854) (by decide +kernel)⟩
theorem lw_p38 : lw_okq (⟨"PointsTo$Machine", "make", "(I)I"⟩, 7) := ⟨⟨by decide +kernel, by decide +kernel⟩, List.mem_of_getElem? (i := 180) (by decide +kernel), List.mem_of_getElem? (i := 909) (by decide +kernel), List.mem_of_getElem? (i := 910) (by decide +kernel)⟩
theorem lw_p39 : lw_okq (⟨"PointsTo$Machine", "openFrame", "(I)[I"⟩, 7) := ⟨⟨by decide +kernel, by decide +kernel⟩, List.mem_of_getElem? (i := 180) (by decide +kernel), List.mem_of_getElem? (i := 915) (by decide +kernel), List.mem_of_getElem? (i := 916) (by decide +kernel)⟩
theorem lw_p40 : lw_okq (⟨"PointsTo$Machine", "give", "([III)V"⟩, 7) := ⟨⟨by decide +kernel, by decide +kernel⟩, List.mem_of_getElem? (i := 180) (by decide +kernel), List.mem_of_getElem? (i := 920) (by decide +kernel), List.mem_of_getElem? (i := 921) (by decide +kernel)⟩
theorem lw_p41 : lw_okq (⟨"PointsTo$Machine", "runBody", "(III)Z"⟩, 7) := ⟨⟨by decide +kernel, by decide +kernel⟩, List.mem_of_getElem? (i := 180) (by decide +kernel), List.mem_of_getElem? (i := 924) (by decide +kernel), List.mem_of_getElem? (i := 925) (by decide +kernel)⟩
theorem lw_p42 : lw_okq (⟨"PointsTo$Machine", "runStatement", "(II)Z"⟩, 7) := ⟨⟨by decide +kernel, by decide +kernel⟩, List.mem_of_getElem? (i := 180) (by decide +kernel), List.mem_of_getElem? (i := 928) (by decide +kernel), List.mem_of_getElem? (i := 929) (by decide +kernel)⟩
theorem lw_p43 : lw_okq (⟨"PointsTo$Machine", "begin", "()V"⟩, 7) := ⟨⟨by decide +kernel, by decide +kernel⟩, List.mem_of_getElem? (i := 180) (by decide +kernel), List.mem_of_getElem? (i := 932) (by decide +kernel), List.mem_of_getElem? (i := 933) (by decide +kernel)⟩
theorem lw_p44 : lw_okq (⟨"PointsTo$Machine", "runWhile", "(II)Z"⟩, 7) := ⟨⟨by decide +kernel, by decide +kernel⟩, List.mem_of_getElem? (i := 180) (by decide +kernel), List.mem_of_getElem? (i := 936) (by decide +kernel), List.mem_of_getElem? (i := 937) (by decide +kernel)⟩
theorem lw_p45 : lw_okq (⟨"PointsTo$Machine", "holder", "(II)I"⟩, 7) := ⟨⟨by decide +kernel, by decide +kernel⟩, List.mem_of_getElem? (i := 180) (by decide +kernel), List.mem_of_getElem? (i := 940) (by decide +kernel), List.mem_of_getElem? (i := 941) (by decide +kernel)⟩
theorem lw_p46 : lw_okq (⟨"PointsTo$Machine", "classOf", "(I)I"⟩, 7) := ⟨⟨by decide +kernel, by decide +kernel⟩, List.mem_of_getElem? (i := 180) (by decide +kernel), List.mem_of_getElem? (i := 944) (by decide +kernel), List.mem_of_getElem? (i := 945) (by decide +kernel)⟩
theorem lw_p47 : lw_okq (⟨"PointsTo$Machine", "runCall", "(LPointsTo$Statement;I)V"⟩, 7) := ⟨⟨by decide +kernel, by decide +kernel⟩, List.mem_of_getElem? (i := 180) (by decide +kernel), List.mem_of_getElem? (i := 966) (by decide +kernel), List.mem_of_getElem? (i := 967) (by decide +kernel)⟩
def lw_privs_3 : List (MethodName × Nat) := [(⟨"PointsTo$Facts", "followReceivers", "(LPointsTo$Statement;)V"⟩, 7), (⟨"PointsTo$Facts", "followValues", "(LPointsTo$Statement;)V"⟩, 7), (⟨"PointsTo$Facts", "followCallee", "(LPointsTo$Statement;LPointsTo$Method;)V"⟩, 7), (⟨"PointsTo", "hasVariable", "(I)Z"⟩, 8), (⟨"PointsTo", "hasSite", "(I)Z"⟩, 8), (⟨"PointsTo", "hasMethod", "(I)Z"⟩, 8), (⟨"PointsTo$Machine", "make", "(I)I"⟩, 7), (⟨"PointsTo$Machine", "openFrame", "(I)[I"⟩, 7), (⟨"PointsTo$Machine", "give", "([III)V"⟩, 7), (⟨"PointsTo$Machine", "runBody", "(III)Z"⟩, 7), (⟨"PointsTo$Machine", "runStatement", "(II)Z"⟩, 7), (⟨"PointsTo$Machine", "begin", "()V"⟩, 7), (⟨"PointsTo$Machine", "runWhile", "(II)Z"⟩, 7), (⟨"PointsTo$Machine", "holder", "(II)I"⟩, 7), (⟨"PointsTo$Machine", "classOf", "(I)I"⟩, 7), (⟨"PointsTo$Machine", "runCall", "(LPointsTo$Statement;I)V"⟩, 7)]
theorem lw_r3 : ∀ q ∈ lw_privs_3, lw_okq q := List.forall_mem_cons.mpr ⟨lw_p32, List.forall_mem_cons.mpr ⟨lw_p33, List.forall_mem_cons.mpr ⟨lw_p34, List.forall_mem_cons.mpr ⟨lw_p35, List.forall_mem_cons.mpr ⟨lw_p36, List.forall_mem_cons.mpr ⟨lw_p37, List.forall_mem_cons.mpr ⟨lw_p38, List.forall_mem_cons.mpr ⟨lw_p39, List.forall_mem_cons.mpr ⟨lw_p40, List.forall_mem_cons.mpr ⟨lw_p41, List.forall_mem_cons.mpr ⟨lw_p42, List.forall_mem_cons.mpr ⟨lw_p43, List.forall_mem_cons.mpr ⟨lw_p44, List.forall_mem_cons.mpr ⟨lw_p45, List.forall_mem_cons.mpr ⟨lw_p46, List.forall_mem_cons.mpr ⟨lw_p47, fun _ h => absurd h List.not_mem_nil⟩⟩⟩⟩⟩⟩⟩⟩⟩⟩⟩⟩⟩⟩⟩⟩
theorem lw_p48 : lw_okq (⟨"PointsTo$Machine", "rightOf", "(LPointsTo$Statement;[I)I"⟩, 7) := ⟨⟨by decide +kernel, by decide +kernel⟩, List.mem_of_getElem? (i := 180) (by decide +kernel), List.mem_of_getElem? (i := 972) (by decide +kernel), List.mem_of_getElem? (i := 973) (by decide +kernel)⟩
theorem lw_p49 : lw_okq (⟨"PointsTo$Machine", "castTo", "(II)I"⟩, 7) := ⟨⟨by decide +kernel, by decide +kernel⟩, List.mem_of_getElem? (i := 180) (by decide +kernel), List.mem_of_getElem? (i := 976) (by decide +kernel), List.mem_of_getElem? (i := 977) (by decide +kernel)⟩
theorem lw_p50 : lw_okq (⟨"PointsToModel", "good", "(ZI)Z"⟩, 58) := ⟨⟨by decide +kernel, by decide +kernel⟩, List.mem_of_getElem? (i := 1010) (by decide +kernel), List.mem_of_getElem? (i := 1203) (by decide +kernel), List.mem_of_getElem? (i := 1204) (by decide +kernel)⟩
theorem lw_p51 : lw_okq (⟨"PointsToModel", "fail", "(I)I"⟩, 58) := ⟨⟨by decide +kernel, by decide +kernel⟩, List.mem_of_getElem? (i := 1010) (by decide +kernel), List.mem_of_getElem? (i := 1207) (by decide +kernel), List.mem_of_getElem? (i := 1208) (by decide +kernel)⟩
theorem lw_p52 : lw_okq (⟨"PointsToModel", "other", "()I"⟩, 58) := ⟨⟨by decide +kernel, by decide +kernel⟩, List.mem_of_getElem? (i := 1010) (by decide +kernel), List.mem_of_getElem? (i := 1219) (by decide +kernel), List.mem_of_getElem? (i := 1220) (by decide +kernel)⟩
theorem lw_p53 : lw_okq (⟨"PointsToModel", "next", "()V"⟩, 58) := ⟨⟨by decide +kernel, by decide +kernel⟩, List.mem_of_getElem? (i := 1010) (by decide +kernel), List.mem_of_getElem? (i := 1223) (by decide +kernel), List.mem_of_getElem? (i := 1224) (by decide +kernel)⟩
theorem lw_p54 : lw_okq (⟨"PointsToModel", "readClass", "()V"⟩, 58) := ⟨⟨by decide +kernel, by decide +kernel⟩, List.mem_of_getElem? (i := 1010) (by decide +kernel), List.mem_of_getElem? (i := 1233) (by decide +kernel), List.mem_of_getElem? (i := 1234) (by decide +kernel)⟩
theorem lw_p55 : lw_okq (⟨"PointsToModel", "readHead", "()V"⟩, 58) := ⟨⟨by decide +kernel, by decide +kernel⟩, List.mem_of_getElem? (i := 1010) (by decide +kernel), List.mem_of_getElem? (i := 1237) (by decide +kernel), List.mem_of_getElem? (i := 1238) (by decide +kernel)⟩
theorem lw_p56 : lw_okq (⟨"PointsToModel", "isClass", "()Z"⟩, 58) := ⟨⟨by decide +kernel, by decide +kernel⟩, List.mem_of_getElem? (i := 1010) (by decide +kernel), List.mem_of_getElem? (i := 1241) (by decide +kernel), List.mem_of_getElem? (i := 1242) (by decide +kernel)⟩
theorem lw_p57 : lw_okq (⟨"PointsToModel", "is", "(I)Z"⟩, 58) := ⟨⟨by decide +kernel, by decide +kernel⟩, List.mem_of_getElem? (i := 1010) (by decide +kernel), List.mem_of_getElem? (i := 1251) (by decide +kernel), List.mem_of_getElem? (i := 1252) (by decide +kernel)⟩
theorem lw_p58 : lw_okq (⟨"PointsToModel", "goOn", "(Z)Z"⟩, 58) := ⟨⟨by decide +kernel, by decide +kernel⟩, List.mem_of_getElem? (i := 1010) (by decide +kernel), List.mem_of_getElem? (i := 1255) (by decide +kernel), List.mem_of_getElem? (i := 1256) (by decide +kernel)⟩
theorem lw_p59 : lw_okq (⟨"PointsToModel", "stop", "()V"⟩, 58) := ⟨⟨by decide +kernel, by decide +kernel⟩, List.mem_of_getElem? (i := 1010) (by decide +kernel), List.mem_of_getElem? (i := 1259) (by decide +kernel), List.mem_of_getElem? (i := 1260) (by decide +kernel)⟩
theorem lw_p60 : lw_okq (⟨"PointsToModel", "isName", "()Z"⟩, 58) := ⟨⟨by decide +kernel, by decide +kernel⟩, List.mem_of_getElem? (i := 1010) (by decide +kernel), List.mem_of_getElem? (i := 1263) (by decide +kernel), List.mem_of_getElem? (i := 1264) (by decide +kernel)⟩
theorem lw_p61 : lw_okq (⟨"PointsToModel", "isField", "()Z"⟩, 58) := ⟨⟨by decide +kernel, by decide +kernel⟩, List.mem_of_getElem? (i := 1010) (by decide +kernel), List.mem_of_getElem? (i := 1267) (by decide +kernel), List.mem_of_getElem? (i := 1268) (by decide +kernel)⟩
theorem lw_p62 : lw_okq (⟨"PointsToModel", "isDef", "()Z"⟩, 58) := ⟨⟨by decide +kernel, by decide +kernel⟩, List.mem_of_getElem? (i := 1010) (by decide +kernel), List.mem_of_getElem? (i := 1271) (by decide +kernel), List.mem_of_getElem? (i := 1272) (by decide +kernel)⟩
theorem lw_p63 : lw_okq (⟨"PointsToModel", "isNew", "()Z"⟩, 58) := ⟨⟨by decide +kernel, by decide +kernel⟩, List.mem_of_getElem? (i := 1010) (by decide +kernel), List.mem_of_getElem? (i := 1275) (by decide +kernel), List.mem_of_getElem? (i := 1276) (by decide +kernel)⟩
def lw_privs_4 : List (MethodName × Nat) := [(⟨"PointsTo$Machine", "rightOf", "(LPointsTo$Statement;[I)I"⟩, 7), (⟨"PointsTo$Machine", "castTo", "(II)I"⟩, 7), (⟨"PointsToModel", "good", "(ZI)Z"⟩, 58), (⟨"PointsToModel", "fail", "(I)I"⟩, 58), (⟨"PointsToModel", "other", "()I"⟩, 58), (⟨"PointsToModel", "next", "()V"⟩, 58), (⟨"PointsToModel", "readClass", "()V"⟩, 58), (⟨"PointsToModel", "readHead", "()V"⟩, 58), (⟨"PointsToModel", "isClass", "()Z"⟩, 58), (⟨"PointsToModel", "is", "(I)Z"⟩, 58), (⟨"PointsToModel", "goOn", "(Z)Z"⟩, 58), (⟨"PointsToModel", "stop", "()V"⟩, 58), (⟨"PointsToModel", "isName", "()Z"⟩, 58), (⟨"PointsToModel", "isField", "()Z"⟩, 58), (⟨"PointsToModel", "isDef", "()Z"⟩, 58), (⟨"PointsToModel", "isNew", "()Z"⟩, 58)]
theorem lw_r4 : ∀ q ∈ lw_privs_4, lw_okq q := List.forall_mem_cons.mpr ⟨lw_p48, List.forall_mem_cons.mpr ⟨lw_p49, List.forall_mem_cons.mpr ⟨lw_p50, List.forall_mem_cons.mpr ⟨lw_p51, List.forall_mem_cons.mpr ⟨lw_p52, List.forall_mem_cons.mpr ⟨lw_p53, List.forall_mem_cons.mpr ⟨lw_p54, List.forall_mem_cons.mpr ⟨lw_p55, List.forall_mem_cons.mpr ⟨lw_p56, List.forall_mem_cons.mpr ⟨lw_p57, List.forall_mem_cons.mpr ⟨lw_p58, List.forall_mem_cons.mpr ⟨lw_p59, List.forall_mem_cons.mpr ⟨lw_p60, List.forall_mem_cons.mpr ⟨lw_p61, List.forall_mem_cons.mpr ⟨lw_p62, List.forall_mem_cons.mpr ⟨lw_p63, fun _ h => absurd h List.not_mem_nil⟩⟩⟩⟩⟩⟩⟩⟩⟩⟩⟩⟩⟩⟩⟩⟩
theorem lw_p64 : lw_okq (⟨"PointsToModel", "isNull", "()Z"⟩, 58) := ⟨⟨by decide +kernel, by decide +kernel⟩, List.mem_of_getElem? (i := 1010) (by decide +kernel), List.mem_of_getElem? (i := 1279) (by decide +kernel), List.mem_of_getElem? (i := 1280) (by decide +kernel)⟩
theorem lw_p65 : lw_okq (⟨"PointsToModel", "isIf", "()Z"⟩, 58) := ⟨⟨by decide +kernel, by decide +kernel⟩, List.mem_of_getElem? (i := 1010) (by decide +kernel), List.mem_of_getElem? (i := 1283) (by decide +kernel), List.mem_of_getElem? (i := 1284) (by decide +kernel)⟩
theorem lw_p66 : lw_okq (⟨"PointsToModel", "isElse", "()Z"⟩, 58) := ⟨⟨by decide +kernel, by decide +kernel⟩, List.mem_of_getElem? (i := 1010) (by decide +kernel), List.mem_of_getElem? (i := 1287) (by decide +kernel), List.mem_of_getElem? (i := 1288) (by decide +kernel)⟩
theorem lw_p67 : lw_okq (⟨"PointsToModel", "isWhile", "()Z"⟩, 58) := ⟨⟨by decide +kernel, by decide +kernel⟩, List.mem_of_getElem? (i := 1010) (by decide +kernel), List.mem_of_getElem? (i := 1291) (by decide +kernel), List.mem_of_getElem? (i := 1292) (by decide +kernel)⟩
theorem lw_p68 : lw_okq (⟨"PointsToModel", "isReturn", "()Z"⟩, 58) := ⟨⟨by decide +kernel, by decide +kernel⟩, List.mem_of_getElem? (i := 1010) (by decide +kernel), List.mem_of_getElem? (i := 1295) (by decide +kernel), List.mem_of_getElem? (i := 1296) (by decide +kernel)⟩
theorem lw_p69 : lw_okq (⟨"PointsToModel", "isThis", "()Z"⟩, 58) := ⟨⟨by decide +kernel, by decide +kernel⟩, List.mem_of_getElem? (i := 1010) (by decide +kernel), List.mem_of_getElem? (i := 1299) (by decide +kernel), List.mem_of_getElem? (i := 1300) (by decide +kernel)⟩
theorem lw_p70 : lw_okq (⟨"PointsToModel", "findClass", "(II)I"⟩, 58) := ⟨⟨by decide +kernel, by decide +kernel⟩, List.mem_of_getElem? (i := 1010) (by decide +kernel), List.mem_of_getElem? (i := 1303) (by decide +kernel), List.mem_of_getElem? (i := 1304) (by decide +kernel)⟩
theorem lw_p71 : lw_okq (⟨"PointsToModel", "isMark", "(I)Z"⟩, 58) := ⟨⟨by decide +kernel, by decide +kernel⟩, List.mem_of_getElem? (i := 1010) (by decide +kernel), List.mem_of_getElem? (i := 1307) (by decide +kernel), List.mem_of_getElem? (i := 1308) (by decide +kernel)⟩
theorem lw_p72 : lw_okq (⟨"PointsToModel", "mark", "(I)Z"⟩, 58) := ⟨⟨by decide +kernel, by decide +kernel⟩, List.mem_of_getElem? (i := 1010) (by decide +kernel), List.mem_of_getElem? (i := 1311) (by decide +kernel), List.mem_of_getElem? (i := 1312) (by decide +kernel)⟩
theorem lw_p73 : lw_okq (⟨"PointsToModel", "readField", "()V"⟩, 58) := ⟨⟨by decide +kernel, by decide +kernel⟩, List.mem_of_getElem? (i := 1010) (by decide +kernel), List.mem_of_getElem? (i := 1315) (by decide +kernel), List.mem_of_getElem? (i := 1316) (by decide +kernel)⟩
theorem lw_p74 : lw_okq (⟨"PointsToModel", "findField", "(II)I"⟩, 58) := ⟨⟨by decide +kernel, by decide +kernel⟩, List.mem_of_getElem? (i := 1010) (by decide +kernel), List.mem_of_getElem? (i := 1319) (by decide +kernel), List.mem_of_getElem? (i := 1320) (by decide +kernel)⟩
theorem lw_p75 : lw_okq (⟨"PointsToModel", "hasField", "(III)Z"⟩, 58) := ⟨⟨by decide +kernel, by decide +kernel⟩, List.mem_of_getElem? (i := 1010) (by decide +kernel), List.mem_of_getElem? (i := 1323) (by decide +kernel), List.mem_of_getElem? (i := 1324) (by decide +kernel)⟩
theorem lw_p76 : lw_okq (⟨"PointsToModel", "readMethodHead", "()V"⟩, 58) := ⟨⟨by decide +kernel, by decide +kernel⟩, List.mem_of_getElem? (i := 1010) (by decide +kernel), List.mem_of_getElem? (i := 1327) (by decide +kernel), List.mem_of_getElem? (i := 1328) (by decide +kernel)⟩
theorem lw_p77 : lw_okq (⟨"PointsToModel", "declared", "(IIIZ)I"⟩, 58) := ⟨⟨by decide +kernel, by decide +kernel⟩, List.mem_of_getElem? (i := 1010) (by decide +kernel), List.mem_of_getElem? (i := 1331) (by decide +kernel), List.mem_of_getElem? (i := 1332) (by decide +kernel)⟩
theorem lw_p78 : lw_okq (⟨"PointsToModel", "addVar", "(I)I"⟩, 58) := ⟨⟨by decide +kernel, by decide +kernel⟩, List.mem_of_getElem? (i := 1010) (by decide +kernel), List.mem_of_getElem? (i := 1335) (by decide +kernel), List.mem_of_getElem? (i := 1336) (by decide +kernel)⟩
theorem lw_p79 : lw_okq (⟨"PointsToModel", "readParameters", "(I)V"⟩, 58) := ⟨⟨by decide +kernel, by decide +kernel⟩, List.mem_of_getElem? (i := 1010) (by decide +kernel), List.mem_of_getElem? (i := 1339) (by decide +kernel), List.mem_of_getElem? (i := 1340) (by decide +kernel)⟩
def lw_privs_5 : List (MethodName × Nat) := [(⟨"PointsToModel", "isNull", "()Z"⟩, 58), (⟨"PointsToModel", "isIf", "()Z"⟩, 58), (⟨"PointsToModel", "isElse", "()Z"⟩, 58), (⟨"PointsToModel", "isWhile", "()Z"⟩, 58), (⟨"PointsToModel", "isReturn", "()Z"⟩, 58), (⟨"PointsToModel", "isThis", "()Z"⟩, 58), (⟨"PointsToModel", "findClass", "(II)I"⟩, 58), (⟨"PointsToModel", "isMark", "(I)Z"⟩, 58), (⟨"PointsToModel", "mark", "(I)Z"⟩, 58), (⟨"PointsToModel", "readField", "()V"⟩, 58), (⟨"PointsToModel", "findField", "(II)I"⟩, 58), (⟨"PointsToModel", "hasField", "(III)Z"⟩, 58), (⟨"PointsToModel", "readMethodHead", "()V"⟩, 58), (⟨"PointsToModel", "declared", "(IIIZ)I"⟩, 58), (⟨"PointsToModel", "addVar", "(I)I"⟩, 58), (⟨"PointsToModel", "readParameters", "(I)V"⟩, 58)]
theorem lw_r5 : ∀ q ∈ lw_privs_5, lw_okq q := List.forall_mem_cons.mpr ⟨lw_p64, List.forall_mem_cons.mpr ⟨lw_p65, List.forall_mem_cons.mpr ⟨lw_p66, List.forall_mem_cons.mpr ⟨lw_p67, List.forall_mem_cons.mpr ⟨lw_p68, List.forall_mem_cons.mpr ⟨lw_p69, List.forall_mem_cons.mpr ⟨lw_p70, List.forall_mem_cons.mpr ⟨lw_p71, List.forall_mem_cons.mpr ⟨lw_p72, List.forall_mem_cons.mpr ⟨lw_p73, List.forall_mem_cons.mpr ⟨lw_p74, List.forall_mem_cons.mpr ⟨lw_p75, List.forall_mem_cons.mpr ⟨lw_p76, List.forall_mem_cons.mpr ⟨lw_p77, List.forall_mem_cons.mpr ⟨lw_p78, List.forall_mem_cons.mpr ⟨lw_p79, fun _ h => absurd h List.not_mem_nil⟩⟩⟩⟩⟩⟩⟩⟩⟩⟩⟩⟩⟩⟩⟩⟩
theorem lw_p80 : lw_okq (⟨"PointsToModel", "readBody", "()V"⟩, 58) := ⟨⟨by decide +kernel, by decide +kernel⟩, List.mem_of_getElem? (i := 1010) (by decide +kernel), List.mem_of_getElem? (i := 1343) (by decide +kernel), List.mem_of_getElem? (i := 1344) (by decide +kernel)⟩
theorem lw_p81 : lw_okq (⟨"PointsToModel", "emit", "(IIII)I"⟩, 58) := ⟨⟨by decide +kernel, by decide +kernel⟩, List.mem_of_getElem? (i := 1010) (by decide +kernel), List.mem_of_getElem? (i := 1347) (by decide +kernel), List.mem_of_getElem? (i := 1348) (by decide +kernel)⟩
theorem lw_p82 : lw_okq (⟨"PointsToModel", "readClosing", "()V"⟩, 58) := ⟨⟨by decide +kernel, by decide +kernel⟩, List.mem_of_getElem? (i := 1010) (by decide +kernel), List.mem_of_getElem? (i := 1351) (by decide +kernel), List.mem_of_getElem? (i := 1352) (by decide +kernel)⟩
theorem lw_p83 : lw_okq (⟨"PointsToModel", "aim", "(I)V"⟩, 58) := ⟨⟨by decide +kernel, by decide +kernel⟩, List.mem_of_getElem? (i := 1010) (by decide +kernel), List.mem_of_getElem? (i := 1355) (by decide +kernel), List.mem_of_getElem? (i := 1356) (by decide +kernel)⟩
theorem lw_p84 : lw_okq (⟨"PointsToModel", "readOpening", "()V"⟩, 58) := ⟨⟨by decide +kernel, by decide +kernel⟩, List.mem_of_getElem? (i := 1010) (by decide +kernel), List.mem_of_getElem? (i := 1359) (by decide +kernel), List.mem_of_getElem? (i := 1360) (by decide +kernel)⟩
theorem lw_p85 : lw_okq (⟨"PointsToModel", "readVar", "()I"⟩, 58) := ⟨⟨by decide +kernel, by decide +kernel⟩, List.mem_of_getElem? (i := 1010) (by decide +kernel), List.mem_of_getElem? (i := 1363) (by decide +kernel), List.mem_of_getElem? (i := 1364) (by decide +kernel)⟩
theorem lw_p86 : lw_okq (⟨"PointsToModel", "readSimple", "()V"⟩, 58) := ⟨⟨by decide +kernel, by decide +kernel⟩, List.mem_of_getElem? (i := 1010) (by decide +kernel), List.mem_of_getElem? (i := 1367) (by decide +kernel), List.mem_of_getElem? (i := 1368) (by decide +kernel)⟩
theorem lw_p87 : lw_okq (⟨"PointsToModel", "readMember", "(I)V"⟩, 58) := ⟨⟨by decide +kernel, by decide +kernel⟩, List.mem_of_getElem? (i := 1010) (by decide +kernel), List.mem_of_getElem? (i := 1371) (by decide +kernel), List.mem_of_getElem? (i := 1372) (by decide +kernel)⟩
theorem lw_p88 : lw_okq (⟨"PointsToModel", "readCall", "(IIII)V"⟩, 58) := ⟨⟨by decide +kernel, by decide +kernel⟩, List.mem_of_getElem? (i := 1010) (by decide +kernel), List.mem_of_getElem? (i := 1375) (by decide +kernel), List.mem_of_getElem? (i := 1376) (by decide +kernel)⟩
theorem lw_p89 : lw_okq (⟨"PointsToModel", "readRight", "(I)V"⟩, 58) := ⟨⟨by decide +kernel, by decide +kernel⟩, List.mem_of_getElem? (i := 1010) (by decide +kernel), List.mem_of_getElem? (i := 1379) (by decide +kernel), List.mem_of_getElem? (i := 1380) (by decide +kernel)⟩
theorem lw_p90 : lw_okq (⟨"PointsToModel", "readNew", "(I)V"⟩, 58) := ⟨⟨by decide +kernel, by decide +kernel⟩, List.mem_of_getElem? (i := 1010) (by decide +kernel), List.mem_of_getElem? (i := 1383) (by decide +kernel), List.mem_of_getElem? (i := 1384) (by decide +kernel)⟩
theorem lw_p91 : lw_okq (⟨"PointsToModel", "ask", "(I)V"⟩, 58) := ⟨⟨by decide +kernel, by decide +kernel⟩, List.mem_of_getElem? (i := 1010) (by decide +kernel), List.mem_of_getElem? (i := 1387) (by decide +kernel), List.mem_of_getElem? (i := 1388) (by decide +kernel)⟩
theorem lw_p92 : lw_okq (⟨"PointsToModel", "readCast", "(I)V"⟩, 58) := ⟨⟨by decide +kernel, by decide +kernel⟩, List.mem_of_getElem? (i := 1010) (by decide +kernel), List.mem_of_getElem? (i := 1391) (by decide +kernel), List.mem_of_getElem? (i := 1392) (by decide +kernel)⟩
theorem lw_p93 : lw_okq (⟨"PointsToModel", "settleNames", "(I)V"⟩, 58) := ⟨⟨by decide +kernel, by decide +kernel⟩, List.mem_of_getElem? (i := 1010) (by decide +kernel), List.mem_of_getElem? (i := 1395) (by decide +kernel), List.mem_of_getElem? (i := 1396) (by decide +kernel)⟩
theorem lw_p94 : lw_okq (⟨"PointsToModel", "analyse", "()V"⟩, 58) := ⟨⟨by decide +kernel, by decide +kernel⟩, List.mem_of_getElem? (i := 1010) (by decide +kernel), List.mem_of_getElem? (i := 1399) (by decide +kernel), List.mem_of_getElem? (i := 1400) (by decide +kernel)⟩
theorem lw_p95 : lw_okq (⟨"PointsToModel", "startMethod", "()I"⟩, 58) := ⟨⟨by decide +kernel, by decide +kernel⟩, List.mem_of_getElem? (i := 1010) (by decide +kernel), List.mem_of_getElem? (i := 1403) (by decide +kernel), List.mem_of_getElem? (i := 1404) (by decide +kernel)⟩
def lw_privs_6 : List (MethodName × Nat) := [(⟨"PointsToModel", "readBody", "()V"⟩, 58), (⟨"PointsToModel", "emit", "(IIII)I"⟩, 58), (⟨"PointsToModel", "readClosing", "()V"⟩, 58), (⟨"PointsToModel", "aim", "(I)V"⟩, 58), (⟨"PointsToModel", "readOpening", "()V"⟩, 58), (⟨"PointsToModel", "readVar", "()I"⟩, 58), (⟨"PointsToModel", "readSimple", "()V"⟩, 58), (⟨"PointsToModel", "readMember", "(I)V"⟩, 58), (⟨"PointsToModel", "readCall", "(IIII)V"⟩, 58), (⟨"PointsToModel", "readRight", "(I)V"⟩, 58), (⟨"PointsToModel", "readNew", "(I)V"⟩, 58), (⟨"PointsToModel", "ask", "(I)V"⟩, 58), (⟨"PointsToModel", "readCast", "(I)V"⟩, 58), (⟨"PointsToModel", "settleNames", "(I)V"⟩, 58), (⟨"PointsToModel", "analyse", "()V"⟩, 58), (⟨"PointsToModel", "startMethod", "()I"⟩, 58)]
theorem lw_r6 : ∀ q ∈ lw_privs_6, lw_okq q := List.forall_mem_cons.mpr ⟨lw_p80, List.forall_mem_cons.mpr ⟨lw_p81, List.forall_mem_cons.mpr ⟨lw_p82, List.forall_mem_cons.mpr ⟨lw_p83, List.forall_mem_cons.mpr ⟨lw_p84, List.forall_mem_cons.mpr ⟨lw_p85, List.forall_mem_cons.mpr ⟨lw_p86, List.forall_mem_cons.mpr ⟨lw_p87, List.forall_mem_cons.mpr ⟨lw_p88, List.forall_mem_cons.mpr ⟨lw_p89, List.forall_mem_cons.mpr ⟨lw_p90, List.forall_mem_cons.mpr ⟨lw_p91, List.forall_mem_cons.mpr ⟨lw_p92, List.forall_mem_cons.mpr ⟨lw_p93, List.forall_mem_cons.mpr ⟨lw_p94, List.forall_mem_cons.mpr ⟨lw_p95, fun _ h => absurd h List.not_mem_nil⟩⟩⟩⟩⟩⟩⟩⟩⟩⟩⟩⟩⟩⟩⟩⟩
theorem lw_p96 : lw_okq (⟨"PointsToModel", "found", "(IIII)I"⟩, 58) := ⟨⟨by decide +kernel, by decide +kernel⟩, List.mem_of_getElem? (i := 1010) (by decide +kernel), List.mem_of_getElem? (i := 1407) (by decide +kernel), List.mem_of_getElem? (i := 1408) (by decide +kernel)⟩
theorem lw_p97 : lw_okq (⟨"PointsToModel", "old", "(I)Z"⟩, 58) := ⟨⟨by decide +kernel, by decide +kernel⟩, List.mem_of_getElem? (i := 1010) (by decide +kernel), List.mem_of_getElem? (i := 1411) (by decide +kernel), List.mem_of_getElem? (i := 1412) (by decide +kernel)⟩
theorem lw_p98 : lw_okq (⟨"PointsToModel", "doOne", "(I)V"⟩, 58) := ⟨⟨by decide +kernel, by decide +kernel⟩, List.mem_of_getElem? (i := 1010) (by decide +kernel), List.mem_of_getElem? (i := 1415) (by decide +kernel), List.mem_of_getElem? (i := 1416) (by decide +kernel)⟩
theorem lw_p99 : lw_okq (⟨"PointsToModel", "addMay", "(II)V"⟩, 58) := ⟨⟨by decide +kernel, by decide +kernel⟩, List.mem_of_getElem? (i := 1010) (by decide +kernel), List.mem_of_getElem? (i := 1419) (by decide +kernel), List.mem_of_getElem? (i := 1420) (by decide +kernel)⟩
theorem lw_p100 : lw_okq (⟨"PointsToModel", "flow", "(II)V"⟩, 58) := ⟨⟨by decide +kernel, by decide +kernel⟩, List.mem_of_getElem? (i := 1010) (by decide +kernel), List.mem_of_getElem? (i := 1423) (by decide +kernel), List.mem_of_getElem? (i := 1424) (by decide +kernel)⟩
theorem lw_p101 : lw_okq (⟨"PointsToModel", "doFields", "(I)V"⟩, 58) := ⟨⟨by decide +kernel, by decide +kernel⟩, List.mem_of_getElem? (i := 1010) (by decide +kernel), List.mem_of_getElem? (i := 1427) (by decide +kernel), List.mem_of_getElem? (i := 1428) (by decide +kernel)⟩
theorem lw_p102 : lw_okq (⟨"PointsToModel", "doCall", "(I)V"⟩, 58) := ⟨⟨by decide +kernel, by decide +kernel⟩, List.mem_of_getElem? (i := 1010) (by decide +kernel), List.mem_of_getElem? (i := 1431) (by decide +kernel), List.mem_of_getElem? (i := 1432) (by decide +kernel)⟩
theorem lw_p103 : lw_okq (⟨"PointsToModel", "below", "(III)Z"⟩, 58) := ⟨⟨by decide +kernel, by decide +kernel⟩, List.mem_of_getElem? (i := 1010) (by decide +kernel), List.mem_of_getElem? (i := 1435) (by decide +kernel), List.mem_of_getElem? (i := 1436) (by decide +kernel)⟩
theorem lw_p104 : lw_okq (⟨"PointsToModel", "isVar", "(I)Z"⟩, 58) := ⟨⟨by decide +kernel, by decide +kernel⟩, List.mem_of_getElem? (i := 1010) (by decide +kernel), List.mem_of_getElem? (i := 1447) (by decide +kernel), List.mem_of_getElem? (i := 1448) (by decide +kernel)⟩
theorem lw_p105 : lw_okq (⟨"PointsToModel", "isSite", "(I)Z"⟩, 58) := ⟨⟨by decide +kernel, by decide +kernel⟩, List.mem_of_getElem? (i := 1010) (by decide +kernel), List.mem_of_getElem? (i := 1451) (by decide +kernel), List.mem_of_getElem? (i := 1452) (by decide +kernel)⟩
theorem lw_p106 : lw_okq (⟨"PointsToModel", "there", "(Z)Z"⟩, 58) := ⟨⟨by decide +kernel, by decide +kernel⟩, List.mem_of_getElem? (i := 1010) (by decide +kernel), List.mem_of_getElem? (i := 1455) (by decide +kernel), List.mem_of_getElem? (i := 1456) (by decide +kernel)⟩
theorem lw_p107 : lw_okq (⟨"PointsToModel", "isMethod", "(I)Z"⟩, 58) := ⟨⟨by decide +kernel, by decide +kernel⟩, List.mem_of_getElem? (i := 1010) (by decide +kernel), List.mem_of_getElem? (i := 1467) (by decide +kernel), List.mem_of_getElem? (i := 1468) (by decide +kernel)⟩
theorem lw_p108 : lw_okq (⟨"PointsToModel", "make", "(I)I"⟩, 58) := ⟨⟨by decide +kernel, by decide +kernel⟩, List.mem_of_getElem? (i := 1010) (by decide +kernel), List.mem_of_getElem? (i := 1491) (by decide +kernel), List.mem_of_getElem? (i := 1492) (by decide +kernel)⟩
theorem lw_p109 : lw_okq (⟨"PointsToModel", "enter", "(IIIII)V"⟩, 58) := ⟨⟨by decide +kernel, by decide +kernel⟩, List.mem_of_getElem? (i := 1010) (by decide +kernel), List.mem_of_getElem? (i := 1495) (by decide +kernel), List.mem_of_getElem? (i := 1496) (by decide +kernel)⟩
theorem lw_p110 : lw_okq (⟨"PointsToModel", "give", "(II)V"⟩, 58) := ⟨⟨by decide +kernel, by decide +kernel⟩, List.mem_of_getElem? (i := 1010) (by decide +kernel), List.mem_of_getElem? (i := 1499) (by decide +kernel), List.mem_of_getElem? (i := 1500) (by decide +kernel)⟩
theorem lw_p111 : lw_okq (⟨"PointsToModel", "step", "()V"⟩, 58) := ⟨⟨by decide +kernel, by decide +kernel⟩, List.mem_of_getElem? (i := 1010) (by decide +kernel), List.mem_of_getElem? (i := 1503) (by decide +kernel), List.mem_of_getElem? (i := 1504) (by decide +kernel)⟩
def lw_privs_7 : List (MethodName × Nat) := [(⟨"PointsToModel", "found", "(IIII)I"⟩, 58), (⟨"PointsToModel", "old", "(I)Z"⟩, 58), (⟨"PointsToModel", "doOne", "(I)V"⟩, 58), (⟨"PointsToModel", "addMay", "(II)V"⟩, 58), (⟨"PointsToModel", "flow", "(II)V"⟩, 58), (⟨"PointsToModel", "doFields", "(I)V"⟩, 58), (⟨"PointsToModel", "doCall", "(I)V"⟩, 58), (⟨"PointsToModel", "below", "(III)Z"⟩, 58), (⟨"PointsToModel", "isVar", "(I)Z"⟩, 58), (⟨"PointsToModel", "isSite", "(I)Z"⟩, 58), (⟨"PointsToModel", "there", "(Z)Z"⟩, 58), (⟨"PointsToModel", "isMethod", "(I)Z"⟩, 58), (⟨"PointsToModel", "make", "(I)I"⟩, 58), (⟨"PointsToModel", "enter", "(IIIII)V"⟩, 58), (⟨"PointsToModel", "give", "(II)V"⟩, 58), (⟨"PointsToModel", "step", "()V"⟩, 58)]
theorem lw_r7 : ∀ q ∈ lw_privs_7, lw_okq q := List.forall_mem_cons.mpr ⟨lw_p96, List.forall_mem_cons.mpr ⟨lw_p97, List.forall_mem_cons.mpr ⟨lw_p98, List.forall_mem_cons.mpr ⟨lw_p99, List.forall_mem_cons.mpr ⟨lw_p100, List.forall_mem_cons.mpr ⟨lw_p101, List.forall_mem_cons.mpr ⟨lw_p102, List.forall_mem_cons.mpr ⟨lw_p103, List.forall_mem_cons.mpr ⟨lw_p104, List.forall_mem_cons.mpr ⟨lw_p105, List.forall_mem_cons.mpr ⟨lw_p106, List.forall_mem_cons.mpr ⟨lw_p107, List.forall_mem_cons.mpr ⟨lw_p108, List.forall_mem_cons.mpr ⟨lw_p109, List.forall_mem_cons.mpr ⟨lw_p110, List.forall_mem_cons.mpr ⟨lw_p111, fun _ h => absurd h List.not_mem_nil⟩⟩⟩⟩⟩⟩⟩⟩⟩⟩⟩⟩⟩⟩⟩⟩
theorem lw_p112 : lw_okq (⟨"PointsToModel", "leave", "(II)V"⟩, 58) := ⟨⟨by decide +kernel, by decide +kernel⟩, List.mem_of_getElem? (i := 1010) (by decide +kernel), List.mem_of_getElem? (i := 1507) (by decide +kernel), List.mem_of_getElem? (i := 1508) (by decide +kernel)⟩
theorem lw_p113 : lw_okq (⟨"PointsToModel", "get", "(I)I"⟩, 58) := ⟨⟨by decide +kernel, by decide +kernel⟩, List.mem_of_getElem? (i := 1010) (by decide +kernel), List.mem_of_getElem? (i := 1511) (by decide +kernel), List.mem_of_getElem? (i := 1512) (by decide +kernel)⟩
theorem lw_p114 : lw_okq (⟨"PointsToModel", "runCall", "(I)V"⟩, 58) := ⟨⟨by decide +kernel, by decide +kernel⟩, List.mem_of_getElem? (i := 1010) (by decide +kernel), List.mem_of_getElem? (i := 1515) (by decide +kernel), List.mem_of_getElem? (i := 1516) (by decide +kernel)⟩
theorem lw_p115 : lw_okq (⟨"PointsToModel", "classOf", "(I)I"⟩, 58) := ⟨⟨by decide +kernel, by decide +kernel⟩, List.mem_of_getElem? (i := 1010) (by decide +kernel), List.mem_of_getElem? (i := 1519) (by decide +kernel), List.mem_of_getElem? (i := 1520) (by decide +kernel)⟩
theorem lw_p116 : lw_okq (⟨"PointsToModel", "runPlain", "(I)V"⟩, 58) := ⟨⟨by decide +kernel, by decide +kernel⟩, List.mem_of_getElem? (i := 1010) (by decide +kernel), List.mem_of_getElem? (i := 1523) (by decide +kernel), List.mem_of_getElem? (i := 1524) (by decide +kernel)⟩
theorem lw_p117 : lw_okq (⟨"PointsToModel", "runField", "(I)V"⟩, 58) := ⟨⟨by decide +kernel, by decide +kernel⟩, List.mem_of_getElem? (i := 1010) (by decide +kernel), List.mem_of_getElem? (i := 1527) (by decide +kernel), List.mem_of_getElem? (i := 1528) (by decide +kernel)⟩
def lw_privs_8 : List (MethodName × Nat) := [(⟨"PointsToModel", "leave", "(II)V"⟩, 58), (⟨"PointsToModel", "get", "(I)I"⟩, 58), (⟨"PointsToModel", "runCall", "(I)V"⟩, 58), (⟨"PointsToModel", "classOf", "(I)I"⟩, 58), (⟨"PointsToModel", "runPlain", "(I)V"⟩, 58), (⟨"PointsToModel", "runField", "(I)V"⟩, 58)]
theorem lw_r8 : ∀ q ∈ lw_privs_8, lw_okq q := List.forall_mem_cons.mpr ⟨lw_p112, List.forall_mem_cons.mpr ⟨lw_p113, List.forall_mem_cons.mpr ⟨lw_p114, List.forall_mem_cons.mpr ⟨lw_p115, List.forall_mem_cons.mpr ⟨lw_p116, List.forall_mem_cons.mpr ⟨lw_p117, fun _ h => absurd h List.not_mem_nil⟩⟩⟩⟩⟩⟩
def lw_privs : List (MethodName × Nat) := lw_privs_1 ++ (lw_privs_2 ++ (lw_privs_3 ++ (lw_privs_4 ++ (lw_privs_5 ++ (lw_privs_6 ++ (lw_privs_7 ++ (lw_privs_8)))))))
def lw_tbl : List Cond := k2_sels lw_privs ++ tables_1
theorem lw_privs_ok : ∀ q ∈ lw_privs, lw_okq q := by
  show ∀ q ∈ lw_privs_1 ++ (lw_privs_2 ++ (lw_privs_3 ++ (lw_privs_4 ++ (lw_privs_5 ++ (lw_privs_6 ++ (lw_privs_7 ++ (lw_privs_8))))))), lw_okq q
  exact List.forall_mem_append.mpr ⟨lw_r1, List.forall_mem_append.mpr ⟨lw_r2, List.forall_mem_append.mpr ⟨lw_r3, List.forall_mem_append.mpr ⟨lw_r4, List.forall_mem_append.mpr ⟨lw_r5, List.forall_mem_append.mpr ⟨lw_r6, List.forall_mem_append.mpr ⟨lw_r7, lw_r8⟩⟩⟩⟩⟩⟩⟩
end
section
/-! THE PURE MACHINE: a small interpreter over the program's own bytecode, its instructions linked ahead ("normal" ones). Its heap is a list of cells; an address is a place in it. The real machine's heap holds the same cells from a base on. -/
/-- a cell: an array (code of its type, length, contents), or an object (number of its class, fields) -/
abbrev xC : Type := (Nat × vp_A) ⊕ (Nat × List Value)
abbrev xH : Type := List xC
abbrev xL : Type := List (Option Value)
/-- a linked instruction: the instruction with its operand linked, its length, two numbers more -/
abbrev xI : Type := Instr × Nat × Nat × Nat
/-- an end: returned, or threw an exception of that class number at that place -/
abbrev xO : Type := Option Value ⊕ (Nat × Nat)
/-- what a step does: it goes on; it ends; it calls (method, arguments, where it goes on, the operands below) -/
abbrev xG : Type := (Nat × xL × List Value × xH) ⊕ ((xO × xH) ⊕ (Nat × List Value × Nat × List Value))
def xgo (pc : Nat) (ls : xL) (st : List Value) (h : xH) : Option xG := some (.inl (pc, ls, st, h))
def xend (r : xO) (h : xH) : Option xG := some (.inr (.inl (r, h)))
/-- the value fits a place of the type with this code: 0 int, 1 boolean, 2 byte, 3 char, 4 short, 5 long, 6 a reference -/
def xfit (t : Nat) (v : Value) : Bool := match v with
  | .int x => t == 0 || (t == 1 && (x == 0 || x == 1)) || (t == 2 && (decide (narrow .byte (.int x) = .int x) && fits .byte (.int x))) || (t == 3 && (decide (narrow .char (.int x) = .int x) && fits .char (.int x)))
  | .long _ => t == 5
  | .null => t == 6
  | .ref _ => t == 6
  | _ => false
/-- is it a reference (the script, a text too; not null)? -/
def xref (v : Value) : Bool := match v with
  | .ref _ => true
  | .retAddr _ => true
  | _ => false
/-- a store into a local of one word -/
def xset (ls : xL) (i : Nat) (v : Value) : Option xL :=
  if i < ls.length then
    match (if i = 0 then none else ls[i - 1]?) with
    | some (some (.long _)) => none
    | some (some (.double _)) => none
    | _ => some (ls.set i (some v))
  else none
/-- the locals at a method's entry -/
def xfl (as : List Value) : xL := as.flatMap (fun v : Value => if v.category = 2 then [some v, none] else [some v])
def xent (as : List Value) (n : Nat) : xL := xfl as ++ List.replicate (n - (xfl as).length) none
def xcmp (c : ClassFile.Cond) (x y : Int32) : Bool := match c with
  | .eq => decide (x = y)
  | .ne => decide (¬ x = y)
  | .lt => decide (x < y)
  | .ge => decide (y ≤ x)
  | .gt => decide (y < x)
  | .le => decide (x ≤ y)
/-- is the index in the array? -/
def xin (i : Int32) (n : Nat) : Bool := decide (¬ (i < 0 ∨ n ≤ i.toNatClampNeg))
/-- the words that operands take -/
def xw (st : List Value) : Nat := (st.map fun v => v.category).sum
section XSTEP
variable (nf : Nat → List Value) (L : Nat) (xs : Nat → Int32) (lit : List (List Int32)) (mc : Nat → Option Nat)
/-- one instruction. nf: a new object's fields; L, xs: the script; lit: the texts, as bytes (the text i is .retAddr (2 * i + 1), its bytes .retAddr (2 * i + 2)); mc: the class whose object the method is called on, if it is not static -/
def xstep (o : xI) (pc : Nat) (ls : xL) (st : List Value) (h : xH) : Option xG := match o with
  | (.iconst v, n, _, _) => xgo (pc + n) ls (.int (Int32.ofInt v) :: st) h
  | (.goto_w v, n, _, _) => xgo (pc + n) ls (.long (Int64.ofInt v) :: st) h
  | (.ldc i, n, _, _) => if i < lit.length then xgo (pc + n) ls (.retAddr (2 * i + 1) :: st) h else none
  | (.getstatic k, n, _, _) => if k = 0 then xgo (pc + n) ls (.int 1 :: st) h else xgo (pc + n) ls (.float 0 :: st) h
  | (.saload, n, _, _) => match st with
    | .retAddr (j + 1) :: st => if j % 2 = 0 ∧ j / 2 < lit.length then xgo (pc + n) ls (.retAddr (j + 2) :: st) h else none
    | _ => none
  | (.sastore, n, _, _) => match st with
    | .retAddr (j + 1) :: st => if j % 2 = 0 ∧ j / 2 < lit.length then xgo (pc + n) ls (.int 0 :: st) h else none
    | _ => none
  | (.baload, n, _, _) => match st with
    | .int i :: .retAddr (j + 1) :: st => if j % 2 = 1 ∧ j / 2 < lit.length ∧ xin i (lit.getD (j / 2) []).length = true then xgo (pc + n) ls (.int ((lit.getD (j / 2) []).getD i.toNatClampNeg 0) :: st) h else none
    | _ => none
  | (.iload i, n, _, _) => match ls[i]? with
    | some (some (.int x)) => xgo (pc + n) ls (.int x :: st) h
    | _ => none
  | (.lload i, n, _, _) => match ls[i]? with
    | some (some (.long x)) => xgo (pc + n) ls (.long x :: st) h
    | _ => none
  | (.aload i, n, _, _) => match ls[i]? with
    | some (some v) => if xref v = true then xgo (pc + n) ls (v :: st) h else none
    | _ => none
  | (.istore i, n, _, _) => match st with
    | .int x :: st => match xset ls i (.int x) with
      | some ls' => xgo (pc + n) ls' st h
      | none => none
    | _ => none
  | (.astore i, n, _, _) => match st with
    | v :: st => if xref v = true then (match xset ls i v with
      | some ls' => xgo (pc + n) ls' st h
      | none => none) else none
    | _ => none
  | (.iinc i k, n, _, _) => match ls[i]? with
    | some (some (.int x)) => match xset ls i (.int (x + Int32.ofInt k)) with
      | some ls' => xgo (pc + n) ls' st h
      | none => none
    | _ => none
  | (.iadd, n, _, _) => match st with
    | .int y :: .int x :: st => xgo (pc + n) ls (.int (x + y) :: st) h
    | _ => none
  | (.isub, n, _, _) => match st with
    | .int y :: .int x :: st => xgo (pc + n) ls (.int (x - y) :: st) h
    | _ => none
  | (.imul, n, _, _) => match st with
    | .int y :: .int x :: st => xgo (pc + n) ls (.int (x * y) :: st) h
    | _ => none
  | (.idiv, n, _, _) => match st with
    | .int y :: .int x :: st => if y = 0 then none else xgo (pc + n) ls (.int (x / y) :: st) h
    | _ => none
  | (.irem, n, _, _) => match st with
    | .int y :: .int x :: st => if y = 0 then none else xgo (pc + n) ls (.int (x - x / y * y) :: st) h
    | _ => none
  | (.iand, n, _, _) => match st with
    | .int y :: .int x :: st => xgo (pc + n) ls (.int (x &&& y) :: st) h
    | _ => none
  | (.ior, n, _, _) => match st with
    | .int y :: .int x :: st => xgo (pc + n) ls (.int (x ||| y) :: st) h
    | _ => none
  | (.ishl, n, _, _) => match st with
    | .int y :: .int x :: st => xgo (pc + n) ls (.int (x <<< (y &&& 31)) :: st) h
    | _ => none
  | (.ishr, n, _, _) => match st with
    | .int y :: .int x :: st => xgo (pc + n) ls (.int (x >>> (y &&& 31)) :: st) h
    | _ => none
  | (.ineg, n, _, _) => match st with
    | .int x :: st => xgo (pc + n) ls (.int (-x) :: st) h
    | _ => none
  | (.land, n, _, _) => match st with
    | .long y :: .long x :: st => xgo (pc + n) ls (.long (x &&& y) :: st) h
    | _ => none
  | (.lor, n, _, _) => match st with
    | .long y :: .long x :: st => xgo (pc + n) ls (.long (x ||| y) :: st) h
    | _ => none
  | (.lushr, n, _, _) => match st with
    | .int y :: .long x :: st => xgo (pc + n) ls (.long (x.toUInt64 >>> (y.toInt64.toUInt64 &&& Int64.toUInt64 63)).toInt64 :: st) h
    | _ => none
  | (.lshl, n, _, _) => match st with
    | .int y :: .long x :: st => xgo (pc + n) ls (.long (x <<< (y.toInt64 &&& 63)) :: st) h
    | _ => none
  | (.lshr, n, _, _) => match st with
    | .int y :: .long x :: st => xgo (pc + n) ls (.long (x >>> (y.toInt64 &&& 63)) :: st) h
    | _ => none
  | (.lcmp, n, _, _) => match st with
    | .long y :: .long x :: st => xgo (pc + n) ls (.int (lg_cmp x y) :: st) h
    | _ => none
  | (.i2l, n, _, _) => match st with
    | .int x :: st => xgo (pc + n) ls (.long x.toInt64 :: st) h
    | _ => none
  | (.l2i, n, _, _) => match st with
    | .long x :: st => xgo (pc + n) ls (.int x.toInt32 :: st) h
    | _ => none
  | (.i2c, n, _, _) => match st with
    | .int x :: st => xgo (pc + n) ls (.int (x.toUInt32 % 65536).toInt32 :: st) h
    | _ => none
  | (.dup, n, _, _) => match st with
    | v :: st => if v.category = 1 then xgo (pc + n) ls (v :: v :: st) h else none
    | _ => none
  | (.dup_x1, n, _, _) => match st with
    | v :: w :: st => if v.category = 1 ∧ w.category = 1 then xgo (pc + n) ls (v :: w :: v :: st) h else none
    | _ => none
  | (.dup2, n, _, _) => match st with
    | v :: w :: st => if v.category = 1 ∧ w.category = 1 then xgo (pc + n) ls (v :: w :: v :: w :: st) h else none
    | _ => none
  | (.pop, n, _, _) => match st with
    | v :: st => if v.category = 1 then xgo (pc + n) ls st h else none
    | _ => none
  | (.goto t, _, _, _) => xgo t.toNat ls st h
  | (.ifCond c t, n, _, _) => match st with
    | .int x :: st => if xcmp c x 0 = true then xgo t.toNat ls st h else xgo (pc + n) ls st h
    | _ => none
  | (.if_icmp c t, n, _, _) => match st with
    | .int y :: .int x :: st => if xcmp c x y = true then xgo t.toNat ls st h else xgo (pc + n) ls st h
    | _ => none
  | (.tableswitch d lo hi offs, _, _, _) => match st with
    | .int x :: st => if x.toInt < lo ∨ hi < x.toInt then xgo ((pc : Int) + d).toNat ls st h else (match offs[(x.toInt - lo).toNat]? with
      | some o => xgo ((pc : Int) + o).toNat ls st h
      | none => none)
    | _ => none
  | (.lookupswitch d ps, _, _, _) => match st with
    | .int x :: st => xgo ((pc : Int) + Op.lookupswitch.offset ps.toList d x.toInt).toNat ls st h
    | _ => none
  | (.getfield k, n, ci, _) => match st with
    | .ref a :: st => match h[a]? with
      | some (.inr (c, fs)) => if c = ci then (match fs[k]? with
        | some v => xgo (pc + n) ls (v :: st) h
        | none => none) else none
      | _ => none
    | _ => none
  | (.putfield k, n, ci, t) => match st with
    | v :: .ref a :: st => match h[a]? with
      | some (.inr (c, fs)) => if c = ci ∧ k < fs.length ∧ xfit t v = true then xgo (pc + n) ls st (h.set a (.inr (c, fs.set k v))) else none
      | _ => none
    | _ => none
  | (.iaload, n, t, _) => match st with
    | .int i :: .ref a :: st => match h[a]? with
      | some (.inl (t', m, .inl f)) => if t' = t ∧ xin i m = true then xgo (pc + n) ls (.int (f i.toNatClampNeg) :: st) h else none
      | _ => none
    | .int i :: .retAddr 0 :: st => if t = 0 ∧ xin i L = true then xgo (pc + n) ls (.int (xs i.toNatClampNeg) :: st) h else none
    | _ => none
  | (.iastore, n, t, _) => match st with
    | .int x :: .int i :: .ref a :: st => match h[a]? with
      | some (.inl (t', m, .inl f)) => if t' = t ∧ xin i m = true then xgo (pc + n) ls st (h.set a (.inl (t', m, .inl (upd f i.toNatClampNeg (if t = 3 then vp_nar .char x else if t = 1 then vp_nar .boolean x else if t = 2 then vp_nar .byte x else x))))) else none
      | _ => none
    | _ => none
  | (.laload, n, _, _) => match st with
    | .int i :: .ref a :: st => match h[a]? with
      | some (.inl (t', m, .inr (.inl f))) => if t' = 5 ∧ xin i m = true then xgo (pc + n) ls (.long (f i.toNatClampNeg) :: st) h else none
      | _ => none
    | _ => none
  | (.lastore, n, _, _) => match st with
    | .long x :: .int i :: .ref a :: st => match h[a]? with
      | some (.inl (t', m, .inr (.inl f))) => if t' = 5 ∧ xin i m = true then xgo (pc + n) ls st (h.set a (.inl (t', m, .inr (.inl (vp_updL f i.toNatClampNeg x))))) else none
      | _ => none
    | _ => none
  | (.aaload, n, _, _) => match st with
    | .int i :: .ref a :: st => match h[a]? with
      | some (.inl (t', m, .inr (.inr (.inr (.inr f))))) => if 6 ≤ t' ∧ t' < 12 ∧ xin i m = true then xgo (pc + n) ls (va_rf (f i.toNatClampNeg) :: st) h else none
      | _ => none
    | _ => none
  | (.aastore, n, t, ci) => match st with
    | .ref v :: .int i :: .ref a :: st => match h[a]?, h[v]? with
      | some (.inl (t', m, .inr (.inr (.inr (.inr f))))), some (.inr (c, _)) => if t' = t ∧ 6 ≤ t ∧ t < 12 ∧ c = ci ∧ xin i m = true then xgo (pc + n) ls st (h.set a (.inl (t', m, .inr (.inr (.inr (.inr (va_up f i.toNatClampNeg (some v)))))))) else none
      | _, _ => none
    | _ => none
  | (.arraylength, n, _, _) => match st with
    | .ref a :: st => match h[a]? with
      | some (.inl (_, m, _)) => xgo (pc + n) ls (.int (Int32.ofNat m) :: st) h
      | _ => none
    | .retAddr 0 :: st => xgo (pc + n) ls (.int (Int32.ofNat L) :: st) h
    | .retAddr (j + 1) :: st => if j % 2 = 1 ∧ j / 2 < lit.length then xgo (pc + n) ls (.int (Int32.ofNat (lit.getD (j / 2) []).length) :: st) h else none
    | _ => none
  | (.new ci, n, _, _) => xgo (pc + n) ls (.ref h.length :: st) (h ++ [.inr (ci, nf ci)])
  | (.newarray _, n, t, _) => match st with
    | .int k :: st => if k < 0 ∨ 100000 < k.toNatClampNeg then none else
      if t = 5 then xgo (pc + n) ls (.ref h.length :: st) (h ++ [.inl (t, k.toNatClampNeg, .inr (.inl (fun _ => 0)))])
      else if t < 4 then xgo (pc + n) ls (.ref h.length :: st) (h ++ [.inl (t, k.toNatClampNeg, .inl (fun _ => 0))]) else none
    | _ => none
  | (.anewarray t, n, _, _) => match st with
    | .int k :: st => if k < 0 ∨ 100000 < k.toNatClampNeg then none else xgo (pc + n) ls (.ref h.length :: st) (h ++ [.inl (t, k.toNatClampNeg, .inr (.inr (.inr (.inr (fun _ => none)))))])
    | _ => none
  | (.multianewarray t t', n, _, _) => match st with
    | .int k' :: .int k :: st => if k < 0 ∨ 1000 < k.toNatClampNeg ∨ k' < 0 ∨ 1000 < k'.toNatClampNeg then none else
      xgo (pc + n) ls (.ref h.length :: st) (h ++ (.inl (t, k.toNatClampNeg, .inr (.inr (.inr (.inr (fun i => if i < k.toNatClampNeg then some (h.length + 1 + i) else none))))) :: List.replicate k.toNatClampNeg (.inl (t', k'.toNatClampNeg, .inl (fun _ => 0)))))
    | _ => none
  | (.invokespecial _, n, _, _) => match st with
    | .ref _ :: st => if xw st ≤ 8 then xgo (pc + n) ls st h else none
    | _ => none
  | (.invokeinterface j _, n, k, _) => if k ≤ st.length ∧ xw (st.drop k) ≤ 8 then (match mc j with
      | none => some (.inr (.inr (j, (st.take k).reverse, pc + n, st.drop k)))
      | some ci => match (st.take k).reverse with
        | .ref a :: as => match h[a]? with
          | some (.inr (c, _)) => if c = ci then some (.inr (.inr (j, .ref a :: as, pc + n, st.drop k))) else none
          | _ => none
        | .retAddr (q + 1) :: as => if ci = 1000 ∧ q % 2 = 0 ∧ q / 2 < lit.length then some (.inr (.inr (j, .retAddr (q + 1) :: as, pc + n, st.drop k))) else none
        | _ => none) else none
  | (.athrow, _, e, _) => if xw st ≤ 8 then xend (.inr (e, h.length)) (h ++ [.inr (e, List.replicate 6 .null)]) else none
  | (.ireturn, _, t, _) => match st with
    | [.int x] => if xfit t (.int x) = true then xend (.inl (some (.int x))) h else none
    | _ => none
  | (.areturn, _, _, _) => match st with
    | [v] => if xref v = true then xend (.inl (some v)) h else none
    | _ => none
  | (.return_, _, _, _) => match st with
    | [] => xend (.inl none) h
    | _ => none
  | _ => none
end XSTEP
/-- a run: P the linked code; mx the locals of a method; hd where a method goes on when a call at that place throws an exception of that class (some none: no handler covers the place); d frames may be laid more -/
def xrun (stp : xI → Nat → xL → List Value → xH → Option xG) (P : Nat → Nat → Option xI) (mx : Nat → Nat) (hd : Nat → Nat → Nat → Option (Option Nat)) : Nat → Nat → Nat → Nat → xL → List Value → xH → Option (xO × xH)
  | 0, _, _, _, _, _, _ => none
  | n + 1, d, i, pc, ls, st, h => match P i pc with
    | none => none
    | some o => match stp o pc ls st h with
      | none => none
      | some (.inl (pc', ls', st', h')) => xrun stp P mx hd n d i pc' ls' st' h'
      | some (.inr (.inl r)) => some r
      | some (.inr (.inr (j, as, pc', st'))) => match d with
        | 0 => none
        | d + 1 => if (xent as (mx j)).length = mx j then (match xrun stp P mx hd n d j 0 (xent as (mx j)) [] h with
          | none => none
          | some (.inl v, h') => xrun stp P mx hd n (d + 1) i pc' ls (v.toList ++ st') h'
          | some (.inr (k, a), h') => match hd i pc k with
            | some (some q) => xrun stp P mx hd n (d + 1) i q ls [.ref a] h'
            | some none => some (.inr (k, a), h')
            | none => none) else none
end
section
/-! THE REAL MACHINE'S HEAP AND THE PURE MACHINE'S: the cell k lies at base + k -/
/-- a pure value in the real machine: b: the script; ta: the texts, and one reference or null that is only handed on -/
def xv (b base : Nat) (ta : (Nat → Nat) × Option Nat) (v : Value) : Value := match v with
  | .ref k => .ref (base + k)
  | .retAddr 0 => .ref b
  | .retAddr (k + 1) => .ref (ta.1 k)
  | .float _ => va_rf ta.2
  | v => v
theorem xv_cat1 (b base : Nat) (ta : (Nat → Nat) × Option Nat) {v : Value} (h : v.category = 1) : (xv b base ta v).category = 1 := by
  cases v with
  | retAddr k => cases k <;> rfl
  | float x => show (va_rf ta.2).category = 1; cases ta.2 <;> rfl
  | long x => cases h
  | double x => cases h
  | _ => rfl
theorem xv_cat' (b base : Nat) (ta : (Nat → Nat) × Option Nat) (v : Value) : (xv b base ta v).category = v.category := by
  cases v with
  | retAddr k => cases k <;> rfl
  | float x => show (va_rf ta.2).category = 1; cases ta.2 <;> rfl
  | _ => rfl
theorem xv_ref {b base : Nat} {ta : (Nat → Nat) × Option Nat} {v : Value} (h : xref v = true) : ∃ a, xv b base ta v = .ref a := by
  cases v with
  | ref k => exact ⟨_, rfl⟩
  | retAddr k => cases k <;> exact ⟨_, rfl⟩
  | _ => cases h
/-- a pure cell in the real machine: dA: the class of arrays of a type's code -/
def xtr (b base : Nat) (ta : (Nat → Nat) × Option Nat) (dA : Nat → ClassId) (c : xC) : va_E := match c with
  | .inl (t, n, .inr (.inr (.inr (.inr f)))) => .inl (dA t, n, .inr (.inr (.inr (.inr (fun i => (f i).map (base + ·))))))
  | .inl (t, n, f) => .inl (dA t, n, f)
  | .inr (ci, fs) => .inr (ci, fs.map (xv b base ta))
def xws (b base : Nat) (ta : (Nat → Nat) × Option Nat) (dA : Nat → ClassId) (h : xH) : va_W := h.mapIdx (fun k c => (base + k, xtr b base ta dA c))
section XW
variable {b base : Nat} {ta : (Nat → Nat) × Option Nat} {dA : Nat → ClassId}
theorem xws_len (h : xH) : (xws b base ta dA h).length = h.length := by simp [xws]
theorem xws_at (h : xH) (k : Nat) : (xws b base ta dA h)[k]? = (h[k]?).map (fun c => (base + k, xtr b base ta dA c)) := by simp [xws]
theorem xws_get {h : xH} {k : Nat} {c : xC} (hk : h[k]? = some c) : (xws b base ta dA h)[k]? = some (base + k, xtr b base ta dA c) := by rw [xws_at, hk]; rfl
theorem xws_inv {h : xH} {k : Nat} {q : Nat × va_E} (hk : (xws b base ta dA h)[k]? = some q) : ∃ c, h[k]? = some c ∧ q = (base + k, xtr b base ta dA c) := by
  rw [xws_at] at hk
  cases hc : h[k]? with
  | none => rw [hc] at hk; cases hk
  | some c => rw [hc] at hk; exact ⟨c, rfl, (Option.some.inj hk).symm⟩
theorem xws_set (h : xH) (k : Nat) (c : xC) : xws b base ta dA (h.set k c) = (xws b base ta dA h).set k (base + k, xtr b base ta dA c) := by
  apply List.ext_getElem?
  intro j
  rw [xws_at, List.getElem?_set, List.getElem?_set, xws_len, xws_at]
  by_cases hj : k = j
  · subst hj
    by_cases hl : k < h.length <;> simp [hl]
  · simp [hj]
theorem xws_app (h : xH) (c : xC) : xws b base ta dA (h ++ [c]) = xws b base ta dA h ++ [(base + h.length, xtr b base ta dA c)] := by
  simp [xws, List.mapIdx_append]
theorem xws_D (h : xH) : va_D (fun q => base ≤ q) (xws b base ta dA h) := by
  refine ⟨fun i j p q hi hj e => ?_, fun k q hk => ?_⟩
  · obtain ⟨_, -, rfl⟩ := xws_inv hi
    obtain ⟨_, -, rfl⟩ := xws_inv hj
    have : base + i = base + j := e
    omega
  · obtain ⟨_, -, rfl⟩ := xws_inv hk
    exact Nat.le_add_right _ _
end XW
/-- the locals -/
def xls (b base : Nat) (ta : (Nat → Nat) × Option Nat) (ls : xL) (rl : Array Slot) : Prop := rl.size = ls.length ∧ lv_wf rl ∧ ∀ (i : Nat) (v : Value), ls[i]? = some (some v) → rl[i]? = some (.val (xv b base ta v))
/-- the listed pairs of the locals -/
def xlp (b base : Nat) (ta : (Nat → Nat) × Option Nat) (ls : xL) : List (Nat × Value) := (List.range ls.length).filterMap (fun i => match ls[i]? with
  | some (some v) => some (i, xv b base ta v)
  | _ => none)
theorem xlp_mem {b base : Nat} {ta : (Nat → Nat) × Option Nat} {ls : xL} {q : Nat × Value} : q ∈ xlp b base ta ls ↔ ∃ v, ls[q.1]? = some (some v) ∧ q.2 = xv b base ta v := by
  unfold xlp
  rw [List.mem_filterMap]
  constructor
  · rintro ⟨i, -, h⟩
    split at h
    · rename_i v hv
      cases h
      exact ⟨v, hv, rfl⟩
    · cases h
  · rintro ⟨v, hv, h⟩
    refine ⟨q.1, List.mem_range.mpr (List.getElem?_eq_some_iff.mp hv).1, ?_⟩
    rw [hv]
    show some (q.1, xv b base ta v) = some q
    rw [← h]
theorem xls_has {b base : Nat} {ta : (Nat → Nat) × Option Nat} {ls : xL} {rl : Array Slot} (h : xls b base ta ls rl) : lv_has rl ls.length (xlp b base ta ls) :=
  ⟨h.1, h.2.1, fun q hq => by
    obtain ⟨v, h1, h2⟩ := xlp_mem.mp hq
    rw [h2]
    exact h.2.2 _ _ h1⟩
theorem xset_spec {ls ls' : xL} {i : Nat} {v : Value} (h : xset ls i v = some ls') : i < ls.length ∧ ls' = ls.set i (some v) ∧ ∀ (j : Nat) (w : Value), j + 1 = i → ls[j]? = some (some w) → ¬ w.category = 2 := by
  unfold xset at h
  by_cases hi : i < ls.length
  · rw [if_pos hi] at h
    split at h
    · cases h
    · cases h
    · rename_i h1 h2
      cases h
      refine ⟨hi, rfl, fun j w hj hw => ?_⟩
      subst hj
      have e : (if j + 1 = 0 then none else ls[j + 1 - 1]?) = some (some w) := by
        rw [if_neg (Nat.succ_ne_zero j), Nat.add_sub_cancel]; exact hw
      cases w with
      | long x => exact absurd e (h1 x)
      | double x => exact absurd e (h2 x)
      | _ => intro q; cases q
  · rw [if_neg hi] at h
    cases h
/-- behind a store of one word -/
theorem xls_put {b base : Nat} {ta : (Nat → Nat) × Option Nat} {ls ls' : xL} {i : Nat} {v : Value} {rl : Array Slot} (hs : xset ls i v = some ls') (h : lv_has rl ls.length ((i, xv b base ta v) :: (xlp b base ta ls).filter (fun q => !(q.1 == i) && !(q.1 + 1 == i && q.2.category == 2)))) : xls b base ta ls' rl := by
  obtain ⟨hi, rfl, hj⟩ := xset_spec hs
  refine ⟨by rw [h.1, List.length_set], h.2.1, fun k w hk => ?_⟩
  rw [List.getElem?_set] at hk
  by_cases e : i = k
  · subst e
    rw [if_pos rfl, if_pos hi] at hk
    cases hk
    exact h.2.2 (i, xv b base ta v) List.mem_cons_self
  · rw [if_neg e] at hk
    refine h.2.2 (k, xv b base ta w) (List.mem_cons_of_mem _ (List.mem_filter.mpr ⟨xlp_mem.mpr ⟨w, hk, rfl⟩, ?_⟩))
    have e1 : (k == i) = false := by simp; exact fun q => e q.symm
    have e2 : (k + 1 == i && (xv b base ta w).category == 2) = false := by
      by_cases q : k + 1 = i
      · have := hj k w q hk
        rw [xv_cat']
        simp [this]
      · simp [q]
    simp only [e1, e2, Bool.not_false, Bool.and_self]
end
section
/-! ONE INSTRUCTION: what the pure machine does, the real one does -/
/-- the slots that a cell takes; that a heap's cells take -/
def xcz (c : xC) : Nat := match c with
  | .inl (_, n, _) => n
  | .inr (_, fs) => fs.length
def xsz (h : xH) : Nat := (h.map xcz).sum
theorem xsz_app (h : xH) (c : xC) : xsz (h ++ [c]) = xsz h + xcz c := by simp [xsz]
theorem xsz_set {h : xH} {k : Nat} {c c' : xC} (hk : h[k]? = some c) (e : xcz c' = xcz c) : xsz (h.set k c') = xsz h := by
  unfold xsz
  rw [List.map_set, e]
  congr 1
  apply List.ext_getElem?
  intro j
  rw [List.getElem?_set]
  by_cases hj : k = j
  · subst hj
    have hl : k < h.length := (List.getElem?_eq_some_iff.mp hk).1
    have hg : h[k] = c := (List.getElem?_eq_some_iff.mp hk).2
    simp [hl, hg]
  · simp [hj]
/-- the linked instruction o stands for the instruction raw at pc in a method of the class own: Ts: the tables' words; cl: the classes -/
def xok (Ts : List Cond) (cl : List vw_C) (own : String) (tf : Nat → Nat → Nat) (nf : Nat → List Value) (ty : Nat → FieldType) (ldcs : List (String × Nat × String × Nat)) (ini : Bool) (pc : Nat) (raw : Instr) (o : xI) : Prop := match o with
  | (.iconst v, n, _, _) => (raw = .iconst v ∧ n = 1) ∨ (raw = .bipush v ∧ n = 2 ∧ (Int8.ofInt v).toInt32 = Int32.ofInt v) ∨ (raw = .sipush v ∧ n = 3 ∧ (Int16.ofInt v).toInt32 = Int32.ofInt v)
  | (.goto_w v, n, k, _) => raw = .ldc2_w k ∧ n = 3 ∧ Cond.constantLong own k (Int64.ofInt v) ∈ Ts
  | (.ldc i, n, ix, _) => raw = .ldc ix ∧ n = 2 ∧ ∃ q ∈ ldcs, q.1 = own ∧ q.2.1 = ix ∧ q.2.2.2 = i
  | (.getstatic k, n, ix, _) => raw = .getstatic ix ∧ n = 3 ∧ ((k = 0 ∧ Cond.fieldLink own ix "java/lang/String" "COMPACT_STRINGS" "Z" ∈ Ts) ∨ (k = 1 ∧ Cond.fieldLink own ix "jdk/internal/util/Preconditions" "SIOOBE_FORMATTER" "Ljava/util/function/BiFunction;" ∈ Ts))
  | (.saload, n, ix, _) => raw = .getfield ix ∧ n = 3 ∧ Cond.fieldLink own ix "java/lang/String" "value" "[B" ∈ Ts
  | (.sastore, n, ix, _) => raw = .getfield ix ∧ n = 3 ∧ Cond.fieldLink own ix "java/lang/String" "coder" "B" ∈ Ts
  | (.iload i, n, _, _) => (raw = .iload i ∧ n = 2) ∨ (n = 1 ∧ ∃ k : Fin 4, raw = .iload_n k ∧ (k : Nat) = i)
  | (.lload i, n, _, _) => (raw = .lload i ∧ n = 2) ∨ (n = 1 ∧ ∃ k : Fin 4, raw = .lload_n k ∧ (k : Nat) = i)
  | (.aload i, n, _, _) => (raw = .aload i ∧ n = 2) ∨ (n = 1 ∧ ∃ k : Fin 4, raw = .aload_n k ∧ (k : Nat) = i)
  | (.istore i, n, _, _) => (raw = .istore i ∧ n = 2) ∨ (n = 1 ∧ ∃ k : Fin 4, raw = .istore_n k ∧ (k : Nat) = i)
  | (.astore i, n, _, _) => (raw = .astore i ∧ n = 2) ∨ (n = 1 ∧ ∃ k : Fin 4, raw = .astore_n k ∧ (k : Nat) = i)
  | (.iinc i k, n, _, _) => raw = .iinc i k ∧ n = 3
  | (.goto t, n, _, _) => raw = .goto (t - pc) ∧ n = 3 ∧ 0 ≤ t
  | (.ifCond cd t, n, _, _) => raw = .ifCond cd (t - pc) ∧ n = 3 ∧ 0 ≤ t
  | (.if_icmp cd t, n, _, _) => raw = .if_icmp cd (t - pc) ∧ n = 3 ∧ 0 ≤ t
  | (.tableswitch d lo hi offs, n, _, _) => raw = .tableswitch d lo hi offs ∧ 0 ≤ (pc : Int) + d ∧ ∀ q ∈ offs.toList, 0 ≤ (pc : Int) + q
  | (.lookupswitch d ps, n, _, _) => raw = .lookupswitch d ps ∧ (ps.toList.zip (ps.toList.drop 1)).all (fun (a, next) => a.1 < next.1) = true ∧ 0 ≤ (pc : Int) + d ∧ ∀ q ∈ ps.toList, 0 ≤ (pc : Int) + q.2
  | (.getfield k, n, ci, ix) => raw = .getfield ix ∧ n = 3 ∧ ∃ r ∈ (cl[ci]?).toList, k < r.2.2 ∧ Cond.fieldLink own ix (r.2.1 k).1 (r.2.1 k).2.1 (r.2.1 k).2.2.1 ∈ Ts
  | (.putfield k, n, ci, t) => n = 3 ∧ t = tf ci k ∧ ∃ ix ∈ (match raw with | .putfield ix => [ix] | _ => []), ∃ r ∈ (cl[ci]?).toList, k < r.2.2 ∧ Cond.fieldLink own ix (r.2.1 k).1 (r.2.1 k).2.1 (r.2.1 k).2.2.1 ∈ Ts ∧ ((r.2.1 k).2.2.2 = false ∨ ((r.2.1 k).2.2.2 = true ∧ ini = true ∧ (r.2.1 k).1 = own))
  | (.new ci, n, ix, _) => raw = .new ix ∧ n = 3 ∧ ∃ r ∈ (cl[ci]?).toList, Cond.classLink own ix r.1 ∈ Ts ∧ Cond.instantiable r.1 r.2.2 ∈ Ts ∧ Cond.initialized r.1 ∈ Ts ∧ (nf ci).length = r.2.2 ∧ (∀ j, j < r.2.2 → tf ci j ≠ 99) ∧ ∀ j, j < r.2.2 → (parseFieldDescriptor (r.2.1 j).2.2.1).map defaultValue = some ((nf ci).getD j .null)
  | (.newarray at_, n, t, _) => raw = .newarray at_ ∧ n = 2 ∧ t < 6 ∧ ty t = Op.newarray.typeOf at_ ∧ Cond.arrayClass (Op.newarray.typeOf at_) ∈ Ts
  | (.anewarray t, n, ix, _) => raw = .anewarray ix ∧ n = 3 ∧ (match ty t with | .object C => Cond.classLink own ix C ∈ Ts ∧ Cond.arrayOver (.object C) ∈ Ts | _ => False)
  | (.multianewarray t t', n, ix, _) => raw = .multianewarray ix 2 ∧ n = 4 ∧ t' = 0 ∧ ty t = .array .int ∧ Cond.classLink own ix ("[" ++ (FieldType.array .int).toString) ∈ Ts ∧ Cond.arrayOver (.array .int) ∈ Ts ∧ Cond.arrayClass .int ∈ Ts
  | (.iaload, n, t, _) => n = 1 ∧ ((t = 0 ∧ raw = .iaload) ∨ (t = 3 ∧ raw = .caload) ∨ (t = 1 ∧ raw = .baload) ∨ (t = 2 ∧ raw = .baload))
  | (.iastore, n, t, _) => n = 1 ∧ ((t = 0 ∧ raw = .iastore) ∨ (t = 3 ∧ raw = .castore) ∨ (t = 1 ∧ raw = .bastore) ∨ (t = 2 ∧ raw = .bastore))
  | (.aastore, n, t, ci) => raw = .aastore ∧ n = 1 ∧ (match cl[ci]? with | some r => ty t = .object r.1 | none => False)
  | (.invokespecial ix, n, _, _) => raw = .invokespecial ix ∧ n = 3 ∧ Cond.methodLink own ix Lib.objectInit ∈ Ts ∧ Cond.instanceMethod Lib.objectInit ∈ Ts ∧ Cond.code Lib.objectInit ⟨#[0xb1]⟩ 1 none ∈ Ts
  | (.invokeinterface _ _, n, _, _) => n = 3
  | (o, n, _, _) => raw = o ∧ n = 1
section XSTEPS
variable (p : Program) (l : Launch) (e : Env) (R : Room) (s : State) (m : MethodId) (args : Array Value) (below : List Frame) (meth : Method) (c : Code) (Q : State → Prop)
variable (b base : Nat) (ta : (Nat → Nat) × Option Nat) (dA : Nat → ClassId) (D : va_G) (cl : List vw_C) (n0 z0 : Nat)
/-- from here the real machine comes to Q; n0, z0: the cells and slots that were there at the method's entry -/
def XK (pc : Nat) (ls : xL) (st : List Value) (h : xH) : Prop := n0 ≤ h.length → z0 ≤ xsz h →
  ∀ (H : Heap) (locs : List Loc) (rl : Array Slot), xls b base ta ls rl → H.size = base + h.length → va_P D cl (xws b base ta dA h) H → va_S (fun q => base ≤ q) s.heap H locs →
    W p l e R s m args below meth c H locs (h.length - n0) (xsz h - z0) Q (F0 m pc rl (st.map (xv b base ta)))
end XSTEPS
section XROWS
variable {p : Program} {l : Launch} {e : Env} {R : Room} {s : State} {m : MethodId} {args : Array Value} {below : List Frame} {meth : Method} {c : Code} {Q : State → Prop}
variable {b base : Nat} {ta : (Nat → Nat) × Option Nat} {dA : Nat → ClassId} {D : va_G} {cl : List vw_C} {n0 z0 : Nat} {cc : ByteArray} {pc : Nat} {ls : xL} {st : List Value} {h : xH}
/-- where a jump goes -/
theorem xjump {pc : Nat} {t : Int} (h : 0 ≤ t) : (pc : Int) + (t - pc) = (t.toNat : Int) := by omega
/-- a store of one word into a local, whatever the instruction -/
theorem xs_store {p' : Nat} {i : Nat} {v : Value} {ls' : xL} (hs : xset ls i v = some ls') (K : XK p l e R s m args below meth c Q b base ta dA D cl n0 z0 p' ls' st h)
    (row : ∀ (H : Heap) (locs : List Loc) (cells slots : Nat) (rl : Array Slot), lv_has rl ls.length (xlp b base ta ls) → i < ls.length → (∀ ls1 : Array Slot, lv_has ls1 ls.length ((i, xv b base ta v) :: (xlp b base ta ls).filter (fun q => !(q.1 == i) && !(q.1 + 1 == i && q.2.category == 2))) → W p l e R s m args below meth c H locs cells slots Q (F0 m p' ls1 (st.map (xv b base ta)))) → W p l e R s m args below meth c H locs cells slots Q (F0 m pc rl (xv b base ta v :: st.map (xv b base ta)))) :
    XK p l e R s m args below meth c Q b base ta dA D cl n0 z0 pc ls (v :: st) h := fun hn hz H locs rl h1 h2 h3 h4 =>
  row H locs _ _ rl (xls_has h1) (xset_spec hs).1 (fun ls1 hl => K hn hz H locs ls1 (xls_put hs hl) h2 h3 h4)
end XROWS
end
section
/-! THE INSTRUCTIONS THAT LEAVE THE HEAP AS IT IS -/
/-- the code of a field's type -/
def xtc (t : FieldType) : Nat := match t with
  | .int => 0
  | .boolean => 1
  | .byte => 2
  | .char => 3
  | .short => 4
  | .long => 5
  | .object _ => 6
  | .array _ => 6
  | _ => 99
/-- what holds of a class: the words of its fields, their types, their names -/
def XC (Ts : List Cond) (tf : Nat → Nat → Nat) (ci : Nat) (r : vw_C) : Prop := (∀ w ∈ u_ws r.1 r.2.1 r.2.2, w ∈ Ts) ∧ (∃ ty0 : Nat → FieldType, ∀ k, k < r.2.2 → parseFieldDescriptor (r.2.1 k).2.2.1 = some (ty0 k) ∧ xtc (ty0 k) = tf ci k) ∧ ∀ a, a < r.2.2 → ∀ b, b < r.2.2 → a ≠ b → (r.2.1 a).2.1 ≠ (r.2.1 b).2.1
/-- what holds of the tables, whatever the state: of the classes; ty: the types of the arrays' elements by their codes -/
def XG (Ts : List Cond) (cl : List vw_C) (tf : Nat → Nat → Nat) (ty : Nat → FieldType) : Prop := (∀ (ci : Nat) (r : vw_C), cl[ci]? = some r → XC Ts tf ci r) ∧ ty 0 = .int ∧ ty 1 = .boolean ∧ ty 2 = .byte ∧ ty 3 = .char ∧ ty 5 = .long ∧ ∀ t, 6 ≤ t → t < 12 → (ty t).isReference = true
/-- what holds of the texts: the literals, where they are loaded, and that Strings are compact -/
def XTx (base : Nat) (ta : (Nat → Nat) × Option Nat) (lit : List (List Int32)) (ldcs : List (String × Nat × String × Nat)) (s : State) : Prop :=
  vk_S lit.length (lit.map List.length) lit (fun i => ta.1 (2 * i)) (fun i => ta.1 (2 * i + 1)) (fun q => base ≤ q) s s.heap ∧ (∀ q ∈ ldcs, vk_R q.1 q.2.1 q.2.2.1 (ta.1 (2 * q.2.2.2)) s) ∧ va_Z "java/lang/String" "COMPACT_STRINGS" "Z" (.int 1) (fun q => base ≤ q) s s.heap ∧ va_Z "jdk/internal/util/Preconditions" "SIOOBE_FORMATTER" "Ljava/util/function/BiFunction;" (va_rf ta.2) (fun q => base ≤ q) s s.heap
theorem XTx.go {base : Nat} {ta : (Nat → Nat) × Option Nat} {lit : List (List Int32)} {ldcs : List (String × Nat × String × Nat)} {s U : State} (h : XTx base ta lit ldcs s) (hW : s.WarmedH U.vm) (hq : ∀ q, q < s.heap.size → ¬ base ≤ q → U.heap[q]? = s.heap[q]?) : XTx base ta lit ldcs U :=
  ⟨vk_S.moved hW.alike (h.1.kept hq), fun q hq9 => (h.2.1 q hq9).warm hW, va_Z.moved hW.alike (h.2.2.1.kept hq), va_Z.moved hW.alike (h.2.2.2.kept hq)⟩
/-- what holds at a method's entry -/
def XF (p : Program) (s : State) (m : MethodId) (args : Array Value) (meth : Method) (c : Code) (b base : Nat) (dA : Nat → ClassId) (D : va_G) (cl : List vw_C) (Ts : List Cond) (ty : Nat → FieldType) (L : Nat) (xs : Nat → Int32) (ta : (Nat → Nat) × Option Nat) (lit : List (List Int32)) (ldcs : List (String × Nat × String × Nat)) (cc : ByteArray) (own : String) (ini : Bool) : Prop :=
  p.tables.exec = Jvm.exec ∧ c.code = cc ∧ s.vm.findClass own = some m.cls ∧ (∀ w ∈ Ts, w.before args s = true) ∧ va_K D cl [] s ∧ (∀ t, ArrOfT s (dA t) (ty t) ∧ va_RA s (dA t) (ty t)) ∧ va_X b L xs s s.heap ∧ b < base ∧ base ≤ s.heap.size ∧ (ini = true → meth.name = "<init>") ∧ XTx base ta lit ldcs s
theorem xin_of {i : Int32} {n : Nat} (h : xin i n = true) : ¬ (i < 0 ∨ n ≤ i.toNatClampNeg) := of_decide_eq_true h
theorem xin_lt {i : Int32} {n : Nat} (h : xin i n = true) : i.toNatClampNeg < n := Nat.not_le.mp fun q => xin_of h (Or.inr q)
section XPLAIN
variable {p : Program} {l : Launch} {e : Env} {R : Room} {s : State} {m : MethodId} {args : Array Value} {below : List Frame} {meth : Method} {c : Code} {Q : State → Prop}
variable {b base : Nat} {ta : (Nat → Nat) × Option Nat} {dA : Nat → ClassId} {D : va_G} {cl : List vw_C} {n0 z0 : Nat} {cc : ByteArray} {pc pc' n : Nat} {ls ls' : xL} {st st' : List Value} {h h' : xH} {raw : Instr} {x1 x2 : Nat}
variable {Ts : List Cond} {ty : Nat → FieldType} {own : String} {tf : Nat → Nat → Nat} {ini : Bool}
variable {nf : Nat → List Value} {L : Nat} {xs : Nat → Int32} {mc : Nat → Option Nat} {lit : List (List Int32)} {ldcs : List (String × Nat × String × Nat)}
theorem xs_iconst {v : Int} (F : XF p s m args meth c b base dA D cl Ts ty L xs ta lit ldcs cc own ini) (G : XG Ts cl tf ty) (hd : decode cc pc = .ok (raw, n)) (hok : xok Ts cl own tf nf ty ldcs ini pc raw (.iconst v, n, x1, x2)) (hs : xstep nf L xs lit mc (.iconst v, n, x1, x2) pc ls st h = some (.inl (pc', ls', st', h'))) (K : XK p l e R s m args below meth c Q b base ta dA D cl n0 z0 pc' ls' st' h') : XK p l e R s m args below meth c Q b base ta dA D cl n0 z0 pc ls st h := by
  obtain ⟨hx, hb, hown, hts, hK, hA, hX, hbl, hbs, hini, hTx⟩ := F
  obtain ⟨hcl, ty0, ty1, ty2, ty3, ty5, tyR⟩ := G
  cases hs
  intro hn hz H locs rl h1 h2 h3 h4
  rcases hok with ⟨rfl, rfl⟩ | ⟨rfl, rfl, hv⟩ | ⟨rfl, rfl, hv⟩
  · exact lv_iconst hx hb hd rfl (K hn hz H locs rl h1 h2 h3 h4)
  · exact lv_bipush hx hb hd hv (K hn hz H locs rl h1 h2 h3 h4)
  · exact lv_sipush hx hb hd hv (K hn hz H locs rl h1 h2 h3 h4)
theorem xs_lconst {v : Int} (F : XF p s m args meth c b base dA D cl Ts ty L xs ta lit ldcs cc own ini) (G : XG Ts cl tf ty) (hd : decode cc pc = .ok (raw, n)) (hok : xok Ts cl own tf nf ty ldcs ini pc raw (.goto_w v, n, x1, x2)) (hs : xstep nf L xs lit mc (.goto_w v, n, x1, x2) pc ls st h = some (.inl (pc', ls', st', h'))) (K : XK p l e R s m args below meth c Q b base ta dA D cl n0 z0 pc' ls' st' h') : XK p l e R s m args below meth c Q b base ta dA D cl n0 z0 pc ls st h := by
  obtain ⟨hx, hb, hown, hts, hK, hA, hX, hbl, hbs, hini, hTx⟩ := F
  obtain ⟨hcl, ty0, ty1, ty2, ty3, ty5, tyR⟩ := G
  cases hs
  intro hn hz H locs rl h1 h2 h3 h4
  obtain ⟨rfl, rfl, hv⟩ := hok
  exact lv_ldc2 hx hb hown (hts _ hv) hd (K hn hz H locs rl h1 h2 h3 h4)
theorem xs_iload {i : Nat} (F : XF p s m args meth c b base dA D cl Ts ty L xs ta lit ldcs cc own ini) (G : XG Ts cl tf ty) (hd : decode cc pc = .ok (raw, n)) (hok : xok Ts cl own tf nf ty ldcs ini pc raw (.iload i, n, x1, x2)) (hs : xstep nf L xs lit mc (.iload i, n, x1, x2) pc ls st h = some (.inl (pc', ls', st', h'))) (K : XK p l e R s m args below meth c Q b base ta dA D cl n0 z0 pc' ls' st' h') : XK p l e R s m args below meth c Q b base ta dA D cl n0 z0 pc ls st h := by
  obtain ⟨hx, hb, hown, hts, hK, hA, hX, hbl, hbs, hini, hTx⟩ := F
  obtain ⟨hcl, ty0, ty1, ty2, ty3, ty5, tyR⟩ := G
  simp only [xstep] at hs
  split at hs
  · rename_i x hl
    cases hs
    intro hn hz H locs rl h1 h2 h3 h4
    rcases hok with ⟨rfl, rfl⟩ | ⟨rfl, k, rfl, rfl⟩
    · exact lv_iload hx hb hd (h1.2.2 _ _ hl) (K hn hz H locs rl h1 h2 h3 h4)
    · exact lv_iload_n hx hb hd rfl (h1.2.2 _ _ hl) (K hn hz H locs rl h1 h2 h3 h4)
  · cases hs
theorem xs_lload {i : Nat} (F : XF p s m args meth c b base dA D cl Ts ty L xs ta lit ldcs cc own ini) (G : XG Ts cl tf ty) (hd : decode cc pc = .ok (raw, n)) (hok : xok Ts cl own tf nf ty ldcs ini pc raw (.lload i, n, x1, x2)) (hs : xstep nf L xs lit mc (.lload i, n, x1, x2) pc ls st h = some (.inl (pc', ls', st', h'))) (K : XK p l e R s m args below meth c Q b base ta dA D cl n0 z0 pc' ls' st' h') : XK p l e R s m args below meth c Q b base ta dA D cl n0 z0 pc ls st h := by
  obtain ⟨hx, hb, hown, hts, hK, hA, hX, hbl, hbs, hini, hTx⟩ := F
  obtain ⟨hcl, ty0, ty1, ty2, ty3, ty5, tyR⟩ := G
  simp only [xstep] at hs
  split at hs
  · rename_i x hl
    cases hs
    intro hn hz H locs rl h1 h2 h3 h4
    rcases hok with ⟨rfl, rfl⟩ | ⟨rfl, k, rfl, rfl⟩
    · exact lv_lload hx hb hd (h1.2.2 _ _ hl) (K hn hz H locs rl h1 h2 h3 h4)
    · exact lv_lload_n hx hb hd rfl (h1.2.2 _ _ hl) (K hn hz H locs rl h1 h2 h3 h4)
  · cases hs
theorem xs_aload {i : Nat} (F : XF p s m args meth c b base dA D cl Ts ty L xs ta lit ldcs cc own ini) (G : XG Ts cl tf ty) (hd : decode cc pc = .ok (raw, n)) (hok : xok Ts cl own tf nf ty ldcs ini pc raw (.aload i, n, x1, x2)) (hs : xstep nf L xs lit mc (.aload i, n, x1, x2) pc ls st h = some (.inl (pc', ls', st', h'))) (K : XK p l e R s m args below meth c Q b base ta dA D cl n0 z0 pc' ls' st' h') : XK p l e R s m args below meth c Q b base ta dA D cl n0 z0 pc ls st h := by
  obtain ⟨hx, hb, hown, hts, hK, hA, hX, hbl, hbs, hini, hTx⟩ := F
  obtain ⟨hcl, ty0, ty1, ty2, ty3, ty5, tyR⟩ := G
  simp only [xstep] at hs
  split at hs
  · rename_i v hl
    split at hs
    · rename_i hv
      cases hs
      intro hn hz H locs rl h1 h2 h3 h4
      obtain ⟨a, ha⟩ := xv_ref (b := b) (base := base) (ta := ta) hv
      have hl2 := h1.2.2 _ _ hl
      rw [ha] at hl2
      have K2 := K hn hz H locs rl h1 h2 h3 h4
      rw [List.map_cons, ha] at K2
      rcases hok with ⟨rfl, rfl⟩ | ⟨rfl, k, rfl, rfl⟩
      · exact lv_aload hx hb hd hl2 K2
      · exact lv_aload_n hx hb hd rfl hl2 K2
    · cases hs
  · cases hs
theorem xs_istore {i : Nat} (F : XF p s m args meth c b base dA D cl Ts ty L xs ta lit ldcs cc own ini) (G : XG Ts cl tf ty) (hd : decode cc pc = .ok (raw, n)) (hok : xok Ts cl own tf nf ty ldcs ini pc raw (.istore i, n, x1, x2)) (hs : xstep nf L xs lit mc (.istore i, n, x1, x2) pc ls st h = some (.inl (pc', ls', st', h'))) (K : XK p l e R s m args below meth c Q b base ta dA D cl n0 z0 pc' ls' st' h') : XK p l e R s m args below meth c Q b base ta dA D cl n0 z0 pc ls st h := by
  obtain ⟨hx, hb, hown, hts, hK, hA, hX, hbl, hbs, hini, hTx⟩ := F
  obtain ⟨hcl, ty0, ty1, ty2, ty3, ty5, tyR⟩ := G
  simp only [xstep] at hs
  split at hs
  · rename_i x st0
    split at hs
    · rename_i ls1 he
      cases hs
      refine xs_store he K (fun H locs cells slots rl hl hi kk => ?_)
      rcases hok with ⟨rfl, rfl⟩ | ⟨rfl, k, rfl, rfl⟩
      · exact lv_istore hx hb hd hl hi rfl kk
      · exact lv_istore_n hx hb hd rfl hl hi rfl kk
    · cases hs
  · cases hs
theorem xs_astore {i : Nat} (F : XF p s m args meth c b base dA D cl Ts ty L xs ta lit ldcs cc own ini) (G : XG Ts cl tf ty) (hd : decode cc pc = .ok (raw, n)) (hok : xok Ts cl own tf nf ty ldcs ini pc raw (.astore i, n, x1, x2)) (hs : xstep nf L xs lit mc (.astore i, n, x1, x2) pc ls st h = some (.inl (pc', ls', st', h'))) (K : XK p l e R s m args below meth c Q b base ta dA D cl n0 z0 pc' ls' st' h') : XK p l e R s m args below meth c Q b base ta dA D cl n0 z0 pc ls st h := by
  obtain ⟨hx, hb, hown, hts, hK, hA, hX, hbl, hbs, hini, hTx⟩ := F
  obtain ⟨hcl, ty0, ty1, ty2, ty3, ty5, tyR⟩ := G
  simp only [xstep] at hs
  split at hs
  · rename_i v st0
    split at hs
    · rename_i hv
      split at hs
      · rename_i ls1 he
        cases hs
        refine xs_store he K (fun H locs cells slots rl hl hi kk => ?_)
        obtain ⟨a, ha⟩ := xv_ref (b := b) (base := base) (ta := ta) hv
        rw [ha] at kk ⊢
        rcases hok with ⟨rfl, rfl⟩ | ⟨rfl, k, rfl, rfl⟩
        · exact lv_astore hx hb hd hl hi rfl kk
        · exact lv_astore_n hx hb hd rfl hl hi rfl kk
      · cases hs
    · cases hs
  · cases hs
theorem xs_iinc {i : Nat} {k : Int} (F : XF p s m args meth c b base dA D cl Ts ty L xs ta lit ldcs cc own ini) (G : XG Ts cl tf ty) (hd : decode cc pc = .ok (raw, n)) (hok : xok Ts cl own tf nf ty ldcs ini pc raw (.iinc i k, n, x1, x2)) (hs : xstep nf L xs lit mc (.iinc i k, n, x1, x2) pc ls st h = some (.inl (pc', ls', st', h'))) (K : XK p l e R s m args below meth c Q b base ta dA D cl n0 z0 pc' ls' st' h') : XK p l e R s m args below meth c Q b base ta dA D cl n0 z0 pc ls st h := by
  obtain ⟨hx, hb, hown, hts, hK, hA, hX, hbl, hbs, hini, hTx⟩ := F
  obtain ⟨hcl, ty0, ty1, ty2, ty3, ty5, tyR⟩ := G
  simp only [xstep] at hs
  split at hs
  · rename_i x hl
    split at hs
    · rename_i ls1 he
      cases hs
      obtain ⟨rfl, rfl⟩ := hok
      intro hn hz H locs rl h1 h2 h3 h4
      obtain ⟨j, hj⟩ := List.getElem?_of_mem (xlp_mem.mpr ⟨.int x, hl, rfl⟩ : (i, Value.int x) ∈ xlp b base ta ls)
      exact lv_iinc hx hb hd (xls_has h1) hj rfl (xset_spec he).1 rfl (fun ls1 hl1 => K hn hz H locs ls1 (xls_put he hl1) h2 h3 h4)
    · cases hs
  · cases hs
theorem xs_iadd (F : XF p s m args meth c b base dA D cl Ts ty L xs ta lit ldcs cc own ini) (G : XG Ts cl tf ty) (hd : decode cc pc = .ok (raw, n)) (hok : xok Ts cl own tf nf ty ldcs ini pc raw (.iadd, n, x1, x2)) (hs : xstep nf L xs lit mc (.iadd, n, x1, x2) pc ls st h = some (.inl (pc', ls', st', h'))) (K : XK p l e R s m args below meth c Q b base ta dA D cl n0 z0 pc' ls' st' h') : XK p l e R s m args below meth c Q b base ta dA D cl n0 z0 pc ls st h := by
  obtain ⟨hx, hb, hown, hts, hK, hA, hX, hbl, hbs, hini, hTx⟩ := F
  obtain ⟨hcl, ty0, ty1, ty2, ty3, ty5, tyR⟩ := G
  simp only [xstep] at hs
  split at hs
  · cases hs
    obtain ⟨rfl, rfl⟩ := hok
    intro hn hz H locs rl h1 h2 h3 h4
    exact lv_iadd hx hb hd (K hn hz H locs rl h1 h2 h3 h4)
  · cases hs
theorem xs_isub (F : XF p s m args meth c b base dA D cl Ts ty L xs ta lit ldcs cc own ini) (G : XG Ts cl tf ty) (hd : decode cc pc = .ok (raw, n)) (hok : xok Ts cl own tf nf ty ldcs ini pc raw (.isub, n, x1, x2)) (hs : xstep nf L xs lit mc (.isub, n, x1, x2) pc ls st h = some (.inl (pc', ls', st', h'))) (K : XK p l e R s m args below meth c Q b base ta dA D cl n0 z0 pc' ls' st' h') : XK p l e R s m args below meth c Q b base ta dA D cl n0 z0 pc ls st h := by
  obtain ⟨hx, hb, hown, hts, hK, hA, hX, hbl, hbs, hini, hTx⟩ := F
  obtain ⟨hcl, ty0, ty1, ty2, ty3, ty5, tyR⟩ := G
  simp only [xstep] at hs
  split at hs
  · cases hs
    obtain ⟨rfl, rfl⟩ := hok
    intro hn hz H locs rl h1 h2 h3 h4
    exact lv_isub hx hb hd (K hn hz H locs rl h1 h2 h3 h4)
  · cases hs
theorem xs_imul (F : XF p s m args meth c b base dA D cl Ts ty L xs ta lit ldcs cc own ini) (G : XG Ts cl tf ty) (hd : decode cc pc = .ok (raw, n)) (hok : xok Ts cl own tf nf ty ldcs ini pc raw (.imul, n, x1, x2)) (hs : xstep nf L xs lit mc (.imul, n, x1, x2) pc ls st h = some (.inl (pc', ls', st', h'))) (K : XK p l e R s m args below meth c Q b base ta dA D cl n0 z0 pc' ls' st' h') : XK p l e R s m args below meth c Q b base ta dA D cl n0 z0 pc ls st h := by
  obtain ⟨hx, hb, hown, hts, hK, hA, hX, hbl, hbs, hini, hTx⟩ := F
  obtain ⟨hcl, ty0, ty1, ty2, ty3, ty5, tyR⟩ := G
  simp only [xstep] at hs
  split at hs
  · cases hs
    obtain ⟨rfl, rfl⟩ := hok
    intro hn hz H locs rl h1 h2 h3 h4
    exact lv_imul hx hb hd (K hn hz H locs rl h1 h2 h3 h4)
  · cases hs
theorem xs_iand (F : XF p s m args meth c b base dA D cl Ts ty L xs ta lit ldcs cc own ini) (G : XG Ts cl tf ty) (hd : decode cc pc = .ok (raw, n)) (hok : xok Ts cl own tf nf ty ldcs ini pc raw (.iand, n, x1, x2)) (hs : xstep nf L xs lit mc (.iand, n, x1, x2) pc ls st h = some (.inl (pc', ls', st', h'))) (K : XK p l e R s m args below meth c Q b base ta dA D cl n0 z0 pc' ls' st' h') : XK p l e R s m args below meth c Q b base ta dA D cl n0 z0 pc ls st h := by
  obtain ⟨hx, hb, hown, hts, hK, hA, hX, hbl, hbs, hini, hTx⟩ := F
  obtain ⟨hcl, ty0, ty1, ty2, ty3, ty5, tyR⟩ := G
  simp only [xstep] at hs
  split at hs
  · cases hs
    obtain ⟨rfl, rfl⟩ := hok
    intro hn hz H locs rl h1 h2 h3 h4
    exact lv_iand hx hb hd (K hn hz H locs rl h1 h2 h3 h4)
  · cases hs
theorem xs_ior (F : XF p s m args meth c b base dA D cl Ts ty L xs ta lit ldcs cc own ini) (G : XG Ts cl tf ty) (hd : decode cc pc = .ok (raw, n)) (hok : xok Ts cl own tf nf ty ldcs ini pc raw (.ior, n, x1, x2)) (hs : xstep nf L xs lit mc (.ior, n, x1, x2) pc ls st h = some (.inl (pc', ls', st', h'))) (K : XK p l e R s m args below meth c Q b base ta dA D cl n0 z0 pc' ls' st' h') : XK p l e R s m args below meth c Q b base ta dA D cl n0 z0 pc ls st h := by
  obtain ⟨hx, hb, hown, hts, hK, hA, hX, hbl, hbs, hini, hTx⟩ := F
  obtain ⟨hcl, ty0, ty1, ty2, ty3, ty5, tyR⟩ := G
  simp only [xstep] at hs
  split at hs
  · cases hs
    obtain ⟨rfl, rfl⟩ := hok
    intro hn hz H locs rl h1 h2 h3 h4
    exact lv_ior hx hb hd (K hn hz H locs rl h1 h2 h3 h4)
  · cases hs
theorem xs_ishl (F : XF p s m args meth c b base dA D cl Ts ty L xs ta lit ldcs cc own ini) (G : XG Ts cl tf ty) (hd : decode cc pc = .ok (raw, n)) (hok : xok Ts cl own tf nf ty ldcs ini pc raw (.ishl, n, x1, x2)) (hs : xstep nf L xs lit mc (.ishl, n, x1, x2) pc ls st h = some (.inl (pc', ls', st', h'))) (K : XK p l e R s m args below meth c Q b base ta dA D cl n0 z0 pc' ls' st' h') : XK p l e R s m args below meth c Q b base ta dA D cl n0 z0 pc ls st h := by
  obtain ⟨hx, hb, hown, hts, hK, hA, hX, hbl, hbs, hini, hTx⟩ := F
  obtain ⟨hcl, ty0, ty1, ty2, ty3, ty5, tyR⟩ := G
  simp only [xstep] at hs
  split at hs
  · cases hs
    obtain ⟨rfl, rfl⟩ := hok
    intro hn hz H locs rl h1 h2 h3 h4
    exact lv_ishl hx hb hd (K hn hz H locs rl h1 h2 h3 h4)
  · cases hs
theorem xs_ishr (F : XF p s m args meth c b base dA D cl Ts ty L xs ta lit ldcs cc own ini) (G : XG Ts cl tf ty) (hd : decode cc pc = .ok (raw, n)) (hok : xok Ts cl own tf nf ty ldcs ini pc raw (.ishr, n, x1, x2)) (hs : xstep nf L xs lit mc (.ishr, n, x1, x2) pc ls st h = some (.inl (pc', ls', st', h'))) (K : XK p l e R s m args below meth c Q b base ta dA D cl n0 z0 pc' ls' st' h') : XK p l e R s m args below meth c Q b base ta dA D cl n0 z0 pc ls st h := by
  obtain ⟨hx, hb, hown, hts, hK, hA, hX, hbl, hbs, hini, hTx⟩ := F
  obtain ⟨hcl, ty0, ty1, ty2, ty3, ty5, tyR⟩ := G
  simp only [xstep] at hs
  split at hs
  · cases hs
    obtain ⟨rfl, rfl⟩ := hok
    intro hn hz H locs rl h1 h2 h3 h4
    exact lv_ishr hx hb hd (K hn hz H locs rl h1 h2 h3 h4)
  · cases hs
theorem xs_land (F : XF p s m args meth c b base dA D cl Ts ty L xs ta lit ldcs cc own ini) (G : XG Ts cl tf ty) (hd : decode cc pc = .ok (raw, n)) (hok : xok Ts cl own tf nf ty ldcs ini pc raw (.land, n, x1, x2)) (hs : xstep nf L xs lit mc (.land, n, x1, x2) pc ls st h = some (.inl (pc', ls', st', h'))) (K : XK p l e R s m args below meth c Q b base ta dA D cl n0 z0 pc' ls' st' h') : XK p l e R s m args below meth c Q b base ta dA D cl n0 z0 pc ls st h := by
  obtain ⟨hx, hb, hown, hts, hK, hA, hX, hbl, hbs, hini, hTx⟩ := F
  obtain ⟨hcl, ty0, ty1, ty2, ty3, ty5, tyR⟩ := G
  simp only [xstep] at hs
  split at hs
  · cases hs
    obtain ⟨rfl, rfl⟩ := hok
    intro hn hz H locs rl h1 h2 h3 h4
    exact lv_land hx hb hd (K hn hz H locs rl h1 h2 h3 h4)
  · cases hs
theorem xs_lor (F : XF p s m args meth c b base dA D cl Ts ty L xs ta lit ldcs cc own ini) (G : XG Ts cl tf ty) (hd : decode cc pc = .ok (raw, n)) (hok : xok Ts cl own tf nf ty ldcs ini pc raw (.lor, n, x1, x2)) (hs : xstep nf L xs lit mc (.lor, n, x1, x2) pc ls st h = some (.inl (pc', ls', st', h'))) (K : XK p l e R s m args below meth c Q b base ta dA D cl n0 z0 pc' ls' st' h') : XK p l e R s m args below meth c Q b base ta dA D cl n0 z0 pc ls st h := by
  obtain ⟨hx, hb, hown, hts, hK, hA, hX, hbl, hbs, hini, hTx⟩ := F
  obtain ⟨hcl, ty0, ty1, ty2, ty3, ty5, tyR⟩ := G
  simp only [xstep] at hs
  split at hs
  · cases hs
    obtain ⟨rfl, rfl⟩ := hok
    intro hn hz H locs rl h1 h2 h3 h4
    exact lv_lor hx hb hd (K hn hz H locs rl h1 h2 h3 h4)
  · cases hs
theorem xs_lushr (F : XF p s m args meth c b base dA D cl Ts ty L xs ta lit ldcs cc own ini) (G : XG Ts cl tf ty) (hd : decode cc pc = .ok (raw, n)) (hok : xok Ts cl own tf nf ty ldcs ini pc raw (.lushr, n, x1, x2)) (hs : xstep nf L xs lit mc (.lushr, n, x1, x2) pc ls st h = some (.inl (pc', ls', st', h'))) (K : XK p l e R s m args below meth c Q b base ta dA D cl n0 z0 pc' ls' st' h') : XK p l e R s m args below meth c Q b base ta dA D cl n0 z0 pc ls st h := by
  obtain ⟨hx, hb, hown, hts, hK, hA, hX, hbl, hbs, hini, hTx⟩ := F
  obtain ⟨hcl, ty0, ty1, ty2, ty3, ty5, tyR⟩ := G
  simp only [xstep] at hs
  split at hs
  · cases hs
    obtain ⟨rfl, rfl⟩ := hok
    intro hn hz H locs rl h1 h2 h3 h4
    exact lv_lushr hx hb hd rfl (K hn hz H locs rl h1 h2 h3 h4)
  · cases hs
theorem xs_lshl (F : XF p s m args meth c b base dA D cl Ts ty L xs ta lit ldcs cc own ini) (G : XG Ts cl tf ty) (hd : decode cc pc = .ok (raw, n)) (hok : xok Ts cl own tf nf ty ldcs ini pc raw (.lshl, n, x1, x2)) (hs : xstep nf L xs lit mc (.lshl, n, x1, x2) pc ls st h = some (.inl (pc', ls', st', h'))) (K : XK p l e R s m args below meth c Q b base ta dA D cl n0 z0 pc' ls' st' h') : XK p l e R s m args below meth c Q b base ta dA D cl n0 z0 pc ls st h := by
  obtain ⟨hx, hb, hown, hts, hK, hA, hX, hbl, hbs, hini, hTx⟩ := F
  obtain ⟨hcl, ty0, ty1, ty2, ty3, ty5, tyR⟩ := G
  simp only [xstep] at hs
  split at hs
  · cases hs
    obtain ⟨rfl, rfl⟩ := hok
    intro hn hz H locs rl h1 h2 h3 h4
    exact lv_lshl hx hb hd rfl (K hn hz H locs rl h1 h2 h3 h4)
  · cases hs
theorem xs_lshr (F : XF p s m args meth c b base dA D cl Ts ty L xs ta lit ldcs cc own ini) (G : XG Ts cl tf ty) (hd : decode cc pc = .ok (raw, n)) (hok : xok Ts cl own tf nf ty ldcs ini pc raw (.lshr, n, x1, x2)) (hs : xstep nf L xs lit mc (.lshr, n, x1, x2) pc ls st h = some (.inl (pc', ls', st', h'))) (K : XK p l e R s m args below meth c Q b base ta dA D cl n0 z0 pc' ls' st' h') : XK p l e R s m args below meth c Q b base ta dA D cl n0 z0 pc ls st h := by
  obtain ⟨hx, hb, hown, hts, hK, hA, hX, hbl, hbs, hini, hTx⟩ := F
  obtain ⟨hcl, ty0, ty1, ty2, ty3, ty5, tyR⟩ := G
  simp only [xstep] at hs
  split at hs
  · cases hs
    obtain ⟨rfl, rfl⟩ := hok
    intro hn hz H locs rl h1 h2 h3 h4
    exact lv_lshr hx hb hd rfl (K hn hz H locs rl h1 h2 h3 h4)
  · cases hs
theorem xs_ineg (F : XF p s m args meth c b base dA D cl Ts ty L xs ta lit ldcs cc own ini) (G : XG Ts cl tf ty) (hd : decode cc pc = .ok (raw, n)) (hok : xok Ts cl own tf nf ty ldcs ini pc raw (.ineg, n, x1, x2)) (hs : xstep nf L xs lit mc (.ineg, n, x1, x2) pc ls st h = some (.inl (pc', ls', st', h'))) (K : XK p l e R s m args below meth c Q b base ta dA D cl n0 z0 pc' ls' st' h') : XK p l e R s m args below meth c Q b base ta dA D cl n0 z0 pc ls st h := by
  obtain ⟨hx, hb, hown, hts, hK, hA, hX, hbl, hbs, hini, hTx⟩ := F
  obtain ⟨hcl, ty0, ty1, ty2, ty3, ty5, tyR⟩ := G
  simp only [xstep] at hs
  split at hs
  · cases hs
    obtain ⟨rfl, rfl⟩ := hok
    intro hn hz H locs rl h1 h2 h3 h4
    exact lv_ineg hx hb hd (K hn hz H locs rl h1 h2 h3 h4)
  · cases hs
theorem xs_i2l (F : XF p s m args meth c b base dA D cl Ts ty L xs ta lit ldcs cc own ini) (G : XG Ts cl tf ty) (hd : decode cc pc = .ok (raw, n)) (hok : xok Ts cl own tf nf ty ldcs ini pc raw (.i2l, n, x1, x2)) (hs : xstep nf L xs lit mc (.i2l, n, x1, x2) pc ls st h = some (.inl (pc', ls', st', h'))) (K : XK p l e R s m args below meth c Q b base ta dA D cl n0 z0 pc' ls' st' h') : XK p l e R s m args below meth c Q b base ta dA D cl n0 z0 pc ls st h := by
  obtain ⟨hx, hb, hown, hts, hK, hA, hX, hbl, hbs, hini, hTx⟩ := F
  obtain ⟨hcl, ty0, ty1, ty2, ty3, ty5, tyR⟩ := G
  simp only [xstep] at hs
  split at hs
  · cases hs
    obtain ⟨rfl, rfl⟩ := hok
    intro hn hz H locs rl h1 h2 h3 h4
    exact lv_i2l hx hb hd rfl (K hn hz H locs rl h1 h2 h3 h4)
  · cases hs
theorem xs_l2i (F : XF p s m args meth c b base dA D cl Ts ty L xs ta lit ldcs cc own ini) (G : XG Ts cl tf ty) (hd : decode cc pc = .ok (raw, n)) (hok : xok Ts cl own tf nf ty ldcs ini pc raw (.l2i, n, x1, x2)) (hs : xstep nf L xs lit mc (.l2i, n, x1, x2) pc ls st h = some (.inl (pc', ls', st', h'))) (K : XK p l e R s m args below meth c Q b base ta dA D cl n0 z0 pc' ls' st' h') : XK p l e R s m args below meth c Q b base ta dA D cl n0 z0 pc ls st h := by
  obtain ⟨hx, hb, hown, hts, hK, hA, hX, hbl, hbs, hini, hTx⟩ := F
  obtain ⟨hcl, ty0, ty1, ty2, ty3, ty5, tyR⟩ := G
  simp only [xstep] at hs
  split at hs
  · cases hs
    obtain ⟨rfl, rfl⟩ := hok
    intro hn hz H locs rl h1 h2 h3 h4
    exact lv_l2i hx hb hd rfl (K hn hz H locs rl h1 h2 h3 h4)
  · cases hs
theorem xs_i2c (F : XF p s m args meth c b base dA D cl Ts ty L xs ta lit ldcs cc own ini) (G : XG Ts cl tf ty) (hd : decode cc pc = .ok (raw, n)) (hok : xok Ts cl own tf nf ty ldcs ini pc raw (.i2c, n, x1, x2)) (hs : xstep nf L xs lit mc (.i2c, n, x1, x2) pc ls st h = some (.inl (pc', ls', st', h'))) (K : XK p l e R s m args below meth c Q b base ta dA D cl n0 z0 pc' ls' st' h') : XK p l e R s m args below meth c Q b base ta dA D cl n0 z0 pc ls st h := by
  obtain ⟨hx, hb, hown, hts, hK, hA, hX, hbl, hbs, hini, hTx⟩ := F
  obtain ⟨hcl, ty0, ty1, ty2, ty3, ty5, tyR⟩ := G
  simp only [xstep] at hs
  split at hs
  · cases hs
    obtain ⟨rfl, rfl⟩ := hok
    intro hn hz H locs rl h1 h2 h3 h4
    exact lv_i2c hx hb hd rfl (K hn hz H locs rl h1 h2 h3 h4)
  · cases hs
theorem xs_lcmp (F : XF p s m args meth c b base dA D cl Ts ty L xs ta lit ldcs cc own ini) (G : XG Ts cl tf ty) (hd : decode cc pc = .ok (raw, n)) (hok : xok Ts cl own tf nf ty ldcs ini pc raw (.lcmp, n, x1, x2)) (hs : xstep nf L xs lit mc (.lcmp, n, x1, x2) pc ls st h = some (.inl (pc', ls', st', h'))) (K : XK p l e R s m args below meth c Q b base ta dA D cl n0 z0 pc' ls' st' h') : XK p l e R s m args below meth c Q b base ta dA D cl n0 z0 pc ls st h := by
  obtain ⟨hx, hb, hown, hts, hK, hA, hX, hbl, hbs, hini, hTx⟩ := F
  obtain ⟨hcl, ty0, ty1, ty2, ty3, ty5, tyR⟩ := G
  simp only [xstep] at hs
  split at hs
  · cases hs
    obtain ⟨rfl, rfl⟩ := hok
    intro hn hz H locs rl h1 h2 h3 h4
    exact W.lcmp hx hb hd (K hn hz H locs rl h1 h2 h3 h4)
  · cases hs
theorem xs_idiv (F : XF p s m args meth c b base dA D cl Ts ty L xs ta lit ldcs cc own ini) (G : XG Ts cl tf ty) (hd : decode cc pc = .ok (raw, n)) (hok : xok Ts cl own tf nf ty ldcs ini pc raw (.idiv, n, x1, x2)) (hs : xstep nf L xs lit mc (.idiv, n, x1, x2) pc ls st h = some (.inl (pc', ls', st', h'))) (K : XK p l e R s m args below meth c Q b base ta dA D cl n0 z0 pc' ls' st' h') : XK p l e R s m args below meth c Q b base ta dA D cl n0 z0 pc ls st h := by
  obtain ⟨hx, hb, hown, hts, hK, hA, hX, hbl, hbs, hini, hTx⟩ := F
  obtain ⟨hcl, ty0, ty1, ty2, ty3, ty5, tyR⟩ := G
  simp only [xstep] at hs
  split at hs
  · split at hs
    · cases hs
    · rename_i hne
      cases hs
      obtain ⟨rfl, rfl⟩ := hok
      intro hn hz H locs rl h1 h2 h3 h4
      exact lv_idiv hx hb hd hne (K hn hz H locs rl h1 h2 h3 h4)
  · cases hs
theorem xs_irem (F : XF p s m args meth c b base dA D cl Ts ty L xs ta lit ldcs cc own ini) (G : XG Ts cl tf ty) (hd : decode cc pc = .ok (raw, n)) (hok : xok Ts cl own tf nf ty ldcs ini pc raw (.irem, n, x1, x2)) (hs : xstep nf L xs lit mc (.irem, n, x1, x2) pc ls st h = some (.inl (pc', ls', st', h'))) (K : XK p l e R s m args below meth c Q b base ta dA D cl n0 z0 pc' ls' st' h') : XK p l e R s m args below meth c Q b base ta dA D cl n0 z0 pc ls st h := by
  obtain ⟨hx, hb, hown, hts, hK, hA, hX, hbl, hbs, hini, hTx⟩ := F
  obtain ⟨hcl, ty0, ty1, ty2, ty3, ty5, tyR⟩ := G
  simp only [xstep] at hs
  split at hs
  · split at hs
    · cases hs
    · rename_i hne
      cases hs
      obtain ⟨rfl, rfl⟩ := hok
      intro hn hz H locs rl h1 h2 h3 h4
      exact lv_irem hx hb hd hne (K hn hz H locs rl h1 h2 h3 h4)
  · cases hs
theorem xs_dup (F : XF p s m args meth c b base dA D cl Ts ty L xs ta lit ldcs cc own ini) (G : XG Ts cl tf ty) (hd : decode cc pc = .ok (raw, n)) (hok : xok Ts cl own tf nf ty ldcs ini pc raw (.dup, n, x1, x2)) (hs : xstep nf L xs lit mc (.dup, n, x1, x2) pc ls st h = some (.inl (pc', ls', st', h'))) (K : XK p l e R s m args below meth c Q b base ta dA D cl n0 z0 pc' ls' st' h') : XK p l e R s m args below meth c Q b base ta dA D cl n0 z0 pc ls st h := by
  obtain ⟨hx, hb, hown, hts, hK, hA, hX, hbl, hbs, hini, hTx⟩ := F
  obtain ⟨hcl, ty0, ty1, ty2, ty3, ty5, tyR⟩ := G
  simp only [xstep] at hs
  split at hs
  · split at hs
    · rename_i hc
      cases hs
      obtain ⟨rfl, rfl⟩ := hok
      intro hn hz H locs rl h1 h2 h3 h4
      exact lv_dup hx hb hd (xv_cat1 b base ta hc) (K hn hz H locs rl h1 h2 h3 h4)
    · cases hs
  · cases hs
theorem xs_pop (F : XF p s m args meth c b base dA D cl Ts ty L xs ta lit ldcs cc own ini) (G : XG Ts cl tf ty) (hd : decode cc pc = .ok (raw, n)) (hok : xok Ts cl own tf nf ty ldcs ini pc raw (.pop, n, x1, x2)) (hs : xstep nf L xs lit mc (.pop, n, x1, x2) pc ls st h = some (.inl (pc', ls', st', h'))) (K : XK p l e R s m args below meth c Q b base ta dA D cl n0 z0 pc' ls' st' h') : XK p l e R s m args below meth c Q b base ta dA D cl n0 z0 pc ls st h := by
  obtain ⟨hx, hb, hown, hts, hK, hA, hX, hbl, hbs, hini, hTx⟩ := F
  obtain ⟨hcl, ty0, ty1, ty2, ty3, ty5, tyR⟩ := G
  simp only [xstep] at hs
  split at hs
  · split at hs
    · rename_i hc
      cases hs
      obtain ⟨rfl, rfl⟩ := hok
      intro hn hz H locs rl h1 h2 h3 h4
      exact lv_pop hx hb hd (xv_cat1 b base ta hc) (K hn hz H locs rl h1 h2 h3 h4)
    · cases hs
  · cases hs
theorem xs_dup_x1 (F : XF p s m args meth c b base dA D cl Ts ty L xs ta lit ldcs cc own ini) (G : XG Ts cl tf ty) (hd : decode cc pc = .ok (raw, n)) (hok : xok Ts cl own tf nf ty ldcs ini pc raw (.dup_x1, n, x1, x2)) (hs : xstep nf L xs lit mc (.dup_x1, n, x1, x2) pc ls st h = some (.inl (pc', ls', st', h'))) (K : XK p l e R s m args below meth c Q b base ta dA D cl n0 z0 pc' ls' st' h') : XK p l e R s m args below meth c Q b base ta dA D cl n0 z0 pc ls st h := by
  obtain ⟨hx, hb, hown, hts, hK, hA, hX, hbl, hbs, hini, hTx⟩ := F
  obtain ⟨hcl, ty0, ty1, ty2, ty3, ty5, tyR⟩ := G
  simp only [xstep] at hs
  split at hs
  · split at hs
    · rename_i hc
      cases hs
      obtain ⟨rfl, rfl⟩ := hok
      intro hn hz H locs rl h1 h2 h3 h4
      exact lv_dup_x1 hx hb hd (xv_cat1 b base ta hc.1) (xv_cat1 b base ta hc.2) (K hn hz H locs rl h1 h2 h3 h4)
    · cases hs
  · cases hs
theorem xs_dup2 (F : XF p s m args meth c b base dA D cl Ts ty L xs ta lit ldcs cc own ini) (G : XG Ts cl tf ty) (hd : decode cc pc = .ok (raw, n)) (hok : xok Ts cl own tf nf ty ldcs ini pc raw (.dup2, n, x1, x2)) (hs : xstep nf L xs lit mc (.dup2, n, x1, x2) pc ls st h = some (.inl (pc', ls', st', h'))) (K : XK p l e R s m args below meth c Q b base ta dA D cl n0 z0 pc' ls' st' h') : XK p l e R s m args below meth c Q b base ta dA D cl n0 z0 pc ls st h := by
  obtain ⟨hx, hb, hown, hts, hK, hA, hX, hbl, hbs, hini, hTx⟩ := F
  obtain ⟨hcl, ty0, ty1, ty2, ty3, ty5, tyR⟩ := G
  simp only [xstep] at hs
  split at hs
  · split at hs
    · rename_i hc
      cases hs
      obtain ⟨rfl, rfl⟩ := hok
      intro hn hz H locs rl h1 h2 h3 h4
      exact lv_dup2_11 hx hb hd (xv_cat1 b base ta hc.1) (xv_cat1 b base ta hc.2) (K hn hz H locs rl h1 h2 h3 h4)
    · cases hs
  · cases hs
theorem xs_goto {t : Int} (F : XF p s m args meth c b base dA D cl Ts ty L xs ta lit ldcs cc own ini) (G : XG Ts cl tf ty) (hd : decode cc pc = .ok (raw, n)) (hok : xok Ts cl own tf nf ty ldcs ini pc raw (.goto t, n, x1, x2)) (hs : xstep nf L xs lit mc (.goto t, n, x1, x2) pc ls st h = some (.inl (pc', ls', st', h'))) (K : XK p l e R s m args below meth c Q b base ta dA D cl n0 z0 pc' ls' st' h') : XK p l e R s m args below meth c Q b base ta dA D cl n0 z0 pc ls st h := by
  obtain ⟨hx, hb, hown, hts, hK, hA, hX, hbl, hbs, hini, hTx⟩ := F
  obtain ⟨hcl, ty0, ty1, ty2, ty3, ty5, tyR⟩ := G
  cases hs
  obtain ⟨rfl, rfl, ht⟩ := hok
  intro hn hz H locs rl h1 h2 h3 h4
  exact lv_goto hx hb hd (xjump ht) (K hn hz H locs rl h1 h2 h3 h4)
theorem xs_if {cd : ClassFile.Cond} {t : Int} (F : XF p s m args meth c b base dA D cl Ts ty L xs ta lit ldcs cc own ini) (G : XG Ts cl tf ty) (hd : decode cc pc = .ok (raw, n)) (hok : xok Ts cl own tf nf ty ldcs ini pc raw (.ifCond cd t, n, x1, x2)) (hs : xstep nf L xs lit mc (.ifCond cd t, n, x1, x2) pc ls st h = some (.inl (pc', ls', st', h'))) (K : XK p l e R s m args below meth c Q b base ta dA D cl n0 z0 pc' ls' st' h') : XK p l e R s m args below meth c Q b base ta dA D cl n0 z0 pc ls st h := by
  obtain ⟨hx, hb, hown, hts, hK, hA, hX, hbl, hbs, hini, hTx⟩ := F
  obtain ⟨hcl, ty0, ty1, ty2, ty3, ty5, tyR⟩ := G
  simp only [xstep] at hs
  split at hs
  · obtain ⟨rfl, rfl, ht⟩ := hok
    intro hn hz H locs rl h1 h2 h3 h4
    cases cd with
    | eq =>
      simp only [xcmp, decide_eq_true_eq] at hs
      refine lv_if_eq hx hb hd (xjump ht) (fun q => ?_) (fun q => ?_)
      · rw [if_pos q] at hs
        cases hs
        exact K hn hz H locs rl h1 h2 h3 h4
      · rw [if_neg q] at hs
        cases hs
        exact K hn hz H locs rl h1 h2 h3 h4
    | ne =>
      simp only [xcmp, decide_eq_true_eq] at hs
      refine lv_if_ne hx hb hd (xjump ht) (fun q => ?_) (fun q => ?_)
      · rw [if_pos q] at hs
        cases hs
        exact K hn hz H locs rl h1 h2 h3 h4
      · rw [if_neg (fun z => z q)] at hs
        cases hs
        exact K hn hz H locs rl h1 h2 h3 h4
    | lt =>
      simp only [xcmp, decide_eq_true_eq] at hs
      refine lv_if_lt hx hb hd (xjump ht) (fun q => ?_) (fun q => ?_)
      · rw [if_pos q] at hs
        cases hs
        exact K hn hz H locs rl h1 h2 h3 h4
      · rw [if_neg q] at hs
        cases hs
        exact K hn hz H locs rl h1 h2 h3 h4
    | ge =>
      simp only [xcmp, decide_eq_true_eq] at hs
      refine lv_if_ge hx hb hd (xjump ht) (fun q => ?_) (fun q => ?_)
      · rw [if_pos q] at hs
        cases hs
        exact K hn hz H locs rl h1 h2 h3 h4
      · rw [if_neg q] at hs
        cases hs
        exact K hn hz H locs rl h1 h2 h3 h4
    | gt =>
      simp only [xcmp, decide_eq_true_eq] at hs
      refine lv_if_gt hx hb hd (xjump ht) (fun q => ?_) (fun q => ?_)
      · rw [if_pos q] at hs
        cases hs
        exact K hn hz H locs rl h1 h2 h3 h4
      · rw [if_neg q] at hs
        cases hs
        exact K hn hz H locs rl h1 h2 h3 h4
    | le =>
      simp only [xcmp, decide_eq_true_eq] at hs
      refine lv_if_le hx hb hd (xjump ht) (fun q => ?_) (fun q => ?_)
      · rw [if_pos q] at hs
        cases hs
        exact K hn hz H locs rl h1 h2 h3 h4
      · rw [if_neg q] at hs
        cases hs
        exact K hn hz H locs rl h1 h2 h3 h4
  · cases hs
theorem xs_icmp {cd : ClassFile.Cond} {t : Int} (F : XF p s m args meth c b base dA D cl Ts ty L xs ta lit ldcs cc own ini) (G : XG Ts cl tf ty) (hd : decode cc pc = .ok (raw, n)) (hok : xok Ts cl own tf nf ty ldcs ini pc raw (.if_icmp cd t, n, x1, x2)) (hs : xstep nf L xs lit mc (.if_icmp cd t, n, x1, x2) pc ls st h = some (.inl (pc', ls', st', h'))) (K : XK p l e R s m args below meth c Q b base ta dA D cl n0 z0 pc' ls' st' h') : XK p l e R s m args below meth c Q b base ta dA D cl n0 z0 pc ls st h := by
  obtain ⟨hx, hb, hown, hts, hK, hA, hX, hbl, hbs, hini, hTx⟩ := F
  obtain ⟨hcl, ty0, ty1, ty2, ty3, ty5, tyR⟩ := G
  simp only [xstep] at hs
  split at hs
  · obtain ⟨rfl, rfl, ht⟩ := hok
    intro hn hz H locs rl h1 h2 h3 h4
    cases cd with
    | eq =>
      simp only [xcmp, decide_eq_true_eq] at hs
      refine lv_icmp_eq hx hb hd (xjump ht) (fun q => ?_) (fun q => ?_)
      · rw [if_pos q] at hs
        cases hs
        exact K hn hz H locs rl h1 h2 h3 h4
      · rw [if_neg q] at hs
        cases hs
        exact K hn hz H locs rl h1 h2 h3 h4
    | ne =>
      simp only [xcmp, decide_eq_true_eq] at hs
      refine lv_icmp_ne hx hb hd (xjump ht) (fun q => ?_) (fun q => ?_)
      · rw [if_pos q] at hs
        cases hs
        exact K hn hz H locs rl h1 h2 h3 h4
      · rw [if_neg (fun z => z q)] at hs
        cases hs
        exact K hn hz H locs rl h1 h2 h3 h4
    | lt =>
      simp only [xcmp, decide_eq_true_eq] at hs
      refine lv_icmp_lt hx hb hd (xjump ht) (fun q => ?_) (fun q => ?_)
      · rw [if_pos q] at hs
        cases hs
        exact K hn hz H locs rl h1 h2 h3 h4
      · rw [if_neg q] at hs
        cases hs
        exact K hn hz H locs rl h1 h2 h3 h4
    | ge =>
      simp only [xcmp, decide_eq_true_eq] at hs
      refine lv_icmp_ge hx hb hd (xjump ht) (fun q => ?_) (fun q => ?_)
      · rw [if_pos q] at hs
        cases hs
        exact K hn hz H locs rl h1 h2 h3 h4
      · rw [if_neg q] at hs
        cases hs
        exact K hn hz H locs rl h1 h2 h3 h4
    | gt =>
      simp only [xcmp, decide_eq_true_eq] at hs
      refine lv_icmp_gt hx hb hd (xjump ht) (fun q => ?_) (fun q => ?_)
      · rw [if_pos q] at hs
        cases hs
        exact K hn hz H locs rl h1 h2 h3 h4
      · rw [if_neg q] at hs
        cases hs
        exact K hn hz H locs rl h1 h2 h3 h4
    | le =>
      simp only [xcmp, decide_eq_true_eq] at hs
      refine lv_icmp_le hx hb hd (xjump ht) (fun q => ?_) (fun q => ?_)
      · rw [if_pos q] at hs
        cases hs
        exact K hn hz H locs rl h1 h2 h3 h4
      · rw [if_neg q] at hs
        cases hs
        exact K hn hz H locs rl h1 h2 h3 h4
  · cases hs
theorem xs_table {d lo hi : Int} {offs : Array Int} (F : XF p s m args meth c b base dA D cl Ts ty L xs ta lit ldcs cc own ini) (G : XG Ts cl tf ty) (hd : decode cc pc = .ok (raw, n)) (hok : xok Ts cl own tf nf ty ldcs ini pc raw (.tableswitch d lo hi offs, n, x1, x2)) (hs : xstep nf L xs lit mc (.tableswitch d lo hi offs, n, x1, x2) pc ls st h = some (.inl (pc', ls', st', h'))) (K : XK p l e R s m args below meth c Q b base ta dA D cl n0 z0 pc' ls' st' h') : XK p l e R s m args below meth c Q b base ta dA D cl n0 z0 pc ls st h := by
  obtain ⟨hx, hb, hown, hts, hK, hA, hX, hbl, hbs, hini, hTx⟩ := F
  obtain ⟨hcl, ty0, ty1, ty2, ty3, ty5, tyR⟩ := G
  simp only [xstep] at hs
  split at hs
  · obtain ⟨rfl, hd0, ho⟩ := hok
    intro hn hz H locs rl h1 h2 h3 h4
    split at hs
    · rename_i hr
      cases hs
      exact lv_tableOut hx hb hd hr (by omega) (K hn hz H locs rl h1 h2 h3 h4)
    · rename_i hr
      split at hs
      · rename_i q hq
        cases hs
        have hq0 := ho q (by have := Array.mem_of_getElem? hq; simpa using this)
        exact lv_tableIn hx hb hd (fun z => hr (Or.inl z)) (fun z => hr (Or.inr z)) hq (by omega) (K hn hz H locs rl h1 h2 h3 h4)
      · cases hs
  · cases hs
theorem xs_lookup {d : Int} {ps : Array (Int × Int)} (F : XF p s m args meth c b base dA D cl Ts ty L xs ta lit ldcs cc own ini) (G : XG Ts cl tf ty) (hd : decode cc pc = .ok (raw, n)) (hok : xok Ts cl own tf nf ty ldcs ini pc raw (.lookupswitch d ps, n, x1, x2)) (hs : xstep nf L xs lit mc (.lookupswitch d ps, n, x1, x2) pc ls st h = some (.inl (pc', ls', st', h'))) (K : XK p l e R s m args below meth c Q b base ta dA D cl n0 z0 pc' ls' st' h') : XK p l e R s m args below meth c Q b base ta dA D cl n0 z0 pc ls st h := by
  obtain ⟨hx, hb, hown, hts, hK, hA, hX, hbl, hbs, hini, hTx⟩ := F
  obtain ⟨hcl, ty0, ty1, ty2, ty3, ty5, tyR⟩ := G
  simp only [xstep] at hs
  split at hs
  · obtain ⟨rfl, hp, hd0, ho⟩ := hok
    rename_i x st0
    cases hs
    have key : ∀ (qs : List (Int × Int)), (∀ q ∈ qs, 0 ≤ (pc : Int) + q.2) → 0 ≤ (pc : Int) + Op.lookupswitch.offset qs d x.toInt := by
      intro qs
      induction qs with
      | nil => intro _; exact hd0
      | cons q qs ih =>
        intro hq
        obtain ⟨q1, q2⟩ := q
        rw [Op.lookupswitch.offset_cons]
        split
        · exact hq _ List.mem_cons_self
        · exact ih (fun r hr => hq r (List.mem_cons_of_mem _ hr))
    have k0 := key ps.toList ho
    intro hn hz H locs rl h1 h2 h3 h4
    exact lv_lookup hx hb hd hp rfl (by omega) (K hn hz H locs rl h1 h2 h3 h4)
  · cases hs
theorem xs_getf {k : Nat} (F : XF p s m args meth c b base dA D cl Ts ty L xs ta lit ldcs cc own ini) (G : XG Ts cl tf ty) (hd : decode cc pc = .ok (raw, n)) (hok : xok Ts cl own tf nf ty ldcs ini pc raw (.getfield k, n, x1, x2)) (hs : xstep nf L xs lit mc (.getfield k, n, x1, x2) pc ls st h = some (.inl (pc', ls', st', h'))) (K : XK p l e R s m args below meth c Q b base ta dA D cl n0 z0 pc' ls' st' h') : XK p l e R s m args below meth c Q b base ta dA D cl n0 z0 pc ls st h := by
  obtain ⟨hx, hb, hown, hts, hK, hA, hX, hbl, hbs, hini, hTx⟩ := F
  obtain ⟨hcl, ty0, ty1, ty2, ty3, ty5, tyR⟩ := G
  simp only [xstep] at hs
  split at hs
  · split at hs
    · rename_i a st0 _ c0 fs hc
      split at hs
      · rename_i hci
        split at hs
        · rename_i v hv
          cases hs
          subst hci
          obtain ⟨rfl, rfl, r, hr, hk, hw⟩ := hok
          have hr : cl[c0]? = some r := by simpa using hr
          intro hn hz H locs rl h1 h2 h3 h4
          exact va_get hx hb hts (hcl _ _ hr).1 hown hK h3 a (xws_get hc) hr k hk (hts _ hw) (fun _ q => q) (by rw [List.getElem?_map, hv]; rfl) hd (K hn hz H locs rl h1 h2 h3 h4)
        · cases hs
      · cases hs
    · cases hs
  · cases hs
theorem xs_iald (F : XF p s m args meth c b base dA D cl Ts ty L xs ta lit ldcs cc own ini) (G : XG Ts cl tf ty) (hd : decode cc pc = .ok (raw, n)) (hok : xok Ts cl own tf nf ty ldcs ini pc raw (.iaload, n, x1, x2)) (hs : xstep nf L xs lit mc (.iaload, n, x1, x2) pc ls st h = some (.inl (pc', ls', st', h'))) (K : XK p l e R s m args below meth c Q b base ta dA D cl n0 z0 pc' ls' st' h') : XK p l e R s m args below meth c Q b base ta dA D cl n0 z0 pc ls st h := by
  obtain ⟨hx, hb, hown, hts, hK, hA, hX, hbl, hbs, hini, hTx⟩ := F
  obtain ⟨hcl, ty0, ty1, ty2, ty3, ty5, tyR⟩ := G
  simp only [xstep] at hs
  obtain ⟨rfl, hraw⟩ := hok
  split at hs
  · split at hs
    · rename_i i a st0 _ t' n1 f hc
      split at hs
      · rename_i hci
        obtain ⟨rfl, hin⟩ := hci
        cases hs
        intro hn hz H locs rl h1 h2 h3 h4
        have K2 := K hn hz H locs rl h1 h2 h3 h4
        have hcell : H[base + a]? = some (arrV (dA t') n1 (fun j => .int (f j))) := h3 a _ (xws_get hc)
        have harr := (hA t').1 n1 (fun j => .int (f j))
        have hi1 : ¬ (i < 0 ∨ (arrV (dA t') n1 (fun j => .int (f j))).slots.size ≤ i.toNatClampNeg) := by rw [arrV_size]; exact xin_of hin
        have hv := arrV_read (dA t') (fun j => Value.int (f j)) (xin_lt hin)
        rcases hraw with ⟨rfl, rfl⟩ | ⟨rfl, rfl⟩ | ⟨rfl, rfl⟩ | ⟨rfl, rfl⟩
        · rw [ty0] at harr
          exact W.iald hx hb hcell harr (fun q => by cases q) hi1 hv rfl rfl hd K2
        · rw [ty3] at harr
          exact W.cald hx hb hcell harr (fun q => by cases q) hi1 hv rfl rfl hd K2
        · rw [ty1] at harr
          exact W.zald hx hb hcell harr (fun q => by cases q) hi1 hv rfl rfl hd K2
        · rw [ty2] at harr
          exact W.bald hx hb hcell harr (fun q => by cases q) hi1 hv rfl rfl hd K2
      · cases hs
    · cases hs
  · split at hs
    · rename_i hci
      obtain ⟨rfl, hin⟩ := hci
      cases hs
      intro hn hz H locs rl h1 h2 h3 h4
      have K2 := K hn hz H locs rl h1 h2 h3 h4
      rcases hraw with ⟨-, rfl⟩ | ⟨q, -⟩ | ⟨q, -⟩ | ⟨q, -⟩
      · exact va_sld hx hb hX (Nat.lt_of_lt_of_le hbl hbs) (Nat.not_le.mpr hbl) h4 (xin_of hin) hd K2
      · cases q
      · cases q
      · cases q
    · cases hs
  · cases hs
theorem xs_lald (F : XF p s m args meth c b base dA D cl Ts ty L xs ta lit ldcs cc own ini) (G : XG Ts cl tf ty) (hd : decode cc pc = .ok (raw, n)) (hok : xok Ts cl own tf nf ty ldcs ini pc raw (.laload, n, x1, x2)) (hs : xstep nf L xs lit mc (.laload, n, x1, x2) pc ls st h = some (.inl (pc', ls', st', h'))) (K : XK p l e R s m args below meth c Q b base ta dA D cl n0 z0 pc' ls' st' h') : XK p l e R s m args below meth c Q b base ta dA D cl n0 z0 pc ls st h := by
  obtain ⟨hx, hb, hown, hts, hK, hA, hX, hbl, hbs, hini, hTx⟩ := F
  obtain ⟨hcl, ty0, ty1, ty2, ty3, ty5, tyR⟩ := G
  simp only [xstep] at hs
  obtain ⟨rfl, rfl⟩ := hok
  split at hs
  · split at hs
    · rename_i i a st0 _ t' n1 f hc
      split at hs
      · rename_i hci
        obtain ⟨rfl, hin⟩ := hci
        cases hs
        intro hn hz H locs rl h1 h2 h3 h4
        have hcell : H[base + a]? = some (arrV (dA 5) n1 (fun j => .long (f j))) := h3 a _ (xws_get hc)
        have harr := (hA 5).1 n1 (fun j => .long (f j))
        rw [ty5] at harr
        exact W.lald hx hb hcell harr (fun q => by cases q) (by rw [arrV_size]; exact xin_of hin) (arrV_read (dA 5) (fun j => Value.long (f j)) (xin_lt hin)) rfl rfl hd (K hn hz H locs rl h1 h2 h3 h4)
      · cases hs
    · cases hs
  · cases hs
theorem xs_aald (F : XF p s m args meth c b base dA D cl Ts ty L xs ta lit ldcs cc own ini) (G : XG Ts cl tf ty) (hd : decode cc pc = .ok (raw, n)) (hok : xok Ts cl own tf nf ty ldcs ini pc raw (.aaload, n, x1, x2)) (hs : xstep nf L xs lit mc (.aaload, n, x1, x2) pc ls st h = some (.inl (pc', ls', st', h'))) (K : XK p l e R s m args below meth c Q b base ta dA D cl n0 z0 pc' ls' st' h') : XK p l e R s m args below meth c Q b base ta dA D cl n0 z0 pc ls st h := by
  obtain ⟨hx, hb, hown, hts, hK, hA, hX, hbl, hbs, hini, hTx⟩ := F
  obtain ⟨hcl, ty0, ty1, ty2, ty3, ty5, tyR⟩ := G
  simp only [xstep] at hs
  obtain ⟨rfl, rfl⟩ := hok
  split at hs
  · split at hs
    · rename_i i a st0 _ t' n1 f hc
      split at hs
      · rename_i hci
        obtain ⟨h6, h12, hin⟩ := hci
        cases hs
        intro hn hz H locs rl h1 h2 h3 h4
        have hcell : H[base + a]? = some (arrV (dA t') n1 (fun j => va_rf ((f j).map (base + ·)))) := h3 a _ (xws_get hc)
        have harr := (hA t').1 n1 (fun j => va_rf ((f j).map (base + ·)))
        have K2 := K hn hz H locs rl h1 h2 h3 h4
        have e : xv b base ta (va_rf (f i.toNatClampNeg)) = va_rf ((f i.toNatClampNeg).map (base + ·)) := by
          cases f i.toNatClampNeg <;> rfl
        rw [List.map_cons, e] at K2
        exact W.aald hx hb hcell harr (tyR _ h6 h12) (fun q => by cases q) (by rw [arrV_size]; exact xin_of hin) (arrV_read (dA t') (fun j => va_rf ((f j).map (base + ·))) (xin_lt hin)) rfl rfl hd K2
      · cases hs
    · cases hs
  · cases hs
theorem xs_alen (F : XF p s m args meth c b base dA D cl Ts ty L xs ta lit ldcs cc own ini) (G : XG Ts cl tf ty) (hd : decode cc pc = .ok (raw, n)) (hok : xok Ts cl own tf nf ty ldcs ini pc raw (.arraylength, n, x1, x2)) (hs : xstep nf L xs lit mc (.arraylength, n, x1, x2) pc ls st h = some (.inl (pc', ls', st', h'))) (K : XK p l e R s m args below meth c Q b base ta dA D cl n0 z0 pc' ls' st' h') : XK p l e R s m args below meth c Q b base ta dA D cl n0 z0 pc ls st h := by
  obtain ⟨hx, hb, hown, hts, hK, hA, hX, hbl, hbs, hini, hTx⟩ := F
  obtain ⟨hcl, ty0, ty1, ty2, ty3, ty5, tyR⟩ := G
  simp only [xstep] at hs
  obtain ⟨rfl, rfl⟩ := hok
  split at hs
  · split at hs
    · rename_i a st0 _ t' n1 f hc
      cases hs
      intro hn hz H locs rl h1 h2 h3 h4
      have K2 := K hn hz H locs rl h1 h2 h3 h4
      have h5 := h3 a _ (xws_get hc)
      obtain f | f | f | f | f := f
      · exact W.alen (n := Int32.ofNat n1) hx hb h5 ((hA t').1 n1 (fun j => .int (f j))) (by show (arrV _ _ _).slots.size.toInt32 = _; rw [arrV_size] <;> rfl) rfl rfl hd K2
      · exact W.alen (n := Int32.ofNat n1) hx hb h5 ((hA t').1 n1 (fun j => .long (f j))) (by show (arrV _ _ _).slots.size.toInt32 = _; rw [arrV_size] <;> rfl) rfl rfl hd K2
      · exact W.alen (n := Int32.ofNat n1) hx hb h5 ((hA t').1 n1 (fun j => .float (f j))) (by show (arrV _ _ _).slots.size.toInt32 = _; rw [arrV_size] <;> rfl) rfl rfl hd K2
      · exact W.alen (n := Int32.ofNat n1) hx hb h5 ((hA t').1 n1 (fun j => .double (f j))) (by show (arrV _ _ _).slots.size.toInt32 = _; rw [arrV_size] <;> rfl) rfl rfl hd K2
      · exact W.alen (n := Int32.ofNat n1) hx hb h5 ((hA t').1 n1 (fun j => va_rf ((f j).map (base + ·)))) (by show (arrV _ _ _).slots.size.toInt32 = _; rw [arrV_size] <;> rfl) rfl rfl hd K2
    · cases hs
  · cases hs
    intro hn hz H locs rl h1 h2 h3 h4
    exact va_slen hx hb hX (Nat.lt_of_lt_of_le hbl hbs) (Nat.not_le.mpr hbl) h4 hd (K hn hz H locs rl h1 h2 h3 h4)
  · split at hs
    · rename_i j st0 hj
      cases hs
      intro hn hz H locs rl h1 h2 h3 h4
      obtain ⟨i, rfl⟩ : ∃ i, j = 2 * i + 1 := ⟨j / 2, by omega⟩
      have hi : (2 * i + 1) / 2 = i := by omega
      rw [hi] at hj K
      obtain ⟨cell, t1, t2, t3, t4, t5, t6, t7⟩ := ((hTx.1.1 i hj.2).2.2.2).kept h4.2.1
      have e1 : (lit.map List.length).getD i 0 = (lit.getD i []).length := by
        rw [List.getD_eq_getElem?_getD, List.getD_eq_getElem?_getD, List.getElem?_map]
        cases lit[i]? <;> rfl
      rw [e1] at t5
      exact W.alen hx hb t1 t2 t5 rfl rfl hd (K hn hz H locs rl h1 h2 h3 h4)
    · cases hs
  · cases hs
theorem xs_ldc {i : Nat} (F : XF p s m args meth c b base dA D cl Ts ty L xs ta lit ldcs cc own ini) (G : XG Ts cl tf ty) (hd : decode cc pc = .ok (raw, n)) (hok : xok Ts cl own tf nf ty ldcs ini pc raw (.ldc i, n, x1, x2)) (hs : xstep nf L xs lit mc (.ldc i, n, x1, x2) pc ls st h = some (.inl (pc', ls', st', h'))) (K : XK p l e R s m args below meth c Q b base ta dA D cl n0 z0 pc' ls' st' h') : XK p l e R s m args below meth c Q b base ta dA D cl n0 z0 pc ls st h := by
  obtain ⟨hx, hb, hown, hts, hK, hA, hX, hbl, hbs, hini, hTx⟩ := F
  obtain ⟨hcl, ty0, ty1, ty2, ty3, ty5, tyR⟩ := G
  simp only [xstep] at hs
  obtain ⟨rfl, rfl, q, hq, q1, q2, q3⟩ := hok
  split at hs
  · cases hs
    intro hn hz H locs rl h1 h2 h3 h4
    have hZ := hTx.2.1 q hq
    rw [q1, q2, q3] at hZ
    exact va_ldcS hx hb hown hZ hd (K hn hz H locs rl h1 h2 h3 h4)
  · cases hs
theorem xs_gets {i : Nat} (F : XF p s m args meth c b base dA D cl Ts ty L xs ta lit ldcs cc own ini) (G : XG Ts cl tf ty) (hd : decode cc pc = .ok (raw, n)) (hok : xok Ts cl own tf nf ty ldcs ini pc raw (.getstatic i, n, x1, x2)) (hs : xstep nf L xs lit mc (.getstatic i, n, x1, x2) pc ls st h = some (.inl (pc', ls', st', h'))) (K : XK p l e R s m args below meth c Q b base ta dA D cl n0 z0 pc' ls' st' h') : XK p l e R s m args below meth c Q b base ta dA D cl n0 z0 pc ls st h := by
  obtain ⟨hx, hb, hown, hts, hK, hA, hX, hbl, hbs, hini, hTx⟩ := F
  obtain ⟨hcl, ty0, ty1, ty2, ty3, ty5, tyR⟩ := G
  simp only [xstep] at hs
  obtain ⟨rfl, rfl, hw⟩ := hok
  rcases hw with ⟨rfl, hw⟩ | ⟨rfl, hw⟩
  · rw [if_pos rfl] at hs
    cases hs
    intro hn hz H locs rl h1 h2 h3 h4
    exact va_gets hx hb hTx.2.2.1 h4 hown (hts _ hw) (fun _ q => q) hd (K hn hz H locs rl h1 h2 h3 h4)
  · rw [if_neg (by decide)] at hs
    cases hs
    intro hn hz H locs rl h1 h2 h3 h4
    exact va_gets hx hb hTx.2.2.2 h4 hown (hts _ hw) (fun _ q => q) hd (K hn hz H locs rl h1 h2 h3 h4)
theorem xs_tval (F : XF p s m args meth c b base dA D cl Ts ty L xs ta lit ldcs cc own ini) (G : XG Ts cl tf ty) (hd : decode cc pc = .ok (raw, n)) (hok : xok Ts cl own tf nf ty ldcs ini pc raw (.saload, n, x1, x2)) (hs : xstep nf L xs lit mc (.saload, n, x1, x2) pc ls st h = some (.inl (pc', ls', st', h'))) (K : XK p l e R s m args below meth c Q b base ta dA D cl n0 z0 pc' ls' st' h') : XK p l e R s m args below meth c Q b base ta dA D cl n0 z0 pc ls st h := by
  obtain ⟨hx, hb, hown, hts, hK, hA, hX, hbl, hbs, hini, hTx⟩ := F
  obtain ⟨hcl, ty0, ty1, ty2, ty3, ty5, tyR⟩ := G
  simp only [xstep] at hs
  obtain ⟨rfl, rfl, hw⟩ := hok
  split at hs
  · split at hs
    · rename_i j st0 hj
      cases hs
      intro hn hz H locs rl h1 h2 h3 h4
      obtain ⟨i, rfl⟩ : ∃ i, j = 2 * i := ⟨j / 2, by omega⟩
      have hi : 2 * i / 2 = i := by omega
      rw [hi] at hj
      exact vk_getf hx hb (hTx.1.1 i hj.2).2.2.1 h4 hown (hts _ hw) (fun _ q => q) hd (K hn hz H locs rl h1 h2 h3 h4)
    · cases hs
  · cases hs
theorem xs_tcod (F : XF p s m args meth c b base dA D cl Ts ty L xs ta lit ldcs cc own ini) (G : XG Ts cl tf ty) (hd : decode cc pc = .ok (raw, n)) (hok : xok Ts cl own tf nf ty ldcs ini pc raw (.sastore, n, x1, x2)) (hs : xstep nf L xs lit mc (.sastore, n, x1, x2) pc ls st h = some (.inl (pc', ls', st', h'))) (K : XK p l e R s m args below meth c Q b base ta dA D cl n0 z0 pc' ls' st' h') : XK p l e R s m args below meth c Q b base ta dA D cl n0 z0 pc ls st h := by
  obtain ⟨hx, hb, hown, hts, hK, hA, hX, hbl, hbs, hini, hTx⟩ := F
  obtain ⟨hcl, ty0, ty1, ty2, ty3, ty5, tyR⟩ := G
  simp only [xstep] at hs
  obtain ⟨rfl, rfl, hw⟩ := hok
  split at hs
  · split at hs
    · rename_i j st0 hj
      cases hs
      intro hn hz H locs rl h1 h2 h3 h4
      obtain ⟨i, rfl⟩ : ∃ i, j = 2 * i := ⟨j / 2, by omega⟩
      have hi : 2 * i / 2 = i := by omega
      rw [hi] at hj
      exact vk_getf hx hb (hTx.1.1 i hj.2).2.1 h4 hown (hts _ hw) (fun _ q => q) hd (K hn hz H locs rl h1 h2 h3 h4)
    · cases hs
  · cases hs
theorem xs_tbyt (F : XF p s m args meth c b base dA D cl Ts ty L xs ta lit ldcs cc own ini) (G : XG Ts cl tf ty) (hd : decode cc pc = .ok (raw, n)) (hok : xok Ts cl own tf nf ty ldcs ini pc raw (.baload, n, x1, x2)) (hs : xstep nf L xs lit mc (.baload, n, x1, x2) pc ls st h = some (.inl (pc', ls', st', h'))) (K : XK p l e R s m args below meth c Q b base ta dA D cl n0 z0 pc' ls' st' h') : XK p l e R s m args below meth c Q b base ta dA D cl n0 z0 pc ls st h := by
  obtain ⟨hx, hb, hown, hts, hK, hA, hX, hbl, hbs, hini, hTx⟩ := F
  obtain ⟨hcl, ty0, ty1, ty2, ty3, ty5, tyR⟩ := G
  simp only [xstep] at hs
  obtain ⟨rfl, rfl⟩ := hok
  split at hs
  · split at hs
    · rename_i i9 j st0 hj
      cases hs
      intro hn hz H locs rl h1 h2 h3 h4
      obtain ⟨i, rfl⟩ : ∃ i, j = 2 * i + 1 := ⟨j / 2, by omega⟩
      have hi : (2 * i + 1) / 2 = i := by omega
      rw [hi] at hj K
      obtain ⟨cell, t1, t2, t3, t4, t5, t6, t7⟩ := ((hTx.1.1 i hj.2.1).2.2.2).kept h4.2.1
      have e1 : (lit.map List.length).getD i 0 = (lit.getD i []).length := by
        rw [List.getD_eq_getElem?_getD, List.getD_eq_getElem?_getD, List.getElem?_map]
        cases lit[i]? <;> rfl
      rw [e1] at t4 t6
      have h9 := xin_lt hj.2.2
      have h8 := xin_of hj.2.2
      exact W.bald hx hb t1 t2 t3 (fun z => z.elim (fun q => h8 (Or.inl q)) (fun q => absurd (Nat.lt_of_lt_of_le h9 t4) (Nat.not_lt.mpr q))) (t6 _ h9) rfl rfl hd (K hn hz H locs rl h1 h2 h3 h4)
    · cases hs
  · cases hs
theorem xs_oinit {k : Nat} (hsz : ls.length = c.maxLocals) (hfr : 1 ≤ R.frames) (hlo : 120 ≤ R.locals) (F : XF p s m args meth c b base dA D cl Ts ty L xs ta lit ldcs cc own ini) (G : XG Ts cl tf ty) (hd : decode cc pc = .ok (raw, n)) (hok : xok Ts cl own tf nf ty ldcs ini pc raw (.invokespecial k, n, x1, x2)) (hs : xstep nf L xs lit mc (.invokespecial k, n, x1, x2) pc ls st h = some (.inl (pc', ls', st', h'))) (K : XK p l e R s m args below meth c Q b base ta dA D cl n0 z0 pc' ls' st' h') : XK p l e R s m args below meth c Q b base ta dA D cl n0 z0 pc ls st h := by
  obtain ⟨hx, hb, hown, hts, hK, hA, hX, hbl, hbs, hini, hTx⟩ := F
  obtain ⟨hcl, ty0, ty1, ty2, ty3, ty5, tyR⟩ := G
  simp only [xstep] at hs
  obtain ⟨rfl, rfl, hw1, hw2, hw3⟩ := hok
  split at hs
  · split at hs
    rename_i hw8
    cases hs
    intro hn hz H locs rl h1 h2 h3 h4
    refine W.objInit hx hb hown (hts _ hw1) (hts _ hw2) (hts _ hw3) rfl (by show rl.size = _; rw [h1.1, hsz]) rfl hd hfr ?_ (K hn hz H locs rl h1 h2 h3 h4)
    show 2 * 0 + _ + 12 ≤ R.locals
    have e9 : ((st'.map (xv b base ta)).map fun v => v.category).sum = xw st' := by
      unfold xw
      rw [List.map_map]
      congr 1
      apply List.map_congr_left
      intro v _
      exact xv_cat' b base ta v
    omega
    cases hs
  · cases hs
end XPLAIN
end
section
/-! THE INSTRUCTIONS THAT CHANGE THE HEAP -/
section XHEAP
variable {p : Program} {l : Launch} {e : Env} {R : Room} {s : State} {m : MethodId} {args : Array Value} {below : List Frame} {meth : Method} {c : Code} {Q : State → Prop}
variable {b base : Nat} {ta : (Nat → Nat) × Option Nat} {dA : Nat → ClassId} {D : va_G} {cl : List vw_C} {n0 z0 : Nat} {cc : ByteArray} {pc pc' n : Nat} {ls ls' : xL} {st st' : List Value} {h h' : xH} {raw : Instr} {x1 x2 : Nat}
variable {Ts : List Cond} {ty : Nat → FieldType} {own : String} {tf : Nat → Nat → Nat} {ini : Bool}
variable {nf : Nat → List Value} {L : Nat} {xs : Nat → Int32} {mc : Nat → Option Nat} {lit : List (List Int32)} {ldcs : List (String × Nat × String × Nat)}
/-- a value that fits a field in the pure machine does in the real one -/
theorem xfit_of {t : FieldType} {v : Value} (h : xfit (xtc t) v = true) : narrow t (xv b base ta v) = xv b base ta v ∧ fits t (xv b base ta v) = true := by
  cases v with
  | int x =>
    cases t <;> simp [xfit, xtc] at h
    · exact h
    · exact h
    · exact ⟨rfl, rfl⟩
    · rcases h with rfl | rfl <;> exact ⟨rfl, rfl⟩
  | long x => cases t <;> simp [xfit, xtc] at h; exact ⟨rfl, rfl⟩
  | null => cases t <;> simp [xfit, xtc] at h <;> exact ⟨rfl, rfl⟩
  | ref k => cases t <;> simp [xfit, xtc] at h <;> exact ⟨rfl, rfl⟩
  | _ => cases h
theorem xat_i {t n a : Nat} {f : Nat → Int32} {H1 : Heap} (h : H1[base + a]? = some (arrV (dA t) n (fun j => .int (f j)))) : va_at D cl (base + a, xtr b base ta dA (.inl (t, n, .inl f))) H1 := h
theorem xat_l {t n a : Nat} {f : Nat → Int64} {H1 : Heap} (h : H1[base + a]? = some (arrV (dA t) n (fun j => .long (f j)))) : va_at D cl (base + a, xtr b base ta dA (.inl (t, n, .inr (.inl f)))) H1 := h
theorem xat_q {t n a : Nat} {f : Nat → Option Nat} {H1 : Heap} (h : H1[base + a]? = some (arrV (dA t) n (fun j => va_rf ((f j).map (base + ·))))) : va_at D cl (base + a, xtr b base ta dA (.inl (t, n, .inr (.inr (.inr (.inr f)))))) H1 := h
/-- behind a change of one cell that keeps its size -/
theorem xk_set {a : Nat} {c0 c1 : xC} {H1 : Heap} {locs1 : List Loc} {rl : Array Slot} (hc : h[a]? = some c0) (he : xcz c1 = xcz c0) (K : XK p l e R s m args below meth c Q b base ta dA D cl n0 z0 pc' ls st (h.set a c1)) (hn : n0 ≤ h.length) (hz : z0 ≤ xsz h) (h1 : xls b base ta ls rl) (h2 : H1.size = base + h.length) (h3 : va_P D cl ((xws b base ta dA h).set a (base + a, xtr b base ta dA c1)) H1) (h4 : va_S (fun q => base ≤ q) s.heap H1 locs1) : W p l e R s m args below meth c H1 locs1 (h.length - n0) (xsz h - z0) Q (F0 m pc' rl (st.map (xv b base ta))) := by
  have K2 := K (by rw [List.length_set]; exact hn) (by rw [xsz_set hc he]; exact hz) H1 locs1 rl h1 (by rw [List.length_set]; exact h2) (by rw [xws_set]; exact h3) h4
  rw [List.length_set, xsz_set hc he] at K2
  exact K2
/-- behind a new cell -/
theorem xk_new {c1 : xC} {H H1 : Heap} {locs1 : List Loc} {rl : Array Slot} {N : Nat} (K : XK p l e R s m args below meth c Q b base ta dA D cl n0 z0 pc' ls (.ref h.length :: st) (h ++ [c1])) (hN : xcz c1 = N) (hn : n0 ≤ h.length) (hz : z0 ≤ xsz h) (h1 : xls b base ta ls rl) (h2 : H.size = base + h.length) (h3 : va_P D cl (xws b base ta dA h) H) (e1 : va_at D cl (base + h.length, xtr b base ta dA c1) H1) (z1 : H1.size = H.size + 1) (o1 : ∀ q, q < H.size → H1[q]? = H[q]?) (h4 : va_S (fun q => base ≤ q) s.heap H locs1) : W p l e R s m args below meth c H1 locs1 (h.length - n0 + 1) (xsz h - z0 + N) Q (F0 m pc' rl (.ref H.size :: st.map (xv b base ta))) := by
  have hP : va_P D cl (xws b base ta dA (h ++ [c1])) H1 := by
    rw [xws_app]
    refine (h3.kept (fun k q hk => o1 q.1 ((h3 k q hk).lt))).app (fun k q hk => ?_)
    have hz : k < 1 := (List.getElem?_eq_some_iff.mp hk).1
    rw [show k = 0 by omega] at hk
    cases hk
    exact e1
  have K2 := K (by simp; omega) (by rw [xsz_app]; omega) H1 locs1 rl h1 (by rw [z1, h2]; simp; omega) hP ⟨by rw [z1]; exact Nat.le_succ_of_le h4.1, fun q hq hA => (o1 q (Nat.lt_of_lt_of_le hq h4.1)).trans (h4.2.1 q hq hA), h4.2.2⟩
  rw [xsz_app, hN] at K2
  have e2 : (h ++ [c1]).length - n0 = h.length - n0 + 1 := by simp; omega
  have e3 : xsz h + N - z0 = xsz h - z0 + N := by omega
  rw [e2, e3] at K2
  rw [h2]
  exact K2
theorem xs_putf {k : Nat} (F : XF p s m args meth c b base dA D cl Ts ty L xs ta lit ldcs cc own ini) (G : XG Ts cl tf ty) (hd : decode cc pc = .ok (raw, n)) (hok : xok Ts cl own tf nf ty ldcs ini pc raw (.putfield k, n, x1, x2)) (hs : xstep nf L xs lit mc (.putfield k, n, x1, x2) pc ls st h = some (.inl (pc', ls', st', h'))) (hR : h'.length - n0 ≤ R.cells ∧ xsz h' - z0 ≤ R.slots) (K : XK p l e R s m args below meth c Q b base ta dA D cl n0 z0 pc' ls' st' h') : XK p l e R s m args below meth c Q b base ta dA D cl n0 z0 pc ls st h := by
  obtain ⟨hx, hb, hown, hts, hK, hA, hX, hbl, hbs, hini, hTx⟩ := F
  obtain ⟨hcl, ty0, ty1, ty2, ty3, ty5, tyR⟩ := G
  simp only [xstep] at hs
  split at hs
  · split at hs
    · rename_i v a st0 _ c0 fs hc
      split at hs
      · rename_i hci
        obtain ⟨hci, hkl, hfit⟩ := hci
        cases hs
        subst hci
        obtain ⟨rfl, ht, ix, hix, r, hr, hk, hw, hfin⟩ := hok
        have hr : cl[c0]? = some r := by simpa using hr
        have hraw : raw = .putfield ix := by
          split at hix
          · rw [List.mem_singleton.mp hix]
          · cases hix
        subst hraw
        obtain ⟨hin, ⟨ty0', hty⟩, hnm⟩ := hcl _ _ hr
        obtain ⟨C, T, N⟩ := r
        rw [ht, ← (hty k hk).2] at hfit
        obtain ⟨hna, hfi⟩ := xfit_of (b := b) (base := base) (ta := ta) hfit
        intro hn hz H locs rl h1 h2 h3 h4
        have he := xws_get (b := b) (base := base) (ta := ta) (dA := dA) hc
        have hap := va_apart (own := own) hts hin ty0' (fun k hk => (hty k hk).1) hnm hK hr
        obtain ⟨r, g1, cell, q1, q2, q3, q4⟩ := h3 a _ he
        have e0 : r = (C, T, N) := Option.some.inj (g1.symm.trans hr)
        subst e0
        obtain ⟨hS, hfc, kC, hkC, hkind⟩ := hK.1 c0 _ hr
        obtain ⟨cf, kf, fi, f, hi, hsl⟩ := hS k hk
        have hlay := hts _ (hin _ (u_in_lay hk))
        unfold u_lay at hlay
        have hst := (u_facts hfc hkC (u_lays hts hin hk) hi).1
        have fin : ∀ (H' : Heap), H'[base + a]? = some (cell.setSlot (D.2 c0 k) (xv b base ta v)) → H'.size = H.size → (∀ q, q ≠ base + a → H'[q]? = H[q]?) → W p l e R s m args below meth c H' (locs ++ [⟨base + a, D.2 c0 k⟩]) (h.length - n0) (xsz h - z0) Q (F0 m (pc + 3) rl (st'.map (xv b base ta))) := by
          intro H' e1 e2 e3
          refine xk_set hc ?_ K hn hz h1 (e2.trans h2) ?_ (h4.put e2 e3 (Nat.le_add_right _ _))
          · simp [xcz]
          · have hl : k < (fs.map (xv b base ta)).length := by rw [List.length_map]; exact hkl
            have := h3.set (xws_D h) he (e := .inr (c0, (fs.map (xv b base ta)).set k (xv b base ta v))) ⟨_, hr, t_OB.to (V := updV (vp_V (fs.map (xv b base ta))) k (xv b base ta v)) ⟨_, e1, q2, q3, t_set q4 hap hk _⟩ (fun j _ => vp_updV_set hl _ j)⟩ e3
            rw [← List.map_set] at this
            exact this
        rcases hfin with hf | ⟨hf, hi9, hdecl⟩
        · rw [if_neg (by rw [hf]; decide)] at hlay
          have h6 := u_store hfc hkC hkind hlay hi (hty k hk).1 hna hfi
          refine W.putK hx hb (f := f) ⟨hown, hts _ hw, ⟨_, _, _, hi⟩, hst⟩ (by rw [q2]; exact h6) q1 q3 (by rw [hsl]; exact k2_hasslot (q4 k hk)) rfl rfl hd fun H' e1 e2 e3 => ?_
          rw [hsl] at e1 ⊢
          exact fin H' e1 e2 e3
        · rw [if_pos hf] at hlay
          have hcf : m.cls = cf := by
            obtain ⟨_, _, c', _, _, _, -, -, hf', -, -, -, hown2, -⟩ := Cond.laysFinal_spec hlay
            have e1 : c' = cf := by have := hi.symm.trans hf'; simp at this; exact this.1.symm
            rw [hdecl] at hown2
            rw [← e1]; exact Option.some.inj (hown.symm.trans hown2)
          have h6 := u_fits hfc hkC hkind (Or.inr hlay) hi (hty k hk).1 hna hfi
          refine W.putFinK hx hb hown (hts _ hw) hi hst hcf (hini hi9) (by rw [q2]; exact h6) q1 q3 (by rw [hsl]; exact k2_hasslot (q4 k hk)) rfl rfl hd fun H' e1 e2 e3 => ?_
          rw [hsl] at e1 ⊢
          exact fin H' e1 e2 e3
      · cases hs
    · cases hs
  · cases hs
theorem xs_iast (F : XF p s m args meth c b base dA D cl Ts ty L xs ta lit ldcs cc own ini) (G : XG Ts cl tf ty) (hd : decode cc pc = .ok (raw, n)) (hok : xok Ts cl own tf nf ty ldcs ini pc raw (.iastore, n, x1, x2)) (hs : xstep nf L xs lit mc (.iastore, n, x1, x2) pc ls st h = some (.inl (pc', ls', st', h'))) (hR : h'.length - n0 ≤ R.cells ∧ xsz h' - z0 ≤ R.slots) (K : XK p l e R s m args below meth c Q b base ta dA D cl n0 z0 pc' ls' st' h') : XK p l e R s m args below meth c Q b base ta dA D cl n0 z0 pc ls st h := by
  obtain ⟨hx, hb, hown, hts, hK, hA, hX, hbl, hbs, hini, hTx⟩ := F
  obtain ⟨hcl, ty0, ty1, ty2, ty3, ty5, tyR⟩ := G
  simp only [xstep] at hs
  obtain ⟨rfl, hraw⟩ := hok
  split at hs
  · split at hs
    · rename_i x i a st0 _ t' n1 f hc
      split at hs
      · rename_i hci
        obtain ⟨rfl, hin⟩ := hci
        cases hs
        intro hn hz H locs rl h1 h2 h3 h4
        have hcell : H[base + a]? = some (arrV (dA t') n1 (fun j => .int (f j))) := h3 a _ (xws_get hc)
        have harr := (hA t').1 n1 (fun j => .int (f j))
        have hi1 : ¬ (i < 0 ∨ (arrV (dA t') n1 (fun j => .int (f j))).slots.size ≤ i.toNatClampNeg) := by rw [arrV_size]; exact xin_of hin
        rcases hraw with ⟨rfl, rfl⟩ | ⟨rfl, rfl⟩ | ⟨rfl, rfl⟩ | ⟨rfl, rfl⟩
        · rw [ty0] at harr
          refine W.iast hx hb hcell harr (fun q => by cases q) hi1 rfl rfl hd fun H1 e1 z1 oq => ?_
          refine xk_set hc ?_ K hn hz h1 (z1.trans h2) (h3.set (xws_D h) (xws_get hc) ?_ oq) (h4.put z1 oq (Nat.le_add_right _ _))
          · rfl
          refine xat_i ?_
          rw [e1, arrV_store]
          congr 2
          funext q
          by_cases hq : q = i.toNatClampNeg
          · subst hq
            simp [updV, upd, vp_nar, narrow]
          · simp [updV, upd, hq]
        · rw [ty3] at harr
          refine W.cast hx hb hcell harr (fun q => by cases q) hi1 rfl rfl hd fun H1 e1 z1 oq => ?_
          refine xk_set hc ?_ K hn hz h1 (z1.trans h2) (h3.set (xws_D h) (xws_get hc) ?_ oq) (h4.put z1 oq (Nat.le_add_right _ _))
          · rfl
          refine xat_i ?_
          rw [e1, arrV_store]
          congr 2
          funext q
          by_cases hq : q = i.toNatClampNeg
          · subst hq
            simp [updV, upd, vp_nar, narrow]
          · simp [updV, upd, hq]
        · rw [ty1] at harr
          refine W.zast hx hb hcell harr (fun q => by cases q) hi1 rfl rfl hd fun H1 e1 z1 oq => ?_
          refine xk_set hc ?_ K hn hz h1 (z1.trans h2) (h3.set (xws_D h) (xws_get hc) ?_ oq) (h4.put z1 oq (Nat.le_add_right _ _))
          · rfl
          refine xat_i ?_
          rw [e1, arrV_store]
          congr 2
          funext q
          by_cases hq : q = i.toNatClampNeg
          · subst hq
            simp [updV, upd, vp_nar, narrow]
          · simp [updV, upd, hq]
        · rw [ty2] at harr
          refine W.bast hx hb hcell harr (fun q => by cases q) hi1 rfl rfl hd fun H1 e1 z1 oq => ?_
          refine xk_set hc ?_ K hn hz h1 (z1.trans h2) (h3.set (xws_D h) (xws_get hc) ?_ oq) (h4.put z1 oq (Nat.le_add_right _ _))
          · rfl
          refine xat_i ?_
          rw [e1, arrV_store]
          congr 2
          funext q
          by_cases hq : q = i.toNatClampNeg
          · subst hq
            simp [updV, upd, vp_nar, narrow]
          · simp [updV, upd, hq]
      · cases hs
    · cases hs
  · cases hs
theorem xs_last (F : XF p s m args meth c b base dA D cl Ts ty L xs ta lit ldcs cc own ini) (G : XG Ts cl tf ty) (hd : decode cc pc = .ok (raw, n)) (hok : xok Ts cl own tf nf ty ldcs ini pc raw (.lastore, n, x1, x2)) (hs : xstep nf L xs lit mc (.lastore, n, x1, x2) pc ls st h = some (.inl (pc', ls', st', h'))) (hR : h'.length - n0 ≤ R.cells ∧ xsz h' - z0 ≤ R.slots) (K : XK p l e R s m args below meth c Q b base ta dA D cl n0 z0 pc' ls' st' h') : XK p l e R s m args below meth c Q b base ta dA D cl n0 z0 pc ls st h := by
  obtain ⟨hx, hb, hown, hts, hK, hA, hX, hbl, hbs, hini, hTx⟩ := F
  obtain ⟨hcl, ty0, ty1, ty2, ty3, ty5, tyR⟩ := G
  simp only [xstep] at hs
  obtain ⟨rfl, rfl⟩ := hok
  split at hs
  · split at hs
    · rename_i x i a st0 _ t' n1 f hc
      split at hs
      · rename_i hci
        obtain ⟨rfl, hin⟩ := hci
        cases hs
        intro hn hz H locs rl h1 h2 h3 h4
        have hcell : H[base + a]? = some (arrV (dA 5) n1 (fun j => .long (f j))) := h3 a _ (xws_get hc)
        have harr := (hA 5).1 n1 (fun j => .long (f j))
        rw [ty5] at harr
        refine W.last hx hb hcell harr (fun q => by cases q) (by rw [arrV_size]; exact xin_of hin) rfl rfl hd fun H1 e1 z1 oq => ?_
        refine xk_set hc ?_ K hn hz h1 (z1.trans h2) (h3.set (xws_D h) (xws_get hc) ?_ oq) (h4.put z1 oq (Nat.le_add_right _ _))
        · rfl
        refine xat_l ?_
        rw [e1, arrV_store]
        congr 2
        funext q
        by_cases hq : q = i.toNatClampNeg
        · subst hq
          simp [updV, vp_updL]
        · simp [updV, vp_updL, hq]
      · cases hs
    · cases hs
  · cases hs
theorem xs_new {ci : Nat} (F : XF p s m args meth c b base dA D cl Ts ty L xs ta lit ldcs cc own ini) (G : XG Ts cl tf ty) (hd : decode cc pc = .ok (raw, n)) (hok : xok Ts cl own tf nf ty ldcs ini pc raw (.new ci, n, x1, x2)) (hs : xstep nf L xs lit mc (.new ci, n, x1, x2) pc ls st h = some (.inl (pc', ls', st', h'))) (hR : h'.length - n0 ≤ R.cells ∧ xsz h' - z0 ≤ R.slots) (K : XK p l e R s m args below meth c Q b base ta dA D cl n0 z0 pc' ls' st' h') : XK p l e R s m args below meth c Q b base ta dA D cl n0 z0 pc ls st h := by
  obtain ⟨hx, hb, hown, hts, hK, hA, hX, hbl, hbs, hini, hTx⟩ := F
  obtain ⟨hcl, ty0, ty1, ty2, ty3, ty5, tyR⟩ := G
  cases hs
  obtain ⟨rfl, rfl, r, hr, hcl1, hins, hini1, hlen, hfl, hdf⟩ := hok
  have hr : cl[ci]? = some r := by simpa using hr
  obtain ⟨hin, ⟨ty0', hty⟩, hnm⟩ := hcl _ _ hr
  obtain ⟨C, T, N⟩ := r
  intro hn hz H locs rl h1 h2 h3 h4
  have hKn := hK.1 ci _ hr
  have hN : xcz (.inr (ci, nf ci)) = N := hlen
  have hc9 : h.length - n0 + 1 ≤ R.cells := by have := hR.1; simp at this; omega
  have hs9 : xsz h - z0 + N ≤ R.slots := by have := hR.2; rw [xsz_app, hN] at this; omega
  refine W.newcK hx hb hown (hts _ hcl1) (hts _ hins) (hts _ hini1) rfl hd hc9 hs9 hKn.2.1 rfl fun H1 kC hkC e1 z1 o1 => ?_
  refine xk_new (N := N) K hN hn hz h1 h2 h3 ?_ z1 o1 h4
  refine ⟨_, hr, ?_⟩
  rw [← h2]
  refine (u_born ty0' hts hin hKn hkC e1 (fun k hk => (hty k hk).1)).to (fun j hj => ?_)
  have e2 := hdf j hj
  rw [(hty j hj).1] at e2
  have e3 : defaultValue (ty0' j) = (nf ci).getD j .null := Option.some.inj e2
  show _ = ((nf ci).map (xv b base ta)).getD j .null
  have e4 : ((nf ci).map (xv b base ta)).getD j .null = xv b base ta ((nf ci).getD j .null) := by
    rw [List.getD_eq_getElem?_getD, List.getD_eq_getElem?_getD, List.getElem?_map]
    cases (nf ci)[j]? <;> rfl
  rw [e4, ← e3]
  have e5 := hfl j hj
  rw [← (hty j hj).2] at e5
  cases hq : ty0' j <;> first | rfl | (rw [hq] at e5; exact absurd rfl e5)
theorem xs_newa {at_ : ArrayType} (F : XF p s m args meth c b base dA D cl Ts ty L xs ta lit ldcs cc own ini) (G : XG Ts cl tf ty) (hd : decode cc pc = .ok (raw, n)) (hok : xok Ts cl own tf nf ty ldcs ini pc raw (.newarray at_, n, x1, x2)) (hs : xstep nf L xs lit mc (.newarray at_, n, x1, x2) pc ls st h = some (.inl (pc', ls', st', h'))) (hR : h'.length - n0 ≤ R.cells ∧ xsz h' - z0 ≤ R.slots) (K : XK p l e R s m args below meth c Q b base ta dA D cl n0 z0 pc' ls' st' h') : XK p l e R s m args below meth c Q b base ta dA D cl n0 z0 pc ls st h := by
  obtain ⟨hx, hb, hown, hts, hK, hA, hX, hbl, hbs, hini, hTx⟩ := F
  obtain ⟨hcl, ty0, ty1, ty2, ty3, ty5, tyR⟩ := G
  simp only [xstep] at hs
  obtain ⟨rfl, rfl, ht6, hty, hw⟩ := hok
  split at hs
  · rename_i k st0
    split at hs
    · cases hs
    · rename_i hk
      have hk0 : ¬ k < 0 := fun q => hk (Or.inl q)
      have hk1 : k.toNatClampNeg ≤ 100000 := Nat.not_lt.mp fun q => hk (Or.inr q)
      have hcb : componentBytes (Op.newarray.typeOf at_) ≤ 8 := by cases at_ <;> decide
      have hby : k.toNatClampNeg * componentBytes (Op.newarray.typeOf at_) ≤ 536870912 := Nat.le_trans (Nat.mul_le_mul hk1 hcb) (by decide)
      have fin : ∀ (a0 : vp_A), a0.1 = k.toNatClampNeg → (∀ cA : ClassId, vp_cell cA a0 = arrV cA k.toNatClampNeg (fun _ => defaultValue (Op.newarray.typeOf at_))) → xtr b base ta dA (.inl (x1, a0)) = .inl (dA x1, a0) → (h ++ [(.inl (x1, a0) : xC)]).length - n0 ≤ R.cells ∧ xsz (h ++ [(.inl (x1, a0) : xC)]) - z0 ≤ R.slots → XK p l e R s m args below meth c Q b base ta dA D cl n0 z0 (pc + 2) ls (.ref h.length :: st0) (h ++ [.inl (x1, a0)]) → XK p l e R s m args below meth c Q b base ta dA D cl n0 z0 pc ls (.int k :: st0) h := by
        intro a0 ha1 ha2 ha3 hR K hn hz H locs rl h1 h2 h3 h4
        have hc9 : h.length - n0 + 1 ≤ R.cells := by have := hR.1; simp at this; omega
        have hs9 : xsz h - z0 + k.toNatClampNeg ≤ R.slots := by have := hR.2; rw [xsz_app] at this; have e9 : xcz (.inl (x1, a0)) = k.toNatClampNeg := ha1; omega
        refine va_newaK hx hb (hts _ hw) rfl hd rfl hk0 rfl hby hc9 hs9 rfl fun H1 cA e1 z1 o1 hAr hNm => ?_
        have hcA : cA = dA x1 := by
          have h9 := (hA x1).2
          rw [hty] at h9
          have h8 : s.vm.findClass ("[" ++ (Op.newarray.typeOf at_).toString) = some (dA x1) := by cases at_ <;> exact h9
          exact Option.some.inj (hNm.symm.trans h8)
        subst hcA
        refine xk_new (N := k.toNatClampNeg) K ha1 hn hz h1 h2 h3 ?_ z1 o1 h4
        show va_at D cl (base + h.length, xtr b base ta dA (.inl (x1, a0))) H1
        rw [ha3, ← h2]
        show H1[H.size]? = some (vp_cell (dA x1) a0)
        rw [ha2]
        exact e1
      split at hs
      · rename_i h5
        cases hs
        subst h5
        refine fin (k.toNatClampNeg, .inr (.inl (fun _ => 0))) rfl (fun cA => ?_) rfl hR K
        rw [← hty, ty5]
        rfl
      · rename_i h5
        split at hs
        · cases hs
          refine fin (k.toNatClampNeg, .inl (fun _ => 0)) rfl (fun cA => ?_) rfl hR K
          have : ∀ t, t = Op.newarray.typeOf at_ → t = .int ∨ t = .boolean ∨ t = .byte ∨ t = .char ∨ t = .short → vp_cell cA (k.toNatClampNeg, .inl (fun _ => 0)) = arrV cA k.toNatClampNeg (fun _ => defaultValue (Op.newarray.typeOf at_)) := by
            rintro t rfl ht
            rcases ht with ht | ht | ht | ht | ht <;> rw [ht] <;> rfl
          refine this _ rfl ?_
          rw [← hty]
          rcases (show x1 = 0 ∨ x1 = 1 ∨ x1 = 2 ∨ x1 = 3 by omega) with rfl | rfl | rfl | rfl
          · exact Or.inl ty0
          · exact Or.inr (Or.inl ty1)
          · exact Or.inr (Or.inr (Or.inl ty2))
          · exact Or.inr (Or.inr (Or.inr (Or.inl ty3)))
        · cases hs
  · cases hs
/-- the outer array of new T[n][m], behind i rows -/
theorem xouter (c1 : ClassId) (N h0 : Nat) : ∀ i : Nat, Jvm.Free.Multi.outerC c1 N h0 i = arrV c1 N (fun j => va_rf (if j < i then some (h0 + 1 + j) else none)) := by
  intro i
  induction i with
  | zero =>
    show ({ cls := c1, slots := Array.replicate N .null, vm := .none } : Cell) = _
    rw [arrV_new]
    rfl
  | succ i ih =>
    show (Jvm.Free.Multi.outerC c1 N h0 i).setSlot i (.ref (h0 + 1 + i)) = _
    rw [ih, arrV_store]
    refine congrArg (arrV c1 N) (funext fun j => ?_)
    by_cases e1 : j = i
    · subst e1
      simp [updV, va_rf]
    · have e2 : j < i + 1 ↔ j < i := by omega
      simp [updV, e1, e2]
theorem xs_anewa {t : Nat} (F : XF p s m args meth c b base dA D cl Ts ty L xs ta lit ldcs cc own ini) (G : XG Ts cl tf ty) (hd : decode cc pc = .ok (raw, n)) (hok : xok Ts cl own tf nf ty ldcs ini pc raw (.anewarray t, n, x1, x2)) (hs : xstep nf L xs lit mc (.anewarray t, n, x1, x2) pc ls st h = some (.inl (pc', ls', st', h'))) (hR : h'.length - n0 ≤ R.cells ∧ xsz h' - z0 ≤ R.slots) (K : XK p l e R s m args below meth c Q b base ta dA D cl n0 z0 pc' ls' st' h') : XK p l e R s m args below meth c Q b base ta dA D cl n0 z0 pc ls st h := by
  obtain ⟨hx, hb, hown, hts, hK, hA, hX, hbl, hbs, hini, hTx⟩ := F
  obtain ⟨hcl, ty0, ty1, ty2, ty3, ty5, tyR⟩ := G
  simp only [xstep] at hs
  obtain ⟨rfl, rfl, hm⟩ := hok
  split at hs
  · rename_i k st0
    split at hs
    · cases hs
    · rename_i hk
      have hk0 : ¬ k < 0 := fun q => hk (Or.inl q)
      have hk1 : k.toNatClampNeg ≤ 100000 := Nat.not_lt.mp fun q => hk (Or.inr q)
      cases hs
      split at hm
      · rename_i C hty
        intro hn hz H locs rl h1 h2 h3 h4
        have hc9 : h.length - n0 + 1 ≤ R.cells := by have := hR.1; simp at this; omega
        have hs9 : xsz h - z0 + k.toNatClampNeg ≤ R.slots := by have := hR.2; rw [xsz_app] at this; have e9 : xcz (.inl (t, k.toNatClampNeg, .inr (.inr (.inr (.inr (fun _ => none)))))) = k.toNatClampNeg := rfl; omega
        refine W.anew hx hb hown (hts _ hm.1) (hts _ hm.2) rfl hd rfl hk0 (by omega) hc9 hs9 fun cA kA comp f1 f2 f3 f4 => ?_
        have hcA : cA = dA t := by
          have h9 := (hA t).2
          rw [hty] at h9
          obtain ⟨_, _, -, -, -, h8⟩ := h9
          exact Option.some.inj (f1.symm.trans h8)
        subst hcA
        refine xk_new (N := k.toNatClampNeg) K rfl hn hz h1 h2 h3 ?_ (by simp) (fun q hq => by rw [Array.getElem?_push, if_neg (Nat.ne_of_lt hq)]) h4
        refine xat_q ?_
        rw [← h2, arrV_new]
        simp [va_rf]
      · cases hm
  · cases hs
theorem xs_aast (F : XF p s m args meth c b base dA D cl Ts ty L xs ta lit ldcs cc own ini) (G : XG Ts cl tf ty) (hd : decode cc pc = .ok (raw, n)) (hok : xok Ts cl own tf nf ty ldcs ini pc raw (.aastore, n, x1, x2)) (hs : xstep nf L xs lit mc (.aastore, n, x1, x2) pc ls st h = some (.inl (pc', ls', st', h'))) (hR : h'.length - n0 ≤ R.cells ∧ xsz h' - z0 ≤ R.slots) (K : XK p l e R s m args below meth c Q b base ta dA D cl n0 z0 pc' ls' st' h') : XK p l e R s m args below meth c Q b base ta dA D cl n0 z0 pc ls st h := by
  obtain ⟨hx, hb, hown, hts, hK, hA, hX, hbl, hbs, hini, hTx⟩ := F
  obtain ⟨hcl, ty0, ty1, ty2, ty3, ty5, tyR⟩ := G
  simp only [xstep] at hs
  obtain ⟨rfl, rfl, hty⟩ := hok
  split at hs
  · split at hs
    · rename_i v i a st0 _ _ t' n1 f c0 fs hc hv
      split at hs
      · rename_i hci
        obtain ⟨rfl, h6, h12, rfl, hin⟩ := hci
        cases hs
        split at hty
        · rename_i r hr
          intro hn hz H locs rl h1 h2 h3 h4
          have hcell : H[base + a]? = some (arrV (dA t') n1 (fun j => va_rf ((f j).map (base + ·)))) := h3 a _ (xws_get hc)
          obtain ⟨r', hr', cellV, g1, g2, g3, -⟩ := h3 v _ (xws_get hv)
          have hcls := (hK.1 c0 r hr).2
          have hra := (hA t').2
          rw [hty] at hra
          obtain ⟨kA, comp, k1, k2, k3, -⟩ := hra
          have hcomp : comp = D.1 c0 := Option.some.inj (k3.symm.trans hcls.1)
          subst hcomp
          obtain ⟨kC, hkC, -⟩ := hcls.2
          refine W.aast hx hb hcell (fun q h => by cases h) (fun h => by cases h) k1 k2 rfl hkC ⟨fun q => xin_of hin (Or.inl q), by rw [arrV_size]; exact xin_lt hin⟩ g1 (fun q h => by rw [g3] at h; cases h) (by rw [g2]; exact hkC) (by rw [g2]; exact va_assign hcls) rfl rfl hd fun H1 e1 z1 oq => ?_
          refine xk_set hc ?_ K hn hz h1 (z1.trans h2) (h3.set (xws_D h) (xws_get hc) ?_ oq) (h4.put z1 oq (Nat.le_add_right _ _))
          · rfl
          refine xat_q ?_
          rw [e1, arrV_store]
          congr 2
          funext q
          by_cases hq : q = i.toNatClampNeg
          · subst hq
            simp [updV, va_up, va_rf]
          · simp [updV, va_up, hq]
        · cases hty
      · cases hs
    · cases hs
  · cases hs
theorem xs_manewa {t t' : Nat} (F : XF p s m args meth c b base dA D cl Ts ty L xs ta lit ldcs cc own ini) (G : XG Ts cl tf ty) (hd : decode cc pc = .ok (raw, n)) (hok : xok Ts cl own tf nf ty ldcs ini pc raw (.multianewarray t t', n, x1, x2)) (hs : xstep nf L xs lit mc (.multianewarray t t', n, x1, x2) pc ls st h = some (.inl (pc', ls', st', h'))) (hR : h'.length - n0 ≤ R.cells ∧ xsz h' - z0 ≤ R.slots) (K : XK p l e R s m args below meth c Q b base ta dA D cl n0 z0 pc' ls' st' h') : XK p l e R s m args below meth c Q b base ta dA D cl n0 z0 pc ls st h := by
  obtain ⟨hx, hb, hown, hts, hK, hA, hX, hbl, hbs, hini, hTx⟩ := F
  obtain ⟨hcl, ty0, ty1, ty2, ty3, ty5, tyR⟩ := G
  simp only [xstep] at hs
  obtain ⟨rfl, rfl, rfl, hty, hw1, hw2, hw3⟩ := hok
  split at hs
  · rename_i k' k st0
    split at hs
    · cases hs
    · rename_i hk
      have hk0 : ¬ k < 0 := fun q => hk (Or.inl q)
      have hk1 : k.toNatClampNeg ≤ 1000 := Nat.not_lt.mp fun q => hk (Or.inr (Or.inl q))
      have hk2 : ¬ k' < 0 := fun q => hk (Or.inr (Or.inr (Or.inl q)))
      have hk3 : k'.toNatClampNeg ≤ 1000 := Nat.not_lt.mp fun q => hk (Or.inr (Or.inr (Or.inr q)))
      cases hs
      intro hn hz H locs rl h1 h2 h3 h4 T hT X
      generalize hN : k.toNatClampNeg = N at *
      generalize hM : k'.toNatClampNeg = M at *
      have hsz : xsz (h ++ ((.inl (t, N, .inr (.inr (.inr (.inr (fun i => if i < N then some (h.length + 1 + i) else none))))) : xC) :: List.replicate N (.inl (0, M, .inl (fun _ => 0))))) = xsz h + N + N * M := by
        simp [xsz, xcz, Nat.add_assoc]
      have hln : (h ++ ((.inl (t, N, .inr (.inr (.inr (.inr (fun i => if i < N then some (h.length + 1 + i) else none))))) : xC) :: List.replicate N (.inl (0, M, .inl (fun _ => 0))))).length = h.length + 1 + N := by
        simp; omega
      have hc9 : h.length - n0 + (1 + N) ≤ R.cells := by have := hR.1; rw [hln] at this; omega
      have hs9 : xsz h - z0 + (N + N * M) ≤ R.slots := by have := hR.2; rw [hsz] at this; omega
      obtain ⟨vm₁, cA, comp, -, fA, fC, -, -, X', step⟩ := X.multianewarray2F hx (ty := .int) hown (hts _ hw1) (hts _ hw2) (hts _ hw3) (g := F0 m pc rl (.int k' :: .int k :: st0.map (xv b base ta))) rfl (by rw [hb]; exact hd) rfl hk0 hk2 (by rw [hN]; omega) (by rw [hM]; show M * 4 ≤ _; omega) (by rw [hM]; omega) rfl rfl (by rw [hN]; exact hc9) (by rw [hN, hM]; exact hs9)
      rw [hN, hM] at X' step
      have hcA : cA = dA t := by
        have h9 := (hA t).2
        rw [hty] at h9
        exact Option.some.inj (fA.symm.trans h9)
      have hcC : comp = dA 0 := by
        have h9 := (hA 0).2
        rw [ty0] at h9
        exact Option.some.inj (fC.symm.trans h9)
      subst hcA
      subst hcC
      have hTh : (T.setVm vm₁).heap = H := hT
      obtain ⟨f1, f2, -, -⟩ := Jvm.Free.Multi.fill_facts (T.setVm vm₁) (dA t) (dA 0) N M (defaultValue .int) N
      have hold : ∀ x : Nat, x < H.size → (Jvm.Free.Multi.fill (T.setVm vm₁) (dA t) (dA 0) N M (defaultValue .int) N).heap[x]? = H[x]? := fun x hx => by
        have := Jvm.Free.Multi.fill_old (T.setVm vm₁) (dA t) (dA 0) N M (defaultValue .int) (a := x) (by rw [hTh]; exact hx) N
        rw [hTh] at this
        exact this
      have hrow : ∀ j : Nat, j < N → (Jvm.Free.Multi.fill (T.setVm vm₁) (dA t) (dA 0) N M (defaultValue .int) N).heap[H.size + 1 + j]? = some (arrV (dA 0) M (fun _ => .int 0)) := fun j hj => by
        have := Jvm.Free.Multi.fill_inner (T.setVm vm₁) (dA t) (dA 0) N M (defaultValue .int) N j hj
        rw [hTh] at this
        rw [this]
        show some ({ cls := dA 0, slots := Array.replicate M (.int 0), vm := .none } : Cell) = _
        rw [arrV_new]
      rw [hTh] at f1 f2
      rw [xouter] at f2
      generalize Jvm.Free.Multi.fill (T.setVm vm₁) (dA t) (dA 0) N M (defaultValue .int) N = F at *
      have K2 := K (by rw [hln]; omega) (by rw [hsz]; omega) F.heap locs rl h1 (by rw [f1, hln, h2]; omega) (fun kk q hq => ?_) ⟨by rw [f1]; have := h4.1; omega, fun q hq hA => (hold q (Nat.lt_of_lt_of_le hq h4.1)).trans (h4.2.1 q hq hA), h4.2.2⟩
      · rw [hln, hsz] at K2
        have e1 : h.length + 1 + N - n0 = h.length - n0 + 1 + N := by omega
        have e2 : xsz h + N + N * M - z0 = xsz h - z0 + N + N * M := by omega
        rw [e1, e2] at K2
        obtain ⟨t1, a1, b1⟩ := K2 F rfl X'
        refine ⟨t1, step t1 ?_, b1⟩
        rw [hT, h2]
        exact a1
      · obtain ⟨c1, hc1, rfl⟩ := xws_inv hq
        by_cases hkk : kk < h.length
        · rw [List.getElem?_append_left hkk] at hc1
          exact (h3 kk _ (xws_get hc1)).kept (hold _ (by show base + kk < _; omega))
        · rw [List.getElem?_append_right (Nat.not_lt.mp hkk)] at hc1
          by_cases hk9 : kk - h.length = 0
          · rw [hk9] at hc1
            cases hc1
            have : kk = h.length := by omega
            subst this
            refine xat_q ?_
            rw [← h2, f2]
            refine congrArg some (congrArg (arrV (dA t) N) (funext fun j => ?_))
            by_cases hj : j < N
            · simp [hj, va_rf, h2, Nat.add_assoc]
            · simp [hj]
          · obtain ⟨jj, hjj⟩ : ∃ jj, kk - h.length = jj + 1 := ⟨kk - h.length - 1, by omega⟩
            rw [hjj, List.getElem?_cons_succ] at hc1
            have hlt : jj < N := by
              have := (List.getElem?_eq_some_iff.mp hc1).1
              simpa using this
            rw [List.getElem?_replicate, if_pos hlt] at hc1
            cases hc1
            refine xat_i ?_
            have e9 : base + kk = H.size + 1 + jj := by omega
            rw [e9]
            exact hrow jj hlt
  · cases hs
end XHEAP
end
section
/-! THE ENDS OF A METHOD -/
/-- what has come about when a method, begun in the state s over the frames below, has ended: r: how; h': the pure heap behind it -/
def XQ (below : List Frame) (s : State) (b base : Nat) (ta : (Nat → Nat) × Option Nat) (dA : Nat → ClassId) (D : va_G) (cl : List vw_C) (n0 z0 : Nat) (r : xO) (h' : xH) (t : State) : Prop :=
  ∃ (o : Outcome) (locs : List Loc), t.status = .running ∧ Ended t below o ∧ s.WarmedH t.vm ∧ s.sameButNew ({ t with vm := s.vm } : State) locs (h'.length - n0) (xsz h' - z0) ∧ t.heap.size = base + h'.length ∧ va_P D cl (xws b base ta dA h') t.heap ∧ va_S (fun q => base ≤ q) s.heap t.heap locs ∧
    (match r with | .inl v => o = .returned (v.map (xv b base ta)) | .inr (_, a) => o = .threw (base + a))
/-- the method's type of result fits the instruction that ends it -/
def xokR (ret : Option FieldType) (o : xI) : Prop := match o with
  | (.ireturn, _, t, _) => ∃ ft ∈ ret.toList, xtc ft = t
  | (.areturn, _, _, _) => ∃ ft ∈ ret.toList, xtc ft = 6
  | (.return_, _, _, _) => ret = none
  | _ => True
section XENDS
variable {p : Program} {l : Launch} {e : Env} {R : Room} {s : State} {m : MethodId} {args : Array Value} {below : List Frame} {meth : Method} {c : Code}
variable {b base : Nat} {ta : (Nat → Nat) × Option Nat} {dA : Nat → ClassId} {D : va_G} {cl : List vw_C} {n0 z0 : Nat} {cc : ByteArray} {pc n : Nat} {ls : xL} {st : List Value} {h h' : xH} {raw : Instr} {x1 x2 : Nat} {r : xO}
variable {Ts : List Cond} {ty : Nat → FieldType} {own : String} {tf : Nat → Nat → Nat} {ini : Bool} {ret : Option FieldType}
variable {nf : Nat → List Value} {L : Nat} {xs : Nat → Int32} {mc : Nat → Option Nat} {lit : List (List Int32)} {ldcs : List (String × Nat × String × Nat)}
theorem W.mono {Q Q' : State → Prop} {H : Heap} {locs : List Loc} {cells slots : Nat} {g : JFrame} (hQ : ∀ t, Q t → Q' t) (k : W p l e R s m args below meth c H locs cells slots Q g) : W p l e R s m args below meth c H locs cells slots Q' g := fun T hT X => by
  obtain ⟨t, a1, b1⟩ := k T hT X
  exact ⟨t, a1, hQ t b1⟩
/-- out of the kit's end of a method that returns -/
theorem xq_of {H : Heap} {locs : List Loc} {v : Option Value} (h2 : H.size = base + h.length) (h3 : va_P D cl (xws b base ta dA h) H) (h4 : va_S (fun q => base ≤ q) s.heap H locs) (t : State)
    (hM : MQ below (fun _ _ o t => o = .returned (v.map (xv b base ta)) ∧ t.heap = H) args s (h.length - n0) (xsz h - z0) (fun q => base ≤ q) t) : XQ below s b base ta dA D cl n0 z0 (.inl v) h t := by
  obtain ⟨o, hr, he, ⟨ho, ht⟩, L9, ⟨-, hW, hS⟩, hL⟩ := hM
  refine ⟨o, L9, hr, he, hW, hS, by rw [ht]; exact h2, by rw [ht]; exact h3, ⟨by rw [ht]; exact h4.1, fun q hq hA => by rw [ht]; exact h4.2.1 q hq hA, hL⟩, ho⟩
theorem xs_ends (F : XF p s m args meth c b base dA D cl Ts ty L xs ta lit ldcs cc own ini) (hret : meth.sig.returnType = ret) (hlocks : meth.locks = false) {o : xI} (ho : o.1 = .ireturn ∨ o.1 = .areturn ∨ o.1 = .return_) (hd : decode cc pc = .ok (raw, o.2.1)) (hok : xok Ts cl own tf nf ty ldcs ini pc raw o) (hokR : xokR ret o) (hs : xstep nf L xs lit mc o pc ls st h = some (.inr (.inl (r, h')))) : XK p l e R s m args below meth c (XQ below s b base ta dA D cl n0 z0 r h') b base ta dA D cl n0 z0 pc ls st h := by
  obtain ⟨hx, hb, hown, hts, hK, hA, hX, hbl, hbs, hini, hTx⟩ := F
  obtain ⟨i1, n1, x1, x2⟩ := o
  rcases ho with ho | ho | ho
  · have ho : i1 = .ireturn := ho
    subst ho
    simp only [xstep] at hs
    obtain ⟨rfl, rfl⟩ := hok
    obtain ⟨ft, hft, htc⟩ := hokR
    have hft : ret = some ft := by simpa using hft
    split at hs
    · rename_i x
      split at hs
      · rename_i hfit
        cases hs
        intro hn hz H locs rl h1 h2 h3 h4
        rw [← htc] at hfit
        have hna := (xfit_of (b := b) (base := base) (ta := ta) hfit).1
        exact W.mono (xq_of (v := some (.int x)) h2 h3 h4) (W.zret hx hb (hret.trans hft) hna (fun t ht hW => ⟨rfl, ht⟩) h4.2.2 hd hlocks)
      · cases hs
    · cases hs
  · have ho : i1 = .areturn := ho
    subst ho
    simp only [xstep] at hs
    obtain ⟨rfl, rfl⟩ := hok
    obtain ⟨ft, hft, htc⟩ := hokR
    have hft : ret = some ft := by simpa using hft
    split at hs
    · rename_i v
      split at hs
      · rename_i hv
        cases hs
        intro hn hz H locs rl h1 h2 h3 h4
        have hrt : (∃ n, ft = .object n) ∨ ∃ t, ft = .array t := by
          cases ft <;> simp [xtc] at htc
          · exact Or.inl ⟨_, rfl⟩
          · exact Or.inr ⟨_, rfl⟩
        obtain ⟨a, ha⟩ := xv_ref (b := b) (base := base) (ta := ta) hv
        refine W.mono (xq_of (args := args) (v := some v) h2 h3 h4) ?_
        show W p l e R s m args below meth c H locs _ _ _ (F0 m pc rl [xv b base ta v])
        exact W.aret hx hb (hret.trans hft) hrt (Or.inr ⟨a, ha⟩) (fun t ht hW => ⟨rfl, ht⟩) h4.2.2 hd hlocks
      · cases hs
    · cases hs
  · have ho : i1 = .return_ := ho
    subst ho
    simp only [xstep] at hs
    obtain ⟨rfl, rfl⟩ := hok
    have hokR : ret = none := hokR
    split at hs
    · cases hs
      intro hn hz H locs rl h1 h2 h3 h4
      exact W.mono (xq_of (v := none) h2 h3 h4) (W.vret hx hb (hret.trans hokR) (fun t ht hW => ⟨rfl, ht⟩) h4.2.2 hd hlocks)
    · cases hs
end XENDS
end
section
/-! CALLS -/
/-- a word that stays true when more of the tables has been linked -/
def xgw (w : Cond) : Bool := goodWord w || (match w with | .methodLinkNest .. => true | .declares _ => true | .castable .. => true | _ => false)
theorem xgw_at {w : Cond} {args a' : Array Value} {s U : State} (hW : s.WarmedH U.vm) (hg : xgw w = true) (h : w.before args s = true) : w.before a' U = true := by
  unfold xgw at hg
  rcases Bool.or_eq_true _ _ |>.mp hg with h1 | h1
  · exact word_at hW (good_of_word h1) h
  · cases w <;> first | (cases h1; done) | exact va_Nw.use rfl (va_Nw.warmM hW (va_Nw.of rfl h)) | exact va_Nw.use rfl (va_Nw.warmD hW (va_Nw.of rfl h)) | exact va_Nw.use rfl (va_Nw.warmC hW (va_Nw.of rfl h))
/-- a method's code by the tables, with its handlers -/
def XY (Ts : List Cond) (y : MethodName) (bytes : ByteArray) (maxL : Nat) (ret : Option FieldType) (hdl : List (Nat × Nat × Nat × Nat)) : Prop := (hdl = [] ∧ Cond.code y bytes maxL ret ∈ Ts) ∨ Cond.codeWith y bytes maxL ret hdl ∈ Ts
theorem xy_spec {Ts : List Cond} {y : MethodName} {bytes : ByteArray} {maxL : Nat} {ret : Option FieldType} {hdl : List (Nat × Nat × Nat × Nat)} {args : Array Value} {s : State} (h : XY Ts y bytes maxL ret hdl) (hts : ∀ w ∈ Ts, w.before args s = true) :
    ∃ mk meth c, s.methodNamed? y = some mk ∧ s.vm.method? mk = some meth ∧ meth.code = some c ∧ c.code = bytes ∧ c.maxLocals = maxL ∧ c.exceptionTable.toList.map (fun h => (h.startPc, h.endPc, h.handlerPc, h.catchType)) = hdl ∧ meth.sig.returnType = ret ∧ meth.locks = false ∧ parseMethodDescriptor y.desc = some meth.sig := by
  rcases h with ⟨rfl, h⟩ | h
  · have hc := hts _ h
    obtain ⟨mk, hn⟩ := Cond.code_named hc
    obtain ⟨meth, c, h1, h2, h3, h4, h5, h6, h7, h8⟩ := Cond.code_spec hn hc
    refine ⟨mk, meth, c, hn, h1, h2, h3, h4, ?_, h5, h6, h8⟩
    have : c.exceptionTable = #[] := by simpa using h7
    rw [this]
    rfl
  · obtain ⟨mk, meth, c, h0, h1, h2, h3, h4, h5, h6, h7, h8⟩ := Cond.codeWith_spec (hts _ h)
    exact ⟨mk, meth, c, h0, h1, h2, h3, h4, h5, h6, h7, h8⟩
/-- the linked call o stands for the instruction raw in a method of the class own -/
def xokC (Ts : List Cond) (cl : List vw_C) (own host : String) (yM : Nat → MethodName) (mc : Nat → Option Nat) (raw : Instr) (o : xI) : Prop := match o with
  | (.invokeinterface j ix, n, k, kd) => n = 3 ∧ ((yM j).cls ≠ "java/lang/invoke/MethodHandle" ∧ (yM j).cls ≠ "java/lang/invoke/VarHandle") ∧ Cond.initialized (yM j).cls ∈ Ts ∧
    ((kd = 0 ∧ raw = .invokestatic ix ∧ mc j = none ∧ Cond.methodLink own ix (yM j) ∈ Ts ∧ Cond.static (yM j) ∈ Ts ∧ (parseMethodDescriptor (yM j).desc).map (fun d => d.parameters.length) = some k) ∨
     (kd = 1 ∧ raw = .invokevirtual ix ∧ Cond.methodLink own ix (yM j) ∈ Ts ∧ Cond.instanceMethod (yM j) ∈ Ts ∧ Cond.selects (yM j).cls (yM j) (yM j) ∈ Ts ∧ ((∃ ci ∈ (mc j).toList, ci ≠ 1000 ∧ ∃ r ∈ (cl[ci]?).toList, r.1 = (yM j).cls) ∨ (mc j = some 1000 ∧ cl[1000]? = none ∧ (yM j).cls = "java/lang/String")) ∧ (parseMethodDescriptor (yM j).desc).map (fun d => d.parameters.length + 1) = some k) ∨
     (kd = 2 ∧ raw = .invokespecial ix ∧ (yM j).name = "<init>" ∧ (mc j).isSome = true ∧ Cond.methodLink own ix (yM j) ∈ Ts ∧ Cond.instanceMethod (yM j) ∈ Ts ∧ (parseMethodDescriptor (yM j).desc).map (fun d => d.parameters.length + 1) = some k) ∨
     (kd = 3 ∧ raw = .invokespecial ix ∧ (yM j).name = "<init>" ∧ (mc j).isSome = true ∧ Cond.methodLinkNest own ix (yM j) host ∈ Ts ∧ Cond.instanceMethod (yM j) ∈ Ts ∧ (parseMethodDescriptor (yM j).desc).map (fun d => d.parameters.length + 1) = some k))
  | _ => False
section XCALLS
variable {p : Program} {l : Launch} {e : Env} {R : Room} {s : State} {m : MethodId} {args : Array Value} {below : List Frame} {meth : Method} {c : Code} {T : State} {locs : List Loc} {cells slots : Nat}
variable {b base : Nat} {ta : (Nat → Nat) × Option Nat} {dA : Nat → ClassId} {D : va_G} {cl : List vw_C} {Ts : List Cond} {own host : String} {yM : Nat → MethodName} {mc : Nat → Option Nat} {raw : Instr} {j ix n k kd : Nat} {h : xH} {lit : List (List Int32)} {ldcs : List (String × Nat × String × Nat)}
/-- up to the callee's entry -/
theorem xinvoke (X : Stand p l e R s m args below meth c T locs cells slots) (hx : p.tables.exec = Jvm.exec) (hown : s.vm.findClass own = some m.cls) (hts : ∀ w ∈ Ts, w.before args s = true) (hK : va_K D cl [] s) (hP : va_P D cl (xws b base ta dA h) T.heap) (hTx : XTx base ta lit ldcs s) (hS : va_S (fun q => base ≤ q) s.heap T.heap locs)
    {bytes : ByteArray} {maxL : Nat} {ret : Option FieldType} {hdl : List (Nat × Nat × Nat × Nat)} (hY : XY Ts (yM j) bytes maxL ret hdl) (hnl : (yM j).name = "<init>" → ret = none ∧ hdl = [] ∧ Cond.code (yM j) bytes maxL ret ∈ Ts) (hC : xokC Ts cl own host yM mc raw (.invokeinterface j ix, n, k, kd))
    {as rest : List Value} (hk : as.length = k) (hm : ∀ ci, mc j = some ci → (∃ a as' fs, as = .ref a :: as' ∧ h[a]? = some (.inr (ci, fs))) ∨ (ci = 1000 ∧ ∃ i as', i < lit.length ∧ as = .retAddr (2 * i + 1) :: as'))
    {g : JFrame} (hg : g.method = m) (hstack : g.stack = (as.map (xv b base ta)).reverse ++ rest) (hdg : decode c.code g.pc = .ok (raw, 3)) :
    ∃ (mk : MethodId) (vm' : Vm), s.methodNamed? (yM j) = some mk ∧ s.WarmedH vm' ∧ Stand p l e R s m args below meth c (T.setVm vm') locs cells slots ∧
      ∀ target, (∀ acts, Steps p.tables e below (doInvoke e ((T.setVm vm').setTop { g with stack := rest }) acts mk (as.map (xv b base ta)).toArray).1 target) → Steps p.tables e below (T.setTop g) target := by
  obtain ⟨rfl, hy, hini, hC⟩ := hC
  obtain ⟨mk, methM, cM, hnamed, hmethM, -, -, -, -, -, -, hsigM⟩ := xy_spec hY hts
  have hlen : ∀ z, (parseMethodDescriptor (yM j).desc).map (fun d => d.parameters.length + z) = some k → methM.sig.parameters.length + z = k := fun z hz => by
    rw [hsigM] at hz
    exact Option.some.inj hz
  have hrecv : ∀ ci, mc j = some ci → ∃ (a : Nat) (as' : List Value), as.map (xv b base ta) = .ref a :: as'.map (xv b base ta) ∧ as.length = as'.length + 1 := by
    intro ci hci
    rcases hm ci hci with ⟨a, as', fs, rfl, -⟩ | ⟨-, i, as', -, rfl⟩
    · exact ⟨base + a, as', rfl, rfl⟩
    · exact ⟨ta.1 (2 * i), as', rfl, rfl⟩
  rcases hC with ⟨-, rfl, hmc, hl, hst, hp⟩ | ⟨-, rfl, hl, hin, hse, hcc, hp⟩ | ⟨-, rfl, hnm, hmc, hl, hin, hp⟩ | ⟨-, rfl, hnm, hmc, hl, hin, hp⟩
  · have hstatic : methM.isStatic = true := Cond.static_spec hnamed hmethM (hts _ hst)
    obtain ⟨kP, hkP, -⟩ := className_of_methodNamed hnamed
    have hinitP : kP.init = .initialized := Cond.initialized_spec (findClass_of_methodNamed hnamed) hkP (hts _ hini)
    obtain ⟨vm₁, X₁, hstep₁⟩ := X.invokestatic hx hown (hts _ hl) hnamed hmethM hstatic hkP hinitP hy (g := g) hg (argsL := as.map (xv b base ta)) (rest := rest) (by rw [List.length_map, hk]; exact (hlen 0 hp).symm) hstack hdg
    exact ⟨mk, vm₁, hnamed, X₁.warmed, X₁, hstep₁⟩
  · obtain ⟨a, as', e1, e2, cellB, hcB, hoB, hclB⟩ : ∃ (a : Nat) (as' : List Value), as.map (xv b base ta) = .ref a :: as'.map (xv b base ta) ∧ as.length = as'.length + 1 ∧ ∃ cellB : Cell, T.heap[a]? = some cellB ∧ cellB.vm.isStatics = false ∧ s.vm.findClass (yM j).cls = some cellB.cls := by
      rcases hcc with ⟨ci, hci, hne, r, hr, hrC⟩ | ⟨hci, h1000, hS9⟩
      · have hci : mc j = some ci := by simpa using hci
        have hr : cl[ci]? = some r := by simpa using hr
        rcases hm ci hci with ⟨a, as', fs, rfl, ha⟩ | ⟨h9, -⟩
        · obtain ⟨cellB, hcB, hoB, hclB⟩ := va_recv hK hP hr (xws_get ha)
          rw [hrC] at hclB
          exact ⟨base + a, as', rfl, rfl, cellB, hcB, hoB, hclB⟩
        · exact absurd h9 hne
      · rcases hm 1000 hci with ⟨a, as', fs, rfl, ha⟩ | ⟨-, i, as', hi, rfl⟩
        · obtain ⟨r9, hr9, -⟩ := hP a _ (xws_get ha)
          rw [h1000] at hr9
          cases hr9
        · obtain ⟨cellB, hcB, hoB, hclB⟩ := vk_recv hTx.1 hi hS
          exact ⟨ta.1 (2 * i), as', rfl, rfl, cellB, hcB, hoB, by rw [hS9]; exact hclB⟩
    obtain ⟨mk', methM', hnamed', hmethM', hstM, habM⟩ := Cond.instanceMethod_spec (hts _ hin)
    cases hnamed.symm.trans hnamed'
    cases hmethM.symm.trans hmethM'
    obtain ⟨c2, r2, m2, q1, q2, q3, q4, kP, hkP, hkPi⟩ := Cond.selects_spec (hts _ hse)
    cases hclB.symm.trans q1
    cases (State.methodFound?_of_named hnamed hy).symm.trans q2
    cases hnamed.symm.trans q3
    have hselP : selectMethod e.platform s.vm cellB.cls mk = .method mk := by rw [Launch.admits_selectMethod X.admits]; exact q4
    rw [e1] at hstack ⊢
    obtain ⟨vm₁, X₁, hstep₁⟩ := X.invokevirtual hx hown (hts _ hl) hnamed hmethM hstM hkP hkPi hy (a := a) (cell := cellB) hcB
      (fun z h => by rw [h] at hoB; cases hoB) hselP hmethM habM hkP hkPi (g := g) hg (argsL := as'.map (xv b base ta)) (rest := rest) (by have := hlen 1 hp; rw [List.length_map]; omega) (by rw [hstack]; simp) hdg
    exact ⟨mk, vm₁, hnamed, X₁.warmed, X₁, hstep₁⟩
  · obtain ⟨ci, hci⟩ := Option.isSome_iff_exists.mp hmc
    obtain ⟨a, as', e1, e2⟩ := hrecv ci hci
    obtain ⟨rfl, rfl, hcode⟩ := hnl hnm
    subst hg
    rw [e1] at hstack ⊢
    have hpl : e.platform.magicAccessors = ({} : Platform).magicAccessors := by rw [X.admits.platform]
    obtain ⟨mk', methM', cM', kP, vm₁, hnamed', -, -, -, -, -, -, -, hW₁, hstep₁⟩ := Steps.initColdArgs (e := e) X.here hx X.warmed hpl hown hnm hy (hts _ hl) (hts _ hin) (hts _ hcode) (f := g) rfl (a := a) (argsL := as'.map (xv b base ta)) (rest := rest) (fun sig h => by rw [hsigM] at h; cases h; have := hlen 1 hp; rw [List.length_map]; omega) (by rw [hstack]; simp) hdg
    exact ⟨mk', vm₁, hnamed', hW₁, X.noted hW₁, hstep₁⟩
  · obtain ⟨ci, hci⟩ := Option.isSome_iff_exists.mp hmc
    obtain ⟨a, as', e1, e2⟩ := hrecv ci hci
    obtain ⟨rfl, rfl, hcode⟩ := hnl hnm
    subst hg
    rw [e1] at hstack ⊢
    have hpl : e.platform.magicAccessors = ({} : Platform).magicAccessors := by rw [X.admits.platform]
    obtain ⟨mk', methM', cM', kP, vm₁, hnamed', -, -, -, -, -, -, -, hW₁, hstep₁⟩ := Steps.initColdArgsNest (e := e) X.here hx X.warmed hpl hown hnm hy (hts _ hl) (hts _ hin) (hts _ hcode) (f := g) rfl (a := a) (argsL := as'.map (xv b base ta)) (rest := rest) (fun sig h => by rw [hsigM] at h; cases h; have := hlen 1 hp; rw [List.length_map]; omega) (by rw [hstack]; simp) hdg
    exact ⟨mk', vm₁, hnamed', hW₁, X.noted hW₁, hstep₁⟩
end XCALLS
end
section
/-! A CALL AS A WHOLE: into the callee by its own run, and out of it, returned or thrown -/
theorem xsteps_down {tb : Tables} {e : Env} {g : Frame} {below : List Frame} {s t : State} (h : Steps tb e (g :: below) s t) : Steps tb e below s t := by
  obtain ⟨n, h1, h2⟩ := h
  exact ⟨n, h1, fun k hk => Within.weaken (mid := [g]) (h2 k hk)⟩
/-- the two statics of Throwable that hold a reference or null: now, and in every later state that keeps what lies below base -/
def XU (base : Nat) (s : State) : Prop := ∀ (a' : Array Value) (U : State), s.WarmedH U.vm → (∀ q, q < base → U.heap[q]? = s.heap[q]?) → (Cond.isRef (.static Bundle.tN "UNASSIGNED_STACK" Bundle.steD)).before a' U = true ∧ (Cond.isRef (.static Bundle.tN "SUPPRESSED_SENTINEL" Bundle.listD)).before a' U = true
theorem XU.go {base : Nat} {s U : State} (h : XU base s) (hW : s.WarmedH U.vm) (hq : ∀ q, q < base → U.heap[q]? = s.heap[q]?) : XU base U := fun a' V hV hv => h a' V (State.WarmedH.trans hW hV) (fun q hl => (hv q hl).trans (hq q hl))
/-- pairs of classes of which the first can't be cast to the second: now, and in every later state -/
def XV (nc : List (String × String)) (s : State) : Prop := ∀ q ∈ nc, ∀ (a' : Array Value) (U : State), s.WarmedH U.vm → (Cond.not (.castable q.1 q.2)).before a' U = true
theorem XV.go {nc : List (String × String)} {s U : State} (h : XV nc s) (hW : s.WarmedH U.vm) : XV nc U := fun q hq a' V hV => h q hq a' V (State.WarmedH.trans hW hV)
section XENTRY
variable (p : Program) (l : Launch) (e : Env) (b base : Nat) (ta : (Nat → Nat) × Option Nat) (lit : List (List Int32)) (ldcs : List (String × Nat × String × Nat)) (dA : Nat → ClassId) (D : va_G) (cl : List vw_C) (Ts : List Cond) (ty : Nat → FieldType) (L : Nat) (xs : Nat → Int32)
variable (yM : Nat → MethodName) (cM : Nat → ByteArray) (mx : Nat → Nat) (rM : Nat → Option FieldType) (hM : Nat → List (Nat × Nat × Nat × Nat)) (nc : List (String × String))
/-- what holds at the entry of the method j -/
def XE (s : State) (m : MethodId) (args : Array Value) (meth : Method) (c : Code) (j : Nat) : Prop :=
  XF p s m args meth c b base dA D cl Ts ty L xs ta lit ldcs (cM j) (yM j).cls (decide ((yM j).name = "<init>")) ∧ meth.sig.returnType = rM j ∧ meth.locks = false ∧ c.maxLocals = mx j ∧ c.exceptionTable.toList.map (fun h => (h.startPc, h.endPc, h.handlerPc, h.catchType)) = hM j ∧ XU base s ∧ XV nc s
/-- the method j, called with the arguments as on the heap h, ends so: r, h'; d: the frames that it may lay -/
def XGood (d j : Nat) (as : List Value) (h : xH) (r : xO) (h' : xH) : Prop :=
  ∀ (R : Room) (s : State) (m : MethodId) (below : List Frame) (meth : Method) (c : Code), XE p b base ta lit ldcs dA D cl Ts ty L xs yM cM mx rM hM nc s m (as.map (xv b base ta)).toArray meth c j → d + 8 ≤ R.frames → 64 * d + 200 ≤ R.locals → h'.length - h.length ≤ R.cells → xsz h' - xsz h ≤ R.slots → s.heap.size = base + h.length → va_P D cl (xws b base ta dA h) s.heap →
    W p l e R s m (as.map (xv b base ta)).toArray below meth c s.heap [] 0 0 (XQ below s b base ta dA D cl h.length (xsz h) r h') (entryFrame m (as.map (xv b base ta)).toArray (mx j))
/-- what holds of the methods' tables: their code is the tables' -/
def XMt : Prop := (∀ w ∈ Ts, xgw w = true) ∧ (∀ j, XY Ts (yM j) (cM j) (mx j) (rM j) (hM j) ∧ ((yM j).name = "<init>" → rM j = none ∧ hM j = [] ∧ Cond.code (yM j) (cM j) (mx j) (rM j) ∈ Ts) ∧ plainName (yM j).cls = true ∧ mx j ≤ 40)
end XENTRY
section XCALL
variable {p : Program} {l : Launch} {e : Env} {R : Room} {s : State} {m : MethodId} {args : Array Value} {below : List Frame} {meth : Method} {c : Code} {Q : State → Prop}
variable {b base : Nat} {ta : (Nat → Nat) × Option Nat} {dA : Nat → ClassId} {D : va_G} {cl : List vw_C} {n0 z0 : Nat} {pc pc' : Nat} {ls : xL} {st st' : List Value} {h h1 : xH} {raw : Instr}
variable {Ts : List Cond} {ty : Nat → FieldType} {host : String}
variable {nf : Nat → List Value} {L : Nat} {xs : Nat → Int32} {mc : Nat → Option Nat} {lit : List (List Int32)} {ldcs : List (String × Nat × String × Nat)}
variable {yM : Nat → MethodName} {cM : Nat → ByteArray} {mx : Nat → Nat} {rM : Nat → Option FieldType} {hM : Nat → List (Nat × Nat × Nat × Nat)} {nc : List (String × String)}
/-- an exception at the place a has come out of the callee, over the caller's frame at pc -/
def XT (p : Program) (l : Launch) (e : Env) (R : Room) (s : State) (m : MethodId) (args : Array Value) (below : List Frame) (meth : Method) (c : Code) (Q : State → Prop) (b base : Nat) (ta : (Nat → Nat) × Option Nat) (dA : Nat → ClassId) (D : va_G) (cl : List vw_C) (n0 z0 : Nat) (pc : Nat) (ls : xL) (st : List Value) (h : xH) (a : Nat) : Prop :=
  ∀ (H : Heap) (locs : List Loc) (rl : Array Slot), xls b base ta ls rl → H.size = base + h.length → va_P D cl (xws b base ta dA h) H → va_S (fun q => base ≤ q) s.heap H locs →
    ∀ T : State, T.heap = H → Stand p l e R s m args below meth c T locs (h.length - n0) (xsz h - z0) → ∃ t, Steps p.tables e below ((T.setTop (F0 m pc rl (st.map (xv b base ta)))).pushFrame (.throwing (base + a))) t ∧ Q t
/-- what a call in the pure machine says of its operands -/
theorem xcall_spec {j ix n k kd j' : Nat} {as : List Value} (hs : xstep nf L xs lit mc (.invokeinterface j ix, n, k, kd) pc ls st h = some (.inr (.inr (j', as, pc', st')))) : j' = j ∧ pc' = pc + n ∧ st = as.reverse ++ st' ∧ as.length = k ∧ xw st' ≤ 8 ∧ ∀ ci, mc j = some ci → (∃ a as' fs, as = .ref a :: as' ∧ h[a]? = some (.inr (ci, fs))) ∨ (ci = 1000 ∧ ∃ i as', i < lit.length ∧ as = .retAddr (2 * i + 1) :: as') := by
  simp only [xstep] at hs
  split at hs
  · rename_i hk
    have hst : st = st.take k ++ st.drop k := (List.take_append_drop k st).symm
    have hl : (st.take k).length = k := by rw [List.length_take]; omega
    split at hs
    · rename_i hmc
      cases hs
      refine ⟨rfl, rfl, by rw [List.reverse_reverse]; exact hst, by rw [List.length_reverse]; exact hl, hk.2, fun ci hci => by rw [hmc] at hci; cases hci⟩
    · rename_i ci hmc
      split at hs
      · rename_i a as0 he
        split at hs
        · rename_i c0 fs hc
          split at hs
          · rename_i hcc
            subst hcc
            cases hs
            refine ⟨rfl, rfl, ?_, ?_, hk.2, fun ci2 hci => ?_⟩
            · rw [← he, List.reverse_reverse]
              exact hst
            · rw [← he, List.length_reverse]
              exact hl
            · rw [hmc] at hci
              cases hci
              exact Or.inl ⟨a, as0, fs, rfl, hc⟩
          · cases hs
        · cases hs
      · rename_i q as0 he
        split at hs
        · rename_i hq
          cases hs
          refine ⟨rfl, rfl, ?_, ?_, hk.2, fun ci2 hci => ?_⟩
          · rw [← he, List.reverse_reverse]
            exact hst
          · rw [← he, List.length_reverse]
            exact hl
          · rw [hmc] at hci
            cases hci
            refine Or.inr ⟨hq.1, q / 2, as0, hq.2.2, ?_⟩
            rw [show 2 * (q / 2) = q by omega]
        · cases hs
      · cases hs
  · cases hs
theorem xw_map (b base : Nat) (ta : (Nat → Nat) × Option Nat) (st : List Value) : ((st.map (xv b base ta)).map fun v => v.category).sum = xw st := by
  unfold xw
  rw [List.map_map]
  congr 1
  apply List.map_congr_left
  intro v _
  exact xv_cat' b base ta v
set_option maxHeartbeats 1000000 in
theorem xs_call {i d j ix n k kd : Nat} {as : List Value} {rc : xO} (E : XE p b base ta lit ldcs dA D cl Ts ty L xs yM cM mx rM hM nc s m args meth c i) (M : XMt Ts yM cM mx rM hM) (hd : decode (cM i) pc = .ok (raw, n)) (hC : xokC Ts cl (yM i).cls host yM mc raw (.invokeinterface j ix, n, k, kd))
    (hs : xstep nf L xs lit mc (.invokeinterface j ix, n, k, kd) pc ls st h = some (.inr (.inr (j, as, pc', st')))) (IH : XGood p l e b base ta lit ldcs dA D cl Ts ty L xs yM cM mx rM hM nc d j as h rc h1)
    (hfr : d + 9 ≤ R.frames) (hlo : 64 * (d + 1) + 200 ≤ R.locals) (hm1 : h.length ≤ h1.length) (hm2 : xsz h ≤ xsz h1) (hR : h1.length - n0 ≤ R.cells ∧ xsz h1 - z0 ≤ R.slots) (hsz : ls.length = mx i)
    (kr : ∀ v, rc = .inl v → XK p l e R s m args below meth c Q b base ta dA D cl n0 z0 pc' ls (v.toList ++ st') h1) (kt : ∀ q a, rc = .inr (q, a) → XT p l e R s m args below meth c Q b base ta dA D cl n0 z0 pc ls st' h1 a) :
    XK p l e R s m args below meth c Q b base ta dA D cl n0 z0 pc ls st h := by
  obtain ⟨⟨hx, hb, hown, hts, hK, hA, hX, hbl, hbs, -, hTx⟩, -, -, hml, -, hU, hV⟩ := E
  obtain ⟨hG, hM9⟩ := M
  obtain ⟨hY, hnl, hpl, hmx⟩ := hM9 j
  obtain ⟨-, rfl, hst, hk, hw8, hmc⟩ := xcall_spec hs
  intro hn hz H locs rl g1 g2 g3 g4 T hT X
  have hn3 : n = 3 := hC.1
  subst hn3
  rw [← hb] at hd
  obtain ⟨mk, vm', hnamed, hW', X₁, step⟩ := xinvoke X hx hown hts hK (by rw [hT]; exact g3) hTx (by rw [hT]; exact g4) hY hnl hC hk hmc (g := F0 m pc rl (st.map (xv b base ta))) (rest := st'.map (xv b base ta)) rfl (by show st.map _ = _; rw [hst, List.map_append, List.map_reverse]) hd
  have hts' : ∀ (a' : Array Value) (U : State), s.WarmedH U.vm → ∀ w ∈ Ts, w.before a' U = true := fun a' U hU w hw => xgw_at hU (hG w hw) (hts w hw)
  have hnamed1 : (T.setVm vm').methodNamed? (yM j) = some mk := X₁.named hnamed
  obtain ⟨mk2, methk, ck, hnk, hmk, hck, hcb, hcl, hch, hrk, hlk, hsg⟩ := xy_spec hY (hts' #[] (T.setVm vm') hW')
  cases hnamed1.symm.trans hnk
  have hpk : (T.setVm vm').plainMethod mk := by
    intro kk hkk
    obtain ⟨k2, hk2, hk3⟩ := className_of_methodNamed hnamed1
    cases hkk.symm.trans hk2
    exact plain_of_name (by rw [hk3]; exact hpl)
  have hc9 : h.length - n0 ≤ R.cells := by have := hR.1; omega
  have hs9 : xsz h - z0 ≤ R.slots := by have := hR.2; omega
  obtain ⟨Y, hinto⟩ := X₁.into (g := F0 m pc rl (st'.map (xv b base ta))) rfl (by show rl.size = _; rw [g1.1, hsz, hml]) hd (as.map (xv b base ta)).toArray (R' := { frames := R.frames - 1, cells := R.cells - (h.length - n0), slots := R.slots - (xsz h - z0), locals := R.locals - (8 + (mx j + 11)) }) hmk hck hlk hpk
    (by show R.frames - 1 + 1 ≤ _; omega) (by show 2 * 0 + _ + (ck.maxLocals + 11) + (R.locals - (8 + (mx j + 11))) ≤ _; rw [xw_map, hcl]; omega) (by show _ + (R.cells - _) ≤ _; omega) (by show _ + (R.slots - _) ≤ _; omega)
  generalize hs' : (T.setVm vm').calling (F0 m pc rl (st'.map (xv b base ta))) mk (as.map (xv b base ta)).toArray = s' at Y
  have hvm : s'.vm = vm' := by rw [← hs']; rfl
  have hhp : s'.heap = H := by rw [← hs']; exact hT
  have hWs : s.WarmedH s'.vm := by rw [hvm]; exact hW'
  have hWT : (T.setVm vm').vm.Alike s'.vm := by rw [hvm]; exact Vm.Alike.refl _
  have hnm' : s'.methodNamed? (yM j) = some mk := by
    rw [← hnamed1]
    show State.methodNamed? s' _ = State.methodNamed? (T.setVm vm') _
    unfold State.methodNamed?
    rw [hvm]
    rfl
  have hXE : XE p b base ta lit ldcs dA D cl Ts ty L xs yM cM mx rM hM nc s' mk (as.map (xv b base ta)).toArray methk ck j := by
    refine ⟨⟨hx, hcb, findClass_of_methodNamed hnm', hts' _ s' hWs, va_K.moved hWs.alike hK, fun t => ⟨arrOfT_moved hWs.alike (hA t).1, (hA t).2.moved hWs.alike⟩, ?_, hbl, by rw [hhp, g2]; omega, fun hq => ?_, hTx.go hWs (fun q hq hA9 => by rw [hhp]; exact g4.2.1 q hq hA9)⟩, hrk, hlk, hcl, hch, hU.go hWs (fun q hq => by rw [hhp]; exact g4.2.1 q (Nat.lt_of_lt_of_le hq hbs) (Nat.not_le.mpr hq)), hV.go hWs⟩
    · rw [hhp]
      exact va_X.moved hWs.alike (hX.kept (g4.2.1 b (Nat.lt_of_lt_of_le hbl hbs) (Nat.not_le.mpr hbl)))
    · rw [(name_of_methodNamed hnamed1 hmk).1]
      exact of_decide_eq_true hq
  have WI := IH { frames := R.frames - 1, cells := R.cells - (h.length - n0), slots := R.slots - (xsz h - z0), locals := R.locals - (8 + (mx j + 11)) } s' mk (.java (F0 m pc rl (st'.map (xv b base ta))) :: below) methk ck hXE (by show d + 8 ≤ R.frames - 1; omega) (by show 64 * d + 200 ≤ R.locals - (8 + (mx j + 11)); omega) (by show _ ≤ R.cells - _; have := hR.1; omega) (by show _ ≤ R.slots - _; have := hR.2; omega) (by rw [hhp]; exact g2) (by rw [hhp]; exact g3)
  obtain ⟨t, st1, o, L9, hrun, hend, hWt, hsame, t2, t3, t4, ho⟩ := WI _ (by rw [hhp]; exact hT) Y
  rw [← hcl, ← hinto []] at st1
  have st2 := xsteps_down st1
  have hS : va_S (fun q => base ≤ q) s.heap t.heap (locs ++ L9) := by
    rw [hhp] at t4
    refine ⟨Nat.le_trans g4.1 t4.1, fun q hq hA9 => (t4.2.1 q (Nat.lt_of_lt_of_le hq g4.1) hA9).trans (g4.2.1 q hq hA9), fun q hq => ?_⟩
    rcases List.mem_append.mp hq with hq | hq
    · exact g4.2.2 q hq
    · exact t4.2.2 q hq
  have ec : h.length - n0 + (h1.length - h.length) = h1.length - n0 := by omega
  have es : xsz h - z0 + (xsz h1 - xsz h) = xsz h1 - z0 := by omega
  rw [← hs'] at hWt hsame
  cases rc with
  | inl v =>
    have ho : o = .returned (v.map (xv b base ta)) := ho
    subst ho
    obtain ⟨T2, X2, -, -, ht⟩ := X₁.outOf (g := F0 m pc rl (st'.map (xv b base ta))) rfl hd hend hWt hsame
    rw [ec, es] at X2
    have hh : T2.heap = t.heap := by rw [ht]; rfl
    have K := kr v rfl (by omega) (by omega) t.heap (locs ++ L9) rl g1 t2 t3 hS T2 hh X2
    obtain ⟨t5, a5, b5⟩ := K
    refine ⟨t5, step t5 (fun acts => ?_), b5⟩
    rw [doInvoke_state]
    refine st2.trans ?_
    rw [ht]
    have e9 : (v.map (xv b base ta)).toList ++ st'.map (xv b base ta) = (v.toList ++ st').map (xv b base ta) := by cases v <;> simp
    show Steps p.tables e below (T2.setTop (F0 m (pc + 3) rl ((v.map (xv b base ta)).toList ++ st'.map (xv b base ta)))) t5
    rw [e9]
    exact a5
  | inr qa =>
    obtain ⟨q, a⟩ := qa
    have ho : o = .threw (base + a) := ho
    subst ho
    obtain ⟨T2, X2, -, -, ht⟩ := X₁.outOfThrown (g := F0 m pc rl (st'.map (xv b base ta))) rfl hend hWt hsame
    rw [ec, es] at X2
    have hh : T2.heap = t.heap := by rw [ht]; rfl
    obtain ⟨t5, a5, b5⟩ := kt q a rfl t.heap (locs ++ L9) rl g1 t2 t3 hS T2 hh X2
    refine ⟨t5, step t5 (fun acts => ?_), b5⟩
    rw [doInvoke_state]
    refine st2.trans ?_
    rw [ht]
    exact a5
end XCALL
end
section
/-! A THROW -/
section XREBASE
variable {p : Program} {l : Launch} {e : Env} {R : Room} {s : State} {m : MethodId} {args : Array Value} {below : List Frame} {meth : Method} {c : Code} {T : State} {locs : List Loc} {cells slots : Nat}
/-- the same walk, as if the invocation had begun in its present state -/
theorem xrebase (X : Stand p l e R s m args below meth c T locs cells slots) (hc : cells ≤ R.cells) (hs : slots ≤ R.slots) : Stand p l e { frames := R.frames, cells := R.cells - cells, slots := R.slots - slots, locals := R.locals } (T.setFrames (.invoking m args :: below)) m args below meth c T [] 0 0 := by
  obtain ⟨g₀, hfr⟩ := X.frames_eq
  have hcur : T.cur < T.threads.size := State.cur_lt_of_frames hfr
  have hf : (T.setFrames (.invoking m args :: below)).frames = .invoking m args :: below := State.frames_setFrames _ hcur
  have hm : T.vm.method? m = some meth := X.method'
  have hr := X.room
  simp only [State.hasRoom, Bool.and_eq_true, decide_eq_true_eq] at hr
  obtain ⟨⟨⟨⟨r1, r2, r3, r4, r5, r6⟩, r7⟩, r8⟩, r9⟩ := hr
  rw [State.localsInUse_invoking X.frames X.method X.code] at r1 r4 r5
  rw [X.frames] at r2 r3
  refine ⟨X.admits, X.cas, X.clock, hf, ?_, ?_, hm, X.code, X.here, X.tail, State.WarmedH.refl _, (State.stackLimits_setFrames _ _ _).symm, (State.stackBytes_setFrames _ _).symm, ?_⟩
  · simp only [State.hasRoom, Bool.and_eq_true, decide_eq_true_eq]
    rw [State.localsInUse_invoking hf hm X.code, hf, State.stackLimits_setFrames, State.stackBytes_setFrames, X.limits, X.bytes]
    have h1 := X.heapSize
    have h2 := X.used
    refine ⟨⟨⟨⟨r1, r2, r3, r4, r5, r6⟩, ?_⟩, ?_⟩, X.book⟩
    · show T.heap.size + (R.cells - cells) ≤ _
      omega
    · show T.slotsUsed + (R.slots - slots) ≤ _
      omega
  · have hh := X.hears
    cases below with
    | nil =>
      simp only [State.hears] at hh ⊢
      show (T.vm.method? m).any _ = true
      rw [X.warmed.alike.method?]
      exact hh
    | cons f r =>
      cases f with
      | java g =>
        simp only [State.hears] at hh ⊢
        have e1 : (T.setFrames (.invoking m args :: .java g :: r)).code? g.method = s.code? g.method := by
          rw [State.code?_eq, State.code?_eq]
          show (T.vm.method? g.method).bind _ = _
          rw [X.warmed.alike.method?]
        rw [e1]
        exact hh
      | native g => rfl
      | proc g => rfl
      | _ =>
        simp only [State.hears] at hh ⊢
        show (T.vm.method? m).any _ = true
        rw [X.warmed.alike.method?]
        exact hh
  · obtain ⟨th, hth, -⟩ := State.frames_cons hf
    obtain ⟨th0, hth0, -⟩ := State.frames_cons hfr
    have h := (State.sameButNew.refl (T.setFrames (.invoking m args :: below)) hth).setFrames T.frames (State.cur_lt_of_frames hf)
    rw [State.setFrames_setFrames, State.setFrames_self hth0] at h
    exact h
end XREBASE
/-- the linked throw o stands for 'throw new E()' at pc: its first number: the constructor's entry; then E's class; then the entry of 'new' -/
def xokT (Ts : List Cond) (cl : List vw_C) (own : String) (cc : ByteArray) (pc : Nat) (o : xI) : Prop := match o with
  | (.athrow, ic, ei, ix) => decode cc pc = .ok (.new ix, 3) ∧ decode cc (pc + 3) = .ok (.dup, 1) ∧ decode cc (pc + 3 + 1) = .ok (.invokespecial ic, 3) ∧ decode cc (pc + 3 + 1 + 3) = .ok (.athrow, 1) ∧
    ∃ r ∈ (cl[ei]?).toList, r.2.2 = 0 ∧ Cond.classLink own ix r.1 ∈ Ts ∧ Cond.initialized r.1 ∈ Ts ∧ Cond.instantiable r.1 6 ∈ Ts ∧ Bundle.fit r.1 = true ∧ ∀ w ∈ Bundle.ownAtoms0 own ic r.1 ["java/lang/RuntimeException", "java/lang/Exception"], w ∈ Ts ∨ w = .isRef (.static Bundle.tN "UNASSIGNED_STACK" Bundle.steD) ∨ w = .isRef (.static Bundle.tN "SUPPRESSED_SENTINEL" Bundle.listD)
  | _ => False
section XTHROW
variable {p : Program} {l : Launch} {e : Env} {R : Room} {s : State} {m : MethodId} {args : Array Value} {below : List Frame} {meth : Method} {c : Code}
variable {b base : Nat} {ta : (Nat → Nat) × Option Nat} {dA : Nat → ClassId} {D : va_G} {cl : List vw_C} {n0 z0 : Nat} {cc : ByteArray} {pc : Nat} {ls : xL} {st : List Value} {h h' : xH} {r : xO}
variable {Ts : List Cond} {ty : Nat → FieldType} {own : String} {ini : Bool}
variable {nf : Nat → List Value} {L : Nat} {xs : Nat → Int32} {mc : Nat → Option Nat} {lit : List (List Int32)} {ldcs : List (String × Nat × String × Nat)}
set_option maxHeartbeats 1000000 in
theorem xs_throw {ic ei ix : Nat} (F : XF p s m args meth c b base dA D cl Ts ty L xs ta lit ldcs cc own ini) (hG : ∀ w ∈ Ts, xgw w = true) (hU : XU base s) (htr : e.platform.stackTraces = false) (hlocks : meth.locks = false) (hno : c.exceptionTable.toList = []) (hsz : ls.length = c.maxLocals)
    (hok : xokT Ts cl own cc pc (.athrow, ic, ei, ix)) (hs : xstep nf L xs lit mc (.athrow, ic, ei, ix) pc ls st h = some (.inr (.inl (r, h')))) (hfr : 8 ≤ R.frames) (hlo : 200 ≤ R.locals) (hR : h'.length - n0 ≤ R.cells ∧ xsz h' - z0 ≤ R.slots) :
    XK p l e R s m args below meth c (XQ below s b base ta dA D cl n0 z0 r h') b base ta dA D cl n0 z0 pc ls st h := by
  obtain ⟨hx, hb, hown, hts, hK, hA, hX, hbl, hbs, hini, hTx⟩ := F
  obtain ⟨d0, d3, d4, d7, q, hq, hq0, w1, w2, w3, hfit, hat⟩ := hok
  have hq : cl[ei]? = some q := by simpa using hq
  simp only [xstep] at hs
  split at hs
  · rename_i hw8
    cases hs
    intro hn hz H locs rl g1 g2 g3 g4 T hT X
    have hl1 : (h ++ [(.inr (ei, List.replicate 6 .null) : xC)]).length = h.length + 1 := by simp
    have hz1 : xsz (h ++ [(.inr (ei, List.replicate 6 .null) : xC)]) = xsz h + 6 := by rw [xsz_app]; rfl
    rw [hl1, hz1] at hR
    have hW2 : s.WarmedH (T.setFrames (.invoking m args :: below)).vm := X.warmed
    have X2 := xrebase X (by omega) (by omega)
    generalize hs2 : T.setFrames (.invoking m args :: below) = s2 at X2 hW2
    have hh2 : s2.heap = H := by rw [← hs2]; exact hT
    have hts2 : ∀ w ∈ Ts, w.before args s2 = true := fun w hw => xgw_at hW2 (hG w hw) (hts w hw)
    have hU2 : XU base s2 := hU.go hW2 (fun q hq => by rw [hh2]; exact g4.2.1 q (Nat.lt_of_lt_of_le hq hbs) (Nat.not_le.mpr hq))
    have hown2 : s2.vm.findClass own = some m.cls := by rw [hW2.alike.findClass]; exact hown
    rw [← hb] at d0 d3 d4 d7
    obtain ⟨vm1, cC, kC, f1, f2, f3, f4, X3, st3⟩ := X2.newCold hx hown2 (hts2 _ w1) (hts2 _ w3) (hts2 _ w2) (g := F0 m pc rl (st.map (xv b base ta))) rfl d0 (by show 0 + 1 ≤ R.cells - _; omega) (by show 0 + 6 ≤ R.slots - _; omega)
    have hWd : W p l e { frames := R.frames, cells := R.cells - (h.length - n0), slots := R.slots - (xsz h - z0), locals := R.locals } s2 m args below meth c ((T.setVm vm1).pushCell { cls := cC, slots := kC.instanceTypes.map defaultValue, vm := .none }).heap [] (0 + 1) (0 + 6)
        (fun U => U.status = .running ∧ Ended U below (.threw H.size) ∧ s2.WarmedH U.vm ∧ s2.sameButNew ({ U with vm := s2.vm } : State) [] (0 + 1) (0 + 6) ∧ ∃ ce, U.heap[H.size]? = some ce ∧ Bundle.OwnCell args s2 q.1 H.size .null ce) (F0 m (pc + 3) rl (.ref H.size :: st.map (xv b base ta))) := by
      refine lv_dup hx rfl d3 rfl ?_
      intro T4 hT4 X4
      obtain ⟨U, a1, a2, a3, a4, a5, a6⟩ := X4.ctorThrow0 hx htr (own := own) (cls := q.1) (names := ["java/lang/RuntimeException", "java/lang/Exception"]) (ic := ic) hown2 hfit (by decide +kernel) (fun w hw => by
          rcases hat w hw with h9 | rfl | rfl
          · exact hts2 w h9
          · exact (hU2 args s2 (State.WarmedH.refl _) (fun _ _ => rfl)).1
          · exact (hU2 args s2 (State.WarmedH.refl _) (fun _ _ => rfl)).2) (fun x hx9 => by cases hx9) (a := H.size) f1 f2 (by rw [hT4, ← hT]; simp [State.pushCell, State.setVm]) (by rw [hh2]; exact Nat.le_refl _)
        (g := F0 m (pc + 3 + 1) rl (.ref H.size :: .ref H.size :: st.map (xv b base ta))) rfl (by show rl.size = _; rw [g1.1, hsz]) rfl rfl rfl d4 d7 (by rw [hno]; exact fun x hx9 => by cases hx9) (by show 2 + 3 < R.frames; omega) (by
          show 2 * 0 + _ + (13 * (2 + 1) + 41) ≤ R.locals
          rw [List.map_cons, List.sum_cons, xw_map]
          show 2 * 0 + (1 + xw st) + _ ≤ _
          omega) hlocks
      exact ⟨U, a1, a2, a3, a4, a5, a6⟩
    obtain ⟨U, st4, a2, a3, a4, a5, ce, a6, a7⟩ := hWd _ rfl X3
    have hsz2 : U.heap.size = H.size + 1 := by
      have e1 : U.heap.size ≤ s2.heap.size + (0 + 1) := a5.2.2.1
      have e2 := (Array.getElem?_eq_some_iff.mp a6).1
      rw [hh2] at e1
      omega
    have hold : ∀ x, x < H.size → U.heap[x]? = H[x]? := by
      intro x hx9
      obtain ⟨c9, hc9⟩ : ∃ c9, H[x]? = some c9 := ⟨_, Array.getElem?_eq_getElem hx9⟩
      obtain ⟨c8, q1, q2, q3, q4⟩ := a5.2.2.2.2.2 x c9 (by rw [hh2]; exact hc9)
      have q1 : U.heap[x]? = some c8 := q1
      rw [q1, hc9]
      have e3 : c8.slots = c9.slots := by
        apply Array.ext_getElem?
        intro i
        exact q4 i (by simp)
      rw [q2, e3]
    have hWU : s.WarmedH U.vm := State.WarmedH.trans hW2 a4
    have hP : va_P D cl (xws b base ta dA (h ++ [.inr (ei, List.replicate 6 .null)])) U.heap := by
      rw [xws_app]
      refine (g3.kept (fun k q hk => hold q.1 ((g3 k q hk).lt))).app (fun k q9 hk => ?_)
      have hz9 : k < 1 := (List.getElem?_eq_some_iff.mp hk).1
      rw [show k = 0 by omega] at hk
      cases hk
      refine ⟨q, hq, ce, by rw [← g2]; exact a6, ?_, a7.vm, fun k hk => ?_⟩
      · have e4 := a7.cls
        rw [hW2.alike.findClass, (hK.1 ei q hq).2.1] at e4
        exact (Option.some.inj e4).symm
      · rw [hq0] at hk
        exact absurd hk (Nat.not_lt_zero _)
    have hTU : T.sameButNew ({ U with vm := T.vm } : State) [] (0 + 1) (0 + 6) := by
      rw [← hs2] at a5
      obtain ⟨b1, b2⟩ := a5
      refine ⟨?_, b2⟩
      rw [State.setFrames_setFrames] at b1
      exact b1
    refine ⟨U, st3 U (by rw [hT]; exact st4), .threw (base + h.length), locs ++ [], a2, by rw [← g2]; exact a3, hWU, ?_, by rw [hsz2, g2, hl1]; omega, hP, ⟨by rw [hsz2]; have := g4.1; omega, fun x hx9 hA9 => (hold x (Nat.lt_of_lt_of_le hx9 g4.1)).trans (g4.2.1 x hx9 hA9), fun x hx9 => g4.2.2 x (by simpa using hx9)⟩, rfl⟩
    have e5 := X.same.trans (hTU.setVm s.vm)
    rw [hl1, hz1, show h.length + 1 - n0 = h.length - n0 + (0 + 1) by omega, show xsz h + 6 - z0 = xsz h - z0 + (0 + 6) by omega]
    exact e5
  · cases hs
end XTHROW
end
section
/-! AN EXCEPTION OUT OF A CALL: through the caller, or caught in it -/
/-- by these rows of handlers an exception of the class X that comes out of the call at pc is caught, and the method goes on at q -/
def xokH (Ts : List Cond) (own : String) (nc : List (String × String)) (ns : List String) (pc : Nat) (X : String) (q : Nat) : List (Nat × Nat × Nat × Nat) → Prop
  | [] => False
  | y :: t => (¬ (y.1 ≤ pc ∧ pc < y.2.1) ∧ xokH Ts own nc ns pc X q t) ∨ ((y.1 ≤ pc ∧ pc < y.2.1) ∧ y.2.2.2 ≠ 0 ∧ ((y.2.2.1 = q ∧ Cond.classLink own y.2.2.2 X ∈ Ts) ∨ ((∃ nm ∈ ns, Cond.classLink own y.2.2.2 nm ∈ Ts ∧ (X, nm) ∈ nc) ∧ xokH Ts own nc ns pc X q t)))
section XCATCH
variable {p : Program} {l : Launch} {e : Env} {R : Room} {s : State} {m : MethodId} {args : Array Value} {below : List Frame} {meth : Method} {c : Code} {Q : State → Prop}
variable {b base : Nat} {ta : (Nat → Nat) × Option Nat} {dA : Nat → ClassId} {D : va_G} {cl : List vw_C} {n0 z0 : Nat} {cc : ByteArray} {pc q : Nat} {ls : xL} {st : List Value} {h : xH}
variable {Ts : List Cond} {ty : Nat → FieldType} {own : String} {ini : Bool} {L : Nat} {xs : Nat → Int32} {nc : List (String × String)} {ns : List String} {lit : List (List Int32)} {ldcs : List (String × Nat × String × Nat)}
/-- no handler covers the call: the exception leaves the caller too -/
theorem xt_out {ei a : Nat} (hlocks : meth.locks = false) (hno : ∀ x ∈ c.exceptionTable.toList, covers x pc = false) : XT p l e R s m args below meth c (XQ below s b base ta dA D cl n0 z0 (.inr (ei, a)) h) b base ta dA D cl n0 z0 pc ls st h a := by
  intro H locs rl g1 g2 g3 g4 T hT X
  obtain ⟨a1, a2, a3, a4, a5⟩ := X.leaveThrown (base + a) (g := F0 m pc rl (st.map (xv b base ta))) rfl rfl rfl hno hlocks
  refine ⟨_, a1, .threw (base + a), locs, a2, a3, a4, a5, ?_, ?_, ?_, rfl⟩
  · show T.heap.size = _
    rw [hT]; exact g2
  · show va_P D cl _ T.heap
    rw [hT]; exact g3
  · show va_S _ s.heap T.heap locs
    rw [hT]; exact g4
theorem xokH_split {X : String} (hpl : e.platform.magicAccessors = ({} : Platform).magicAccessors) (hown : s.vm.findClass own = some m.cls) (hts : ∀ w ∈ Ts, w.before args s = true) (hV : XV nc s) {cX : ClassId} (hX : s.vm.findClass X = some cX) :
    ∀ (es : List ExceptionTableEntry), xokH Ts own nc ns pc X q (es.map (fun h => (h.startPc, h.endPc, h.handlerPc, h.catchType))) → ∃ pre x rest, es = pre ++ x :: rest ∧ (∀ y ∈ pre, RowPassed e.platform s m.cls pc cX y) ∧ covers x pc = true ∧ x.handlerPc = q ∧ x.catchType ≠ 0 ∧ (Cond.classLink own x.catchType X).before args s = true := by
  intro es
  induction es with
  | nil => intro h; cases h
  | cons y t ih =>
    intro h
    rcases h with ⟨h1, h2⟩ | ⟨h1, h2, h3⟩
    · obtain ⟨pre, x, rest, e1, e2, e3⟩ := ih h2
      refine ⟨y :: pre, x, rest, by rw [e1]; rfl, fun z hz => ?_, e3⟩
      rcases List.mem_cons.mp hz with rfl | hz
      · refine Or.inl ?_
        unfold covers
        have h1 : ¬ (z.startPc ≤ pc ∧ pc < z.endPc) := h1
        simp only [Bool.and_eq_false_imp, decide_eq_true_eq, decide_eq_false_iff_not]
        exact fun h9 h8 => h1 ⟨h9, h8⟩
      · exact e2 z hz
    · have hcov : covers y pc = true := by
        have h1 : y.startPc ≤ pc ∧ pc < y.endPc := h1
        unfold covers
        simp [h1.1, h1.2]
      rcases h3 with ⟨h4, h5⟩ | ⟨⟨nm, -, h5, h6⟩, h7⟩
      · exact ⟨[], y, t, rfl, (fun z hz => by cases hz), hcov, h4, h2, hts _ h5⟩
      · obtain ⟨pre, x, rest, e1, e2, e3⟩ := ih h7
        refine ⟨y :: pre, x, rest, by rw [e1]; rfl, fun z hz => ?_, e3⟩
        rcases List.mem_cons.mp hz with rfl | hz
        · exact RowPassed.of_words hpl hown h2 (hts _ h5) hX (hV _ h6 args s (State.WarmedH.refl s))
        · exact e2 z hz
/-- a handler takes it -/
theorem xt_catch {ei a : Nat} {fs : List Value} {r : vw_C} (F : XF p s m args meth c b base dA D cl Ts ty L xs ta lit ldcs cc own ini) (hV : XV nc s) (hr : cl[ei]? = some r) (ha : h[a]? = some (.inr (ei, fs))) {hdl : List (Nat × Nat × Nat × Nat)} (hh : c.exceptionTable.toList.map (fun h => (h.startPc, h.endPc, h.handlerPc, h.catchType)) = hdl) (hok : xokH Ts own nc ns pc r.1 q hdl)
    (hn : n0 ≤ h.length) (hz : z0 ≤ xsz h) (K : XK p l e R s m args below meth c Q b base ta dA D cl n0 z0 q ls [.ref a] h) : XT p l e R s m args below meth c Q b base ta dA D cl n0 z0 pc ls st h a := by
  obtain ⟨hx, hb, hown, hts, hK, hA, hX, hbl, hbs, hini, hTx⟩ := F
  intro H locs rl g1 g2 g3 g4 T hT X
  have hpl : e.platform.magicAccessors = ({} : Platform).magicAccessors := by rw [X.admits.platform]
  have hcls := (hK.1 ei r hr).2
  subst hh
  obtain ⟨pre, x, rest, e1, e2, e3, e4, e5, e6⟩ := xokH_split (args := args) (m := m) hpl hown hts hV hcls.1 _ hok
  obtain ⟨r', hr', cell, c1, c2, c3, -⟩ := g3 a _ (xws_get ha)
  have hcat := X.catches_of_link hown e5 e6 hcls.1 (va_assign hcls)
  rw [← c2] at hcat e2
  obtain ⟨vm', X', st'⟩ := X.caughtThrough (base + a) (g := F0 m pc rl (st.map (xv b base ta))) rfl (by rw [hT]; exact c1) (by rw [c3]; rfl) hcat.2 pre x rest e1 e2 e3 hcat.1
  obtain ⟨t, a1, b1⟩ := K hn hz H locs rl g1 g2 g3 g4 (T.setVm vm') hT X'
  refine ⟨t, ?_, b1⟩
  rw [X.pushThrowing_eq]
  refine st' t ?_
  rw [e4]
  exact a1
end XCATCH
end
section
/-! A METHOD'S ENTRY, AND WHAT EVERY STEP KEEPS -/
section XENT
variable {b base : Nat} {ta : (Nat → Nat) × Option Nat}
theorem xent_sl (as : List Value) : lg_sl (as.map (xv b base ta)) = (xfl as).map (fun o => match o with | some v => Slot.val (xv b base ta v) | none => Slot.second) := by
  unfold lg_sl xfl
  induction as with
  | nil => rfl
  | cons v t ih =>
    rw [List.map_cons, List.flatMap_cons, List.flatMap_cons, List.map_append, ih, xv_cat']
    congr 1
    by_cases hc : v.category = 2 <;> simp [hc]
theorem xls_entry (as : List Value) (n : Nat) (hn : (xent as n).length = n) : xls b base ta (xent as n) (lg_sl (as.map (xv b base ta)) ++ List.replicate (n - (lg_sl (as.map (xv b base ta))).length) Slot.unset).toArray := by
  have hlen : (lg_sl (as.map (xv b base ta))).length = (xfl as).length := by rw [xent_sl, List.length_map]
  have hle : (lg_sl (as.map (xv b base ta))).length ≤ n := by
    rw [hlen]
    simp only [xent, List.length_append, List.length_replicate] at hn
    omega
  obtain ⟨h1, h2, -⟩ := lv_entry (as.map (xv b base ta)) (n := n) hle
  refine ⟨by rw [h1, hn], h2, fun i v hi => ?_⟩
  simp only [xent] at hi
  rw [List.getElem?_toArray]
  have hl : i < (xfl as).length := by
    rcases Nat.lt_or_ge i (xfl as).length with q | q
    · exact q
    · rw [List.getElem?_append_right q, List.getElem?_replicate] at hi
      split at hi <;> cases hi
  rw [List.getElem?_append_left hl] at hi
  rw [List.getElem?_append_left (by rw [hlen]; exact hl), xent_sl, List.getElem?_map, hi]
  rfl
end XENT
section XKEEP
variable {nf : Nat → List Value} {L : Nat} {xs : Nat → Int32} {mc : Nat → Option Nat} {lit : List (List Int32)} {ldcs : List (String × Nat × String × Nat)}
theorem xset_len {ls ls' : xL} {i : Nat} {v : Value} (h : xset ls i v = some ls') : ls'.length = ls.length := by
  rw [(xset_spec h).2.1, List.length_set]
set_option maxHeartbeats 2000000 in
/-- a step that goes on keeps the number of locals, and the heap doesn't shrink -/
theorem xstep_keep {o : xI} {pc pc' : Nat} {ls ls' : xL} {st st' : List Value} {h h' : xH} (hs : xstep nf L xs lit mc o pc ls st h = some (.inl (pc', ls', st', h'))) : ls'.length = ls.length ∧ h.length ≤ h'.length ∧ xsz h ≤ xsz h' := by
  have hset : ∀ {a : Nat} {c0 c1 : xC}, h[a]? = some c0 → xcz c1 = xcz c0 → h.length ≤ (h.set a c1).length ∧ xsz h ≤ xsz (h.set a c1) := fun h1 h2 => ⟨by rw [List.length_set]; exact Nat.le_refl _, by rw [xsz_set h1 h2]; exact Nat.le_refl _⟩
  have happ : ∀ (cs : List xC), h.length ≤ (h ++ cs).length ∧ xsz h ≤ xsz (h ++ cs) := fun cs => ⟨by rw [List.length_append]; omega, by unfold xsz; rw [List.map_append, List.sum_append]; omega⟩
  obtain ⟨i1, n1, x1, x2⟩ := o
  unfold xstep at hs
  split at hs <;> (try (cases hs; done)) <;> (try (cases hs; exact ⟨rfl, Nat.le_refl _, Nat.le_refl _⟩)) <;>
    (repeat' (split at hs)) <;> (try (cases hs; done)) <;> (try (cases hs; exact ⟨rfl, Nat.le_refl _, Nat.le_refl _⟩)) <;> (try (cases hs; exact ⟨rfl, happ _⟩)) <;> (try (cases hs; exact ⟨xset_len (by assumption), Nat.le_refl _, Nat.le_refl _⟩)) <;> (try (cases hs; exact ⟨rfl, hset (by assumption) (by simp [xcz])⟩))
end XKEEP
end
section
/-! WHAT THE PURE MACHINE DOES, THE REAL ONE DOES -/
section XALL
variable {nf : Nat → List Value} {L : Nat} {xs : Nat → Int32} {mc : Nat → Option Nat} {lit : List (List Int32)} {ldcs : List (String × Nat × String × Nat)}
set_option maxHeartbeats 2000000 in
theorem xstep_end {o : xI} {pc : Nat} {ls : xL} {st : List Value} {h h' : xH} {r : xO} (hs : xstep nf L xs lit mc o pc ls st h = some (.inr (.inl (r, h')))) : (h.length ≤ h'.length ∧ xsz h ≤ xsz h') ∧ (∀ k a, r = .inr (k, a) → ∃ fs, h'[a]? = some (.inr (k, fs))) ∧ (o.1 = .ireturn ∨ o.1 = .areturn ∨ o.1 = .return_ ∨ o.1 = .athrow) := by
  have happ : ∀ (cs : List xC), h.length ≤ (h ++ cs).length ∧ xsz h ≤ xsz (h ++ cs) := fun cs => ⟨by rw [List.length_append]; omega, by unfold xsz; rw [List.map_append, List.sum_append]; omega⟩
  obtain ⟨i1, n1, x1, x2⟩ := o
  cases i1 <;> (try (cases hs; done)) <;> simp only [xstep] at hs <;> (try (cases hs; done)) <;> (repeat' (split at hs)) <;> (try (cases hs; done))
  · cases hs
    exact ⟨⟨Nat.le_refl _, Nat.le_refl _⟩, (fun k a h9 => by cases h9), Or.inr (Or.inl rfl)⟩
  · cases hs
    exact ⟨happ _, (fun k a h9 => by cases h9; exact ⟨_, by rw [List.getElem?_append_right (Nat.le_refl _), Nat.sub_self]; rfl⟩), Or.inr (Or.inr (Or.inr rfl))⟩
  · cases hs
    exact ⟨⟨Nat.le_refl _, Nat.le_refl _⟩, (fun k a h9 => by cases h9), Or.inl rfl⟩
  · cases hs
    exact ⟨⟨Nat.le_refl _, Nat.le_refl _⟩, (fun k a h9 => by cases h9), Or.inr (Or.inr (Or.inl rfl))⟩
set_option maxHeartbeats 2000000 in
theorem xstep_call {o : xI} {pc : Nat} {ls : xL} {st : List Value} {h : xH} {q : Nat × List Value × Nat × List Value} (hs : xstep nf L xs lit mc o pc ls st h = some (.inr (.inr q))) : ∃ ix n k kd, o = (.invokeinterface q.1 ix, n, k, kd) := by
  obtain ⟨i1, n1, x1, x2⟩ := o
  cases i1 <;> (try (cases hs; done)) <;> simp only [xstep] at hs <;> (try (cases hs; done)) <;> (repeat' (split at hs)) <;> (try (cases hs; done)) <;> (cases hs; exact ⟨_, _, _, _, rfl⟩)
variable {P : Nat → Nat → Option xI} {mx : Nat → Nat} {hd : Nat → Nat → Nat → Option (Option Nat)}
theorem xrun_keep : ∀ (n d i pc : Nat) (ls : xL) (st : List Value) (h : xH) (r : xO) (h' : xH), xrun (xstep nf L xs lit mc) P mx hd n d i pc ls st h = some (r, h') → (h.length ≤ h'.length ∧ xsz h ≤ xsz h') ∧ ∀ k a, r = .inr (k, a) → ∃ fs, h'[a]? = some (.inr (k, fs)) := by
  intro n
  induction n with
  | zero => intro d i pc ls st h r h' hr; cases hr
  | succ n ih =>
    intro d i pc ls st h r h' hr
    simp only [xrun] at hr
    split at hr
    · cases hr
    · rename_i o ho
      split at hr
      · cases hr
      · rename_i pc' ls' st' h1 hs
        obtain ⟨-, k1, k2⟩ := xstep_keep hs
        obtain ⟨⟨j1, j2⟩, j3⟩ := ih _ _ _ _ _ _ _ _ hr
        exact ⟨⟨Nat.le_trans k1 j1, Nat.le_trans k2 j2⟩, j3⟩
      · rename_i r1 hs
        cases hr
        obtain ⟨k1, k2, -⟩ := xstep_end hs
        exact ⟨k1, k2⟩
      · rename_i j as pc' st' hs
        split at hr
        · cases hr
        · rename_i d
          split at hr
          · split at hr
            · cases hr
            · rename_i v h1 hc
              obtain ⟨⟨j1, j2⟩, -⟩ := ih _ _ _ _ _ _ _ _ hc
              obtain ⟨⟨l1, l2⟩, l3⟩ := ih _ _ _ _ _ _ _ _ hr
              exact ⟨⟨Nat.le_trans j1 l1, Nat.le_trans j2 l2⟩, l3⟩
            · rename_i k a h1 hc
              obtain ⟨⟨j1, j2⟩, j3⟩ := ih _ _ _ _ _ _ _ _ hc
              split at hr
              · obtain ⟨⟨l1, l2⟩, l3⟩ := ih _ _ _ _ _ _ _ _ hr
                exact ⟨⟨Nat.le_trans j1 l1, Nat.le_trans j2 l2⟩, l3⟩
              · cases hr
                exact ⟨⟨j1, j2⟩, j3⟩
              · cases hr
          · cases hr
end XALL
section XGO
variable {p : Program} {l : Launch} {e : Env} {R : Room} {s : State} {m : MethodId} {args : Array Value} {below : List Frame} {meth : Method} {c : Code} {Q : State → Prop}
variable {b base : Nat} {ta : (Nat → Nat) × Option Nat} {dA : Nat → ClassId} {D : va_G} {cl : List vw_C} {n0 z0 : Nat} {cc : ByteArray} {pc pc' : Nat} {ls ls' : xL} {st st' : List Value} {h h' : xH} {raw : Instr} {o : xI}
variable {Ts : List Cond} {ty : Nat → FieldType} {own : String} {tf : Nat → Nat → Nat} {ini : Bool}
variable {nf : Nat → List Value} {L : Nat} {xs : Nat → Int32} {mc : Nat → Option Nat} {lit : List (List Int32)} {ldcs : List (String × Nat × String × Nat)}
set_option maxHeartbeats 4000000 in
/-- every instruction that goes on -/
theorem xs_go (F : XF p s m args meth c b base dA D cl Ts ty L xs ta lit ldcs cc own ini) (G : XG Ts cl tf ty) (hd : decode cc pc = .ok (raw, o.2.1)) (hok : xok Ts cl own tf nf ty ldcs ini pc raw o) (hs : xstep nf L xs lit mc o pc ls st h = some (.inl (pc', ls', st', h'))) (hR : h'.length - n0 ≤ R.cells ∧ xsz h' - z0 ≤ R.slots) (hsz : ls.length = c.maxLocals) (hfr : 1 ≤ R.frames) (hlo : 120 ≤ R.locals)
    (K : XK p l e R s m args below meth c Q b base ta dA D cl n0 z0 pc' ls' st' h') : XK p l e R s m args below meth c Q b base ta dA D cl n0 z0 pc ls st h := by
  obtain ⟨i1, n1, x1, x2⟩ := o
  have hd : decode cc pc = .ok (raw, n1) := hd
  cases i1 with
  | iconst v => exact xs_iconst F G hd hok hs K
  | goto_w v => exact xs_lconst F G hd hok hs K
  | ldc i => exact xs_ldc F G hd hok hs K
  | getstatic i => exact xs_gets F G hd hok hs K
  | saload => exact xs_tval F G hd hok hs K
  | sastore => exact xs_tcod F G hd hok hs K
  | baload => exact xs_tbyt F G hd hok hs K
  | iload i => exact xs_iload F G hd hok hs K
  | lload i => exact xs_lload F G hd hok hs K
  | aload i => exact xs_aload F G hd hok hs K
  | istore i => exact xs_istore F G hd hok hs K
  | astore i => exact xs_astore F G hd hok hs K
  | iinc i k => exact xs_iinc F G hd hok hs K
  | iadd => exact xs_iadd F G hd hok hs K
  | isub => exact xs_isub F G hd hok hs K
  | imul => exact xs_imul F G hd hok hs K
  | idiv => exact xs_idiv F G hd hok hs K
  | irem => exact xs_irem F G hd hok hs K
  | iand => exact xs_iand F G hd hok hs K
  | ior => exact xs_ior F G hd hok hs K
  | ishl => exact xs_ishl F G hd hok hs K
  | ishr => exact xs_ishr F G hd hok hs K
  | ineg => exact xs_ineg F G hd hok hs K
  | land => exact xs_land F G hd hok hs K
  | lor => exact xs_lor F G hd hok hs K
  | lushr => exact xs_lushr F G hd hok hs K
  | lshl => exact xs_lshl F G hd hok hs K
  | lshr => exact xs_lshr F G hd hok hs K
  | lcmp => exact xs_lcmp F G hd hok hs K
  | i2l => exact xs_i2l F G hd hok hs K
  | l2i => exact xs_l2i F G hd hok hs K
  | i2c => exact xs_i2c F G hd hok hs K
  | dup => exact xs_dup F G hd hok hs K
  | dup_x1 => exact xs_dup_x1 F G hd hok hs K
  | dup2 => exact xs_dup2 F G hd hok hs K
  | pop => exact xs_pop F G hd hok hs K
  | goto t => exact xs_goto F G hd hok hs K
  | ifCond cd t => exact xs_if F G hd hok hs K
  | if_icmp cd t => exact xs_icmp F G hd hok hs K
  | tableswitch d lo hi offs => exact xs_table F G hd hok hs K
  | lookupswitch d ps => exact xs_lookup F G hd hok hs K
  | getfield k => exact xs_getf F G hd hok hs K
  | putfield k => exact xs_putf F G hd hok hs hR K
  | iaload => exact xs_iald F G hd hok hs K
  | iastore => exact xs_iast F G hd hok hs hR K
  | laload => exact xs_lald F G hd hok hs K
  | lastore => exact xs_last F G hd hok hs hR K
  | aaload => exact xs_aald F G hd hok hs K
  | aastore => exact xs_aast F G hd hok hs hR K
  | arraylength => exact xs_alen F G hd hok hs K
  | new ci => exact xs_new F G hd hok hs hR K
  | newarray a => exact xs_newa F G hd hok hs hR K
  | anewarray t => exact xs_anewa F G hd hok hs hR K
  | multianewarray t t' => exact xs_manewa F G hd hok hs hR K
  | invokespecial k => exact xs_oinit hsz hfr hlo F G hd hok hs K
  | invokeinterface j ix =>
    exfalso
    simp only [xstep] at hs
    (repeat' (split at hs)) <;> cases hs
  | athrow =>
    exfalso
    simp only [xstep] at hs
    split at hs <;> cases hs
  | ireturn =>
    exfalso
    simp only [xstep] at hs
    (repeat' (split at hs)) <;> cases hs
  | areturn =>
    exfalso
    simp only [xstep] at hs
    (repeat' (split at hs)) <;> cases hs
  | return_ =>
    exfalso
    simp only [xstep] at hs
    (repeat' (split at hs)) <;> cases hs
  | _ => cases hs
end XGO
end
section
/-! THE THEOREM -/
section XSOUND
variable {p : Program} {l : Launch} {e : Env} {b base : Nat} {ta : (Nat → Nat) × Option Nat} {dA : Nat → ClassId} {D : va_G} {cl : List vw_C} {Ts : List Cond} {ty : Nat → FieldType} {L : Nat} {xs : Nat → Int32} {tf : Nat → Nat → Nat} {nf : Nat → List Value} {mc : Nat → Option Nat} {lit : List (List Int32)} {ldcs : List (String × Nat × String × Nat)} {host : String} {nc : List (String × String)} {ns : List String}
variable {yM : Nat → MethodName} {cM : Nat → ByteArray} {mx : Nat → Nat} {rM : Nat → Option FieldType} {hM : Nat → List (Nat × Nat × Nat × Nat)} {P : Nat → Nat → Option xI} {hd : Nat → Nat → Nat → Option (Option Nat)}
/-- the linked code is the bytecode -/
def XP (cl : List vw_C) (Ts : List Cond) (ty : Nat → FieldType) (tf : Nat → Nat → Nat) (nf : Nat → List Value) (mc : Nat → Option Nat) (host : String) (yM : Nat → MethodName) (cM : Nat → ByteArray) (rM : Nat → Option FieldType) (hM : Nat → List (Nat × Nat × Nat × Nat)) (ldcs : List (String × Nat × String × Nat)) (P : Nat → Nat → Option xI) : Prop :=
  ∀ (i pc : Nat) (o : xI), P i pc = some o → (o.1 = .athrow ∧ xokT Ts cl (yM i).cls (cM i) pc o ∧ hM i = []) ∨ (o.1 ≠ .athrow ∧ ∃ raw, decode (cM i) pc = .ok (raw, o.2.1) ∧ xok Ts cl (yM i).cls tf nf ty ldcs (decide ((yM i).name = "<init>")) pc raw o ∧ xokR (rM i) o ∧ ((∃ j ix, o.1 = .invokeinterface j ix) → xokC Ts cl (yM i).cls host yM mc raw o))
/-- the handlers -/
def XHd (cl : List vw_C) (Ts : List Cond) (nc : List (String × String)) (ns : List String) (yM : Nat → MethodName) (hM : Nat → List (Nat × Nat × Nat × Nat)) (hd : Nat → Nat → Nat → Option (Option Nat)) : Prop :=
  ∀ (i pc k : Nat), (∀ q, hd i pc k = some (some q) → ∃ r, cl[k]? = some r ∧ xokH Ts (yM i).cls nc ns pc r.1 q (hM i)) ∧ (hd i pc k = some none → ∀ y ∈ hM i, ¬ (y.1 ≤ pc ∧ pc < y.2.1))
set_option maxHeartbeats 1000000 in
theorem xsound (hP : XP cl Ts ty tf nf mc host yM cM rM hM ldcs P) (hH : XHd cl Ts nc ns yM hM hd) (G : XG Ts cl tf ty) (M : XMt Ts yM cM mx rM hM) (htr : e.platform.stackTraces = false) :
    ∀ (n d i pc : Nat) (ls : xL) (st : List Value) (h : xH) (r : xO) (h' : xH), xrun (xstep nf L xs lit mc) P mx hd n d i pc ls st h = some (r, h') →
      ∀ (R : Room) (s : State) (m : MethodId) (args : Array Value) (below : List Frame) (meth : Method) (c : Code) (n0 z0 : Nat), XE p b base ta lit ldcs dA D cl Ts ty L xs yM cM mx rM hM nc s m args meth c i → d + 8 ≤ R.frames → 64 * d + 200 ≤ R.locals → h'.length - n0 ≤ R.cells → xsz h' - z0 ≤ R.slots → ls.length = mx i →
        XK p l e R s m args below meth c (XQ below s b base ta dA D cl n0 z0 r h') b base ta dA D cl n0 z0 pc ls st h := by
  intro n
  induction n with
  | zero => intro d i pc ls st h r h' hr; cases hr
  | succ n ih =>
    intro d i pc ls st h r h' hr R s m args below meth c n0 z0 E hfr hlo hRc hRs hsz
    have E' := E
    obtain ⟨F, hret, hlocks, hml, hch, hU, hV⟩ := E'
    simp only [xrun] at hr
    split at hr
    · cases hr
    · rename_i o ho
      rcases hP i pc o ho with ⟨hat, hokT, hno⟩ | ⟨hnt, raw, hdec, hok, hokR, hokC⟩
      · obtain ⟨i1, ic, ei, ix⟩ := o
        have hat : i1 = .athrow := hat
        subst hat
        split at hr
        · cases hr
        · rename_i pc' ls' st' h1 hs
          exfalso
          simp only [xstep] at hs
          split at hs <;> cases hs
        · rename_i r1 hs
          cases hr
          refine xs_throw F M.1 hU htr hlocks ?_ (hsz.trans hml.symm) hokT hs (by omega) (by omega) ⟨hRc, hRs⟩
          rw [hno] at hch
          simpa using hch
        · rename_i j as pc' st' hs
          exfalso
          simp only [xstep] at hs
          split at hs <;> cases hs
      · split at hr
        · cases hr
        · rename_i pc' ls' st' h1 hs
          obtain ⟨k0, k1, k2⟩ := xstep_keep hs
          obtain ⟨⟨j1, j2⟩, -⟩ := xrun_keep _ _ _ _ _ _ _ _ _ hr
          exact xs_go F G hdec hok hs ⟨by omega, by omega⟩ (hsz.trans hml.symm) (by omega) (by omega) (ih _ _ _ _ _ _ _ _ hr R s m args below meth c n0 z0 E hfr hlo hRc hRs (k0.trans hsz))
        · rename_i r1 hs
          cases hr
          obtain ⟨-, -, hend⟩ := xstep_end hs
          have hend : o.1 = .ireturn ∨ o.1 = .areturn ∨ o.1 = .return_ := by
            rcases hend with q | q | q | q
            · exact Or.inl q
            · exact Or.inr (Or.inl q)
            · exact Or.inr (Or.inr q)
            · exact absurd q hnt
          exact xs_ends F hret hlocks hend hdec hok hokR hs
        · rename_i j as pc' st' hs
          obtain ⟨ix, n1, k, kd, rfl⟩ := xstep_call hs
          have hC := hokC ⟨_, _, rfl⟩
          split at hr
          · cases hr
          · rename_i d
            split at hr
            · rename_i hent
              have IH : ∀ (rc : xO) (h1 : xH), xrun (xstep nf L xs lit mc) P mx hd n d j 0 (xent as (mx j)) [] h = some (rc, h1) → XGood p l e b base ta lit ldcs dA D cl Ts ty L xs yM cM mx rM hM nc d j as h rc h1 := by
                intro rc h1 hc R' s' m' below' meth' c' E9 f1 f2 f3 f4 f5 f6
                have K := ih _ _ _ _ _ _ _ _ hc R' s' m' (as.map (xv b base ta)).toArray below' meth' c' h.length (xsz h) E9 f1 f2 f3 f4 hent (Nat.le_refl _) (Nat.le_refl _) s'.heap [] _ (xls_entry as (mx j) hent) f5 f6 va_S.rf
                rw [Nat.sub_self, Nat.sub_self] at K
                rw [lg_entry_eq]
                exact K
              split at hr
              · cases hr
              · rename_i v h1 hc
                obtain ⟨⟨j1, j2⟩, -⟩ := xrun_keep _ _ _ _ _ _ _ _ _ hc
                obtain ⟨⟨l1, l2⟩, -⟩ := xrun_keep _ _ _ _ _ _ _ _ _ hr
                refine xs_call E M hdec hC hs (IH _ _ hc) (by omega) (by omega) j1 j2 ⟨by omega, by omega⟩ hsz (fun v9 hv => ?_) (fun q a hv => by cases hv)
                cases hv
                exact ih _ _ _ _ _ _ _ _ hr R s m args below meth c n0 z0 E hfr hlo hRc hRs hsz
              · rename_i k9 a h1 hc
                obtain ⟨⟨j1, j2⟩, j3⟩ := xrun_keep _ _ _ _ _ _ _ _ _ hc
                obtain ⟨fs, hfs⟩ := j3 k9 a rfl
                split at hr
                · rename_i q hq
                  obtain ⟨⟨l1, l2⟩, -⟩ := xrun_keep _ _ _ _ _ _ _ _ _ hr
                  obtain ⟨r9, hr9, hokH⟩ := (hH i pc k9).1 q hq
                  intro hn hz
                  refine xs_call E M hdec hC hs (IH _ _ hc) (by omega) (by omega) j1 j2 ⟨by omega, by omega⟩ hsz (fun v9 hv => by cases hv) (fun q2 a2 hv => ?_) hn hz
                  cases hv
                  exact xt_catch F hV hr9 hfs hch hokH (by omega) (by omega) (ih _ _ _ _ _ _ _ _ hr R s m args below meth c n0 z0 E hfr hlo hRc hRs hsz)
                · rename_i hq
                  cases hr
                  refine xs_call E M hdec hC hs (IH _ _ hc) (by omega) (by omega) j1 j2 ⟨by omega, by omega⟩ hsz (fun v9 hv => by cases hv) (fun q2 a2 hv => ?_)
                  cases hv
                  refine xt_out hlocks (fun x hx => ?_)
                  have h9 := (hH i pc k9).2 hq (x.startPc, x.endPc, x.handlerPc, x.catchType) (by rw [← hch]; exact List.mem_map.mpr ⟨x, hx, rfl⟩)
                  unfold covers
                  simp only [Bool.and_eq_false_imp, decide_eq_true_eq, decide_eq_false_iff_not]
                  exact fun h8 h7 => h9 ⟨h8, h7⟩
                · cases hr
            · cases hr
end XSOUND
end
section
/-! CHECKING THE TABLES: each row by the kernel -/
/-- a row of a method's table: its place, the instruction, the linked one -/
def xrow (Ts : List Cond) (cl : List vw_C) (ty : Nat → FieldType) (tf : Nat → Nat → Nat) (nf : Nat → List Value) (mc : Nat → Option Nat) (host : String) (yM : Nat → MethodName) (ldcs : List (String × Nat × String × Nat)) (y : MethodName) (cc : ByteArray) (ret : Option FieldType) (hdl : List (Nat × Nat × Nat × Nat)) (r : Nat × Instr × xI) : Prop :=
  (r.2.2.1 = .athrow ∧ xokT Ts cl y.cls cc r.1 r.2.2 ∧ hdl = []) ∨ (r.2.2.1 ≠ .athrow ∧ decode cc r.1 = .ok (r.2.1, r.2.2.2.1) ∧ xok Ts cl y.cls tf nf ty ldcs (decide (y.name = "<init>")) r.1 r.2.1 r.2.2 ∧ xokR ret r.2.2 ∧ (match r.2.2.1 with | .invokeinterface _ _ => xokC Ts cl y.cls host yM mc r.2.1 r.2.2 | _ => True))
def xokD (Ts : List Cond) (cl : List vw_C) (own : String) (tf : Nat → Nat → Nat) (nf : Nat → List Value) (ty : Nat → FieldType) (ldcs : List (String × Nat × String × Nat)) (ini : Bool) (pc : Nat) (raw : Instr) (o : xI) : Decidable (xok Ts cl own tf nf ty ldcs ini pc raw o) := by
  unfold xok
  split <;> first | infer_instance | (refine @instDecidableAnd _ _ ?_ ?_ <;> first | infer_instance | (refine @instDecidableAnd _ _ ?_ ?_ <;> first | infer_instance | (split <;> infer_instance)))
def xokRD (ret : Option FieldType) (o : xI) : Decidable (xokR ret o) := by
  unfold xokR
  split <;> infer_instance
def xokCD (Ts : List Cond) (cl : List vw_C) (own host : String) (yM : Nat → MethodName) (mc : Nat → Option Nat) (raw : Instr) (o : xI) : Decidable (xokC Ts cl own host yM mc raw o) := by
  unfold xokC
  split <;> first | infer_instance | skip
def xokTD (Ts : List Cond) (cl : List vw_C) (own : String) (cc : ByteArray) (pc : Nat) (o : xI) : Decidable (xokT Ts cl own cc pc o) := by
  unfold xokT
  split <;> infer_instance
def xrowD (Ts : List Cond) (cl : List vw_C) (ty : Nat → FieldType) (tf : Nat → Nat → Nat) (nf : Nat → List Value) (mc : Nat → Option Nat) (host : String) (yM : Nat → MethodName) (ldcs : List (String × Nat × String × Nat)) (y : MethodName) (cc : ByteArray) (ret : Option FieldType) (hdl : List (Nat × Nat × Nat × Nat)) (r : Nat × Instr × xI) : Decidable (xrow Ts cl ty tf nf mc host yM ldcs y cc ret hdl r) := by
  unfold xrow
  have d1 := xokTD Ts cl y.cls cc r.1 r.2.2
  have d2 := xokD Ts cl y.cls tf nf ty ldcs (decide (y.name = "<init>")) r.1 r.2.1 r.2.2
  have d3 := xokRD ret r.2.2
  have d4 : Decidable (match r.2.2.1 with | .invokeinterface _ _ => xokC Ts cl y.cls host yM mc r.2.1 r.2.2 | _ => True) := by
    have d5 := xokCD Ts cl y.cls host yM mc r.2.1 r.2.2
    split <;> infer_instance
  infer_instance
section XMONO
variable {Ts Ts' : List Cond} {cl : List vw_C} {own host : String} {tf : Nat → Nat → Nat} {nf : Nat → List Value} {ty : Nat → FieldType} {ldcs : List (String × Nat × String × Nat)} {ini : Bool} {pc : Nat} {raw : Instr} {o : xI} {yM : Nat → MethodName} {mc : Nat → Option Nat} {cc : ByteArray}
theorem xok_mono (hT : ∀ w ∈ Ts', w ∈ Ts) (h : xok Ts' cl own tf nf ty ldcs ini pc raw o) : xok Ts cl own tf nf ty ldcs ini pc raw o := by
  unfold xok at h ⊢
  split at h <;> try exact h
  · exact ⟨h.1, h.2.1, hT _ h.2.2⟩
  · refine ⟨h.1, h.2.1, ?_⟩
    rcases h.2.2 with ⟨a, q⟩ | ⟨a, q⟩
    · exact Or.inl ⟨a, hT _ q⟩
    · exact Or.inr ⟨a, hT _ q⟩
  · exact ⟨h.1, h.2.1, hT _ h.2.2⟩
  · exact ⟨h.1, h.2.1, hT _ h.2.2⟩
  · obtain ⟨h1, h2, r, hr, h3, h4⟩ := h
    exact ⟨h1, h2, r, hr, h3, hT _ h4⟩
  · obtain ⟨h1, h2, ix, hix, r, hr, h3, h4, h5⟩ := h
    exact ⟨h1, h2, ix, hix, r, hr, h3, hT _ h4, h5⟩
  · obtain ⟨h1, h2, r, hr, h3, h4, h5, h6⟩ := h
    exact ⟨h1, h2, r, hr, hT _ h3, hT _ h4, hT _ h5, h6⟩
  · exact ⟨h.1, h.2.1, h.2.2.1, h.2.2.2.1, hT _ h.2.2.2.2⟩
  · obtain ⟨h1, h2, h3⟩ := h
    refine ⟨h1, h2, ?_⟩
    split at h3
    · exact ⟨hT _ h3.1, hT _ h3.2⟩
    · exact h3
  · obtain ⟨h1, h2, h3, h4, h5, h6, h7⟩ := h
    exact ⟨h1, h2, h3, h4, hT _ h5, hT _ h6, hT _ h7⟩
  · exact ⟨h.1, h.2.1, hT _ h.2.2.1, hT _ h.2.2.2.1, hT _ h.2.2.2.2⟩
theorem xokC_mono (hT : ∀ w ∈ Ts', w ∈ Ts) (h : xokC Ts' cl own host yM mc raw o) : xokC Ts cl own host yM mc raw o := by
  unfold xokC at h ⊢
  split at h <;> try exact h
  obtain ⟨h1, h2, h3, h4⟩ := h
  refine ⟨h1, h2, hT _ h3, ?_⟩
  rcases h4 with ⟨a1, a2, a3, a4, a5, a6⟩ | ⟨a1, a2, a3, a4, a5, a6⟩ | ⟨a1, a2, a3, a4, a5, a6, a7⟩ | ⟨a1, a2, a3, a4, a5, a6, a7⟩
  · exact Or.inl ⟨a1, a2, a3, hT _ a4, hT _ a5, a6⟩
  · exact Or.inr (Or.inl ⟨a1, a2, hT _ a3, hT _ a4, hT _ a5, a6⟩)
  · exact Or.inr (Or.inr (Or.inl ⟨a1, a2, a3, a4, hT _ a5, hT _ a6, a7⟩))
  · exact Or.inr (Or.inr (Or.inr ⟨a1, a2, a3, a4, hT _ a5, hT _ a6, a7⟩))
theorem xokT_mono (hT : ∀ w ∈ Ts', w ∈ Ts) (h : xokT Ts' cl own cc pc o) : xokT Ts cl own cc pc o := by
  unfold xokT at h ⊢
  split at h <;> try exact h
  obtain ⟨h1, h2, h3, h4, r, hr, h5, h6, h7, h8, h9, h10⟩ := h
  exact ⟨h1, h2, h3, h4, r, hr, h5, hT _ h6, hT _ h7, hT _ h8, h9, fun w hw => (h10 w hw).elim (fun q => Or.inl (hT _ q)) Or.inr⟩
/-- a checked table gives what the theorem asks of the code -/
theorem xp_row {y : MethodName} {ret : Option FieldType} {hdl : List (Nat × Nat × Nat × Nat)} {r : Nat × Instr × xI} (hT : ∀ w ∈ Ts', w ∈ Ts) (h : xrow Ts' cl ty tf nf mc host yM ldcs y cc ret hdl r) :
    (r.2.2.1 = .athrow ∧ xokT Ts cl y.cls cc r.1 r.2.2 ∧ hdl = []) ∨ (r.2.2.1 ≠ .athrow ∧ ∃ raw, decode cc r.1 = .ok (raw, r.2.2.2.1) ∧ xok Ts cl y.cls tf nf ty ldcs (decide (y.name = "<init>")) r.1 raw r.2.2 ∧ xokR ret r.2.2 ∧ ((∃ j ix, r.2.2.1 = .invokeinterface j ix) → xokC Ts cl y.cls host yM mc raw r.2.2)) := by
  rcases h with ⟨h1, h2, h3⟩ | ⟨h1, h2, h3, h4, h5⟩
  · exact Or.inl ⟨h1, xokT_mono hT h2, h3⟩
  · refine Or.inr ⟨h1, _, h2, xok_mono hT h3, h4, fun hj => ?_⟩
    obtain ⟨j, ix, hj⟩ := hj
    rw [hj] at h5
    exact xokC_mono hT h5
end XMONO
/-- where a method goes on: ct: the classes of its catch types -/
def xhd (ct : List (Nat × Nat)) (pc k : Nat) : List (Nat × Nat × Nat × Nat) → Option (Option Nat)
  | [] => some none
  | y :: t => if y.1 ≤ pc ∧ pc < y.2.1 then (if ct.lookup y.2.2.2 = some k then some (some y.2.2.1) else (match xhd ct pc k t with | some (some q) => some (some q) | _ => none)) else xhd ct pc k t
theorem xhd_none {ct : List (Nat × Nat)} {pc k : Nat} : ∀ {hdl : List (Nat × Nat × Nat × Nat)}, xhd ct pc k hdl = some none → ∀ y ∈ hdl, ¬ (y.1 ≤ pc ∧ pc < y.2.1) := by
  intro hdl
  induction hdl with
  | nil => intro _ y hy; cases hy
  | cons z t ih =>
    intro h y hy
    unfold xhd at h
    split at h
    · split at h
      · cases h
      · split at h <;> cases h
    · rename_i hz
      rcases List.mem_cons.mp hy with rfl | hy
      · exact hz
      · exact ih h y hy
theorem xhd_some {Ts : List Cond} {own : String} {nc : List (String × String)} {ns : List String} {ct : List (Nat × Nat)} {pc k q : Nat} {X : String} (nm : Nat → String) (hX : nm k = X) (hct : ∀ x ∈ ct, x.1 ≠ 0 ∧ Cond.classLink own x.1 (nm x.2) ∈ Ts ∧ nm x.2 ∈ ns ∧ (x.2 ≠ k → (X, nm x.2) ∈ nc)) :
    ∀ {hdl : List (Nat × Nat × Nat × Nat)}, (∀ y ∈ hdl, ∃ c, ct.lookup y.2.2.2 = some c) → xhd ct pc k hdl = some (some q) → xokH Ts own nc ns pc X q hdl := by
  have hmem : ∀ (ct : List (Nat × Nat)) (a c : Nat), ct.lookup a = some c → (a, c) ∈ ct := by
    intro ct a c
    induction ct with
    | nil => intro h; cases h
    | cons x t ih =>
      intro h
      obtain ⟨x1, x2⟩ := x
      rw [List.lookup_cons] at h
      split at h
      · rename_i hb
        cases h
        have : a = x1 := by simpa using hb
        rw [this]
        exact List.mem_cons_self
      · exact List.mem_cons_of_mem _ (ih h)
  intro hdl
  induction hdl with
  | nil => intro _ h; cases h
  | cons y t ih =>
    intro hl h
    unfold xhd at h
    obtain ⟨c, hc⟩ := hl y List.mem_cons_self
    obtain ⟨c0, c1, c2, c3⟩ := hct _ (hmem _ _ _ hc)
    split at h
    · rename_i hcov
      split at h
      · rename_i hk
        cases h
        rw [hc] at hk
        cases hk
        exact Or.inr ⟨hcov, c0, Or.inl ⟨rfl, by rw [← hX]; exact c1⟩⟩
      · rename_i hk
        split at h
        · rename_i q2 hq
          cases h
          have hne : c ≠ k := fun e => hk (by rw [hc, e])
          exact Or.inr ⟨hcov, c0, Or.inr ⟨⟨nm c, c2, c1, c3 hne⟩, ih (fun z hz => hl z (List.mem_cons_of_mem _ hz)) hq⟩⟩
        · cases h
    · rename_i hcov
      exact Or.inl ⟨hcov, ih (fun z hz => hl z (List.mem_cons_of_mem _ hz)) h⟩
/-- places of words -/
theorem xplaces {big : List Cond} {ws : List Cond} {ps : List Nat} (h : ws.map some = ps.map (fun i => big[i]?)) : ∀ w ∈ ws, w ∈ big := by
  intro w hw
  have h1 : some w ∈ ws.map some := List.mem_map.mpr ⟨w, hw, rfl⟩
  rw [h] at h1
  obtain ⟨i, -, hi⟩ := List.mem_map.mp h1
  exact List.mem_of_getElem? hi
end
section
/-! THE NAMES OF THE PROGRAM: printed by wip/whole/gen.py out of the claim; no row of it is written by hand -/
def gT0 : u_T := fun k => match k with
  | 0 => ("PointsTo$Tokens", "words", "[I", true)
  | 1 => ("PointsTo$Tokens", "kind", "[I", true)
  | 2 => ("PointsTo$Tokens", "place", "[I", true)
  | 3 => ("PointsTo$Tokens", "name", "[I", true)
  | 4 => ("PointsTo$Tokens", "size", "I", false)
  | _ => ("", "", "", false)
def gT1 : u_T := fun k => match k with
  | 0 => ("PointsTo$Parser", "tokens", "LPointsTo$Tokens;", true)
  | 1 => ("PointsTo$Parser", "program", "LPointsTo$Program;", false)
  | 2 => ("PointsTo$Parser", "at", "I", false)
  | 3 => ("PointsTo$Parser", "ended", "Z", false)
  | 4 => ("PointsTo$Parser", "fault", "I", false)
  | _ => ("", "", "", false)
def gT2 : u_T := fun k => match k with
  | 0 => ("PointsTo$Facts", "may", "[[I", true)
  | 1 => ("PointsTo$Facts", "goes", "[[I", true)
  | 2 => ("PointsTo$Facts", "reached", "[I", true)
  | 3 => ("PointsTo$Facts", "held", "[[I", true)
  | 4 => ("PointsTo$Facts", "program", "LPointsTo$Program;", false)
  | 5 => ("PointsTo$Facts", "round", "I", false)
  | 6 => ("PointsTo$Facts", "lastRound", "I", false)
  | _ => ("", "", "", false)
def gT3 : u_T := fun k => match k with
  | 0 => ("PointsTo$Machine", "seen", "[[I", true)
  | 1 => ("PointsTo$Machine", "objectSite", "[I", true)
  | 2 => ("PointsTo$Machine", "objectFields", "[[I", true)
  | 3 => ("PointsTo$Machine", "frames", "[[I", true)
  | 4 => ("PointsTo$Machine", "program", "LPointsTo$Program;", false)
  | 5 => ("PointsTo$Machine", "made", "I", false)
  | 6 => ("PointsTo$Machine", "begun", "I", false)
  | _ => ("", "", "", false)
def gT4 : u_T := fun k => match k with
  | 0 => ("PointsTo$Method", "name", "I", false)
  | 1 => ("PointsTo$Method", "owner", "I", false)
  | 2 => ("PointsTo$Method", "result", "I", false)
  | 3 => ("PointsTo$Method", "parameters", "I", false)
  | 4 => ("PointsTo$Method", "firstStatement", "I", false)
  | 5 => ("PointsTo$Method", "endStatement", "I", false)
  | _ => ("", "", "", false)
def gT5 : u_T := fun k => match k with
  | 0 => ("PointsTo$Statement", "kind", "I", false)
  | 1 => ("PointsTo$Statement", "method", "I", false)
  | 2 => ("PointsTo$Statement", "target", "I", false)
  | 3 => ("PointsTo$Statement", "source", "I", false)
  | 4 => ("PointsTo$Statement", "name", "I", false)
  | 5 => ("PointsTo$Statement", "place", "I", false)
  | 6 => ("PointsTo$Statement", "number", "I", false)
  | 7 => ("PointsTo$Statement", "type", "I", false)
  | 8 => ("PointsTo$Statement", "arguments", "I", false)
  | 9 => ("PointsTo$Statement", "firstArgument", "I", false)
  | 10 => ("PointsTo$Statement", "secondArgument", "I", false)
  | 11 => ("PointsTo$Statement", "bodyEnd", "I", false)
  | 12 => ("PointsTo$Statement", "end", "I", false)
  | _ => ("", "", "", false)
def gT6 : u_T := fun k => match k with
  | 0 => ("PointsTo$Program", "className", "[I", true)
  | 1 => ("PointsTo$Program", "classAbove", "[I", true)
  | 2 => ("PointsTo$Program", "classFields", "[I", true)
  | 3 => ("PointsTo$Program", "fieldName", "[I", true)
  | 4 => ("PointsTo$Program", "variableName", "[I", true)
  | 5 => ("PointsTo$Program", "methods", "[LPointsTo$Method;", true)
  | 6 => ("PointsTo$Program", "statements", "[LPointsTo$Statement;", true)
  | 7 => ("PointsTo$Program", "siteClass", "[I", true)
  | 8 => ("PointsTo$Program", "castStatement", "[I", true)
  | 9 => ("PointsTo$Program", "classCount", "I", false)
  | 10 => ("PointsTo$Program", "methodCount", "I", false)
  | 11 => ("PointsTo$Program", "fieldCount", "I", false)
  | 12 => ("PointsTo$Program", "callCount", "I", false)
  | 13 => ("PointsTo$Program", "castCount", "I", false)
  | 14 => ("PointsTo$Program", "siteCount", "I", false)
  | 15 => ("PointsTo$Program", "variableCount", "I", false)
  | 16 => ("PointsTo$Program", "statementCount", "I", false)
  | 17 => ("PointsTo$Program", "start", "I", false)
  | _ => ("", "", "", false)
def gT7 : u_T := fun k => match k with
  | 0 => ("PointsTo", "text", "[C", true)
  | 1 => ("PointsTo", "parser", "LPointsTo$Parser;", true)
  | 2 => ("PointsTo", "facts", "LPointsTo$Facts;", true)
  | 3 => ("PointsTo", "machine", "LPointsTo$Machine;", true)
  | 4 => ("PointsTo", "program", "LPointsTo$Program;", false)
  | 5 => ("PointsTo", "spare", "LPointsTo$Program;", false)
  | 6 => ("PointsTo", "length", "I", false)
  | 7 => ("PointsTo", "fault", "I", false)
  | _ => ("", "", "", false)
def gT8 : u_T := fun k => match k with
  | 0 => ("PointsToModel", "text", "[I", true)
  | 1 => ("PointsToModel", "length", "I", false)
  | 2 => ("PointsToModel", "fault", "I", false)
  | 3 => ("PointsToModel", "kind", "I", false)
  | 4 => ("PointsToModel", "token", "I", false)
  | 5 => ("PointsToModel", "start", "I", false)
  | 6 => ("PointsToModel", "end", "I", false)
  | 7 => ("PointsToModel", "behind", "I", false)
  | 8 => ("PointsToModel", "wrong", "I", false)
  | 9 => ("PointsToModel", "statements", "I", false)
  | 10 => ("PointsToModel", "depth", "I", false)
  | 11 => ("PointsToModel", "block", "[I", true)
  | 12 => ("PointsToModel", "blockOp", "[I", true)
  | 13 => ("PointsToModel", "varName", "[I", true)
  | 14 => ("PointsToModel", "firstVar", "I", false)
  | 15 => ("PointsToModel", "asked", "[I", true)
  | 16 => ("PointsToModel", "askedAt", "[I", true)
  | 17 => ("PointsToModel", "askedCount", "I", false)
  | 18 => ("PointsToModel", "now", "I", false)
  | 19 => ("PointsToModel", "has", "Z", false)
  | 20 => ("PointsToModel", "classes", "[I", true)
  | 21 => ("PointsToModel", "methods", "[I", true)
  | 22 => ("PointsToModel", "fields", "[I", true)
  | 23 => ("PointsToModel", "calls", "[I", true)
  | 24 => ("PointsToModel", "casts", "[I", true)
  | 25 => ("PointsToModel", "sites", "[I", true)
  | 26 => ("PointsToModel", "vars", "[I", true)
  | 27 => ("PointsToModel", "ops", "[I", true)
  | 28 => ("PointsToModel", "className", "[I", true)
  | 29 => ("PointsToModel", "up", "[I", true)
  | 30 => ("PointsToModel", "owns", "[Z", true)
  | 31 => ("PointsToModel", "fieldName", "[I", true)
  | 32 => ("PointsToModel", "methodName", "[I", true)
  | 33 => ("PointsToModel", "methodClass", "[I", true)
  | 34 => ("PointsToModel", "methodSize", "[I", true)
  | 35 => ("PointsToModel", "methodVar", "[I", true)
  | 36 => ("PointsToModel", "methodOp", "[I", true)
  | 37 => ("PointsToModel", "siteClass", "[I", true)
  | 38 => ("PointsToModel", "castVar", "[I", true)
  | 39 => ("PointsToModel", "castClass", "[I", true)
  | 40 => ("PointsToModel", "op", "[I", true)
  | 41 => ("PointsToModel", "may", "[I", true)
  | 42 => ("PointsToModel", "holds", "[I", true)
  | 43 => ("PointsToModel", "goes", "[I", true)
  | 44 => ("PointsToModel", "reached", "[I", true)
  | 45 => ("PointsToModel", "round", "I", false)
  | 46 => ("PointsToModel", "fresh", "Z", false)
  | 47 => ("PointsToModel", "rounds", "I", false)
  | 48 => ("PointsToModel", "seen", "[Z", true)
  | 49 => ("PointsToModel", "objectSite", "[I", true)
  | 50 => ("PointsToModel", "objectField", "[I", true)
  | 51 => ("PointsToModel", "objects", "I", false)
  | 52 => ("PointsToModel", "value", "[I", true)
  | 53 => ("PointsToModel", "back", "[I", true)
  | 54 => ("PointsToModel", "frames", "I", false)
  | 55 => ("PointsToModel", "pc", "I", false)
  | 56 => ("PointsToModel", "begun", "I", false)
  | 57 => ("PointsToModel", "code", "I", false)
  | _ => ("", "", "", false)
def gT9 : u_T := fun _ => ("", "", "", false)
def gT10 : u_T := fun _ => ("", "", "", false)
def gT11 : u_T := fun _ => ("", "", "", false)
def gT12 : u_T := fun _ => ("", "", "", false)
def gT13 : u_T := fun _ => ("", "", "", false)
def gCl : List vw_C := [("PointsTo$Tokens", gT0, 5), ("PointsTo$Parser", gT1, 5), ("PointsTo$Facts", gT2, 7), ("PointsTo$Machine", gT3, 7), ("PointsTo$Method", gT4, 6), ("PointsTo$Statement", gT5, 13), ("PointsTo$Program", gT6, 18), ("PointsTo", gT7, 8), ("PointsToModel", gT8, 58), ("java/lang/IllegalArgumentException", gT9, 0), ("java/lang/IllegalStateException", gT10, 0), ("java/util/NoSuchElementException", gT11, 0), ("java/lang/UnsupportedOperationException", gT12, 0), ("java/lang/IndexOutOfBoundsException", gT13, 0)]
def gTfL : List (List Nat) := [[6, 6, 6, 6, 0], [6, 6, 0, 1, 0], [6, 6, 6, 6, 6, 0, 0], [6, 6, 6, 6, 6, 0, 0], [0, 0, 0, 0, 0, 0], [0, 0, 0, 0, 0, 0, 0, 0, 0, 0, 0, 0, 0], [6, 6, 6, 6, 6, 6, 6, 6, 6, 0, 0, 0, 0, 0, 0, 0, 0, 0], [6, 6, 6, 6, 6, 6, 0, 0], [6, 0, 0, 0, 0, 0, 0, 0, 0, 0, 0, 6, 6, 6, 0, 6, 6, 0, 0, 1, 6, 6, 6, 6, 6, 6, 6, 6, 6, 6, 6, 6, 6, 6, 6, 6, 6, 6, 6, 6, 6, 6, 6, 6, 6, 0, 1, 0, 6, 6, 6, 0, 6, 6, 0, 0, 0, 0], [], [], [], [], []]
def gTf (ci k : Nat) : Nat := (gTfL.getD ci []).getD k 98
def gNfL : List (List Value) := [[.null, .null, .null, .null, .int 0], [.null, .null, .int 0, .int 0, .int 0], [.null, .null, .null, .null, .null, .int 0, .int 0], [.null, .null, .null, .null, .null, .int 0, .int 0], [.int 0, .int 0, .int 0, .int 0, .int 0, .int 0], [.int 0, .int 0, .int 0, .int 0, .int 0, .int 0, .int 0, .int 0, .int 0, .int 0, .int 0, .int 0, .int 0], [.null, .null, .null, .null, .null, .null, .null, .null, .null, .int 0, .int 0, .int 0, .int 0, .int 0, .int 0, .int 0, .int 0, .int 0], [.null, .null, .null, .null, .null, .null, .int 0, .int 0], [.null, .int 0, .int 0, .int 0, .int 0, .int 0, .int 0, .int 0, .int 0, .int 0, .int 0, .null, .null, .null, .int 0, .null, .null, .int 0, .int 0, .int 0, .null, .null, .null, .null, .null, .null, .null, .null, .null, .null, .null, .null, .null, .null, .null, .null, .null, .null, .null, .null, .null, .null, .null, .null, .null, .int 0, .int 0, .int 0, .null, .null, .null, .int 0, .null, .null, .int 0, .int 0, .int 0, .int 0], [], [], [], [], []]
def gNf (ci : Nat) : List Value := gNfL.getD ci []
def gTyL : List FieldType := [.int, .boolean, .byte, .char, .int, .long, .array .int, .object "PointsTo$Method", .object "PointsTo$Statement"]
def gTy (t : Nat) : FieldType := gTyL.getD t (.array .int)
def gLit : List (List Int32) := [[99, 108, 97, 115, 115], [102, 105, 101, 108, 100], [100, 101, 102], [110, 101, 119], [110, 117, 108, 108], [105, 102], [101, 108, 115, 101], [119, 104, 105, 108, 101], [114, 101, 116, 117, 114, 110], [116, 104, 105, 115], [103, 111]]
def gLdcs : List (String × Nat × String × Nat) := [("PointsTo$Tokens", 9, "class", 0), ("PointsTo$Tokens", 17, "field", 1), ("PointsTo$Tokens", 19, "def", 2), ("PointsTo$Tokens", 21, "new", 3), ("PointsTo$Tokens", 23, "null", 4), ("PointsTo$Tokens", 25, "if", 5), ("PointsTo$Tokens", 27, "else", 6), ("PointsTo$Tokens", 29, "while", 7), ("PointsTo$Tokens", 31, "return", 8), ("PointsTo$Tokens", 33, "this", 9), ("PointsTo$Program", 131, "go", 10)]
/-- a method: its name, code, locals, result, handlers, the class that it is called on -/
abbrev gMT : Type := MethodName × ByteArray × Nat × Option FieldType × List (Nat × Nat × Nat × Nat) × Option Nat
def gM0 : gMT := (⟨"java/lang/String", "coder", "()B"⟩, prog_16_method_152_code, 1, (some Jvm.ClassFile.FieldType.byte), [], some 1000)
def gM1 : gMT := (⟨"java/lang/String", "length", "()I"⟩, prog_16_method_54_code, 1, (some Jvm.ClassFile.FieldType.int), [], some 1000)
def gM2 : gMT := (⟨"java/lang/String", "isLatin1", "()Z"⟩, prog_16_method_154_code, 1, (some Jvm.ClassFile.FieldType.boolean), [], some 1000)
def gM3 : gMT := (⟨"jdk/internal/util/Preconditions", "checkIndex", "(IILjava/util/function/BiFunction;)I"⟩, prog_23_method_11_code, 3, (some Jvm.ClassFile.FieldType.int), [], none)
def gM4 : gMT := (⟨"java/lang/String", "checkIndex", "(II)V"⟩, prog_16_method_155_code, 2, none, [], none)
def gM5 : gMT := (⟨"java/lang/StringLatin1", "charAt", "([BI)C"⟩, prog_17_method_2_code, 2, (some Jvm.ClassFile.FieldType.char), [], none)
def gM6 : gMT := (⟨"java/lang/String", "charAt", "(I)C"⟩, prog_16_method_56_code, 2, (some Jvm.ClassFile.FieldType.char), [], some 1000)
def gM7 : gMT := (⟨"PointsTo$Tokens", "withLetter", "(IC)I"⟩, prog_8_method_3_code, 2, (some Jvm.ClassFile.FieldType.int), [], none)
def gM8 : gMT := (⟨"PointsTo$Tokens", "nameCode", "(Ljava/lang/String;)I"⟩, prog_8_method_2_code, 3, (some Jvm.ClassFile.FieldType.int), [], none)
def gM9 : gMT := (⟨"PointsTo$Tokens", "<init>", "()V"⟩, prog_8_method_1_code, 1, none, [], some 0)
def gM10 : gMT := (⟨"PointsTo$Parser", "<init>", "()V"⟩, prog_5_method_1_code, 1, none, [], some 1)
def gM11 : gMT := (⟨"PointsTo$Facts", "<init>", "()V"⟩, prog_2_method_1_code, 1, none, [], some 2)
def gM12 : gMT := (⟨"PointsTo$Machine", "<init>", "()V"⟩, prog_3_method_1_code, 1, none, [], some 3)
def gM13 : gMT := (⟨"PointsTo$Method", "<init>", "()V"⟩, prog_4_method_1_code, 1, none, [], some 4)
def gM14 : gMT := (⟨"PointsTo$Statement", "<init>", "()V"⟩, prog_7_method_1_code, 1, none, [], some 5)
def gM15 : gMT := (⟨"PointsTo$Program", "<init>", "()V"⟩, prog_6_method_1_code, 2, none, [], some 6)
def gM16 : gMT := (⟨"PointsTo", "<init>", "()V"⟩, prog_1_method_1_code, 1, none, [], some 7)
def gM17 : gMT := (⟨"PointsToModel", "<init>", "()V"⟩, prog_10_method_1_code, 1, none, [], some 8)
def gM18 : gMT := (⟨"PointsTo", "codeOf", "(JI)I"⟩, prog_1_method_17_code, 3, (some Jvm.ClassFile.FieldType.int), [], none)
def gM19 : gMT := (⟨"PointsTo", "codesMayStand", "(JI)Z"⟩, prog_1_method_18_code, 5, (some Jvm.ClassFile.FieldType.boolean), [], none)
def gM20 : gMT := (⟨"PointsTo", "append", "(JI)I"⟩, prog_1_method_2_code, 5, (some Jvm.ClassFile.FieldType.int), [], some 7)
def gM21 : gMT := (⟨"PointsToLaw", "append", "(LPointsTo;JI[J)I"⟩, method_3_code, 6, (some Jvm.ClassFile.FieldType.int), [(0, 11, 14, 13), (0, 11, 18, 15)], none)
def gM22 : gMT := (⟨"PointsToModel", "in", "(III)Z"⟩, prog_10_method_3_code, 3, (some Jvm.ClassFile.FieldType.boolean), [], none)
def gM23 : gMT := (⟨"PointsToModel", "good", "(ZI)Z"⟩, prog_10_method_5_code, 3, (some Jvm.ClassFile.FieldType.boolean), [], some 8)
def gM24 : gMT := (⟨"PointsToModel", "fail", "(I)I"⟩, prog_10_method_4_code, 2, (some Jvm.ClassFile.FieldType.int), [], some 8)
def gM25 : gMT := (⟨"PointsToModel", "append", "(JI)I"⟩, prog_10_method_6_code, 5, (some Jvm.ClassFile.FieldType.int), [], some 8)
def gM26 : gMT := (⟨"PointsToModel", "thrown", "()I"⟩, prog_10_method_2_code, 1, (some Jvm.ClassFile.FieldType.int), [], some 8)
def gM27 : gMT := (⟨"PointsTo", "cut", "(I)I"⟩, prog_1_method_3_code, 2, (some Jvm.ClassFile.FieldType.int), [], some 7)
def gM28 : gMT := (⟨"PointsToLaw", "cut", "(LPointsTo;I[J)I"⟩, method_4_code, 4, (some Jvm.ClassFile.FieldType.int), [(0, 9, 12, 13)], none)
def gM29 : gMT := (⟨"PointsToModel", "cut", "(I)I"⟩, prog_10_method_7_code, 2, (some Jvm.ClassFile.FieldType.int), [], some 8)
def gM30 : gMT := (⟨"PointsTo$Program", "clear", "()V"⟩, prog_6_method_2_code, 1, none, [], some 6)
def gM31 : gMT := (⟨"PointsTo$Tokens", "isLetter", "(C)Z"⟩, prog_8_method_5_code, 1, (some Jvm.ClassFile.FieldType.boolean), [], none)
def gM32 : gMT := (⟨"PointsTo$Tokens", "add", "(II)V"⟩, prog_8_method_7_code, 3, none, [], some 0)
def gM33 : gMT := (⟨"PointsTo$Tokens", "addLetter", "(CII)V"⟩, prog_8_method_8_code, 5, none, [], some 0)
def gM34 : gMT := (⟨"PointsTo$Tokens", "isSign", "(C)Z"⟩, prog_8_method_6_code, 1, (some Jvm.ClassFile.FieldType.boolean), [], none)
def gM35 : gMT := (⟨"PointsTo$Tokens", "tellWords", "()V"⟩, prog_8_method_9_code, 3, none, [], some 0)
def gM36 : gMT := (⟨"PointsTo$Tokens", "split", "([CI)V"⟩, prog_8_method_4_code, 7, none, [], some 0)
def gM37 : gMT := (⟨"PointsTo$Parser", "take", "(I)Z"⟩, prog_5_method_6_code, 2, (some Jvm.ClassFile.FieldType.boolean), [], some 1)
def gM38 : gMT := (⟨"PointsTo$Parser", "kind", "()I"⟩, prog_5_method_3_code, 1, (some Jvm.ClassFile.FieldType.int), [], some 1)
def gM39 : gMT := (⟨"PointsTo$Parser", "name", "()I"⟩, prog_5_method_4_code, 1, (some Jvm.ClassFile.FieldType.int), [], some 1)
def gM40 : gMT := (⟨"PointsTo$Program", "indexIn", "([III)I"⟩, prog_6_method_3_code, 4, (some Jvm.ClassFile.FieldType.int), [], none)
def gM41 : gMT := (⟨"PointsTo$Program", "classNamed", "(I)I"⟩, prog_6_method_4_code, 2, (some Jvm.ClassFile.FieldType.int), [], some 6)
def gM42 : gMT := (⟨"PointsTo$Program", "addClass", "(I)Z"⟩, prog_6_method_10_code, 2, (some Jvm.ClassFile.FieldType.boolean), [], some 6)
def gM43 : gMT := (⟨"PointsTo$Parser", "refuse", "()Z"⟩, prog_5_method_5_code, 1, (some Jvm.ClassFile.FieldType.boolean), [], some 1)
def gM44 : gMT := (⟨"PointsTo$Program", "putBelow", "(I)Z"⟩, prog_6_method_11_code, 4, (some Jvm.ClassFile.FieldType.boolean), [], some 6)
def gM45 : gMT := (⟨"PointsTo$Parser", "parseClassHead", "()Z"⟩, prog_5_method_7_code, 1, (some Jvm.ClassFile.FieldType.boolean), [], some 1)
def gM46 : gMT := (⟨"PointsTo$Program", "fieldNamed", "(I)I"⟩, prog_6_method_5_code, 2, (some Jvm.ClassFile.FieldType.int), [], some 6)
def gM47 : gMT := (⟨"PointsTo$Program", "hasField", "(II)Z"⟩, prog_6_method_7_code, 3, (some Jvm.ClassFile.FieldType.boolean), [], some 6)
def gM48 : gMT := (⟨"PointsTo$Program", "addField", "(I)Z"⟩, prog_6_method_12_code, 4, (some Jvm.ClassFile.FieldType.boolean), [], some 6)
def gM49 : gMT := (⟨"PointsTo$Parser", "parseField", "()Z"⟩, prog_5_method_9_code, 1, (some Jvm.ClassFile.FieldType.boolean), [], some 1)
def gM50 : gMT := (⟨"PointsTo$Program", "declared", "(II)I"⟩, prog_6_method_8_code, 4, (some Jvm.ClassFile.FieldType.int), [], some 6)
def gM51 : gMT := (⟨"PointsTo$Program", "addMethod", "(I)Z"⟩, prog_6_method_13_code, 4, (some Jvm.ClassFile.FieldType.boolean), [], some 6)
def gM52 : gMT := (⟨"PointsTo$Program", "variableOf", "(I)I"⟩, prog_6_method_15_code, 3, (some Jvm.ClassFile.FieldType.int), [], some 6)
def gM53 : gMT := (⟨"PointsTo$Program", "addParameter", "(I)Z"⟩, prog_6_method_14_code, 3, (some Jvm.ClassFile.FieldType.boolean), [], some 6)
def gM54 : gMT := (⟨"PointsTo$Parser", "parseParameter", "()Z"⟩, prog_5_method_12_code, 1, (some Jvm.ClassFile.FieldType.boolean), [], some 1)
def gM55 : gMT := (⟨"PointsTo$Parser", "parseParameters", "()Z"⟩, prog_5_method_11_code, 1, (some Jvm.ClassFile.FieldType.boolean), [], some 1)
def gM56 : gMT := (⟨"PointsTo$Program", "addStatement", "()LPointsTo$Statement;"⟩, prog_6_method_16_code, 2, (some (Jvm.ClassFile.FieldType.object "PointsTo$Statement")), [], some 6)
def gM57 : gMT := (⟨"PointsTo$Method", "self", "()I"⟩, prog_4_method_2_code, 1, (some Jvm.ClassFile.FieldType.int), [], some 4)
def gM58 : gMT := (⟨"PointsTo$Parser", "parseVariable", "()I"⟩, prog_5_method_16_code, 2, (some Jvm.ClassFile.FieldType.int), [], some 1)
def gM59 : gMT := (⟨"PointsTo$Parser", "parseBranch", "(LPointsTo$Statement;I)Z"⟩, prog_5_method_14_code, 3, (some Jvm.ClassFile.FieldType.boolean), [], some 1)
def gM60 : gMT := (⟨"PointsTo$Parser", "parseReturn", "(LPointsTo$Statement;)Z"⟩, prog_5_method_15_code, 2, (some Jvm.ClassFile.FieldType.boolean), [], some 1)
def gM61 : gMT := (⟨"PointsTo$Program", "addSite", "(LPointsTo$Statement;)Z"⟩, prog_6_method_18_code, 2, (some Jvm.ClassFile.FieldType.boolean), [], some 6)
def gM62 : gMT := (⟨"PointsTo$Parser", "parseNameBehind", "(ILPointsTo$Statement;)Z"⟩, prog_5_method_19_code, 3, (some Jvm.ClassFile.FieldType.boolean), [], some 1)
def gM63 : gMT := (⟨"PointsTo$Program", "addCast", "(LPointsTo$Statement;)Z"⟩, prog_6_method_19_code, 2, (some Jvm.ClassFile.FieldType.boolean), [], some 6)
def gM64 : gMT := (⟨"PointsTo$Parser", "parseRight", "(LPointsTo$Statement;)Z"⟩, prog_5_method_21_code, 2, (some Jvm.ClassFile.FieldType.boolean), [], some 1)
def gM65 : gMT := (⟨"PointsTo$Program", "addCall", "(LPointsTo$Statement;)Z"⟩, prog_6_method_17_code, 2, (some Jvm.ClassFile.FieldType.boolean), [], some 6)
def gM66 : gMT := (⟨"PointsTo$Parser", "parseCall", "(LPointsTo$Statement;)Z"⟩, prog_5_method_20_code, 2, (some Jvm.ClassFile.FieldType.boolean), [], some 1)
def gM67 : gMT := (⟨"PointsTo$Parser", "parseStored", "(LPointsTo$Statement;)Z"⟩, prog_5_method_18_code, 2, (some Jvm.ClassFile.FieldType.boolean), [], some 1)
def gM68 : gMT := (⟨"PointsTo$Parser", "parseSimple", "(LPointsTo$Statement;)Z"⟩, prog_5_method_17_code, 5, (some Jvm.ClassFile.FieldType.boolean), [], some 1)
def gM69 : gMT := (⟨"PointsTo$Parser", "parseBody", "(I)Z"⟩, prog_5_method_13_code, 5, (some Jvm.ClassFile.FieldType.boolean), [], some 1)
def gM70 : gMT := (⟨"PointsTo$Parser", "parseMethod", "()Z"⟩, prog_5_method_10_code, 3, (some Jvm.ClassFile.FieldType.boolean), [], some 1)
def gM71 : gMT := (⟨"PointsTo$Parser", "parseClassEnd", "()Z"⟩, prog_5_method_8_code, 1, (some Jvm.ClassFile.FieldType.boolean), [], some 1)
def gM72 : gMT := (⟨"PointsTo$Program", "found", "(III)I"⟩, prog_6_method_9_code, 7, (some Jvm.ClassFile.FieldType.int), [], some 6)
def gM73 : gMT := (⟨"PointsTo$Program", "resolve", "()I"⟩, prog_6_method_20_code, 3, (some Jvm.ClassFile.FieldType.int), [], some 6)
def gM74 : gMT := (⟨"PointsTo$Parser", "parse", "([CILPointsTo$Program;)I"⟩, prog_5_method_2_code, 6, (some Jvm.ClassFile.FieldType.int), [], some 1)
def gM75 : gMT := (⟨"java/util/Arrays", "fill", "([II)V"⟩, prog_21_method_103_code, 4, none, [], none)
def gM76 : gMT := (⟨"PointsTo$Facts", "empty", "([[I)V"⟩, prog_2_method_4_code, 2, none, [], none)
def gM77 : gMT := (⟨"PointsTo$Facts", "clear", "()V"⟩, prog_2_method_3_code, 1, none, [], some 2)
def gM78 : gMT := (⟨"PointsTo$Facts", "isKnown", "(I)Z"⟩, prog_2_method_5_code, 2, (some Jvm.ClassFile.FieldType.boolean), [], some 2)
def gM79 : gMT := (⟨"PointsTo$Facts", "tell", "([II)V"⟩, prog_2_method_6_code, 3, none, [], some 2)
def gM80 : gMT := (⟨"PointsTo$Facts", "tellAll", "([I[I)V"⟩, prog_2_method_7_code, 4, none, [], some 2)
def gM81 : gMT := (⟨"PointsTo$Program", "isClassBelow", "(II)Z"⟩, prog_6_method_6_code, 5, (some Jvm.ClassFile.FieldType.boolean), [], some 6)
def gM82 : gMT := (⟨"PointsTo$Facts", "followCast", "(LPointsTo$Statement;)V"⟩, prog_2_method_9_code, 3, none, [], some 2)
def gM83 : gMT := (⟨"PointsTo$Facts", "heldBy", "(II)[I"⟩, prog_2_method_15_code, 3, (some (Jvm.ClassFile.FieldType.array Jvm.ClassFile.FieldType.int)), [], some 2)
def gM84 : gMT := (⟨"PointsTo$Facts", "followLoad", "(LPointsTo$Statement;)V"⟩, prog_2_method_10_code, 3, none, [], some 2)
def gM85 : gMT := (⟨"PointsTo$Facts", "followStore", "(LPointsTo$Statement;)V"⟩, prog_2_method_11_code, 3, none, [], some 2)
def gM86 : gMT := (⟨"PointsTo$Facts", "followReceivers", "(LPointsTo$Statement;)V"⟩, prog_2_method_12_code, 4, none, [], some 2)
def gM87 : gMT := (⟨"PointsTo$Method", "parameter", "(I)I"⟩, prog_4_method_3_code, 2, (some Jvm.ClassFile.FieldType.int), [], some 4)
def gM88 : gMT := (⟨"PointsTo$Facts", "followCallee", "(LPointsTo$Statement;LPointsTo$Method;)V"⟩, prog_2_method_14_code, 3, none, [], some 2)
def gM89 : gMT := (⟨"PointsTo$Facts", "followValues", "(LPointsTo$Statement;)V"⟩, prog_2_method_13_code, 3, none, [], some 2)
def gM90 : gMT := (⟨"PointsTo$Facts", "follow", "(LPointsTo$Statement;)V"⟩, prog_2_method_8_code, 2, none, [], some 2)
def gM91 : gMT := (⟨"PointsTo$Facts", "find", "(LPointsTo$Program;)V"⟩, prog_2_method_2_code, 4, none, [], some 2)
def gM92 : gMT := (⟨"PointsTo$Machine", "forgetSeen", "()V"⟩, prog_3_method_2_code, 2, none, [], some 3)
def gM93 : gMT := (⟨"PointsTo$Facts", "pairs", "()I"⟩, prog_2_method_16_code, 4, (some Jvm.ClassFile.FieldType.int), [], some 2)
def gM94 : gMT := (⟨"PointsTo", "read", "()I"⟩, prog_1_method_4_code, 2, (some Jvm.ClassFile.FieldType.int), [], some 7)
def gM95 : gMT := (⟨"PointsToLaw", "read", "(LPointsTo;[J)I"⟩, method_5_code, 3, (some Jvm.ClassFile.FieldType.int), [(0, 8, 11, 13)], none)
def gM96 : gMT := (⟨"PointsToModel", "other", "()I"⟩, prog_10_method_29_code, 1, (some Jvm.ClassFile.FieldType.int), [], some 8)
def gM97 : gMT := (⟨"PointsToModel", "isSign", "(I)Z"⟩, prog_10_method_9_code, 1, (some Jvm.ClassFile.FieldType.boolean), [], none)
def gM98 : gMT := (⟨"PointsToModel", "isLetter", "(I)Z"⟩, prog_10_method_8_code, 1, (some Jvm.ClassFile.FieldType.boolean), [], none)
def gM99 : gMT := (⟨"PointsToModel", "next", "()V"⟩, prog_10_method_10_code, 4, none, [], some 8)
def gM100 : gMT := (⟨"PointsToModel", "more", "(II)I"⟩, prog_10_method_11_code, 2, (some Jvm.ClassFile.FieldType.int), [], none)
def gM101 : gMT := (⟨"PointsToModel", "word", "(IIIIII)I"⟩, prog_10_method_12_code, 6, (some Jvm.ClassFile.FieldType.int), [], none)
def gM102 : gMT := (⟨"PointsToModel", "is", "(I)Z"⟩, prog_10_method_13_code, 2, (some Jvm.ClassFile.FieldType.boolean), [], some 8)
def gM103 : gMT := (⟨"PointsToModel", "isClass", "()Z"⟩, prog_10_method_14_code, 1, (some Jvm.ClassFile.FieldType.boolean), [], some 8)
def gM104 : gMT := (⟨"PointsToModel", "stop", "()V"⟩, prog_10_method_26_code, 1, none, [], some 8)
def gM105 : gMT := (⟨"PointsToModel", "goOn", "(Z)Z"⟩, prog_10_method_27_code, 2, (some Jvm.ClassFile.FieldType.boolean), [], some 8)
def gM106 : gMT := (⟨"PointsToModel", "isField", "()Z"⟩, prog_10_method_15_code, 1, (some Jvm.ClassFile.FieldType.boolean), [], some 8)
def gM107 : gMT := (⟨"PointsToModel", "isDef", "()Z"⟩, prog_10_method_16_code, 1, (some Jvm.ClassFile.FieldType.boolean), [], some 8)
def gM108 : gMT := (⟨"PointsToModel", "isNew", "()Z"⟩, prog_10_method_17_code, 1, (some Jvm.ClassFile.FieldType.boolean), [], some 8)
def gM109 : gMT := (⟨"PointsToModel", "isNull", "()Z"⟩, prog_10_method_18_code, 1, (some Jvm.ClassFile.FieldType.boolean), [], some 8)
def gM110 : gMT := (⟨"PointsToModel", "isIf", "()Z"⟩, prog_10_method_19_code, 1, (some Jvm.ClassFile.FieldType.boolean), [], some 8)
def gM111 : gMT := (⟨"PointsToModel", "isElse", "()Z"⟩, prog_10_method_20_code, 1, (some Jvm.ClassFile.FieldType.boolean), [], some 8)
def gM112 : gMT := (⟨"PointsToModel", "isWhile", "()Z"⟩, prog_10_method_21_code, 1, (some Jvm.ClassFile.FieldType.boolean), [], some 8)
def gM113 : gMT := (⟨"PointsToModel", "isReturn", "()Z"⟩, prog_10_method_22_code, 1, (some Jvm.ClassFile.FieldType.boolean), [], some 8)
def gM114 : gMT := (⟨"PointsToModel", "isThis", "()Z"⟩, prog_10_method_23_code, 1, (some Jvm.ClassFile.FieldType.boolean), [], some 8)
def gM115 : gMT := (⟨"PointsToModel", "isName", "()Z"⟩, prog_10_method_24_code, 1, (some Jvm.ClassFile.FieldType.boolean), [], some 8)
def gM116 : gMT := (⟨"PointsToModel", "findClass", "(II)I"⟩, prog_10_method_30_code, 4, (some Jvm.ClassFile.FieldType.int), [], some 8)
def gM117 : gMT := (⟨"PointsToModel", "isMark", "(I)Z"⟩, prog_10_method_25_code, 2, (some Jvm.ClassFile.FieldType.boolean), [], some 8)
def gM118 : gMT := (⟨"PointsToModel", "mark", "(I)Z"⟩, prog_10_method_28_code, 2, (some Jvm.ClassFile.FieldType.boolean), [], some 8)
def gM119 : gMT := (⟨"PointsToModel", "readHead", "()V"⟩, prog_10_method_38_code, 6, none, [], some 8)
def gM120 : gMT := (⟨"PointsToModel", "findField", "(II)I"⟩, prog_10_method_31_code, 4, (some Jvm.ClassFile.FieldType.int), [], some 8)
def gM121 : gMT := (⟨"PointsToModel", "hasField", "(III)Z"⟩, prog_10_method_33_code, 5, (some Jvm.ClassFile.FieldType.boolean), [], some 8)
def gM122 : gMT := (⟨"PointsToModel", "readField", "()V"⟩, prog_10_method_39_code, 6, none, [], some 8)
def gM123 : gMT := (⟨"PointsToModel", "declared", "(IIIZ)I"⟩, prog_10_method_34_code, 7, (some Jvm.ClassFile.FieldType.int), [], some 8)
def gM124 : gMT := (⟨"PointsToModel", "addVar", "(I)I"⟩, prog_10_method_40_code, 3, (some Jvm.ClassFile.FieldType.int), [], some 8)
def gM125 : gMT := (⟨"PointsToModel", "readParameters", "(I)V"⟩, prog_10_method_42_code, 7, none, [], some 8)
def gM126 : gMT := (⟨"PointsToModel", "readMethodHead", "()V"⟩, prog_10_method_41_code, 7, none, [], some 8)
def gM127 : gMT := (⟨"PointsToModel", "emit", "(IIII)I"⟩, prog_10_method_36_code, 7, (some Jvm.ClassFile.FieldType.int), [], some 8)
def gM128 : gMT := (⟨"PointsToModel", "aim", "(I)V"⟩, prog_10_method_37_code, 2, none, [], some 8)
def gM129 : gMT := (⟨"PointsToModel", "readClosing", "()V"⟩, prog_10_method_52_code, 3, none, [], some 8)
def gM130 : gMT := (⟨"PointsToModel", "readVar", "()I"⟩, prog_10_method_43_code, 4, (some Jvm.ClassFile.FieldType.int), [], some 8)
def gM131 : gMT := (⟨"PointsToModel", "readOpening", "()V"⟩, prog_10_method_51_code, 3, none, [], some 8)
def gM132 : gMT := (⟨"PointsToModel", "readCall", "(IIII)V"⟩, prog_10_method_45_code, 11, none, [], some 8)
def gM133 : gMT := (⟨"PointsToModel", "readMember", "(I)V"⟩, prog_10_method_49_code, 5, none, [], some 8)
def gM134 : gMT := (⟨"PointsToModel", "ask", "(I)V"⟩, prog_10_method_44_code, 2, none, [], some 8)
def gM135 : gMT := (⟨"PointsToModel", "readNew", "(I)V"⟩, prog_10_method_46_code, 4, none, [], some 8)
def gM136 : gMT := (⟨"PointsToModel", "readCast", "(I)V"⟩, prog_10_method_47_code, 5, none, [], some 8)
def gM137 : gMT := (⟨"PointsToModel", "readRight", "(I)V"⟩, prog_10_method_48_code, 5, none, [], some 8)
def gM138 : gMT := (⟨"PointsToModel", "readSimple", "()V"⟩, prog_10_method_50_code, 3, none, [], some 8)
def gM139 : gMT := (⟨"PointsToModel", "readBody", "()V"⟩, prog_10_method_53_code, 2, none, [], some 8)
def gM140 : gMT := (⟨"PointsToModel", "readClass", "()V"⟩, prog_10_method_54_code, 1, none, [], some 8)
def gM141 : gMT := (⟨"PointsToModel", "settleNames", "(I)V"⟩, prog_10_method_55_code, 4, none, [], some 8)
def gM142 : gMT := (⟨"PointsToModel", "found", "(IIII)I"⟩, prog_10_method_35_code, 6, (some Jvm.ClassFile.FieldType.int), [], some 8)
def gM143 : gMT := (⟨"PointsToModel", "startMethod", "()I"⟩, prog_10_method_58_code, 1, (some Jvm.ClassFile.FieldType.int), [], some 8)
def gM144 : gMT := (⟨"PointsToModel", "old", "(I)Z"⟩, prog_10_method_59_code, 2, (some Jvm.ClassFile.FieldType.boolean), [], some 8)
def gM145 : gMT := (⟨"PointsToModel", "addMay", "(II)V"⟩, prog_10_method_60_code, 3, none, [], some 8)
def gM146 : gMT := (⟨"PointsToModel", "flow", "(II)V"⟩, prog_10_method_61_code, 4, none, [], some 8)
def gM147 : gMT := (⟨"PointsToModel", "doFields", "(I)V"⟩, prog_10_method_63_code, 8, none, [], some 8)
def gM148 : gMT := (⟨"PointsToModel", "doCall", "(I)V"⟩, prog_10_method_62_code, 8, none, [], some 8)
def gM149 : gMT := (⟨"PointsToModel", "below", "(III)Z"⟩, prog_10_method_32_code, 5, (some Jvm.ClassFile.FieldType.boolean), [], some 8)
def gM150 : gMT := (⟨"PointsToModel", "doOne", "(I)V"⟩, prog_10_method_64_code, 6, none, [], some 8)
def gM151 : gMT := (⟨"PointsToModel", "analyse", "()V"⟩, prog_10_method_65_code, 4, none, [], some 8)
def gM152 : gMT := (⟨"PointsToModel", "read", "()I"⟩, prog_10_method_56_code, 4, (some Jvm.ClassFile.FieldType.int), [], some 8)
def gM153 : gMT := (⟨"PointsTo", "fault", "()I"⟩, prog_1_method_5_code, 1, (some Jvm.ClassFile.FieldType.int), [], some 7)
def gM154 : gMT := (⟨"PointsToModel", "fault", "()I"⟩, prog_10_method_57_code, 1, (some Jvm.ClassFile.FieldType.int), [], some 8)
def gM155 : gMT := (⟨"PointsTo", "isBelow", "(II)Z"⟩, prog_1_method_16_code, 2, (some Jvm.ClassFile.FieldType.boolean), [], none)
def gM156 : gMT := (⟨"PointsTo", "hasVariable", "(I)Z"⟩, prog_1_method_19_code, 2, (some Jvm.ClassFile.FieldType.boolean), [], some 7)
def gM157 : gMT := (⟨"PointsTo", "hasSite", "(I)Z"⟩, prog_1_method_20_code, 2, (some Jvm.ClassFile.FieldType.boolean), [], some 7)
def gM158 : gMT := (⟨"PointsTo", "may", "(II)I"⟩, prog_1_method_6_code, 3, (some Jvm.ClassFile.FieldType.int), [], some 7)
def gM159 : gMT := (⟨"PointsToLaw", "may", "(LPointsTo;II[J)I"⟩, method_6_code, 5, (some Jvm.ClassFile.FieldType.int), [(0, 10, 13, 29)], none)
def gM160 : gMT := (⟨"PointsToModel", "isVar", "(I)Z"⟩, prog_10_method_67_code, 2, (some Jvm.ClassFile.FieldType.boolean), [], some 8)
def gM161 : gMT := (⟨"PointsToModel", "isSite", "(I)Z"⟩, prog_10_method_68_code, 2, (some Jvm.ClassFile.FieldType.boolean), [], some 8)
def gM162 : gMT := (⟨"PointsToModel", "there", "(Z)Z"⟩, prog_10_method_66_code, 2, (some Jvm.ClassFile.FieldType.boolean), [], some 8)
def gM163 : gMT := (⟨"PointsToModel", "may", "(II)I"⟩, prog_10_method_70_code, 3, (some Jvm.ClassFile.FieldType.int), [], some 8)
def gM164 : gMT := (⟨"PointsTo", "holds", "(III)I"⟩, prog_1_method_7_code, 4, (some Jvm.ClassFile.FieldType.int), [], some 7)
def gM165 : gMT := (⟨"PointsToLaw", "holds", "(LPointsTo;III[J)I"⟩, method_7_code, 6, (some Jvm.ClassFile.FieldType.int), [(0, 12, 15, 29)], none)
def gM166 : gMT := (⟨"PointsToModel", "holds", "(III)I"⟩, prog_10_method_71_code, 4, (some Jvm.ClassFile.FieldType.int), [], some 8)
def gM167 : gMT := (⟨"PointsTo", "hasMethod", "(I)Z"⟩, prog_1_method_21_code, 2, (some Jvm.ClassFile.FieldType.boolean), [], some 7)
def gM168 : gMT := (⟨"PointsTo", "goes", "(II)I"⟩, prog_1_method_8_code, 3, (some Jvm.ClassFile.FieldType.int), [], some 7)
def gM169 : gMT := (⟨"PointsToLaw", "goes", "(LPointsTo;II[J)I"⟩, method_8_code, 5, (some Jvm.ClassFile.FieldType.int), [(0, 10, 13, 29)], none)
def gM170 : gMT := (⟨"PointsToModel", "isMethod", "(I)Z"⟩, prog_10_method_69_code, 2, (some Jvm.ClassFile.FieldType.boolean), [], some 8)
def gM171 : gMT := (⟨"PointsToModel", "goes", "(II)I"⟩, prog_10_method_72_code, 3, (some Jvm.ClassFile.FieldType.int), [], some 8)
def gM172 : gMT := (⟨"PointsTo", "reached", "(I)I"⟩, prog_1_method_9_code, 2, (some Jvm.ClassFile.FieldType.int), [], some 7)
def gM173 : gMT := (⟨"PointsToLaw", "reached", "(LPointsTo;I[J)I"⟩, method_9_code, 4, (some Jvm.ClassFile.FieldType.int), [(0, 9, 12, 29)], none)
def gM174 : gMT := (⟨"PointsToModel", "reached", "(I)I"⟩, prog_10_method_73_code, 2, (some Jvm.ClassFile.FieldType.int), [], some 8)
def gM175 : gMT := (⟨"PointsTo$Facts", "castNeverFails", "(LPointsTo$Statement;)Z"⟩, prog_2_method_17_code, 3, (some Jvm.ClassFile.FieldType.boolean), [], some 2)
def gM176 : gMT := (⟨"PointsTo", "safe", "(I)I"⟩, prog_1_method_10_code, 2, (some Jvm.ClassFile.FieldType.int), [], some 7)
def gM177 : gMT := (⟨"PointsToLaw", "safe", "(LPointsTo;I[J)I"⟩, method_10_code, 4, (some Jvm.ClassFile.FieldType.int), [(0, 9, 12, 29)], none)
def gM178 : gMT := (⟨"PointsToModel", "safe", "(I)I"⟩, prog_10_method_74_code, 4, (some Jvm.ClassFile.FieldType.int), [], some 8)
def gM179 : gMT := (⟨"PointsTo$Facts", "shareSite", "(II)Z"⟩, prog_2_method_18_code, 4, (some Jvm.ClassFile.FieldType.boolean), [], some 2)
def gM180 : gMT := (⟨"PointsTo", "alias", "(II)I"⟩, prog_1_method_11_code, 3, (some Jvm.ClassFile.FieldType.int), [], some 7)
def gM181 : gMT := (⟨"PointsToLaw", "alias", "(LPointsTo;II[J)I"⟩, method_11_code, 5, (some Jvm.ClassFile.FieldType.int), [(0, 10, 13, 29)], none)
def gM182 : gMT := (⟨"PointsToModel", "alias", "(II)I"⟩, prog_10_method_75_code, 4, (some Jvm.ClassFile.FieldType.int), [], some 8)
def gM183 : gMT := (⟨"PointsTo", "method", "(II)I"⟩, prog_1_method_12_code, 4, (some Jvm.ClassFile.FieldType.int), [], some 7)
def gM184 : gMT := (⟨"PointsToLaw", "method", "(LPointsTo;II[J)I"⟩, method_12_code, 5, (some Jvm.ClassFile.FieldType.int), [(0, 10, 13, 29), (0, 10, 17, 13)], none)
def gM185 : gMT := (⟨"PointsToModel", "method", "(II)I"⟩, prog_10_method_76_code, 4, (some Jvm.ClassFile.FieldType.int), [], some 8)
def gM186 : gMT := (⟨"PointsTo$Machine", "make", "(I)I"⟩, prog_3_method_4_code, 3, (some Jvm.ClassFile.FieldType.int), [], some 3)
def gM187 : gMT := (⟨"PointsTo$Machine", "openFrame", "(I)[I"⟩, prog_3_method_5_code, 2, (some (Jvm.ClassFile.FieldType.array Jvm.ClassFile.FieldType.int)), [], some 3)
def gM188 : gMT := (⟨"PointsTo$Machine", "give", "([III)V"⟩, prog_3_method_7_code, 4, none, [], some 3)
def gM189 : gMT := (⟨"PointsTo$Machine", "begin", "()V"⟩, prog_3_method_6_code, 1, none, [], some 3)
def gM190 : gMT := (⟨"PointsTo$Machine", "runWhile", "(II)Z"⟩, prog_3_method_10_code, 5, (some Jvm.ClassFile.FieldType.boolean), [], some 3)
def gM191 : gMT := (⟨"PointsTo$Machine", "classOf", "(I)I"⟩, prog_3_method_12_code, 2, (some Jvm.ClassFile.FieldType.int), [], some 3)
def gM192 : gMT := (⟨"PointsTo$Machine", "holder", "(II)I"⟩, prog_3_method_13_code, 3, (some Jvm.ClassFile.FieldType.int), [], some 3)
def gM193 : gMT := (⟨"PointsTo$Machine", "runCall", "(LPointsTo$Statement;I)V"⟩, prog_3_method_15_code, 8, none, [], some 3)
def gM194 : gMT := (⟨"PointsTo$Machine", "castTo", "(II)I"⟩, prog_3_method_14_code, 3, (some Jvm.ClassFile.FieldType.int), [], some 3)
def gM195 : gMT := (⟨"PointsTo$Machine", "rightOf", "(LPointsTo$Statement;[I)I"⟩, prog_3_method_11_code, 3, (some Jvm.ClassFile.FieldType.int), [], some 3)
def gM196 : gMT := (⟨"PointsTo$Machine", "runStatement", "(II)Z"⟩, prog_3_method_9_code, 5, (some Jvm.ClassFile.FieldType.boolean), [], some 3)
def gM197 : gMT := (⟨"PointsTo$Machine", "runBody", "(III)Z"⟩, prog_3_method_8_code, 6, (some Jvm.ClassFile.FieldType.boolean), [], some 3)
def gM198 : gMT := (⟨"PointsTo$Machine", "execute", "(LPointsTo$Program;)V"⟩, prog_3_method_3_code, 4, none, [], some 3)
def gM199 : gMT := (⟨"PointsTo", "run", "()I"⟩, prog_1_method_13_code, 1, (some Jvm.ClassFile.FieldType.int), [], some 7)
def gM200 : gMT := (⟨"PointsToLaw", "run", "(LPointsTo;[J)I"⟩, method_13_code, 3, (some Jvm.ClassFile.FieldType.int), [(0, 8, 11, 29), (0, 8, 14, 53), (0, 8, 17, 55), (0, 8, 20, 15)], none)
def gM201 : gMT := (⟨"PointsToModel", "make", "(I)I"⟩, prog_10_method_80_code, 3, (some Jvm.ClassFile.FieldType.int), [], some 8)
def gM202 : gMT := (⟨"PointsToModel", "give", "(II)V"⟩, prog_10_method_77_code, 3, none, [], some 8)
def gM203 : gMT := (⟨"PointsToModel", "enter", "(IIIII)V"⟩, prog_10_method_81_code, 7, none, [], some 8)
def gM204 : gMT := (⟨"PointsToModel", "leave", "(II)V"⟩, prog_10_method_82_code, 4, none, [], some 8)
def gM205 : gMT := (⟨"PointsToModel", "get", "(I)I"⟩, prog_10_method_78_code, 2, (some Jvm.ClassFile.FieldType.int), [], some 8)
def gM206 : gMT := (⟨"PointsToModel", "classOf", "(I)I"⟩, prog_10_method_79_code, 2, (some Jvm.ClassFile.FieldType.int), [], some 8)
def gM207 : gMT := (⟨"PointsToModel", "runCall", "(I)V"⟩, prog_10_method_83_code, 7, none, [], some 8)
def gM208 : gMT := (⟨"PointsToModel", "runField", "(I)V"⟩, prog_10_method_84_code, 5, none, [], some 8)
def gM209 : gMT := (⟨"PointsToModel", "runPlain", "(I)V"⟩, prog_10_method_85_code, 6, none, [], some 8)
def gM210 : gMT := (⟨"PointsToModel", "step", "()V"⟩, prog_10_method_86_code, 3, none, [], some 8)
def gM211 : gMT := (⟨"PointsToModel", "run", "()I"⟩, prog_10_method_87_code, 2, (some Jvm.ClassFile.FieldType.int), [], some 8)
def gM212 : gMT := (⟨"PointsTo", "seen", "(II)I"⟩, prog_1_method_14_code, 3, (some Jvm.ClassFile.FieldType.int), [], some 7)
def gM213 : gMT := (⟨"PointsToLaw", "seen", "(LPointsTo;II[J)I"⟩, method_14_code, 5, (some Jvm.ClassFile.FieldType.int), [(0, 10, 13, 29)], none)
def gM214 : gMT := (⟨"PointsToModel", "seen", "(II)I"⟩, prog_10_method_88_code, 3, (some Jvm.ClassFile.FieldType.int), [], some 8)
def gM215 : gMT := (⟨"PointsTo", "count", "(I)I"⟩, prog_1_method_15_code, 2, (some Jvm.ClassFile.FieldType.int), [], some 7)
def gM216 : gMT := (⟨"PointsToLaw", "count", "(LPointsTo;I[J)I"⟩, method_15_code, 4, (some Jvm.ClassFile.FieldType.int), [(0, 9, 12, 13)], none)
def gM217 : gMT := (⟨"PointsToModel", "count", "(I)I"⟩, prog_10_method_89_code, 2, (some Jvm.ClassFile.FieldType.int), [], some 8)
def gM218 : gMT := (⟨"PointsToLaw", "law", "([I)Z"⟩, code, 7, (some Jvm.ClassFile.FieldType.boolean), [], none)
def gM : List gMT := [gM0, gM1, gM2, gM3, gM4, gM5, gM6, gM7, gM8, gM9, gM10, gM11, gM12, gM13, gM14, gM15, gM16, gM17, gM18, gM19, gM20, gM21, gM22, gM23, gM24, gM25, gM26, gM27, gM28, gM29, gM30, gM31, gM32, gM33, gM34, gM35, gM36, gM37, gM38, gM39, gM40, gM41, gM42, gM43, gM44, gM45, gM46, gM47, gM48, gM49, gM50, gM51, gM52, gM53, gM54, gM55, gM56, gM57, gM58, gM59, gM60, gM61, gM62, gM63, gM64, gM65, gM66, gM67, gM68, gM69, gM70, gM71, gM72, gM73, gM74, gM75, gM76, gM77, gM78, gM79, gM80, gM81, gM82, gM83, gM84, gM85, gM86, gM87, gM88, gM89, gM90, gM91, gM92, gM93, gM94, gM95, gM96, gM97, gM98, gM99, gM100, gM101, gM102, gM103, gM104, gM105, gM106, gM107, gM108, gM109, gM110, gM111, gM112, gM113, gM114, gM115, gM116, gM117, gM118, gM119, gM120, gM121, gM122, gM123, gM124, gM125, gM126, gM127, gM128, gM129, gM130, gM131, gM132, gM133, gM134, gM135, gM136, gM137, gM138, gM139, gM140, gM141, gM142, gM143, gM144, gM145, gM146, gM147, gM148, gM149, gM150, gM151, gM152, gM153, gM154, gM155, gM156, gM157, gM158, gM159, gM160, gM161, gM162, gM163, gM164, gM165, gM166, gM167, gM168, gM169, gM170, gM171, gM172, gM173, gM174, gM175, gM176, gM177, gM178, gM179, gM180, gM181, gM182, gM183, gM184, gM185, gM186, gM187, gM188, gM189, gM190, gM191, gM192, gM193, gM194, gM195, gM196, gM197, gM198, gM199, gM200, gM201, gM202, gM203, gM204, gM205, gM206, gM207, gM208, gM209, gM210, gM211, gM212, gM213, gM214, gM215, gM216, gM217, gM218]
def gMr (j : Nat) : gMT := gM.getD j gM0
def gY (j : Nat) : MethodName := (gMr j).1
def gC (j : Nat) : ByteArray := (gMr j).2.1
def gMx (j : Nat) : Nat := (gMr j).2.2.1
def gRet (j : Nat) : Option FieldType := (gMr j).2.2.2.1
def gH (j : Nat) : List (Nat × Nat × Nat × Nat) := (gMr j).2.2.2.2.1
def gMc (j : Nat) : Option Nat := (gMr j).2.2.2.2.2
def gLaw : Nat := 218
def gWT : List Cond := [(Jvm.Cond.initialized "java/lang/Throwable"), (Jvm.Cond.initialized "java/lang/Exception"), (Jvm.Cond.initialized "java/lang/RuntimeException"), (Jvm.Cond.initialized "java/lang/IllegalArgumentException"), (Jvm.Cond.initialized "java/lang/IllegalStateException"), (Jvm.Cond.initialized "java/util/NoSuchElementException"), (Jvm.Cond.initialized "java/lang/IndexOutOfBoundsException"), (Jvm.Cond.initialized "java/lang/UnsupportedOperationException"), (Jvm.Cond.instanceMethod ({ cls := "java/lang/Object", name := "<init>", desc := "()V" } : Jvm.MethodName)), (Jvm.Cond.code ({ cls := "java/lang/Object", name := "<init>", desc := "()V" } : Jvm.MethodName) object_method_1_code (1 : Nat) (Option.none : Option Jvm.ClassFile.FieldType)), (Jvm.Cond.instantiable "java/lang/IllegalArgumentException" (6 : Nat)), (Jvm.Cond.castable "java/lang/IllegalArgumentException" "java/lang/IllegalArgumentException"), (Jvm.Cond.declares ({ cls := "java/lang/RuntimeException", name := "<init>", desc := "()V" } : Jvm.MethodName)), (Jvm.Cond.declares ({ cls := "java/lang/RuntimeException", name := "<init>", desc := "(Ljava/lang/String;)V" } : Jvm.MethodName)), (Jvm.Cond.declares ({ cls := "java/lang/Exception", name := "<init>", desc := "()V" } : Jvm.MethodName)), (Jvm.Cond.declares ({ cls := "java/lang/Exception", name := "<init>", desc := "(Ljava/lang/String;)V" } : Jvm.MethodName)), (Jvm.Cond.declares ({ cls := "java/lang/Throwable", name := "<init>", desc := "()V" } : Jvm.MethodName)), (Jvm.Cond.declares ({ cls := "java/lang/Throwable", name := "<init>", desc := "(Ljava/lang/String;)V" } : Jvm.MethodName)), (Jvm.Cond.selects "java/lang/IllegalArgumentException" ({ cls := "java/lang/Throwable", name := "fillInStackTrace", desc := "(I)Ljava/lang/Throwable;" } : Jvm.MethodName) ({ cls := "java/lang/Throwable", name := "fillInStackTrace", desc := "(I)Ljava/lang/Throwable;" } : Jvm.MethodName)), (Jvm.Cond.selects "java/lang/IllegalArgumentException" ({ cls := "java/lang/Throwable", name := "fillInStackTrace", desc := "()Ljava/lang/Throwable;" } : Jvm.MethodName) ({ cls := "java/lang/Throwable", name := "fillInStackTrace", desc := "()Ljava/lang/Throwable;" } : Jvm.MethodName)), (Jvm.Cond.lays "java/lang/IllegalArgumentException" "java/lang/Throwable" "cause" "Ljava/lang/Throwable;"), (Jvm.Cond.lays "java/lang/Throwable" "java/lang/Throwable" "cause" "Ljava/lang/Throwable;"), (Jvm.Cond.lays "java/lang/IllegalArgumentException" "java/lang/Throwable" "stackTrace" "[Ljava/lang/StackTraceElement;"), (Jvm.Cond.lays "java/lang/Throwable" "java/lang/Throwable" "stackTrace" "[Ljava/lang/StackTraceElement;"), (Jvm.Cond.lays "java/lang/IllegalArgumentException" "java/lang/Throwable" "suppressedExceptions" "Ljava/util/List;"), (Jvm.Cond.lays "java/lang/Throwable" "java/lang/Throwable" "suppressedExceptions" "Ljava/util/List;"), (Jvm.Cond.lays "java/lang/IllegalArgumentException" "java/lang/Throwable" "detailMessage" "Ljava/lang/String;"), (Jvm.Cond.lays "java/lang/Throwable" "java/lang/Throwable" "detailMessage" "Ljava/lang/String;"), (Jvm.Cond.lays "java/lang/IllegalArgumentException" "java/lang/Throwable" "backtrace" "Ljava/lang/Object;"), (Jvm.Cond.lays "java/lang/Throwable" "java/lang/Throwable" "backtrace" "Ljava/lang/Object;"), (Jvm.Cond.fieldLink "java/lang/Throwable" (198 : Nat) "java/lang/Throwable" "backtrace" "Ljava/lang/Object;"), (Jvm.Cond.superclass "java/lang/Throwable" "java/lang/Object"), (Jvm.Cond.instanceMethod ({ cls := "java/lang/Throwable", name := "<init>", desc := "()V" } : Jvm.MethodName)), (Jvm.Cond.code ({ cls := "java/lang/Throwable", name := "<init>", desc := "()V" } : Jvm.MethodName) prog_19_method_1_code (1 : Nat) (Option.none : Option Jvm.ClassFile.FieldType)), (Jvm.Cond.methodLink "java/lang/Throwable" (1 : Nat) ({ cls := "java/lang/Object", name := "<init>", desc := "()V" } : Jvm.MethodName)), (Jvm.Cond.fieldLink "java/lang/Throwable" (13 : Nat) "java/lang/Throwable" "UNASSIGNED_STACK" "[Ljava/lang/StackTraceElement;"), (Jvm.Cond.laysStatic "java/lang/Throwable" "UNASSIGNED_STACK" "[Ljava/lang/StackTraceElement;"), (Jvm.Cond.fieldLink "java/lang/Throwable" (20 : Nat) "java/lang/Throwable" "SUPPRESSED_SENTINEL" "Ljava/util/List;"), (Jvm.Cond.laysStatic "java/lang/Throwable" "SUPPRESSED_SENTINEL" "Ljava/util/List;"), (Jvm.Cond.methodLink "java/lang/Throwable" (27 : Nat) ({ cls := "java/lang/Throwable", name := "fillInStackTrace", desc := "()Ljava/lang/Throwable;" } : Jvm.MethodName)), (Jvm.Cond.instanceMethod ({ cls := "java/lang/Throwable", name := "fillInStackTrace", desc := "()Ljava/lang/Throwable;" } : Jvm.MethodName)), (Jvm.Cond.sameMethod "java/lang/Throwable" "java/lang/Throwable" "fillInStackTrace" "()Ljava/lang/Throwable;"), (Jvm.Cond.selects "java/lang/IllegalStateException" ({ cls := "java/lang/Throwable", name := "fillInStackTrace", desc := "()Ljava/lang/Throwable;" } : Jvm.MethodName) ({ cls := "java/lang/Throwable", name := "fillInStackTrace", desc := "()Ljava/lang/Throwable;" } : Jvm.MethodName)), (Jvm.Cond.selects "java/lang/IndexOutOfBoundsException" ({ cls := "java/lang/Throwable", name := "fillInStackTrace", desc := "()Ljava/lang/Throwable;" } : Jvm.MethodName) ({ cls := "java/lang/Throwable", name := "fillInStackTrace", desc := "()Ljava/lang/Throwable;" } : Jvm.MethodName)), (Jvm.Cond.selects "java/lang/UnsupportedOperationException" ({ cls := "java/lang/Throwable", name := "fillInStackTrace", desc := "()Ljava/lang/Throwable;" } : Jvm.MethodName) ({ cls := "java/lang/Throwable", name := "fillInStackTrace", desc := "()Ljava/lang/Throwable;" } : Jvm.MethodName)), (Jvm.Cond.selects "java/util/NoSuchElementException" ({ cls := "java/lang/Throwable", name := "fillInStackTrace", desc := "()Ljava/lang/Throwable;" } : Jvm.MethodName) ({ cls := "java/lang/Throwable", name := "fillInStackTrace", desc := "()Ljava/lang/Throwable;" } : Jvm.MethodName)), (Jvm.Cond.codeSync ({ cls := "java/lang/Throwable", name := "fillInStackTrace", desc := "()Ljava/lang/Throwable;" } : Jvm.MethodName) prog_19_method_18_code (1 : Nat) (Option.some (Jvm.ClassFile.FieldType.object "java/lang/Throwable"))), (Jvm.Cond.methodLink "java/lang/Throwable" (202 : Nat) ({ cls := "java/lang/Throwable", name := "fillInStackTrace", desc := "(I)Ljava/lang/Throwable;" } : Jvm.MethodName)), (Jvm.Cond.privateMethod ({ cls := "java/lang/Throwable", name := "fillInStackTrace", desc := "(I)Ljava/lang/Throwable;" } : Jvm.MethodName)), (Jvm.Cond.instanceMethod ({ cls := "java/lang/Throwable", name := "fillInStackTrace", desc := "(I)Ljava/lang/Throwable;" } : Jvm.MethodName)), (Jvm.Cond.instantiable "java/lang/Throwable" (6 : Nat)), (Jvm.Cond.native ({ cls := "java/lang/Throwable", name := "fillInStackTrace", desc := "(I)Ljava/lang/Throwable;" } : Jvm.MethodName)), (Jvm.Cond.instanceMethod ({ cls := "java/lang/IllegalArgumentException", name := "<init>", desc := "()V" } : Jvm.MethodName)), (Jvm.Cond.code ({ cls := "java/lang/IllegalArgumentException", name := "<init>", desc := "()V" } : Jvm.MethodName) prog_12_method_1_code (1 : Nat) (Option.none : Option Jvm.ClassFile.FieldType)), (Jvm.Cond.methodLink "java/lang/IllegalArgumentException" (1 : Nat) ({ cls := "java/lang/RuntimeException", name := "<init>", desc := "()V" } : Jvm.MethodName)), (Jvm.Cond.instanceMethod ({ cls := "java/lang/RuntimeException", name := "<init>", desc := "()V" } : Jvm.MethodName)), (Jvm.Cond.code ({ cls := "java/lang/RuntimeException", name := "<init>", desc := "()V" } : Jvm.MethodName) prog_15_method_1_code (1 : Nat) (Option.none : Option Jvm.ClassFile.FieldType)), (Jvm.Cond.methodLink "java/lang/RuntimeException" (1 : Nat) ({ cls := "java/lang/Exception", name := "<init>", desc := "()V" } : Jvm.MethodName)), (Jvm.Cond.instanceMethod ({ cls := "java/lang/Exception", name := "<init>", desc := "()V" } : Jvm.MethodName)), (Jvm.Cond.code ({ cls := "java/lang/Exception", name := "<init>", desc := "()V" } : Jvm.MethodName) prog_11_method_1_code (1 : Nat) (Option.none : Option Jvm.ClassFile.FieldType)), (Jvm.Cond.methodLink "java/lang/Exception" (1 : Nat) ({ cls := "java/lang/Throwable", name := "<init>", desc := "()V" } : Jvm.MethodName)), (Jvm.Cond.fieldLink "java/lang/Throwable" (198 : Nat) "java/lang/Throwable" "backtrace" "Ljava/lang/Object;"), (Jvm.Cond.fieldLink "java/lang/Throwable" (7 : Nat) "java/lang/Throwable" "cause" "Ljava/lang/Throwable;"), (Jvm.Cond.fieldLink "java/lang/Throwable" (17 : Nat) "java/lang/Throwable" "stackTrace" "[Ljava/lang/StackTraceElement;"), (Jvm.Cond.fieldLink "java/lang/Throwable" (24 : Nat) "java/lang/Throwable" "suppressedExceptions" "Ljava/util/List;"), (Jvm.Cond.soleField "java/lang/Throwable" "backtrace"), (Jvm.Cond.soleField "java/lang/Throwable" "detailMessage"), (Jvm.Cond.soleField "java/lang/Throwable" "cause"), (Jvm.Cond.soleField "java/lang/Throwable" "stackTrace"), (Jvm.Cond.lays "java/lang/IllegalArgumentException" "java/lang/Throwable" "depth" "I"), (Jvm.Cond.soleField "java/lang/Throwable" "depth"), (Jvm.Cond.soleField "java/lang/Throwable" "suppressedExceptions"), (Jvm.Cond.superclass "java/lang/IllegalArgumentException" "java/lang/RuntimeException"), (Jvm.Cond.instantiable "java/lang/IllegalStateException" (6 : Nat)), (Jvm.Cond.castable "java/lang/IllegalStateException" "java/lang/IllegalStateException"), (Jvm.Cond.selects "java/lang/IllegalStateException" ({ cls := "java/lang/Throwable", name := "fillInStackTrace", desc := "(I)Ljava/lang/Throwable;" } : Jvm.MethodName) ({ cls := "java/lang/Throwable", name := "fillInStackTrace", desc := "(I)Ljava/lang/Throwable;" } : Jvm.MethodName)), (Jvm.Cond.lays "java/lang/IllegalStateException" "java/lang/Throwable" "cause" "Ljava/lang/Throwable;"), (Jvm.Cond.lays "java/lang/IllegalStateException" "java/lang/Throwable" "stackTrace" "[Ljava/lang/StackTraceElement;"), (Jvm.Cond.lays "java/lang/IllegalStateException" "java/lang/Throwable" "suppressedExceptions" "Ljava/util/List;"), (Jvm.Cond.lays "java/lang/IllegalStateException" "java/lang/Throwable" "detailMessage" "Ljava/lang/String;"), (Jvm.Cond.lays "java/lang/IllegalStateException" "java/lang/Throwable" "backtrace" "Ljava/lang/Object;"), (Jvm.Cond.instanceMethod ({ cls := "java/lang/IllegalStateException", name := "<init>", desc := "()V" } : Jvm.MethodName)), (Jvm.Cond.code ({ cls := "java/lang/IllegalStateException", name := "<init>", desc := "()V" } : Jvm.MethodName) prog_13_method_1_code (1 : Nat) (Option.none : Option Jvm.ClassFile.FieldType)), (Jvm.Cond.methodLink "java/lang/IllegalStateException" (1 : Nat) ({ cls := "java/lang/RuntimeException", name := "<init>", desc := "()V" } : Jvm.MethodName)), (Jvm.Cond.lays "java/lang/IllegalStateException" "java/lang/Throwable" "depth" "I"), (Jvm.Cond.superclass "java/lang/IllegalStateException" "java/lang/RuntimeException"), (Jvm.Cond.instantiable "java/util/NoSuchElementException" (6 : Nat)), (Jvm.Cond.castable "java/util/NoSuchElementException" "java/util/NoSuchElementException"), (Jvm.Cond.selects "java/util/NoSuchElementException" ({ cls := "java/lang/Throwable", name := "fillInStackTrace", desc := "(I)Ljava/lang/Throwable;" } : Jvm.MethodName) ({ cls := "java/lang/Throwable", name := "fillInStackTrace", desc := "(I)Ljava/lang/Throwable;" } : Jvm.MethodName)), (Jvm.Cond.lays "java/util/NoSuchElementException" "java/lang/Throwable" "cause" "Ljava/lang/Throwable;"), (Jvm.Cond.lays "java/util/NoSuchElementException" "java/lang/Throwable" "stackTrace" "[Ljava/lang/StackTraceElement;"), (Jvm.Cond.lays "java/util/NoSuchElementException" "java/lang/Throwable" "suppressedExceptions" "Ljava/util/List;"), (Jvm.Cond.lays "java/util/NoSuchElementException" "java/lang/Throwable" "detailMessage" "Ljava/lang/String;"), (Jvm.Cond.lays "java/util/NoSuchElementException" "java/lang/Throwable" "backtrace" "Ljava/lang/Object;"), (Jvm.Cond.instanceMethod ({ cls := "java/util/NoSuchElementException", name := "<init>", desc := "()V" } : Jvm.MethodName)), (Jvm.Cond.code ({ cls := "java/util/NoSuchElementException", name := "<init>", desc := "()V" } : Jvm.MethodName) prog_22_method_1_code (1 : Nat) (Option.none : Option Jvm.ClassFile.FieldType)), (Jvm.Cond.methodLink "java/util/NoSuchElementException" (1 : Nat) ({ cls := "java/lang/RuntimeException", name := "<init>", desc := "()V" } : Jvm.MethodName)), (Jvm.Cond.lays "java/util/NoSuchElementException" "java/lang/Throwable" "depth" "I"), (Jvm.Cond.superclass "java/util/NoSuchElementException" "java/lang/RuntimeException"), (Jvm.Cond.instantiable "java/lang/IndexOutOfBoundsException" (6 : Nat)), (Jvm.Cond.castable "java/lang/IndexOutOfBoundsException" "java/lang/IndexOutOfBoundsException"), (Jvm.Cond.selects "java/lang/IndexOutOfBoundsException" ({ cls := "java/lang/Throwable", name := "fillInStackTrace", desc := "(I)Ljava/lang/Throwable;" } : Jvm.MethodName) ({ cls := "java/lang/Throwable", name := "fillInStackTrace", desc := "(I)Ljava/lang/Throwable;" } : Jvm.MethodName)), (Jvm.Cond.lays "java/lang/IndexOutOfBoundsException" "java/lang/Throwable" "cause" "Ljava/lang/Throwable;"), (Jvm.Cond.lays "java/lang/IndexOutOfBoundsException" "java/lang/Throwable" "stackTrace" "[Ljava/lang/StackTraceElement;"), (Jvm.Cond.lays "java/lang/IndexOutOfBoundsException" "java/lang/Throwable" "suppressedExceptions" "Ljava/util/List;"), (Jvm.Cond.lays "java/lang/IndexOutOfBoundsException" "java/lang/Throwable" "detailMessage" "Ljava/lang/String;"), (Jvm.Cond.lays "java/lang/IndexOutOfBoundsException" "java/lang/Throwable" "backtrace" "Ljava/lang/Object;"), (Jvm.Cond.instanceMethod ({ cls := "java/lang/IndexOutOfBoundsException", name := "<init>", desc := "()V" } : Jvm.MethodName)), (Jvm.Cond.code ({ cls := "java/lang/IndexOutOfBoundsException", name := "<init>", desc := "()V" } : Jvm.MethodName) prog_14_method_1_code (1 : Nat) (Option.none : Option Jvm.ClassFile.FieldType)), (Jvm.Cond.methodLink "java/lang/IndexOutOfBoundsException" (1 : Nat) ({ cls := "java/lang/RuntimeException", name := "<init>", desc := "()V" } : Jvm.MethodName)), (Jvm.Cond.lays "java/lang/IndexOutOfBoundsException" "java/lang/Throwable" "depth" "I"), (Jvm.Cond.superclass "java/lang/IndexOutOfBoundsException" "java/lang/RuntimeException"), (Jvm.Cond.instantiable "java/lang/UnsupportedOperationException" (6 : Nat)), (Jvm.Cond.castable "java/lang/UnsupportedOperationException" "java/lang/UnsupportedOperationException"), (Jvm.Cond.selects "java/lang/UnsupportedOperationException" ({ cls := "java/lang/Throwable", name := "fillInStackTrace", desc := "(I)Ljava/lang/Throwable;" } : Jvm.MethodName) ({ cls := "java/lang/Throwable", name := "fillInStackTrace", desc := "(I)Ljava/lang/Throwable;" } : Jvm.MethodName)), (Jvm.Cond.lays "java/lang/UnsupportedOperationException" "java/lang/Throwable" "cause" "Ljava/lang/Throwable;"), (Jvm.Cond.lays "java/lang/UnsupportedOperationException" "java/lang/Throwable" "stackTrace" "[Ljava/lang/StackTraceElement;"), (Jvm.Cond.lays "java/lang/UnsupportedOperationException" "java/lang/Throwable" "suppressedExceptions" "Ljava/util/List;"), (Jvm.Cond.lays "java/lang/UnsupportedOperationException" "java/lang/Throwable" "detailMessage" "Ljava/lang/String;"), (Jvm.Cond.lays "java/lang/UnsupportedOperationException" "java/lang/Throwable" "backtrace" "Ljava/lang/Object;"), (Jvm.Cond.instanceMethod ({ cls := "java/lang/UnsupportedOperationException", name := "<init>", desc := "()V" } : Jvm.MethodName)), (Jvm.Cond.code ({ cls := "java/lang/UnsupportedOperationException", name := "<init>", desc := "()V" } : Jvm.MethodName) prog_20_method_1_code (1 : Nat) (Option.none : Option Jvm.ClassFile.FieldType)), (Jvm.Cond.methodLink "java/lang/UnsupportedOperationException" (1 : Nat) ({ cls := "java/lang/RuntimeException", name := "<init>", desc := "()V" } : Jvm.MethodName)), (Jvm.Cond.lays "java/lang/UnsupportedOperationException" "java/lang/Throwable" "depth" "I"), (Jvm.Cond.superclass "java/lang/UnsupportedOperationException" "java/lang/RuntimeException"), (Jvm.Cond.sameMethod "java/lang/Throwable" "java/lang/Throwable" "fillInStackTrace" "(I)Ljava/lang/Throwable;"), (Jvm.Cond.selects "java/lang/Throwable" ({ cls := "java/lang/Throwable", name := "fillInStackTrace", desc := "(I)Ljava/lang/Throwable;" } : Jvm.MethodName) ({ cls := "java/lang/Throwable", name := "fillInStackTrace", desc := "(I)Ljava/lang/Throwable;" } : Jvm.MethodName))]
theorem gWT_in : ∀ w ∈ gWT, w ∈ lw_tbl := xplaces (ps := [132, 133, 134, 135, 136, 138, 139, 140, 147, 148, 570, 571, 572, 573, 574, 575, 576, 577, 578, 579, 580, 581, 582, 583, 584, 585, 586, 587, 588, 589, 590, 591, 592, 593, 594, 595, 596, 597, 598, 599, 600, 601, 602, 603, 604, 605, 606, 607, 608, 609, 610, 611, 613, 614, 615, 616, 617, 618, 619, 620, 621, 622, 623, 624, 625, 626, 627, 628, 629, 630, 631, 632, 633, 635, 636, 637, 638, 639, 640, 641, 642, 644, 645, 646, 647, 648, 941, 942, 943, 944, 945, 946, 947, 948, 950, 951, 952, 953, 954, 1069, 1070, 1071, 1072, 1073, 1074, 1075, 1076, 1078, 1079, 1080, 1081, 1082, 1099, 1100, 1101, 1102, 1103, 1104, 1105, 1106, 1108, 1109, 1110, 1111, 1112, 1658, 0]) (by decide +kernel)
/-- java/lang/String -/
def gW0 : List Cond := [(Jvm.Cond.fieldLink "java/lang/String" (38 : Nat) "java/lang/String" "COMPACT_STRINGS" "Z"), (Jvm.Cond.fieldLink "java/lang/String" (15 : Nat) "java/lang/String" "coder" "B"), (Jvm.Cond.fieldLink "java/lang/String" (9 : Nat) "java/lang/String" "value" "[B"), (Jvm.Cond.methodLink "java/lang/String" (335 : Nat) ({ cls := "java/lang/String", name := "coder", desc := "()B" } : Jvm.MethodName)), (Jvm.Cond.initialized "java/lang/String"), (Jvm.Cond.instanceMethod ({ cls := "java/lang/String", name := "coder", desc := "()B" } : Jvm.MethodName)), (Jvm.Cond.selects "java/lang/String" ({ cls := "java/lang/String", name := "coder", desc := "()B" } : Jvm.MethodName) ({ cls := "java/lang/String", name := "coder", desc := "()B" } : Jvm.MethodName)), (Jvm.Cond.fieldLink "java/lang/String" (1053 : Nat) "jdk/internal/util/Preconditions" "SIOOBE_FORMATTER" "Ljava/util/function/BiFunction;"), (Jvm.Cond.methodLink "java/lang/String" (1059 : Nat) ({ cls := "jdk/internal/util/Preconditions", name := "checkIndex", desc := "(IILjava/util/function/BiFunction;)I" } : Jvm.MethodName)), (Jvm.Cond.initialized "jdk/internal/util/Preconditions"), (Jvm.Cond.static ({ cls := "jdk/internal/util/Preconditions", name := "checkIndex", desc := "(IILjava/util/function/BiFunction;)I" } : Jvm.MethodName)), (Jvm.Cond.methodLink "java/lang/String" (492 : Nat) ({ cls := "java/lang/String", name := "isLatin1", desc := "()Z" } : Jvm.MethodName)), (Jvm.Cond.instanceMethod ({ cls := "java/lang/String", name := "isLatin1", desc := "()Z" } : Jvm.MethodName)), (Jvm.Cond.selects "java/lang/String" ({ cls := "java/lang/String", name := "isLatin1", desc := "()Z" } : Jvm.MethodName) ({ cls := "java/lang/String", name := "isLatin1", desc := "()Z" } : Jvm.MethodName)), (Jvm.Cond.methodLink "java/lang/String" (495 : Nat) ({ cls := "java/lang/StringLatin1", name := "charAt", desc := "([BI)C" } : Jvm.MethodName)), (Jvm.Cond.initialized "java/lang/StringLatin1"), (Jvm.Cond.static ({ cls := "java/lang/StringLatin1", name := "charAt", desc := "([BI)C" } : Jvm.MethodName))]
theorem gW0_in : ∀ w ∈ gW0 ++ gWT, w ∈ lw_tbl := fun w h => (List.mem_append.mp h).elim (xplaces (ps := [173, 1660, 1659, 169, 122, 170, 171, 189, 191, 124, 192, 179, 180, 181, 183, 123, 184]) (by decide +kernel) w) (gWT_in w)
/-- jdk/internal/util/Preconditions -/
def gW1 : List Cond := []
theorem gW1_in : ∀ w ∈ gW1 ++ gWT, w ∈ lw_tbl := fun w h => (List.mem_append.mp h).elim (xplaces (ps := []) (by decide +kernel) w) (gWT_in w)
/-- java/lang/StringLatin1 -/
def gW2 : List Cond := [(Jvm.Cond.methodLink "java/lang/StringLatin1" (9 : Nat) ({ cls := "java/lang/String", name := "checkIndex", desc := "(II)V" } : Jvm.MethodName)), (Jvm.Cond.initialized "java/lang/String"), (Jvm.Cond.static ({ cls := "java/lang/String", name := "checkIndex", desc := "(II)V" } : Jvm.MethodName))]
theorem gW2_in : ∀ w ∈ gW2 ++ gWT, w ∈ lw_tbl := fun w h => (List.mem_append.mp h).elim (xplaces (ps := [186, 122, 187]) (by decide +kernel) w) (gWT_in w)
/-- PointsTo$Tokens -/
def gW3 : List Cond := [(Jvm.Cond.methodLink "PointsTo$Tokens" (48 : Nat) ({ cls := "java/lang/String", name := "length", desc := "()I" } : Jvm.MethodName)), (Jvm.Cond.initialized "java/lang/String"), (Jvm.Cond.instanceMethod ({ cls := "java/lang/String", name := "length", desc := "()I" } : Jvm.MethodName)), (Jvm.Cond.selects "java/lang/String" ({ cls := "java/lang/String", name := "length", desc := "()I" } : Jvm.MethodName) ({ cls := "java/lang/String", name := "length", desc := "()I" } : Jvm.MethodName)), (Jvm.Cond.methodLink "PointsTo$Tokens" (54 : Nat) ({ cls := "java/lang/String", name := "charAt", desc := "(I)C" } : Jvm.MethodName)), (Jvm.Cond.instanceMethod ({ cls := "java/lang/String", name := "charAt", desc := "(I)C" } : Jvm.MethodName)), (Jvm.Cond.selects "java/lang/String" ({ cls := "java/lang/String", name := "charAt", desc := "(I)C" } : Jvm.MethodName) ({ cls := "java/lang/String", name := "charAt", desc := "(I)C" } : Jvm.MethodName)), (Jvm.Cond.methodLink "PointsTo$Tokens" (58 : Nat) ({ cls := "PointsTo$Tokens", name := "withLetter", desc := "(IC)I" } : Jvm.MethodName)), (Jvm.Cond.initialized "PointsTo$Tokens"), (Jvm.Cond.static ({ cls := "PointsTo$Tokens", name := "withLetter", desc := "(IC)I" } : Jvm.MethodName)), (Jvm.Cond.methodLink "PointsTo$Tokens" (3 : Nat) ({ cls := "java/lang/Object", name := "<init>", desc := "()V" } : Jvm.MethodName)), (Jvm.Cond.instanceMethod ({ cls := "java/lang/Object", name := "<init>", desc := "()V" } : Jvm.MethodName)), (Jvm.Cond.code ({ cls := "java/lang/Object", name := "<init>", desc := "()V" } : Jvm.MethodName) object_method_1_code (1 : Nat) (Option.none : Option Jvm.ClassFile.FieldType)), (Jvm.Cond.arrayClass Jvm.ClassFile.FieldType.int), (Jvm.Cond.methodLink "PointsTo$Tokens" (11 : Nat) ({ cls := "PointsTo$Tokens", name := "nameCode", desc := "(Ljava/lang/String;)I" } : Jvm.MethodName)), (Jvm.Cond.static ({ cls := "PointsTo$Tokens", name := "nameCode", desc := "(Ljava/lang/String;)I" } : Jvm.MethodName)), (Jvm.Cond.fieldLink "PointsTo$Tokens" (35 : Nat) "PointsTo$Tokens" "words" "[I"), (Jvm.Cond.fieldLink "PointsTo$Tokens" (39 : Nat) "PointsTo$Tokens" "kind" "[I"), (Jvm.Cond.fieldLink "PointsTo$Tokens" (42 : Nat) "PointsTo$Tokens" "place" "[I"), (Jvm.Cond.fieldLink "PointsTo$Tokens" (45 : Nat) "PointsTo$Tokens" "name" "[I"), (Jvm.Cond.fieldLink "PointsTo$Tokens" (62 : Nat) "PointsTo$Tokens" "size" "I"), (Jvm.Cond.methodLink "PointsTo$Tokens" (77 : Nat) ({ cls := "PointsTo$Tokens", name := "add", desc := "(II)V" } : Jvm.MethodName)), (Jvm.Cond.instanceMethod ({ cls := "PointsTo$Tokens", name := "add", desc := "(II)V" } : Jvm.MethodName)), (Jvm.Cond.selects "PointsTo$Tokens" ({ cls := "PointsTo$Tokens", name := "add", desc := "(II)V" } : Jvm.MethodName) ({ cls := "PointsTo$Tokens", name := "add", desc := "(II)V" } : Jvm.MethodName)), (Jvm.Cond.methodLink "PointsTo$Tokens" (66 : Nat) ({ cls := "PointsTo$Tokens", name := "isLetter", desc := "(C)Z" } : Jvm.MethodName)), (Jvm.Cond.static ({ cls := "PointsTo$Tokens", name := "isLetter", desc := "(C)Z" } : Jvm.MethodName)), (Jvm.Cond.methodLink "PointsTo$Tokens" (70 : Nat) ({ cls := "PointsTo$Tokens", name := "addLetter", desc := "(CII)V" } : Jvm.MethodName)), (Jvm.Cond.instanceMethod ({ cls := "PointsTo$Tokens", name := "addLetter", desc := "(CII)V" } : Jvm.MethodName)), (Jvm.Cond.selects "PointsTo$Tokens" ({ cls := "PointsTo$Tokens", name := "addLetter", desc := "(CII)V" } : Jvm.MethodName) ({ cls := "PointsTo$Tokens", name := "addLetter", desc := "(CII)V" } : Jvm.MethodName)), (Jvm.Cond.methodLink "PointsTo$Tokens" (74 : Nat) ({ cls := "PointsTo$Tokens", name := "isSign", desc := "(C)Z" } : Jvm.MethodName)), (Jvm.Cond.static ({ cls := "PointsTo$Tokens", name := "isSign", desc := "(C)Z" } : Jvm.MethodName)), (Jvm.Cond.methodLink "PointsTo$Tokens" (81 : Nat) ({ cls := "PointsTo$Tokens", name := "tellWords", desc := "()V" } : Jvm.MethodName)), (Jvm.Cond.instanceMethod ({ cls := "PointsTo$Tokens", name := "tellWords", desc := "()V" } : Jvm.MethodName)), (Jvm.Cond.selects "PointsTo$Tokens" ({ cls := "PointsTo$Tokens", name := "tellWords", desc := "()V" } : Jvm.MethodName) ({ cls := "PointsTo$Tokens", name := "tellWords", desc := "()V" } : Jvm.MethodName))]
theorem gW3_in : ∀ w ∈ gW3 ++ gWT, w ∈ lw_tbl := fun w h => (List.mem_append.mp h).elim (xplaces (ps := [165, 122, 166, 167, 175, 176, 177, 213, 121, 214, 160, 147, 148, 245, 162, 163, 225, 226, 228, 230, 232, 682, 684, 2, 675, 676, 678, 680, 1, 686, 687, 689, 691, 3]) (by decide +kernel) w) (gWT_in w)
/-- PointsTo$Parser -/
def gW4 : List Cond := [(Jvm.Cond.methodLink "PointsTo$Parser" (3 : Nat) ({ cls := "java/lang/Object", name := "<init>", desc := "()V" } : Jvm.MethodName)), (Jvm.Cond.instanceMethod ({ cls := "java/lang/Object", name := "<init>", desc := "()V" } : Jvm.MethodName)), (Jvm.Cond.code ({ cls := "java/lang/Object", name := "<init>", desc := "()V" } : Jvm.MethodName) object_method_1_code (1 : Nat) (Option.none : Option Jvm.ClassFile.FieldType)), (Jvm.Cond.classLink "PointsTo$Parser" (9 : Nat) "PointsTo$Tokens"), (Jvm.Cond.instantiable "PointsTo$Tokens" (5 : Nat)), (Jvm.Cond.initialized "PointsTo$Tokens"), (Jvm.Cond.methodLinkNest "PointsTo$Parser" (11 : Nat) ({ cls := "PointsTo$Tokens", name := "<init>", desc := "()V" } : Jvm.MethodName) "PointsTo"), (Jvm.Cond.instanceMethod ({ cls := "PointsTo$Tokens", name := "<init>", desc := "()V" } : Jvm.MethodName)), (Jvm.Cond.fieldLink "PointsTo$Parser" (12 : Nat) "PointsTo$Parser" "tokens" "LPointsTo$Tokens;"), (Jvm.Cond.fieldLink "PointsTo$Parser" (65 : Nat) "PointsTo$Tokens" "kind" "[I"), (Jvm.Cond.fieldLink "PointsTo$Parser" (31 : Nat) "PointsTo$Parser" "at" "I"), (Jvm.Cond.fieldLink "PointsTo$Parser" (71 : Nat) "PointsTo$Tokens" "place" "[I"), (Jvm.Cond.fieldLink "PointsTo$Parser" (62 : Nat) "PointsTo$Parser" "fault" "I"), (Jvm.Cond.fieldLink "PointsTo$Parser" (68 : Nat) "PointsTo$Tokens" "name" "[I"), (Jvm.Cond.methodLink "PointsTo$Parser" (74 : Nat) ({ cls := "PointsTo$Parser", name := "take", desc := "(I)Z" } : Jvm.MethodName)), (Jvm.Cond.initialized "PointsTo$Parser"), (Jvm.Cond.instanceMethod ({ cls := "PointsTo$Parser", name := "take", desc := "(I)Z" } : Jvm.MethodName)), (Jvm.Cond.selects "PointsTo$Parser" ({ cls := "PointsTo$Parser", name := "take", desc := "(I)Z" } : Jvm.MethodName) ({ cls := "PointsTo$Parser", name := "take", desc := "(I)Z" } : Jvm.MethodName)), (Jvm.Cond.methodLink "PointsTo$Parser" (43 : Nat) ({ cls := "PointsTo$Parser", name := "kind", desc := "()I" } : Jvm.MethodName)), (Jvm.Cond.instanceMethod ({ cls := "PointsTo$Parser", name := "kind", desc := "()I" } : Jvm.MethodName)), (Jvm.Cond.selects "PointsTo$Parser" ({ cls := "PointsTo$Parser", name := "kind", desc := "()I" } : Jvm.MethodName) ({ cls := "PointsTo$Parser", name := "kind", desc := "()I" } : Jvm.MethodName)), (Jvm.Cond.fieldLink "PointsTo$Parser" (18 : Nat) "PointsTo$Parser" "program" "LPointsTo$Program;"), (Jvm.Cond.methodLink "PointsTo$Parser" (78 : Nat) ({ cls := "PointsTo$Parser", name := "name", desc := "()I" } : Jvm.MethodName)), (Jvm.Cond.instanceMethod ({ cls := "PointsTo$Parser", name := "name", desc := "()I" } : Jvm.MethodName)), (Jvm.Cond.selects "PointsTo$Parser" ({ cls := "PointsTo$Parser", name := "name", desc := "()I" } : Jvm.MethodName) ({ cls := "PointsTo$Parser", name := "name", desc := "()I" } : Jvm.MethodName)), (Jvm.Cond.methodLink "PointsTo$Parser" (80 : Nat) ({ cls := "PointsTo$Program", name := "addClass", desc := "(I)Z" } : Jvm.MethodName)), (Jvm.Cond.initialized "PointsTo$Program"), (Jvm.Cond.instanceMethod ({ cls := "PointsTo$Program", name := "addClass", desc := "(I)Z" } : Jvm.MethodName)), (Jvm.Cond.selects "PointsTo$Program" ({ cls := "PointsTo$Program", name := "addClass", desc := "(I)Z" } : Jvm.MethodName) ({ cls := "PointsTo$Program", name := "addClass", desc := "(I)Z" } : Jvm.MethodName)), (Jvm.Cond.methodLink "PointsTo$Parser" (56 : Nat) ({ cls := "PointsTo$Parser", name := "refuse", desc := "()Z" } : Jvm.MethodName)), (Jvm.Cond.instanceMethod ({ cls := "PointsTo$Parser", name := "refuse", desc := "()Z" } : Jvm.MethodName)), (Jvm.Cond.selects "PointsTo$Parser" ({ cls := "PointsTo$Parser", name := "refuse", desc := "()Z" } : Jvm.MethodName) ({ cls := "PointsTo$Parser", name := "refuse", desc := "()Z" } : Jvm.MethodName)), (Jvm.Cond.methodLink "PointsTo$Parser" (83 : Nat) ({ cls := "PointsTo$Program", name := "putBelow", desc := "(I)Z" } : Jvm.MethodName)), (Jvm.Cond.instanceMethod ({ cls := "PointsTo$Program", name := "putBelow", desc := "(I)Z" } : Jvm.MethodName)), (Jvm.Cond.selects "PointsTo$Program" ({ cls := "PointsTo$Program", name := "putBelow", desc := "(I)Z" } : Jvm.MethodName) ({ cls := "PointsTo$Program", name := "putBelow", desc := "(I)Z" } : Jvm.MethodName)), (Jvm.Cond.methodLink "PointsTo$Parser" (86 : Nat) ({ cls := "PointsTo$Program", name := "addField", desc := "(I)Z" } : Jvm.MethodName)), (Jvm.Cond.instanceMethod ({ cls := "PointsTo$Program", name := "addField", desc := "(I)Z" } : Jvm.MethodName)), (Jvm.Cond.selects "PointsTo$Program" ({ cls := "PointsTo$Program", name := "addField", desc := "(I)Z" } : Jvm.MethodName) ({ cls := "PointsTo$Program", name := "addField", desc := "(I)Z" } : Jvm.MethodName)), (Jvm.Cond.methodLink "PointsTo$Parser" (119 : Nat) ({ cls := "PointsTo$Program", name := "addParameter", desc := "(I)Z" } : Jvm.MethodName)), (Jvm.Cond.instanceMethod ({ cls := "PointsTo$Program", name := "addParameter", desc := "(I)Z" } : Jvm.MethodName)), (Jvm.Cond.selects "PointsTo$Program" ({ cls := "PointsTo$Program", name := "addParameter", desc := "(I)Z" } : Jvm.MethodName) ({ cls := "PointsTo$Program", name := "addParameter", desc := "(I)Z" } : Jvm.MethodName)), (Jvm.Cond.methodLink "PointsTo$Parser" (116 : Nat) ({ cls := "PointsTo$Parser", name := "parseParameter", desc := "()Z" } : Jvm.MethodName)), (Jvm.Cond.instanceMethod ({ cls := "PointsTo$Parser", name := "parseParameter", desc := "()Z" } : Jvm.MethodName)), (Jvm.Cond.selects "PointsTo$Parser" ({ cls := "PointsTo$Parser", name := "parseParameter", desc := "()Z" } : Jvm.MethodName) ({ cls := "PointsTo$Parser", name := "parseParameter", desc := "()Z" } : Jvm.MethodName)), (Jvm.Cond.fieldLink "PointsTo$Parser" (92 : Nat) "PointsTo$Program" "methods" "[LPointsTo$Method;"), (Jvm.Cond.fieldLink "PointsTo$Parser" (96 : Nat) "PointsTo$Program" "methodCount" "I"), (Jvm.Cond.methodLink "PointsTo$Parser" (162 : Nat) ({ cls := "PointsTo$Method", name := "self", desc := "()I" } : Jvm.MethodName)), (Jvm.Cond.initialized "PointsTo$Method"), (Jvm.Cond.instanceMethod ({ cls := "PointsTo$Method", name := "self", desc := "()I" } : Jvm.MethodName)), (Jvm.Cond.selects "PointsTo$Method" ({ cls := "PointsTo$Method", name := "self", desc := "()I" } : Jvm.MethodName) ({ cls := "PointsTo$Method", name := "self", desc := "()I" } : Jvm.MethodName)), (Jvm.Cond.methodLink "PointsTo$Parser" (165 : Nat) ({ cls := "PointsTo$Program", name := "variableOf", desc := "(I)I" } : Jvm.MethodName)), (Jvm.Cond.instanceMethod ({ cls := "PointsTo$Program", name := "variableOf", desc := "(I)I" } : Jvm.MethodName)), (Jvm.Cond.selects "PointsTo$Program" ({ cls := "PointsTo$Program", name := "variableOf", desc := "(I)I" } : Jvm.MethodName) ({ cls := "PointsTo$Program", name := "variableOf", desc := "(I)I" } : Jvm.MethodName)), (Jvm.Cond.fieldLink "PointsTo$Parser" (142 : Nat) "PointsTo$Statement" "kind" "I"), (Jvm.Cond.methodLink "PointsTo$Parser" (144 : Nat) ({ cls := "PointsTo$Parser", name := "parseVariable", desc := "()I" } : Jvm.MethodName)), (Jvm.Cond.instanceMethod ({ cls := "PointsTo$Parser", name := "parseVariable", desc := "()I" } : Jvm.MethodName)), (Jvm.Cond.selects "PointsTo$Parser" ({ cls := "PointsTo$Parser", name := "parseVariable", desc := "()I" } : Jvm.MethodName) ({ cls := "PointsTo$Parser", name := "parseVariable", desc := "()I" } : Jvm.MethodName)), (Jvm.Cond.fieldLink "PointsTo$Parser" (147 : Nat) "PointsTo$Statement" "source" "I"), (Jvm.Cond.methodLink "PointsTo$Parser" (110 : Nat) ({ cls := "PointsTo$Parser", name := "parseBody", desc := "(I)Z" } : Jvm.MethodName)), (Jvm.Cond.instanceMethod ({ cls := "PointsTo$Parser", name := "parseBody", desc := "(I)Z" } : Jvm.MethodName)), (Jvm.Cond.selects "PointsTo$Parser" ({ cls := "PointsTo$Parser", name := "parseBody", desc := "(I)Z" } : Jvm.MethodName) ({ cls := "PointsTo$Parser", name := "parseBody", desc := "(I)Z" } : Jvm.MethodName)), (Jvm.Cond.fieldLink "PointsTo$Parser" (99 : Nat) "PointsTo$Program" "statementCount" "I"), (Jvm.Cond.fieldLink "PointsTo$Parser" (150 : Nat) "PointsTo$Statement" "bodyEnd" "I"), (Jvm.Cond.fieldLink "PointsTo$Parser" (153 : Nat) "PointsTo$Statement" "method" "I"), (Jvm.Cond.fieldLink "PointsTo$Parser" (156 : Nat) "PointsTo$Method" "result" "I"), (Jvm.Cond.fieldLink "PointsTo$Parser" (159 : Nat) "PointsTo$Statement" "target" "I"), (Jvm.Cond.fieldLink "PointsTo$Parser" (182 : Nat) "PointsTo$Statement" "name" "I"), (Jvm.Cond.fieldLink "PointsTo$Parser" (184 : Nat) "PointsTo$Statement" "place" "I"), (Jvm.Cond.methodLink "PointsTo$Parser" (198 : Nat) ({ cls := "PointsTo$Program", name := "addSite", desc := "(LPointsTo$Statement;)Z" } : Jvm.MethodName)), (Jvm.Cond.instanceMethod ({ cls := "PointsTo$Program", name := "addSite", desc := "(LPointsTo$Statement;)Z" } : Jvm.MethodName)), (Jvm.Cond.selects "PointsTo$Program" ({ cls := "PointsTo$Program", name := "addSite", desc := "(LPointsTo$Statement;)Z" } : Jvm.MethodName) ({ cls := "PointsTo$Program", name := "addSite", desc := "(LPointsTo$Statement;)Z" } : Jvm.MethodName)), (Jvm.Cond.methodLink "PointsTo$Parser" (172 : Nat) ({ cls := "PointsTo$Parser", name := "parseNameBehind", desc := "(ILPointsTo$Statement;)Z" } : Jvm.MethodName)), (Jvm.Cond.instanceMethod ({ cls := "PointsTo$Parser", name := "parseNameBehind", desc := "(ILPointsTo$Statement;)Z" } : Jvm.MethodName)), (Jvm.Cond.selects "PointsTo$Parser" ({ cls := "PointsTo$Parser", name := "parseNameBehind", desc := "(ILPointsTo$Statement;)Z" } : Jvm.MethodName) ({ cls := "PointsTo$Parser", name := "parseNameBehind", desc := "(ILPointsTo$Statement;)Z" } : Jvm.MethodName)), (Jvm.Cond.methodLink "PointsTo$Parser" (201 : Nat) ({ cls := "PointsTo$Program", name := "addCast", desc := "(LPointsTo$Statement;)Z" } : Jvm.MethodName)), (Jvm.Cond.instanceMethod ({ cls := "PointsTo$Program", name := "addCast", desc := "(LPointsTo$Statement;)Z" } : Jvm.MethodName)), (Jvm.Cond.selects "PointsTo$Program" ({ cls := "PointsTo$Program", name := "addCast", desc := "(LPointsTo$Statement;)Z" } : Jvm.MethodName) ({ cls := "PointsTo$Program", name := "addCast", desc := "(LPointsTo$Statement;)Z" } : Jvm.MethodName)), (Jvm.Cond.methodLink "PointsTo$Parser" (186 : Nat) ({ cls := "PointsTo$Program", name := "addCall", desc := "(LPointsTo$Statement;)Z" } : Jvm.MethodName)), (Jvm.Cond.instanceMethod ({ cls := "PointsTo$Program", name := "addCall", desc := "(LPointsTo$Statement;)Z" } : Jvm.MethodName)), (Jvm.Cond.selects "PointsTo$Program" ({ cls := "PointsTo$Program", name := "addCall", desc := "(LPointsTo$Statement;)Z" } : Jvm.MethodName) ({ cls := "PointsTo$Program", name := "addCall", desc := "(LPointsTo$Statement;)Z" } : Jvm.MethodName)), (Jvm.Cond.fieldLink "PointsTo$Parser" (189 : Nat) "PointsTo$Statement" "firstArgument" "I"), (Jvm.Cond.fieldLink "PointsTo$Parser" (192 : Nat) "PointsTo$Statement" "arguments" "I"), (Jvm.Cond.fieldLink "PointsTo$Parser" (195 : Nat) "PointsTo$Statement" "secondArgument" "I"), (Jvm.Cond.methodLink "PointsTo$Parser" (169 : Nat) ({ cls := "PointsTo$Parser", name := "parseRight", desc := "(LPointsTo$Statement;)Z" } : Jvm.MethodName)), (Jvm.Cond.instanceMethod ({ cls := "PointsTo$Parser", name := "parseRight", desc := "(LPointsTo$Statement;)Z" } : Jvm.MethodName)), (Jvm.Cond.selects "PointsTo$Parser" ({ cls := "PointsTo$Parser", name := "parseRight", desc := "(LPointsTo$Statement;)Z" } : Jvm.MethodName) ({ cls := "PointsTo$Parser", name := "parseRight", desc := "(LPointsTo$Statement;)Z" } : Jvm.MethodName)), (Jvm.Cond.methodLink "PointsTo$Parser" (176 : Nat) ({ cls := "PointsTo$Parser", name := "parseCall", desc := "(LPointsTo$Statement;)Z" } : Jvm.MethodName)), (Jvm.Cond.instanceMethod ({ cls := "PointsTo$Parser", name := "parseCall", desc := "(LPointsTo$Statement;)Z" } : Jvm.MethodName)), (Jvm.Cond.selects "PointsTo$Parser" ({ cls := "PointsTo$Parser", name := "parseCall", desc := "(LPointsTo$Statement;)Z" } : Jvm.MethodName) ({ cls := "PointsTo$Parser", name := "parseCall", desc := "(LPointsTo$Statement;)Z" } : Jvm.MethodName)), (Jvm.Cond.methodLink "PointsTo$Parser" (179 : Nat) ({ cls := "PointsTo$Parser", name := "parseStored", desc := "(LPointsTo$Statement;)Z" } : Jvm.MethodName)), (Jvm.Cond.instanceMethod ({ cls := "PointsTo$Parser", name := "parseStored", desc := "(LPointsTo$Statement;)Z" } : Jvm.MethodName)), (Jvm.Cond.selects "PointsTo$Parser" ({ cls := "PointsTo$Parser", name := "parseStored", desc := "(LPointsTo$Statement;)Z" } : Jvm.MethodName) ({ cls := "PointsTo$Parser", name := "parseStored", desc := "(LPointsTo$Statement;)Z" } : Jvm.MethodName)), (Jvm.Cond.methodLink "PointsTo$Parser" (122 : Nat) ({ cls := "PointsTo$Program", name := "addStatement", desc := "()LPointsTo$Statement;" } : Jvm.MethodName)), (Jvm.Cond.instanceMethod ({ cls := "PointsTo$Program", name := "addStatement", desc := "()LPointsTo$Statement;" } : Jvm.MethodName)), (Jvm.Cond.selects "PointsTo$Program" ({ cls := "PointsTo$Program", name := "addStatement", desc := "()LPointsTo$Statement;" } : Jvm.MethodName) ({ cls := "PointsTo$Program", name := "addStatement", desc := "()LPointsTo$Statement;" } : Jvm.MethodName)), (Jvm.Cond.methodLink "PointsTo$Parser" (126 : Nat) ({ cls := "PointsTo$Parser", name := "parseBranch", desc := "(LPointsTo$Statement;I)Z" } : Jvm.MethodName)), (Jvm.Cond.instanceMethod ({ cls := "PointsTo$Parser", name := "parseBranch", desc := "(LPointsTo$Statement;I)Z" } : Jvm.MethodName)), (Jvm.Cond.selects "PointsTo$Parser" ({ cls := "PointsTo$Parser", name := "parseBranch", desc := "(LPointsTo$Statement;I)Z" } : Jvm.MethodName) ({ cls := "PointsTo$Parser", name := "parseBranch", desc := "(LPointsTo$Statement;I)Z" } : Jvm.MethodName)), (Jvm.Cond.methodLink "PointsTo$Parser" (130 : Nat) ({ cls := "PointsTo$Parser", name := "parseReturn", desc := "(LPointsTo$Statement;)Z" } : Jvm.MethodName)), (Jvm.Cond.instanceMethod ({ cls := "PointsTo$Parser", name := "parseReturn", desc := "(LPointsTo$Statement;)Z" } : Jvm.MethodName)), (Jvm.Cond.selects "PointsTo$Parser" ({ cls := "PointsTo$Parser", name := "parseReturn", desc := "(LPointsTo$Statement;)Z" } : Jvm.MethodName) ({ cls := "PointsTo$Parser", name := "parseReturn", desc := "(LPointsTo$Statement;)Z" } : Jvm.MethodName)), (Jvm.Cond.methodLink "PointsTo$Parser" (134 : Nat) ({ cls := "PointsTo$Parser", name := "parseSimple", desc := "(LPointsTo$Statement;)Z" } : Jvm.MethodName)), (Jvm.Cond.instanceMethod ({ cls := "PointsTo$Parser", name := "parseSimple", desc := "(LPointsTo$Statement;)Z" } : Jvm.MethodName)), (Jvm.Cond.selects "PointsTo$Parser" ({ cls := "PointsTo$Parser", name := "parseSimple", desc := "(LPointsTo$Statement;)Z" } : Jvm.MethodName) ({ cls := "PointsTo$Parser", name := "parseSimple", desc := "(LPointsTo$Statement;)Z" } : Jvm.MethodName)), (Jvm.Cond.fieldLink "PointsTo$Parser" (137 : Nat) "PointsTo$Statement" "end" "I"), (Jvm.Cond.methodLink "PointsTo$Parser" (89 : Nat) ({ cls := "PointsTo$Program", name := "addMethod", desc := "(I)Z" } : Jvm.MethodName)), (Jvm.Cond.instanceMethod ({ cls := "PointsTo$Program", name := "addMethod", desc := "(I)Z" } : Jvm.MethodName)), (Jvm.Cond.selects "PointsTo$Program" ({ cls := "PointsTo$Program", name := "addMethod", desc := "(I)Z" } : Jvm.MethodName) ({ cls := "PointsTo$Program", name := "addMethod", desc := "(I)Z" } : Jvm.MethodName)), (Jvm.Cond.fieldLink "PointsTo$Parser" (102 : Nat) "PointsTo$Method" "firstStatement" "I"), (Jvm.Cond.methodLink "PointsTo$Parser" (107 : Nat) ({ cls := "PointsTo$Parser", name := "parseParameters", desc := "()Z" } : Jvm.MethodName)), (Jvm.Cond.instanceMethod ({ cls := "PointsTo$Parser", name := "parseParameters", desc := "()Z" } : Jvm.MethodName)), (Jvm.Cond.selects "PointsTo$Parser" ({ cls := "PointsTo$Parser", name := "parseParameters", desc := "()Z" } : Jvm.MethodName) ({ cls := "PointsTo$Parser", name := "parseParameters", desc := "()Z" } : Jvm.MethodName)), (Jvm.Cond.fieldLink "PointsTo$Parser" (113 : Nat) "PointsTo$Method" "endStatement" "I"), (Jvm.Cond.fieldLink "PointsTo$Parser" (35 : Nat) "PointsTo$Parser" "ended" "Z"), (Jvm.Cond.methodLink "PointsTo$Parser" (39 : Nat) ({ cls := "PointsTo$Parser", name := "parseClassHead", desc := "()Z" } : Jvm.MethodName)), (Jvm.Cond.instanceMethod ({ cls := "PointsTo$Parser", name := "parseClassHead", desc := "()Z" } : Jvm.MethodName)), (Jvm.Cond.selects "PointsTo$Parser" ({ cls := "PointsTo$Parser", name := "parseClassHead", desc := "()Z" } : Jvm.MethodName) ({ cls := "PointsTo$Parser", name := "parseClassHead", desc := "()Z" } : Jvm.MethodName)), (Jvm.Cond.methodLink "PointsTo$Parser" (22 : Nat) ({ cls := "PointsTo$Program", name := "clear", desc := "()V" } : Jvm.MethodName)), (Jvm.Cond.instanceMethod ({ cls := "PointsTo$Program", name := "clear", desc := "()V" } : Jvm.MethodName)), (Jvm.Cond.selects "PointsTo$Program" ({ cls := "PointsTo$Program", name := "clear", desc := "()V" } : Jvm.MethodName) ({ cls := "PointsTo$Program", name := "clear", desc := "()V" } : Jvm.MethodName)), (Jvm.Cond.methodLink "PointsTo$Parser" (27 : Nat) ({ cls := "PointsTo$Tokens", name := "split", desc := "([CI)V" } : Jvm.MethodName)), (Jvm.Cond.instanceMethod ({ cls := "PointsTo$Tokens", name := "split", desc := "([CI)V" } : Jvm.MethodName)), (Jvm.Cond.selects "PointsTo$Tokens" ({ cls := "PointsTo$Tokens", name := "split", desc := "([CI)V" } : Jvm.MethodName) ({ cls := "PointsTo$Tokens", name := "split", desc := "([CI)V" } : Jvm.MethodName)), (Jvm.Cond.methodLink "PointsTo$Parser" (47 : Nat) ({ cls := "PointsTo$Parser", name := "parseField", desc := "()Z" } : Jvm.MethodName)), (Jvm.Cond.instanceMethod ({ cls := "PointsTo$Parser", name := "parseField", desc := "()Z" } : Jvm.MethodName)), (Jvm.Cond.selects "PointsTo$Parser" ({ cls := "PointsTo$Parser", name := "parseField", desc := "()Z" } : Jvm.MethodName) ({ cls := "PointsTo$Parser", name := "parseField", desc := "()Z" } : Jvm.MethodName)), (Jvm.Cond.methodLink "PointsTo$Parser" (50 : Nat) ({ cls := "PointsTo$Parser", name := "parseMethod", desc := "()Z" } : Jvm.MethodName)), (Jvm.Cond.instanceMethod ({ cls := "PointsTo$Parser", name := "parseMethod", desc := "()Z" } : Jvm.MethodName)), (Jvm.Cond.selects "PointsTo$Parser" ({ cls := "PointsTo$Parser", name := "parseMethod", desc := "()Z" } : Jvm.MethodName) ({ cls := "PointsTo$Parser", name := "parseMethod", desc := "()Z" } : Jvm.MethodName)), (Jvm.Cond.methodLink "PointsTo$Parser" (53 : Nat) ({ cls := "PointsTo$Parser", name := "parseClassEnd", desc := "()Z" } : Jvm.MethodName)), (Jvm.Cond.instanceMethod ({ cls := "PointsTo$Parser", name := "parseClassEnd", desc := "()Z" } : Jvm.MethodName)), (Jvm.Cond.selects "PointsTo$Parser" ({ cls := "PointsTo$Parser", name := "parseClassEnd", desc := "()Z" } : Jvm.MethodName) ({ cls := "PointsTo$Parser", name := "parseClassEnd", desc := "()Z" } : Jvm.MethodName)), (Jvm.Cond.methodLink "PointsTo$Parser" (59 : Nat) ({ cls := "PointsTo$Program", name := "resolve", desc := "()I" } : Jvm.MethodName)), (Jvm.Cond.instanceMethod ({ cls := "PointsTo$Program", name := "resolve", desc := "()I" } : Jvm.MethodName)), (Jvm.Cond.selects "PointsTo$Program" ({ cls := "PointsTo$Program", name := "resolve", desc := "()I" } : Jvm.MethodName) ({ cls := "PointsTo$Program", name := "resolve", desc := "()I" } : Jvm.MethodName))]
theorem gW4_in : ∀ w ∈ gW4 ++ gWT, w ∈ lw_tbl := fun w h => (List.mem_append.mp h).elim (xplaces (ps := [154, 147, 148, 155, 156, 121, 157, 158, 247, 227, 249, 229, 251, 231, 697, 120, 699, 5, 701, 703, 6, 248, 705, 707, 7, 709, 128, 710, 711, 720, 722, 8, 724, 725, 726, 732, 733, 734, 764, 765, 766, 760, 762, 13, 452, 466, 788, 129, 789, 790, 792, 769, 770, 379, 784, 786, 16, 390, 772, 774, 14, 483, 414, 382, 351, 386, 393, 395, 805, 806, 807, 809, 811, 20, 813, 814, 815, 821, 822, 823, 409, 406, 412, 801, 803, 19, 817, 819, 21, 825, 827, 22, 776, 777, 778, 780, 782, 15, 793, 795, 17, 797, 799, 18, 416, 748, 749, 750, 356, 756, 758, 12, 358, 250, 693, 695, 4, 667, 668, 669, 671, 672, 673, 728, 730, 9, 744, 746, 10, 829, 831, 23, 833, 834, 835]) (by decide +kernel) w) (gWT_in w)
/-- PointsTo$Facts -/
def gW5 : List Cond := [(Jvm.Cond.methodLink "PointsTo$Facts" (3 : Nat) ({ cls := "java/lang/Object", name := "<init>", desc := "()V" } : Jvm.MethodName)), (Jvm.Cond.instanceMethod ({ cls := "java/lang/Object", name := "<init>", desc := "()V" } : Jvm.MethodName)), (Jvm.Cond.code ({ cls := "java/lang/Object", name := "<init>", desc := "()V" } : Jvm.MethodName) object_method_1_code (1 : Nat) (Option.none : Option Jvm.ClassFile.FieldType)), (Jvm.Cond.classLink "PointsTo$Facts" (9 : Nat) "[[I"), (Jvm.Cond.arrayOver (Jvm.ClassFile.FieldType.array Jvm.ClassFile.FieldType.int)), (Jvm.Cond.arrayClass Jvm.ClassFile.FieldType.int), (Jvm.Cond.fieldLink "PointsTo$Facts" (11 : Nat) "PointsTo$Facts" "may" "[[I"), (Jvm.Cond.fieldLink "PointsTo$Facts" (16 : Nat) "PointsTo$Facts" "goes" "[[I"), (Jvm.Cond.fieldLink "PointsTo$Facts" (19 : Nat) "PointsTo$Facts" "reached" "[I"), (Jvm.Cond.fieldLink "PointsTo$Facts" (23 : Nat) "PointsTo$Facts" "held" "[[I"), (Jvm.Cond.methodLink "PointsTo$Facts" (79 : Nat) ({ cls := "java/util/Arrays", name := "fill", desc := "([II)V" } : Jvm.MethodName)), (Jvm.Cond.initialized "java/util/Arrays"), (Jvm.Cond.static ({ cls := "java/util/Arrays", name := "fill", desc := "([II)V" } : Jvm.MethodName)), (Jvm.Cond.methodLink "PointsTo$Facts" (75 : Nat) ({ cls := "PointsTo$Facts", name := "empty", desc := "([[I)V" } : Jvm.MethodName)), (Jvm.Cond.initialized "PointsTo$Facts"), (Jvm.Cond.static ({ cls := "PointsTo$Facts", name := "empty", desc := "([[I)V" } : Jvm.MethodName)), (Jvm.Cond.fieldLink "PointsTo$Facts" (52 : Nat) "PointsTo$Facts" "lastRound" "I"), (Jvm.Cond.fieldLink "PointsTo$Facts" (49 : Nat) "PointsTo$Facts" "round" "I"), (Jvm.Cond.fieldLink "PointsTo$Facts" (26 : Nat) "PointsTo$Facts" "program" "LPointsTo$Program;"), (Jvm.Cond.fieldLink "PointsTo$Facts" (85 : Nat) "PointsTo$Program" "siteCount" "I"), (Jvm.Cond.methodLink "PointsTo$Facts" (67 : Nat) ({ cls := "PointsTo$Facts", name := "isKnown", desc := "(I)Z" } : Jvm.MethodName)), (Jvm.Cond.instanceMethod ({ cls := "PointsTo$Facts", name := "isKnown", desc := "(I)Z" } : Jvm.MethodName)), (Jvm.Cond.selects "PointsTo$Facts" ({ cls := "PointsTo$Facts", name := "isKnown", desc := "(I)Z" } : Jvm.MethodName) ({ cls := "PointsTo$Facts", name := "isKnown", desc := "(I)Z" } : Jvm.MethodName)), (Jvm.Cond.methodLink "PointsTo$Facts" (88 : Nat) ({ cls := "PointsTo$Facts", name := "tell", desc := "([II)V" } : Jvm.MethodName)), (Jvm.Cond.instanceMethod ({ cls := "PointsTo$Facts", name := "tell", desc := "([II)V" } : Jvm.MethodName)), (Jvm.Cond.selects "PointsTo$Facts" ({ cls := "PointsTo$Facts", name := "tell", desc := "([II)V" } : Jvm.MethodName) ({ cls := "PointsTo$Facts", name := "tell", desc := "([II)V" } : Jvm.MethodName)), (Jvm.Cond.fieldLink "PointsTo$Facts" (100 : Nat) "PointsTo$Statement" "source" "I"), (Jvm.Cond.fieldLink "PointsTo$Facts" (122 : Nat) "PointsTo$Program" "siteClass" "[I"), (Jvm.Cond.fieldLink "PointsTo$Facts" (125 : Nat) "PointsTo$Statement" "type" "I"), (Jvm.Cond.methodLink "PointsTo$Facts" (128 : Nat) ({ cls := "PointsTo$Program", name := "isClassBelow", desc := "(II)Z" } : Jvm.MethodName)), (Jvm.Cond.initialized "PointsTo$Program"), (Jvm.Cond.instanceMethod ({ cls := "PointsTo$Program", name := "isClassBelow", desc := "(II)Z" } : Jvm.MethodName)), (Jvm.Cond.selects "PointsTo$Program" ({ cls := "PointsTo$Program", name := "isClassBelow", desc := "(II)Z" } : Jvm.MethodName) ({ cls := "PointsTo$Program", name := "isClassBelow", desc := "(II)Z" } : Jvm.MethodName)), (Jvm.Cond.fieldLink "PointsTo$Facts" (94 : Nat) "PointsTo$Statement" "target" "I"), (Jvm.Cond.fieldLink "PointsTo$Facts" (97 : Nat) "PointsTo$Statement" "number" "I"), (Jvm.Cond.methodLink "PointsTo$Facts" (132 : Nat) ({ cls := "PointsTo$Facts", name := "heldBy", desc := "(II)[I" } : Jvm.MethodName)), (Jvm.Cond.instanceMethod ({ cls := "PointsTo$Facts", name := "heldBy", desc := "(II)[I" } : Jvm.MethodName)), (Jvm.Cond.selects "PointsTo$Facts" ({ cls := "PointsTo$Facts", name := "heldBy", desc := "(II)[I" } : Jvm.MethodName) ({ cls := "PointsTo$Facts", name := "heldBy", desc := "(II)[I" } : Jvm.MethodName)), (Jvm.Cond.methodLink "PointsTo$Facts" (103 : Nat) ({ cls := "PointsTo$Facts", name := "tellAll", desc := "([I[I)V" } : Jvm.MethodName)), (Jvm.Cond.instanceMethod ({ cls := "PointsTo$Facts", name := "tellAll", desc := "([I[I)V" } : Jvm.MethodName)), (Jvm.Cond.selects "PointsTo$Facts" ({ cls := "PointsTo$Facts", name := "tellAll", desc := "([I[I)V" } : Jvm.MethodName) ({ cls := "PointsTo$Facts", name := "tellAll", desc := "([I[I)V" } : Jvm.MethodName)), (Jvm.Cond.methodLink "PointsTo$Facts" (136 : Nat) ({ cls := "PointsTo$Program", name := "hasField", desc := "(II)Z" } : Jvm.MethodName)), (Jvm.Cond.instanceMethod ({ cls := "PointsTo$Program", name := "hasField", desc := "(II)Z" } : Jvm.MethodName)), (Jvm.Cond.selects "PointsTo$Program" ({ cls := "PointsTo$Program", name := "hasField", desc := "(II)Z" } : Jvm.MethodName) ({ cls := "PointsTo$Program", name := "hasField", desc := "(II)Z" } : Jvm.MethodName)), (Jvm.Cond.fieldLink "PointsTo$Facts" (139 : Nat) "PointsTo$Statement" "name" "I"), (Jvm.Cond.fieldLink "PointsTo$Facts" (142 : Nat) "PointsTo$Statement" "arguments" "I"), (Jvm.Cond.methodLink "PointsTo$Facts" (145 : Nat) ({ cls := "PointsTo$Program", name := "found", desc := "(III)I" } : Jvm.MethodName)), (Jvm.Cond.instanceMethod ({ cls := "PointsTo$Program", name := "found", desc := "(III)I" } : Jvm.MethodName)), (Jvm.Cond.selects "PointsTo$Program" ({ cls := "PointsTo$Program", name := "found", desc := "(III)I" } : Jvm.MethodName) ({ cls := "PointsTo$Program", name := "found", desc := "(III)I" } : Jvm.MethodName)), (Jvm.Cond.fieldLink "PointsTo$Facts" (39 : Nat) "PointsTo$Program" "methods" "[LPointsTo$Method;"), (Jvm.Cond.methodLink "PointsTo$Facts" (43 : Nat) ({ cls := "PointsTo$Method", name := "self", desc := "()I" } : Jvm.MethodName)), (Jvm.Cond.initialized "PointsTo$Method"), (Jvm.Cond.instanceMethod ({ cls := "PointsTo$Method", name := "self", desc := "()I" } : Jvm.MethodName)), (Jvm.Cond.selects "PointsTo$Method" ({ cls := "PointsTo$Method", name := "self", desc := "()I" } : Jvm.MethodName) ({ cls := "PointsTo$Method", name := "self", desc := "()I" } : Jvm.MethodName)), (Jvm.Cond.fieldLink "PointsTo$Facts" (156 : Nat) "PointsTo$Statement" "firstArgument" "I"), (Jvm.Cond.methodLink "PointsTo$Facts" (159 : Nat) ({ cls := "PointsTo$Method", name := "parameter", desc := "(I)I" } : Jvm.MethodName)), (Jvm.Cond.instanceMethod ({ cls := "PointsTo$Method", name := "parameter", desc := "(I)I" } : Jvm.MethodName)), (Jvm.Cond.selects "PointsTo$Method" ({ cls := "PointsTo$Method", name := "parameter", desc := "(I)I" } : Jvm.MethodName) ({ cls := "PointsTo$Method", name := "parameter", desc := "(I)I" } : Jvm.MethodName)), (Jvm.Cond.fieldLink "PointsTo$Facts" (163 : Nat) "PointsTo$Statement" "secondArgument" "I"), (Jvm.Cond.fieldLink "PointsTo$Facts" (166 : Nat) "PointsTo$Method" "result" "I"), (Jvm.Cond.fieldLink "PointsTo$Facts" (149 : Nat) "PointsTo$Program" "methodCount" "I"), (Jvm.Cond.methodLink "PointsTo$Facts" (152 : Nat) ({ cls := "PointsTo$Facts", name := "followCallee", desc := "(LPointsTo$Statement;LPointsTo$Method;)V" } : Jvm.MethodName)), (Jvm.Cond.instanceMethod ({ cls := "PointsTo$Facts", name := "followCallee", desc := "(LPointsTo$Statement;LPointsTo$Method;)V" } : Jvm.MethodName)), (Jvm.Cond.selects "PointsTo$Facts" ({ cls := "PointsTo$Facts", name := "followCallee", desc := "(LPointsTo$Statement;LPointsTo$Method;)V" } : Jvm.MethodName) ({ cls := "PointsTo$Facts", name := "followCallee", desc := "(LPointsTo$Statement;LPointsTo$Method;)V" } : Jvm.MethodName)), (Jvm.Cond.fieldLink "PointsTo$Facts" (91 : Nat) "PointsTo$Statement" "kind" "I"), (Jvm.Cond.methodLink "PointsTo$Facts" (107 : Nat) ({ cls := "PointsTo$Facts", name := "followCast", desc := "(LPointsTo$Statement;)V" } : Jvm.MethodName)), (Jvm.Cond.instanceMethod ({ cls := "PointsTo$Facts", name := "followCast", desc := "(LPointsTo$Statement;)V" } : Jvm.MethodName)), (Jvm.Cond.selects "PointsTo$Facts" ({ cls := "PointsTo$Facts", name := "followCast", desc := "(LPointsTo$Statement;)V" } : Jvm.MethodName) ({ cls := "PointsTo$Facts", name := "followCast", desc := "(LPointsTo$Statement;)V" } : Jvm.MethodName)), (Jvm.Cond.methodLink "PointsTo$Facts" (110 : Nat) ({ cls := "PointsTo$Facts", name := "followLoad", desc := "(LPointsTo$Statement;)V" } : Jvm.MethodName)), (Jvm.Cond.instanceMethod ({ cls := "PointsTo$Facts", name := "followLoad", desc := "(LPointsTo$Statement;)V" } : Jvm.MethodName)), (Jvm.Cond.selects "PointsTo$Facts" ({ cls := "PointsTo$Facts", name := "followLoad", desc := "(LPointsTo$Statement;)V" } : Jvm.MethodName) ({ cls := "PointsTo$Facts", name := "followLoad", desc := "(LPointsTo$Statement;)V" } : Jvm.MethodName)), (Jvm.Cond.methodLink "PointsTo$Facts" (113 : Nat) ({ cls := "PointsTo$Facts", name := "followStore", desc := "(LPointsTo$Statement;)V" } : Jvm.MethodName)), (Jvm.Cond.instanceMethod ({ cls := "PointsTo$Facts", name := "followStore", desc := "(LPointsTo$Statement;)V" } : Jvm.MethodName)), (Jvm.Cond.selects "PointsTo$Facts" ({ cls := "PointsTo$Facts", name := "followStore", desc := "(LPointsTo$Statement;)V" } : Jvm.MethodName) ({ cls := "PointsTo$Facts", name := "followStore", desc := "(LPointsTo$Statement;)V" } : Jvm.MethodName)), (Jvm.Cond.methodLink "PointsTo$Facts" (116 : Nat) ({ cls := "PointsTo$Facts", name := "followReceivers", desc := "(LPointsTo$Statement;)V" } : Jvm.MethodName)), (Jvm.Cond.instanceMethod ({ cls := "PointsTo$Facts", name := "followReceivers", desc := "(LPointsTo$Statement;)V" } : Jvm.MethodName)), (Jvm.Cond.selects "PointsTo$Facts" ({ cls := "PointsTo$Facts", name := "followReceivers", desc := "(LPointsTo$Statement;)V" } : Jvm.MethodName) ({ cls := "PointsTo$Facts", name := "followReceivers", desc := "(LPointsTo$Statement;)V" } : Jvm.MethodName)), (Jvm.Cond.methodLink "PointsTo$Facts" (119 : Nat) ({ cls := "PointsTo$Facts", name := "followValues", desc := "(LPointsTo$Statement;)V" } : Jvm.MethodName)), (Jvm.Cond.instanceMethod ({ cls := "PointsTo$Facts", name := "followValues", desc := "(LPointsTo$Statement;)V" } : Jvm.MethodName)), (Jvm.Cond.selects "PointsTo$Facts" ({ cls := "PointsTo$Facts", name := "followValues", desc := "(LPointsTo$Statement;)V" } : Jvm.MethodName) ({ cls := "PointsTo$Facts", name := "followValues", desc := "(LPointsTo$Statement;)V" } : Jvm.MethodName)), (Jvm.Cond.methodLink "PointsTo$Facts" (30 : Nat) ({ cls := "PointsTo$Facts", name := "clear", desc := "()V" } : Jvm.MethodName)), (Jvm.Cond.instanceMethod ({ cls := "PointsTo$Facts", name := "clear", desc := "()V" } : Jvm.MethodName)), (Jvm.Cond.selects "PointsTo$Facts" ({ cls := "PointsTo$Facts", name := "clear", desc := "()V" } : Jvm.MethodName) ({ cls := "PointsTo$Facts", name := "clear", desc := "()V" } : Jvm.MethodName)), (Jvm.Cond.fieldLink "PointsTo$Facts" (33 : Nat) "PointsTo$Program" "start" "I"), (Jvm.Cond.fieldLink "PointsTo$Facts" (55 : Nat) "PointsTo$Program" "statementCount" "I"), (Jvm.Cond.fieldLink "PointsTo$Facts" (58 : Nat) "PointsTo$Program" "statements" "[LPointsTo$Statement;"), (Jvm.Cond.fieldLink "PointsTo$Facts" (62 : Nat) "PointsTo$Statement" "method" "I"), (Jvm.Cond.methodLink "PointsTo$Facts" (71 : Nat) ({ cls := "PointsTo$Facts", name := "follow", desc := "(LPointsTo$Statement;)V" } : Jvm.MethodName)), (Jvm.Cond.instanceMethod ({ cls := "PointsTo$Facts", name := "follow", desc := "(LPointsTo$Statement;)V" } : Jvm.MethodName)), (Jvm.Cond.selects "PointsTo$Facts" ({ cls := "PointsTo$Facts", name := "follow", desc := "(LPointsTo$Statement;)V" } : Jvm.MethodName) ({ cls := "PointsTo$Facts", name := "follow", desc := "(LPointsTo$Statement;)V" } : Jvm.MethodName)), (Jvm.Cond.fieldLink "PointsTo$Facts" (169 : Nat) "PointsTo$Program" "variableCount" "I")]
theorem gW5_in : ∀ w ∈ gW5 ++ gWT, w ∈ lw_tbl := fun w h => (List.mem_append.mp h).elim (xplaces (ps := [268, 147, 148, 269, 270, 245, 271, 273, 275, 277, 854, 137, 855, 851, 126, 852, 280, 279, 278, 476, 858, 860, 25, 866, 868, 27, 388, 459, 400, 878, 128, 879, 880, 384, 397, 886, 887, 888, 870, 872, 28, 894, 741, 742, 391, 403, 899, 840, 841, 450, 857, 129, 789, 790, 407, 908, 909, 910, 410, 350, 467, 904, 906, 34, 377, 874, 876, 29, 882, 884, 30, 890, 892, 31, 895, 897, 32, 900, 902, 33, 847, 849, 24, 485, 482, 455, 381, 862, 864, 26, 480]) (by decide +kernel) w) (gWT_in w)
/-- PointsTo$Machine -/
def gW6 : List Cond := [(Jvm.Cond.methodLink "PointsTo$Machine" (3 : Nat) ({ cls := "java/lang/Object", name := "<init>", desc := "()V" } : Jvm.MethodName)), (Jvm.Cond.instanceMethod ({ cls := "java/lang/Object", name := "<init>", desc := "()V" } : Jvm.MethodName)), (Jvm.Cond.code ({ cls := "java/lang/Object", name := "<init>", desc := "()V" } : Jvm.MethodName) object_method_1_code (1 : Nat) (Option.none : Option Jvm.ClassFile.FieldType)), (Jvm.Cond.classLink "PointsTo$Machine" (9 : Nat) "[[I"), (Jvm.Cond.arrayOver (Jvm.ClassFile.FieldType.array Jvm.ClassFile.FieldType.int)), (Jvm.Cond.arrayClass Jvm.ClassFile.FieldType.int), (Jvm.Cond.fieldLink "PointsTo$Machine" (11 : Nat) "PointsTo$Machine" "seen" "[[I"), (Jvm.Cond.fieldLink "PointsTo$Machine" (16 : Nat) "PointsTo$Machine" "objectSite" "[I"), (Jvm.Cond.fieldLink "PointsTo$Machine" (20 : Nat) "PointsTo$Machine" "objectFields" "[[I"), (Jvm.Cond.fieldLink "PointsTo$Machine" (23 : Nat) "PointsTo$Machine" "frames" "[[I"), (Jvm.Cond.methodLink "PointsTo$Machine" (26 : Nat) ({ cls := "java/util/Arrays", name := "fill", desc := "([II)V" } : Jvm.MethodName)), (Jvm.Cond.initialized "java/util/Arrays"), (Jvm.Cond.static ({ cls := "java/util/Arrays", name := "fill", desc := "([II)V" } : Jvm.MethodName)), (Jvm.Cond.fieldLink "PointsTo$Machine" (39 : Nat) "PointsTo$Machine" "made" "I"), (Jvm.Cond.classLink "PointsTo$Machine" (83 : Nat) "java/lang/IllegalStateException"), (Jvm.Cond.methodLink "PointsTo$Machine" (85 : Nat) ({ cls := "java/lang/IllegalStateException", name := "<init>", desc := "()V" } : Jvm.MethodName)), (Jvm.Cond.fieldLink "PointsTo$Machine" (43 : Nat) "PointsTo$Machine" "begun" "I"), (Jvm.Cond.fieldLink "PointsTo$Machine" (32 : Nat) "PointsTo$Machine" "program" "LPointsTo$Program;"), (Jvm.Cond.fieldLink "PointsTo$Machine" (90 : Nat) "PointsTo$Program" "statements" "[LPointsTo$Statement;"), (Jvm.Cond.fieldLink "PointsTo$Machine" (105 : Nat) "PointsTo$Statement" "source" "I"), (Jvm.Cond.fieldLink "PointsTo$Machine" (108 : Nat) "PointsTo$Statement" "bodyEnd" "I"), (Jvm.Cond.methodLink "PointsTo$Machine" (79 : Nat) ({ cls := "PointsTo$Machine", name := "runBody", desc := "(III)Z" } : Jvm.MethodName)), (Jvm.Cond.initialized "PointsTo$Machine"), (Jvm.Cond.instanceMethod ({ cls := "PointsTo$Machine", name := "runBody", desc := "(III)Z" } : Jvm.MethodName)), (Jvm.Cond.selects "PointsTo$Machine" ({ cls := "PointsTo$Machine", name := "runBody", desc := "(III)Z" } : Jvm.MethodName) ({ cls := "PointsTo$Machine", name := "runBody", desc := "(III)Z" } : Jvm.MethodName)), (Jvm.Cond.methodLink "PointsTo$Machine" (99 : Nat) ({ cls := "PointsTo$Machine", name := "begin", desc := "()V" } : Jvm.MethodName)), (Jvm.Cond.instanceMethod ({ cls := "PointsTo$Machine", name := "begin", desc := "()V" } : Jvm.MethodName)), (Jvm.Cond.selects "PointsTo$Machine" ({ cls := "PointsTo$Machine", name := "begin", desc := "()V" } : Jvm.MethodName) ({ cls := "PointsTo$Machine", name := "begin", desc := "()V" } : Jvm.MethodName)), (Jvm.Cond.classLink "PointsTo$Machine" (138 : Nat) "java/util/NoSuchElementException"), (Jvm.Cond.methodLink "PointsTo$Machine" (140 : Nat) ({ cls := "java/util/NoSuchElementException", name := "<init>", desc := "()V" } : Jvm.MethodName)), (Jvm.Cond.fieldLink "PointsTo$Machine" (141 : Nat) "PointsTo$Program" "siteClass" "[I"), (Jvm.Cond.methodLink "PointsTo$Machine" (144 : Nat) ({ cls := "PointsTo$Machine", name := "classOf", desc := "(I)I" } : Jvm.MethodName)), (Jvm.Cond.instanceMethod ({ cls := "PointsTo$Machine", name := "classOf", desc := "(I)I" } : Jvm.MethodName)), (Jvm.Cond.selects "PointsTo$Machine" ({ cls := "PointsTo$Machine", name := "classOf", desc := "(I)I" } : Jvm.MethodName) ({ cls := "PointsTo$Machine", name := "classOf", desc := "(I)I" } : Jvm.MethodName)), (Jvm.Cond.methodLink "PointsTo$Machine" (147 : Nat) ({ cls := "PointsTo$Program", name := "hasField", desc := "(II)Z" } : Jvm.MethodName)), (Jvm.Cond.initialized "PointsTo$Program"), (Jvm.Cond.instanceMethod ({ cls := "PointsTo$Program", name := "hasField", desc := "(II)Z" } : Jvm.MethodName)), (Jvm.Cond.selects "PointsTo$Program" ({ cls := "PointsTo$Program", name := "hasField", desc := "(II)Z" } : Jvm.MethodName) ({ cls := "PointsTo$Program", name := "hasField", desc := "(II)Z" } : Jvm.MethodName)), (Jvm.Cond.classLink "PointsTo$Machine" (150 : Nat) "java/lang/IndexOutOfBoundsException"), (Jvm.Cond.methodLink "PointsTo$Machine" (152 : Nat) ({ cls := "java/lang/IndexOutOfBoundsException", name := "<init>", desc := "()V" } : Jvm.MethodName)), (Jvm.Cond.fieldLink "PointsTo$Machine" (159 : Nat) "PointsTo$Statement" "name" "I"), (Jvm.Cond.fieldLink "PointsTo$Machine" (162 : Nat) "PointsTo$Statement" "arguments" "I"), (Jvm.Cond.methodLink "PointsTo$Machine" (165 : Nat) ({ cls := "PointsTo$Program", name := "found", desc := "(III)I" } : Jvm.MethodName)), (Jvm.Cond.instanceMethod ({ cls := "PointsTo$Program", name := "found", desc := "(III)I" } : Jvm.MethodName)), (Jvm.Cond.selects "PointsTo$Program" ({ cls := "PointsTo$Program", name := "found", desc := "(III)I" } : Jvm.MethodName) ({ cls := "PointsTo$Program", name := "found", desc := "(III)I" } : Jvm.MethodName)), (Jvm.Cond.fieldLink "PointsTo$Machine" (50 : Nat) "PointsTo$Program" "methods" "[LPointsTo$Method;"), (Jvm.Cond.methodLink "PointsTo$Machine" (59 : Nat) ({ cls := "PointsTo$Machine", name := "openFrame", desc := "(I)[I" } : Jvm.MethodName)), (Jvm.Cond.instanceMethod ({ cls := "PointsTo$Machine", name := "openFrame", desc := "(I)[I" } : Jvm.MethodName)), (Jvm.Cond.selects "PointsTo$Machine" ({ cls := "PointsTo$Machine", name := "openFrame", desc := "(I)[I" } : Jvm.MethodName) ({ cls := "PointsTo$Machine", name := "openFrame", desc := "(I)[I" } : Jvm.MethodName)), (Jvm.Cond.methodLink "PointsTo$Machine" (63 : Nat) ({ cls := "PointsTo$Method", name := "self", desc := "()I" } : Jvm.MethodName)), (Jvm.Cond.initialized "PointsTo$Method"), (Jvm.Cond.instanceMethod ({ cls := "PointsTo$Method", name := "self", desc := "()I" } : Jvm.MethodName)), (Jvm.Cond.selects "PointsTo$Method" ({ cls := "PointsTo$Method", name := "self", desc := "()I" } : Jvm.MethodName) ({ cls := "PointsTo$Method", name := "self", desc := "()I" } : Jvm.MethodName)), (Jvm.Cond.methodLink "PointsTo$Machine" (69 : Nat) ({ cls := "PointsTo$Machine", name := "give", desc := "([III)V" } : Jvm.MethodName)), (Jvm.Cond.instanceMethod ({ cls := "PointsTo$Machine", name := "give", desc := "([III)V" } : Jvm.MethodName)), (Jvm.Cond.selects "PointsTo$Machine" ({ cls := "PointsTo$Machine", name := "give", desc := "([III)V" } : Jvm.MethodName) ({ cls := "PointsTo$Machine", name := "give", desc := "([III)V" } : Jvm.MethodName)), (Jvm.Cond.methodLink "PointsTo$Machine" (169 : Nat) ({ cls := "PointsTo$Method", name := "parameter", desc := "(I)I" } : Jvm.MethodName)), (Jvm.Cond.instanceMethod ({ cls := "PointsTo$Method", name := "parameter", desc := "(I)I" } : Jvm.MethodName)), (Jvm.Cond.selects "PointsTo$Method" ({ cls := "PointsTo$Method", name := "parameter", desc := "(I)I" } : Jvm.MethodName) ({ cls := "PointsTo$Method", name := "parameter", desc := "(I)I" } : Jvm.MethodName)), (Jvm.Cond.fieldLink "PointsTo$Machine" (172 : Nat) "PointsTo$Statement" "firstArgument" "I"), (Jvm.Cond.fieldLink "PointsTo$Machine" (175 : Nat) "PointsTo$Statement" "secondArgument" "I"), (Jvm.Cond.fieldLink "PointsTo$Machine" (73 : Nat) "PointsTo$Method" "firstStatement" "I"), (Jvm.Cond.fieldLink "PointsTo$Machine" (76 : Nat) "PointsTo$Method" "endStatement" "I"), (Jvm.Cond.fieldLink "PointsTo$Machine" (114 : Nat) "PointsTo$Statement" "target" "I"), (Jvm.Cond.fieldLink "PointsTo$Machine" (178 : Nat) "PointsTo$Method" "result" "I"), (Jvm.Cond.methodLink "PointsTo$Machine" (153 : Nat) ({ cls := "PointsTo$Program", name := "isClassBelow", desc := "(II)Z" } : Jvm.MethodName)), (Jvm.Cond.instanceMethod ({ cls := "PointsTo$Program", name := "isClassBelow", desc := "(II)Z" } : Jvm.MethodName)), (Jvm.Cond.selects "PointsTo$Program" ({ cls := "PointsTo$Program", name := "isClassBelow", desc := "(II)Z" } : Jvm.MethodName) ({ cls := "PointsTo$Program", name := "isClassBelow", desc := "(II)Z" } : Jvm.MethodName)), (Jvm.Cond.classLink "PointsTo$Machine" (156 : Nat) "java/lang/UnsupportedOperationException"), (Jvm.Cond.methodLink "PointsTo$Machine" (158 : Nat) ({ cls := "java/lang/UnsupportedOperationException", name := "<init>", desc := "()V" } : Jvm.MethodName)), (Jvm.Cond.fieldLink "PointsTo$Machine" (102 : Nat) "PointsTo$Statement" "kind" "I"), (Jvm.Cond.fieldLink "PointsTo$Machine" (117 : Nat) "PointsTo$Statement" "number" "I"), (Jvm.Cond.methodLink "PointsTo$Machine" (46 : Nat) ({ cls := "PointsTo$Machine", name := "make", desc := "(I)I" } : Jvm.MethodName)), (Jvm.Cond.instanceMethod ({ cls := "PointsTo$Machine", name := "make", desc := "(I)I" } : Jvm.MethodName)), (Jvm.Cond.selects "PointsTo$Machine" ({ cls := "PointsTo$Machine", name := "make", desc := "(I)I" } : Jvm.MethodName) ({ cls := "PointsTo$Machine", name := "make", desc := "(I)I" } : Jvm.MethodName)), (Jvm.Cond.fieldLink "PointsTo$Machine" (132 : Nat) "PointsTo$Statement" "type" "I"), (Jvm.Cond.methodLink "PointsTo$Machine" (135 : Nat) ({ cls := "PointsTo$Machine", name := "castTo", desc := "(II)I" } : Jvm.MethodName)), (Jvm.Cond.instanceMethod ({ cls := "PointsTo$Machine", name := "castTo", desc := "(II)I" } : Jvm.MethodName)), (Jvm.Cond.selects "PointsTo$Machine" ({ cls := "PointsTo$Machine", name := "castTo", desc := "(II)I" } : Jvm.MethodName) ({ cls := "PointsTo$Machine", name := "castTo", desc := "(II)I" } : Jvm.MethodName)), (Jvm.Cond.methodLink "PointsTo$Machine" (120 : Nat) ({ cls := "PointsTo$Machine", name := "holder", desc := "(II)I" } : Jvm.MethodName)), (Jvm.Cond.instanceMethod ({ cls := "PointsTo$Machine", name := "holder", desc := "(II)I" } : Jvm.MethodName)), (Jvm.Cond.selects "PointsTo$Machine" ({ cls := "PointsTo$Machine", name := "holder", desc := "(II)I" } : Jvm.MethodName) ({ cls := "PointsTo$Machine", name := "holder", desc := "(II)I" } : Jvm.MethodName)), (Jvm.Cond.fieldLink "PointsTo$Machine" (94 : Nat) "PointsTo$Statement" "end" "I"), (Jvm.Cond.methodLink "PointsTo$Machine" (111 : Nat) ({ cls := "PointsTo$Machine", name := "runWhile", desc := "(II)Z" } : Jvm.MethodName)), (Jvm.Cond.instanceMethod ({ cls := "PointsTo$Machine", name := "runWhile", desc := "(II)Z" } : Jvm.MethodName)), (Jvm.Cond.selects "PointsTo$Machine" ({ cls := "PointsTo$Machine", name := "runWhile", desc := "(II)Z" } : Jvm.MethodName) ({ cls := "PointsTo$Machine", name := "runWhile", desc := "(II)Z" } : Jvm.MethodName)), (Jvm.Cond.methodLink "PointsTo$Machine" (124 : Nat) ({ cls := "PointsTo$Machine", name := "runCall", desc := "(LPointsTo$Statement;I)V" } : Jvm.MethodName)), (Jvm.Cond.instanceMethod ({ cls := "PointsTo$Machine", name := "runCall", desc := "(LPointsTo$Statement;I)V" } : Jvm.MethodName)), (Jvm.Cond.selects "PointsTo$Machine" ({ cls := "PointsTo$Machine", name := "runCall", desc := "(LPointsTo$Statement;I)V" } : Jvm.MethodName) ({ cls := "PointsTo$Machine", name := "runCall", desc := "(LPointsTo$Statement;I)V" } : Jvm.MethodName)), (Jvm.Cond.methodLink "PointsTo$Machine" (128 : Nat) ({ cls := "PointsTo$Machine", name := "rightOf", desc := "(LPointsTo$Statement;[I)I" } : Jvm.MethodName)), (Jvm.Cond.instanceMethod ({ cls := "PointsTo$Machine", name := "rightOf", desc := "(LPointsTo$Statement;[I)I" } : Jvm.MethodName)), (Jvm.Cond.selects "PointsTo$Machine" ({ cls := "PointsTo$Machine", name := "rightOf", desc := "(LPointsTo$Statement;[I)I" } : Jvm.MethodName) ({ cls := "PointsTo$Machine", name := "rightOf", desc := "(LPointsTo$Statement;[I)I" } : Jvm.MethodName)), (Jvm.Cond.methodLink "PointsTo$Machine" (86 : Nat) ({ cls := "PointsTo$Machine", name := "runStatement", desc := "(II)Z" } : Jvm.MethodName)), (Jvm.Cond.instanceMethod ({ cls := "PointsTo$Machine", name := "runStatement", desc := "(II)Z" } : Jvm.MethodName)), (Jvm.Cond.selects "PointsTo$Machine" ({ cls := "PointsTo$Machine", name := "runStatement", desc := "(II)Z" } : Jvm.MethodName) ({ cls := "PointsTo$Machine", name := "runStatement", desc := "(II)Z" } : Jvm.MethodName)), (Jvm.Cond.methodLink "PointsTo$Machine" (36 : Nat) ({ cls := "PointsTo$Machine", name := "forgetSeen", desc := "()V" } : Jvm.MethodName)), (Jvm.Cond.instanceMethod ({ cls := "PointsTo$Machine", name := "forgetSeen", desc := "()V" } : Jvm.MethodName)), (Jvm.Cond.selects "PointsTo$Machine" ({ cls := "PointsTo$Machine", name := "forgetSeen", desc := "()V" } : Jvm.MethodName) ({ cls := "PointsTo$Machine", name := "forgetSeen", desc := "()V" } : Jvm.MethodName)), (Jvm.Cond.fieldLink "PointsTo$Machine" (56 : Nat) "PointsTo$Program" "start" "I")]
theorem gW6_in : ∀ w ∈ gW6 ++ gWT, w ∈ lw_tbl := fun w h => (List.mem_append.mp h).elim (xplaces (ps := [302, 147, 148, 303, 270, 245, 304, 306, 307, 308, 916, 137, 855, 310, 1030, 1031, 312, 309, 456, 389, 413, 1041, 127, 1043, 41, 1049, 1051, 43, 1065, 1066, 460, 1061, 1063, 46, 1067, 128, 741, 742, 1068, 1077, 392, 404, 1087, 840, 841, 451, 1032, 1034, 39, 1036, 129, 789, 790, 1037, 1039, 40, 1088, 909, 910, 408, 411, 355, 357, 385, 352, 1097, 879, 880, 1098, 1107, 378, 398, 1026, 1028, 38, 401, 1093, 1095, 49, 1057, 1059, 45, 415, 1053, 1055, 44, 1083, 1085, 47, 1089, 1091, 48, 1045, 1047, 42, 1025, 913, 914, 486]) (by decide +kernel) w) (gWT_in w)
/-- PointsTo$Method -/
def gW7 : List Cond := [(Jvm.Cond.methodLink "PointsTo$Method" (3 : Nat) ({ cls := "java/lang/Object", name := "<init>", desc := "()V" } : Jvm.MethodName)), (Jvm.Cond.instanceMethod ({ cls := "java/lang/Object", name := "<init>", desc := "()V" } : Jvm.MethodName)), (Jvm.Cond.code ({ cls := "java/lang/Object", name := "<init>", desc := "()V" } : Jvm.MethodName) object_method_1_code (1 : Nat) (Option.none : Option Jvm.ClassFile.FieldType)), (Jvm.Cond.fieldLink "PointsTo$Method" (9 : Nat) "PointsTo$Method" "result" "I"), (Jvm.Cond.fieldLink "PointsTo$Method" (15 : Nat) "PointsTo$Method" "parameters" "I")]
theorem gW7_in : ∀ w ∈ gW7 ++ gWT, w ∈ lw_tbl := fun w h => (List.mem_append.mp h).elim (xplaces (ps := [343, 147, 148, 347, 353]) (by decide +kernel) w) (gWT_in w)
/-- PointsTo$Statement -/
def gW8 : List Cond := [(Jvm.Cond.methodLink "PointsTo$Statement" (1 : Nat) ({ cls := "java/lang/Object", name := "<init>", desc := "()V" } : Jvm.MethodName)), (Jvm.Cond.instanceMethod ({ cls := "java/lang/Object", name := "<init>", desc := "()V" } : Jvm.MethodName)), (Jvm.Cond.code ({ cls := "java/lang/Object", name := "<init>", desc := "()V" } : Jvm.MethodName) object_method_1_code (1 : Nat) (Option.none : Option Jvm.ClassFile.FieldType))]
theorem gW8_in : ∀ w ∈ gW8 ++ gWT, w ∈ lw_tbl := fun w h => (List.mem_append.mp h).elim (xplaces (ps := [376, 147, 148]) (by decide +kernel) w) (gWT_in w)
/-- PointsTo$Program -/
def gW9 : List Cond := [(Jvm.Cond.methodLink "PointsTo$Program" (3 : Nat) ({ cls := "java/lang/Object", name := "<init>", desc := "()V" } : Jvm.MethodName)), (Jvm.Cond.instanceMethod ({ cls := "java/lang/Object", name := "<init>", desc := "()V" } : Jvm.MethodName)), (Jvm.Cond.code ({ cls := "java/lang/Object", name := "<init>", desc := "()V" } : Jvm.MethodName) object_method_1_code (1 : Nat) (Option.none : Option Jvm.ClassFile.FieldType)), (Jvm.Cond.arrayClass Jvm.ClassFile.FieldType.int), (Jvm.Cond.fieldLink "PointsTo$Program" (9 : Nat) "PointsTo$Program" "className" "[I"), (Jvm.Cond.fieldLink "PointsTo$Program" (15 : Nat) "PointsTo$Program" "classAbove" "[I"), (Jvm.Cond.fieldLink "PointsTo$Program" (18 : Nat) "PointsTo$Program" "classFields" "[I"), (Jvm.Cond.fieldLink "PointsTo$Program" (21 : Nat) "PointsTo$Program" "fieldName" "[I"), (Jvm.Cond.fieldLink "PointsTo$Program" (24 : Nat) "PointsTo$Program" "variableName" "[I"), (Jvm.Cond.classLink "PointsTo$Program" (27 : Nat) "PointsTo$Method"), (Jvm.Cond.arrayOver (Jvm.ClassFile.FieldType.object "PointsTo$Method")), (Jvm.Cond.fieldLink "PointsTo$Program" (29 : Nat) "PointsTo$Program" "methods" "[LPointsTo$Method;"), (Jvm.Cond.classLink "PointsTo$Program" (33 : Nat) "PointsTo$Statement"), (Jvm.Cond.arrayOver (Jvm.ClassFile.FieldType.object "PointsTo$Statement")), (Jvm.Cond.fieldLink "PointsTo$Program" (35 : Nat) "PointsTo$Program" "statements" "[LPointsTo$Statement;"), (Jvm.Cond.fieldLink "PointsTo$Program" (39 : Nat) "PointsTo$Program" "siteClass" "[I"), (Jvm.Cond.fieldLink "PointsTo$Program" (42 : Nat) "PointsTo$Program" "castStatement" "[I"), (Jvm.Cond.fieldLink "PointsTo$Program" (45 : Nat) "PointsTo$Program" "start" "I"), (Jvm.Cond.instantiable "PointsTo$Method" (6 : Nat)), (Jvm.Cond.initialized "PointsTo$Method"), (Jvm.Cond.methodLinkNest "PointsTo$Program" (49 : Nat) ({ cls := "PointsTo$Method", name := "<init>", desc := "()V" } : Jvm.MethodName) "PointsTo"), (Jvm.Cond.instanceMethod ({ cls := "PointsTo$Method", name := "<init>", desc := "()V" } : Jvm.MethodName)), (Jvm.Cond.instantiable "PointsTo$Statement" (13 : Nat)), (Jvm.Cond.initialized "PointsTo$Statement"), (Jvm.Cond.methodLinkNest "PointsTo$Program" (50 : Nat) ({ cls := "PointsTo$Statement", name := "<init>", desc := "()V" } : Jvm.MethodName) "PointsTo"), (Jvm.Cond.instanceMethod ({ cls := "PointsTo$Statement", name := "<init>", desc := "()V" } : Jvm.MethodName)), (Jvm.Cond.fieldLink "PointsTo$Program" (51 : Nat) "PointsTo$Program" "classCount" "I"), (Jvm.Cond.fieldLink "PointsTo$Program" (54 : Nat) "PointsTo$Program" "methodCount" "I"), (Jvm.Cond.fieldLink "PointsTo$Program" (57 : Nat) "PointsTo$Program" "fieldCount" "I"), (Jvm.Cond.fieldLink "PointsTo$Program" (60 : Nat) "PointsTo$Program" "callCount" "I"), (Jvm.Cond.fieldLink "PointsTo$Program" (63 : Nat) "PointsTo$Program" "castCount" "I"), (Jvm.Cond.fieldLink "PointsTo$Program" (66 : Nat) "PointsTo$Program" "siteCount" "I"), (Jvm.Cond.fieldLink "PointsTo$Program" (69 : Nat) "PointsTo$Program" "variableCount" "I"), (Jvm.Cond.fieldLink "PointsTo$Program" (72 : Nat) "PointsTo$Program" "statementCount" "I"), (Jvm.Cond.methodLink "PointsTo$Program" (75 : Nat) ({ cls := "PointsTo$Program", name := "indexIn", desc := "([III)I" } : Jvm.MethodName)), (Jvm.Cond.initialized "PointsTo$Program"), (Jvm.Cond.static ({ cls := "PointsTo$Program", name := "indexIn", desc := "([III)I" } : Jvm.MethodName)), (Jvm.Cond.methodLink "PointsTo$Program" (92 : Nat) ({ cls := "PointsTo$Program", name := "classNamed", desc := "(I)I" } : Jvm.MethodName)), (Jvm.Cond.instanceMethod ({ cls := "PointsTo$Program", name := "classNamed", desc := "(I)I" } : Jvm.MethodName)), (Jvm.Cond.selects "PointsTo$Program" ({ cls := "PointsTo$Program", name := "classNamed", desc := "(I)I" } : Jvm.MethodName) ({ cls := "PointsTo$Program", name := "classNamed", desc := "(I)I" } : Jvm.MethodName)), (Jvm.Cond.methodLink "PointsTo$Program" (96 : Nat) ({ cls := "PointsTo$Program", name := "fieldNamed", desc := "(I)I" } : Jvm.MethodName)), (Jvm.Cond.instanceMethod ({ cls := "PointsTo$Program", name := "fieldNamed", desc := "(I)I" } : Jvm.MethodName)), (Jvm.Cond.selects "PointsTo$Program" ({ cls := "PointsTo$Program", name := "fieldNamed", desc := "(I)I" } : Jvm.MethodName) ({ cls := "PointsTo$Program", name := "fieldNamed", desc := "(I)I" } : Jvm.MethodName)), (Jvm.Cond.methodLink "PointsTo$Program" (99 : Nat) ({ cls := "PointsTo$Program", name := "hasField", desc := "(II)Z" } : Jvm.MethodName)), (Jvm.Cond.instanceMethod ({ cls := "PointsTo$Program", name := "hasField", desc := "(II)Z" } : Jvm.MethodName)), (Jvm.Cond.selects "PointsTo$Program" ({ cls := "PointsTo$Program", name := "hasField", desc := "(II)Z" } : Jvm.MethodName) ({ cls := "PointsTo$Program", name := "hasField", desc := "(II)Z" } : Jvm.MethodName)), (Jvm.Cond.fieldLink "PointsTo$Program" (79 : Nat) "PointsTo$Method" "owner" "I"), (Jvm.Cond.fieldLink "PointsTo$Program" (82 : Nat) "PointsTo$Method" "name" "I"), (Jvm.Cond.methodLink "PointsTo$Program" (85 : Nat) ({ cls := "PointsTo$Program", name := "declared", desc := "(II)I" } : Jvm.MethodName)), (Jvm.Cond.instanceMethod ({ cls := "PointsTo$Program", name := "declared", desc := "(II)I" } : Jvm.MethodName)), (Jvm.Cond.selects "PointsTo$Program" ({ cls := "PointsTo$Program", name := "declared", desc := "(II)I" } : Jvm.MethodName) ({ cls := "PointsTo$Program", name := "declared", desc := "(II)I" } : Jvm.MethodName)), (Jvm.Cond.fieldLink "PointsTo$Program" (103 : Nat) "PointsTo$Method" "result" "I"), (Jvm.Cond.fieldLink "PointsTo$Program" (89 : Nat) "PointsTo$Method" "parameters" "I"), (Jvm.Cond.methodLink "PointsTo$Program" (106 : Nat) ({ cls := "PointsTo$Program", name := "variableOf", desc := "(I)I" } : Jvm.MethodName)), (Jvm.Cond.instanceMethod ({ cls := "PointsTo$Program", name := "variableOf", desc := "(I)I" } : Jvm.MethodName)), (Jvm.Cond.selects "PointsTo$Program" ({ cls := "PointsTo$Program", name := "variableOf", desc := "(I)I" } : Jvm.MethodName) ({ cls := "PointsTo$Program", name := "variableOf", desc := "(I)I" } : Jvm.MethodName)), (Jvm.Cond.fieldLink "PointsTo$Program" (109 : Nat) "PointsTo$Statement" "method" "I"), (Jvm.Cond.fieldLink "PointsTo$Program" (112 : Nat) "PointsTo$Statement" "target" "I"), (Jvm.Cond.fieldLink "PointsTo$Program" (115 : Nat) "PointsTo$Statement" "arguments" "I"), (Jvm.Cond.fieldLink "PointsTo$Program" (118 : Nat) "PointsTo$Statement" "kind" "I"), (Jvm.Cond.fieldLink "PointsTo$Program" (121 : Nat) "PointsTo$Statement" "number" "I"), (Jvm.Cond.fieldLink "PointsTo$Program" (124 : Nat) "PointsTo$Statement" "name" "I"), (Jvm.Cond.fieldLink "PointsTo$Program" (125 : Nat) "PointsTo$Statement" "type" "I"), (Jvm.Cond.fieldLink "PointsTo$Program" (128 : Nat) "PointsTo$Statement" "place" "I"), (Jvm.Cond.methodLink "PointsTo$Program" (133 : Nat) ({ cls := "PointsTo$Tokens", name := "nameCode", desc := "(Ljava/lang/String;)I" } : Jvm.MethodName)), (Jvm.Cond.initialized "PointsTo$Tokens"), (Jvm.Cond.static ({ cls := "PointsTo$Tokens", name := "nameCode", desc := "(Ljava/lang/String;)I" } : Jvm.MethodName)), (Jvm.Cond.methodLink "PointsTo$Program" (139 : Nat) ({ cls := "PointsTo$Program", name := "found", desc := "(III)I" } : Jvm.MethodName)), (Jvm.Cond.instanceMethod ({ cls := "PointsTo$Program", name := "found", desc := "(III)I" } : Jvm.MethodName)), (Jvm.Cond.selects "PointsTo$Program" ({ cls := "PointsTo$Program", name := "found", desc := "(III)I" } : Jvm.MethodName) ({ cls := "PointsTo$Program", name := "found", desc := "(III)I" } : Jvm.MethodName))]
theorem gW9_in : ∀ w ∈ gW9 ++ gWT, w ∈ lw_tbl := fun w h => (List.mem_append.mp h).elim (xplaces (ps := [334, 147, 148, 245, 444, 445, 446, 447, 448, 335, 336, 449, 337, 338, 454, 458, 461, 484, 339, 129, 340, 341, 372, 130, 373, 374, 463, 465, 469, 471, 473, 475, 478, 481, 717, 128, 718, 713, 714, 715, 736, 737, 738, 740, 741, 742, 345, 344, 752, 754, 11, 349, 354, 768, 769, 770, 383, 387, 405, 380, 399, 394, 402, 396, 838, 121, 163, 839, 840, 841]) (by decide +kernel) w) (gWT_in w)
/-- PointsTo -/
def gW10 : List Cond := [(Jvm.Cond.methodLink "PointsTo" (1 : Nat) ({ cls := "java/lang/Object", name := "<init>", desc := "()V" } : Jvm.MethodName)), (Jvm.Cond.instanceMethod ({ cls := "java/lang/Object", name := "<init>", desc := "()V" } : Jvm.MethodName)), (Jvm.Cond.code ({ cls := "java/lang/Object", name := "<init>", desc := "()V" } : Jvm.MethodName) object_method_1_code (1 : Nat) (Option.none : Option Jvm.ClassFile.FieldType)), (Jvm.Cond.arrayClass Jvm.ClassFile.FieldType.char), (Jvm.Cond.fieldLink "PointsTo" (9 : Nat) "PointsTo" "text" "[C"), (Jvm.Cond.classLink "PointsTo" (13 : Nat) "PointsTo$Parser"), (Jvm.Cond.instantiable "PointsTo$Parser" (5 : Nat)), (Jvm.Cond.initialized "PointsTo$Parser"), (Jvm.Cond.methodLinkNest "PointsTo" (15 : Nat) ({ cls := "PointsTo$Parser", name := "<init>", desc := "()V" } : Jvm.MethodName) "PointsTo"), (Jvm.Cond.instanceMethod ({ cls := "PointsTo$Parser", name := "<init>", desc := "()V" } : Jvm.MethodName)), (Jvm.Cond.fieldLink "PointsTo" (16 : Nat) "PointsTo" "parser" "LPointsTo$Parser;"), (Jvm.Cond.classLink "PointsTo" (20 : Nat) "PointsTo$Facts"), (Jvm.Cond.instantiable "PointsTo$Facts" (7 : Nat)), (Jvm.Cond.initialized "PointsTo$Facts"), (Jvm.Cond.methodLinkNest "PointsTo" (22 : Nat) ({ cls := "PointsTo$Facts", name := "<init>", desc := "()V" } : Jvm.MethodName) "PointsTo"), (Jvm.Cond.instanceMethod ({ cls := "PointsTo$Facts", name := "<init>", desc := "()V" } : Jvm.MethodName)), (Jvm.Cond.fieldLink "PointsTo" (23 : Nat) "PointsTo" "facts" "LPointsTo$Facts;"), (Jvm.Cond.classLink "PointsTo" (27 : Nat) "PointsTo$Machine"), (Jvm.Cond.instantiable "PointsTo$Machine" (7 : Nat)), (Jvm.Cond.initialized "PointsTo$Machine"), (Jvm.Cond.methodLinkNest "PointsTo" (29 : Nat) ({ cls := "PointsTo$Machine", name := "<init>", desc := "()V" } : Jvm.MethodName) "PointsTo"), (Jvm.Cond.instanceMethod ({ cls := "PointsTo$Machine", name := "<init>", desc := "()V" } : Jvm.MethodName)), (Jvm.Cond.fieldLink "PointsTo" (30 : Nat) "PointsTo" "machine" "LPointsTo$Machine;"), (Jvm.Cond.classLink "PointsTo" (34 : Nat) "PointsTo$Program"), (Jvm.Cond.instantiable "PointsTo$Program" (18 : Nat)), (Jvm.Cond.initialized "PointsTo$Program"), (Jvm.Cond.methodLink "PointsTo" (36 : Nat) ({ cls := "PointsTo$Program", name := "<init>", desc := "()V" } : Jvm.MethodName)), (Jvm.Cond.instanceMethod ({ cls := "PointsTo$Program", name := "<init>", desc := "()V" } : Jvm.MethodName)), (Jvm.Cond.fieldLink "PointsTo" (37 : Nat) "PointsTo" "program" "LPointsTo$Program;"), (Jvm.Cond.fieldLink "PointsTo" (41 : Nat) "PointsTo" "spare" "LPointsTo$Program;"), (Jvm.Cond.fieldLink "PointsTo" (44 : Nat) "PointsTo" "fault" "I"), (Jvm.Cond.methodLink "PointsTo" (61 : Nat) ({ cls := "PointsTo", name := "codeOf", desc := "(JI)I" } : Jvm.MethodName)), (Jvm.Cond.initialized "PointsTo"), (Jvm.Cond.static ({ cls := "PointsTo", name := "codeOf", desc := "(JI)I" } : Jvm.MethodName)), (Jvm.Cond.methodLink "PointsTo" (48 : Nat) ({ cls := "PointsTo", name := "codesMayStand", desc := "(JI)Z" } : Jvm.MethodName)), (Jvm.Cond.static ({ cls := "PointsTo", name := "codesMayStand", desc := "(JI)Z" } : Jvm.MethodName)), (Jvm.Cond.classLink "PointsTo" (52 : Nat) "java/lang/IllegalArgumentException"), (Jvm.Cond.methodLink "PointsTo" (54 : Nat) ({ cls := "java/lang/IllegalArgumentException", name := "<init>", desc := "()V" } : Jvm.MethodName)), (Jvm.Cond.fieldLink "PointsTo" (55 : Nat) "PointsTo" "length" "I"), (Jvm.Cond.classLink "PointsTo" (58 : Nat) "java/lang/IllegalStateException"), (Jvm.Cond.methodLink "PointsTo" (60 : Nat) ({ cls := "java/lang/IllegalStateException", name := "<init>", desc := "()V" } : Jvm.MethodName)), (Jvm.Cond.methodLink "PointsTo" (65 : Nat) ({ cls := "PointsTo$Parser", name := "parse", desc := "([CILPointsTo$Program;)I" } : Jvm.MethodName)), (Jvm.Cond.instanceMethod ({ cls := "PointsTo$Parser", name := "parse", desc := "([CILPointsTo$Program;)I" } : Jvm.MethodName)), (Jvm.Cond.selects "PointsTo$Parser" ({ cls := "PointsTo$Parser", name := "parse", desc := "([CILPointsTo$Program;)I" } : Jvm.MethodName) ({ cls := "PointsTo$Parser", name := "parse", desc := "([CILPointsTo$Program;)I" } : Jvm.MethodName)), (Jvm.Cond.methodLink "PointsTo" (69 : Nat) ({ cls := "PointsTo$Facts", name := "find", desc := "(LPointsTo$Program;)V" } : Jvm.MethodName)), (Jvm.Cond.instanceMethod ({ cls := "PointsTo$Facts", name := "find", desc := "(LPointsTo$Program;)V" } : Jvm.MethodName)), (Jvm.Cond.selects "PointsTo$Facts" ({ cls := "PointsTo$Facts", name := "find", desc := "(LPointsTo$Program;)V" } : Jvm.MethodName) ({ cls := "PointsTo$Facts", name := "find", desc := "(LPointsTo$Program;)V" } : Jvm.MethodName)), (Jvm.Cond.methodLink "PointsTo" (73 : Nat) ({ cls := "PointsTo$Machine", name := "forgetSeen", desc := "()V" } : Jvm.MethodName)), (Jvm.Cond.instanceMethod ({ cls := "PointsTo$Machine", name := "forgetSeen", desc := "()V" } : Jvm.MethodName)), (Jvm.Cond.selects "PointsTo$Machine" ({ cls := "PointsTo$Machine", name := "forgetSeen", desc := "()V" } : Jvm.MethodName) ({ cls := "PointsTo$Machine", name := "forgetSeen", desc := "()V" } : Jvm.MethodName)), (Jvm.Cond.methodLink "PointsTo" (76 : Nat) ({ cls := "PointsTo$Facts", name := "pairs", desc := "()I" } : Jvm.MethodName)), (Jvm.Cond.instanceMethod ({ cls := "PointsTo$Facts", name := "pairs", desc := "()I" } : Jvm.MethodName)), (Jvm.Cond.selects "PointsTo$Facts" ({ cls := "PointsTo$Facts", name := "pairs", desc := "()I" } : Jvm.MethodName) ({ cls := "PointsTo$Facts", name := "pairs", desc := "()I" } : Jvm.MethodName)), (Jvm.Cond.fieldLink "PointsTo" (175 : Nat) "PointsTo$Program" "variableCount" "I"), (Jvm.Cond.methodLink "PointsTo" (97 : Nat) ({ cls := "PointsTo", name := "isBelow", desc := "(II)Z" } : Jvm.MethodName)), (Jvm.Cond.static ({ cls := "PointsTo", name := "isBelow", desc := "(II)Z" } : Jvm.MethodName)), (Jvm.Cond.fieldLink "PointsTo" (172 : Nat) "PointsTo$Program" "siteCount" "I"), (Jvm.Cond.methodLink "PointsTo" (80 : Nat) ({ cls := "PointsTo", name := "hasVariable", desc := "(I)Z" } : Jvm.MethodName)), (Jvm.Cond.instanceMethod ({ cls := "PointsTo", name := "hasVariable", desc := "(I)Z" } : Jvm.MethodName)), (Jvm.Cond.selects "PointsTo" ({ cls := "PointsTo", name := "hasVariable", desc := "(I)Z" } : Jvm.MethodName) ({ cls := "PointsTo", name := "hasVariable", desc := "(I)Z" } : Jvm.MethodName)), (Jvm.Cond.methodLink "PointsTo" (84 : Nat) ({ cls := "PointsTo", name := "hasSite", desc := "(I)Z" } : Jvm.MethodName)), (Jvm.Cond.instanceMethod ({ cls := "PointsTo", name := "hasSite", desc := "(I)Z" } : Jvm.MethodName)), (Jvm.Cond.selects "PointsTo" ({ cls := "PointsTo", name := "hasSite", desc := "(I)Z" } : Jvm.MethodName) ({ cls := "PointsTo", name := "hasSite", desc := "(I)Z" } : Jvm.MethodName)), (Jvm.Cond.classLink "PointsTo" (87 : Nat) "java/util/NoSuchElementException"), (Jvm.Cond.methodLink "PointsTo" (89 : Nat) ({ cls := "java/util/NoSuchElementException", name := "<init>", desc := "()V" } : Jvm.MethodName)), (Jvm.Cond.fieldLink "PointsTo" (90 : Nat) "PointsTo$Facts" "may" "[[I"), (Jvm.Cond.fieldLink "PointsTo" (94 : Nat) "PointsTo$Program" "fieldCount" "I"), (Jvm.Cond.methodLink "PointsTo" (101 : Nat) ({ cls := "PointsTo$Facts", name := "heldBy", desc := "(II)[I" } : Jvm.MethodName)), (Jvm.Cond.instanceMethod ({ cls := "PointsTo$Facts", name := "heldBy", desc := "(II)[I" } : Jvm.MethodName)), (Jvm.Cond.selects "PointsTo$Facts" ({ cls := "PointsTo$Facts", name := "heldBy", desc := "(II)[I" } : Jvm.MethodName) ({ cls := "PointsTo$Facts", name := "heldBy", desc := "(II)[I" } : Jvm.MethodName)), (Jvm.Cond.fieldLink "PointsTo" (169 : Nat) "PointsTo$Program" "methodCount" "I"), (Jvm.Cond.fieldLink "PointsTo" (105 : Nat) "PointsTo$Program" "callCount" "I"), (Jvm.Cond.methodLink "PointsTo" (108 : Nat) ({ cls := "PointsTo", name := "hasMethod", desc := "(I)Z" } : Jvm.MethodName)), (Jvm.Cond.instanceMethod ({ cls := "PointsTo", name := "hasMethod", desc := "(I)Z" } : Jvm.MethodName)), (Jvm.Cond.selects "PointsTo" ({ cls := "PointsTo", name := "hasMethod", desc := "(I)Z" } : Jvm.MethodName) ({ cls := "PointsTo", name := "hasMethod", desc := "(I)Z" } : Jvm.MethodName)), (Jvm.Cond.fieldLink "PointsTo" (111 : Nat) "PointsTo$Facts" "goes" "[[I"), (Jvm.Cond.fieldLink "PointsTo" (114 : Nat) "PointsTo$Facts" "reached" "[I"), (Jvm.Cond.fieldLink "PointsTo" (118 : Nat) "PointsTo$Program" "castCount" "I"), (Jvm.Cond.fieldLink "PointsTo" (121 : Nat) "PointsTo$Program" "statements" "[LPointsTo$Statement;"), (Jvm.Cond.fieldLink "PointsTo" (125 : Nat) "PointsTo$Program" "castStatement" "[I"), (Jvm.Cond.methodLink "PointsTo" (128 : Nat) ({ cls := "PointsTo$Facts", name := "castNeverFails", desc := "(LPointsTo$Statement;)Z" } : Jvm.MethodName)), (Jvm.Cond.instanceMethod ({ cls := "PointsTo$Facts", name := "castNeverFails", desc := "(LPointsTo$Statement;)Z" } : Jvm.MethodName)), (Jvm.Cond.selects "PointsTo$Facts" ({ cls := "PointsTo$Facts", name := "castNeverFails", desc := "(LPointsTo$Statement;)Z" } : Jvm.MethodName) ({ cls := "PointsTo$Facts", name := "castNeverFails", desc := "(LPointsTo$Statement;)Z" } : Jvm.MethodName)), (Jvm.Cond.methodLink "PointsTo" (132 : Nat) ({ cls := "PointsTo$Facts", name := "shareSite", desc := "(II)Z" } : Jvm.MethodName)), (Jvm.Cond.instanceMethod ({ cls := "PointsTo$Facts", name := "shareSite", desc := "(II)Z" } : Jvm.MethodName)), (Jvm.Cond.selects "PointsTo$Facts" ({ cls := "PointsTo$Facts", name := "shareSite", desc := "(II)Z" } : Jvm.MethodName) ({ cls := "PointsTo$Facts", name := "shareSite", desc := "(II)Z" } : Jvm.MethodName)), (Jvm.Cond.fieldLink "PointsTo" (135 : Nat) "PointsTo$Program" "methods" "[LPointsTo$Method;"), (Jvm.Cond.fieldLink "PointsTo" (139 : Nat) "PointsTo$Method" "result" "I"), (Jvm.Cond.methodLink "PointsTo" (144 : Nat) ({ cls := "PointsTo$Method", name := "self", desc := "()I" } : Jvm.MethodName)), (Jvm.Cond.initialized "PointsTo$Method"), (Jvm.Cond.instanceMethod ({ cls := "PointsTo$Method", name := "self", desc := "()I" } : Jvm.MethodName)), (Jvm.Cond.selects "PointsTo$Method" ({ cls := "PointsTo$Method", name := "self", desc := "()I" } : Jvm.MethodName) ({ cls := "PointsTo$Method", name := "self", desc := "()I" } : Jvm.MethodName)), (Jvm.Cond.methodLink "PointsTo" (147 : Nat) ({ cls := "PointsTo$Method", name := "parameter", desc := "(I)I" } : Jvm.MethodName)), (Jvm.Cond.instanceMethod ({ cls := "PointsTo$Method", name := "parameter", desc := "(I)I" } : Jvm.MethodName)), (Jvm.Cond.selects "PointsTo$Method" ({ cls := "PointsTo$Method", name := "parameter", desc := "(I)I" } : Jvm.MethodName) ({ cls := "PointsTo$Method", name := "parameter", desc := "(I)I" } : Jvm.MethodName)), (Jvm.Cond.fieldLink "PointsTo" (151 : Nat) "PointsTo$Method" "owner" "I"), (Jvm.Cond.fieldLink "PointsTo" (154 : Nat) "PointsTo$Program" "start" "I"), (Jvm.Cond.methodLink "PointsTo" (157 : Nat) ({ cls := "PointsTo$Machine", name := "execute", desc := "(LPointsTo$Program;)V" } : Jvm.MethodName)), (Jvm.Cond.instanceMethod ({ cls := "PointsTo$Machine", name := "execute", desc := "(LPointsTo$Program;)V" } : Jvm.MethodName)), (Jvm.Cond.selects "PointsTo$Machine" ({ cls := "PointsTo$Machine", name := "execute", desc := "(LPointsTo$Program;)V" } : Jvm.MethodName) ({ cls := "PointsTo$Machine", name := "execute", desc := "(LPointsTo$Program;)V" } : Jvm.MethodName)), (Jvm.Cond.fieldLink "PointsTo" (160 : Nat) "PointsTo$Machine" "begun" "I"), (Jvm.Cond.fieldLink "PointsTo" (163 : Nat) "PointsTo$Machine" "seen" "[[I"), (Jvm.Cond.fieldLink "PointsTo" (166 : Nat) "PointsTo$Program" "classCount" "I"), (Jvm.Cond.fieldLink "PointsTo" (178 : Nat) "PointsTo$Facts" "lastRound" "I"), (Jvm.Cond.fieldLink "PointsTo" (181 : Nat) "PointsTo$Machine" "made" "I")]
theorem gW10_in : ∀ w ∈ gW10 ++ gWT, w ∈ lw_tbl := fun w h => (List.mem_append.mp h).elim (xplaces (ps := [146, 147, 148, 244, 525, 149, 150, 120, 151, 152, 526, 263, 264, 126, 265, 266, 527, 297, 298, 127, 299, 300, 528, 329, 330, 128, 331, 332, 529, 530, 532, 566, 119, 567, 563, 564, 569, 612, 531, 634, 643, 663, 664, 665, 843, 844, 845, 912, 913, 914, 917, 918, 919, 479, 933, 934, 477, 929, 931, 35, 936, 938, 36, 940, 949, 272, 470, 962, 887, 888, 468, 472, 970, 972, 37, 274, 276, 474, 457, 462, 988, 989, 990, 999, 1000, 1001, 453, 348, 1010, 129, 789, 790, 1011, 909, 910, 346, 487, 1021, 1022, 1023, 313, 305, 464, 281, 311]) (by decide +kernel) w) (gWT_in w)
/-- PointsToModel -/
def gW11 : List Cond := [(Jvm.Cond.methodLink "PointsToModel" (1 : Nat) ({ cls := "java/lang/Object", name := "<init>", desc := "()V" } : Jvm.MethodName)), (Jvm.Cond.instanceMethod ({ cls := "java/lang/Object", name := "<init>", desc := "()V" } : Jvm.MethodName)), (Jvm.Cond.code ({ cls := "java/lang/Object", name := "<init>", desc := "()V" } : Jvm.MethodName) object_method_1_code (1 : Nat) (Option.none : Option Jvm.ClassFile.FieldType)), (Jvm.Cond.arrayClass Jvm.ClassFile.FieldType.int), (Jvm.Cond.fieldLink "PointsToModel" (7 : Nat) "PointsToModel" "text" "[I"), (Jvm.Cond.fieldLink "PointsToModel" (13 : Nat) "PointsToModel" "fault" "I"), (Jvm.Cond.fieldLink "PointsToModel" (17 : Nat) "PointsToModel" "block" "[I"), (Jvm.Cond.fieldLink "PointsToModel" (20 : Nat) "PointsToModel" "blockOp" "[I"), (Jvm.Cond.fieldLink "PointsToModel" (23 : Nat) "PointsToModel" "varName" "[I"), (Jvm.Cond.fieldLink "PointsToModel" (26 : Nat) "PointsToModel" "asked" "[I"), (Jvm.Cond.fieldLink "PointsToModel" (29 : Nat) "PointsToModel" "askedAt" "[I"), (Jvm.Cond.fieldLink "PointsToModel" (32 : Nat) "PointsToModel" "classes" "[I"), (Jvm.Cond.fieldLink "PointsToModel" (35 : Nat) "PointsToModel" "methods" "[I"), (Jvm.Cond.fieldLink "PointsToModel" (38 : Nat) "PointsToModel" "fields" "[I"), (Jvm.Cond.fieldLink "PointsToModel" (41 : Nat) "PointsToModel" "calls" "[I"), (Jvm.Cond.fieldLink "PointsToModel" (44 : Nat) "PointsToModel" "casts" "[I"), (Jvm.Cond.fieldLink "PointsToModel" (47 : Nat) "PointsToModel" "sites" "[I"), (Jvm.Cond.fieldLink "PointsToModel" (50 : Nat) "PointsToModel" "vars" "[I"), (Jvm.Cond.fieldLink "PointsToModel" (53 : Nat) "PointsToModel" "ops" "[I"), (Jvm.Cond.fieldLink "PointsToModel" (56 : Nat) "PointsToModel" "className" "[I"), (Jvm.Cond.fieldLink "PointsToModel" (59 : Nat) "PointsToModel" "up" "[I"), (Jvm.Cond.arrayClass Jvm.ClassFile.FieldType.boolean), (Jvm.Cond.fieldLink "PointsToModel" (62 : Nat) "PointsToModel" "owns" "[Z"), (Jvm.Cond.fieldLink "PointsToModel" (66 : Nat) "PointsToModel" "fieldName" "[I"), (Jvm.Cond.fieldLink "PointsToModel" (69 : Nat) "PointsToModel" "methodName" "[I"), (Jvm.Cond.fieldLink "PointsToModel" (72 : Nat) "PointsToModel" "methodClass" "[I"), (Jvm.Cond.fieldLink "PointsToModel" (75 : Nat) "PointsToModel" "methodSize" "[I"), (Jvm.Cond.fieldLink "PointsToModel" (78 : Nat) "PointsToModel" "methodVar" "[I"), (Jvm.Cond.fieldLink "PointsToModel" (81 : Nat) "PointsToModel" "methodOp" "[I"), (Jvm.Cond.fieldLink "PointsToModel" (84 : Nat) "PointsToModel" "siteClass" "[I"), (Jvm.Cond.fieldLink "PointsToModel" (87 : Nat) "PointsToModel" "castVar" "[I"), (Jvm.Cond.fieldLink "PointsToModel" (90 : Nat) "PointsToModel" "castClass" "[I"), (Jvm.Cond.fieldLink "PointsToModel" (93 : Nat) "PointsToModel" "op" "[I"), (Jvm.Cond.fieldLink "PointsToModel" (96 : Nat) "PointsToModel" "may" "[I"), (Jvm.Cond.fieldLink "PointsToModel" (99 : Nat) "PointsToModel" "holds" "[I"), (Jvm.Cond.fieldLink "PointsToModel" (102 : Nat) "PointsToModel" "goes" "[I"), (Jvm.Cond.fieldLink "PointsToModel" (105 : Nat) "PointsToModel" "reached" "[I"), (Jvm.Cond.fieldLink "PointsToModel" (108 : Nat) "PointsToModel" "seen" "[Z"), (Jvm.Cond.fieldLink "PointsToModel" (111 : Nat) "PointsToModel" "objectSite" "[I"), (Jvm.Cond.fieldLink "PointsToModel" (114 : Nat) "PointsToModel" "objectField" "[I"), (Jvm.Cond.fieldLink "PointsToModel" (117 : Nat) "PointsToModel" "value" "[I"), (Jvm.Cond.fieldLink "PointsToModel" (120 : Nat) "PointsToModel" "back" "[I"), (Jvm.Cond.fieldLink "PointsToModel" (123 : Nat) "PointsToModel" "code" "I"), (Jvm.Cond.methodLink "PointsToModel" (126 : Nat) ({ cls := "PointsToModel", name := "in", desc := "(III)Z" } : Jvm.MethodName)), (Jvm.Cond.initialized "PointsToModel"), (Jvm.Cond.static ({ cls := "PointsToModel", name := "in", desc := "(III)Z" } : Jvm.MethodName)), (Jvm.Cond.methodLink "PointsToModel" (130 : Nat) ({ cls := "PointsToModel", name := "good", desc := "(ZI)Z" } : Jvm.MethodName)), (Jvm.Cond.instanceMethod ({ cls := "PointsToModel", name := "good", desc := "(ZI)Z" } : Jvm.MethodName)), (Jvm.Cond.selects "PointsToModel" ({ cls := "PointsToModel", name := "good", desc := "(ZI)Z" } : Jvm.MethodName) ({ cls := "PointsToModel", name := "good", desc := "(ZI)Z" } : Jvm.MethodName)), (Jvm.Cond.methodLink "PointsToModel" (134 : Nat) ({ cls := "PointsToModel", name := "fail", desc := "(I)I" } : Jvm.MethodName)), (Jvm.Cond.instanceMethod ({ cls := "PointsToModel", name := "fail", desc := "(I)I" } : Jvm.MethodName)), (Jvm.Cond.selects "PointsToModel" ({ cls := "PointsToModel", name := "fail", desc := "(I)I" } : Jvm.MethodName) ({ cls := "PointsToModel", name := "fail", desc := "(I)I" } : Jvm.MethodName)), (Jvm.Cond.fieldLink "PointsToModel" (138 : Nat) "PointsToModel" "length" "I"), (Jvm.Cond.fieldLink "PointsToModel" (221 : Nat) "PointsToModel" "now" "I"), (Jvm.Cond.fieldLink "PointsToModel" (141 : Nat) "PointsToModel" "end" "I"), (Jvm.Cond.fieldLink "PointsToModel" (144 : Nat) "PointsToModel" "behind" "I"), (Jvm.Cond.fieldLink "PointsToModel" (147 : Nat) "PointsToModel" "start" "I"), (Jvm.Cond.fieldLink "PointsToModel" (150 : Nat) "PointsToModel" "kind" "I"), (Jvm.Cond.methodLink "PointsToModel" (153 : Nat) ({ cls := "PointsToModel", name := "isSign", desc := "(I)Z" } : Jvm.MethodName)), (Jvm.Cond.static ({ cls := "PointsToModel", name := "isSign", desc := "(I)Z" } : Jvm.MethodName)), (Jvm.Cond.fieldLink "PointsToModel" (157 : Nat) "PointsToModel" "token" "I"), (Jvm.Cond.methodLink "PointsToModel" (160 : Nat) ({ cls := "PointsToModel", name := "isLetter", desc := "(I)Z" } : Jvm.MethodName)), (Jvm.Cond.static ({ cls := "PointsToModel", name := "isLetter", desc := "(I)Z" } : Jvm.MethodName)), (Jvm.Cond.methodLink "PointsToModel" (163 : Nat) ({ cls := "PointsToModel", name := "more", desc := "(II)I" } : Jvm.MethodName)), (Jvm.Cond.static ({ cls := "PointsToModel", name := "more", desc := "(II)I" } : Jvm.MethodName)), (Jvm.Cond.methodLink "PointsToModel" (167 : Nat) ({ cls := "PointsToModel", name := "word", desc := "(IIIIII)I" } : Jvm.MethodName)), (Jvm.Cond.static ({ cls := "PointsToModel", name := "word", desc := "(IIIIII)I" } : Jvm.MethodName)), (Jvm.Cond.methodLink "PointsToModel" (171 : Nat) ({ cls := "PointsToModel", name := "is", desc := "(I)Z" } : Jvm.MethodName)), (Jvm.Cond.instanceMethod ({ cls := "PointsToModel", name := "is", desc := "(I)Z" } : Jvm.MethodName)), (Jvm.Cond.selects "PointsToModel" ({ cls := "PointsToModel", name := "is", desc := "(I)Z" } : Jvm.MethodName) ({ cls := "PointsToModel", name := "is", desc := "(I)Z" } : Jvm.MethodName)), (Jvm.Cond.fieldLink "PointsToModel" (205 : Nat) "PointsToModel" "wrong" "I"), (Jvm.Cond.methodLink "PointsToModel" (208 : Nat) ({ cls := "PointsToModel", name := "stop", desc := "()V" } : Jvm.MethodName)), (Jvm.Cond.instanceMethod ({ cls := "PointsToModel", name := "stop", desc := "()V" } : Jvm.MethodName)), (Jvm.Cond.selects "PointsToModel" ({ cls := "PointsToModel", name := "stop", desc := "()V" } : Jvm.MethodName) ({ cls := "PointsToModel", name := "stop", desc := "()V" } : Jvm.MethodName)), (Jvm.Cond.methodLink "PointsToModel" (211 : Nat) ({ cls := "PointsToModel", name := "next", desc := "()V" } : Jvm.MethodName)), (Jvm.Cond.instanceMethod ({ cls := "PointsToModel", name := "next", desc := "()V" } : Jvm.MethodName)), (Jvm.Cond.selects "PointsToModel" ({ cls := "PointsToModel", name := "next", desc := "()V" } : Jvm.MethodName) ({ cls := "PointsToModel", name := "next", desc := "()V" } : Jvm.MethodName)), (Jvm.Cond.methodLink "PointsToModel" (174 : Nat) ({ cls := "PointsToModel", name := "isClass", desc := "()Z" } : Jvm.MethodName)), (Jvm.Cond.instanceMethod ({ cls := "PointsToModel", name := "isClass", desc := "()Z" } : Jvm.MethodName)), (Jvm.Cond.selects "PointsToModel" ({ cls := "PointsToModel", name := "isClass", desc := "()Z" } : Jvm.MethodName) ({ cls := "PointsToModel", name := "isClass", desc := "()Z" } : Jvm.MethodName)), (Jvm.Cond.methodLink "PointsToModel" (178 : Nat) ({ cls := "PointsToModel", name := "isField", desc := "()Z" } : Jvm.MethodName)), (Jvm.Cond.instanceMethod ({ cls := "PointsToModel", name := "isField", desc := "()Z" } : Jvm.MethodName)), (Jvm.Cond.selects "PointsToModel" ({ cls := "PointsToModel", name := "isField", desc := "()Z" } : Jvm.MethodName) ({ cls := "PointsToModel", name := "isField", desc := "()Z" } : Jvm.MethodName)), (Jvm.Cond.methodLink "PointsToModel" (181 : Nat) ({ cls := "PointsToModel", name := "isDef", desc := "()Z" } : Jvm.MethodName)), (Jvm.Cond.instanceMethod ({ cls := "PointsToModel", name := "isDef", desc := "()Z" } : Jvm.MethodName)), (Jvm.Cond.selects "PointsToModel" ({ cls := "PointsToModel", name := "isDef", desc := "()Z" } : Jvm.MethodName) ({ cls := "PointsToModel", name := "isDef", desc := "()Z" } : Jvm.MethodName)), (Jvm.Cond.methodLink "PointsToModel" (184 : Nat) ({ cls := "PointsToModel", name := "isNew", desc := "()Z" } : Jvm.MethodName)), (Jvm.Cond.instanceMethod ({ cls := "PointsToModel", name := "isNew", desc := "()Z" } : Jvm.MethodName)), (Jvm.Cond.selects "PointsToModel" ({ cls := "PointsToModel", name := "isNew", desc := "()Z" } : Jvm.MethodName) ({ cls := "PointsToModel", name := "isNew", desc := "()Z" } : Jvm.MethodName)), (Jvm.Cond.methodLink "PointsToModel" (187 : Nat) ({ cls := "PointsToModel", name := "isNull", desc := "()Z" } : Jvm.MethodName)), (Jvm.Cond.instanceMethod ({ cls := "PointsToModel", name := "isNull", desc := "()Z" } : Jvm.MethodName)), (Jvm.Cond.selects "PointsToModel" ({ cls := "PointsToModel", name := "isNull", desc := "()Z" } : Jvm.MethodName) ({ cls := "PointsToModel", name := "isNull", desc := "()Z" } : Jvm.MethodName)), (Jvm.Cond.methodLink "PointsToModel" (190 : Nat) ({ cls := "PointsToModel", name := "isIf", desc := "()Z" } : Jvm.MethodName)), (Jvm.Cond.instanceMethod ({ cls := "PointsToModel", name := "isIf", desc := "()Z" } : Jvm.MethodName)), (Jvm.Cond.selects "PointsToModel" ({ cls := "PointsToModel", name := "isIf", desc := "()Z" } : Jvm.MethodName) ({ cls := "PointsToModel", name := "isIf", desc := "()Z" } : Jvm.MethodName)), (Jvm.Cond.methodLink "PointsToModel" (193 : Nat) ({ cls := "PointsToModel", name := "isElse", desc := "()Z" } : Jvm.MethodName)), (Jvm.Cond.instanceMethod ({ cls := "PointsToModel", name := "isElse", desc := "()Z" } : Jvm.MethodName)), (Jvm.Cond.selects "PointsToModel" ({ cls := "PointsToModel", name := "isElse", desc := "()Z" } : Jvm.MethodName) ({ cls := "PointsToModel", name := "isElse", desc := "()Z" } : Jvm.MethodName)), (Jvm.Cond.methodLink "PointsToModel" (196 : Nat) ({ cls := "PointsToModel", name := "isWhile", desc := "()Z" } : Jvm.MethodName)), (Jvm.Cond.instanceMethod ({ cls := "PointsToModel", name := "isWhile", desc := "()Z" } : Jvm.MethodName)), (Jvm.Cond.selects "PointsToModel" ({ cls := "PointsToModel", name := "isWhile", desc := "()Z" } : Jvm.MethodName) ({ cls := "PointsToModel", name := "isWhile", desc := "()Z" } : Jvm.MethodName)), (Jvm.Cond.methodLink "PointsToModel" (199 : Nat) ({ cls := "PointsToModel", name := "isReturn", desc := "()Z" } : Jvm.MethodName)), (Jvm.Cond.instanceMethod ({ cls := "PointsToModel", name := "isReturn", desc := "()Z" } : Jvm.MethodName)), (Jvm.Cond.selects "PointsToModel" ({ cls := "PointsToModel", name := "isReturn", desc := "()Z" } : Jvm.MethodName) ({ cls := "PointsToModel", name := "isReturn", desc := "()Z" } : Jvm.MethodName)), (Jvm.Cond.methodLink "PointsToModel" (202 : Nat) ({ cls := "PointsToModel", name := "isThis", desc := "()Z" } : Jvm.MethodName)), (Jvm.Cond.instanceMethod ({ cls := "PointsToModel", name := "isThis", desc := "()Z" } : Jvm.MethodName)), (Jvm.Cond.selects "PointsToModel" ({ cls := "PointsToModel", name := "isThis", desc := "()Z" } : Jvm.MethodName) ({ cls := "PointsToModel", name := "isThis", desc := "()Z" } : Jvm.MethodName)), (Jvm.Cond.methodLink "PointsToModel" (214 : Nat) ({ cls := "PointsToModel", name := "isMark", desc := "(I)Z" } : Jvm.MethodName)), (Jvm.Cond.instanceMethod ({ cls := "PointsToModel", name := "isMark", desc := "(I)Z" } : Jvm.MethodName)), (Jvm.Cond.selects "PointsToModel" ({ cls := "PointsToModel", name := "isMark", desc := "(I)Z" } : Jvm.MethodName) ({ cls := "PointsToModel", name := "isMark", desc := "(I)Z" } : Jvm.MethodName)), (Jvm.Cond.methodLink "PointsToModel" (217 : Nat) ({ cls := "PointsToModel", name := "goOn", desc := "(Z)Z" } : Jvm.MethodName)), (Jvm.Cond.instanceMethod ({ cls := "PointsToModel", name := "goOn", desc := "(Z)Z" } : Jvm.MethodName)), (Jvm.Cond.selects "PointsToModel" ({ cls := "PointsToModel", name := "goOn", desc := "(Z)Z" } : Jvm.MethodName) ({ cls := "PointsToModel", name := "goOn", desc := "(Z)Z" } : Jvm.MethodName)), (Jvm.Cond.methodLink "PointsToModel" (228 : Nat) ({ cls := "PointsToModel", name := "other", desc := "()I" } : Jvm.MethodName)), (Jvm.Cond.instanceMethod ({ cls := "PointsToModel", name := "other", desc := "()I" } : Jvm.MethodName)), (Jvm.Cond.selects "PointsToModel" ({ cls := "PointsToModel", name := "other", desc := "()I" } : Jvm.MethodName) ({ cls := "PointsToModel", name := "other", desc := "()I" } : Jvm.MethodName)), (Jvm.Cond.methodLink "PointsToModel" (232 : Nat) ({ cls := "PointsToModel", name := "isName", desc := "()Z" } : Jvm.MethodName)), (Jvm.Cond.instanceMethod ({ cls := "PointsToModel", name := "isName", desc := "()Z" } : Jvm.MethodName)), (Jvm.Cond.selects "PointsToModel" ({ cls := "PointsToModel", name := "isName", desc := "()Z" } : Jvm.MethodName) ({ cls := "PointsToModel", name := "isName", desc := "()Z" } : Jvm.MethodName)), (Jvm.Cond.methodLink "PointsToModel" (235 : Nat) ({ cls := "PointsToModel", name := "findClass", desc := "(II)I" } : Jvm.MethodName)), (Jvm.Cond.instanceMethod ({ cls := "PointsToModel", name := "findClass", desc := "(II)I" } : Jvm.MethodName)), (Jvm.Cond.selects "PointsToModel" ({ cls := "PointsToModel", name := "findClass", desc := "(II)I" } : Jvm.MethodName) ({ cls := "PointsToModel", name := "findClass", desc := "(II)I" } : Jvm.MethodName)), (Jvm.Cond.methodLink "PointsToModel" (238 : Nat) ({ cls := "PointsToModel", name := "mark", desc := "(I)Z" } : Jvm.MethodName)), (Jvm.Cond.instanceMethod ({ cls := "PointsToModel", name := "mark", desc := "(I)Z" } : Jvm.MethodName)), (Jvm.Cond.selects "PointsToModel" ({ cls := "PointsToModel", name := "mark", desc := "(I)Z" } : Jvm.MethodName) ({ cls := "PointsToModel", name := "mark", desc := "(I)Z" } : Jvm.MethodName)), (Jvm.Cond.methodLink "PointsToModel" (241 : Nat) ({ cls := "PointsToModel", name := "findField", desc := "(II)I" } : Jvm.MethodName)), (Jvm.Cond.instanceMethod ({ cls := "PointsToModel", name := "findField", desc := "(II)I" } : Jvm.MethodName)), (Jvm.Cond.selects "PointsToModel" ({ cls := "PointsToModel", name := "findField", desc := "(II)I" } : Jvm.MethodName) ({ cls := "PointsToModel", name := "findField", desc := "(II)I" } : Jvm.MethodName)), (Jvm.Cond.methodLink "PointsToModel" (244 : Nat) ({ cls := "PointsToModel", name := "hasField", desc := "(III)Z" } : Jvm.MethodName)), (Jvm.Cond.instanceMethod ({ cls := "PointsToModel", name := "hasField", desc := "(III)Z" } : Jvm.MethodName)), (Jvm.Cond.selects "PointsToModel" ({ cls := "PointsToModel", name := "hasField", desc := "(III)Z" } : Jvm.MethodName) ({ cls := "PointsToModel", name := "hasField", desc := "(III)Z" } : Jvm.MethodName)), (Jvm.Cond.fieldLink "PointsToModel" (250 : Nat) "PointsToModel" "firstVar" "I"), (Jvm.Cond.methodLink "PointsToModel" (247 : Nat) ({ cls := "PointsToModel", name := "addVar", desc := "(I)I" } : Jvm.MethodName)), (Jvm.Cond.instanceMethod ({ cls := "PointsToModel", name := "addVar", desc := "(I)I" } : Jvm.MethodName)), (Jvm.Cond.selects "PointsToModel" ({ cls := "PointsToModel", name := "addVar", desc := "(I)I" } : Jvm.MethodName) ({ cls := "PointsToModel", name := "addVar", desc := "(I)I" } : Jvm.MethodName)), (Jvm.Cond.methodLink "PointsToModel" (224 : Nat) ({ cls := "PointsToModel", name := "declared", desc := "(IIIZ)I" } : Jvm.MethodName)), (Jvm.Cond.instanceMethod ({ cls := "PointsToModel", name := "declared", desc := "(IIIZ)I" } : Jvm.MethodName)), (Jvm.Cond.selects "PointsToModel" ({ cls := "PointsToModel", name := "declared", desc := "(IIIZ)I" } : Jvm.MethodName) ({ cls := "PointsToModel", name := "declared", desc := "(IIIZ)I" } : Jvm.MethodName)), (Jvm.Cond.methodLink "PointsToModel" (253 : Nat) ({ cls := "PointsToModel", name := "readParameters", desc := "(I)V" } : Jvm.MethodName)), (Jvm.Cond.instanceMethod ({ cls := "PointsToModel", name := "readParameters", desc := "(I)V" } : Jvm.MethodName)), (Jvm.Cond.selects "PointsToModel" ({ cls := "PointsToModel", name := "readParameters", desc := "(I)V" } : Jvm.MethodName) ({ cls := "PointsToModel", name := "readParameters", desc := "(I)V" } : Jvm.MethodName)), (Jvm.Cond.fieldLink "PointsToModel" (286 : Nat) "PointsToModel" "depth" "I"), (Jvm.Cond.methodLink "PointsToModel" (263 : Nat) ({ cls := "PointsToModel", name := "emit", desc := "(IIII)I" } : Jvm.MethodName)), (Jvm.Cond.instanceMethod ({ cls := "PointsToModel", name := "emit", desc := "(IIII)I" } : Jvm.MethodName)), (Jvm.Cond.selects "PointsToModel" ({ cls := "PointsToModel", name := "emit", desc := "(IIII)I" } : Jvm.MethodName) ({ cls := "PointsToModel", name := "emit", desc := "(IIII)I" } : Jvm.MethodName)), (Jvm.Cond.methodLink "PointsToModel" (289 : Nat) ({ cls := "PointsToModel", name := "aim", desc := "(I)V" } : Jvm.MethodName)), (Jvm.Cond.instanceMethod ({ cls := "PointsToModel", name := "aim", desc := "(I)V" } : Jvm.MethodName)), (Jvm.Cond.selects "PointsToModel" ({ cls := "PointsToModel", name := "aim", desc := "(I)V" } : Jvm.MethodName) ({ cls := "PointsToModel", name := "aim", desc := "(I)V" } : Jvm.MethodName)), (Jvm.Cond.methodLink "PointsToModel" (260 : Nat) ({ cls := "PointsToModel", name := "readVar", desc := "()I" } : Jvm.MethodName)), (Jvm.Cond.instanceMethod ({ cls := "PointsToModel", name := "readVar", desc := "()I" } : Jvm.MethodName)), (Jvm.Cond.selects "PointsToModel" ({ cls := "PointsToModel", name := "readVar", desc := "()I" } : Jvm.MethodName) ({ cls := "PointsToModel", name := "readVar", desc := "()I" } : Jvm.MethodName)), (Jvm.Cond.methodLink "PointsToModel" (276 : Nat) ({ cls := "PointsToModel", name := "readCall", desc := "(IIII)V" } : Jvm.MethodName)), (Jvm.Cond.instanceMethod ({ cls := "PointsToModel", name := "readCall", desc := "(IIII)V" } : Jvm.MethodName)), (Jvm.Cond.selects "PointsToModel" ({ cls := "PointsToModel", name := "readCall", desc := "(IIII)V" } : Jvm.MethodName) ({ cls := "PointsToModel", name := "readCall", desc := "(IIII)V" } : Jvm.MethodName)), (Jvm.Cond.fieldLink "PointsToModel" (257 : Nat) "PointsToModel" "askedCount" "I"), (Jvm.Cond.methodLink "PointsToModel" (267 : Nat) ({ cls := "PointsToModel", name := "ask", desc := "(I)V" } : Jvm.MethodName)), (Jvm.Cond.instanceMethod ({ cls := "PointsToModel", name := "ask", desc := "(I)V" } : Jvm.MethodName)), (Jvm.Cond.selects "PointsToModel" ({ cls := "PointsToModel", name := "ask", desc := "(I)V" } : Jvm.MethodName) ({ cls := "PointsToModel", name := "ask", desc := "(I)V" } : Jvm.MethodName)), (Jvm.Cond.methodLink "PointsToModel" (270 : Nat) ({ cls := "PointsToModel", name := "readNew", desc := "(I)V" } : Jvm.MethodName)), (Jvm.Cond.instanceMethod ({ cls := "PointsToModel", name := "readNew", desc := "(I)V" } : Jvm.MethodName)), (Jvm.Cond.selects "PointsToModel" ({ cls := "PointsToModel", name := "readNew", desc := "(I)V" } : Jvm.MethodName) ({ cls := "PointsToModel", name := "readNew", desc := "(I)V" } : Jvm.MethodName)), (Jvm.Cond.methodLink "PointsToModel" (273 : Nat) ({ cls := "PointsToModel", name := "readCast", desc := "(I)V" } : Jvm.MethodName)), (Jvm.Cond.instanceMethod ({ cls := "PointsToModel", name := "readCast", desc := "(I)V" } : Jvm.MethodName)), (Jvm.Cond.selects "PointsToModel" ({ cls := "PointsToModel", name := "readCast", desc := "(I)V" } : Jvm.MethodName) ({ cls := "PointsToModel", name := "readCast", desc := "(I)V" } : Jvm.MethodName)), (Jvm.Cond.methodLink "PointsToModel" (280 : Nat) ({ cls := "PointsToModel", name := "readMember", desc := "(I)V" } : Jvm.MethodName)), (Jvm.Cond.instanceMethod ({ cls := "PointsToModel", name := "readMember", desc := "(I)V" } : Jvm.MethodName)), (Jvm.Cond.selects "PointsToModel" ({ cls := "PointsToModel", name := "readMember", desc := "(I)V" } : Jvm.MethodName) ({ cls := "PointsToModel", name := "readMember", desc := "(I)V" } : Jvm.MethodName)), (Jvm.Cond.methodLink "PointsToModel" (283 : Nat) ({ cls := "PointsToModel", name := "readRight", desc := "(I)V" } : Jvm.MethodName)), (Jvm.Cond.instanceMethod ({ cls := "PointsToModel", name := "readRight", desc := "(I)V" } : Jvm.MethodName)), (Jvm.Cond.selects "PointsToModel" ({ cls := "PointsToModel", name := "readRight", desc := "(I)V" } : Jvm.MethodName) ({ cls := "PointsToModel", name := "readRight", desc := "(I)V" } : Jvm.MethodName)), (Jvm.Cond.methodLink "PointsToModel" (292 : Nat) ({ cls := "PointsToModel", name := "readClosing", desc := "()V" } : Jvm.MethodName)), (Jvm.Cond.instanceMethod ({ cls := "PointsToModel", name := "readClosing", desc := "()V" } : Jvm.MethodName)), (Jvm.Cond.selects "PointsToModel" ({ cls := "PointsToModel", name := "readClosing", desc := "()V" } : Jvm.MethodName) ({ cls := "PointsToModel", name := "readClosing", desc := "()V" } : Jvm.MethodName)), (Jvm.Cond.fieldLink "PointsToModel" (295 : Nat) "PointsToModel" "statements" "I"), (Jvm.Cond.methodLink "PointsToModel" (298 : Nat) ({ cls := "PointsToModel", name := "readOpening", desc := "()V" } : Jvm.MethodName)), (Jvm.Cond.instanceMethod ({ cls := "PointsToModel", name := "readOpening", desc := "()V" } : Jvm.MethodName)), (Jvm.Cond.selects "PointsToModel" ({ cls := "PointsToModel", name := "readOpening", desc := "()V" } : Jvm.MethodName) ({ cls := "PointsToModel", name := "readOpening", desc := "()V" } : Jvm.MethodName)), (Jvm.Cond.methodLink "PointsToModel" (301 : Nat) ({ cls := "PointsToModel", name := "readSimple", desc := "()V" } : Jvm.MethodName)), (Jvm.Cond.instanceMethod ({ cls := "PointsToModel", name := "readSimple", desc := "()V" } : Jvm.MethodName)), (Jvm.Cond.selects "PointsToModel" ({ cls := "PointsToModel", name := "readSimple", desc := "()V" } : Jvm.MethodName) ({ cls := "PointsToModel", name := "readSimple", desc := "()V" } : Jvm.MethodName)), (Jvm.Cond.methodLink "PointsToModel" (304 : Nat) ({ cls := "PointsToModel", name := "readHead", desc := "()V" } : Jvm.MethodName)), (Jvm.Cond.instanceMethod ({ cls := "PointsToModel", name := "readHead", desc := "()V" } : Jvm.MethodName)), (Jvm.Cond.selects "PointsToModel" ({ cls := "PointsToModel", name := "readHead", desc := "()V" } : Jvm.MethodName) ({ cls := "PointsToModel", name := "readHead", desc := "()V" } : Jvm.MethodName)), (Jvm.Cond.methodLink "PointsToModel" (307 : Nat) ({ cls := "PointsToModel", name := "readField", desc := "()V" } : Jvm.MethodName)), (Jvm.Cond.instanceMethod ({ cls := "PointsToModel", name := "readField", desc := "()V" } : Jvm.MethodName)), (Jvm.Cond.selects "PointsToModel" ({ cls := "PointsToModel", name := "readField", desc := "()V" } : Jvm.MethodName) ({ cls := "PointsToModel", name := "readField", desc := "()V" } : Jvm.MethodName)), (Jvm.Cond.methodLink "PointsToModel" (310 : Nat) ({ cls := "PointsToModel", name := "readMethodHead", desc := "()V" } : Jvm.MethodName)), (Jvm.Cond.instanceMethod ({ cls := "PointsToModel", name := "readMethodHead", desc := "()V" } : Jvm.MethodName)), (Jvm.Cond.selects "PointsToModel" ({ cls := "PointsToModel", name := "readMethodHead", desc := "()V" } : Jvm.MethodName) ({ cls := "PointsToModel", name := "readMethodHead", desc := "()V" } : Jvm.MethodName)), (Jvm.Cond.methodLink "PointsToModel" (313 : Nat) ({ cls := "PointsToModel", name := "readBody", desc := "()V" } : Jvm.MethodName)), (Jvm.Cond.instanceMethod ({ cls := "PointsToModel", name := "readBody", desc := "()V" } : Jvm.MethodName)), (Jvm.Cond.selects "PointsToModel" ({ cls := "PointsToModel", name := "readBody", desc := "()V" } : Jvm.MethodName) ({ cls := "PointsToModel", name := "readBody", desc := "()V" } : Jvm.MethodName)), (Jvm.Cond.methodLink "PointsToModel" (332 : Nat) ({ cls := "PointsToModel", name := "found", desc := "(IIII)I" } : Jvm.MethodName)), (Jvm.Cond.instanceMethod ({ cls := "PointsToModel", name := "found", desc := "(IIII)I" } : Jvm.MethodName)), (Jvm.Cond.selects "PointsToModel" ({ cls := "PointsToModel", name := "found", desc := "(IIII)I" } : Jvm.MethodName) ({ cls := "PointsToModel", name := "found", desc := "(IIII)I" } : Jvm.MethodName)), (Jvm.Cond.fieldLink "PointsToModel" (335 : Nat) "PointsToModel" "round" "I"), (Jvm.Cond.fieldLink "PointsToModel" (338 : Nat) "PointsToModel" "fresh" "Z"), (Jvm.Cond.methodLink "PointsToModel" (341 : Nat) ({ cls := "PointsToModel", name := "old", desc := "(I)Z" } : Jvm.MethodName)), (Jvm.Cond.instanceMethod ({ cls := "PointsToModel", name := "old", desc := "(I)Z" } : Jvm.MethodName)), (Jvm.Cond.selects "PointsToModel" ({ cls := "PointsToModel", name := "old", desc := "(I)Z" } : Jvm.MethodName) ({ cls := "PointsToModel", name := "old", desc := "(I)Z" } : Jvm.MethodName)), (Jvm.Cond.methodLink "PointsToModel" (344 : Nat) ({ cls := "PointsToModel", name := "addMay", desc := "(II)V" } : Jvm.MethodName)), (Jvm.Cond.instanceMethod ({ cls := "PointsToModel", name := "addMay", desc := "(II)V" } : Jvm.MethodName)), (Jvm.Cond.selects "PointsToModel" ({ cls := "PointsToModel", name := "addMay", desc := "(II)V" } : Jvm.MethodName) ({ cls := "PointsToModel", name := "addMay", desc := "(II)V" } : Jvm.MethodName)), (Jvm.Cond.methodLink "PointsToModel" (348 : Nat) ({ cls := "PointsToModel", name := "flow", desc := "(II)V" } : Jvm.MethodName)), (Jvm.Cond.instanceMethod ({ cls := "PointsToModel", name := "flow", desc := "(II)V" } : Jvm.MethodName)), (Jvm.Cond.selects "PointsToModel" ({ cls := "PointsToModel", name := "flow", desc := "(II)V" } : Jvm.MethodName) ({ cls := "PointsToModel", name := "flow", desc := "(II)V" } : Jvm.MethodName)), (Jvm.Cond.methodLink "PointsToModel" (351 : Nat) ({ cls := "PointsToModel", name := "doFields", desc := "(I)V" } : Jvm.MethodName)), (Jvm.Cond.instanceMethod ({ cls := "PointsToModel", name := "doFields", desc := "(I)V" } : Jvm.MethodName)), (Jvm.Cond.selects "PointsToModel" ({ cls := "PointsToModel", name := "doFields", desc := "(I)V" } : Jvm.MethodName) ({ cls := "PointsToModel", name := "doFields", desc := "(I)V" } : Jvm.MethodName)), (Jvm.Cond.methodLink "PointsToModel" (354 : Nat) ({ cls := "PointsToModel", name := "doCall", desc := "(I)V" } : Jvm.MethodName)), (Jvm.Cond.instanceMethod ({ cls := "PointsToModel", name := "doCall", desc := "(I)V" } : Jvm.MethodName)), (Jvm.Cond.selects "PointsToModel" ({ cls := "PointsToModel", name := "doCall", desc := "(I)V" } : Jvm.MethodName) ({ cls := "PointsToModel", name := "doCall", desc := "(I)V" } : Jvm.MethodName)), (Jvm.Cond.methodLink "PointsToModel" (357 : Nat) ({ cls := "PointsToModel", name := "below", desc := "(III)Z" } : Jvm.MethodName)), (Jvm.Cond.instanceMethod ({ cls := "PointsToModel", name := "below", desc := "(III)Z" } : Jvm.MethodName)), (Jvm.Cond.selects "PointsToModel" ({ cls := "PointsToModel", name := "below", desc := "(III)Z" } : Jvm.MethodName) ({ cls := "PointsToModel", name := "below", desc := "(III)Z" } : Jvm.MethodName)), (Jvm.Cond.fieldLink "PointsToModel" (360 : Nat) "PointsToModel" "rounds" "I"), (Jvm.Cond.methodLink "PointsToModel" (363 : Nat) ({ cls := "PointsToModel", name := "startMethod", desc := "()I" } : Jvm.MethodName)), (Jvm.Cond.instanceMethod ({ cls := "PointsToModel", name := "startMethod", desc := "()I" } : Jvm.MethodName)), (Jvm.Cond.selects "PointsToModel" ({ cls := "PointsToModel", name := "startMethod", desc := "()I" } : Jvm.MethodName) ({ cls := "PointsToModel", name := "startMethod", desc := "()I" } : Jvm.MethodName)), (Jvm.Cond.methodLink "PointsToModel" (366 : Nat) ({ cls := "PointsToModel", name := "doOne", desc := "(I)V" } : Jvm.MethodName)), (Jvm.Cond.instanceMethod ({ cls := "PointsToModel", name := "doOne", desc := "(I)V" } : Jvm.MethodName)), (Jvm.Cond.selects "PointsToModel" ({ cls := "PointsToModel", name := "doOne", desc := "(I)V" } : Jvm.MethodName) ({ cls := "PointsToModel", name := "doOne", desc := "(I)V" } : Jvm.MethodName)), (Jvm.Cond.methodLink "PointsToModel" (316 : Nat) ({ cls := "PointsToModel", name := "readClass", desc := "()V" } : Jvm.MethodName)), (Jvm.Cond.instanceMethod ({ cls := "PointsToModel", name := "readClass", desc := "()V" } : Jvm.MethodName)), (Jvm.Cond.selects "PointsToModel" ({ cls := "PointsToModel", name := "readClass", desc := "()V" } : Jvm.MethodName) ({ cls := "PointsToModel", name := "readClass", desc := "()V" } : Jvm.MethodName)), (Jvm.Cond.methodLink "PointsToModel" (319 : Nat) ({ cls := "PointsToModel", name := "settleNames", desc := "(I)V" } : Jvm.MethodName)), (Jvm.Cond.instanceMethod ({ cls := "PointsToModel", name := "settleNames", desc := "(I)V" } : Jvm.MethodName)), (Jvm.Cond.selects "PointsToModel" ({ cls := "PointsToModel", name := "settleNames", desc := "(I)V" } : Jvm.MethodName) ({ cls := "PointsToModel", name := "settleNames", desc := "(I)V" } : Jvm.MethodName)), (Jvm.Cond.fieldLink "PointsToModel" (322 : Nat) "PointsToModel" "has" "Z"), (Jvm.Cond.fieldLink "PointsToModel" (326 : Nat) "PointsToModel" "objects" "I"), (Jvm.Cond.methodLink "PointsToModel" (329 : Nat) ({ cls := "PointsToModel", name := "analyse", desc := "()V" } : Jvm.MethodName)), (Jvm.Cond.instanceMethod ({ cls := "PointsToModel", name := "analyse", desc := "()V" } : Jvm.MethodName)), (Jvm.Cond.selects "PointsToModel" ({ cls := "PointsToModel", name := "analyse", desc := "()V" } : Jvm.MethodName) ({ cls := "PointsToModel", name := "analyse", desc := "()V" } : Jvm.MethodName)), (Jvm.Cond.methodLink "PointsToModel" (369 : Nat) ({ cls := "PointsToModel", name := "isVar", desc := "(I)Z" } : Jvm.MethodName)), (Jvm.Cond.instanceMethod ({ cls := "PointsToModel", name := "isVar", desc := "(I)Z" } : Jvm.MethodName)), (Jvm.Cond.selects "PointsToModel" ({ cls := "PointsToModel", name := "isVar", desc := "(I)Z" } : Jvm.MethodName) ({ cls := "PointsToModel", name := "isVar", desc := "(I)Z" } : Jvm.MethodName)), (Jvm.Cond.methodLink "PointsToModel" (372 : Nat) ({ cls := "PointsToModel", name := "isSite", desc := "(I)Z" } : Jvm.MethodName)), (Jvm.Cond.instanceMethod ({ cls := "PointsToModel", name := "isSite", desc := "(I)Z" } : Jvm.MethodName)), (Jvm.Cond.selects "PointsToModel" ({ cls := "PointsToModel", name := "isSite", desc := "(I)Z" } : Jvm.MethodName) ({ cls := "PointsToModel", name := "isSite", desc := "(I)Z" } : Jvm.MethodName)), (Jvm.Cond.methodLink "PointsToModel" (375 : Nat) ({ cls := "PointsToModel", name := "there", desc := "(Z)Z" } : Jvm.MethodName)), (Jvm.Cond.instanceMethod ({ cls := "PointsToModel", name := "there", desc := "(Z)Z" } : Jvm.MethodName)), (Jvm.Cond.selects "PointsToModel" ({ cls := "PointsToModel", name := "there", desc := "(Z)Z" } : Jvm.MethodName) ({ cls := "PointsToModel", name := "there", desc := "(Z)Z" } : Jvm.MethodName)), (Jvm.Cond.methodLink "PointsToModel" (378 : Nat) ({ cls := "PointsToModel", name := "isMethod", desc := "(I)Z" } : Jvm.MethodName)), (Jvm.Cond.instanceMethod ({ cls := "PointsToModel", name := "isMethod", desc := "(I)Z" } : Jvm.MethodName)), (Jvm.Cond.selects "PointsToModel" ({ cls := "PointsToModel", name := "isMethod", desc := "(I)Z" } : Jvm.MethodName) ({ cls := "PointsToModel", name := "isMethod", desc := "(I)Z" } : Jvm.MethodName)), (Jvm.Cond.fieldLink "PointsToModel" (381 : Nat) "PointsToModel" "frames" "I"), (Jvm.Cond.methodLink "PointsToModel" (384 : Nat) ({ cls := "PointsToModel", name := "give", desc := "(II)V" } : Jvm.MethodName)), (Jvm.Cond.instanceMethod ({ cls := "PointsToModel", name := "give", desc := "(II)V" } : Jvm.MethodName)), (Jvm.Cond.selects "PointsToModel" ({ cls := "PointsToModel", name := "give", desc := "(II)V" } : Jvm.MethodName) ({ cls := "PointsToModel", name := "give", desc := "(II)V" } : Jvm.MethodName)), (Jvm.Cond.fieldLink "PointsToModel" (387 : Nat) "PointsToModel" "pc" "I"), (Jvm.Cond.methodLink "PointsToModel" (390 : Nat) ({ cls := "PointsToModel", name := "get", desc := "(I)I" } : Jvm.MethodName)), (Jvm.Cond.instanceMethod ({ cls := "PointsToModel", name := "get", desc := "(I)I" } : Jvm.MethodName)), (Jvm.Cond.selects "PointsToModel" ({ cls := "PointsToModel", name := "get", desc := "(I)I" } : Jvm.MethodName) ({ cls := "PointsToModel", name := "get", desc := "(I)I" } : Jvm.MethodName)), (Jvm.Cond.methodLink "PointsToModel" (393 : Nat) ({ cls := "PointsToModel", name := "classOf", desc := "(I)I" } : Jvm.MethodName)), (Jvm.Cond.instanceMethod ({ cls := "PointsToModel", name := "classOf", desc := "(I)I" } : Jvm.MethodName)), (Jvm.Cond.selects "PointsToModel" ({ cls := "PointsToModel", name := "classOf", desc := "(I)I" } : Jvm.MethodName) ({ cls := "PointsToModel", name := "classOf", desc := "(I)I" } : Jvm.MethodName)), (Jvm.Cond.methodLink "PointsToModel" (396 : Nat) ({ cls := "PointsToModel", name := "enter", desc := "(IIIII)V" } : Jvm.MethodName)), (Jvm.Cond.instanceMethod ({ cls := "PointsToModel", name := "enter", desc := "(IIIII)V" } : Jvm.MethodName)), (Jvm.Cond.selects "PointsToModel" ({ cls := "PointsToModel", name := "enter", desc := "(IIIII)V" } : Jvm.MethodName) ({ cls := "PointsToModel", name := "enter", desc := "(IIIII)V" } : Jvm.MethodName)), (Jvm.Cond.methodLink "PointsToModel" (400 : Nat) ({ cls := "PointsToModel", name := "runField", desc := "(I)V" } : Jvm.MethodName)), (Jvm.Cond.instanceMethod ({ cls := "PointsToModel", name := "runField", desc := "(I)V" } : Jvm.MethodName)), (Jvm.Cond.selects "PointsToModel" ({ cls := "PointsToModel", name := "runField", desc := "(I)V" } : Jvm.MethodName) ({ cls := "PointsToModel", name := "runField", desc := "(I)V" } : Jvm.MethodName)), (Jvm.Cond.methodLink "PointsToModel" (403 : Nat) ({ cls := "PointsToModel", name := "make", desc := "(I)I" } : Jvm.MethodName)), (Jvm.Cond.instanceMethod ({ cls := "PointsToModel", name := "make", desc := "(I)I" } : Jvm.MethodName)), (Jvm.Cond.selects "PointsToModel" ({ cls := "PointsToModel", name := "make", desc := "(I)I" } : Jvm.MethodName) ({ cls := "PointsToModel", name := "make", desc := "(I)I" } : Jvm.MethodName)), (Jvm.Cond.fieldLink "PointsToModel" (406 : Nat) "PointsToModel" "begun" "I"), (Jvm.Cond.methodLink "PointsToModel" (409 : Nat) ({ cls := "PointsToModel", name := "leave", desc := "(II)V" } : Jvm.MethodName)), (Jvm.Cond.instanceMethod ({ cls := "PointsToModel", name := "leave", desc := "(II)V" } : Jvm.MethodName)), (Jvm.Cond.selects "PointsToModel" ({ cls := "PointsToModel", name := "leave", desc := "(II)V" } : Jvm.MethodName) ({ cls := "PointsToModel", name := "leave", desc := "(II)V" } : Jvm.MethodName)), (Jvm.Cond.methodLink "PointsToModel" (412 : Nat) ({ cls := "PointsToModel", name := "runCall", desc := "(I)V" } : Jvm.MethodName)), (Jvm.Cond.instanceMethod ({ cls := "PointsToModel", name := "runCall", desc := "(I)V" } : Jvm.MethodName)), (Jvm.Cond.selects "PointsToModel" ({ cls := "PointsToModel", name := "runCall", desc := "(I)V" } : Jvm.MethodName) ({ cls := "PointsToModel", name := "runCall", desc := "(I)V" } : Jvm.MethodName)), (Jvm.Cond.methodLink "PointsToModel" (415 : Nat) ({ cls := "PointsToModel", name := "runPlain", desc := "(I)V" } : Jvm.MethodName)), (Jvm.Cond.instanceMethod ({ cls := "PointsToModel", name := "runPlain", desc := "(I)V" } : Jvm.MethodName)), (Jvm.Cond.selects "PointsToModel" ({ cls := "PointsToModel", name := "runPlain", desc := "(I)V" } : Jvm.MethodName) ({ cls := "PointsToModel", name := "runPlain", desc := "(I)V" } : Jvm.MethodName)), (Jvm.Cond.methodLink "PointsToModel" (418 : Nat) ({ cls := "PointsToModel", name := "step", desc := "()V" } : Jvm.MethodName)), (Jvm.Cond.instanceMethod ({ cls := "PointsToModel", name := "step", desc := "()V" } : Jvm.MethodName)), (Jvm.Cond.selects "PointsToModel" ({ cls := "PointsToModel", name := "step", desc := "()V" } : Jvm.MethodName) ({ cls := "PointsToModel", name := "step", desc := "()V" } : Jvm.MethodName))]
theorem gW11_in : ∀ w ∈ gW11 ++ gWT, w ∈ lw_tbl := fun w h => (List.mem_append.mp h).elim (xplaces (ps := [1132, 147, 148, 245, 1133, 1135, 1144, 1145, 1146, 1148, 1149, 1153, 1154, 1155, 1156, 1157, 1158, 1159, 1160, 1161, 1162, 1308, 1163, 1164, 1165, 1166, 1167, 1168, 1169, 1170, 1171, 1172, 1173, 1174, 1175, 1176, 1177, 1181, 1182, 1183, 1185, 1186, 1190, 1317, 131, 1318, 1320, 1322, 50, 1324, 1326, 51, 1134, 1151, 1139, 1140, 1138, 1136, 1344, 1345, 1137, 1347, 1348, 1365, 1366, 1362, 1363, 1368, 1370, 57, 1141, 1376, 1378, 59, 1340, 1342, 53, 1358, 1360, 56, 1384, 1386, 61, 1388, 1390, 62, 1392, 1394, 63, 1396, 1398, 64, 1400, 1402, 65, 1404, 1406, 66, 1408, 1410, 67, 1412, 1414, 68, 1416, 1418, 69, 1424, 1426, 71, 1372, 1374, 58, 1336, 1338, 52, 1380, 1382, 60, 1420, 1422, 70, 1428, 1430, 72, 1436, 1438, 74, 1440, 1442, 75, 1147, 1452, 1454, 78, 1448, 1450, 77, 1456, 1458, 79, 1143, 1464, 1466, 81, 1472, 1474, 83, 1480, 1482, 85, 1492, 1494, 88, 1150, 1504, 1506, 91, 1500, 1502, 90, 1508, 1510, 92, 1488, 1490, 87, 1496, 1498, 89, 1468, 1470, 82, 1142, 1476, 1478, 84, 1484, 1486, 86, 1354, 1356, 55, 1432, 1434, 73, 1444, 1446, 76, 1460, 1462, 80, 1524, 1526, 96, 1178, 1179, 1528, 1530, 97, 1536, 1538, 99, 1540, 1542, 100, 1544, 1546, 101, 1548, 1550, 102, 1552, 1554, 103, 1180, 1520, 1522, 95, 1532, 1534, 98, 1350, 1352, 54, 1512, 1514, 93, 1152, 1184, 1516, 1518, 94, 1564, 1566, 104, 1568, 1570, 105, 1572, 1574, 106, 1584, 1586, 107, 1187, 1616, 1618, 110, 1188, 1628, 1630, 113, 1636, 1638, 115, 1612, 1614, 109, 1644, 1646, 117, 1608, 1610, 108, 1189, 1624, 1626, 112, 1632, 1634, 114, 1640, 1642, 116, 1620, 1622, 111]) (by decide +kernel) w) (gWT_in w)
/-- PointsToLaw -/
def gW12 : List Cond := [(Jvm.Cond.methodLink "PointsToLaw" (7 : Nat) ({ cls := "PointsTo", name := "append", desc := "(JI)I" } : Jvm.MethodName)), (Jvm.Cond.initialized "PointsTo"), (Jvm.Cond.instanceMethod ({ cls := "PointsTo", name := "append", desc := "(JI)I" } : Jvm.MethodName)), (Jvm.Cond.selects "PointsTo" ({ cls := "PointsTo", name := "append", desc := "(JI)I" } : Jvm.MethodName) ({ cls := "PointsTo", name := "append", desc := "(JI)I" } : Jvm.MethodName)), (Jvm.Cond.methodLink "PointsToLaw" (17 : Nat) ({ cls := "PointsTo", name := "cut", desc := "(I)I" } : Jvm.MethodName)), (Jvm.Cond.instanceMethod ({ cls := "PointsTo", name := "cut", desc := "(I)I" } : Jvm.MethodName)), (Jvm.Cond.selects "PointsTo" ({ cls := "PointsTo", name := "cut", desc := "(I)I" } : Jvm.MethodName) ({ cls := "PointsTo", name := "cut", desc := "(I)I" } : Jvm.MethodName)), (Jvm.Cond.methodLink "PointsToLaw" (21 : Nat) ({ cls := "PointsTo", name := "read", desc := "()I" } : Jvm.MethodName)), (Jvm.Cond.instanceMethod ({ cls := "PointsTo", name := "read", desc := "()I" } : Jvm.MethodName)), (Jvm.Cond.selects "PointsTo" ({ cls := "PointsTo", name := "read", desc := "()I" } : Jvm.MethodName) ({ cls := "PointsTo", name := "read", desc := "()I" } : Jvm.MethodName)), (Jvm.Cond.methodLink "PointsToLaw" (25 : Nat) ({ cls := "PointsTo", name := "may", desc := "(II)I" } : Jvm.MethodName)), (Jvm.Cond.instanceMethod ({ cls := "PointsTo", name := "may", desc := "(II)I" } : Jvm.MethodName)), (Jvm.Cond.selects "PointsTo" ({ cls := "PointsTo", name := "may", desc := "(II)I" } : Jvm.MethodName) ({ cls := "PointsTo", name := "may", desc := "(II)I" } : Jvm.MethodName)), (Jvm.Cond.methodLink "PointsToLaw" (31 : Nat) ({ cls := "PointsTo", name := "holds", desc := "(III)I" } : Jvm.MethodName)), (Jvm.Cond.instanceMethod ({ cls := "PointsTo", name := "holds", desc := "(III)I" } : Jvm.MethodName)), (Jvm.Cond.selects "PointsTo" ({ cls := "PointsTo", name := "holds", desc := "(III)I" } : Jvm.MethodName) ({ cls := "PointsTo", name := "holds", desc := "(III)I" } : Jvm.MethodName)), (Jvm.Cond.methodLink "PointsToLaw" (35 : Nat) ({ cls := "PointsTo", name := "goes", desc := "(II)I" } : Jvm.MethodName)), (Jvm.Cond.instanceMethod ({ cls := "PointsTo", name := "goes", desc := "(II)I" } : Jvm.MethodName)), (Jvm.Cond.selects "PointsTo" ({ cls := "PointsTo", name := "goes", desc := "(II)I" } : Jvm.MethodName) ({ cls := "PointsTo", name := "goes", desc := "(II)I" } : Jvm.MethodName)), (Jvm.Cond.methodLink "PointsToLaw" (38 : Nat) ({ cls := "PointsTo", name := "reached", desc := "(I)I" } : Jvm.MethodName)), (Jvm.Cond.instanceMethod ({ cls := "PointsTo", name := "reached", desc := "(I)I" } : Jvm.MethodName)), (Jvm.Cond.selects "PointsTo" ({ cls := "PointsTo", name := "reached", desc := "(I)I" } : Jvm.MethodName) ({ cls := "PointsTo", name := "reached", desc := "(I)I" } : Jvm.MethodName)), (Jvm.Cond.methodLink "PointsToLaw" (41 : Nat) ({ cls := "PointsTo", name := "safe", desc := "(I)I" } : Jvm.MethodName)), (Jvm.Cond.instanceMethod ({ cls := "PointsTo", name := "safe", desc := "(I)I" } : Jvm.MethodName)), (Jvm.Cond.selects "PointsTo" ({ cls := "PointsTo", name := "safe", desc := "(I)I" } : Jvm.MethodName) ({ cls := "PointsTo", name := "safe", desc := "(I)I" } : Jvm.MethodName)), (Jvm.Cond.methodLink "PointsToLaw" (44 : Nat) ({ cls := "PointsTo", name := "alias", desc := "(II)I" } : Jvm.MethodName)), (Jvm.Cond.instanceMethod ({ cls := "PointsTo", name := "alias", desc := "(II)I" } : Jvm.MethodName)), (Jvm.Cond.selects "PointsTo" ({ cls := "PointsTo", name := "alias", desc := "(II)I" } : Jvm.MethodName) ({ cls := "PointsTo", name := "alias", desc := "(II)I" } : Jvm.MethodName)), (Jvm.Cond.methodLink "PointsToLaw" (47 : Nat) ({ cls := "PointsTo", name := "method", desc := "(II)I" } : Jvm.MethodName)), (Jvm.Cond.instanceMethod ({ cls := "PointsTo", name := "method", desc := "(II)I" } : Jvm.MethodName)), (Jvm.Cond.selects "PointsTo" ({ cls := "PointsTo", name := "method", desc := "(II)I" } : Jvm.MethodName) ({ cls := "PointsTo", name := "method", desc := "(II)I" } : Jvm.MethodName)), (Jvm.Cond.methodLink "PointsToLaw" (50 : Nat) ({ cls := "PointsTo", name := "run", desc := "()I" } : Jvm.MethodName)), (Jvm.Cond.instanceMethod ({ cls := "PointsTo", name := "run", desc := "()I" } : Jvm.MethodName)), (Jvm.Cond.selects "PointsTo" ({ cls := "PointsTo", name := "run", desc := "()I" } : Jvm.MethodName) ({ cls := "PointsTo", name := "run", desc := "()I" } : Jvm.MethodName)), (Jvm.Cond.methodLink "PointsToLaw" (57 : Nat) ({ cls := "PointsTo", name := "seen", desc := "(II)I" } : Jvm.MethodName)), (Jvm.Cond.instanceMethod ({ cls := "PointsTo", name := "seen", desc := "(II)I" } : Jvm.MethodName)), (Jvm.Cond.selects "PointsTo" ({ cls := "PointsTo", name := "seen", desc := "(II)I" } : Jvm.MethodName) ({ cls := "PointsTo", name := "seen", desc := "(II)I" } : Jvm.MethodName)), (Jvm.Cond.methodLink "PointsToLaw" (60 : Nat) ({ cls := "PointsTo", name := "count", desc := "(I)I" } : Jvm.MethodName)), (Jvm.Cond.instanceMethod ({ cls := "PointsTo", name := "count", desc := "(I)I" } : Jvm.MethodName)), (Jvm.Cond.selects "PointsTo" ({ cls := "PointsTo", name := "count", desc := "(I)I" } : Jvm.MethodName) ({ cls := "PointsTo", name := "count", desc := "(I)I" } : Jvm.MethodName)), (Jvm.Cond.classLink "PointsToLaw" (8 : Nat) "PointsTo"), (Jvm.Cond.instantiable "PointsTo" (8 : Nat)), (Jvm.Cond.methodLink "PointsToLaw" (63 : Nat) ({ cls := "PointsTo", name := "<init>", desc := "()V" } : Jvm.MethodName)), (Jvm.Cond.instanceMethod ({ cls := "PointsTo", name := "<init>", desc := "()V" } : Jvm.MethodName)), (Jvm.Cond.classLink "PointsToLaw" (64 : Nat) "PointsToModel"), (Jvm.Cond.instantiable "PointsToModel" (58 : Nat)), (Jvm.Cond.initialized "PointsToModel"), (Jvm.Cond.methodLink "PointsToLaw" (66 : Nat) ({ cls := "PointsToModel", name := "<init>", desc := "()V" } : Jvm.MethodName)), (Jvm.Cond.instanceMethod ({ cls := "PointsToModel", name := "<init>", desc := "()V" } : Jvm.MethodName)), (Jvm.Cond.arrayClass Jvm.ClassFile.FieldType.long), (Jvm.Cond.constantLong "PointsToLaw" (67 : Nat) (4294967295 : Int64)), (Jvm.Cond.methodLink "PointsToLaw" (69 : Nat) ({ cls := "PointsToLaw", name := "append", desc := "(LPointsTo;JI[J)I" } : Jvm.MethodName)), (Jvm.Cond.initialized "PointsToLaw"), (Jvm.Cond.static ({ cls := "PointsToLaw", name := "append", desc := "(LPointsTo;JI[J)I" } : Jvm.MethodName)), (Jvm.Cond.methodLink "PointsToLaw" (74 : Nat) ({ cls := "PointsToModel", name := "append", desc := "(JI)I" } : Jvm.MethodName)), (Jvm.Cond.instanceMethod ({ cls := "PointsToModel", name := "append", desc := "(JI)I" } : Jvm.MethodName)), (Jvm.Cond.selects "PointsToModel" ({ cls := "PointsToModel", name := "append", desc := "(JI)I" } : Jvm.MethodName) ({ cls := "PointsToModel", name := "append", desc := "(JI)I" } : Jvm.MethodName)), (Jvm.Cond.methodLink "PointsToLaw" (75 : Nat) ({ cls := "PointsToModel", name := "thrown", desc := "()I" } : Jvm.MethodName)), (Jvm.Cond.instanceMethod ({ cls := "PointsToModel", name := "thrown", desc := "()I" } : Jvm.MethodName)), (Jvm.Cond.selects "PointsToModel" ({ cls := "PointsToModel", name := "thrown", desc := "()I" } : Jvm.MethodName) ({ cls := "PointsToModel", name := "thrown", desc := "()I" } : Jvm.MethodName)), (Jvm.Cond.methodLink "PointsToLaw" (78 : Nat) ({ cls := "PointsToLaw", name := "cut", desc := "(LPointsTo;I[J)I" } : Jvm.MethodName)), (Jvm.Cond.static ({ cls := "PointsToLaw", name := "cut", desc := "(LPointsTo;I[J)I" } : Jvm.MethodName)), (Jvm.Cond.methodLink "PointsToLaw" (81 : Nat) ({ cls := "PointsToModel", name := "cut", desc := "(I)I" } : Jvm.MethodName)), (Jvm.Cond.instanceMethod ({ cls := "PointsToModel", name := "cut", desc := "(I)I" } : Jvm.MethodName)), (Jvm.Cond.selects "PointsToModel" ({ cls := "PointsToModel", name := "cut", desc := "(I)I" } : Jvm.MethodName) ({ cls := "PointsToModel", name := "cut", desc := "(I)I" } : Jvm.MethodName)), (Jvm.Cond.methodLink "PointsToLaw" (82 : Nat) ({ cls := "PointsToLaw", name := "read", desc := "(LPointsTo;[J)I" } : Jvm.MethodName)), (Jvm.Cond.static ({ cls := "PointsToLaw", name := "read", desc := "(LPointsTo;[J)I" } : Jvm.MethodName)), (Jvm.Cond.methodLink "PointsToLaw" (85 : Nat) ({ cls := "PointsToModel", name := "read", desc := "()I" } : Jvm.MethodName)), (Jvm.Cond.instanceMethod ({ cls := "PointsToModel", name := "read", desc := "()I" } : Jvm.MethodName)), (Jvm.Cond.selects "PointsToModel" ({ cls := "PointsToModel", name := "read", desc := "()I" } : Jvm.MethodName) ({ cls := "PointsToModel", name := "read", desc := "()I" } : Jvm.MethodName)), (Jvm.Cond.methodLink "PointsToLaw" (86 : Nat) ({ cls := "PointsTo", name := "fault", desc := "()I" } : Jvm.MethodName)), (Jvm.Cond.instanceMethod ({ cls := "PointsTo", name := "fault", desc := "()I" } : Jvm.MethodName)), (Jvm.Cond.selects "PointsTo" ({ cls := "PointsTo", name := "fault", desc := "()I" } : Jvm.MethodName) ({ cls := "PointsTo", name := "fault", desc := "()I" } : Jvm.MethodName)), (Jvm.Cond.methodLink "PointsToLaw" (89 : Nat) ({ cls := "PointsToModel", name := "fault", desc := "()I" } : Jvm.MethodName)), (Jvm.Cond.instanceMethod ({ cls := "PointsToModel", name := "fault", desc := "()I" } : Jvm.MethodName)), (Jvm.Cond.selects "PointsToModel" ({ cls := "PointsToModel", name := "fault", desc := "()I" } : Jvm.MethodName) ({ cls := "PointsToModel", name := "fault", desc := "()I" } : Jvm.MethodName)), (Jvm.Cond.methodLink "PointsToLaw" (90 : Nat) ({ cls := "PointsToLaw", name := "may", desc := "(LPointsTo;II[J)I" } : Jvm.MethodName)), (Jvm.Cond.static ({ cls := "PointsToLaw", name := "may", desc := "(LPointsTo;II[J)I" } : Jvm.MethodName)), (Jvm.Cond.methodLink "PointsToLaw" (93 : Nat) ({ cls := "PointsToModel", name := "may", desc := "(II)I" } : Jvm.MethodName)), (Jvm.Cond.instanceMethod ({ cls := "PointsToModel", name := "may", desc := "(II)I" } : Jvm.MethodName)), (Jvm.Cond.selects "PointsToModel" ({ cls := "PointsToModel", name := "may", desc := "(II)I" } : Jvm.MethodName) ({ cls := "PointsToModel", name := "may", desc := "(II)I" } : Jvm.MethodName)), (Jvm.Cond.methodLink "PointsToLaw" (94 : Nat) ({ cls := "PointsToLaw", name := "holds", desc := "(LPointsTo;III[J)I" } : Jvm.MethodName)), (Jvm.Cond.static ({ cls := "PointsToLaw", name := "holds", desc := "(LPointsTo;III[J)I" } : Jvm.MethodName)), (Jvm.Cond.methodLink "PointsToLaw" (97 : Nat) ({ cls := "PointsToModel", name := "holds", desc := "(III)I" } : Jvm.MethodName)), (Jvm.Cond.instanceMethod ({ cls := "PointsToModel", name := "holds", desc := "(III)I" } : Jvm.MethodName)), (Jvm.Cond.selects "PointsToModel" ({ cls := "PointsToModel", name := "holds", desc := "(III)I" } : Jvm.MethodName) ({ cls := "PointsToModel", name := "holds", desc := "(III)I" } : Jvm.MethodName)), (Jvm.Cond.methodLink "PointsToLaw" (98 : Nat) ({ cls := "PointsToLaw", name := "goes", desc := "(LPointsTo;II[J)I" } : Jvm.MethodName)), (Jvm.Cond.static ({ cls := "PointsToLaw", name := "goes", desc := "(LPointsTo;II[J)I" } : Jvm.MethodName)), (Jvm.Cond.methodLink "PointsToLaw" (100 : Nat) ({ cls := "PointsToModel", name := "goes", desc := "(II)I" } : Jvm.MethodName)), (Jvm.Cond.instanceMethod ({ cls := "PointsToModel", name := "goes", desc := "(II)I" } : Jvm.MethodName)), (Jvm.Cond.selects "PointsToModel" ({ cls := "PointsToModel", name := "goes", desc := "(II)I" } : Jvm.MethodName) ({ cls := "PointsToModel", name := "goes", desc := "(II)I" } : Jvm.MethodName)), (Jvm.Cond.methodLink "PointsToLaw" (101 : Nat) ({ cls := "PointsToLaw", name := "reached", desc := "(LPointsTo;I[J)I" } : Jvm.MethodName)), (Jvm.Cond.static ({ cls := "PointsToLaw", name := "reached", desc := "(LPointsTo;I[J)I" } : Jvm.MethodName)), (Jvm.Cond.methodLink "PointsToLaw" (103 : Nat) ({ cls := "PointsToModel", name := "reached", desc := "(I)I" } : Jvm.MethodName)), (Jvm.Cond.instanceMethod ({ cls := "PointsToModel", name := "reached", desc := "(I)I" } : Jvm.MethodName)), (Jvm.Cond.selects "PointsToModel" ({ cls := "PointsToModel", name := "reached", desc := "(I)I" } : Jvm.MethodName) ({ cls := "PointsToModel", name := "reached", desc := "(I)I" } : Jvm.MethodName)), (Jvm.Cond.methodLink "PointsToLaw" (104 : Nat) ({ cls := "PointsToLaw", name := "safe", desc := "(LPointsTo;I[J)I" } : Jvm.MethodName)), (Jvm.Cond.static ({ cls := "PointsToLaw", name := "safe", desc := "(LPointsTo;I[J)I" } : Jvm.MethodName)), (Jvm.Cond.methodLink "PointsToLaw" (106 : Nat) ({ cls := "PointsToModel", name := "safe", desc := "(I)I" } : Jvm.MethodName)), (Jvm.Cond.instanceMethod ({ cls := "PointsToModel", name := "safe", desc := "(I)I" } : Jvm.MethodName)), (Jvm.Cond.selects "PointsToModel" ({ cls := "PointsToModel", name := "safe", desc := "(I)I" } : Jvm.MethodName) ({ cls := "PointsToModel", name := "safe", desc := "(I)I" } : Jvm.MethodName)), (Jvm.Cond.methodLink "PointsToLaw" (107 : Nat) ({ cls := "PointsToLaw", name := "alias", desc := "(LPointsTo;II[J)I" } : Jvm.MethodName)), (Jvm.Cond.static ({ cls := "PointsToLaw", name := "alias", desc := "(LPointsTo;II[J)I" } : Jvm.MethodName)), (Jvm.Cond.methodLink "PointsToLaw" (109 : Nat) ({ cls := "PointsToModel", name := "alias", desc := "(II)I" } : Jvm.MethodName)), (Jvm.Cond.instanceMethod ({ cls := "PointsToModel", name := "alias", desc := "(II)I" } : Jvm.MethodName)), (Jvm.Cond.selects "PointsToModel" ({ cls := "PointsToModel", name := "alias", desc := "(II)I" } : Jvm.MethodName) ({ cls := "PointsToModel", name := "alias", desc := "(II)I" } : Jvm.MethodName)), (Jvm.Cond.methodLink "PointsToLaw" (110 : Nat) ({ cls := "PointsToLaw", name := "method", desc := "(LPointsTo;II[J)I" } : Jvm.MethodName)), (Jvm.Cond.static ({ cls := "PointsToLaw", name := "method", desc := "(LPointsTo;II[J)I" } : Jvm.MethodName)), (Jvm.Cond.methodLink "PointsToLaw" (112 : Nat) ({ cls := "PointsToModel", name := "method", desc := "(II)I" } : Jvm.MethodName)), (Jvm.Cond.instanceMethod ({ cls := "PointsToModel", name := "method", desc := "(II)I" } : Jvm.MethodName)), (Jvm.Cond.selects "PointsToModel" ({ cls := "PointsToModel", name := "method", desc := "(II)I" } : Jvm.MethodName) ({ cls := "PointsToModel", name := "method", desc := "(II)I" } : Jvm.MethodName)), (Jvm.Cond.methodLink "PointsToLaw" (113 : Nat) ({ cls := "PointsToLaw", name := "run", desc := "(LPointsTo;[J)I" } : Jvm.MethodName)), (Jvm.Cond.static ({ cls := "PointsToLaw", name := "run", desc := "(LPointsTo;[J)I" } : Jvm.MethodName)), (Jvm.Cond.methodLink "PointsToLaw" (115 : Nat) ({ cls := "PointsToModel", name := "run", desc := "()I" } : Jvm.MethodName)), (Jvm.Cond.instanceMethod ({ cls := "PointsToModel", name := "run", desc := "()I" } : Jvm.MethodName)), (Jvm.Cond.selects "PointsToModel" ({ cls := "PointsToModel", name := "run", desc := "()I" } : Jvm.MethodName) ({ cls := "PointsToModel", name := "run", desc := "()I" } : Jvm.MethodName)), (Jvm.Cond.methodLink "PointsToLaw" (116 : Nat) ({ cls := "PointsToLaw", name := "seen", desc := "(LPointsTo;II[J)I" } : Jvm.MethodName)), (Jvm.Cond.static ({ cls := "PointsToLaw", name := "seen", desc := "(LPointsTo;II[J)I" } : Jvm.MethodName)), (Jvm.Cond.methodLink "PointsToLaw" (118 : Nat) ({ cls := "PointsToModel", name := "seen", desc := "(II)I" } : Jvm.MethodName)), (Jvm.Cond.instanceMethod ({ cls := "PointsToModel", name := "seen", desc := "(II)I" } : Jvm.MethodName)), (Jvm.Cond.selects "PointsToModel" ({ cls := "PointsToModel", name := "seen", desc := "(II)I" } : Jvm.MethodName) ({ cls := "PointsToModel", name := "seen", desc := "(II)I" } : Jvm.MethodName)), (Jvm.Cond.methodLink "PointsToLaw" (119 : Nat) ({ cls := "PointsToLaw", name := "count", desc := "(LPointsTo;I[J)I" } : Jvm.MethodName)), (Jvm.Cond.static ({ cls := "PointsToLaw", name := "count", desc := "(LPointsTo;I[J)I" } : Jvm.MethodName)), (Jvm.Cond.methodLink "PointsToLaw" (121 : Nat) ({ cls := "PointsToModel", name := "count", desc := "(I)I" } : Jvm.MethodName)), (Jvm.Cond.instanceMethod ({ cls := "PointsToModel", name := "count", desc := "(I)I" } : Jvm.MethodName)), (Jvm.Cond.selects "PointsToModel" ({ cls := "PointsToModel", name := "count", desc := "(I)I" } : Jvm.MethodName) ({ cls := "PointsToModel", name := "count", desc := "(I)I" } : Jvm.MethodName))]
theorem gW12_in : ∀ w ∈ gW12 ++ gWT, w ∈ lw_tbl := fun w h => (List.mem_append.mp h).elim (xplaces (ps := [559, 119, 560, 561, 652, 653, 654, 659, 660, 661, 925, 926, 927, 958, 959, 960, 966, 967, 968, 977, 978, 979, 984, 985, 986, 995, 996, 997, 1006, 1007, 1008, 1017, 1018, 1019, 1116, 1117, 1118, 1123, 1124, 1125, 141, 142, 143, 144, 1127, 1128, 131, 1129, 1130, 1657, 1656, 554, 118, 555, 1313, 1314, 1315, 1309, 1310, 1311, 649, 650, 1328, 1329, 1330, 656, 657, 1332, 1333, 1334, 550, 551, 552, 1556, 1557, 1558, 921, 922, 1560, 1561, 1562, 955, 956, 1576, 1577, 1578, 963, 964, 1580, 1581, 1582, 974, 975, 1588, 1589, 1590, 981, 982, 1592, 1593, 1594, 992, 993, 1596, 1597, 1598, 1003, 1004, 1600, 1601, 1602, 1012, 1013, 1604, 1605, 1606, 1113, 1114, 1648, 1649, 1650, 1120, 1121, 1652, 1653, 1654]) (by decide +kernel) w) (gWT_in w)
/-- java/util/Arrays -/
def gW13 : List Cond := []
theorem gW13_in : ∀ w ∈ gW13 ++ gWT, w ∈ lw_tbl := fun w h => (List.mem_append.mp h).elim (xplaces (ps := []) (by decide +kernel) w) (gWT_in w)
end
section
/-! THE LINKED CODE, checked row by row: printed by wip/whole/gen.py -/
/-- java/lang/String.coder()B -/
def gR0 : List (Nat × Instr × xI) := [(0, .getstatic 38, (.getstatic 0, 3, 38, 0)), (3, .ifCond .eq 10, (.ifCond .eq 13, 3, 0, 0)), (6, .aload_n 0, (.aload 0, 1, 0, 0)), (7, .getfield 15, (.sastore, 3, 15, 0)), (10, .goto 4, (.goto 14, 3, 0, 0)), (13, .iconst 1, (.iconst 1, 1, 0, 0)), (14, .ireturn, (.ireturn, 1, 2, 0))]
set_option maxRecDepth 100000 in
theorem gK0 : gR0.all (fun r => @decide _ (xrowD (gW0 ++ gWT) gCl gTy gTf gNf gMc "PointsTo" gY gLdcs gM0.1 gM0.2.1 gM0.2.2.2.1 gM0.2.2.2.2.1 r)) = true := by decide +kernel
/-- java/lang/String.length()I -/
def gR1 : List (Nat × Instr × xI) := [(0, .aload_n 0, (.aload 0, 1, 0, 0)), (1, .getfield 9, (.saload, 3, 9, 0)), (4, .arraylength, (.arraylength, 1, 0, 0)), (5, .aload_n 0, (.aload 0, 1, 0, 0)), (6, .invokevirtual 335, (.invokeinterface 0 335, 3, 1, 1)), (9, .ishr, (.ishr, 1, 0, 0)), (10, .ireturn, (.ireturn, 1, 0, 0))]
set_option maxRecDepth 100000 in
theorem gK1 : gR1.all (fun r => @decide _ (xrowD (gW0 ++ gWT) gCl gTy gTf gNf gMc "PointsTo" gY gLdcs gM1.1 gM1.2.1 gM1.2.2.2.1 gM1.2.2.2.2.1 r)) = true := by decide +kernel
/-- java/lang/String.isLatin1()Z -/
def gR2 : List (Nat × Instr × xI) := [(0, .getstatic 38, (.getstatic 0, 3, 38, 0)), (3, .ifCond .eq 14, (.ifCond .eq 17, 3, 0, 0)), (6, .aload_n 0, (.aload 0, 1, 0, 0)), (7, .getfield 15, (.sastore, 3, 15, 0)), (10, .ifCond .ne 7, (.ifCond .ne 17, 3, 0, 0)), (13, .iconst 1, (.iconst 1, 1, 0, 0)), (14, .goto 4, (.goto 18, 3, 0, 0)), (17, .iconst 0, (.iconst 0, 1, 0, 0)), (18, .ireturn, (.ireturn, 1, 1, 0))]
set_option maxRecDepth 100000 in
theorem gK2 : gR2.all (fun r => @decide _ (xrowD (gW0 ++ gWT) gCl gTy gTf gNf gMc "PointsTo" gY gLdcs gM2.1 gM2.2.1 gM2.2.2.2.1 gM2.2.2.2.2.1 r)) = true := by decide +kernel
/-- jdk/internal/util/Preconditions.checkIndex(IILjava/util/function/BiFunction;)I -/
def gR3 : List (Nat × Instr × xI) := [(0, .iload_n 0, (.iload 0, 1, 0, 0)), (1, .ifCond .lt 8, (.ifCond .lt 9, 3, 0, 0)), (4, .iload_n 0, (.iload 0, 1, 0, 0)), (5, .iload_n 1, (.iload 1, 1, 0, 0)), (6, .if_icmp .lt 10, (.if_icmp .lt 16, 3, 0, 0)), (9, .aload_n 2, (.aload 2, 1, 0, 0)), (10, .iload_n 0, (.iload 0, 1, 0, 0)), (11, .iload_n 1, (.iload 1, 1, 0, 0)), (16, .iload_n 0, (.iload 0, 1, 0, 0)), (17, .ireturn, (.ireturn, 1, 0, 0))]
set_option maxRecDepth 100000 in
theorem gK3 : gR3.all (fun r => @decide _ (xrowD (gW1 ++ gWT) gCl gTy gTf gNf gMc "PointsTo" gY gLdcs gM3.1 gM3.2.1 gM3.2.2.2.1 gM3.2.2.2.2.1 r)) = true := by decide +kernel
/-- java/lang/String.checkIndex(II)V -/
def gR4 : List (Nat × Instr × xI) := [(0, .iload_n 0, (.iload 0, 1, 0, 0)), (1, .iload_n 1, (.iload 1, 1, 0, 0)), (2, .getstatic 1053, (.getstatic 1, 3, 1053, 0)), (5, .invokestatic 1059, (.invokeinterface 3 1059, 3, 3, 0)), (8, .pop, (.pop, 1, 0, 0)), (9, .return_, (.return_, 1, 0, 0))]
set_option maxRecDepth 100000 in
theorem gK4 : gR4.all (fun r => @decide _ (xrowD (gW0 ++ gWT) gCl gTy gTf gNf gMc "PointsTo" gY gLdcs gM4.1 gM4.2.1 gM4.2.2.2.1 gM4.2.2.2.2.1 r)) = true := by decide +kernel
/-- java/lang/StringLatin1.charAt([BI)C -/
def gR5 : List (Nat × Instr × xI) := [(0, .iload_n 1, (.iload 1, 1, 0, 0)), (1, .aload_n 0, (.aload 0, 1, 0, 0)), (2, .arraylength, (.arraylength, 1, 0, 0)), (3, .invokestatic 9, (.invokeinterface 4 9, 3, 2, 0)), (6, .aload_n 0, (.aload 0, 1, 0, 0)), (7, .iload_n 1, (.iload 1, 1, 0, 0)), (8, .baload, (.baload, 1, 0, 0)), (9, .sipush 255, (.iconst 255, 3, 0, 0)), (12, .iand, (.iand, 1, 0, 0)), (13, .i2c, (.i2c, 1, 0, 0)), (14, .ireturn, (.ireturn, 1, 3, 0))]
set_option maxRecDepth 100000 in
theorem gK5 : gR5.all (fun r => @decide _ (xrowD (gW2 ++ gWT) gCl gTy gTf gNf gMc "PointsTo" gY gLdcs gM5.1 gM5.2.1 gM5.2.2.2.1 gM5.2.2.2.2.1 r)) = true := by decide +kernel
/-- java/lang/String.charAt(I)C -/
def gR6 : List (Nat × Instr × xI) := [(0, .aload_n 0, (.aload 0, 1, 0, 0)), (1, .invokevirtual 492, (.invokeinterface 2 492, 3, 1, 1)), (4, .ifCond .eq 12, (.ifCond .eq 16, 3, 0, 0)), (7, .aload_n 0, (.aload 0, 1, 0, 0)), (8, .getfield 9, (.saload, 3, 9, 0)), (11, .iload_n 1, (.iload 1, 1, 0, 0)), (12, .invokestatic 495, (.invokeinterface 5 495, 3, 2, 0)), (15, .ireturn, (.ireturn, 1, 3, 0)), (16, .aload_n 0, (.aload 0, 1, 0, 0)), (17, .getfield 9, (.saload, 3, 9, 0)), (20, .iload_n 1, (.iload 1, 1, 0, 0)), (24, .ireturn, (.ireturn, 1, 3, 0))]
set_option maxRecDepth 100000 in
theorem gK6 : gR6.all (fun r => @decide _ (xrowD (gW0 ++ gWT) gCl gTy gTf gNf gMc "PointsTo" gY gLdcs gM6.1 gM6.2.1 gM6.2.2.2.1 gM6.2.2.2.2.1 r)) = true := by decide +kernel
/-- PointsTo$Tokens.withLetter(IC)I -/
def gR7 : List (Nat × Instr × xI) := [(0, .iload_n 0, (.iload 0, 1, 0, 0)), (1, .bipush 32, (.iconst 32, 2, 0, 0)), (3, .imul, (.imul, 1, 0, 0)), (4, .iload_n 1, (.iload 1, 1, 0, 0)), (5, .bipush 97, (.iconst 97, 2, 0, 0)), (7, .isub, (.isub, 1, 0, 0)), (8, .iconst 1, (.iconst 1, 1, 0, 0)), (9, .iadd, (.iadd, 1, 0, 0)), (10, .iadd, (.iadd, 1, 0, 0)), (11, .ireturn, (.ireturn, 1, 0, 0))]
set_option maxRecDepth 100000 in
theorem gK7 : gR7.all (fun r => @decide _ (xrowD (gW3 ++ gWT) gCl gTy gTf gNf gMc "PointsTo" gY gLdcs gM7.1 gM7.2.1 gM7.2.2.2.1 gM7.2.2.2.2.1 r)) = true := by decide +kernel
/-- PointsTo$Tokens.nameCode(Ljava/lang/String;)I -/
def gR8 : List (Nat × Instr × xI) := [(0, .iconst 0, (.iconst 0, 1, 0, 0)), (1, .istore_n 1, (.istore 1, 1, 0, 0)), (2, .iconst 0, (.iconst 0, 1, 0, 0)), (3, .istore_n 2, (.istore 2, 1, 0, 0)), (4, .iload_n 2, (.iload 2, 1, 0, 0)), (5, .aload_n 0, (.aload 0, 1, 0, 0)), (6, .invokevirtual 48, (.invokeinterface 1 48, 3, 1, 1)), (9, .if_icmp .ge 19, (.if_icmp .ge 28, 3, 0, 0)), (12, .iload_n 1, (.iload 1, 1, 0, 0)), (13, .aload_n 0, (.aload 0, 1, 0, 0)), (14, .iload_n 2, (.iload 2, 1, 0, 0)), (15, .invokevirtual 54, (.invokeinterface 6 54, 3, 2, 1)), (18, .invokestatic 58, (.invokeinterface 7 58, 3, 2, 0)), (21, .istore_n 1, (.istore 1, 1, 0, 0)), (22, .iinc 2 1, (.iinc 2 1, 3, 0, 0)), (25, .goto (-21), (.goto 4, 3, 0, 0)), (28, .iload_n 1, (.iload 1, 1, 0, 0)), (29, .ireturn, (.ireturn, 1, 0, 0))]
set_option maxRecDepth 100000 in
theorem gK8 : gR8.all (fun r => @decide _ (xrowD (gW3 ++ gWT) gCl gTy gTf gNf gMc "PointsTo" gY gLdcs gM8.1 gM8.2.1 gM8.2.2.2.1 gM8.2.2.2.2.1 r)) = true := by decide +kernel
/-- PointsTo$Tokens.<init>()V -/
def gR9 : List (Nat × Instr × xI) := [(0, .aload_n 0, (.aload 0, 1, 0, 0)), (1, .invokespecial 3, (.invokespecial 3, 3, 0, 0)), (4, .aload_n 0, (.aload 0, 1, 0, 0)), (5, .bipush 11, (.iconst 11, 2, 0, 0)), (7, .newarray .int, (.newarray .int, 2, 0, 0)), (9, .dup, (.dup, 1, 0, 0)), (10, .iconst 0, (.iconst 0, 1, 0, 0)), (11, .iconst (-1), (.iconst (-1), 1, 0, 0)), (12, .iastore, (.iastore, 1, 0, 0)), (13, .dup, (.dup, 1, 0, 0)), (14, .iconst 1, (.iconst 1, 1, 0, 0)), (15, .ldc 9, (.ldc 0, 2, 9, 0)), (17, .invokestatic 11, (.invokeinterface 8 11, 3, 1, 0)), (20, .iastore, (.iastore, 1, 0, 0)), (21, .dup, (.dup, 1, 0, 0)), (22, .iconst 2, (.iconst 2, 1, 0, 0)), (23, .ldc 17, (.ldc 1, 2, 17, 0)), (25, .invokestatic 11, (.invokeinterface 8 11, 3, 1, 0)), (28, .iastore, (.iastore, 1, 0, 0)), (29, .dup, (.dup, 1, 0, 0)), (30, .iconst 3, (.iconst 3, 1, 0, 0)), (31, .ldc 19, (.ldc 2, 2, 19, 0)), (33, .invokestatic 11, (.invokeinterface 8 11, 3, 1, 0)), (36, .iastore, (.iastore, 1, 0, 0)), (37, .dup, (.dup, 1, 0, 0)), (38, .iconst 4, (.iconst 4, 1, 0, 0)), (39, .ldc 21, (.ldc 3, 2, 21, 0)), (41, .invokestatic 11, (.invokeinterface 8 11, 3, 1, 0)), (44, .iastore, (.iastore, 1, 0, 0)), (45, .dup, (.dup, 1, 0, 0)), (46, .iconst 5, (.iconst 5, 1, 0, 0)), (47, .ldc 23, (.ldc 4, 2, 23, 0)), (49, .invokestatic 11, (.invokeinterface 8 11, 3, 1, 0)), (52, .iastore, (.iastore, 1, 0, 0)), (53, .dup, (.dup, 1, 0, 0)), (54, .bipush 6, (.iconst 6, 2, 0, 0)), (56, .ldc 25, (.ldc 5, 2, 25, 0)), (58, .invokestatic 11, (.invokeinterface 8 11, 3, 1, 0)), (61, .iastore, (.iastore, 1, 0, 0)), (62, .dup, (.dup, 1, 0, 0)), (63, .bipush 7, (.iconst 7, 2, 0, 0)), (65, .ldc 27, (.ldc 6, 2, 27, 0)), (67, .invokestatic 11, (.invokeinterface 8 11, 3, 1, 0)), (70, .iastore, (.iastore, 1, 0, 0)), (71, .dup, (.dup, 1, 0, 0)), (72, .bipush 8, (.iconst 8, 2, 0, 0)), (74, .ldc 29, (.ldc 7, 2, 29, 0)), (76, .invokestatic 11, (.invokeinterface 8 11, 3, 1, 0)), (79, .iastore, (.iastore, 1, 0, 0)), (80, .dup, (.dup, 1, 0, 0)), (81, .bipush 9, (.iconst 9, 2, 0, 0)), (83, .ldc 31, (.ldc 8, 2, 31, 0)), (85, .invokestatic 11, (.invokeinterface 8 11, 3, 1, 0)), (88, .iastore, (.iastore, 1, 0, 0)), (89, .dup, (.dup, 1, 0, 0)), (90, .bipush 10, (.iconst 10, 2, 0, 0)), (92, .ldc 33, (.ldc 9, 2, 33, 0)), (94, .invokestatic 11, (.invokeinterface 8 11, 3, 1, 0)), (97, .iastore, (.iastore, 1, 0, 0)), (98, .putfield 35, (.putfield 0, 3, 0, 6)), (101, .aload_n 0, (.aload 0, 1, 0, 0)), (102, .sipush 321, (.iconst 321, 3, 0, 0)), (105, .newarray .int, (.newarray .int, 2, 0, 0)), (107, .putfield 39, (.putfield 1, 3, 0, 6)), (110, .aload_n 0, (.aload 0, 1, 0, 0)), (111, .sipush 321, (.iconst 321, 3, 0, 0)), (114, .newarray .int, (.newarray .int, 2, 0, 0)), (116, .putfield 42, (.putfield 2, 3, 0, 6)), (119, .aload_n 0, (.aload 0, 1, 0, 0)), (120, .sipush 321, (.iconst 321, 3, 0, 0)), (123, .newarray .int, (.newarray .int, 2, 0, 0)), (125, .putfield 45, (.putfield 3, 3, 0, 6)), (128, .return_, (.return_, 1, 0, 0))]
set_option maxRecDepth 100000 in
theorem gK9 : gR9.all (fun r => @decide _ (xrowD (gW3 ++ gWT) gCl gTy gTf gNf gMc "PointsTo" gY gLdcs gM9.1 gM9.2.1 gM9.2.2.2.1 gM9.2.2.2.2.1 r)) = true := by decide +kernel
/-- PointsTo$Parser.<init>()V -/
def gR10 : List (Nat × Instr × xI) := [(0, .aload_n 0, (.aload 0, 1, 0, 0)), (1, .invokespecial 3, (.invokespecial 3, 3, 0, 0)), (4, .aload_n 0, (.aload 0, 1, 0, 0)), (5, .new 9, (.new 0, 3, 9, 0)), (8, .dup, (.dup, 1, 0, 0)), (9, .invokespecial 11, (.invokeinterface 9 11, 3, 1, 3)), (12, .putfield 12, (.putfield 0, 3, 1, 6)), (15, .return_, (.return_, 1, 0, 0))]
set_option maxRecDepth 100000 in
theorem gK10 : gR10.all (fun r => @decide _ (xrowD (gW4 ++ gWT) gCl gTy gTf gNf gMc "PointsTo" gY gLdcs gM10.1 gM10.2.1 gM10.2.2.2.1 gM10.2.2.2.2.1 r)) = true := by decide +kernel
/-- PointsTo$Facts.<init>()V -/
def gR11 : List (Nat × Instr × xI) := [(0, .aload_n 0, (.aload 0, 1, 0, 0)), (1, .invokespecial 3, (.invokespecial 3, 3, 0, 0)), (4, .aload_n 0, (.aload 0, 1, 0, 0)), (5, .bipush 48, (.iconst 48, 2, 0, 0)), (7, .bipush 12, (.iconst 12, 2, 0, 0)), (9, .multianewarray 9 2, (.multianewarray 6 0, 4, 9, 0)), (13, .putfield 11, (.putfield 0, 3, 2, 6)), (16, .aload_n 0, (.aload 0, 1, 0, 0)), (17, .bipush 12, (.iconst 12, 2, 0, 0)), (19, .bipush 10, (.iconst 10, 2, 0, 0)), (21, .multianewarray 9 2, (.multianewarray 6 0, 4, 9, 0)), (25, .putfield 16, (.putfield 1, 3, 2, 6)), (28, .aload_n 0, (.aload 0, 1, 0, 0)), (29, .bipush 10, (.iconst 10, 2, 0, 0)), (31, .newarray .int, (.newarray .int, 2, 0, 0)), (33, .putfield 19, (.putfield 2, 3, 2, 6)), (36, .aload_n 0, (.aload 0, 1, 0, 0)), (37, .bipush 96, (.iconst 96, 2, 0, 0)), (39, .bipush 12, (.iconst 12, 2, 0, 0)), (41, .multianewarray 9 2, (.multianewarray 6 0, 4, 9, 0)), (45, .putfield 23, (.putfield 3, 3, 2, 6)), (48, .return_, (.return_, 1, 0, 0))]
set_option maxRecDepth 100000 in
theorem gK11 : gR11.all (fun r => @decide _ (xrowD (gW5 ++ gWT) gCl gTy gTf gNf gMc "PointsTo" gY gLdcs gM11.1 gM11.2.1 gM11.2.2.2.1 gM11.2.2.2.2.1 r)) = true := by decide +kernel
/-- PointsTo$Machine.<init>()V -/
def gR12 : List (Nat × Instr × xI) := [(0, .aload_n 0, (.aload 0, 1, 0, 0)), (1, .invokespecial 3, (.invokespecial 3, 3, 0, 0)), (4, .aload_n 0, (.aload 0, 1, 0, 0)), (5, .bipush 48, (.iconst 48, 2, 0, 0)), (7, .bipush 12, (.iconst 12, 2, 0, 0)), (9, .multianewarray 9 2, (.multianewarray 6 0, 4, 9, 0)), (13, .putfield 11, (.putfield 0, 3, 3, 6)), (16, .aload_n 0, (.aload 0, 1, 0, 0)), (17, .bipush 30, (.iconst 30, 2, 0, 0)), (19, .newarray .int, (.newarray .int, 2, 0, 0)), (21, .putfield 16, (.putfield 1, 3, 3, 6)), (24, .aload_n 0, (.aload 0, 1, 0, 0)), (25, .bipush 30, (.iconst 30, 2, 0, 0)), (27, .bipush 8, (.iconst 8, 2, 0, 0)), (29, .multianewarray 9 2, (.multianewarray 6 0, 4, 9, 0)), (33, .putfield 20, (.putfield 2, 3, 3, 6)), (36, .aload_n 0, (.aload 0, 1, 0, 0)), (37, .iconst 4, (.iconst 4, 1, 0, 0)), (38, .bipush 48, (.iconst 48, 2, 0, 0)), (40, .multianewarray 9 2, (.multianewarray 6 0, 4, 9, 0)), (44, .putfield 23, (.putfield 3, 3, 3, 6)), (47, .return_, (.return_, 1, 0, 0))]
set_option maxRecDepth 100000 in
theorem gK12 : gR12.all (fun r => @decide _ (xrowD (gW6 ++ gWT) gCl gTy gTf gNf gMc "PointsTo" gY gLdcs gM12.1 gM12.2.1 gM12.2.2.2.1 gM12.2.2.2.2.1 r)) = true := by decide +kernel
/-- PointsTo$Method.<init>()V -/
def gR13 : List (Nat × Instr × xI) := [(0, .aload_n 0, (.aload 0, 1, 0, 0)), (1, .invokespecial 3, (.invokespecial 3, 3, 0, 0)), (4, .return_, (.return_, 1, 0, 0))]
set_option maxRecDepth 100000 in
theorem gK13 : gR13.all (fun r => @decide _ (xrowD (gW7 ++ gWT) gCl gTy gTf gNf gMc "PointsTo" gY gLdcs gM13.1 gM13.2.1 gM13.2.2.2.1 gM13.2.2.2.2.1 r)) = true := by decide +kernel
/-- PointsTo$Statement.<init>()V -/
def gR14 : List (Nat × Instr × xI) := [(0, .aload_n 0, (.aload 0, 1, 0, 0)), (1, .invokespecial 1, (.invokespecial 1, 3, 0, 0)), (4, .return_, (.return_, 1, 0, 0))]
set_option maxRecDepth 100000 in
theorem gK14 : gR14.all (fun r => @decide _ (xrowD (gW8 ++ gWT) gCl gTy gTf gNf gMc "PointsTo" gY gLdcs gM14.1 gM14.2.1 gM14.2.2.2.1 gM14.2.2.2.2.1 r)) = true := by decide +kernel
/-- PointsTo$Program.<init>()V -/
def gR15 : List (Nat × Instr × xI) := [(0, .aload_n 0, (.aload 0, 1, 0, 0)), (1, .invokespecial 3, (.invokespecial 3, 3, 0, 0)), (4, .aload_n 0, (.aload 0, 1, 0, 0)), (5, .bipush 6, (.iconst 6, 2, 0, 0)), (7, .newarray .int, (.newarray .int, 2, 0, 0)), (9, .putfield 9, (.putfield 0, 3, 6, 6)), (12, .aload_n 0, (.aload 0, 1, 0, 0)), (13, .bipush 6, (.iconst 6, 2, 0, 0)), (15, .newarray .int, (.newarray .int, 2, 0, 0)), (17, .putfield 15, (.putfield 1, 3, 6, 6)), (20, .aload_n 0, (.aload 0, 1, 0, 0)), (21, .bipush 6, (.iconst 6, 2, 0, 0)), (23, .newarray .int, (.newarray .int, 2, 0, 0)), (25, .putfield 18, (.putfield 2, 3, 6, 6)), (28, .aload_n 0, (.aload 0, 1, 0, 0)), (29, .bipush 8, (.iconst 8, 2, 0, 0)), (31, .newarray .int, (.newarray .int, 2, 0, 0)), (33, .putfield 21, (.putfield 3, 3, 6, 6)), (36, .aload_n 0, (.aload 0, 1, 0, 0)), (37, .bipush 48, (.iconst 48, 2, 0, 0)), (39, .newarray .int, (.newarray .int, 2, 0, 0)), (41, .putfield 24, (.putfield 4, 3, 6, 6)), (44, .aload_n 0, (.aload 0, 1, 0, 0)), (45, .bipush 10, (.iconst 10, 2, 0, 0)), (47, .anewarray 27, (.anewarray 7, 3, 27, 0)), (50, .putfield 29, (.putfield 5, 3, 6, 6)), (53, .aload_n 0, (.aload 0, 1, 0, 0)), (54, .bipush 40, (.iconst 40, 2, 0, 0)), (56, .anewarray 33, (.anewarray 8, 3, 33, 0)), (59, .putfield 35, (.putfield 6, 3, 6, 6)), (62, .aload_n 0, (.aload 0, 1, 0, 0)), (63, .bipush 12, (.iconst 12, 2, 0, 0)), (65, .newarray .int, (.newarray .int, 2, 0, 0)), (67, .putfield 39, (.putfield 7, 3, 6, 6)), (70, .aload_n 0, (.aload 0, 1, 0, 0)), (71, .bipush 8, (.iconst 8, 2, 0, 0)), (73, .newarray .int, (.newarray .int, 2, 0, 0)), (75, .putfield 42, (.putfield 8, 3, 6, 6)), (78, .aload_n 0, (.aload 0, 1, 0, 0)), (79, .iconst (-1), (.iconst (-1), 1, 0, 0)), (80, .putfield 45, (.putfield 17, 3, 6, 0)), (83, .iconst 0, (.iconst 0, 1, 0, 0)), (84, .istore_n 1, (.istore 1, 1, 0, 0)), (85, .iload_n 1, (.iload 1, 1, 0, 0)), (86, .bipush 10, (.iconst 10, 2, 0, 0)), (88, .if_icmp .ge 22, (.if_icmp .ge 110, 3, 0, 0)), (91, .aload_n 0, (.aload 0, 1, 0, 0)), (92, .getfield 29, (.getfield 5, 3, 6, 29)), (95, .iload_n 1, (.iload 1, 1, 0, 0)), (96, .new 27, (.new 4, 3, 27, 0)), (99, .dup, (.dup, 1, 0, 0)), (100, .invokespecial 49, (.invokeinterface 13 49, 3, 1, 3)), (103, .aastore, (.aastore, 1, 7, 4)), (104, .iinc 1 1, (.iinc 1 1, 3, 0, 0)), (107, .goto (-22), (.goto 85, 3, 0, 0)), (110, .iconst 0, (.iconst 0, 1, 0, 0)), (111, .istore_n 1, (.istore 1, 1, 0, 0)), (112, .iload_n 1, (.iload 1, 1, 0, 0)), (113, .bipush 40, (.iconst 40, 2, 0, 0)), (115, .if_icmp .ge 22, (.if_icmp .ge 137, 3, 0, 0)), (118, .aload_n 0, (.aload 0, 1, 0, 0)), (119, .getfield 35, (.getfield 6, 3, 6, 35)), (122, .iload_n 1, (.iload 1, 1, 0, 0)), (123, .new 33, (.new 5, 3, 33, 0)), (126, .dup, (.dup, 1, 0, 0)), (127, .invokespecial 50, (.invokeinterface 14 50, 3, 1, 3)), (130, .aastore, (.aastore, 1, 8, 5)), (131, .iinc 1 1, (.iinc 1 1, 3, 0, 0)), (134, .goto (-22), (.goto 112, 3, 0, 0)), (137, .return_, (.return_, 1, 0, 0))]
set_option maxRecDepth 100000 in
theorem gK15 : gR15.all (fun r => @decide _ (xrowD (gW9 ++ gWT) gCl gTy gTf gNf gMc "PointsTo" gY gLdcs gM15.1 gM15.2.1 gM15.2.2.2.1 gM15.2.2.2.2.1 r)) = true := by decide +kernel
/-- PointsTo.<init>()V -/
def gR16 : List (Nat × Instr × xI) := [(0, .aload_n 0, (.aload 0, 1, 0, 0)), (1, .invokespecial 1, (.invokespecial 1, 3, 0, 0)), (4, .aload_n 0, (.aload 0, 1, 0, 0)), (5, .sipush 320, (.iconst 320, 3, 0, 0)), (8, .newarray .char, (.newarray .char, 2, 3, 0)), (10, .putfield 9, (.putfield 0, 3, 7, 6)), (13, .aload_n 0, (.aload 0, 1, 0, 0)), (14, .new 13, (.new 1, 3, 13, 0)), (17, .dup, (.dup, 1, 0, 0)), (18, .invokespecial 15, (.invokeinterface 10 15, 3, 1, 3)), (21, .putfield 16, (.putfield 1, 3, 7, 6)), (24, .aload_n 0, (.aload 0, 1, 0, 0)), (25, .new 20, (.new 2, 3, 20, 0)), (28, .dup, (.dup, 1, 0, 0)), (29, .invokespecial 22, (.invokeinterface 11 22, 3, 1, 3)), (32, .putfield 23, (.putfield 2, 3, 7, 6)), (35, .aload_n 0, (.aload 0, 1, 0, 0)), (36, .new 27, (.new 3, 3, 27, 0)), (39, .dup, (.dup, 1, 0, 0)), (40, .invokespecial 29, (.invokeinterface 12 29, 3, 1, 3)), (43, .putfield 30, (.putfield 3, 3, 7, 6)), (46, .aload_n 0, (.aload 0, 1, 0, 0)), (47, .new 34, (.new 6, 3, 34, 0)), (50, .dup, (.dup, 1, 0, 0)), (51, .invokespecial 36, (.invokeinterface 15 36, 3, 1, 2)), (54, .putfield 37, (.putfield 4, 3, 7, 6)), (57, .aload_n 0, (.aload 0, 1, 0, 0)), (58, .new 34, (.new 6, 3, 34, 0)), (61, .dup, (.dup, 1, 0, 0)), (62, .invokespecial 36, (.invokeinterface 15 36, 3, 1, 2)), (65, .putfield 41, (.putfield 5, 3, 7, 6)), (68, .aload_n 0, (.aload 0, 1, 0, 0)), (69, .iconst (-1), (.iconst (-1), 1, 0, 0)), (70, .putfield 44, (.putfield 7, 3, 7, 0)), (73, .return_, (.return_, 1, 0, 0))]
set_option maxRecDepth 100000 in
theorem gK16 : gR16.all (fun r => @decide _ (xrowD (gW10 ++ gWT) gCl gTy gTf gNf gMc "PointsTo" gY gLdcs gM16.1 gM16.2.1 gM16.2.2.2.1 gM16.2.2.2.2.1 r)) = true := by decide +kernel
/-- PointsToModel.<init>()V -/
def gR17 : List (Nat × Instr × xI) := [(0, .aload_n 0, (.aload 0, 1, 0, 0)), (1, .invokespecial 1, (.invokespecial 1, 3, 0, 0)), (4, .aload_n 0, (.aload 0, 1, 0, 0)), (5, .sipush 320, (.iconst 320, 3, 0, 0)), (8, .newarray .int, (.newarray .int, 2, 0, 0)), (10, .putfield 7, (.putfield 0, 3, 8, 6)), (13, .aload_n 0, (.aload 0, 1, 0, 0)), (14, .iconst (-1), (.iconst (-1), 1, 0, 0)), (15, .putfield 13, (.putfield 2, 3, 8, 0)), (18, .aload_n 0, (.aload 0, 1, 0, 0)), (19, .iconst 4, (.iconst 4, 1, 0, 0)), (20, .newarray .int, (.newarray .int, 2, 0, 0)), (22, .putfield 17, (.putfield 11, 3, 8, 6)), (25, .aload_n 0, (.aload 0, 1, 0, 0)), (26, .iconst 4, (.iconst 4, 1, 0, 0)), (27, .newarray .int, (.newarray .int, 2, 0, 0)), (29, .putfield 20, (.putfield 12, 3, 8, 6)), (32, .aload_n 0, (.aload 0, 1, 0, 0)), (33, .bipush 48, (.iconst 48, 2, 0, 0)), (35, .newarray .int, (.newarray .int, 2, 0, 0)), (37, .putfield 23, (.putfield 13, 3, 8, 6)), (40, .aload_n 0, (.aload 0, 1, 0, 0)), (41, .bipush 20, (.iconst 20, 2, 0, 0)), (43, .newarray .int, (.newarray .int, 2, 0, 0)), (45, .putfield 26, (.putfield 15, 3, 8, 6)), (48, .aload_n 0, (.aload 0, 1, 0, 0)), (49, .bipush 20, (.iconst 20, 2, 0, 0)), (51, .newarray .int, (.newarray .int, 2, 0, 0)), (53, .putfield 29, (.putfield 16, 3, 8, 6)), (56, .aload_n 0, (.aload 0, 1, 0, 0)), (57, .iconst 2, (.iconst 2, 1, 0, 0)), (58, .newarray .int, (.newarray .int, 2, 0, 0)), (60, .putfield 32, (.putfield 20, 3, 8, 6)), (63, .aload_n 0, (.aload 0, 1, 0, 0)), (64, .iconst 2, (.iconst 2, 1, 0, 0)), (65, .newarray .int, (.newarray .int, 2, 0, 0)), (67, .putfield 35, (.putfield 21, 3, 8, 6)), (70, .aload_n 0, (.aload 0, 1, 0, 0)), (71, .iconst 2, (.iconst 2, 1, 0, 0)), (72, .newarray .int, (.newarray .int, 2, 0, 0)), (74, .putfield 38, (.putfield 22, 3, 8, 6)), (77, .aload_n 0, (.aload 0, 1, 0, 0)), (78, .iconst 2, (.iconst 2, 1, 0, 0)), (79, .newarray .int, (.newarray .int, 2, 0, 0)), (81, .putfield 41, (.putfield 23, 3, 8, 6)), (84, .aload_n 0, (.aload 0, 1, 0, 0)), (85, .iconst 2, (.iconst 2, 1, 0, 0)), (86, .newarray .int, (.newarray .int, 2, 0, 0)), (88, .putfield 44, (.putfield 24, 3, 8, 6)), (91, .aload_n 0, (.aload 0, 1, 0, 0)), (92, .iconst 2, (.iconst 2, 1, 0, 0)), (93, .newarray .int, (.newarray .int, 2, 0, 0)), (95, .putfield 47, (.putfield 25, 3, 8, 6)), (98, .aload_n 0, (.aload 0, 1, 0, 0)), (99, .iconst 2, (.iconst 2, 1, 0, 0)), (100, .newarray .int, (.newarray .int, 2, 0, 0)), (102, .putfield 50, (.putfield 26, 3, 8, 6)), (105, .aload_n 0, (.aload 0, 1, 0, 0)), (106, .iconst 2, (.iconst 2, 1, 0, 0)), (107, .newarray .int, (.newarray .int, 2, 0, 0)), (109, .putfield 53, (.putfield 27, 3, 8, 6)), (112, .aload_n 0, (.aload 0, 1, 0, 0)), (113, .bipush 12, (.iconst 12, 2, 0, 0)), (115, .newarray .int, (.newarray .int, 2, 0, 0)), (117, .putfield 56, (.putfield 28, 3, 8, 6)), (120, .aload_n 0, (.aload 0, 1, 0, 0)), (121, .bipush 12, (.iconst 12, 2, 0, 0)), (123, .newarray .int, (.newarray .int, 2, 0, 0)), (125, .putfield 59, (.putfield 29, 3, 8, 6)), (128, .aload_n 0, (.aload 0, 1, 0, 0)), (129, .bipush 96, (.iconst 96, 2, 0, 0)), (131, .newarray .boolean, (.newarray .boolean, 2, 1, 0)), (133, .putfield 62, (.putfield 30, 3, 8, 6)), (136, .aload_n 0, (.aload 0, 1, 0, 0)), (137, .bipush 16, (.iconst 16, 2, 0, 0)), (139, .newarray .int, (.newarray .int, 2, 0, 0)), (141, .putfield 66, (.putfield 31, 3, 8, 6)), (144, .aload_n 0, (.aload 0, 1, 0, 0)), (145, .bipush 20, (.iconst 20, 2, 0, 0)), (147, .newarray .int, (.newarray .int, 2, 0, 0)), (149, .putfield 69, (.putfield 32, 3, 8, 6)), (152, .aload_n 0, (.aload 0, 1, 0, 0)), (153, .bipush 20, (.iconst 20, 2, 0, 0)), (155, .newarray .int, (.newarray .int, 2, 0, 0)), (157, .putfield 72, (.putfield 33, 3, 8, 6)), (160, .aload_n 0, (.aload 0, 1, 0, 0)), (161, .bipush 20, (.iconst 20, 2, 0, 0)), (163, .newarray .int, (.newarray .int, 2, 0, 0)), (165, .putfield 75, (.putfield 34, 3, 8, 6)), (168, .aload_n 0, (.aload 0, 1, 0, 0)), (169, .bipush 20, (.iconst 20, 2, 0, 0)), (171, .newarray .int, (.newarray .int, 2, 0, 0)), (173, .putfield 78, (.putfield 35, 3, 8, 6)), (176, .aload_n 0, (.aload 0, 1, 0, 0)), (177, .bipush 20, (.iconst 20, 2, 0, 0)), (179, .newarray .int, (.newarray .int, 2, 0, 0)), (181, .putfield 81, (.putfield 36, 3, 8, 6)), (184, .aload_n 0, (.aload 0, 1, 0, 0)), (185, .bipush 24, (.iconst 24, 2, 0, 0)), (187, .newarray .int, (.newarray .int, 2, 0, 0)), (189, .putfield 84, (.putfield 37, 3, 8, 6)), (192, .aload_n 0, (.aload 0, 1, 0, 0)), (193, .bipush 16, (.iconst 16, 2, 0, 0)), (195, .newarray .int, (.newarray .int, 2, 0, 0)), (197, .putfield 87, (.putfield 38, 3, 8, 6)), (200, .aload_n 0, (.aload 0, 1, 0, 0)), (201, .bipush 16, (.iconst 16, 2, 0, 0)), (203, .newarray .int, (.newarray .int, 2, 0, 0)), (205, .putfield 90, (.putfield 39, 3, 8, 6)), (208, .aload_n 0, (.aload 0, 1, 0, 0)), (209, .sipush 2000, (.iconst 2000, 3, 0, 0)), (212, .newarray .int, (.newarray .int, 2, 0, 0)), (214, .putfield 93, (.putfield 40, 3, 8, 6)), (217, .aload_n 0, (.aload 0, 1, 0, 0)), (218, .sipush 576, (.iconst 576, 3, 0, 0)), (221, .newarray .int, (.newarray .int, 2, 0, 0)), (223, .putfield 96, (.putfield 41, 3, 8, 6)), (226, .aload_n 0, (.aload 0, 1, 0, 0)), (227, .sipush 1152, (.iconst 1152, 3, 0, 0)), (230, .newarray .int, (.newarray .int, 2, 0, 0)), (232, .putfield 99, (.putfield 42, 3, 8, 6)), (235, .aload_n 0, (.aload 0, 1, 0, 0)), (236, .bipush 120, (.iconst 120, 2, 0, 0)), (238, .newarray .int, (.newarray .int, 2, 0, 0)), (240, .putfield 102, (.putfield 43, 3, 8, 6)), (243, .aload_n 0, (.aload 0, 1, 0, 0)), (244, .bipush 10, (.iconst 10, 2, 0, 0)), (246, .newarray .int, (.newarray .int, 2, 0, 0)), (248, .putfield 105, (.putfield 44, 3, 8, 6)), (251, .aload_n 0, (.aload 0, 1, 0, 0)), (252, .sipush 576, (.iconst 576, 3, 0, 0)), (255, .newarray .boolean, (.newarray .boolean, 2, 1, 0)), (257, .putfield 108, (.putfield 48, 3, 8, 6)), (260, .aload_n 0, (.aload 0, 1, 0, 0)), (261, .bipush 30, (.iconst 30, 2, 0, 0)), (263, .newarray .int, (.newarray .int, 2, 0, 0)), (265, .putfield 111, (.putfield 49, 3, 8, 6)), (268, .aload_n 0, (.aload 0, 1, 0, 0)), (269, .sipush 240, (.iconst 240, 3, 0, 0)), (272, .newarray .int, (.newarray .int, 2, 0, 0)), (274, .putfield 114, (.putfield 50, 3, 8, 6)), (277, .aload_n 0, (.aload 0, 1, 0, 0)), (278, .sipush 192, (.iconst 192, 3, 0, 0)), (281, .newarray .int, (.newarray .int, 2, 0, 0)), (283, .putfield 117, (.putfield 52, 3, 8, 6)), (286, .aload_n 0, (.aload 0, 1, 0, 0)), (287, .iconst 4, (.iconst 4, 1, 0, 0)), (288, .newarray .int, (.newarray .int, 2, 0, 0)), (290, .putfield 120, (.putfield 53, 3, 8, 6)), (293, .return_, (.return_, 1, 0, 0))]
set_option maxRecDepth 100000 in
theorem gK17 : gR17.all (fun r => @decide _ (xrowD (gW11 ++ gWT) gCl gTy gTf gNf gMc "PointsTo" gY gLdcs gM17.1 gM17.2.1 gM17.2.2.2.1 gM17.2.2.2.2.1 r)) = true := by decide +kernel
/-- PointsTo.codeOf(JI)I -/
def gR18 : List (Nat × Instr × xI) := [(0, .lload_n 0, (.lload 0, 1, 0, 0)), (1, .bipush 8, (.iconst 8, 2, 0, 0)), (3, .iload_n 2, (.iload 2, 1, 0, 0)), (4, .imul, (.imul, 1, 0, 0)), (5, .lushr, (.lushr, 1, 0, 0)), (6, .l2i, (.l2i, 1, 0, 0)), (7, .sipush 255, (.iconst 255, 3, 0, 0)), (10, .iand, (.iand, 1, 0, 0)), (11, .ireturn, (.ireturn, 1, 0, 0))]
set_option maxRecDepth 100000 in
theorem gK18 : gR18.all (fun r => @decide _ (xrowD (gW10 ++ gWT) gCl gTy gTf gNf gMc "PointsTo" gY gLdcs gM18.1 gM18.2.1 gM18.2.2.2.1 gM18.2.2.2.2.1 r)) = true := by decide +kernel
/-- PointsTo.codesMayStand(JI)Z -/
def gR19 : List (Nat × Instr × xI) := [(0, .iconst 0, (.iconst 0, 1, 0, 0)), (1, .istore_n 3, (.istore 3, 1, 0, 0)), (2, .iload_n 3, (.iload 3, 1, 0, 0)), (3, .iload_n 2, (.iload 2, 1, 0, 0)), (4, .if_icmp .ge 32, (.if_icmp .ge 36, 3, 0, 0)), (7, .lload_n 0, (.lload 0, 1, 0, 0)), (8, .iload_n 3, (.iload 3, 1, 0, 0)), (9, .invokestatic 61, (.invokeinterface 18 61, 3, 2, 0)), (12, .istore 4, (.istore 4, 2, 0, 0)), (14, .iload 4, (.iload 4, 2, 0, 0)), (16, .bipush 32, (.iconst 32, 2, 0, 0)), (18, .if_icmp .lt 10, (.if_icmp .lt 28, 3, 0, 0)), (21, .iload 4, (.iload 4, 2, 0, 0)), (23, .bipush 126, (.iconst 126, 2, 0, 0)), (25, .if_icmp .le 5, (.if_icmp .le 30, 3, 0, 0)), (28, .iconst 0, (.iconst 0, 1, 0, 0)), (29, .ireturn, (.ireturn, 1, 1, 0)), (30, .iinc 3 1, (.iinc 3 1, 3, 0, 0)), (33, .goto (-31), (.goto 2, 3, 0, 0)), (36, .iconst 1, (.iconst 1, 1, 0, 0)), (37, .ireturn, (.ireturn, 1, 1, 0))]
set_option maxRecDepth 100000 in
theorem gK19 : gR19.all (fun r => @decide _ (xrowD (gW10 ++ gWT) gCl gTy gTf gNf gMc "PointsTo" gY gLdcs gM19.1 gM19.2.1 gM19.2.2.2.1 gM19.2.2.2.2.1 r)) = true := by decide +kernel
/-- PointsTo.append(JI)I -/
def gR20 : List (Nat × Instr × xI) := [(0, .iload_n 3, (.iload 3, 1, 0, 0)), (1, .iconst 1, (.iconst 1, 1, 0, 0)), (2, .if_icmp .lt 17, (.if_icmp .lt 19, 3, 0, 0)), (5, .iload_n 3, (.iload 3, 1, 0, 0)), (6, .bipush 8, (.iconst 8, 2, 0, 0)), (8, .if_icmp .gt 11, (.if_icmp .gt 19, 3, 0, 0)), (11, .lload_n 1, (.lload 1, 1, 0, 0)), (12, .iload_n 3, (.iload 3, 1, 0, 0)), (13, .invokestatic 48, (.invokeinterface 19 48, 3, 2, 0)), (16, .ifCond .ne 11, (.ifCond .ne 27, 3, 0, 0)), (19, .new 52, (.athrow, 54, 9, 52)), (27, .aload_n 0, (.aload 0, 1, 0, 0)), (28, .getfield 55, (.getfield 6, 3, 7, 55)), (31, .iload_n 3, (.iload 3, 1, 0, 0)), (32, .iadd, (.iadd, 1, 0, 0)), (33, .sipush 320, (.iconst 320, 3, 0, 0)), (36, .if_icmp .le 11, (.if_icmp .le 47, 3, 0, 0)), (39, .new 58, (.athrow, 60, 10, 58)), (47, .iconst 1, (.iconst 1, 1, 0, 0)), (48, .istore 4, (.istore 4, 2, 0, 0)), (50, .iload 4, (.iload 4, 2, 0, 0)), (52, .iload_n 3, (.iload 3, 1, 0, 0)), (53, .if_icmp .gt 37, (.if_icmp .gt 90, 3, 0, 0)), (56, .aload_n 0, (.aload 0, 1, 0, 0)), (57, .getfield 9, (.getfield 0, 3, 7, 9)), (60, .aload_n 0, (.aload 0, 1, 0, 0)), (61, .getfield 55, (.getfield 6, 3, 7, 55)), (64, .lload_n 1, (.lload 1, 1, 0, 0)), (65, .iload_n 3, (.iload 3, 1, 0, 0)), (66, .iload 4, (.iload 4, 2, 0, 0)), (68, .isub, (.isub, 1, 0, 0)), (69, .invokestatic 61, (.invokeinterface 18 61, 3, 2, 0)), (72, .i2c, (.i2c, 1, 0, 0)), (73, .castore, (.iastore, 1, 3, 0)), (74, .aload_n 0, (.aload 0, 1, 0, 0)), (75, .dup, (.dup, 1, 0, 0)), (76, .getfield 55, (.getfield 6, 3, 7, 55)), (79, .iconst 1, (.iconst 1, 1, 0, 0)), (80, .iadd, (.iadd, 1, 0, 0)), (81, .putfield 55, (.putfield 6, 3, 7, 0)), (84, .iinc 4 1, (.iinc 4 1, 3, 0, 0)), (87, .goto (-37), (.goto 50, 3, 0, 0)), (90, .aload_n 0, (.aload 0, 1, 0, 0)), (91, .getfield 55, (.getfield 6, 3, 7, 55)), (94, .ireturn, (.ireturn, 1, 0, 0))]
set_option maxRecDepth 100000 in
theorem gK20 : gR20.all (fun r => @decide _ (xrowD (gW10 ++ gWT) gCl gTy gTf gNf gMc "PointsTo" gY gLdcs gM20.1 gM20.2.1 gM20.2.2.2.1 gM20.2.2.2.2.1 r)) = true := by decide +kernel
/-- PointsToLaw.append(LPointsTo;JI[J)I -/
def gR21 : List (Nat × Instr × xI) := [(0, .aload 4, (.aload 4, 2, 0, 0)), (2, .iconst 0, (.iconst 0, 1, 0, 0)), (3, .aload_n 0, (.aload 0, 1, 0, 0)), (4, .lload_n 1, (.lload 1, 1, 0, 0)), (5, .iload_n 3, (.iload 3, 1, 0, 0)), (6, .invokevirtual 7, (.invokeinterface 20 7, 3, 3, 1)), (9, .i2l, (.i2l, 1, 0, 0)), (10, .lastore, (.lastore, 1, 0, 0)), (11, .goto 11, (.goto 22, 3, 0, 0)), (14, .astore 5, (.astore 5, 2, 0, 0)), (16, .iconst 1, (.iconst 1, 1, 0, 0)), (17, .ireturn, (.ireturn, 1, 0, 0)), (18, .astore 5, (.astore 5, 2, 0, 0)), (20, .iconst 2, (.iconst 2, 1, 0, 0)), (21, .ireturn, (.ireturn, 1, 0, 0)), (22, .iconst 0, (.iconst 0, 1, 0, 0)), (23, .ireturn, (.ireturn, 1, 0, 0))]
set_option maxRecDepth 100000 in
theorem gK21 : gR21.all (fun r => @decide _ (xrowD (gW12 ++ gWT) gCl gTy gTf gNf gMc "PointsTo" gY gLdcs gM21.1 gM21.2.1 gM21.2.2.2.1 gM21.2.2.2.2.1 r)) = true := by decide +kernel
/-- PointsToModel.in(III)Z -/
def gR22 : List (Nat × Instr × xI) := [(0, .iload_n 0, (.iload 0, 1, 0, 0)), (1, .iload_n 1, (.iload 1, 1, 0, 0)), (2, .if_icmp .lt 12, (.if_icmp .lt 14, 3, 0, 0)), (5, .iload_n 0, (.iload 0, 1, 0, 0)), (6, .iload_n 2, (.iload 2, 1, 0, 0)), (7, .if_icmp .gt 7, (.if_icmp .gt 14, 3, 0, 0)), (10, .iconst 1, (.iconst 1, 1, 0, 0)), (11, .goto 4, (.goto 15, 3, 0, 0)), (14, .iconst 0, (.iconst 0, 1, 0, 0)), (15, .ireturn, (.ireturn, 1, 1, 0))]
set_option maxRecDepth 100000 in
theorem gK22 : gR22.all (fun r => @decide _ (xrowD (gW11 ++ gWT) gCl gTy gTf gNf gMc "PointsTo" gY gLdcs gM22.1 gM22.2.1 gM22.2.2.2.1 gM22.2.2.2.2.1 r)) = true := by decide +kernel
/-- PointsToModel.good(ZI)Z -/
def gR23 : List (Nat × Instr × xI) := [(0, .aload_n 0, (.aload 0, 1, 0, 0)), (1, .iload_n 1, (.iload 1, 1, 0, 0)), (2, .ifCond .eq 7, (.ifCond .eq 9, 3, 0, 0)), (5, .iconst 0, (.iconst 0, 1, 0, 0)), (6, .goto 4, (.goto 10, 3, 0, 0)), (9, .iload_n 2, (.iload 2, 1, 0, 0)), (10, .putfield 123, (.putfield 57, 3, 8, 0)), (13, .iload_n 1, (.iload 1, 1, 0, 0)), (14, .ireturn, (.ireturn, 1, 1, 0))]
set_option maxRecDepth 100000 in
theorem gK23 : gR23.all (fun r => @decide _ (xrowD (gW11 ++ gWT) gCl gTy gTf gNf gMc "PointsTo" gY gLdcs gM23.1 gM23.2.1 gM23.2.2.2.1 gM23.2.2.2.2.1 r)) = true := by decide +kernel
/-- PointsToModel.fail(I)I -/
def gR24 : List (Nat × Instr × xI) := [(0, .aload_n 0, (.aload 0, 1, 0, 0)), (1, .iload_n 1, (.iload 1, 1, 0, 0)), (2, .putfield 123, (.putfield 57, 3, 8, 0)), (5, .iconst 0, (.iconst 0, 1, 0, 0)), (6, .ireturn, (.ireturn, 1, 0, 0))]
set_option maxRecDepth 100000 in
theorem gK24 : gR24.all (fun r => @decide _ (xrowD (gW11 ++ gWT) gCl gTy gTf gNf gMc "PointsTo" gY gLdcs gM24.1 gM24.2.1 gM24.2.2.2.1 gM24.2.2.2.2.1 r)) = true := by decide +kernel
/-- PointsToModel.append(JI)I -/
def gR25 : List (Nat × Instr × xI) := [(0, .aload_n 0, (.aload 0, 1, 0, 0)), (1, .iload_n 3, (.iload 3, 1, 0, 0)), (2, .iconst 1, (.iconst 1, 1, 0, 0)), (3, .bipush 8, (.iconst 8, 2, 0, 0)), (5, .invokestatic 126, (.invokeinterface 22 126, 3, 3, 0)), (8, .iconst 1, (.iconst 1, 1, 0, 0)), (9, .invokevirtual 130, (.invokeinterface 23 130, 3, 3, 1)), (12, .ifCond .ne 5, (.ifCond .ne 17, 3, 0, 0)), (15, .iconst 0, (.iconst 0, 1, 0, 0)), (16, .ireturn, (.ireturn, 1, 0, 0)), (17, .iconst 0, (.iconst 0, 1, 0, 0)), (18, .istore 4, (.istore 4, 2, 0, 0)), (20, .iload 4, (.iload 4, 2, 0, 0)), (22, .iload_n 3, (.iload 3, 1, 0, 0)), (23, .if_icmp .ge 37, (.if_icmp .ge 60, 3, 0, 0)), (26, .lload_n 1, (.lload 1, 1, 0, 0)), (27, .bipush 8, (.iconst 8, 2, 0, 0)), (29, .iload 4, (.iload 4, 2, 0, 0)), (31, .imul, (.imul, 1, 0, 0)), (32, .lshr, (.lshr, 1, 0, 0)), (33, .l2i, (.l2i, 1, 0, 0)), (34, .sipush 255, (.iconst 255, 3, 0, 0)), (37, .iand, (.iand, 1, 0, 0)), (38, .bipush 32, (.iconst 32, 2, 0, 0)), (40, .bipush 126, (.iconst 126, 2, 0, 0)), (42, .invokestatic 126, (.invokeinterface 22 126, 3, 3, 0)), (45, .ifCond .ne 9, (.ifCond .ne 54, 3, 0, 0)), (48, .aload_n 0, (.aload 0, 1, 0, 0)), (49, .iconst 1, (.iconst 1, 1, 0, 0)), (50, .invokevirtual 134, (.invokeinterface 24 134, 3, 2, 1)), (53, .ireturn, (.ireturn, 1, 0, 0)), (54, .iinc 4 1, (.iinc 4 1, 3, 0, 0)), (57, .goto (-37), (.goto 20, 3, 0, 0)), (60, .aload_n 0, (.aload 0, 1, 0, 0)), (61, .aload_n 0, (.aload 0, 1, 0, 0)), (62, .getfield 138, (.getfield 1, 3, 8, 138)), (65, .iload_n 3, (.iload 3, 1, 0, 0)), (66, .iadd, (.iadd, 1, 0, 0)), (67, .sipush 320, (.iconst 320, 3, 0, 0)), (70, .if_icmp .gt 7, (.if_icmp .gt 77, 3, 0, 0)), (73, .iconst 1, (.iconst 1, 1, 0, 0)), (74, .goto 4, (.goto 78, 3, 0, 0)), (77, .iconst 0, (.iconst 0, 1, 0, 0)), (78, .iconst 2, (.iconst 2, 1, 0, 0)), (79, .invokevirtual 130, (.invokeinterface 23 130, 3, 3, 1)), (82, .ifCond .ne 5, (.ifCond .ne 87, 3, 0, 0)), (85, .iconst 0, (.iconst 0, 1, 0, 0)), (86, .ireturn, (.ireturn, 1, 0, 0)), (87, .iload_n 3, (.iload 3, 1, 0, 0)), (88, .iconst 1, (.iconst 1, 1, 0, 0)), (89, .isub, (.isub, 1, 0, 0)), (90, .istore 4, (.istore 4, 2, 0, 0)), (92, .iload 4, (.iload 4, 2, 0, 0)), (94, .ifCond .lt 40, (.ifCond .lt 134, 3, 0, 0)), (97, .aload_n 0, (.aload 0, 1, 0, 0)), (98, .getfield 7, (.getfield 0, 3, 8, 7)), (101, .aload_n 0, (.aload 0, 1, 0, 0)), (102, .getfield 138, (.getfield 1, 3, 8, 138)), (105, .lload_n 1, (.lload 1, 1, 0, 0)), (106, .bipush 8, (.iconst 8, 2, 0, 0)), (108, .iload 4, (.iload 4, 2, 0, 0)), (110, .imul, (.imul, 1, 0, 0)), (111, .lshr, (.lshr, 1, 0, 0)), (112, .l2i, (.l2i, 1, 0, 0)), (113, .sipush 255, (.iconst 255, 3, 0, 0)), (116, .iand, (.iand, 1, 0, 0)), (117, .iastore, (.iastore, 1, 0, 0)), (118, .aload_n 0, (.aload 0, 1, 0, 0)), (119, .dup, (.dup, 1, 0, 0)), (120, .getfield 138, (.getfield 1, 3, 8, 138)), (123, .iconst 1, (.iconst 1, 1, 0, 0)), (124, .iadd, (.iadd, 1, 0, 0)), (125, .putfield 138, (.putfield 1, 3, 8, 0)), (128, .iinc 4 (-1), (.iinc 4 (-1), 3, 0, 0)), (131, .goto (-39), (.goto 92, 3, 0, 0)), (134, .aload_n 0, (.aload 0, 1, 0, 0)), (135, .getfield 138, (.getfield 1, 3, 8, 138)), (138, .ireturn, (.ireturn, 1, 0, 0))]
set_option maxRecDepth 100000 in
theorem gK25 : gR25.all (fun r => @decide _ (xrowD (gW11 ++ gWT) gCl gTy gTf gNf gMc "PointsTo" gY gLdcs gM25.1 gM25.2.1 gM25.2.2.2.1 gM25.2.2.2.2.1 r)) = true := by decide +kernel
/-- PointsToModel.thrown()I -/
def gR26 : List (Nat × Instr × xI) := [(0, .aload_n 0, (.aload 0, 1, 0, 0)), (1, .getfield 123, (.getfield 57, 3, 8, 123)), (4, .ireturn, (.ireturn, 1, 0, 0))]
set_option maxRecDepth 100000 in
theorem gK26 : gR26.all (fun r => @decide _ (xrowD (gW11 ++ gWT) gCl gTy gTf gNf gMc "PointsTo" gY gLdcs gM26.1 gM26.2.1 gM26.2.2.2.1 gM26.2.2.2.2.1 r)) = true := by decide +kernel
/-- PointsTo.cut(I)I -/
def gR27 : List (Nat × Instr × xI) := [(0, .iload_n 1, (.iload 1, 1, 0, 0)), (1, .ifCond .lt 11, (.ifCond .lt 12, 3, 0, 0)), (4, .iload_n 1, (.iload 1, 1, 0, 0)), (5, .aload_n 0, (.aload 0, 1, 0, 0)), (6, .getfield 55, (.getfield 6, 3, 7, 55)), (9, .if_icmp .le 11, (.if_icmp .le 20, 3, 0, 0)), (12, .new 52, (.athrow, 54, 9, 52)), (20, .aload_n 0, (.aload 0, 1, 0, 0)), (21, .dup, (.dup, 1, 0, 0)), (22, .getfield 55, (.getfield 6, 3, 7, 55)), (25, .iload_n 1, (.iload 1, 1, 0, 0)), (26, .isub, (.isub, 1, 0, 0)), (27, .putfield 55, (.putfield 6, 3, 7, 0)), (30, .aload_n 0, (.aload 0, 1, 0, 0)), (31, .getfield 55, (.getfield 6, 3, 7, 55)), (34, .ireturn, (.ireturn, 1, 0, 0))]
set_option maxRecDepth 100000 in
theorem gK27 : gR27.all (fun r => @decide _ (xrowD (gW10 ++ gWT) gCl gTy gTf gNf gMc "PointsTo" gY gLdcs gM27.1 gM27.2.1 gM27.2.2.2.1 gM27.2.2.2.2.1 r)) = true := by decide +kernel
/-- PointsToLaw.cut(LPointsTo;I[J)I -/
def gR28 : List (Nat × Instr × xI) := [(0, .aload_n 2, (.aload 2, 1, 0, 0)), (1, .iconst 0, (.iconst 0, 1, 0, 0)), (2, .aload_n 0, (.aload 0, 1, 0, 0)), (3, .iload_n 1, (.iload 1, 1, 0, 0)), (4, .invokevirtual 17, (.invokeinterface 27 17, 3, 2, 1)), (7, .i2l, (.i2l, 1, 0, 0)), (8, .lastore, (.lastore, 1, 0, 0)), (9, .goto 6, (.goto 15, 3, 0, 0)), (12, .astore_n 3, (.astore 3, 1, 0, 0)), (13, .iconst 1, (.iconst 1, 1, 0, 0)), (14, .ireturn, (.ireturn, 1, 0, 0)), (15, .iconst 0, (.iconst 0, 1, 0, 0)), (16, .ireturn, (.ireturn, 1, 0, 0))]
set_option maxRecDepth 100000 in
theorem gK28 : gR28.all (fun r => @decide _ (xrowD (gW12 ++ gWT) gCl gTy gTf gNf gMc "PointsTo" gY gLdcs gM28.1 gM28.2.1 gM28.2.2.2.1 gM28.2.2.2.2.1 r)) = true := by decide +kernel
/-- PointsToModel.cut(I)I -/
def gR29 : List (Nat × Instr × xI) := [(0, .aload_n 0, (.aload 0, 1, 0, 0)), (1, .iload_n 1, (.iload 1, 1, 0, 0)), (2, .iconst 0, (.iconst 0, 1, 0, 0)), (3, .aload_n 0, (.aload 0, 1, 0, 0)), (4, .getfield 138, (.getfield 1, 3, 8, 138)), (7, .invokestatic 126, (.invokeinterface 22 126, 3, 3, 0)), (10, .iconst 1, (.iconst 1, 1, 0, 0)), (11, .invokevirtual 130, (.invokeinterface 23 130, 3, 3, 1)), (14, .ifCond .ne 5, (.ifCond .ne 19, 3, 0, 0)), (17, .iconst 0, (.iconst 0, 1, 0, 0)), (18, .ireturn, (.ireturn, 1, 0, 0)), (19, .aload_n 0, (.aload 0, 1, 0, 0)), (20, .dup, (.dup, 1, 0, 0)), (21, .getfield 138, (.getfield 1, 3, 8, 138)), (24, .iload_n 1, (.iload 1, 1, 0, 0)), (25, .isub, (.isub, 1, 0, 0)), (26, .putfield 138, (.putfield 1, 3, 8, 0)), (29, .aload_n 0, (.aload 0, 1, 0, 0)), (30, .getfield 138, (.getfield 1, 3, 8, 138)), (33, .ireturn, (.ireturn, 1, 0, 0))]
set_option maxRecDepth 100000 in
theorem gK29 : gR29.all (fun r => @decide _ (xrowD (gW11 ++ gWT) gCl gTy gTf gNf gMc "PointsTo" gY gLdcs gM29.1 gM29.2.1 gM29.2.2.2.1 gM29.2.2.2.2.1 r)) = true := by decide +kernel
/-- PointsTo$Program.clear()V -/
def gR30 : List (Nat × Instr × xI) := [(0, .aload_n 0, (.aload 0, 1, 0, 0)), (1, .iconst 0, (.iconst 0, 1, 0, 0)), (2, .putfield 51, (.putfield 9, 3, 6, 0)), (5, .aload_n 0, (.aload 0, 1, 0, 0)), (6, .iconst 0, (.iconst 0, 1, 0, 0)), (7, .putfield 54, (.putfield 10, 3, 6, 0)), (10, .aload_n 0, (.aload 0, 1, 0, 0)), (11, .iconst 0, (.iconst 0, 1, 0, 0)), (12, .putfield 57, (.putfield 11, 3, 6, 0)), (15, .aload_n 0, (.aload 0, 1, 0, 0)), (16, .iconst 0, (.iconst 0, 1, 0, 0)), (17, .putfield 60, (.putfield 12, 3, 6, 0)), (20, .aload_n 0, (.aload 0, 1, 0, 0)), (21, .iconst 0, (.iconst 0, 1, 0, 0)), (22, .putfield 63, (.putfield 13, 3, 6, 0)), (25, .aload_n 0, (.aload 0, 1, 0, 0)), (26, .iconst 1, (.iconst 1, 1, 0, 0)), (27, .putfield 66, (.putfield 14, 3, 6, 0)), (30, .aload_n 0, (.aload 0, 1, 0, 0)), (31, .iconst 0, (.iconst 0, 1, 0, 0)), (32, .putfield 69, (.putfield 15, 3, 6, 0)), (35, .aload_n 0, (.aload 0, 1, 0, 0)), (36, .iconst 0, (.iconst 0, 1, 0, 0)), (37, .putfield 72, (.putfield 16, 3, 6, 0)), (40, .return_, (.return_, 1, 0, 0))]
set_option maxRecDepth 100000 in
theorem gK30 : gR30.all (fun r => @decide _ (xrowD (gW9 ++ gWT) gCl gTy gTf gNf gMc "PointsTo" gY gLdcs gM30.1 gM30.2.1 gM30.2.2.2.1 gM30.2.2.2.2.1 r)) = true := by decide +kernel
/-- PointsTo$Tokens.isLetter(C)Z -/
def gR31 : List (Nat × Instr × xI) := [(0, .iload_n 0, (.iload 0, 1, 0, 0)), (1, .bipush 97, (.iconst 97, 2, 0, 0)), (3, .if_icmp .lt 13, (.if_icmp .lt 16, 3, 0, 0)), (6, .iload_n 0, (.iload 0, 1, 0, 0)), (7, .bipush 122, (.iconst 122, 2, 0, 0)), (9, .if_icmp .gt 7, (.if_icmp .gt 16, 3, 0, 0)), (12, .iconst 1, (.iconst 1, 1, 0, 0)), (13, .goto 4, (.goto 17, 3, 0, 0)), (16, .iconst 0, (.iconst 0, 1, 0, 0)), (17, .ireturn, (.ireturn, 1, 1, 0))]
set_option maxRecDepth 100000 in
theorem gK31 : gR31.all (fun r => @decide _ (xrowD (gW3 ++ gWT) gCl gTy gTf gNf gMc "PointsTo" gY gLdcs gM31.1 gM31.2.1 gM31.2.2.2.1 gM31.2.2.2.2.1 r)) = true := by decide +kernel
/-- PointsTo$Tokens.add(II)V -/
def gR32 : List (Nat × Instr × xI) := [(0, .aload_n 0, (.aload 0, 1, 0, 0)), (1, .getfield 39, (.getfield 1, 3, 0, 39)), (4, .aload_n 0, (.aload 0, 1, 0, 0)), (5, .getfield 62, (.getfield 4, 3, 0, 62)), (8, .iload_n 1, (.iload 1, 1, 0, 0)), (9, .iastore, (.iastore, 1, 0, 0)), (10, .aload_n 0, (.aload 0, 1, 0, 0)), (11, .getfield 42, (.getfield 2, 3, 0, 42)), (14, .aload_n 0, (.aload 0, 1, 0, 0)), (15, .getfield 62, (.getfield 4, 3, 0, 62)), (18, .iload_n 2, (.iload 2, 1, 0, 0)), (19, .iastore, (.iastore, 1, 0, 0)), (20, .aload_n 0, (.aload 0, 1, 0, 0)), (21, .getfield 45, (.getfield 3, 3, 0, 45)), (24, .aload_n 0, (.aload 0, 1, 0, 0)), (25, .getfield 62, (.getfield 4, 3, 0, 62)), (28, .iconst 0, (.iconst 0, 1, 0, 0)), (29, .iastore, (.iastore, 1, 0, 0)), (30, .aload_n 0, (.aload 0, 1, 0, 0)), (31, .dup, (.dup, 1, 0, 0)), (32, .getfield 62, (.getfield 4, 3, 0, 62)), (35, .iconst 1, (.iconst 1, 1, 0, 0)), (36, .iadd, (.iadd, 1, 0, 0)), (37, .putfield 62, (.putfield 4, 3, 0, 0)), (40, .return_, (.return_, 1, 0, 0))]
set_option maxRecDepth 100000 in
theorem gK32 : gR32.all (fun r => @decide _ (xrowD (gW3 ++ gWT) gCl gTy gTf gNf gMc "PointsTo" gY gLdcs gM32.1 gM32.2.1 gM32.2.2.2.1 gM32.2.2.2.2.1 r)) = true := by decide +kernel
/-- PointsTo$Tokens.addLetter(CII)V -/
def gR33 : List (Nat × Instr × xI) := [(0, .iload_n 3, (.iload 3, 1, 0, 0)), (1, .iconst 1, (.iconst 1, 1, 0, 0)), (2, .if_icmp .ne 10, (.if_icmp .ne 12, 3, 0, 0)), (5, .aload_n 0, (.aload 0, 1, 0, 0)), (6, .bipush 11, (.iconst 11, 2, 0, 0)), (8, .iload_n 2, (.iload 2, 1, 0, 0)), (9, .invokevirtual 77, (.invokeinterface 32 77, 3, 3, 1)), (12, .aload_n 0, (.aload 0, 1, 0, 0)), (13, .getfield 62, (.getfield 4, 3, 0, 62)), (16, .iconst 1, (.iconst 1, 1, 0, 0)), (17, .isub, (.isub, 1, 0, 0)), (18, .istore 4, (.istore 4, 2, 0, 0)), (20, .aload_n 0, (.aload 0, 1, 0, 0)), (21, .getfield 45, (.getfield 3, 3, 0, 45)), (24, .iload 4, (.iload 4, 2, 0, 0)), (26, .aload_n 0, (.aload 0, 1, 0, 0)), (27, .getfield 45, (.getfield 3, 3, 0, 45)), (30, .iload 4, (.iload 4, 2, 0, 0)), (32, .iaload, (.iaload, 1, 0, 0)), (33, .iload_n 1, (.iload 1, 1, 0, 0)), (34, .invokestatic 58, (.invokeinterface 7 58, 3, 2, 0)), (37, .iastore, (.iastore, 1, 0, 0)), (38, .iload_n 3, (.iload 3, 1, 0, 0)), (39, .bipush 6, (.iconst 6, 2, 0, 0)), (41, .if_icmp .le 12, (.if_icmp .le 53, 3, 0, 0)), (44, .aload_n 0, (.aload 0, 1, 0, 0)), (45, .getfield 39, (.getfield 1, 3, 0, 39)), (48, .iload 4, (.iload 4, 2, 0, 0)), (50, .bipush 12, (.iconst 12, 2, 0, 0)), (52, .iastore, (.iastore, 1, 0, 0)), (53, .return_, (.return_, 1, 0, 0))]
set_option maxRecDepth 100000 in
theorem gK33 : gR33.all (fun r => @decide _ (xrowD (gW3 ++ gWT) gCl gTy gTf gNf gMc "PointsTo" gY gLdcs gM33.1 gM33.2.1 gM33.2.2.2.1 gM33.2.2.2.2.1 r)) = true := by decide +kernel
/-- PointsTo$Tokens.isSign(C)Z -/
def gR34 : List (Nat × Instr × xI) := [(0, .iload_n 0, (.iload 0, 1, 0, 0)), (1, .bipush 123, (.iconst 123, 2, 0, 0)), (3, .if_icmp .eq 51, (.if_icmp .eq 54, 3, 0, 0)), (6, .iload_n 0, (.iload 0, 1, 0, 0)), (7, .bipush 125, (.iconst 125, 2, 0, 0)), (9, .if_icmp .eq 45, (.if_icmp .eq 54, 3, 0, 0)), (12, .iload_n 0, (.iload 0, 1, 0, 0)), (13, .bipush 40, (.iconst 40, 2, 0, 0)), (15, .if_icmp .eq 39, (.if_icmp .eq 54, 3, 0, 0)), (18, .iload_n 0, (.iload 0, 1, 0, 0)), (19, .bipush 41, (.iconst 41, 2, 0, 0)), (21, .if_icmp .eq 33, (.if_icmp .eq 54, 3, 0, 0)), (24, .iload_n 0, (.iload 0, 1, 0, 0)), (25, .bipush 61, (.iconst 61, 2, 0, 0)), (27, .if_icmp .eq 27, (.if_icmp .eq 54, 3, 0, 0)), (30, .iload_n 0, (.iload 0, 1, 0, 0)), (31, .bipush 46, (.iconst 46, 2, 0, 0)), (33, .if_icmp .eq 21, (.if_icmp .eq 54, 3, 0, 0)), (36, .iload_n 0, (.iload 0, 1, 0, 0)), (37, .bipush 44, (.iconst 44, 2, 0, 0)), (39, .if_icmp .eq 15, (.if_icmp .eq 54, 3, 0, 0)), (42, .iload_n 0, (.iload 0, 1, 0, 0)), (43, .bipush 59, (.iconst 59, 2, 0, 0)), (45, .if_icmp .eq 9, (.if_icmp .eq 54, 3, 0, 0)), (48, .iload_n 0, (.iload 0, 1, 0, 0)), (49, .bipush 58, (.iconst 58, 2, 0, 0)), (51, .if_icmp .ne 7, (.if_icmp .ne 58, 3, 0, 0)), (54, .iconst 1, (.iconst 1, 1, 0, 0)), (55, .goto 4, (.goto 59, 3, 0, 0)), (58, .iconst 0, (.iconst 0, 1, 0, 0)), (59, .ireturn, (.ireturn, 1, 1, 0))]
set_option maxRecDepth 100000 in
theorem gK34 : gR34.all (fun r => @decide _ (xrowD (gW3 ++ gWT) gCl gTy gTf gNf gMc "PointsTo" gY gLdcs gM34.1 gM34.2.1 gM34.2.2.2.1 gM34.2.2.2.2.1 r)) = true := by decide +kernel
/-- PointsTo$Tokens.tellWords()V -/
def gR35 : List (Nat × Instr × xI) := [(0, .iconst 0, (.iconst 0, 1, 0, 0)), (1, .istore_n 1, (.istore 1, 1, 0, 0)), (2, .iload_n 1, (.iload 1, 1, 0, 0)), (3, .aload_n 0, (.aload 0, 1, 0, 0)), (4, .getfield 62, (.getfield 4, 3, 0, 62)), (7, .if_icmp .ge 59, (.if_icmp .ge 66, 3, 0, 0)), (10, .iconst 1, (.iconst 1, 1, 0, 0)), (11, .istore_n 2, (.istore 2, 1, 0, 0)), (12, .iload_n 2, (.iload 2, 1, 0, 0)), (13, .aload_n 0, (.aload 0, 1, 0, 0)), (14, .getfield 35, (.getfield 0, 3, 0, 35)), (17, .arraylength, (.arraylength, 1, 0, 0)), (18, .if_icmp .ge 42, (.if_icmp .ge 60, 3, 0, 0)), (21, .aload_n 0, (.aload 0, 1, 0, 0)), (22, .getfield 39, (.getfield 1, 3, 0, 39)), (25, .iload_n 1, (.iload 1, 1, 0, 0)), (26, .iaload, (.iaload, 1, 0, 0)), (27, .bipush 11, (.iconst 11, 2, 0, 0)), (29, .if_icmp .ne 31, (.if_icmp .ne 60, 3, 0, 0)), (32, .aload_n 0, (.aload 0, 1, 0, 0)), (33, .getfield 35, (.getfield 0, 3, 0, 35)), (36, .iload_n 2, (.iload 2, 1, 0, 0)), (37, .iaload, (.iaload, 1, 0, 0)), (38, .aload_n 0, (.aload 0, 1, 0, 0)), (39, .getfield 45, (.getfield 3, 3, 0, 45)), (42, .iload_n 1, (.iload 1, 1, 0, 0)), (43, .iaload, (.iaload, 1, 0, 0)), (44, .if_icmp .ne 10, (.if_icmp .ne 54, 3, 0, 0)), (47, .aload_n 0, (.aload 0, 1, 0, 0)), (48, .getfield 39, (.getfield 1, 3, 0, 39)), (51, .iload_n 1, (.iload 1, 1, 0, 0)), (52, .iload_n 2, (.iload 2, 1, 0, 0)), (53, .iastore, (.iastore, 1, 0, 0)), (54, .iinc 2 1, (.iinc 2 1, 3, 0, 0)), (57, .goto (-45), (.goto 12, 3, 0, 0)), (60, .iinc 1 1, (.iinc 1 1, 3, 0, 0)), (63, .goto (-61), (.goto 2, 3, 0, 0)), (66, .return_, (.return_, 1, 0, 0))]
set_option maxRecDepth 100000 in
theorem gK35 : gR35.all (fun r => @decide _ (xrowD (gW3 ++ gWT) gCl gTy gTf gNf gMc "PointsTo" gY gLdcs gM35.1 gM35.2.1 gM35.2.2.2.1 gM35.2.2.2.2.1 r)) = true := by decide +kernel
/-- PointsTo$Tokens.split([CI)V -/
def gR36 : List (Nat × Instr × xI) := [(0, .aload_n 0, (.aload 0, 1, 0, 0)), (1, .iconst 0, (.iconst 0, 1, 0, 0)), (2, .putfield 62, (.putfield 4, 3, 0, 0)), (5, .iconst 0, (.iconst 0, 1, 0, 0)), (6, .istore_n 3, (.istore 3, 1, 0, 0)), (7, .iconst 0, (.iconst 0, 1, 0, 0)), (8, .istore 4, (.istore 4, 2, 0, 0)), (10, .iconst 0, (.iconst 0, 1, 0, 0)), (11, .istore 5, (.istore 5, 2, 0, 0)), (13, .iload 5, (.iload 5, 2, 0, 0)), (15, .iload_n 2, (.iload 2, 1, 0, 0)), (16, .if_icmp .ge 86, (.if_icmp .ge 102, 3, 0, 0)), (19, .aload_n 1, (.aload 1, 1, 0, 0)), (20, .iload 5, (.iload 5, 2, 0, 0)), (22, .caload, (.iaload, 1, 3, 0)), (23, .istore 6, (.istore 6, 2, 0, 0)), (25, .iload 6, (.iload 6, 2, 0, 0)), (27, .invokestatic 66, (.invokeinterface 31 66, 3, 1, 0)), (30, .ifCond .eq 19, (.ifCond .eq 49, 3, 0, 0)), (33, .iinc 4 1, (.iinc 4 1, 3, 0, 0)), (36, .aload_n 0, (.aload 0, 1, 0, 0)), (37, .iload 6, (.iload 6, 2, 0, 0)), (39, .iload 5, (.iload 5, 2, 0, 0)), (41, .iload 4, (.iload 4, 2, 0, 0)), (43, .invokevirtual 70, (.invokeinterface 33 70, 3, 4, 1)), (46, .goto 34, (.goto 80, 3, 0, 0)), (49, .iconst 0, (.iconst 0, 1, 0, 0)), (50, .istore 4, (.istore 4, 2, 0, 0)), (52, .iload 6, (.iload 6, 2, 0, 0)), (54, .bipush 32, (.iconst 32, 2, 0, 0)), (56, .if_icmp .eq 24, (.if_icmp .eq 80, 3, 0, 0)), (59, .aload_n 0, (.aload 0, 1, 0, 0)), (60, .iload 6, (.iload 6, 2, 0, 0)), (62, .invokestatic 74, (.invokeinterface 34 74, 3, 1, 0)), (65, .ifCond .eq 8, (.ifCond .eq 73, 3, 0, 0)), (68, .iload 6, (.iload 6, 2, 0, 0)), (70, .goto 5, (.goto 75, 3, 0, 0)), (73, .bipush 12, (.iconst 12, 2, 0, 0)), (75, .iload 5, (.iload 5, 2, 0, 0)), (77, .invokevirtual 77, (.invokeinterface 32 77, 3, 3, 1)), (80, .iload 6, (.iload 6, 2, 0, 0)), (82, .bipush 32, (.iconst 32, 2, 0, 0)), (84, .if_icmp .ne 7, (.if_icmp .ne 91, 3, 0, 0)), (87, .iload_n 3, (.iload 3, 1, 0, 0)), (88, .goto 7, (.goto 95, 3, 0, 0)), (91, .iload 5, (.iload 5, 2, 0, 0)), (93, .iconst 1, (.iconst 1, 1, 0, 0)), (94, .iadd, (.iadd, 1, 0, 0)), (95, .istore_n 3, (.istore 3, 1, 0, 0)), (96, .iinc 5 1, (.iinc 5 1, 3, 0, 0)), (99, .goto (-86), (.goto 13, 3, 0, 0)), (102, .aload_n 0, (.aload 0, 1, 0, 0)), (103, .iconst 0, (.iconst 0, 1, 0, 0)), (104, .iload_n 3, (.iload 3, 1, 0, 0)), (105, .invokevirtual 77, (.invokeinterface 32 77, 3, 3, 1)), (108, .aload_n 0, (.aload 0, 1, 0, 0)), (109, .invokevirtual 81, (.invokeinterface 35 81, 3, 1, 1)), (112, .return_, (.return_, 1, 0, 0))]
set_option maxRecDepth 100000 in
theorem gK36 : gR36.all (fun r => @decide _ (xrowD (gW3 ++ gWT) gCl gTy gTf gNf gMc "PointsTo" gY gLdcs gM36.1 gM36.2.1 gM36.2.2.2.1 gM36.2.2.2.2.1 r)) = true := by decide +kernel
/-- PointsTo$Parser.take(I)Z -/
def gR37 : List (Nat × Instr × xI) := [(0, .aload_n 0, (.aload 0, 1, 0, 0)), (1, .getfield 12, (.getfield 0, 3, 1, 12)), (4, .getfield 65, (.getfield 1, 3, 0, 65)), (7, .aload_n 0, (.aload 0, 1, 0, 0)), (8, .getfield 31, (.getfield 2, 3, 1, 31)), (11, .iaload, (.iaload, 1, 0, 0)), (12, .iload_n 1, (.iload 1, 1, 0, 0)), (13, .if_icmp .eq 21, (.if_icmp .eq 34, 3, 0, 0)), (16, .aload_n 0, (.aload 0, 1, 0, 0)), (17, .aload_n 0, (.aload 0, 1, 0, 0)), (18, .getfield 12, (.getfield 0, 3, 1, 12)), (21, .getfield 71, (.getfield 2, 3, 0, 71)), (24, .aload_n 0, (.aload 0, 1, 0, 0)), (25, .getfield 31, (.getfield 2, 3, 1, 31)), (28, .iaload, (.iaload, 1, 0, 0)), (29, .putfield 62, (.putfield 4, 3, 1, 0)), (32, .iconst 0, (.iconst 0, 1, 0, 0)), (33, .ireturn, (.ireturn, 1, 1, 0)), (34, .aload_n 0, (.aload 0, 1, 0, 0)), (35, .dup, (.dup, 1, 0, 0)), (36, .getfield 31, (.getfield 2, 3, 1, 31)), (39, .iconst 1, (.iconst 1, 1, 0, 0)), (40, .iadd, (.iadd, 1, 0, 0)), (41, .putfield 31, (.putfield 2, 3, 1, 0)), (44, .iconst 1, (.iconst 1, 1, 0, 0)), (45, .ireturn, (.ireturn, 1, 1, 0))]
set_option maxRecDepth 100000 in
theorem gK37 : gR37.all (fun r => @decide _ (xrowD (gW4 ++ gWT) gCl gTy gTf gNf gMc "PointsTo" gY gLdcs gM37.1 gM37.2.1 gM37.2.2.2.1 gM37.2.2.2.2.1 r)) = true := by decide +kernel
/-- PointsTo$Parser.kind()I -/
def gR38 : List (Nat × Instr × xI) := [(0, .aload_n 0, (.aload 0, 1, 0, 0)), (1, .getfield 12, (.getfield 0, 3, 1, 12)), (4, .getfield 65, (.getfield 1, 3, 0, 65)), (7, .aload_n 0, (.aload 0, 1, 0, 0)), (8, .getfield 31, (.getfield 2, 3, 1, 31)), (11, .iaload, (.iaload, 1, 0, 0)), (12, .ireturn, (.ireturn, 1, 0, 0))]
set_option maxRecDepth 100000 in
theorem gK38 : gR38.all (fun r => @decide _ (xrowD (gW4 ++ gWT) gCl gTy gTf gNf gMc "PointsTo" gY gLdcs gM38.1 gM38.2.1 gM38.2.2.2.1 gM38.2.2.2.2.1 r)) = true := by decide +kernel
/-- PointsTo$Parser.name()I -/
def gR39 : List (Nat × Instr × xI) := [(0, .aload_n 0, (.aload 0, 1, 0, 0)), (1, .getfield 12, (.getfield 0, 3, 1, 12)), (4, .getfield 68, (.getfield 3, 3, 0, 68)), (7, .aload_n 0, (.aload 0, 1, 0, 0)), (8, .getfield 31, (.getfield 2, 3, 1, 31)), (11, .iaload, (.iaload, 1, 0, 0)), (12, .ireturn, (.ireturn, 1, 0, 0))]
set_option maxRecDepth 100000 in
theorem gK39 : gR39.all (fun r => @decide _ (xrowD (gW4 ++ gWT) gCl gTy gTf gNf gMc "PointsTo" gY gLdcs gM39.1 gM39.2.1 gM39.2.2.2.1 gM39.2.2.2.2.1 r)) = true := by decide +kernel
/-- PointsTo$Program.indexIn([III)I -/
def gR40 : List (Nat × Instr × xI) := [(0, .iconst 0, (.iconst 0, 1, 0, 0)), (1, .istore_n 3, (.istore 3, 1, 0, 0)), (2, .iload_n 3, (.iload 3, 1, 0, 0)), (3, .iload_n 1, (.iload 1, 1, 0, 0)), (4, .if_icmp .ge 18, (.if_icmp .ge 22, 3, 0, 0)), (7, .aload_n 0, (.aload 0, 1, 0, 0)), (8, .iload_n 3, (.iload 3, 1, 0, 0)), (9, .iaload, (.iaload, 1, 0, 0)), (10, .iload_n 2, (.iload 2, 1, 0, 0)), (11, .if_icmp .ne 5, (.if_icmp .ne 16, 3, 0, 0)), (14, .iload_n 3, (.iload 3, 1, 0, 0)), (15, .ireturn, (.ireturn, 1, 0, 0)), (16, .iinc 3 1, (.iinc 3 1, 3, 0, 0)), (19, .goto (-17), (.goto 2, 3, 0, 0)), (22, .iconst (-1), (.iconst (-1), 1, 0, 0)), (23, .ireturn, (.ireturn, 1, 0, 0))]
set_option maxRecDepth 100000 in
theorem gK40 : gR40.all (fun r => @decide _ (xrowD (gW9 ++ gWT) gCl gTy gTf gNf gMc "PointsTo" gY gLdcs gM40.1 gM40.2.1 gM40.2.2.2.1 gM40.2.2.2.2.1 r)) = true := by decide +kernel
/-- PointsTo$Program.classNamed(I)I -/
def gR41 : List (Nat × Instr × xI) := [(0, .aload_n 0, (.aload 0, 1, 0, 0)), (1, .getfield 9, (.getfield 0, 3, 6, 9)), (4, .aload_n 0, (.aload 0, 1, 0, 0)), (5, .getfield 51, (.getfield 9, 3, 6, 51)), (8, .iload_n 1, (.iload 1, 1, 0, 0)), (9, .invokestatic 75, (.invokeinterface 40 75, 3, 3, 0)), (12, .ireturn, (.ireturn, 1, 0, 0))]
set_option maxRecDepth 100000 in
theorem gK41 : gR41.all (fun r => @decide _ (xrowD (gW9 ++ gWT) gCl gTy gTf gNf gMc "PointsTo" gY gLdcs gM41.1 gM41.2.1 gM41.2.2.2.1 gM41.2.2.2.2.1 r)) = true := by decide +kernel
/-- PointsTo$Program.addClass(I)Z -/
def gR42 : List (Nat × Instr × xI) := [(0, .aload_n 0, (.aload 0, 1, 0, 0)), (1, .getfield 51, (.getfield 9, 3, 6, 51)), (4, .bipush 6, (.iconst 6, 2, 0, 0)), (6, .if_icmp .eq 12, (.if_icmp .eq 18, 3, 0, 0)), (9, .aload_n 0, (.aload 0, 1, 0, 0)), (10, .iload_n 1, (.iload 1, 1, 0, 0)), (11, .invokevirtual 92, (.invokeinterface 41 92, 3, 2, 1)), (14, .iconst (-1), (.iconst (-1), 1, 0, 0)), (15, .if_icmp .eq 5, (.if_icmp .eq 20, 3, 0, 0)), (18, .iconst 0, (.iconst 0, 1, 0, 0)), (19, .ireturn, (.ireturn, 1, 1, 0)), (20, .aload_n 0, (.aload 0, 1, 0, 0)), (21, .getfield 9, (.getfield 0, 3, 6, 9)), (24, .aload_n 0, (.aload 0, 1, 0, 0)), (25, .getfield 51, (.getfield 9, 3, 6, 51)), (28, .iload_n 1, (.iload 1, 1, 0, 0)), (29, .iastore, (.iastore, 1, 0, 0)), (30, .aload_n 0, (.aload 0, 1, 0, 0)), (31, .getfield 15, (.getfield 1, 3, 6, 15)), (34, .aload_n 0, (.aload 0, 1, 0, 0)), (35, .getfield 51, (.getfield 9, 3, 6, 51)), (38, .iconst (-1), (.iconst (-1), 1, 0, 0)), (39, .iastore, (.iastore, 1, 0, 0)), (40, .aload_n 0, (.aload 0, 1, 0, 0)), (41, .getfield 18, (.getfield 2, 3, 6, 18)), (44, .aload_n 0, (.aload 0, 1, 0, 0)), (45, .getfield 51, (.getfield 9, 3, 6, 51)), (48, .iconst 0, (.iconst 0, 1, 0, 0)), (49, .iastore, (.iastore, 1, 0, 0)), (50, .aload_n 0, (.aload 0, 1, 0, 0)), (51, .dup, (.dup, 1, 0, 0)), (52, .getfield 51, (.getfield 9, 3, 6, 51)), (55, .iconst 1, (.iconst 1, 1, 0, 0)), (56, .iadd, (.iadd, 1, 0, 0)), (57, .putfield 51, (.putfield 9, 3, 6, 0)), (60, .iconst 1, (.iconst 1, 1, 0, 0)), (61, .ireturn, (.ireturn, 1, 1, 0))]
set_option maxRecDepth 100000 in
theorem gK42 : gR42.all (fun r => @decide _ (xrowD (gW9 ++ gWT) gCl gTy gTf gNf gMc "PointsTo" gY gLdcs gM42.1 gM42.2.1 gM42.2.2.2.1 gM42.2.2.2.2.1 r)) = true := by decide +kernel
/-- PointsTo$Parser.refuse()Z -/
def gR43 : List (Nat × Instr × xI) := [(0, .aload_n 0, (.aload 0, 1, 0, 0)), (1, .aload_n 0, (.aload 0, 1, 0, 0)), (2, .getfield 12, (.getfield 0, 3, 1, 12)), (5, .getfield 71, (.getfield 2, 3, 0, 71)), (8, .aload_n 0, (.aload 0, 1, 0, 0)), (9, .getfield 31, (.getfield 2, 3, 1, 31)), (12, .iaload, (.iaload, 1, 0, 0)), (13, .putfield 62, (.putfield 4, 3, 1, 0)), (16, .iconst 0, (.iconst 0, 1, 0, 0)), (17, .ireturn, (.ireturn, 1, 1, 0))]
set_option maxRecDepth 100000 in
theorem gK43 : gR43.all (fun r => @decide _ (xrowD (gW4 ++ gWT) gCl gTy gTf gNf gMc "PointsTo" gY gLdcs gM43.1 gM43.2.1 gM43.2.2.2.1 gM43.2.2.2.2.1 r)) = true := by decide +kernel
/-- PointsTo$Program.putBelow(I)Z -/
def gR44 : List (Nat × Instr × xI) := [(0, .aload_n 0, (.aload 0, 1, 0, 0)), (1, .getfield 51, (.getfield 9, 3, 6, 51)), (4, .iconst 1, (.iconst 1, 1, 0, 0)), (5, .isub, (.isub, 1, 0, 0)), (6, .istore_n 2, (.istore 2, 1, 0, 0)), (7, .aload_n 0, (.aload 0, 1, 0, 0)), (8, .iload_n 1, (.iload 1, 1, 0, 0)), (9, .invokevirtual 92, (.invokeinterface 41 92, 3, 2, 1)), (12, .istore_n 3, (.istore 3, 1, 0, 0)), (13, .iload_n 3, (.iload 3, 1, 0, 0)), (14, .iconst (-1), (.iconst (-1), 1, 0, 0)), (15, .if_icmp .eq 8, (.if_icmp .eq 23, 3, 0, 0)), (18, .iload_n 3, (.iload 3, 1, 0, 0)), (19, .iload_n 2, (.iload 2, 1, 0, 0)), (20, .if_icmp .ne 5, (.if_icmp .ne 25, 3, 0, 0)), (23, .iconst 0, (.iconst 0, 1, 0, 0)), (24, .ireturn, (.ireturn, 1, 1, 0)), (25, .aload_n 0, (.aload 0, 1, 0, 0)), (26, .getfield 15, (.getfield 1, 3, 6, 15)), (29, .iload_n 2, (.iload 2, 1, 0, 0)), (30, .iload_n 3, (.iload 3, 1, 0, 0)), (31, .iastore, (.iastore, 1, 0, 0)), (32, .aload_n 0, (.aload 0, 1, 0, 0)), (33, .getfield 18, (.getfield 2, 3, 6, 18)), (36, .iload_n 2, (.iload 2, 1, 0, 0)), (37, .aload_n 0, (.aload 0, 1, 0, 0)), (38, .getfield 18, (.getfield 2, 3, 6, 18)), (41, .iload_n 3, (.iload 3, 1, 0, 0)), (42, .iaload, (.iaload, 1, 0, 0)), (43, .iastore, (.iastore, 1, 0, 0)), (44, .iconst 1, (.iconst 1, 1, 0, 0)), (45, .ireturn, (.ireturn, 1, 1, 0))]
set_option maxRecDepth 100000 in
theorem gK44 : gR44.all (fun r => @decide _ (xrowD (gW9 ++ gWT) gCl gTy gTf gNf gMc "PointsTo" gY gLdcs gM44.1 gM44.2.1 gM44.2.2.2.1 gM44.2.2.2.2.1 r)) = true := by decide +kernel
/-- PointsTo$Parser.parseClassHead()Z -/
def gR45 : List (Nat × Instr × xI) := [(0, .aload_n 0, (.aload 0, 1, 0, 0)), (1, .iconst 1, (.iconst 1, 1, 0, 0)), (2, .invokevirtual 74, (.invokeinterface 37 74, 3, 2, 1)), (5, .ifCond .ne 5, (.ifCond .ne 10, 3, 0, 0)), (8, .iconst 0, (.iconst 0, 1, 0, 0)), (9, .ireturn, (.ireturn, 1, 1, 0)), (10, .aload_n 0, (.aload 0, 1, 0, 0)), (11, .invokevirtual 43, (.invokeinterface 38 43, 3, 1, 1)), (14, .bipush 11, (.iconst 11, 2, 0, 0)), (16, .if_icmp .ne 17, (.if_icmp .ne 33, 3, 0, 0)), (19, .aload_n 0, (.aload 0, 1, 0, 0)), (20, .getfield 18, (.getfield 1, 3, 1, 18)), (23, .aload_n 0, (.aload 0, 1, 0, 0)), (24, .invokevirtual 78, (.invokeinterface 39 78, 3, 1, 1)), (27, .invokevirtual 80, (.invokeinterface 42 80, 3, 2, 1)), (30, .ifCond .ne 8, (.ifCond .ne 38, 3, 0, 0)), (33, .aload_n 0, (.aload 0, 1, 0, 0)), (34, .invokevirtual 56, (.invokeinterface 43 56, 3, 1, 1)), (37, .ireturn, (.ireturn, 1, 1, 0)), (38, .aload_n 0, (.aload 0, 1, 0, 0)), (39, .dup, (.dup, 1, 0, 0)), (40, .getfield 31, (.getfield 2, 3, 1, 31)), (43, .iconst 1, (.iconst 1, 1, 0, 0)), (44, .iadd, (.iadd, 1, 0, 0)), (45, .putfield 31, (.putfield 2, 3, 1, 0)), (48, .aload_n 0, (.aload 0, 1, 0, 0)), (49, .invokevirtual 43, (.invokeinterface 38 43, 3, 1, 1)), (52, .bipush 58, (.iconst 58, 2, 0, 0)), (54, .if_icmp .ne 51, (.if_icmp .ne 105, 3, 0, 0)), (57, .aload_n 0, (.aload 0, 1, 0, 0)), (58, .dup, (.dup, 1, 0, 0)), (59, .getfield 31, (.getfield 2, 3, 1, 31)), (62, .iconst 1, (.iconst 1, 1, 0, 0)), (63, .iadd, (.iadd, 1, 0, 0)), (64, .putfield 31, (.putfield 2, 3, 1, 0)), (67, .aload_n 0, (.aload 0, 1, 0, 0)), (68, .invokevirtual 43, (.invokeinterface 38 43, 3, 1, 1)), (71, .bipush 11, (.iconst 11, 2, 0, 0)), (73, .if_icmp .ne 17, (.if_icmp .ne 90, 3, 0, 0)), (76, .aload_n 0, (.aload 0, 1, 0, 0)), (77, .getfield 18, (.getfield 1, 3, 1, 18)), (80, .aload_n 0, (.aload 0, 1, 0, 0)), (81, .invokevirtual 78, (.invokeinterface 39 78, 3, 1, 1)), (84, .invokevirtual 83, (.invokeinterface 44 83, 3, 2, 1)), (87, .ifCond .ne 8, (.ifCond .ne 95, 3, 0, 0)), (90, .aload_n 0, (.aload 0, 1, 0, 0)), (91, .invokevirtual 56, (.invokeinterface 43 56, 3, 1, 1)), (94, .ireturn, (.ireturn, 1, 1, 0)), (95, .aload_n 0, (.aload 0, 1, 0, 0)), (96, .dup, (.dup, 1, 0, 0)), (97, .getfield 31, (.getfield 2, 3, 1, 31)), (100, .iconst 1, (.iconst 1, 1, 0, 0)), (101, .iadd, (.iadd, 1, 0, 0)), (102, .putfield 31, (.putfield 2, 3, 1, 0)), (105, .aload_n 0, (.aload 0, 1, 0, 0)), (106, .bipush 123, (.iconst 123, 2, 0, 0)), (108, .invokevirtual 74, (.invokeinterface 37 74, 3, 2, 1)), (111, .ireturn, (.ireturn, 1, 1, 0))]
set_option maxRecDepth 100000 in
theorem gK45 : gR45.all (fun r => @decide _ (xrowD (gW4 ++ gWT) gCl gTy gTf gNf gMc "PointsTo" gY gLdcs gM45.1 gM45.2.1 gM45.2.2.2.1 gM45.2.2.2.2.1 r)) = true := by decide +kernel
/-- PointsTo$Program.fieldNamed(I)I -/
def gR46 : List (Nat × Instr × xI) := [(0, .aload_n 0, (.aload 0, 1, 0, 0)), (1, .getfield 21, (.getfield 3, 3, 6, 21)), (4, .aload_n 0, (.aload 0, 1, 0, 0)), (5, .getfield 57, (.getfield 11, 3, 6, 57)), (8, .iload_n 1, (.iload 1, 1, 0, 0)), (9, .invokestatic 75, (.invokeinterface 40 75, 3, 3, 0)), (12, .ireturn, (.ireturn, 1, 0, 0))]
set_option maxRecDepth 100000 in
theorem gK46 : gR46.all (fun r => @decide _ (xrowD (gW9 ++ gWT) gCl gTy gTf gNf gMc "PointsTo" gY gLdcs gM46.1 gM46.2.1 gM46.2.2.2.1 gM46.2.2.2.2.1 r)) = true := by decide +kernel
/-- PointsTo$Program.hasField(II)Z -/
def gR47 : List (Nat × Instr × xI) := [(0, .iload_n 2, (.iload 2, 1, 0, 0)), (1, .iconst (-1), (.iconst (-1), 1, 0, 0)), (2, .if_icmp .eq 21, (.if_icmp .eq 23, 3, 0, 0)), (5, .aload_n 0, (.aload 0, 1, 0, 0)), (6, .getfield 18, (.getfield 2, 3, 6, 18)), (9, .iload_n 1, (.iload 1, 1, 0, 0)), (10, .iaload, (.iaload, 1, 0, 0)), (11, .iload_n 2, (.iload 2, 1, 0, 0)), (12, .ishr, (.ishr, 1, 0, 0)), (13, .iconst 1, (.iconst 1, 1, 0, 0)), (14, .iand, (.iand, 1, 0, 0)), (15, .iconst 1, (.iconst 1, 1, 0, 0)), (16, .if_icmp .ne 7, (.if_icmp .ne 23, 3, 0, 0)), (19, .iconst 1, (.iconst 1, 1, 0, 0)), (20, .goto 4, (.goto 24, 3, 0, 0)), (23, .iconst 0, (.iconst 0, 1, 0, 0)), (24, .ireturn, (.ireturn, 1, 1, 0))]
set_option maxRecDepth 100000 in
theorem gK47 : gR47.all (fun r => @decide _ (xrowD (gW9 ++ gWT) gCl gTy gTf gNf gMc "PointsTo" gY gLdcs gM47.1 gM47.2.1 gM47.2.2.2.1 gM47.2.2.2.2.1 r)) = true := by decide +kernel
/-- PointsTo$Program.addField(I)Z -/
def gR48 : List (Nat × Instr × xI) := [(0, .aload_n 0, (.aload 0, 1, 0, 0)), (1, .getfield 51, (.getfield 9, 3, 6, 51)), (4, .iconst 1, (.iconst 1, 1, 0, 0)), (5, .isub, (.isub, 1, 0, 0)), (6, .istore_n 2, (.istore 2, 1, 0, 0)), (7, .aload_n 0, (.aload 0, 1, 0, 0)), (8, .iload_n 1, (.iload 1, 1, 0, 0)), (9, .invokevirtual 96, (.invokeinterface 46 96, 3, 2, 1)), (12, .istore_n 3, (.istore 3, 1, 0, 0)), (13, .iload_n 3, (.iload 3, 1, 0, 0)), (14, .iconst (-1), (.iconst (-1), 1, 0, 0)), (15, .if_icmp .ne 39, (.if_icmp .ne 54, 3, 0, 0)), (18, .aload_n 0, (.aload 0, 1, 0, 0)), (19, .getfield 57, (.getfield 11, 3, 6, 57)), (22, .bipush 8, (.iconst 8, 2, 0, 0)), (24, .if_icmp .ne 5, (.if_icmp .ne 29, 3, 0, 0)), (27, .iconst 0, (.iconst 0, 1, 0, 0)), (28, .ireturn, (.ireturn, 1, 1, 0)), (29, .aload_n 0, (.aload 0, 1, 0, 0)), (30, .getfield 57, (.getfield 11, 3, 6, 57)), (33, .istore_n 3, (.istore 3, 1, 0, 0)), (34, .aload_n 0, (.aload 0, 1, 0, 0)), (35, .getfield 21, (.getfield 3, 3, 6, 21)), (38, .aload_n 0, (.aload 0, 1, 0, 0)), (39, .getfield 57, (.getfield 11, 3, 6, 57)), (42, .iload_n 1, (.iload 1, 1, 0, 0)), (43, .iastore, (.iastore, 1, 0, 0)), (44, .aload_n 0, (.aload 0, 1, 0, 0)), (45, .dup, (.dup, 1, 0, 0)), (46, .getfield 57, (.getfield 11, 3, 6, 57)), (49, .iconst 1, (.iconst 1, 1, 0, 0)), (50, .iadd, (.iadd, 1, 0, 0)), (51, .putfield 57, (.putfield 11, 3, 6, 0)), (54, .aload_n 0, (.aload 0, 1, 0, 0)), (55, .iload_n 2, (.iload 2, 1, 0, 0)), (56, .iload_n 3, (.iload 3, 1, 0, 0)), (57, .invokevirtual 99, (.invokeinterface 47 99, 3, 3, 1)), (60, .ifCond .eq 5, (.ifCond .eq 65, 3, 0, 0)), (63, .iconst 0, (.iconst 0, 1, 0, 0)), (64, .ireturn, (.ireturn, 1, 1, 0)), (65, .aload_n 0, (.aload 0, 1, 0, 0)), (66, .getfield 18, (.getfield 2, 3, 6, 18)), (69, .iload_n 2, (.iload 2, 1, 0, 0)), (70, .dup2, (.dup2, 1, 0, 0)), (71, .iaload, (.iaload, 1, 0, 0)), (72, .iconst 1, (.iconst 1, 1, 0, 0)), (73, .iload_n 3, (.iload 3, 1, 0, 0)), (74, .ishl, (.ishl, 1, 0, 0)), (75, .ior, (.ior, 1, 0, 0)), (76, .iastore, (.iastore, 1, 0, 0)), (77, .iconst 1, (.iconst 1, 1, 0, 0)), (78, .ireturn, (.ireturn, 1, 1, 0))]
set_option maxRecDepth 100000 in
theorem gK48 : gR48.all (fun r => @decide _ (xrowD (gW9 ++ gWT) gCl gTy gTf gNf gMc "PointsTo" gY gLdcs gM48.1 gM48.2.1 gM48.2.2.2.1 gM48.2.2.2.2.1 r)) = true := by decide +kernel
end
