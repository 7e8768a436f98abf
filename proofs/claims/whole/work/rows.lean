section
-- ===== PART A: goes FIRST, ahead of the names: the tables' words, and 'selects' of the private methods out of them =====
/-- a private method of a class that the tables say can be made, by its rows of tables_1 -/
def lw_okq (q : MethodName × Nat) : Prop := (q.1.cls ≠ "java/lang/invoke/MethodHandle" ∧ q.1.cls ≠ "java/lang/invoke/VarHandle") ∧ Cond.instantiable q.1.cls q.2 ∈ tables_1 ∧ Cond.privateMethod q.1 ∈ tables_1 ∧ Cond.instanceMethod q.1 ∈ tables_1
theorem lw_p0 : lw_okq (⟨"HomeGateway", "appendWord", "(I)V"⟩, 7) := ⟨⟨by decide +kernel, by decide +kernel⟩, List.mem_of_getElem? (i := 22) (by decide +kernel), List.mem_of_getElem? (i := 320) (by decide +kernel), List.mem_of_getElem? (i := 321) (by decide +kernel)⟩
theorem lw_p1 : lw_okq (⟨"java/lang/Throwable", "fillInStackTrace", "(I)Ljava/lang/Throwable;"⟩, 6) := ⟨⟨by decide +kernel, by decide +kernel⟩, List.mem_of_getElem? (i := 449) (by decide +kernel), List.mem_of_getElem? (i := 447) (by decide +kernel), List.mem_of_getElem? (i := 448) (by decide +kernel)⟩
theorem lw_p2 : lw_okq (⟨"HomeGateway$SetupReader", "readHead", "()Z"⟩, 11) := ⟨⟨by decide +kernel, by decide +kernel⟩, List.mem_of_getElem? (i := 252) (by decide +kernel), List.mem_of_getElem? (i := 493) (by decide +kernel), List.mem_of_getElem? (i := 494) (by decide +kernel)⟩
theorem lw_p3 : lw_okq (⟨"HomeGateway$SetupReader", "readWord", "()V"⟩, 11) := ⟨⟨by decide +kernel, by decide +kernel⟩, List.mem_of_getElem? (i := 252) (by decide +kernel), List.mem_of_getElem? (i := 497) (by decide +kernel), List.mem_of_getElem? (i := 498) (by decide +kernel)⟩
theorem lw_p4 : lw_okq (⟨"HomeGateway$SetupReader", "startToken", "()V"⟩, 11) := ⟨⟨by decide +kernel, by decide +kernel⟩, List.mem_of_getElem? (i := 252) (by decide +kernel), List.mem_of_getElem? (i := 501) (by decide +kernel), List.mem_of_getElem? (i := 502) (by decide +kernel)⟩
theorem lw_p5 : lw_okq (⟨"HomeGateway$SetupReader", "byteAt", "(I)I"⟩, 11) := ⟨⟨by decide +kernel, by decide +kernel⟩, List.mem_of_getElem? (i := 252) (by decide +kernel), List.mem_of_getElem? (i := 505) (by decide +kernel), List.mem_of_getElem? (i := 506) (by decide +kernel)⟩
theorem lw_p6 : lw_okq (⟨"HomeGateway$SetupReader", "isLetterAt", "(I)Z"⟩, 11) := ⟨⟨by decide +kernel, by decide +kernel⟩, List.mem_of_getElem? (i := 252) (by decide +kernel), List.mem_of_getElem? (i := 509) (by decide +kernel), List.mem_of_getElem? (i := 510) (by decide +kernel)⟩
theorem lw_p7 : lw_okq (⟨"HomeGateway$SetupReader", "isWord", "(Ljava/lang/String;)Z"⟩, 11) := ⟨⟨by decide +kernel, by decide +kernel⟩, List.mem_of_getElem? (i := 252) (by decide +kernel), List.mem_of_getElem? (i := 514) (by decide +kernel), List.mem_of_getElem? (i := 515) (by decide +kernel)⟩
theorem lw_p8 : lw_okq (⟨"HomeGateway$SetupReader", "fail", "(I)Z"⟩, 11) := ⟨⟨by decide +kernel, by decide +kernel⟩, List.mem_of_getElem? (i := 252) (by decide +kernel), List.mem_of_getElem? (i := 566) (by decide +kernel), List.mem_of_getElem? (i := 567) (by decide +kernel)⟩
theorem lw_p9 : lw_okq (⟨"HomeGateway$SetupReader", "readNumber", "(II)Z"⟩, 11) := ⟨⟨by decide +kernel, by decide +kernel⟩, List.mem_of_getElem? (i := 252) (by decide +kernel), List.mem_of_getElem? (i := 570) (by decide +kernel), List.mem_of_getElem? (i := 571) (by decide +kernel)⟩
theorem lw_p10 : lw_okq (⟨"HomeGateway$SetupReader", "isDigitAt", "(I)Z"⟩, 11) := ⟨⟨by decide +kernel, by decide +kernel⟩, List.mem_of_getElem? (i := 252) (by decide +kernel), List.mem_of_getElem? (i := 574) (by decide +kernel), List.mem_of_getElem? (i := 575) (by decide +kernel)⟩
theorem lw_p11 : lw_okq (⟨"HomeGateway$SetupReader", "readSemicolon", "()Z"⟩, 11) := ⟨⟨by decide +kernel, by decide +kernel⟩, List.mem_of_getElem? (i := 252) (by decide +kernel), List.mem_of_getElem? (i := 578) (by decide +kernel), List.mem_of_getElem? (i := 579) (by decide +kernel)⟩
theorem lw_p12 : lw_okq (⟨"HomeGateway$SetupReader", "isAtEnd", "()Z"⟩, 11) := ⟨⟨by decide +kernel, by decide +kernel⟩, List.mem_of_getElem? (i := 252) (by decide +kernel), List.mem_of_getElem? (i := 582) (by decide +kernel), List.mem_of_getElem? (i := 583) (by decide +kernel)⟩
theorem lw_p13 : lw_okq (⟨"HomeGateway$SetupReader", "readStatement", "()Z"⟩, 11) := ⟨⟨by decide +kernel, by decide +kernel⟩, List.mem_of_getElem? (i := 252) (by decide +kernel), List.mem_of_getElem? (i := 586) (by decide +kernel), List.mem_of_getElem? (i := 587) (by decide +kernel)⟩
theorem lw_p14 : lw_okq (⟨"HomeGateway$SetupReader", "readDevice", "()Z"⟩, 11) := ⟨⟨by decide +kernel, by decide +kernel⟩, List.mem_of_getElem? (i := 252) (by decide +kernel), List.mem_of_getElem? (i := 591) (by decide +kernel), List.mem_of_getElem? (i := 592) (by decide +kernel)⟩
theorem lw_p15 : lw_okq (⟨"HomeGateway$SetupReader", "readSelector", "()I"⟩, 11) := ⟨⟨by decide +kernel, by decide +kernel⟩, List.mem_of_getElem? (i := 252) (by decide +kernel), List.mem_of_getElem? (i := 595) (by decide +kernel), List.mem_of_getElem? (i := 596) (by decide +kernel)⟩
def lw_privs_1 : List (MethodName × Nat) := [(⟨"HomeGateway", "appendWord", "(I)V"⟩, 7), (⟨"java/lang/Throwable", "fillInStackTrace", "(I)Ljava/lang/Throwable;"⟩, 6), (⟨"HomeGateway$SetupReader", "readHead", "()Z"⟩, 11), (⟨"HomeGateway$SetupReader", "readWord", "()V"⟩, 11), (⟨"HomeGateway$SetupReader", "startToken", "()V"⟩, 11), (⟨"HomeGateway$SetupReader", "byteAt", "(I)I"⟩, 11), (⟨"HomeGateway$SetupReader", "isLetterAt", "(I)Z"⟩, 11), (⟨"HomeGateway$SetupReader", "isWord", "(Ljava/lang/String;)Z"⟩, 11), (⟨"HomeGateway$SetupReader", "fail", "(I)Z"⟩, 11), (⟨"HomeGateway$SetupReader", "readNumber", "(II)Z"⟩, 11), (⟨"HomeGateway$SetupReader", "isDigitAt", "(I)Z"⟩, 11), (⟨"HomeGateway$SetupReader", "readSemicolon", "()Z"⟩, 11), (⟨"HomeGateway$SetupReader", "isAtEnd", "()Z"⟩, 11), (⟨"HomeGateway$SetupReader", "readStatement", "()Z"⟩, 11), (⟨"HomeGateway$SetupReader", "readDevice", "()Z"⟩, 11), (⟨"HomeGateway$SetupReader", "readSelector", "()I"⟩, 11)]
theorem lw_r1 : ∀ q ∈ lw_privs_1, lw_okq q := List.forall_mem_cons.mpr ⟨lw_p0, List.forall_mem_cons.mpr ⟨lw_p1, List.forall_mem_cons.mpr ⟨lw_p2, List.forall_mem_cons.mpr ⟨lw_p3, List.forall_mem_cons.mpr ⟨lw_p4, List.forall_mem_cons.mpr ⟨lw_p5, List.forall_mem_cons.mpr ⟨lw_p6, List.forall_mem_cons.mpr ⟨lw_p7, List.forall_mem_cons.mpr ⟨lw_p8, List.forall_mem_cons.mpr ⟨lw_p9, List.forall_mem_cons.mpr ⟨lw_p10, List.forall_mem_cons.mpr ⟨lw_p11, List.forall_mem_cons.mpr ⟨lw_p12, List.forall_mem_cons.mpr ⟨lw_p13, List.forall_mem_cons.mpr ⟨lw_p14, List.forall_mem_cons.mpr ⟨lw_p15, fun _ h => absurd h List.not_mem_nil⟩⟩⟩⟩⟩⟩⟩⟩⟩⟩⟩⟩⟩⟩⟩⟩
theorem lw_p16 : lw_okq (⟨"HomeGateway$SetupReader", "readRule", "(Z)Z"⟩, 11) := ⟨⟨by decide +kernel, by decide +kernel⟩, List.mem_of_getElem? (i := 252) (by decide +kernel), List.mem_of_getElem? (i := 613) (by decide +kernel), List.mem_of_getElem? (i := 614) (by decide +kernel)⟩
theorem lw_p17 : lw_okq (⟨"HomeGateway$SetupReader", "readWakePorts", "()Z"⟩, 11) := ⟨⟨by decide +kernel, by decide +kernel⟩, List.mem_of_getElem? (i := 252) (by decide +kernel), List.mem_of_getElem? (i := 628) (by decide +kernel), List.mem_of_getElem? (i := 629) (by decide +kernel)⟩
theorem lw_p18 : lw_okq (⟨"HomeGateway$SetupReader", "readWakePort", "()Z"⟩, 11) := ⟨⟨by decide +kernel, by decide +kernel⟩, List.mem_of_getElem? (i := 252) (by decide +kernel), List.mem_of_getElem? (i := 632) (by decide +kernel), List.mem_of_getElem? (i := 633) (by decide +kernel)⟩
theorem lw_p19 : lw_okq (⟨"HomeGateway$SetupReader", "isNumberNext", "()Z"⟩, 11) := ⟨⟨by decide +kernel, by decide +kernel⟩, List.mem_of_getElem? (i := 252) (by decide +kernel), List.mem_of_getElem? (i := 644) (by decide +kernel), List.mem_of_getElem? (i := 645) (by decide +kernel)⟩
theorem lw_p20 : lw_okq (⟨"HomeGateway$SetupReader", "readQuiet", "()Z"⟩, 11) := ⟨⟨by decide +kernel, by decide +kernel⟩, List.mem_of_getElem? (i := 252) (by decide +kernel), List.mem_of_getElem? (i := 649) (by decide +kernel), List.mem_of_getElem? (i := 650) (by decide +kernel)⟩
theorem lw_p21 : lw_okq (⟨"HomeGateway$SetupReader", "readLimit", "()Z"⟩, 11) := ⟨⟨by decide +kernel, by decide +kernel⟩, List.mem_of_getElem? (i := 252) (by decide +kernel), List.mem_of_getElem? (i := 655) (by decide +kernel), List.mem_of_getElem? (i := 656) (by decide +kernel)⟩
theorem lw_p22 : lw_okq (⟨"HomeGateway", "checkDevice", "(I)V"⟩, 7) := ⟨⟨by decide +kernel, by decide +kernel⟩, List.mem_of_getElem? (i := 22) (by decide +kernel), List.mem_of_getElem? (i := 673) (by decide +kernel), List.mem_of_getElem? (i := 674) (by decide +kernel)⟩
theorem lw_p23 : lw_okq (⟨"HomeGateway", "checkSender", "(I)V"⟩, 7) := ⟨⟨by decide +kernel, by decide +kernel⟩, List.mem_of_getElem? (i := 22) (by decide +kernel), List.mem_of_getElem? (i := 754) (by decide +kernel), List.mem_of_getElem? (i := 755) (by decide +kernel)⟩
theorem lw_p24 : lw_okq (⟨"HomeGateway$Gateway", "isIsolated", "(II)Z"⟩, 16) := ⟨⟨by decide +kernel, by decide +kernel⟩, List.mem_of_getElem? (i := 50) (by decide +kernel), List.mem_of_getElem? (i := 767) (by decide +kernel), List.mem_of_getElem? (i := 768) (by decide +kernel)⟩
theorem lw_p25 : lw_okq (⟨"HomeGateway$Gateway", "groupOf", "(I)I"⟩, 16) := ⟨⟨by decide +kernel, by decide +kernel⟩, List.mem_of_getElem? (i := 50) (by decide +kernel), List.mem_of_getElem? (i := 771) (by decide +kernel), List.mem_of_getElem? (i := 772) (by decide +kernel)⟩
theorem lw_p26 : lw_okq (⟨"HomeGateway$Gateway", "hasDevice", "(I)Z"⟩, 16) := ⟨⟨by decide +kernel, by decide +kernel⟩, List.mem_of_getElem? (i := 50) (by decide +kernel), List.mem_of_getElem? (i := 775) (by decide +kernel), List.mem_of_getElem? (i := 776) (by decide +kernel)⟩
theorem lw_p27 : lw_okq (⟨"HomeGateway$Gateway", "isOpen", "(III)Z"⟩, 16) := ⟨⟨by decide +kernel, by decide +kernel⟩, List.mem_of_getElem? (i := 50) (by decide +kernel), List.mem_of_getElem? (i := 779) (by decide +kernel), List.mem_of_getElem? (i := 780) (by decide +kernel)⟩
theorem lw_p28 : lw_okq (⟨"HomeGateway", "checkRule", "(I)V"⟩, 7) := ⟨⟨by decide +kernel, by decide +kernel⟩, List.mem_of_getElem? (i := 22) (by decide +kernel), List.mem_of_getElem? (i := 815) (by decide +kernel), List.mem_of_getElem? (i := 816) (by decide +kernel)⟩
theorem lw_p29 : lw_okq (⟨"HomeGateway$RuleList", "isCoveredFor", "(III)Z"⟩, 2) := ⟨⟨by decide +kernel, by decide +kernel⟩, List.mem_of_getElem? (i := 126) (by decide +kernel), List.mem_of_getElem? (i := 825) (by decide +kernel), List.mem_of_getElem? (i := 826) (by decide +kernel)⟩
theorem lw_p30 : lw_okq (⟨"HomeGateway$RuleList", "matchesEarlier", "(IIII)Z"⟩, 2) := ⟨⟨by decide +kernel, by decide +kernel⟩, List.mem_of_getElem? (i := 126) (by decide +kernel), List.mem_of_getElem? (i := 829) (by decide +kernel), List.mem_of_getElem? (i := 830) (by decide +kernel)⟩
theorem lw_p31 : lw_okq (⟨"HomeGateway$Gateway", "serveLine", "()I"⟩, 16) := ⟨⟨by decide +kernel, by decide +kernel⟩, List.mem_of_getElem? (i := 50) (by decide +kernel), List.mem_of_getElem? (i := 870) (by decide +kernel), List.mem_of_getElem? (i := 871) (by decide +kernel)⟩
def lw_privs_2 : List (MethodName × Nat) := [(⟨"HomeGateway$SetupReader", "readRule", "(Z)Z"⟩, 11), (⟨"HomeGateway$SetupReader", "readWakePorts", "()Z"⟩, 11), (⟨"HomeGateway$SetupReader", "readWakePort", "()Z"⟩, 11), (⟨"HomeGateway$SetupReader", "isNumberNext", "()Z"⟩, 11), (⟨"HomeGateway$SetupReader", "readQuiet", "()Z"⟩, 11), (⟨"HomeGateway$SetupReader", "readLimit", "()Z"⟩, 11), (⟨"HomeGateway", "checkDevice", "(I)V"⟩, 7), (⟨"HomeGateway", "checkSender", "(I)V"⟩, 7), (⟨"HomeGateway$Gateway", "isIsolated", "(II)Z"⟩, 16), (⟨"HomeGateway$Gateway", "groupOf", "(I)I"⟩, 16), (⟨"HomeGateway$Gateway", "hasDevice", "(I)Z"⟩, 16), (⟨"HomeGateway$Gateway", "isOpen", "(III)Z"⟩, 16), (⟨"HomeGateway", "checkRule", "(I)V"⟩, 7), (⟨"HomeGateway$RuleList", "isCoveredFor", "(III)Z"⟩, 2), (⟨"HomeGateway$RuleList", "matchesEarlier", "(IIII)Z"⟩, 2), (⟨"HomeGateway$Gateway", "serveLine", "()I"⟩, 16)]
theorem lw_r2 : ∀ q ∈ lw_privs_2, lw_okq q := List.forall_mem_cons.mpr ⟨lw_p16, List.forall_mem_cons.mpr ⟨lw_p17, List.forall_mem_cons.mpr ⟨lw_p18, List.forall_mem_cons.mpr ⟨lw_p19, List.forall_mem_cons.mpr ⟨lw_p20, List.forall_mem_cons.mpr ⟨lw_p21, List.forall_mem_cons.mpr ⟨lw_p22, List.forall_mem_cons.mpr ⟨lw_p23, List.forall_mem_cons.mpr ⟨lw_p24, List.forall_mem_cons.mpr ⟨lw_p25, List.forall_mem_cons.mpr ⟨lw_p26, List.forall_mem_cons.mpr ⟨lw_p27, List.forall_mem_cons.mpr ⟨lw_p28, List.forall_mem_cons.mpr ⟨lw_p29, List.forall_mem_cons.mpr ⟨lw_p30, List.forall_mem_cons.mpr ⟨lw_p31, fun _ h => absurd h List.not_mem_nil⟩⟩⟩⟩⟩⟩⟩⟩⟩⟩⟩⟩⟩⟩⟩⟩
theorem lw_p32 : lw_okq (⟨"HomeGateway$Gateway", "nextToServe", "()I"⟩, 16) := ⟨⟨by decide +kernel, by decide +kernel⟩, List.mem_of_getElem? (i := 50) (by decide +kernel), List.mem_of_getElem? (i := 874) (by decide +kernel), List.mem_of_getElem? (i := 875) (by decide +kernel)⟩
theorem lw_p33 : lw_okq (⟨"HomeGateway$Gateway", "canBeServed", "(LHomeGateway$Device;)Z"⟩, 16) := ⟨⟨by decide +kernel, by decide +kernel⟩, List.mem_of_getElem? (i := 50) (by decide +kernel), List.mem_of_getElem? (i := 878) (by decide +kernel), List.mem_of_getElem? (i := 879) (by decide +kernel)⟩
theorem lw_p34 : lw_okq (⟨"HomeGateway$PacketStore", "holds", "(I)Z"⟩, 4) := ⟨⟨by decide +kernel, by decide +kernel⟩, List.mem_of_getElem? (i := 30) (by decide +kernel), List.mem_of_getElem? (i := 887) (by decide +kernel), List.mem_of_getElem? (i := 888) (by decide +kernel)⟩
theorem lw_p35 : lw_okq (⟨"HomeGateway$Gateway", "leastVirtualTime", "()J"⟩, 16) := ⟨⟨by decide +kernel, by decide +kernel⟩, List.mem_of_getElem? (i := 50) (by decide +kernel), List.mem_of_getElem? (i := 929) (by decide +kernel), List.mem_of_getElem? (i := 930) (by decide +kernel)⟩
theorem lw_p36 : lw_okq (⟨"HomeGateway", "checkGateway", "()V"⟩, 7) := ⟨⟨by decide +kernel, by decide +kernel⟩, List.mem_of_getElem? (i := 22) (by decide +kernel), List.mem_of_getElem? (i := 962) (by decide +kernel), List.mem_of_getElem? (i := 963) (by decide +kernel)⟩
theorem lw_p37 : lw_okq (⟨"HomeGatewayModel", "fails", "(ZI)Z"⟩, 18) := ⟨⟨by decide +kernel, by decide +kernel⟩, List.mem_of_getElem? (i := 1044) (by decide +kernel), List.mem_of_getElem? (i := 1125) (by decide +kernel), List.mem_of_getElem? (i := 1126) (by decide +kernel)⟩
theorem lw_p38 : lw_okq (⟨"HomeGatewayModel", "takeWord", "(Ljava/lang/String;)Z"⟩, 18) := ⟨⟨by decide +kernel, by decide +kernel⟩, List.mem_of_getElem? (i := 1044) (by decide +kernel), List.mem_of_getElem? (i := 1130) (by decide +kernel), List.mem_of_getElem? (i := 1131) (by decide +kernel)⟩
theorem lw_p39 : lw_okq (⟨"HomeGatewayModel", "isGood", "()Z"⟩, 18) := ⟨⟨by decide +kernel, by decide +kernel⟩, List.mem_of_getElem? (i := 1044) (by decide +kernel), List.mem_of_getElem? (i := 1134) (by decide +kernel), List.mem_of_getElem? (i := 1135) (by decide +kernel)⟩
theorem lw_p40 : lw_okq (⟨"HomeGatewayModel", "next", "()I"⟩, 18) := ⟨⟨by decide +kernel, by decide +kernel⟩, List.mem_of_getElem? (i := 1044) (by decide +kernel), List.mem_of_getElem? (i := 1138) (by decide +kernel), List.mem_of_getElem? (i := 1139) (by decide +kernel)⟩
theorem lw_p41 : lw_okq (⟨"HomeGatewayModel", "byteAt", "(I)I"⟩, 18) := ⟨⟨by decide +kernel, by decide +kernel⟩, List.mem_of_getElem? (i := 1044) (by decide +kernel), List.mem_of_getElem? (i := 1142) (by decide +kernel), List.mem_of_getElem? (i := 1143) (by decide +kernel)⟩
theorem lw_p42 : lw_okq (⟨"HomeGatewayModel", "report", "(II)V"⟩, 18) := ⟨⟨by decide +kernel, by decide +kernel⟩, List.mem_of_getElem? (i := 1044) (by decide +kernel), List.mem_of_getElem? (i := 1151) (by decide +kernel), List.mem_of_getElem? (i := 1152) (by decide +kernel)⟩
theorem lw_p43 : lw_okq (⟨"HomeGatewayModel", "number", "(II)I"⟩, 18) := ⟨⟨by decide +kernel, by decide +kernel⟩, List.mem_of_getElem? (i := 1044) (by decide +kernel), List.mem_of_getElem? (i := 1155) (by decide +kernel), List.mem_of_getElem? (i := 1156) (by decide +kernel)⟩
theorem lw_p44 : lw_okq (⟨"HomeGatewayModel", "expect", "(I)V"⟩, 18) := ⟨⟨by decide +kernel, by decide +kernel⟩, List.mem_of_getElem? (i := 1044) (by decide +kernel), List.mem_of_getElem? (i := 1166) (by decide +kernel), List.mem_of_getElem? (i := 1167) (by decide +kernel)⟩
theorem lw_p45 : lw_okq (⟨"HomeGatewayModel", "statement", "()V"⟩, 18) := ⟨⟨by decide +kernel, by decide +kernel⟩, List.mem_of_getElem? (i := 1044) (by decide +kernel), List.mem_of_getElem? (i := 1170) (by decide +kernel), List.mem_of_getElem? (i := 1171) (by decide +kernel)⟩
theorem lw_p46 : lw_okq (⟨"HomeGatewayModel", "readDevice", "(I)V"⟩, 18) := ⟨⟨by decide +kernel, by decide +kernel⟩, List.mem_of_getElem? (i := 1044) (by decide +kernel), List.mem_of_getElem? (i := 1175) (by decide +kernel), List.mem_of_getElem? (i := 1176) (by decide +kernel)⟩
theorem lw_p47 : lw_okq (⟨"HomeGatewayModel", "readGroup", "()I"⟩, 18) := ⟨⟨by decide +kernel, by decide +kernel⟩, List.mem_of_getElem? (i := 1044) (by decide +kernel), List.mem_of_getElem? (i := 1179) (by decide +kernel), List.mem_of_getElem? (i := 1180) (by decide +kernel)⟩
def lw_privs_3 : List (MethodName × Nat) := [(⟨"HomeGateway$Gateway", "nextToServe", "()I"⟩, 16), (⟨"HomeGateway$Gateway", "canBeServed", "(LHomeGateway$Device;)Z"⟩, 16), (⟨"HomeGateway$PacketStore", "holds", "(I)Z"⟩, 4), (⟨"HomeGateway$Gateway", "leastVirtualTime", "()J"⟩, 16), (⟨"HomeGateway", "checkGateway", "()V"⟩, 7), (⟨"HomeGatewayModel", "fails", "(ZI)Z"⟩, 18), (⟨"HomeGatewayModel", "takeWord", "(Ljava/lang/String;)Z"⟩, 18), (⟨"HomeGatewayModel", "isGood", "()Z"⟩, 18), (⟨"HomeGatewayModel", "next", "()I"⟩, 18), (⟨"HomeGatewayModel", "byteAt", "(I)I"⟩, 18), (⟨"HomeGatewayModel", "report", "(II)V"⟩, 18), (⟨"HomeGatewayModel", "number", "(II)I"⟩, 18), (⟨"HomeGatewayModel", "expect", "(I)V"⟩, 18), (⟨"HomeGatewayModel", "statement", "()V"⟩, 18), (⟨"HomeGatewayModel", "readDevice", "(I)V"⟩, 18), (⟨"HomeGatewayModel", "readGroup", "()I"⟩, 18)]
theorem lw_r3 : ∀ q ∈ lw_privs_3, lw_okq q := List.forall_mem_cons.mpr ⟨lw_p32, List.forall_mem_cons.mpr ⟨lw_p33, List.forall_mem_cons.mpr ⟨lw_p34, List.forall_mem_cons.mpr ⟨lw_p35, List.forall_mem_cons.mpr ⟨lw_p36, List.forall_mem_cons.mpr ⟨lw_p37, List.forall_mem_cons.mpr ⟨lw_p38, List.forall_mem_cons.mpr ⟨lw_p39, List.forall_mem_cons.mpr ⟨lw_p40, List.forall_mem_cons.mpr ⟨lw_p41, List.forall_mem_cons.mpr ⟨lw_p42, List.forall_mem_cons.mpr ⟨lw_p43, List.forall_mem_cons.mpr ⟨lw_p44, List.forall_mem_cons.mpr ⟨lw_p45, List.forall_mem_cons.mpr ⟨lw_p46, List.forall_mem_cons.mpr ⟨lw_p47, fun _ h => absurd h List.not_mem_nil⟩⟩⟩⟩⟩⟩⟩⟩⟩⟩⟩⟩⟩⟩⟩⟩
theorem lw_p48 : lw_okq (⟨"HomeGatewayModel", "readRule", "(II)V"⟩, 18) := ⟨⟨by decide +kernel, by decide +kernel⟩, List.mem_of_getElem? (i := 1044) (by decide +kernel), List.mem_of_getElem? (i := 1190) (by decide +kernel), List.mem_of_getElem? (i := 1191) (by decide +kernel)⟩
theorem lw_p49 : lw_okq (⟨"HomeGatewayModel", "readSelector", "()I"⟩, 18) := ⟨⟨by decide +kernel, by decide +kernel⟩, List.mem_of_getElem? (i := 1044) (by decide +kernel), List.mem_of_getElem? (i := 1194) (by decide +kernel), List.mem_of_getElem? (i := 1195) (by decide +kernel)⟩
theorem lw_p50 : lw_okq (⟨"HomeGatewayModel", "once", "(II)V"⟩, 18) := ⟨⟨by decide +kernel, by decide +kernel⟩, List.mem_of_getElem? (i := 1044) (by decide +kernel), List.mem_of_getElem? (i := 1208) (by decide +kernel), List.mem_of_getElem? (i := 1209) (by decide +kernel)⟩
theorem lw_p51 : lw_okq (⟨"HomeGatewayModel", "readWake", "()V"⟩, 18) := ⟨⟨by decide +kernel, by decide +kernel⟩, List.mem_of_getElem? (i := 1044) (by decide +kernel), List.mem_of_getElem? (i := 1212) (by decide +kernel), List.mem_of_getElem? (i := 1213) (by decide +kernel)⟩
theorem lw_p52 : lw_okq (⟨"HomeGatewayModel", "readQuiet", "()V"⟩, 18) := ⟨⟨by decide +kernel, by decide +kernel⟩, List.mem_of_getElem? (i := 1044) (by decide +kernel), List.mem_of_getElem? (i := 1220) (by decide +kernel), List.mem_of_getElem? (i := 1221) (by decide +kernel)⟩
theorem lw_p53 : lw_okq (⟨"HomeGatewayModel", "remember", "()V"⟩, 18) := ⟨⟨by decide +kernel, by decide +kernel⟩, List.mem_of_getElem? (i := 1044) (by decide +kernel), List.mem_of_getElem? (i := 1228) (by decide +kernel), List.mem_of_getElem? (i := 1229) (by decide +kernel)⟩
theorem lw_p54 : lw_okq (⟨"HomeGatewayModel", "noDevice", "(I)Z"⟩, 18) := ⟨⟨by decide +kernel, by decide +kernel⟩, List.mem_of_getElem? (i := 1044) (by decide +kernel), List.mem_of_getElem? (i := 1261) (by decide +kernel), List.mem_of_getElem? (i := 1262) (by decide +kernel)⟩
theorem lw_p55 : lw_okq (⟨"HomeGatewayModel", "backlogOf", "(I)I"⟩, 18) := ⟨⟨by decide +kernel, by decide +kernel⟩, List.mem_of_getElem? (i := 1044) (by decide +kernel), List.mem_of_getElem? (i := 1277) (by decide +kernel), List.mem_of_getElem? (i := 1278) (by decide +kernel)⟩
theorem lw_p56 : lw_okq (⟨"HomeGatewayModel", "noSender", "(I)Z"⟩, 18) := ⟨⟨by decide +kernel, by decide +kernel⟩, List.mem_of_getElem? (i := 1044) (by decide +kernel), List.mem_of_getElem? (i := 1316) (by decide +kernel), List.mem_of_getElem? (i := 1317) (by decide +kernel)⟩
theorem lw_p57 : lw_okq (⟨"HomeGatewayModel", "verdictOf", "(III)I"⟩, 18) := ⟨⟨by decide +kernel, by decide +kernel⟩, List.mem_of_getElem? (i := 1044) (by decide +kernel), List.mem_of_getElem? (i := 1323) (by decide +kernel), List.mem_of_getElem? (i := 1324) (by decide +kernel)⟩
theorem lw_p58 : lw_okq (⟨"HomeGatewayModel", "groupOf", "(I)I"⟩, 18) := ⟨⟨by decide +kernel, by decide +kernel⟩, List.mem_of_getElem? (i := 1044) (by decide +kernel), List.mem_of_getElem? (i := 1327) (by decide +kernel), List.mem_of_getElem? (i := 1328) (by decide +kernel)⟩
theorem lw_p59 : lw_okq (⟨"HomeGatewayModel", "firstRule", "(IIII)I"⟩, 18) := ⟨⟨by decide +kernel, by decide +kernel⟩, List.mem_of_getElem? (i := 1044) (by decide +kernel), List.mem_of_getElem? (i := 1331) (by decide +kernel), List.mem_of_getElem? (i := 1332) (by decide +kernel)⟩
theorem lw_p60 : lw_okq (⟨"HomeGatewayModel", "matches", "(IIII)Z"⟩, 18) := ⟨⟨by decide +kernel, by decide +kernel⟩, List.mem_of_getElem? (i := 1044) (by decide +kernel), List.mem_of_getElem? (i := 1335) (by decide +kernel), List.mem_of_getElem? (i := 1336) (by decide +kernel)⟩
theorem lw_p61 : lw_okq (⟨"HomeGatewayModel", "noRule", "(I)Z"⟩, 18) := ⟨⟨by decide +kernel, by decide +kernel⟩, List.mem_of_getElem? (i := 1044) (by decide +kernel), List.mem_of_getElem? (i := 1347) (by decide +kernel), List.mem_of_getElem? (i := 1348) (by decide +kernel)⟩
theorem lw_p62 : lw_okq (⟨"HomeGatewayModel", "receive", "(IIII)I"⟩, 18) := ⟨⟨by decide +kernel, by decide +kernel⟩, List.mem_of_getElem? (i := 1044) (by decide +kernel), List.mem_of_getElem? (i := 1383) (by decide +kernel), List.mem_of_getElem? (i := 1384) (by decide +kernel)⟩
theorem lw_p63 : lw_okq (⟨"HomeGatewayModel", "wakeUp", "(I)V"⟩, 18) := ⟨⟨by decide +kernel, by decide +kernel⟩, List.mem_of_getElem? (i := 1044) (by decide +kernel), List.mem_of_getElem? (i := 1388) (by decide +kernel), List.mem_of_getElem? (i := 1389) (by decide +kernel)⟩
def lw_privs_4 : List (MethodName × Nat) := [(⟨"HomeGatewayModel", "readRule", "(II)V"⟩, 18), (⟨"HomeGatewayModel", "readSelector", "()I"⟩, 18), (⟨"HomeGatewayModel", "once", "(II)V"⟩, 18), (⟨"HomeGatewayModel", "readWake", "()V"⟩, 18), (⟨"HomeGatewayModel", "readQuiet", "()V"⟩, 18), (⟨"HomeGatewayModel", "remember", "()V"⟩, 18), (⟨"HomeGatewayModel", "noDevice", "(I)Z"⟩, 18), (⟨"HomeGatewayModel", "backlogOf", "(I)I"⟩, 18), (⟨"HomeGatewayModel", "noSender", "(I)Z"⟩, 18), (⟨"HomeGatewayModel", "verdictOf", "(III)I"⟩, 18), (⟨"HomeGatewayModel", "groupOf", "(I)I"⟩, 18), (⟨"HomeGatewayModel", "firstRule", "(IIII)I"⟩, 18), (⟨"HomeGatewayModel", "matches", "(IIII)Z"⟩, 18), (⟨"HomeGatewayModel", "noRule", "(I)Z"⟩, 18), (⟨"HomeGatewayModel", "receive", "(IIII)I"⟩, 18), (⟨"HomeGatewayModel", "wakeUp", "(I)V"⟩, 18)]
theorem lw_r4 : ∀ q ∈ lw_privs_4, lw_okq q := List.forall_mem_cons.mpr ⟨lw_p48, List.forall_mem_cons.mpr ⟨lw_p49, List.forall_mem_cons.mpr ⟨lw_p50, List.forall_mem_cons.mpr ⟨lw_p51, List.forall_mem_cons.mpr ⟨lw_p52, List.forall_mem_cons.mpr ⟨lw_p53, List.forall_mem_cons.mpr ⟨lw_p54, List.forall_mem_cons.mpr ⟨lw_p55, List.forall_mem_cons.mpr ⟨lw_p56, List.forall_mem_cons.mpr ⟨lw_p57, List.forall_mem_cons.mpr ⟨lw_p58, List.forall_mem_cons.mpr ⟨lw_p59, List.forall_mem_cons.mpr ⟨lw_p60, List.forall_mem_cons.mpr ⟨lw_p61, List.forall_mem_cons.mpr ⟨lw_p62, List.forall_mem_cons.mpr ⟨lw_p63, fun _ h => absurd h List.not_mem_nil⟩⟩⟩⟩⟩⟩⟩⟩⟩⟩⟩⟩⟩⟩⟩⟩
theorem lw_p64 : lw_okq (⟨"HomeGatewayModel", "shift", "(II)V"⟩, 18) := ⟨⟨by decide +kernel, by decide +kernel⟩, List.mem_of_getElem? (i := 1044) (by decide +kernel), List.mem_of_getElem? (i := 1417) (by decide +kernel), List.mem_of_getElem? (i := 1418) (by decide +kernel)⟩
theorem lw_p65 : lw_okq (⟨"HomeGatewayModel", "swap", "(II)V"⟩, 18) := ⟨⟨by decide +kernel, by decide +kernel⟩, List.mem_of_getElem? (i := 1044) (by decide +kernel), List.mem_of_getElem? (i := 1421) (by decide +kernel), List.mem_of_getElem? (i := 1422) (by decide +kernel)⟩
def lw_privs_5 : List (MethodName × Nat) := [(⟨"HomeGatewayModel", "shift", "(II)V"⟩, 18), (⟨"HomeGatewayModel", "swap", "(II)V"⟩, 18)]
theorem lw_r5 : ∀ q ∈ lw_privs_5, lw_okq q := List.forall_mem_cons.mpr ⟨lw_p64, List.forall_mem_cons.mpr ⟨lw_p65, fun _ h => absurd h List.not_mem_nil⟩⟩
def lw_privs : List (MethodName × Nat) := lw_privs_1 ++ (lw_privs_2 ++ (lw_privs_3 ++ (lw_privs_4 ++ (lw_privs_5))))
def lw_tbl : List Cond := k2_sels lw_privs ++ tables_1
theorem lw_privs_ok : ∀ q ∈ lw_privs, lw_okq q := by
  show ∀ q ∈ lw_privs_1 ++ (lw_privs_2 ++ (lw_privs_3 ++ (lw_privs_4 ++ (lw_privs_5)))), lw_okq q
  exact List.forall_mem_append.mpr ⟨lw_r1, List.forall_mem_append.mpr ⟨lw_r2, List.forall_mem_append.mpr ⟨lw_r3, List.forall_mem_append.mpr ⟨lw_r4, lw_r5⟩⟩⟩⟩
/-- the streams that the claim lets the run draw from -/
abbrev lw_cs : List Choice := [Jvm.Choice.named "NaN.bits"]
theorem lw_bits : nanBits ∈ lw_cs := by first | decide | exact List.mem_cons_self | simp [lw_cs, nanBits]
/-- an array over arrays can be made -/
def va_AOA (t : FieldType) (U : State) : Prop := (Cond.arrayOver (.array t)).before #[] U = true
theorem va_AOA.use {t : FieldType} {A : Array Value} {U : State} (h : va_AOA t U) : (Cond.arrayOver (.array t)).before A U = true := h
/-! ===== BEGIN words of one list among another's, by their places ===== -/
theorem goodIn_r {big : List Cond} (ws : List Cond) (ps : List Nat) (hp : ws = ps.filterMap (fun i => big[i]?)) (h : ws.all goodWord = true) : GoodIn big ws := by
  intro w hw
  have h1 := List.all_eq_true.mp h w hw
  rw [hp] at hw
  obtain ⟨i, -, hi⟩ := List.mem_filterMap.mp hw
  have hm : w ∈ big := by first | exact List.mem_of_getElem? hi | exact List.getElem?_mem hi
  exact ⟨hm, good_of_word h1⟩
theorem goodIn_app {big a b : List Cond} (ha : GoodIn big a) (hb : GoodIn big b) : GoodIn big (a ++ b) := fun w h => (List.mem_append.mp h).elim (ha w) (hb w)
theorem goodIn_ca {big a b : List Cond} {c : Cond} (ha : GoodIn big (c :: a)) (hb : GoodIn big b) : GoodIn big (c :: (a ++ b)) := fun w h => (List.mem_cons.mp h).elim (fun e => ha w (List.mem_cons.mpr (Or.inl e))) (fun h => (List.mem_append.mp h).elim (fun h => ha w (List.mem_cons.mpr (Or.inr h))) (hb w))
theorem goodIn_sub {big ws : List Cond} (hm : ∀ w ∈ ws, w ∈ big) (h : ws.all goodWord = true) : GoodIn big ws := fun w hw => ⟨hm w hw, good_of_word (List.all_eq_true.mp h w hw)⟩
/-! ===== END ===== -/

/-! ===== BEGIN new T[n][m]: the outer array a place, the inner ones among the pooled ===== -/
/-- f, but v at every address of l -/
def vr_up {α : Type} (f : Nat → α) (l : List Nat) (v : α) : Nat → α := fun a => if a ∈ l then v else f a
theorem vr_up_in {α : Type} {f : Nat → α} {l : List Nat} {v : α} {a : Nat} (h : a ∈ l) : vr_up f l v a = v := if_pos h
theorem vr_up_ne {α : Type} {f : Nat → α} {l : List Nat} {v : α} {a : Nat} (h : a ∉ l) : vr_up f l v a = f a := if_neg h
theorem vr_rows {L l : List Nat} {f : Nat → va_E} {e : va_E} (h : ∀ a, a ∈ l → a ∉ L) : va_pl L f ++ l.map (fun a => (a, e)) = va_pl (L ++ l) (vr_up f l e) := by
  unfold va_pl
  rw [List.map_append]
  congr 1
  · apply List.map_congr_left
    intro a ha
    rw [vr_up_ne (fun q => h a q ha)]
  · apply List.map_congr_left
    intro a ha
    rw [vr_up_in ha]
theorem vr_lay {X rows : va_W} {x : Nat × va_E} {pl : va_W} {D : va_G} {cl : List vw_C} {H : Heap} (hP : va_P D cl (((X ++ pl) ++ [x]) ++ rows) H) : va_P D cl ((X ++ [x]) ++ (pl ++ rows)) H := by
  rw [List.append_assoc (X ++ pl)] at hP
  have h := va_P.swap hP
  rw [← List.append_assoc X] at h
  have h2 := va_P.swap h
  rw [List.append_assoc (X ++ [x])] at h2
  exact h2
theorem vr_layD {X rows : va_W} {x : Nat × va_E} {pl : va_W} {A : Nat → Prop} (hD : va_D A (((X ++ pl) ++ [x]) ++ rows)) : va_D A ((X ++ [x]) ++ (pl ++ rows)) := by
  rw [List.append_assoc (X ++ pl)] at hD
  have h := va_D.swap hD
  rw [← List.append_assoc X] at h
  have h2 := va_D.swap h
  rw [List.append_assoc (X ++ [x])] at h2
  exact h2
theorem vr_outer (c : ClassId) (N h0 : Nat) : ∀ i : Nat, Jvm.Free.Multi.outerC c N h0 i = arrV c N (fun j => va_rf (if j < i then some (h0 + 1 + j) else none))
  | 0 => by
    show ({ cls := c, slots := Array.replicate N .null, vm := .none } : Cell) = _
    rw [arrV_new]
    refine congrArg (arrV c N) (funext fun j => ?_)
    simp [va_rf]
  | i + 1 => by
    show (Jvm.Free.Multi.outerC c N h0 i).setSlot i (.ref (h0 + 1 + i)) = _
    rw [vr_outer c N h0 i, arrV_store]
    refine congrArg (arrV c N) (funext fun j => ?_)
    by_cases e : j = i
    · subst e
      simp [updV, va_rf]
    · by_cases h : j < i
      · simp [updV, e, h, Nat.lt_succ_of_lt h]
      · simp [updV, e, h, show ¬ j < i + 1 by omega]
section VGM
variable {p : Program} {l : Launch} {e : Env} {R : Room} {s : State} {m : MethodId} {args : Array Value} {below : List Frame} {meth : Method} {c : Code} {H : Heap} {locs : List Loc} {cells slots : Nat} {Q : State → Prop}
variable {cc : ByteArray} {pc : Nat} {ls : Array Slot} {rest : List Value} {D : va_G} {cl : List vw_C} {A : Nat → Prop} {a : Nat} {tys : List (ClassId × FieldType)} {ws : va_W} {H0 : Heap}
theorem va_mna {X : va_W} {L : List Nat} {f : Nat → va_E} {cc : ByteArray} (hexec : p.tables.exec = Jvm.exec) (hb : c.code = cc) {own : String} {index : Nat} {ty : FieldType} {cy : ClassId} (hown : s.vm.findClass own = some m.cls) (hclink : (Cond.classLink own index ("[" ++ (FieldType.array ty).toString)).before args s = true) (hover : va_AOA ty s) (harr : (Cond.arrayClass ty).before args s = true) (hcy : s.vm.findClass (FieldType.array ty).toString = some cy)
    (hK : va_K D cl tys s) (hP : va_P D cl (X ++ va_pl L f) H) (hD : va_D A (X ++ va_pl L f)) (hS : va_S A H0 H locs) (hA : ∀ q, H0.size ≤ q → A q) {n k : Int32} {N' K' : Nat} {z : vp_A} (hn : ¬ n < 0) (hk : ¬ k < 0) (hN : n.toNatClampNeg = N') (hM : k.toNatClampNeg = K')
    (hb1 : N' * 4 ≤ 536870912) (hb2 : K' * componentBytes ty ≤ 536870912) (hb3 : K' ≤ 536870912) (hdf : fits ty (defaultValue ty) = true) (hdd : (defaultValue ty).isDefault = true) (hcells : cells + (1 + N') ≤ R.cells) (hslots : slots + (N' + N' * K') ≤ R.slots) (hz : ∀ c : ClassId, Jvm.Free.Multi.innerC c K' (defaultValue ty) = vp_cell c z) (hdg : decode cc pc = .ok (.multianewarray index 2, 4))
    (kk : ∀ (q : Nat) (r : Nat → Nat) (cA : ClassId) (H1 : Heap), (∀ i j : Nat, i < N' → j < N' → r i = r j → i = j) → (∀ i : Nat, i < N' → r i ∉ L) → va_K D cl (tys ++ [(cA, .array ty)]) s →
      va_P D cl ((X ++ [(q, .inl (cA, N', .inr (.inr (.inr (.inr (fun i => if i < N' then some (r i) else none))))))]) ++ va_pl (L ++ (List.range N').map r) (vr_up f ((List.range N').map r) (.inl (cy, z)))) H1 → va_D A ((X ++ [(q, .inl (cA, N', .inr (.inr (.inr (.inr (fun i => if i < N' then some (r i) else none))))))]) ++ va_pl (L ++ (List.range N').map r) (vr_up f ((List.range N').map r) (.inl (cy, z)))) → va_S A H0 H1 locs →
      W p l e R s m args below meth c H1 locs (cells + 1 + N') (slots + N' + N' * K') Q (F0 m (pc + 4) ls (.ref q :: rest))) : W p l e R s m args below meth c H locs cells slots Q (F0 m pc ls (.int k :: .int n :: rest)) := by
  subst hN
  subst hM
  intro T hT Xs
  obtain ⟨vm₁, cA, comp, -, fA, fC, hO, -, X', step⟩ := Xs.multianewarray2F hexec hown hclink (va_AOA.use hover) harr (g := F0 m pc ls (.int k :: .int n :: rest)) rfl (by rw [hb]; exact hdg) rfl hn hk hb1 hb2 hb3 hdf hdd hcells hslots
  have ec : some cy = some comp := hcy.symm.trans fC
  cases ec
  generalize hF : Jvm.Free.Multi.fill (T.setVm vm₁) cA cy n.toNatClampNeg k.toNatClampNeg (defaultValue ty) n.toNatClampNeg = F at X' step
  have hTh : (T.setVm vm₁).heap = H := hT
  obtain ⟨f1, f2, -, -⟩ := Jvm.Free.Multi.fill_facts (T.setVm vm₁) cA cy n.toNatClampNeg k.toNatClampNeg (defaultValue ty) n.toNatClampNeg
  rw [hF, hTh] at f1 f2
  have hold : ∀ x : Nat, x < H.size → F.heap[x]? = H[x]? := fun x hx => by
    have := Jvm.Free.Multi.fill_old (T.setVm vm₁) cA cy n.toNatClampNeg k.toNatClampNeg (defaultValue ty) (a := x) (by rw [hTh]; exact hx) n.toNatClampNeg
    rw [hF, hTh] at this
    exact this
  have hrow : ∀ j : Nat, j < n.toNatClampNeg → F.heap[H.size + 1 + j]? = some (vp_cell cy z) := fun j hj => by
    have := Jvm.Free.Multi.fill_inner (T.setVm vm₁) cA cy n.toNatClampNeg k.toNatClampNeg (defaultValue ty) n.toNatClampNeg j hj
    rw [hF, hTh, hz] at this
    exact this
  have hout : Jvm.Free.Multi.outerC cA n.toNatClampNeg H.size n.toNatClampNeg = vp_cell cA (n.toNatClampNeg, .inr (.inr (.inr (.inr (fun i => if i < n.toNatClampNeg then some (H.size + 1 + i) else none))))) := by
    rw [vp_cell_q]
    exact vr_outer cA n.toNatClampNeg H.size n.toNatClampNeg
  rw [hout] at f2
  have hlt : ∀ a, a ∈ L → a < H.size := fun a ha => by
    obtain ⟨k9, hk9⟩ := va_pl_get (X := X) (f := f) ha
    exact (hP k9 _ hk9).lt
  have hnl : ∀ i : Nat, i < n.toNatClampNeg → H.size + 1 + i ∉ L := fun i _ h => by
    have := hlt _ h
    omega
  have hnm : ∀ a, a ∈ (List.range n.toNatClampNeg).map (fun i => H.size + 1 + i) → a ∉ L := fun a ha h => by
    obtain ⟨i, -, rfl⟩ := List.mem_map.mp ha
    have := hlt _ h
    omega
  have hP0 : va_P D cl (X ++ va_pl L f) F.heap := hP.kept (fun k9 x hx => hold x.1 ((hP k9 x hx).lt))
  have hP1 : va_P D cl ((X ++ va_pl L f) ++ [(H.size, .inl (cA, n.toNatClampNeg, .inr (.inr (.inr (.inr (fun i => if i < n.toNatClampNeg then some (H.size + 1 + i) else none))))))]) F.heap := hP0.app (fun k9 x hx => by
    have h0 : k9 < 1 := (List.getElem?_eq_some_iff.mp hx).1
    rw [show k9 = 0 by omega] at hx
    cases hx
    exact f2)
  have hP2 : va_P D cl (((X ++ va_pl L f) ++ [(H.size, .inl (cA, n.toNatClampNeg, .inr (.inr (.inr (.inr (fun i => if i < n.toNatClampNeg then some (H.size + 1 + i) else none))))))]) ++ ((List.range n.toNatClampNeg).map (fun i => H.size + 1 + i)).map (fun a => (a, .inl (cy, z)))) F.heap := hP1.app (fun k9 x hx => by
    obtain ⟨a, ha, rfl⟩ := List.mem_map.mp (List.mem_of_getElem? hx)
    obtain ⟨i, hi, rfl⟩ := List.mem_map.mp ha
    exact hrow i (List.mem_range.mp hi))
  have hD2 : va_D A (((X ++ va_pl L f) ++ [(H.size, .inl (cA, n.toNatClampNeg, .inr (.inr (.inr (.inr (fun i => if i < n.toNatClampNeg then some (H.size + 1 + i) else none))))))]) ++ ((List.range n.toNatClampNeg).map (fun i => H.size + 1 + i)).map (fun a => (a, .inl (cy, z)))) := by
    have hD1 := hD.push (e := .inl (cA, n.toNatClampNeg, .inr (.inr (.inr (.inr (fun i => if i < n.toNatClampNeg then some (H.size + 1 + i) else none)))))) hP rfl (hA _ hS.1)
    generalize hW1 : (X ++ va_pl L f) ++ [(H.size, .inl (cA, n.toNatClampNeg, .inr (.inr (.inr (.inr (fun i => if i < n.toNatClampNeg then some (H.size + 1 + i) else none))))))] = W1 at hD1 hP1 ⊢
    have hle : ∀ (k9 : Nat) (x : Nat × va_E), W1[k9]? = some x → x.1 ≤ H.size := fun k9 x hx => by
      rw [← hW1] at hx
      by_cases hl : k9 < (X ++ va_pl L f).length
      · rw [List.getElem?_append_left hl] at hx
        exact Nat.le_of_lt ((hP k9 x hx).lt)
      · rw [List.getElem?_append_right (by omega)] at hx
        have h0 : k9 - (X ++ va_pl L f).length < 1 := (List.getElem?_eq_some_iff.mp hx).1
        rw [show k9 - (X ++ va_pl L f).length = 0 by omega] at hx
        cases hx
        exact Nat.le_refl _
    have hr : ∀ (k9 : Nat) (x : Nat × va_E), (((List.range n.toNatClampNeg).map (fun i => H.size + 1 + i)).map (fun a => ((a, .inl (cy, z)) : Nat × va_E)))[k9]? = some x → x.1 = H.size + 1 + k9 := fun k9 x hx => by
      rw [List.getElem?_map, List.getElem?_map] at hx
      by_cases h9 : k9 < n.toNatClampNeg
      · rw [List.getElem?_range h9] at hx
        cases hx
        rfl
      · have hn0 : (List.range n.toNatClampNeg)[k9]? = none := List.getElem?_eq_none (by rw [List.length_range]; omega)
        rw [hn0] at hx
        cases hx
    refine ⟨fun i j x y hi hj hxy => ?_, fun k9 x hx => ?_⟩
    · by_cases h1 : i < W1.length <;> by_cases h2 : j < W1.length
      · rw [List.getElem?_append_left h1] at hi
        rw [List.getElem?_append_left h2] at hj
        exact hD1.1 i j x y hi hj hxy
      · rw [List.getElem?_append_left h1] at hi
        rw [List.getElem?_append_right (by omega)] at hj
        have := hle _ _ hi
        have := hr _ _ hj
        omega
      · rw [List.getElem?_append_right (by omega)] at hi
        rw [List.getElem?_append_left h2] at hj
        have := hle _ _ hj
        have := hr _ _ hi
        omega
      · rw [List.getElem?_append_right (by omega)] at hi hj
        have := hr _ _ hi
        have := hr _ _ hj
        omega
    · by_cases h1 : k9 < W1.length
      · rw [List.getElem?_append_left h1] at hx
        exact hD1.2 k9 x hx
      · rw [List.getElem?_append_right (by omega)] at hx
        have := hr _ _ hx
        exact hA _ (by have := hS.1; omega)
  have hAr : ArrOfT s cA (.array ty) := fun N9 z9 => by
    obtain ⟨-, k9, hk9, cm9, hkk9⟩ := (hO 0 0 0).1
    exact ⟨(fun q hq => by cases hq), k9, hk9, cm9, hkk9⟩
  have hK2 : va_K D cl (tys ++ [(cA, .array ty)]) s := ⟨hK.1, fun k9 x hx => by
    by_cases hl : k9 < tys.length
    · rw [List.getElem?_append_left hl] at hx
      exact hK.2 k9 x hx
    · rw [List.getElem?_append_right (by omega)] at hx
      have h0 : k9 - tys.length < 1 := (List.getElem?_eq_some_iff.mp hx).1
      rw [show k9 - tys.length = 0 by omega] at hx
      cases hx
      exact ⟨hAr, fA⟩⟩
  obtain ⟨t, a1, b1⟩ := kk H.size (fun i => H.size + 1 + i) cA F.heap (fun i j _ _ h => by have h9 : H.size + 1 + i = H.size + 1 + j := h; omega) hnl hK2 (by rw [← vr_rows hnm]; exact vr_lay hP2) (by rw [← vr_rows hnm]; exact vr_layD hD2) ⟨by rw [f1]; have := hS.1; omega, fun x h1 h2 => (hold x (Nat.lt_of_lt_of_le h1 hS.1)).trans (hS.2.1 x h1 h2), hS.2.2⟩ F rfl X'
  refine ⟨t, step t ?_, b1⟩
  have e : T.heap.size = H.size := by rw [hT]
  rw [e]
  exact a1
end VGM
/-! ===== END ===== -/

/-! ===== BEGIN exceptions that leave a method, and their catching by the caller (launches without stack traces) ===== -/
section VXA
/-! The laws vx_back, vx_callV, vx_callS, vx_callSW, vx_throw0, vx_throwS follow proofs of the library, with one case more: JvmDerived/Free/Laws.lean (Back.of_free), Shelf42/LK1.lean (callV, callS), Shelf/KitTraced.lean (throwNew0V, throwNewS). -/
/-- where a method has thrown q: the class by its name, the cell, what was written, the world -/
def vx_T (XC : String → State → State → Prop) (st : State) (q : Addr) (t : State) (mc ms : Nat) (free : Addr → Prop) : Prop :=
  ∃ (E : String) (ce : Cell) (L : List Loc), XC E st t ∧ t.heap[q]? = some ce ∧ ce.vm = .none ∧ st.vm.findClass E = some ce.cls ∧ st.WarmedH t.vm ∧ st.sameButNew ({ t with vm := st.vm } : State) L mc ms ∧ ∀ z ∈ L, free z.base
def vx_Q (Qc : Array Value → State → Outcome → State → Prop) (XC : String → State → State → Prop) (mc ms : Nat) (free : Addr → Prop) : Array Value → State → Outcome → State → Prop := fun a st o t =>
  (Qc a st o t ∧ ∃ L, FrameEnd st o t L mc ms ∧ ∀ q ∈ L, free q.base) ∨ ∃ q, o = .threw q ∧ vx_T XC st q t mc ms free
/-- a callee that returns or throws -/
def vx_Met (l : Launch) (y : MethodName) (ws : List Cond) (rm : Room) (Pc : Array Value → State → Prop) (Qc : Array Value → State → Outcome → State → Prop) (XC : String → State → State → Prop) (mc ms : Nat) (free : Addr → Prop) : Prop :=
  MetFree l y (headSpec ws rm) Pc (fun _ _ _ _ _ => True) (vx_Q Qc XC mc ms free)
def vx_Post (XC : String → State → State → Prop) (mc ms : Nat) (free : Addr → Prop) : Pt → Array Value → Addr → Pt → Prop := fun A a q B =>
  ∃ (g : JFrame) (mk : MethodId) (t : State) (L : List Loc) (E : String) (ce : Cell), B.U.heap = t.heap ∧ B.U.vm = t.vm ∧ XC E (A.U.calling g mk a) t ∧ t.heap[q]? = some ce ∧ ce.vm = .none ∧ A.U.vm.findClass E = some ce.cls ∧ B.locs = A.locs ++ L ∧ (∀ z ∈ L, free z.base) ∧ B.cells = A.cells + mc ∧ B.slots = A.slots + ms
def vx_Back (l : Launch) (R : Room) (p : Program) (e : Env) (below : List Frame) (s : State) (sargs : Array Value) (y : MethodName) (len W9 : Nat)
    (Pre : Pt → Array Value → Prop) (Post : Pt → Array Value → Option Value → Pt → Prop) (PostX : Pt → Array Value → Addr → Pt → Prop) : Prop :=
  ∀ (m : MethodId) (meth : Method) (c : Code) (A : Pt) (g : JFrame) (ig : Instr) (mk : MethodId) (a : Array Value),
    Stand p l e R s m sargs below meth c A.U A.locs A.cells A.slots → g.method = m → g.locals.size = c.maxLocals → decode c.code g.pc = .ok (ig, len) →
    2 * g.monitorRoom + (g.stack.map fun v => v.category).sum ≤ W9 → A.U.methodNamed? y = some mk → Pre A a →
    (∃ (v : Option Value) (B : Pt), Stand p l e R s m sargs below meth c B.U B.locs B.cells B.slots ∧ Post A a v B ∧
      Steps p.tables e below (doInvoke e (A.U.setTop g) [] mk a).1 (B.U.setTop { g with pc := g.pc + len, stack := v.toList ++ g.stack })) ∨
    (∃ (q : Addr) (B : Pt), Stand p l e R s m sargs below meth c B.U B.locs B.cells B.slots ∧ PostX A a q B ∧
      Steps p.tables e below (doInvoke e (A.U.setTop g) [] mk a).1 ((B.U.setTop g).pushFrame (.throwing q)))
section Payer
variable {l : Launch} {R : Room} {p : Program} {e : Env} {below : List Frame} {s : State} {sargs : Array Value} {y : MethodName} {len W9 : Nat}
theorem vx_back {ws : List Cond} {rm : Room} {Pc : Array Value → State → Prop} {Qc : Array Value → State → Outcome → State → Prop} {XC : String → State → State → Prop} {mc ms : Nat} {free : Addr → Prop} {bytes : ByteArray} {maxL : Nat} {ret : Option FieldType}
    (hM : vx_Met l y ws rm Pc Qc XC mc ms free) (hblind : FrameBlind Pc) (hrc : rm.cells = mc) (hrs : rm.slots = ms)
    (hframes : rm.frames + 1 ≤ R.frames) (hlocals : W9 + (maxL + 11) + rm.locals ≤ R.locals)
    (hws : ∀ w ∈ ws, ∀ a' U, s.WarmedH U.vm → w.before a' U = true) (hcode : Cond.code y bytes maxL ret ∈ ws) (hinit : ∀ a' U, s.WarmedH U.vm → (Cond.initialized y.cls).before a' U = true) :
    vx_Back l R p e below s sargs y len W9 (PreOf R mc ms Pc) (PostOf Qc mc ms free) (vx_Post XC mc ms free) := by
  intro m meth c A g ig mk a X hg hsize hdg hW hn hp
  have h1 : (headSpec ws rm).pre.before a A.U = true := atoms_intro fun w hw => hws w hw _ _ X.warmed
  have h2 : (Cond.code y bytes maxL ret).before a A.U = true := hws _ hcode _ _ X.warmed
  have h3 : (Cond.initialized y.cls).before a A.U = true := hinit _ _ X.warmed
  have h4 : A.cells + (headSpec ws rm).room.cells ≤ R.cells := by rw [show (headSpec ws rm).room.cells = mc from hrc]; exact hp.1
  have h5 : A.slots + (headSpec ws rm).room.slots ≤ R.slots := by rw [show (headSpec ws rm).room.slots = ms from hrs]; exact hp.2.1
  have hPc : Pc a (A.U.calling g mk a) := hblind _ _ _ _ hp.2.2
  obtain ⟨U, Ls, c0, s0⟩ := A
  dsimp only [Pt.U, Pt.locs, Pt.cells, Pt.slots] at h1 h2 h3 h4 h5 X hn hPc ⊢
  obtain ⟨methY, cY, hmY, hcY, -, hlY, -, -, -, -⟩ := Cond.code_spec hn h2
  obtain ⟨kY, hkY, -⟩ := className_of_methodNamed hn
  have hinitY : kY.init = .initialized := Cond.initialized_spec (findClass_of_methodNamed hn) hkY h3
  have h : At U g.method c below := by rw [hg]; exact X.here
  have hlocals9 : W9 + (maxL + 11) + (headSpec ws rm).room.locals ≤ R.locals := hlocals
  have happ : (headSpec ws rm).appliesLoose y e.platform (U.calling g mk a) = true :=
    Spec.appliesLoose_calling (g := g) h hdg hn hkY hinitY
      (X.room_calling (g := g) (R' := (headSpec ws rm).room) hsize hmY hcY hframes (by rw [hlY]; omega) h4 h5) h1
  obtain ⟨mid, hmid⟩ := h.above
  have hfr : (U.setTop g).frames = (.java g :: mid) ++ below := by rw [State.frames_setTop' g h.top, hmid]; rfl
  obtain ⟨o, s₂, hsteps, -, hend, hq⟩ := Steps.callFree hM p X.admits X.cas X.clock (acts := []) hfr happ hPc trivial
  have hq' : vx_Q Qc XC mc ms free a (U.calling g mk a) o s₂ := hq
  rw [State.frames_setTop' g h.top] at hend
  obtain ⟨g₀, hg0⟩ := Option.isSome_iff_exists.mp h.top
  obtain ⟨r, hr⟩ := State.topJava?_eq_some.mp hg0
  have hr' : (({ U with heap := s₂.heap, slotsUsed := s₂.slotsUsed } : State).setVm s₂.vm).frames = .java g₀ :: r := hr
  rcases hq' with ⟨hqc, L, hfe, hL⟩ | ⟨q, rfl, E, ce, L, hx, hce, hcv, hcl, hW₂, hsm, hL⟩
  · obtain ⟨⟨v, rfl⟩, hW₂, e2, q2, q3, q4, q5, q6⟩ := id hfe
    have e3 : s₂ = ({ (U.calling g mk a).setFrames s₂.frames with heap := s₂.heap, slotsUsed := s₂.slotsUsed } : State).setVm s₂.vm := by
      have : s₂ = ({ s₂ with vm := (U.calling g mk a).vm } : State).setVm s₂.vm := rfl
      rw [e2] at this
      exact this
    obtain ⟨c₂, i₂, len₂, hc₂, hd₂, hf₂⟩ := hend
    have hW' : U.WarmedH s₂.vm := hW₂
    have hcc : c₂ = c := by
      have h1 : s₂.code? g.method = U.code? g.method := by
        rw [State.code?_eq, State.code?_eq, hW'.alike.method?]
      exact Option.some.inj (hc₂.symm.trans (h1.trans h.code))
    subst hcc
    have hlen : len₂ = len := by rw [hdg] at hd₂; cases hd₂; rfl
    subst hlen
    have hs₂ : s₂ = (({ U with heap := s₂.heap, slotsUsed := s₂.slotsUsed } : State).setVm s₂.vm).setTop { g with pc := g.pc + len₂, stack := v.toList ++ g.stack } := by
      refine e3.trans ?_
      rw [hf₂, State.calling_eq h.top, State.setFrames_setFrames, State.setTop_of_frames _ hr', hr]
      rfl
    have hsame : U.sameButNew ({ U with heap := s₂.heap, slotsUsed := s₂.slotsUsed } : State) L mc ms := by
      refine ⟨?_, q2, q3, q4, q5, q6⟩
      obtain ⟨t, ht, -⟩ := State.frames_cons hr
      show ({ U with heap := s₂.heap, slotsUsed := s₂.slotsUsed } : State) = { U.setFrames U.frames with heap := s₂.heap, slotsUsed := s₂.slotsUsed }
      rw [State.setFrames_self ht]
    subst hg
    refine Or.inl ⟨v, ⟨(({ U with heap := s₂.heap, slotsUsed := s₂.slotsUsed } : State).setVm s₂.vm), Ls ++ L, c0 + mc, s0 + ms⟩,
      ⟨X.admits, X.cas, X.clock, X.frames, X.room, X.hears, X.method, X.code, (X.here.setHeapUsed s₂.heap s₂.slotsUsed).setVm hW'.alike, X.tail, State.WarmedH.trans X.warmed hW', X.limits, X.bytes, X.same.trans (hsame.setVm s.vm)⟩,
      ⟨g, mk, s₂, L, rfl, rfl, hqc, rfl, hL, rfl, rfl⟩, ?_⟩
    show Steps p.tables e below _ ((({ U with heap := s₂.heap, slotsUsed := s₂.slotsUsed } : State).setVm s₂.vm).setTop { g with pc := g.pc + len₂, stack := v.toList ++ g.stack })
    rw [← hs₂]
    exact hsteps
  · obtain ⟨e2, q2, q3, q4, q5, q6⟩ := id hsm
    have e3 : s₂ = ({ (U.calling g mk a).setFrames s₂.frames with heap := s₂.heap, slotsUsed := s₂.slotsUsed } : State).setVm s₂.vm := by
      have : s₂ = ({ s₂ with vm := (U.calling g mk a).vm } : State).setVm s₂.vm := rfl
      rw [e2] at this
      exact this
    have hf₂ : s₂.frames = .throwing q :: .java g :: U.frames.tail := hend
    have hW' : U.WarmedH s₂.vm := hW₂
    have hs₂ : s₂ = ((({ U with heap := s₂.heap, slotsUsed := s₂.slotsUsed } : State).setVm s₂.vm).setTop g).pushFrame (.throwing q) := by
      refine e3.trans ?_
      rw [hf₂, State.calling_eq h.top, State.setFrames_setFrames, State.pushFrame, State.frames_setTop _ hr', State.setTop_of_frames _ hr', State.setFrames_setFrames, hr]
      rfl
    have hsame : U.sameButNew ({ U with heap := s₂.heap, slotsUsed := s₂.slotsUsed } : State) L mc ms := by
      refine ⟨?_, q2, q3, q4, q5, q6⟩
      obtain ⟨t, ht, -⟩ := State.frames_cons hr
      show ({ U with heap := s₂.heap, slotsUsed := s₂.slotsUsed } : State) = { U.setFrames U.frames with heap := s₂.heap, slotsUsed := s₂.slotsUsed }
      rw [State.setFrames_self ht]
    subst hg
    refine Or.inr ⟨q, ⟨(({ U with heap := s₂.heap, slotsUsed := s₂.slotsUsed } : State).setVm s₂.vm), Ls ++ L, c0 + mc, s0 + ms⟩,
      ⟨X.admits, X.cas, X.clock, X.frames, X.room, X.hears, X.method, X.code, (X.here.setHeapUsed s₂.heap s₂.slotsUsed).setVm hW'.alike, X.tail, State.WarmedH.trans X.warmed hW', X.limits, X.bytes, X.same.trans (hsame.setVm s.vm)⟩,
      ⟨g, mk, s₂, L, E, ce, rfl, rfl, hx, hce, hcv, hcl, rfl, hL, rfl, rfl⟩, ?_⟩
    show Steps p.tables e below _ (((({ U with heap := s₂.heap, slotsUsed := s₂.slotsUsed } : State).setVm s₂.vm).setTop g).pushFrame (.throwing q))
    rw [← hs₂]
    exact hsteps
end Payer
section Calls
variable {p : Program} {l : Launch} {e : Env} {R : Room} {s : State} {m : MethodId} {args : Array Value} {below : List Frame} {meth : Method} {c : Code} {T : State} {locs : List Loc} {cells slots : Nat}
theorem vx_callV (X : Stand p l e R s m args below meth c T locs cells slots) (hexec : p.tables.exec = Jvm.exec) {own C : String} {index : Nat} {y : MethodName} {bytes : ByteArray} {maxL : Nat} {ret : Option FieldType}
    (hown : s.vm.findClass own = some m.cls) (hlink : (Cond.methodLink own index y).before args s = true) (hinst : (Cond.instanceMethod y).before args s = true) (hsel : (Cond.selects C y y).before args s = true)
    (hcode : (Cond.code y bytes maxL ret).before args s = true) (hy : y.cls ≠ "java/lang/invoke/MethodHandle" ∧ y.cls ≠ "java/lang/invoke/VarHandle")
    {W9 : Nat} {Pre : Pt → Array Value → Prop} {Post : Pt → Array Value → Option Value → Pt → Prop} {PostX : Pt → Array Value → Addr → Pt → Prop} (hK : vx_Back l R p e below s args y 3 W9 Pre Post PostX)
    {b : Addr} {cellB : Cell} (hcell : T.heap[b]? = some cellB) (hobj : cellB.vm.isStatics = false) (hcls : s.vm.findClass C = some cellB.cls)
    {g : JFrame} (hg : g.method = m) (hsize : g.locals.size = c.maxLocals) {argsL rest : List Value} (hlen : ∀ sig, parseMethodDescriptor y.desc = some sig → argsL.length = sig.parameters.length)
    (hstack : g.stack = argsL.reverse ++ .ref b :: rest) (hW : 2 * g.monitorRoom + (rest.map fun v => v.category).sum ≤ W9) (hdg : decode c.code g.pc = .ok (.invokevirtual index, 3))
    (hpre : ∀ vm₁, s.WarmedH vm₁ → Pre ⟨T.setVm vm₁, locs, cells, slots⟩ (Value.ref b :: argsL).toArray) :
    (∃ (v : Option Value) (vm₁ : Vm) (B : Pt), s.WarmedH vm₁ ∧ Stand p l e R s m args below meth c B.U B.locs B.cells B.slots ∧ Post ⟨T.setVm vm₁, locs, cells, slots⟩ (Value.ref b :: argsL).toArray v B ∧
      ∀ target, Steps p.tables e below (B.U.setTop { g with pc := g.pc + 3, stack := v.toList ++ rest }) target → Steps p.tables e below (T.setTop g) target) ∨
    (∃ (q : Addr) (vm₁ : Vm) (B : Pt), s.WarmedH vm₁ ∧ Stand p l e R s m args below meth c B.U B.locs B.cells B.slots ∧ PostX ⟨T.setVm vm₁, locs, cells, slots⟩ (Value.ref b :: argsL).toArray q B ∧
      Steps p.tables e below (T.setTop g) ((B.U.setTop { g with stack := rest }).pushFrame (.throwing q))) := by
  obtain ⟨mk, methM, hnamed, hmethM, hstM, habM⟩ := Cond.instanceMethod_spec hinst
  obtain ⟨methM', cM, hmethM', -, -, -, -, -, -, hsigM⟩ := Cond.code_spec hnamed hcode
  cases hmethM.symm.trans hmethM'
  obtain ⟨c2, r2, m2, q1, q2, q3, q4, kP, hkP, hkPi⟩ := Cond.selects_spec hsel
  cases hcls.symm.trans q1
  cases (State.methodFound?_of_named hnamed hy).symm.trans q2
  cases hnamed.symm.trans q3
  have hselP : selectMethod e.platform s.vm cellB.cls mk = .method mk := by rw [Launch.admits_selectMethod X.admits]; exact q4
  obtain ⟨vm₁, X₁, hstep₁⟩ := X.invokevirtual hexec hown hlink hnamed hmethM hstM hkP hkPi hy (a := b) (cell := cellB) hcell
    (fun z h => by rw [h] at hobj; cases hobj) hselP hmethM habM hkP hkPi (g := g) hg (argsL := argsL) (rest := rest) (hlen _ hsigM) hstack hdg
  rcases hK m meth c ⟨T.setVm vm₁, locs, cells, slots⟩ { g with stack := rest } (.invokevirtual index) mk (Value.ref b :: argsL).toArray X₁ hg hsize hdg hW (X₁.named hnamed) (hpre vm₁ X₁.warmed) with ⟨v, B, X', hpost, hsteps⟩ | ⟨q, B, X', hpost, hsteps⟩
  · exact Or.inl ⟨v, vm₁, B, X₁.warmed, X', hpost, fun target h => hstep₁ _ fun acts => by rw [doInvoke_state]; exact hsteps.trans h⟩
  · exact Or.inr ⟨q, vm₁, B, X₁.warmed, X', hpost, hstep₁ _ fun acts => by rw [doInvoke_state]; exact hsteps⟩
theorem vx_callS (X : Stand p l e R s m args below meth c T locs cells slots) (hexec : p.tables.exec = Jvm.exec) {own : String} {index : Nat} {y : MethodName} {bytes : ByteArray} {maxL : Nat} {ret : Option FieldType}
    (hown : s.vm.findClass own = some m.cls) (hlink : (Cond.methodLink own index y).before args s = true) (hstat : (Cond.static y).before args s = true) (hinit : (Cond.initialized y.cls).before args s = true)
    (hcode : (Cond.code y bytes maxL ret).before args s = true) (hy : y.cls ≠ "java/lang/invoke/MethodHandle" ∧ y.cls ≠ "java/lang/invoke/VarHandle")
    {W9 : Nat} {Pre : Pt → Array Value → Prop} {Post : Pt → Array Value → Option Value → Pt → Prop} {PostX : Pt → Array Value → Addr → Pt → Prop} (hK : vx_Back l R p e below s args y 3 W9 Pre Post PostX)
    {g : JFrame} (hg : g.method = m) (hsize : g.locals.size = c.maxLocals) {argsL rest : List Value} (hlen : ∀ sig, parseMethodDescriptor y.desc = some sig → argsL.length = sig.parameters.length)
    (hstack : g.stack = argsL.reverse ++ rest) (hW : 2 * g.monitorRoom + (rest.map fun v => v.category).sum ≤ W9) (hdg : decode c.code g.pc = .ok (.invokestatic index, 3))
    (hpre : ∀ vm₁, s.WarmedH vm₁ → Pre ⟨T.setVm vm₁, locs, cells, slots⟩ argsL.toArray) :
    (∃ (v : Option Value) (vm₁ : Vm) (B : Pt), s.WarmedH vm₁ ∧ Stand p l e R s m args below meth c B.U B.locs B.cells B.slots ∧ Post ⟨T.setVm vm₁, locs, cells, slots⟩ argsL.toArray v B ∧
      ∀ target, Steps p.tables e below (B.U.setTop { g with pc := g.pc + 3, stack := v.toList ++ rest }) target → Steps p.tables e below (T.setTop g) target) ∨
    (∃ (q : Addr) (vm₁ : Vm) (B : Pt), s.WarmedH vm₁ ∧ Stand p l e R s m args below meth c B.U B.locs B.cells B.slots ∧ PostX ⟨T.setVm vm₁, locs, cells, slots⟩ argsL.toArray q B ∧
      Steps p.tables e below (T.setTop g) ((B.U.setTop { g with stack := rest }).pushFrame (.throwing q))) := by
  obtain ⟨mk, hnamed⟩ := Cond.code_named hcode
  obtain ⟨methM, cM, hmethM, -, -, -, -, -, -, hsigM⟩ := Cond.code_spec hnamed hcode
  have hstatic : methM.isStatic = true := Cond.static_spec hnamed hmethM hstat
  obtain ⟨kP, hkP, -⟩ := className_of_methodNamed hnamed
  have hinitP : kP.init = .initialized := Cond.initialized_spec (findClass_of_methodNamed hnamed) hkP hinit
  obtain ⟨vm₁, X₁, hstep₁⟩ := X.invokestatic hexec hown hlink hnamed hmethM hstatic hkP hinitP hy (g := g) hg (argsL := argsL) (rest := rest) (hlen _ hsigM) hstack hdg
  rcases hK m meth c ⟨T.setVm vm₁, locs, cells, slots⟩ { g with stack := rest } (.invokestatic index) mk argsL.toArray X₁ hg hsize hdg hW (X₁.named hnamed) (hpre vm₁ X₁.warmed) with ⟨v, B, X', hpost, hsteps⟩ | ⟨q, B, X', hpost, hsteps⟩
  · exact Or.inl ⟨v, vm₁, B, X₁.warmed, X', hpost, fun target h => hstep₁ _ fun acts => by rw [doInvoke_state]; exact hsteps.trans h⟩
  · exact Or.inr ⟨q, vm₁, B, X₁.warmed, X', hpost, hstep₁ _ fun acts => by rw [doInvoke_state]; exact hsteps⟩
end Calls
theorem vx_cls {s : State} {T : State} {vm₁ : Vm} {E : String} {k : ClassId} (hW : s.WarmedH vm₁) (h : (T.setVm vm₁).vm.findClass E = some k) : s.vm.findClass E = some k := by
  have h1 : vm₁.findClass E = some k := h
  rw [hW.alike.findClass] at h1
  exact h1
/-- the method's frame g, with q thrown over it -/
def vx_W (p : Program) (l : Launch) (e : Env) (R : Room) (s : State) (m : MethodId) (args : Array Value) (below : List Frame) (meth : Method) (c : Code) (H : Heap) (locs : List Loc) (cells slots : Nat) (Q : State → Prop) (g : JFrame) (q : Addr) : Prop :=
  ∀ T : State, T.heap = H → Stand p l e R s m args below meth c T locs cells slots → ∃ t, Steps p.tables e below ((T.setTop g).pushFrame (.throwing q)) t ∧ Q t
def vx_Run (p : Program) (l : Launch) (e : Env) (R : Room) (s : State) (m : MethodId) (args : Array Value) (below : List Frame) (meth : Method) (c : Code) (H : Heap) (locs : List Loc) (cells slots mc ms : Nat) (g : JFrame) (rest : List Value) (Qa : State → Outcome → State → Prop) (XC : String → State → State → Prop) (free : Addr → Prop) : Prop :=
  ∀ T : State, T.heap = H → Stand p l e R s m args below meth c T locs cells slots →
    (∃ (v : Option Value) (st₀ t T' : State) (L : List Loc), st₀.heap = H ∧ Stand p l e R s m args below meth c T' (locs ++ L) (cells + mc) (slots + ms) ∧ (∀ q ∈ L, free q.base) ∧ T'.heap = t.heap ∧ T'.vm = t.vm ∧ Qa st₀ (.returned v) t ∧
      Goes p e below T g T' { g with pc := g.pc + 3, stack := v.toList ++ rest }) ∨
    (∃ (q : Addr) (st₀ t T' : State) (L : List Loc) (E : String) (ce : Cell), st₀.heap = H ∧ Stand p l e R s m args below meth c T' (locs ++ L) (cells + mc) (slots + ms) ∧ (∀ z ∈ L, free z.base) ∧ T'.heap = t.heap ∧ T'.vm = t.vm ∧ XC E st₀ t ∧ t.heap[q]? = some ce ∧ ce.vm = .none ∧ s.vm.findClass E = some ce.cls ∧
      Steps p.tables e below (T.setTop g) ((T'.setTop { g with stack := rest }).pushFrame (.throwing q)))
def vx_X {S : Type} (px : S → Prop) (B : String → S → State → Prop) (A : Nat → Prop) : String → State → State → Prop := fun E st t => ∃ u : S, px u ∧ B E u t ∧ va_F A st t
section Runs
variable {p : Program} {l : Launch} {e : Env} {R : Room} {s : State} {m : MethodId} {args : Array Value} {below : List Frame} {meth : Method} {c : Code} {H : Heap} {locs : List Loc} {cells slots : Nat}
variable {y : MethodName} {bytes cc : ByteArray} {maxL nL mc ms n index : Nat} {ret : Option FieldType} {ws : List Cond} {rm : Room} {Pc : Array Value → State → Prop} {Qc : Array Value → State → Outcome → State → Prop} {XC : String → State → State → Prop} {free : Addr → Prop} {Ts : List Cond} {own C : String} {b : Addr} {As rest : List Value} {g : JFrame}
theorem vx_callBack (cb : CallB R s args own index y bytes maxL ret ws rm mc ms n) (hM : vx_Met l y ws rm Pc Qc XC mc ms free) (hbl : FrameBlind Pc) : vx_Back l R p e below s args y 3 8 (PreOf R mc ms Pc) (PostOf Qc mc ms free) (vx_Post XC mc ms free) := by
  obtain ⟨hrc, hrs, hfr, hlo, hws, hcw, -, hini, -⟩ := cb
  exact vx_back (bytes := bytes) (maxL := maxL) (ret := ret) hM hbl hrc hrs hfr hlo hws hcw (fun a' U hW => word_at hW (Or.inl (by first | rfl | simp [Cond.onTables, Cond.keeps, Cond.steady])) hini)
theorem vx_runV (S : CallFix p m c cc nL s args Ts own) (hM : vx_Met l y ws rm Pc Qc XC mc ms free) (cw : CallW R s args own C index y bytes maxL ret ws rm mc ms n) (hp : PreV s H C b Pc As)
    (hg : g.method = m) (hn : As.length = n) (hsize : g.locals.size = nL) (hstack : g.stack = As.reverse ++ .ref b :: rest) (hW : 2 * g.monitorRoom + (rest.map fun v => v.category).sum ≤ 8) (hdg : decode cc g.pc = .ok (.invokevirtual index, 3)) (hf : cells + mc ≤ R.cells ∧ slots + ms ≤ R.slots) :
    vx_Run p l e R s m args below meth c H locs cells slots mc ms g rest (Qc (Value.ref b :: As).toArray) XC free := by
  have hK : vx_Back l R p e below s args y 3 8 (PreOf R mc ms Pc) (PostOf Qc mc ms free) (vx_Post XC mc ms free) := vx_callBack cw.1 hM hp.1
  obtain ⟨⟨-, -, -, -, -, -, hcode, -, hy, hlen, hl⟩, hin, hse⟩ := cw
  obtain ⟨hx, hb, hml, ho, -⟩ := S
  obtain ⟨-, ⟨cellB, hcB, hoB, hclB⟩, hPc⟩ := hp
  intro T hT X
  rcases vx_callV X hx (C := C) (bytes := bytes) (maxL := maxL) (ret := ret) ho hl hin hse hcode hy hK (by rw [hT]; exact hcB) hoB hclB hg (hsize.trans hml.symm) (argsL := As) (rest := rest) (fun sig h => hn.trans (hlen sig h)) hstack hW (by rw [hb]; exact hdg)
    (fun vm₁ hW₁ => ⟨hf.1, hf.2, hPc (T.setVm vm₁) hT hW₁⟩) with ⟨v, vm₁, ⟨U', l2, c2, s2⟩, hW₁, X', ⟨g', mk, t, L, e1, e2, hq, h1, hL, h2, h3⟩, st⟩ | ⟨q, vm₁, ⟨U', l2, c2, s2⟩, hW₁, X', ⟨g', mk, t, L, E, ce, e1, e2, hq, hce, hcv, hcl, h1, hL, h2, h3⟩, st⟩
  · dsimp only [Pt.U, Pt.locs, Pt.cells, Pt.slots] at X' e1 e2 h1 h2 h3 st
    subst h1; subst h2; subst h3
    exact Or.inl ⟨v, (T.setVm vm₁).calling g' mk (Value.ref b :: As).toArray, t, U', L, hT, X', hL, e1, e2, hq, st⟩
  · dsimp only [Pt.U, Pt.locs, Pt.cells, Pt.slots] at X' e1 e2 h1 h2 h3 st hcl
    subst h1; subst h2; subst h3
    exact Or.inr ⟨q, (T.setVm vm₁).calling g' mk (Value.ref b :: As).toArray, t, U', L, E, ce, hT, X', hL, e1, e2, hq, hce, hcv, vx_cls hW₁ hcl, st⟩
theorem vx_runS (S : CallFix p m c cc nL s args Ts own) (hM : vx_Met l y ws rm Pc Qc XC mc ms free) (cw : CallB R s args own index y bytes maxL ret ws rm mc ms n ∧ (Cond.static y).before args s = true) (hp : PreS s H Pc As)
    (hg : g.method = m) (hn : As.length = n) (hsize : g.locals.size = nL) (hstack : g.stack = As.reverse ++ rest) (hW : 2 * g.monitorRoom + (rest.map fun v => v.category).sum ≤ 8) (hdg : decode cc g.pc = .ok (.invokestatic index, 3)) (hf : cells + mc ≤ R.cells ∧ slots + ms ≤ R.slots) :
    vx_Run p l e R s m args below meth c H locs cells slots mc ms g rest (Qc As.toArray) XC free := by
  have hK : vx_Back l R p e below s args y 3 8 (PreOf R mc ms Pc) (PostOf Qc mc ms free) (vx_Post XC mc ms free) := vx_callBack cw.1 hM hp.1
  obtain ⟨⟨-, -, -, -, -, -, hcode, hini, hy, hlen, hl⟩, hstt⟩ := cw
  obtain ⟨hx, hb, hml, ho, -⟩ := S
  intro T hT X
  rcases vx_callS X hx (bytes := bytes) (maxL := maxL) (ret := ret) ho hl hstt hini hcode hy hK hg (hsize.trans hml.symm) (argsL := As) (rest := rest) (fun sig h => hn.trans (hlen sig h)) hstack hW (by rw [hb]; exact hdg)
    (fun vm₁ hW₁ => ⟨hf.1, hf.2, hp.2 (T.setVm vm₁) hT hW₁⟩) with ⟨v, vm₁, ⟨U', l2, c2, s2⟩, hW₁, X', ⟨g', mk, t, L, e1, e2, hq, h1, hL, h2, h3⟩, st⟩ | ⟨q, vm₁, ⟨U', l2, c2, s2⟩, hW₁, X', ⟨g', mk, t, L, E, ce, e1, e2, hq, hce, hcv, hcl, h1, hL, h2, h3⟩, st⟩
  · dsimp only [Pt.U, Pt.locs, Pt.cells, Pt.slots] at X' e1 e2 h1 h2 h3 st
    subst h1; subst h2; subst h3
    exact Or.inl ⟨v, (T.setVm vm₁).calling g' mk As.toArray, t, U', L, hT, X', hL, e1, e2, hq, st⟩
  · dsimp only [Pt.U, Pt.locs, Pt.cells, Pt.slots] at X' e1 e2 h1 h2 h3 st hcl
    subst h1; subst h2; subst h3
    exact Or.inr ⟨q, (T.setVm vm₁).calling g' mk As.toArray, t, U', L, E, ce, hT, X', hL, e1, e2, hq, hce, hcv, vx_cls hW₁ hcl, st⟩
end Runs
section Rows
variable {p : Program} {l : Launch} {e : Env} {R : Room} {s : State} {m : MethodId} {args : Array Value} {below : List Frame} {meth : Method} {c : Code} {H : Heap} {locs : List Loc} {cells slots : Nat} {Q : State → Prop}
variable {mc ms : Nat} {free : Addr → Prop} {A0 A1 : Nat → Prop} {H0 : Heap} {a : Array Value} {pc : Nat} {ls : Array Slot} {st0 rest : List Value}
theorem vx_keep {st₀ t T' : State} {L : List Loc} (h0 : st₀.heap = H) (e1 : T'.heap = t.heap) (hS : va_S A0 H0 H locs) (hA : ∀ q, q < H.size → A1 q → A0 q) (hf : ∀ q, free q → A0 q) (hL : ∀ q ∈ L, free q.base) (hF : va_F A1 st₀ t) :
    H.size ≤ T'.heap.size ∧ (∀ q : Nat, q < H.size → ¬ A1 q → T'.heap[q]? = H[q]?) ∧ va_S A0 H0 T'.heap (locs ++ L) := by
  obtain ⟨hz, hk⟩ := hF
  rw [h0] at hz hk
  exact ⟨by rw [e1]; exact hz, fun q h1 h2 => by rw [e1]; exact hk q h1 h2,
    ⟨Nat.le_trans hS.1 (by rw [e1]; exact hz), fun q h1 h2 => by rw [e1, hk q (Nat.lt_of_lt_of_le h1 hS.1) (fun z => h2 (hA q (Nat.lt_of_lt_of_le h1 hS.1) z))]; exact hS.2.1 q h1 h2, fun q hq => by
      rcases List.mem_append.mp hq with h | h
      · exact hS.2.2 q h
      · exact hf _ (hL q h)⟩⟩
theorem vx_calli {S SX : Type} {post : Int32 → S → Prop} {px : SX → Prop} {B : S → State → Prop} {BX : String → SX → State → Prop} {AX : Nat → Prop} (hr : vx_Run p l e R s m args below meth c H locs cells slots mc ms (F0 m pc ls st0) rest (va_Qi post B A1 a) (vx_X px BX AX) free) (hS : va_S A0 H0 H locs) (hA : ∀ q, q < H.size → A1 q → A0 q) (hf : ∀ q, free q → A0 q) (hAX : ∀ q, q < H.size → AX q → A0 q)
    (kx : ∀ (E : String) (ce : Cell) (q9 : Addr) (u : SX) (t : State) (H1 : Heap) (locs1 : List Loc), t.heap = H1 → s.vm.Alike t.vm → px u → BX E u t → H.size ≤ H1.size → (∀ q : Nat, q < H.size → ¬ AX q → H1[q]? = H[q]?) → va_S A0 H0 H1 locs1 → H1[q9]? = some ce → ce.vm = .none → s.vm.findClass E = some ce.cls → vx_W p l e R s m args below meth c H1 locs1 (cells + mc) (slots + ms) Q (F0 m pc ls rest) q9)
    (kk : ∀ (r : Int32) (u : S) (t : State) (H1 : Heap) (locs1 : List Loc), t.heap = H1 → s.vm.Alike t.vm → post r u → B u t → H.size ≤ H1.size → (∀ q : Nat, q < H.size → ¬ A1 q → H1[q]? = H[q]?) → va_S A0 H0 H1 locs1 → W p l e R s m args below meth c H1 locs1 (cells + mc) (slots + ms) Q (F0 m (pc + 3) ls (.int r :: rest))) : W p l e R s m args below meth c H locs cells slots Q (F0 m pc ls st0) := by
  intro T hT X
  rcases hr T hT X with ⟨v, st₀, t, T', L, h0, X', hL, e1, e2, ⟨⟨r, u, hv, hp, hb⟩, hF⟩, st⟩ | ⟨q, st₀, t, T', L, E, ce, h0, X', hL, e1, e2, ⟨u, hp, hb, hF⟩, hce, hcv, hcl, st⟩
  · cases hv
    obtain ⟨k1, k2, k3⟩ := vx_keep h0 e1 hS hA hf hL hF
    obtain ⟨t2, a1, b1⟩ := kk r u t T'.heap (locs ++ L) e1.symm (by rw [← e2]; exact X'.warmed.alike) hp hb k1 k2 k3 T' rfl X'
    exact ⟨t2, st t2 a1, b1⟩
  · obtain ⟨k1, k2, k3⟩ := vx_keep h0 e1 hS hAX hf hL hF
    obtain ⟨t2, a1, b1⟩ := kx E ce q u t T'.heap (locs ++ L) e1.symm (by rw [← e2]; exact X'.warmed.alike) hp hb k1 k2 k3 (by rw [e1]; exact hce) hcv hcl T' rfl X'
    exact ⟨t2, st.trans a1, b1⟩
theorem vx_calll {S SX : Type} {post : Int64 → S → Prop} {px : SX → Prop} {B : S → State → Prop} {BX : String → SX → State → Prop} {AX : Nat → Prop} (hr : vx_Run p l e R s m args below meth c H locs cells slots mc ms (F0 m pc ls st0) rest (va_Ql post B A1 a) (vx_X px BX AX) free) (hS : va_S A0 H0 H locs) (hA : ∀ q, q < H.size → A1 q → A0 q) (hf : ∀ q, free q → A0 q) (hAX : ∀ q, q < H.size → AX q → A0 q)
    (kx : ∀ (E : String) (ce : Cell) (q9 : Addr) (u : SX) (t : State) (H1 : Heap) (locs1 : List Loc), t.heap = H1 → s.vm.Alike t.vm → px u → BX E u t → H.size ≤ H1.size → (∀ q : Nat, q < H.size → ¬ AX q → H1[q]? = H[q]?) → va_S A0 H0 H1 locs1 → H1[q9]? = some ce → ce.vm = .none → s.vm.findClass E = some ce.cls → vx_W p l e R s m args below meth c H1 locs1 (cells + mc) (slots + ms) Q (F0 m pc ls rest) q9)
    (kk : ∀ (r : Int64) (u : S) (t : State) (H1 : Heap) (locs1 : List Loc), t.heap = H1 → s.vm.Alike t.vm → post r u → B u t → H.size ≤ H1.size → (∀ q : Nat, q < H.size → ¬ A1 q → H1[q]? = H[q]?) → va_S A0 H0 H1 locs1 → W p l e R s m args below meth c H1 locs1 (cells + mc) (slots + ms) Q (F0 m (pc + 3) ls (.long r :: rest))) : W p l e R s m args below meth c H locs cells slots Q (F0 m pc ls st0) := by
  intro T hT X
  rcases hr T hT X with ⟨v, st₀, t, T', L, h0, X', hL, e1, e2, ⟨⟨r, u, hv, hp, hb⟩, hF⟩, st⟩ | ⟨q, st₀, t, T', L, E, ce, h0, X', hL, e1, e2, ⟨u, hp, hb, hF⟩, hce, hcv, hcl, st⟩
  · cases hv
    obtain ⟨k1, k2, k3⟩ := vx_keep h0 e1 hS hA hf hL hF
    obtain ⟨t2, a1, b1⟩ := kk r u t T'.heap (locs ++ L) e1.symm (by rw [← e2]; exact X'.warmed.alike) hp hb k1 k2 k3 T' rfl X'
    exact ⟨t2, st t2 a1, b1⟩
  · obtain ⟨k1, k2, k3⟩ := vx_keep h0 e1 hS hAX hf hL hF
    obtain ⟨t2, a1, b1⟩ := kx E ce q u t T'.heap (locs ++ L) e1.symm (by rw [← e2]; exact X'.warmed.alike) hp hb k1 k2 k3 (by rw [e1]; exact hce) hcv hcl T' rfl X'
    exact ⟨t2, st.trans a1, b1⟩
theorem vx_callf {S SX : Type} {post : UInt32 → S → Prop} {px : SX → Prop} {B : S → State → Prop} {BX : String → SX → State → Prop} {AX : Nat → Prop} (hr : vx_Run p l e R s m args below meth c H locs cells slots mc ms (F0 m pc ls st0) rest (va_Qf post B A1 a) (vx_X px BX AX) free) (hS : va_S A0 H0 H locs) (hA : ∀ q, q < H.size → A1 q → A0 q) (hf : ∀ q, free q → A0 q) (hAX : ∀ q, q < H.size → AX q → A0 q)
    (kx : ∀ (E : String) (ce : Cell) (q9 : Addr) (u : SX) (t : State) (H1 : Heap) (locs1 : List Loc), t.heap = H1 → s.vm.Alike t.vm → px u → BX E u t → H.size ≤ H1.size → (∀ q : Nat, q < H.size → ¬ AX q → H1[q]? = H[q]?) → va_S A0 H0 H1 locs1 → H1[q9]? = some ce → ce.vm = .none → s.vm.findClass E = some ce.cls → vx_W p l e R s m args below meth c H1 locs1 (cells + mc) (slots + ms) Q (F0 m pc ls rest) q9)
    (kk : ∀ (r : UInt32) (u : S) (t : State) (H1 : Heap) (locs1 : List Loc), t.heap = H1 → s.vm.Alike t.vm → post r u → B u t → H.size ≤ H1.size → (∀ q : Nat, q < H.size → ¬ A1 q → H1[q]? = H[q]?) → va_S A0 H0 H1 locs1 → W p l e R s m args below meth c H1 locs1 (cells + mc) (slots + ms) Q (F0 m (pc + 3) ls (.float r :: rest))) : W p l e R s m args below meth c H locs cells slots Q (F0 m pc ls st0) := by
  intro T hT X
  rcases hr T hT X with ⟨v, st₀, t, T', L, h0, X', hL, e1, e2, ⟨⟨r, u, hv, hp, hb⟩, hF⟩, st⟩ | ⟨q, st₀, t, T', L, E, ce, h0, X', hL, e1, e2, ⟨u, hp, hb, hF⟩, hce, hcv, hcl, st⟩
  · cases hv
    obtain ⟨k1, k2, k3⟩ := vx_keep h0 e1 hS hA hf hL hF
    obtain ⟨t2, a1, b1⟩ := kk r u t T'.heap (locs ++ L) e1.symm (by rw [← e2]; exact X'.warmed.alike) hp hb k1 k2 k3 T' rfl X'
    exact ⟨t2, st t2 a1, b1⟩
  · obtain ⟨k1, k2, k3⟩ := vx_keep h0 e1 hS hAX hf hL hF
    obtain ⟨t2, a1, b1⟩ := kx E ce q u t T'.heap (locs ++ L) e1.symm (by rw [← e2]; exact X'.warmed.alike) hp hb k1 k2 k3 (by rw [e1]; exact hce) hcv hcl T' rfl X'
    exact ⟨t2, st.trans a1, b1⟩
theorem vx_calld {S SX : Type} {post : UInt64 → S → Prop} {px : SX → Prop} {B : S → State → Prop} {BX : String → SX → State → Prop} {AX : Nat → Prop} (hr : vx_Run p l e R s m args below meth c H locs cells slots mc ms (F0 m pc ls st0) rest (va_Qd post B A1 a) (vx_X px BX AX) free) (hS : va_S A0 H0 H locs) (hA : ∀ q, q < H.size → A1 q → A0 q) (hf : ∀ q, free q → A0 q) (hAX : ∀ q, q < H.size → AX q → A0 q)
    (kx : ∀ (E : String) (ce : Cell) (q9 : Addr) (u : SX) (t : State) (H1 : Heap) (locs1 : List Loc), t.heap = H1 → s.vm.Alike t.vm → px u → BX E u t → H.size ≤ H1.size → (∀ q : Nat, q < H.size → ¬ AX q → H1[q]? = H[q]?) → va_S A0 H0 H1 locs1 → H1[q9]? = some ce → ce.vm = .none → s.vm.findClass E = some ce.cls → vx_W p l e R s m args below meth c H1 locs1 (cells + mc) (slots + ms) Q (F0 m pc ls rest) q9)
    (kk : ∀ (r : UInt64) (u : S) (t : State) (H1 : Heap) (locs1 : List Loc), t.heap = H1 → s.vm.Alike t.vm → post r u → B u t → H.size ≤ H1.size → (∀ q : Nat, q < H.size → ¬ A1 q → H1[q]? = H[q]?) → va_S A0 H0 H1 locs1 → W p l e R s m args below meth c H1 locs1 (cells + mc) (slots + ms) Q (F0 m (pc + 3) ls (.double r :: rest))) : W p l e R s m args below meth c H locs cells slots Q (F0 m pc ls st0) := by
  intro T hT X
  rcases hr T hT X with ⟨v, st₀, t, T', L, h0, X', hL, e1, e2, ⟨⟨r, u, hv, hp, hb⟩, hF⟩, st⟩ | ⟨q, st₀, t, T', L, E, ce, h0, X', hL, e1, e2, ⟨u, hp, hb, hF⟩, hce, hcv, hcl, st⟩
  · cases hv
    obtain ⟨k1, k2, k3⟩ := vx_keep h0 e1 hS hA hf hL hF
    obtain ⟨t2, a1, b1⟩ := kk r u t T'.heap (locs ++ L) e1.symm (by rw [← e2]; exact X'.warmed.alike) hp hb k1 k2 k3 T' rfl X'
    exact ⟨t2, st t2 a1, b1⟩
  · obtain ⟨k1, k2, k3⟩ := vx_keep h0 e1 hS hAX hf hL hF
    obtain ⟨t2, a1, b1⟩ := kx E ce q u t T'.heap (locs ++ L) e1.symm (by rw [← e2]; exact X'.warmed.alike) hp hb k1 k2 k3 (by rw [e1]; exact hce) hcv hcl T' rfl X'
    exact ⟨t2, st.trans a1, b1⟩
theorem vx_callv {S SX : Type} {post : S → Prop} {px : SX → Prop} {B : S → State → Prop} {BX : String → SX → State → Prop} {AX : Nat → Prop} (hr : vx_Run p l e R s m args below meth c H locs cells slots mc ms (F0 m pc ls st0) rest (va_Qv post B A1 a) (vx_X px BX AX) free) (hS : va_S A0 H0 H locs) (hA : ∀ q, q < H.size → A1 q → A0 q) (hf : ∀ q, free q → A0 q) (hAX : ∀ q, q < H.size → AX q → A0 q)
    (kx : ∀ (E : String) (ce : Cell) (q9 : Addr) (u : SX) (t : State) (H1 : Heap) (locs1 : List Loc), t.heap = H1 → s.vm.Alike t.vm → px u → BX E u t → H.size ≤ H1.size → (∀ q : Nat, q < H.size → ¬ AX q → H1[q]? = H[q]?) → va_S A0 H0 H1 locs1 → H1[q9]? = some ce → ce.vm = .none → s.vm.findClass E = some ce.cls → vx_W p l e R s m args below meth c H1 locs1 (cells + mc) (slots + ms) Q (F0 m pc ls rest) q9)
    (kk : ∀ (u : S) (t : State) (H1 : Heap) (locs1 : List Loc), t.heap = H1 → s.vm.Alike t.vm → post u → B u t → H.size ≤ H1.size → (∀ q : Nat, q < H.size → ¬ A1 q → H1[q]? = H[q]?) → va_S A0 H0 H1 locs1 → W p l e R s m args below meth c H1 locs1 (cells + mc) (slots + ms) Q (F0 m (pc + 3) ls (rest))) : W p l e R s m args below meth c H locs cells slots Q (F0 m pc ls st0) := by
  intro T hT X
  rcases hr T hT X with ⟨v, st₀, t, T', L, h0, X', hL, e1, e2, ⟨⟨u, hv, hp, hb⟩, hF⟩, st⟩ | ⟨q, st₀, t, T', L, E, ce, h0, X', hL, e1, e2, ⟨u, hp, hb, hF⟩, hce, hcv, hcl, st⟩
  · cases hv
    obtain ⟨k1, k2, k3⟩ := vx_keep h0 e1 hS hA hf hL hF
    obtain ⟨t2, a1, b1⟩ := kk u t T'.heap (locs ++ L) e1.symm (by rw [← e2]; exact X'.warmed.alike) hp hb k1 k2 k3 T' rfl X'
    exact ⟨t2, st t2 a1, b1⟩
  · obtain ⟨k1, k2, k3⟩ := vx_keep h0 e1 hS hAX hf hL hF
    obtain ⟨t2, a1, b1⟩ := kx E ce q u t T'.heap (locs ++ L) e1.symm (by rw [← e2]; exact X'.warmed.alike) hp hb k1 k2 k3 (by rw [e1]; exact hce) hcv hcl T' rfl X'
    exact ⟨t2, st.trans a1, b1⟩
/-- caught by the row x of this method's table; the rows ahead don't take it -/
theorem vx_catch {own name : String} {E : String} {ce : Cell} {q : Addr} (hown : s.vm.findClass own = some m.cls) (pre : List ExceptionTableEntry) (x : ExceptionTableEntry) (suf : List ExceptionTableEntry) (hsplit : c.exceptionTable.toList = pre ++ x :: suf)
    (hpass : ∀ z ∈ pre, covers z pc = false ∨ (z.catchType ≠ 0 ∧ ∃ nm : String, (Cond.classLink own z.catchType nm).before args s = true ∧ va_Nc E nm s)) (hx : covers x pc = true) (h0 : x.catchType ≠ 0)
    (hlink : (Cond.classLink own x.catchType name).before args s = true) (hcast : (Cond.castable E name).before args s = true) (hcell : H[q]? = some ce) (hv : ce.vm = .none) (hcl : s.vm.findClass E = some ce.cls)
    (kk : W p l e R s m args below meth c H locs cells slots Q (F0 m x.handlerPc ls [.ref q])) : vx_W p l e R s m args below meth c H locs cells slots Q (F0 m pc ls rest) q := by
  intro T hT X
  have hpl : e.platform.magicAccessors = ({} : Platform).magicAccessors := by rw [X.admits.platform]
  obtain ⟨c3, c4, hc3, hc4, hasg⟩ := Cond.castable_spec hcast
  cases Option.some.inj (hc3.symm.trans hcl)
  obtain ⟨c5, hc5, hcl5⟩ := Cond.classLink_spec hown hlink e.platform hpl
  cases Option.some.inj (hc4.symm.trans hc5)
  obtain ⟨vm', X', st⟩ := X.thenCaughtThrough q (g := F0 m pc ls rest) rfl (Steps.refl _) (by rw [hT]; exact hcell) (by rw [hv]; rfl) (by obtain ⟨k9, h9, -⟩ := Vm.findClass_spec hcl; exact ⟨k9, h9⟩) pre x suf hsplit
    (fun z hz => by
      rcases hpass z hz with h | ⟨hz0, nm, hl1, hn1⟩
      · exact Or.inl h
      · obtain ⟨c6, hc6, hcl6⟩ := Cond.classLink_spec hown hl1 e.platform hpl
        obtain ⟨a8, b8, h1, h2, h3⟩ := hn1
        cases Option.some.inj (h1.symm.trans hcl)
        cases Option.some.inj (h2.symm.trans hc6)
        exact Or.inr ⟨hz0, _, hcl6, h3⟩) hx (Or.inr ⟨h0, c4, hcl5, hasg⟩)
  obtain ⟨t, a1, b1⟩ := kk (T.setVm vm') hT X'
  exact ⟨t, st.trans a1, b1⟩
end Rows
section Ends
variable {p : Program} {l : Launch} {e : Env} {R : Room} {s : State} {m : MethodId} {args : Array Value} {below : List Frame} {meth : Method} {c : Code} {H : Heap} {locs : List Loc} {cells slots : Nat} {Q : State → Prop}
variable {mc ms : Nat} {free : Addr → Prop} {A0 A1 : Nat → Prop} {H0 : Heap} {a : Array Value} {ls : Array Slot} {st0 rest : List Value}
variable {Qc : Array Value → State → Outcome → State → Prop} {XC : String → State → State → Prop}
/-- what a body that may throw owes at its end -/
def vx_MQ (below : List Frame) (Qc : Array Value → State → Outcome → State → Prop) (XC : String → State → State → Prop) (a : Array Value) (s : State) (mc ms : Nat) (free : Addr → Prop) : State → Prop := fun t =>
  ∃ o, t.status = .running ∧ Ended t below o ∧ vx_Q Qc XC mc ms free a s o t
theorem vx_ret {g : JFrame} {mc ms : Nat} (k : W p l e R s m args below meth c H locs cells slots (MQ below Qc args s mc ms free) g) : W p l e R s m args below meth c H locs cells slots (vx_MQ below Qc XC args s mc ms free) g := by
  intro T hT X
  obtain ⟨t, a1, o, b1, b2, b3, b4⟩ := k T hT X
  exact ⟨t, a1, o, b1, b2, Or.inl ⟨b3, b4⟩⟩
/-- not caught here: it goes on to the caller -/
theorem vx_widen {g : JFrame} {q : Addr} {k n : Nat} (h1 : cells ≤ k) (h2 : slots ≤ n) (kk : vx_W p l e R s m args below meth c H locs k n Q g q) : vx_W p l e R s m args below meth c H locs cells slots Q g q := fun T hT X => kk T hT (stand_widen X h1 h2)
theorem vx_out {pc : Nat} {E : String} {ce : Cell} {q : Addr} {mc ms : Nat} (hout : ∀ x ∈ c.exceptionTable.toList, covers x pc = false) (hlocks : meth.locks = false) (hcell : H[q]? = some ce) (hv : ce.vm = .none) (hcl : s.vm.findClass E = some ce.cls)
    (hx : ∀ t : State, t.heap = H → s.vm.Alike t.vm → XC E s t) (hf : ∀ z ∈ locs, free z.base) (hc : cells ≤ mc) (hs : slots ≤ ms) :
    vx_W p l e R s m args below meth c H locs cells slots (vx_MQ below Qc XC args s mc ms free) (F0 m pc ls rest) q := by
  intro T hT X
  obtain ⟨st1, hrun, hend, hW, hsm⟩ := X.leaveThrown q (g := F0 m pc ls rest) rfl rfl rfl hout hlocks
  have hcell9 : (T.setFrames (.throwing q :: below)).heap[q]? = some ce := by
    show T.heap[q]? = some ce
    rw [hT]; exact hcell
  exact ⟨_, st1, .threw q, hrun, hend, Or.inr ⟨q, rfl, E, ce, locs, hx _ hT hW.alike, hcell9, hv, hcl, hW, hsm.mono hc hs, hf⟩⟩
theorem vx_frame {U : State} {k n : Nat} (h : s.sameButNew ({ U with vm := s.vm } : State) locs k n) : s.heap.size ≤ U.heap.size ∧ ∀ q : Nat, q < s.heap.size → (∀ z ∈ locs, z.base ≠ q) → U.heap[q]? = s.heap[q]? := by
  obtain ⟨-, h2, -, -, -, h6⟩ := h
  refine ⟨h2, fun q hq hz => ?_⟩
  obtain ⟨c9, e1, e2, e3, e4⟩ := h6 q _ (Array.getElem?_eq_getElem hq)
  have hs : c9.slots = (s.heap[q]).slots := Array.ext_getElem? fun i => e4 i fun hm => hz _ hm rfl
  have h9 : c9 = s.heap[q] := by
    rw [hs] at e2
    exact e2
  have e5 : U.heap[q]? = some c9 := e1
  rw [e5, h9, Array.getElem?_eq_getElem hq]
/-- the words of a throw but the four that speak of the heap -/
def vx_no (w : Cond) : Bool := decide (w ≠ .isRef (.static Bundle.tN "UNASSIGNED_STACK" Bundle.steD)) && decide (w ≠ .isRef (.static Bundle.tN "SUPPRESSED_SENTINEL" Bundle.listD)) && decide (w ≠ .laysStatic Bundle.tN "UNASSIGNED_STACK" Bundle.steD) && decide (w ≠ .laysStatic Bundle.tN "SUPPRESSED_SENTINEL" Bundle.listD)
def vx_at0 (own : String) (ic : Nat) (X : String) (names : List String) : List Cond := (Bundle.ownAtoms0 own ic X names).filter vx_no
def vx_atS (own : String) (ic : Nat) (X : String) (names : List String) : List Cond := (Bundle.ownAtoms own ic X names).filter vx_no
/-- a word that the tables alone decide, or a good one -/
def vx_ot (w : Cond) : Bool := w.onTables || goodWord w
theorem vx_ot_at {args a' : Array Value} {s U : State} {w : Cond} (hW : s.WarmedH U.vm) (hvm : s.vm = U.vm) (hg : vx_ot w = true) (h : w.before args s = true) : w.before a' U = true := by
  simp only [vx_ot, Bool.or_eq_true] at hg
  rcases hg with hg | hg
  · exact va_tabs hg hvm h
  · exact word_at hW (good_of_word hg) h
/-- a list's words: the good ones out of the method's own list, the others by premises of their own -/
theorem vx_hat {args : Array Value} {s : State} {L B : List Cond} (h1 : ∀ w ∈ L.filter goodWord, w.before args s = true) (h2 : ∀ w ∈ L.filter (fun w => !goodWord w), w ∈ B) (h3 : ∀ w ∈ B, w.before args s = true) : ∀ w ∈ L, w.before args s = true := by
  intro w hw
  by_cases g : goodWord w = true
  · exact h1 w (List.mem_filter.mpr ⟨hw, g⟩)
  · refine h3 w (h2 w (List.mem_filter.mpr ⟨hw, ?_⟩))
    show (!goodWord w) = true
    cases hgw : goodWord w
    · rfl
    · exact absurd hgw g
theorem vx_c {args : Array Value} {s : State} {w : Cond} {B : List Cond} (h : w.before args s = true) (t : ∀ w ∈ B, w.before args s = true) : ∀ w' ∈ w :: B, w'.before args s = true := fun w' h' => (List.mem_cons.mp h').elim (fun e => by rw [e]; exact h) (t w')
theorem vx_n {args : Array Value} {s : State} : ∀ w ∈ ([] : List Cond), w.before args s = true := fun _ h => nomatch h
theorem vx_own {args : Array Value} {s : State} {L : List Cond} (h1 : ∀ w ∈ L.filter vx_no, w.before args s = true)
    (hU : (Cond.isRef (.static Bundle.tN "UNASSIGNED_STACK" Bundle.steD)).before args s = true) (hN : (Cond.isRef (.static Bundle.tN "SUPPRESSED_SENTINEL" Bundle.listD)).before args s = true)
    (lU : (Cond.laysStatic Bundle.tN "UNASSIGNED_STACK" Bundle.steD).before args s = true) (lN : (Cond.laysStatic Bundle.tN "SUPPRESSED_SENTINEL" Bundle.listD).before args s = true) : ∀ w ∈ L, w.before args s = true := by
  intro w hw
  by_cases e1 : w = .isRef (.static Bundle.tN "UNASSIGNED_STACK" Bundle.steD)
  · rw [e1]; exact hU
  · by_cases e2 : w = .isRef (.static Bundle.tN "SUPPRESSED_SENTINEL" Bundle.listD)
    · rw [e2]; exact hN
    · by_cases e3 : w = .laysStatic Bundle.tN "UNASSIGNED_STACK" Bundle.steD
      · rw [e3]; exact lU
      · by_cases e4 : w = .laysStatic Bundle.tN "SUPPRESSED_SENTINEL" Bundle.listD
        · rw [e4]; exact lN
        · exact h1 w (List.mem_filter.mpr ⟨hw, by unfold vx_no; rw [decide_eq_true e1, decide_eq_true e2, decide_eq_true e3, decide_eq_true e4]; rfl⟩)
/-- where a static field lies, its class's statics cell in H -/
def vx_L (C n d : String) (A : Nat → Prop) (U : State) (H : Heap) : Prop := ∃ (c : ClassId) (k : Class) (i : Nat) (f : Field) (a : Nat) (cell : Cell), U.vm.findClass C = some c ∧ U.fieldFound? C n d = some (c, k, i, f) ∧ f.isStatic = true ∧ k.statics = some a ∧ H[a]? = some cell ∧ cell.vm.isStatics = true ∧ cell.cls = c ∧ f.slot < cell.slots.size ∧ k.staticTypes[f.slot]? = some f.type ∧ ¬ A a
theorem vx_L.moved {C n d : String} {A : Nat → Prop} {u U : State} {H : Heap} (hvm : u.vm.Alike U.vm) (h : vx_L C n d A u H) : vx_L C n d A U H := by
  obtain ⟨c, k, i, f, a, cell, h1, h2, h3, h4, h5, h6, h7, h8, h9, h10⟩ := h
  obtain ⟨k', hi', he⟩ := State.fieldFound?_setVm hvm h2
  exact ⟨c, k', i, f, a, cell, by rw [hvm.findClass]; exact h1, hi', h3, by rw [he]; exact h4, h5, h6, h7, h8, by rw [he]; exact h9, h10⟩
theorem vx_L.kept {C n d : String} {A : Nat → Prop} {U : State} {H H1 : Heap} (h : vx_L C n d A U H) (hq : ∀ a : Nat, a < H.size → ¬ A a → H1[a]? = H[a]?) : vx_L C n d A U H1 := by
  obtain ⟨c, k, i, f, a, cell, h1, h2, h3, h4, h5, h6, h7, h8, h9, h10⟩ := h
  exact ⟨c, k, i, f, a, cell, h1, h2, h3, h4, by rw [hq a (Array.getElem?_eq_some_iff.mp h5).1 h10]; exact h5, h6, h7, h8, h9, h10⟩
theorem vx_L.narrow {C n d : String} {A B : Nat → Prop} {U : State} {H : Heap} (h : vx_L C n d A U H) (hAB : ∀ q, B q → A q) : vx_L C n d B U H := by
  obtain ⟨c, k, i, f, a, cell, h1, h2, h3, h4, h5, h6, h7, h8, h9, h10⟩ := h
  exact ⟨c, k, i, f, a, cell, h1, h2, h3, h4, h5, h6, h7, h8, h9, fun z => h10 (hAB _ z)⟩
theorem vx_L.word {C n d : String} {A : Nat → Prop} {s : State} {args : Array Value} (h : vx_L C n d A s s.heap) : (Cond.laysStatic C n d).before args s = true := by
  obtain ⟨c, k, i, f, a, cell, h1, h2, h3, h4, h5, h6, h7, h8, h9, -⟩ := h
  show (Cond.laysStatic C n d).holds args s none s [] = true
  exact Cond.laysStatic_of h1 h2 h3 h4 h5 h6 h7 h8 h9
/-- .. and what it holds: null or some reference -/
def vx_Zq (C n d : String) (A : Nat → Prop) (U : State) (H : Heap) : Prop := va_Zq C n d A U H ∧ vx_L C n d A U H
theorem vx_Zq.moved {C n d : String} {A : Nat → Prop} {u U : State} {H : Heap} (hvm : u.vm.Alike U.vm) (h : vx_Zq C n d A u H) : vx_Zq C n d A U H := ⟨va_Zq.moved hvm h.1, vx_L.moved hvm h.2⟩
theorem vx_Zq.kept {C n d : String} {A : Nat → Prop} {U : State} {H H1 : Heap} (h : vx_Zq C n d A U H) (hq : ∀ a : Nat, a < H.size → ¬ A a → H1[a]? = H[a]?) : vx_Zq C n d A U H1 := ⟨va_Zq.kept h.1 hq, vx_L.kept h.2 hq⟩
theorem vx_Zq.narrow {C n d : String} {A B : Nat → Prop} {U : State} {H : Heap} (h : vx_Zq C n d A U H) (hAB : ∀ q, B q → A q) : vx_Zq C n d B U H := ⟨va_Zq.narrow h.1 hAB, vx_L.narrow h.2 hAB⟩
theorem vx_Zqof {args : Array Value} {s : State} {C n d : String} {A : Nat → Prop} (hl : (Cond.laysStatic C n d).before args s = true) (hini : (Cond.initialized C).before args s = true) (h : (Cond.isRef (.static C n d)).before args s = true) (hA : ∀ a : Nat, a < s.heap.size → ¬ A a) : vx_Zq C n d A s s.heap := by
  refine ⟨va_Zqof hl hini h hA, ?_⟩
  obtain ⟨c, k, i, f, a, cell, h1, h2, h3, h4, h5, h6, h7, h8, h9⟩ := Cond.laysStatic_spec hl
  exact ⟨c, k, i, f, a, cell, h1, h2, h3, h4, h5, h6, h7, h8, h9, hA a (Array.getElem?_eq_some_iff.mp h5).1⟩
theorem vx_isRef {C n d : String} {v : Value} {A : Nat → Prop} {s : State} {args : Array Value} (h : va_Z C n d v A s s.heap) (hv : v.isRef = true) : (Cond.isRef (.static C n d)).before args s = true := by
  obtain ⟨cf, kf, fi, f, a, cell, h1, h2, h3, h4, h5, h6, h7, -⟩ := h
  have he : (Term.static C n d).eval args s none [] s = some v := by
    simp [Term.eval, State.fieldNamed?, h1, h2, h4, h5, h6, h7]
  simp only [Cond.before, Cond.holds, Cond.value, he]
  cases v <;> simp_all [Value.isRef]
theorem vx_isRefq {C n d : String} {A : Nat → Prop} {s : State} {args : Array Value} (h : va_Zq C n d A s s.heap) : (Cond.isRef (.static C n d)).before args s = true := by
  rcases h with h | ⟨t, h⟩
  · exact vx_isRef h rfl
  · exact vx_isRef h rfl
/-- the same frame, seen from here: as if the method were called anew in this heap -/
theorem vx_rebase {T : State} (X : Stand p l e R s m args below meth c T locs cells slots) {R' : Room} (hf : R'.frames ≤ R.frames) (hl : R'.locals ≤ R.locals) (hc : cells + R'.cells ≤ R.cells) (hs : slots + R'.slots ≤ R.slots) :
    Stand p l e R' ((T.setVm s.vm).setFrames (.invoking m args :: below)) m args below meth c T [] 0 0 := by
  have htop : (T.setVm s.vm).topJava?.isSome := X.here.top
  have hF : ((T.setVm s.vm).setFrames (.invoking m args :: below)).frames = .invoking m args :: below := State.frames_setFrames _ (State.cur_lt_of_top htop)
  obtain ⟨g₀, hg0⟩ := Option.isSome_iff_exists.mp htop
  obtain ⟨r, hr⟩ := State.topJava?_eq_some.mp hg0
  have hl9 : e.platform.stackLimits (T.setVm s.vm).me = e.platform.stackLimits s.me := X.limits
  have hb9 : (T.setVm s.vm).me.stackBytes = s.me.stackBytes := X.bytes
  refine ⟨X.admits, X.cas, X.clock, hF, ?_, X.hears, X.method, X.code, X.here, X.tail, X.warmed, ?_, ?_, ?_⟩
  · have h := X.room
    have hU : ((T.setVm s.vm).setFrames (.invoking m args :: below)).localsInUse = s.localsInUse := by
      rw [State.localsInUse_invoking hF (meth := meth) (c := c) X.method X.code, State.localsInUse_invoking X.frames X.method X.code]
    simp only [State.hasRoom, Bool.and_eq_true, decide_eq_true_eq] at h ⊢
    obtain ⟨⟨⟨⟨h1, h2, h3, h4, h5, h6⟩, h7⟩, h8⟩, h9⟩ := h
    rw [X.frames, List.length_cons] at h2 h3
    have q1 := X.heapSize
    have q2 := X.used
    simp only [hF, hU, List.length_cons, State.stackLimits_setFrames, State.stackBytes_setFrames, hl9, hb9]
    refine ⟨⟨⟨⟨by omega, by omega, by omega, by omega, by omega, h6⟩, ?_⟩, ?_⟩, X.book⟩
    · show T.heap.size + R'.cells ≤ e.platform.maxCells
      omega
    · show T.slotsUsed + R'.slots ≤ e.platform.maxSlots
      omega
  · rw [State.stackLimits_setFrames]; rfl
  · rw [State.stackBytes_setFrames]; rfl
  · refine ⟨?_, Nat.le_refl _, Nat.le_refl _, ?_, ?_, fun a c9 h9 => ⟨c9, h9, rfl, rfl, fun _ _ => rfl⟩⟩
    · obtain ⟨t, ht, -⟩ := State.frames_cons hr
      show T.setVm s.vm = { ((T.setVm s.vm).setFrames (.invoking m args :: below)).setFrames (T.setVm s.vm).frames with heap := T.heap, slotsUsed := T.slotsUsed }
      rw [State.setFrames_setFrames, State.setFrames_self ht]
      rfl
    · show T.slotsUsed = T.slotsUsed + ((T.heap.toList.drop T.heap.size).map (·.slots.size)).sum
      rw [List.drop_eq_nil_of_le (Nat.le_of_eq Array.length_toList)]
      rfl
    · show ((T.heap.toList.drop T.heap.size).map (·.slots.size)).sum ≤ 0
      rw [List.drop_eq_nil_of_le (Nat.le_of_eq Array.length_toList)]
      exact Nat.le_refl _
/-- 'throw new E()': new; dup; invokespecial; athrow -/
theorem vx_throw0 {cc : ByteArray} {pc : Nat} (hexec : p.tables.exec = Jvm.exec) (hb : c.code = cc) (hl : l.stackTraces = false) {own cls : String} {names : List String} {ik ic mc ms : Nat} {A : Nat → Prop}
    (hown : s.vm.findClass own = some m.cls) (hcls : Bundle.fit cls = true) (hnames : ∀ n ∈ names, Bundle.fit n = true)
    (hk : (Cond.classLink own ik cls).before args s = true) (hini : (Cond.initialized cls).before args s = true) (hat : ∀ w ∈ vx_at0 own ic cls names, w.before args s = true)
    (hgood : ∀ w ∈ Cond.classLink own ik cls :: Cond.initialized cls :: vx_at0 own ic cls names, vx_ot w = true)
    (hU : vx_Zq Bundle.tN "UNASSIGNED_STACK" Bundle.steD A s s.heap) (hN : vx_Zq Bundle.tN "SUPPRESSED_SENTINEL" Bundle.listD A s s.heap) (hS : va_S A s.heap H locs) (hsize : ls.size = c.maxLocals)
    (d0 : decode cc pc = .ok (.new ik, 3)) (d3 : decode cc (pc + 3) = .ok (.dup, 1)) (d4 : decode cc (pc + 4) = .ok (.invokespecial ic, 3)) (d7 : decode cc (pc + 7) = .ok (.athrow, 1))
    (hout : ∀ x ∈ c.exceptionTable.toList, covers x (pc + 7) = false)
    (hRframes : names.length + 3 < R.frames) (hRlocals : (rest.map fun v => v.category).sum + (13 * (names.length + 1) + 42) ≤ R.locals) (hRcells : cells + 1 ≤ R.cells) (hRslots : slots + 6 ≤ R.slots) (hlocks : meth.locks = false)
    (hx : ∀ t : State, s.vm.Alike t.vm → H.size ≤ t.heap.size → (∀ q : Nat, q < H.size → t.heap[q]? = H[q]?) → XC cls s t)
    (hf : ∀ z ∈ locs, free z.base) (hc : cells + 1 ≤ mc) (hs : slots + 6 ≤ ms) :
    W p l e R s m args below meth c H locs cells slots (vx_MQ below Qc XC args s mc ms free) (F0 m pc ls rest) := by
  intro T hT X
  have htr : e.platform.stackTraces = false := (show e.platform.stackTraces = l.stackTraces by rw [X.admits.platform]).trans hl
  have Y := vx_rebase X (R' := { frames := R.frames, locals := R.locals, cells := 1, slots := 6 }) (Nat.le_refl _) (Nat.le_refl _) hRcells hRslots
  obtain ⟨s', hA⟩ : ∃ z, z = (T.setVm s.vm).setFrames (.invoking m args :: below) := ⟨_, rfl⟩
  rw [← hA] at Y
  have hvm : s'.vm = s.vm := by rw [hA]; rfl
  have hhp : s'.heap = H := by rw [hA]; exact hT
  have hW0 : s.WarmedH s'.vm := by rw [hvm]; exact State.WarmedH.refl s
  have hat' : ∀ w ∈ vx_at0 own ic cls names, w.before args s' = true := fun w hw => vx_ot_at hW0 hvm.symm (hgood w (List.mem_cons_of_mem _ (List.mem_cons_of_mem _ hw))) (hat w hw)
  have hk' : (Cond.classLink own ik cls).before args s' = true := vx_ot_at hW0 hvm.symm (hgood _ List.mem_cons_self) hk
  have hini' : (Cond.initialized cls).before args s' = true := vx_ot_at hW0 hvm.symm (hgood _ (List.mem_cons_of_mem _ List.mem_cons_self)) hini
  have hU' : vx_Zq Bundle.tN "UNASSIGNED_STACK" Bundle.steD A s' s'.heap := by rw [hhp]; exact vx_Zq.moved hW0.alike (hU.kept hS.2.1)
  have hN' : vx_Zq Bundle.tN "SUPPRESSED_SENTINEL" Bundle.listD A s' s'.heap := by rw [hhp]; exact vx_Zq.moved hW0.alike (hN.kept hS.2.1)
  have h : ∀ w ∈ Bundle.ownAtoms0 own ic cls names, w.before args s' = true := vx_own hat' (vx_isRefq hU'.1) (vx_isRefq hN'.1) hU'.2.word hN'.2.word
  have hown' : s'.vm.findClass own = some m.cls := by rw [hvm]; exact hown
  have hins : (Cond.instantiable cls 6).before args s' = true := h _ (by simp [Bundle.ownAtoms0])
  obtain ⟨vm₁, cX, kX, hfX, hkX, -, -, X₁, st1⟩ := Y.newCold hexec (own := own) (C := cls) (index := ik) (n := 6) hown' hk' hins hini'
    (g := F0 m pc ls rest) rfl (by rw [hb]; exact d0) (Nat.le_refl _) (Nat.le_refl _)
  generalize hT1 : (T.setVm vm₁).pushCell { cls := cX, slots := kX.instanceTypes.map defaultValue, vm := .none } = T1 at X₁ st1
  have hcat : (Value.ref T.heap.size).category = 1 := rfl
  have hcellA : T1.heap[T.heap.size]? = some (freshCell cX kX) := by rw [← hT1]; exact State.heap_pushCell_size _ _
  have d3' : decode c.code (pc + 3) = .ok (.dup, 1) := by rw [hb]; exact d3
  obtain ⟨U, hsteps, hrun, hend, hW, hsame, ce, hce, hO⟩ := X₁.ctorThrow0 hexec htr (own := own) (cls := cls) (names := names) (ic := ic) hown' hcls hnames h (fun x hx => nomatch hx) hfX hkX hcellA (by rw [hhp, hT]; exact Nat.le_refl _)
    (g := { method := m, pc := pc + 4, locals := ls, stack := .ref T.heap.size :: .ref T.heap.size :: rest, locked := none }) rfl hsize rfl rfl (rest := rest) rfl
    (by rw [hb]; exact d4) (by rw [hb]; exact d7) hout hRframes (by simp only [List.map_cons, List.sum_cons, hcat]; omega) hlocks
  obtain ⟨f1, f2⟩ := vx_frame hsame
  rw [hhp] at f1 f2
  have hWs : s.WarmedH U.vm := State.WarmedH.trans hW0 hW
  have hcl : s.vm.findClass cls = some ce.cls := by
    have h9 := hO.cls
    rw [hvm] at h9
    exact h9
  have hall : s.sameButNew ({ U with vm := s.vm } : State) locs mc ms := by
    subst hA
    obtain ⟨e1, e2⟩ := hsame
    rw [State.setFrames_setFrames] at e1
    have h2 : (T.setVm s.vm).sameButNew ({ U with vm := s.vm } : State) [] (0 + 1) (0 + 6) := ⟨e1, e2⟩
    have h3 := X.same.trans h2
    rw [List.append_nil] at h3
    exact h3.mono hc hs
  refine ⟨U, ?_, .threw T.heap.size, hrun, hend, Or.inr ⟨T.heap.size, rfl, cls, ce, locs, hx U hWs.alike f1 (fun q hq => f2 q hq (fun z hz => nomatch hz)), hce, hO.vm, hcl, hWs, hall, hf⟩⟩
  refine st1 _ ?_
  show Steps p.tables e below (T1.setTop { method := m, pc := pc + 3, locals := ls, stack := .ref T.heap.size :: rest, locked := none }) _
  jvm_step X₁.here [X₁.here.top, hexec, d3', Value.category]
  exact hsteps
/-- 'throw new E("text")': new; dup; ldc; invokespecial; athrow -/
theorem vx_throwS {cc : ByteArray} {pc : Nat} (hexec : p.tables.exec = Jvm.exec) (hb : c.code = cc) (hl : l.stackTraces = false) {own cls text : String} {names : List String} {ik is ic mc ms sa : Nat} {A : Nat → Prop}
    (hown : s.vm.findClass own = some m.cls) (hcls : Bundle.fit cls = true) (hnames : ∀ n ∈ names, Bundle.fit n = true)
    (hk : (Cond.classLink own ik cls).before args s = true) (hini : (Cond.initialized cls).before args s = true) (hstr : vk_R own is text sa s) (hat : ∀ w ∈ vx_atS own ic cls names, w.before args s = true)
    (hgood : ∀ w ∈ Cond.classLink own ik cls :: Cond.initialized cls :: vx_atS own ic cls names, vx_ot w = true)
    (hU : vx_Zq Bundle.tN "UNASSIGNED_STACK" Bundle.steD A s s.heap) (hN : vx_Zq Bundle.tN "SUPPRESSED_SENTINEL" Bundle.listD A s s.heap) (hS : va_S A s.heap H locs) (hsize : ls.size = c.maxLocals)
    (d0 : decode cc pc = .ok (.new ik, 3)) (d3 : decode cc (pc + 3) = .ok (.dup, 1)) (d4 : decode cc (pc + 4) = .ok (.ldc is, 2)) (d6 : decode cc (pc + 6) = .ok (.invokespecial ic, 3)) (d9 : decode cc (pc + 9) = .ok (.athrow, 1))
    (hout : ∀ x ∈ c.exceptionTable.toList, covers x (pc + 9) = false)
    (hRframes : names.length + 3 < R.frames) (hRlocals : (rest.map fun v => v.category).sum + (13 * (names.length + 1) + 43) ≤ R.locals) (hRcells : cells + 1 ≤ R.cells) (hRslots : slots + 6 ≤ R.slots) (hlocks : meth.locks = false)
    (hx : ∀ t : State, s.vm.Alike t.vm → H.size ≤ t.heap.size → (∀ q : Nat, q < H.size → t.heap[q]? = H[q]?) → XC cls s t)
    (hf : ∀ z ∈ locs, free z.base) (hc : cells + 1 ≤ mc) (hs : slots + 6 ≤ ms) :
    W p l e R s m args below meth c H locs cells slots (vx_MQ below Qc XC args s mc ms free) (F0 m pc ls rest) := by
  intro T hT X
  have htr : e.platform.stackTraces = false := (show e.platform.stackTraces = l.stackTraces by rw [X.admits.platform]).trans hl
  have Y := vx_rebase X (R' := { frames := R.frames, locals := R.locals, cells := 1, slots := 6 }) (Nat.le_refl _) (Nat.le_refl _) hRcells hRslots
  obtain ⟨s', hA⟩ : ∃ z, z = (T.setVm s.vm).setFrames (.invoking m args :: below) := ⟨_, rfl⟩
  rw [← hA] at Y
  have hvm : s'.vm = s.vm := by rw [hA]; rfl
  have hhp : s'.heap = H := by rw [hA]; exact hT
  have hW0 : s.WarmedH s'.vm := by rw [hvm]; exact State.WarmedH.refl s
  have hat' : ∀ w ∈ vx_atS own ic cls names, w.before args s' = true := fun w hw => vx_ot_at hW0 hvm.symm (hgood w (List.mem_cons_of_mem _ (List.mem_cons_of_mem _ hw))) (hat w hw)
  have hk' : (Cond.classLink own ik cls).before args s' = true := vx_ot_at hW0 hvm.symm (hgood _ List.mem_cons_self) hk
  have hini' : (Cond.initialized cls).before args s' = true := vx_ot_at hW0 hvm.symm (hgood _ (List.mem_cons_of_mem _ List.mem_cons_self)) hini
  have hU' : vx_Zq Bundle.tN "UNASSIGNED_STACK" Bundle.steD A s' s'.heap := by rw [hhp]; exact vx_Zq.moved hW0.alike (hU.kept hS.2.1)
  have hN' : vx_Zq Bundle.tN "SUPPRESSED_SENTINEL" Bundle.listD A s' s'.heap := by rw [hhp]; exact vx_Zq.moved hW0.alike (hN.kept hS.2.1)
  have h : ∀ w ∈ Bundle.ownAtoms own ic cls names, w.before args s' = true := vx_own hat' (vx_isRefq hU'.1) (vx_isRefq hN'.1) hU'.2.word hN'.2.word
  have hown' : s'.vm.findClass own = some m.cls := by rw [hvm]; exact hown
  have hins : (Cond.instantiable cls 6).before args s' = true := h _ (by simp [Bundle.ownAtoms])
  obtain ⟨vm₁, cX, kX, hfX, hkX, -, -, X₁, st1⟩ := Y.newCold hexec (own := own) (C := cls) (index := ik) (n := 6) hown' hk' hins hini'
    (g := F0 m pc ls rest) rfl (by rw [hb]; exact d0) (Nat.le_refl _) (Nat.le_refl _)
  generalize hT1 : (T.setVm vm₁).pushCell { cls := cX, slots := kX.instanceTypes.map defaultValue, vm := .none } = T1 at X₁ st1
  have hcat : (Value.ref T.heap.size).category = 1 := rfl
  have hcellA : T1.heap[T.heap.size]? = some (freshCell cX kX) := by rw [← hT1]; exact State.heap_pushCell_size _ _
  have d3' : decode c.code (pc + 3) = .ok (.dup, 1) := by rw [hb]; exact d3
  have d4' : decode c.code (pc + 4) = .ok (.ldc is, 2) := by rw [hb]; exact d4
  have hstr' : vk_R own is text sa s' := vk_R.warm hW0 hstr
  obtain ⟨U, hsteps, hrun, hend, hW, hsame, ce, hce, hO⟩ := X₁.ctorThrowS hexec htr (own := own) (cls := cls) (names := names) (ic := ic) hown' hcls hnames h (fun x hx => nomatch hx) hfX hkX hcellA (by rw [hhp, hT]; exact Nat.le_refl _) (msg := .ref sa) rfl
    (g := { method := m, pc := pc + 6, locals := ls, stack := .ref sa :: .ref T.heap.size :: .ref T.heap.size :: rest, locked := none }) rfl hsize rfl rfl (rest := rest) rfl
    (by rw [hb]; exact d6) (by rw [hb]; exact d9) hout hRframes (by simp only [List.map_cons, List.sum_cons, hcat]; omega) hlocks
  obtain ⟨f1, f2⟩ := vx_frame hsame
  rw [hhp] at f1 f2
  have hWs : s.WarmedH U.vm := State.WarmedH.trans hW0 hW
  have hcl : s.vm.findClass cls = some ce.cls := by
    have h9 := hO.cls
    rw [hvm] at h9
    exact h9
  have hall : s.sameButNew ({ U with vm := s.vm } : State) locs mc ms := by
    subst hA
    obtain ⟨e1, e2⟩ := hsame
    rw [State.setFrames_setFrames] at e1
    have h2 : (T.setVm s.vm).sameButNew ({ U with vm := s.vm } : State) [] (0 + 1) (0 + 6) := ⟨e1, e2⟩
    have h3 := X.same.trans h2
    rw [List.append_nil] at h3
    exact h3.mono hc hs
  refine ⟨U, ?_, .threw T.heap.size, hrun, hend, Or.inr ⟨T.heap.size, rfl, cls, ce, locs, hx U hWs.alike f1 (fun q hq => f2 q hq (fun z hz => nomatch hz)), hce, hO.vm, hcl, hWs, hall, hf⟩⟩
  refine st1 _ ?_
  show Steps p.tables e below (T1.setTop { method := m, pc := pc + 3, locals := ls, stack := .ref T.heap.size :: rest, locked := none }) _
  jvm_step X₁.here [X₁.here.top, hexec, d3', Value.category]
  exact X₁.ldcString hexec (own := own) (text := text) (index := is) (a := sa) hown' hstr'.1 hstr'.2
    (g := { method := m, pc := pc + 4, locals := ls, stack := .ref T.heap.size :: .ref T.heap.size :: rest, locked := none }) rfl d4' _ hsteps
/-- 'throw new E("text")', the text by a wide index -/
theorem vx_throwSW {cc : ByteArray} {pc : Nat} (hexec : p.tables.exec = Jvm.exec) (hb : c.code = cc) (hl : l.stackTraces = false) {own cls text : String} {names : List String} {ik is ic mc ms sa : Nat} {A : Nat → Prop}
    (hown : s.vm.findClass own = some m.cls) (hcls : Bundle.fit cls = true) (hnames : ∀ n ∈ names, Bundle.fit n = true)
    (hk : (Cond.classLink own ik cls).before args s = true) (hini : (Cond.initialized cls).before args s = true) (hstr : vk_R own is text sa s) (hat : ∀ w ∈ vx_atS own ic cls names, w.before args s = true)
    (hgood : ∀ w ∈ Cond.classLink own ik cls :: Cond.initialized cls :: vx_atS own ic cls names, vx_ot w = true)
    (hU : vx_Zq Bundle.tN "UNASSIGNED_STACK" Bundle.steD A s s.heap) (hN : vx_Zq Bundle.tN "SUPPRESSED_SENTINEL" Bundle.listD A s s.heap) (hS : va_S A s.heap H locs) (hsize : ls.size = c.maxLocals)
    (d0 : decode cc pc = .ok (.new ik, 3)) (d3 : decode cc (pc + 3) = .ok (.dup, 1)) (d4 : decode cc (pc + 4) = .ok (.ldc_w is, 3)) (d7 : decode cc (pc + 7) = .ok (.invokespecial ic, 3)) (d10 : decode cc (pc + 10) = .ok (.athrow, 1))
    (hout : ∀ x ∈ c.exceptionTable.toList, covers x (pc + 10) = false)
    (hRframes : names.length + 3 < R.frames) (hRlocals : (rest.map fun v => v.category).sum + (13 * (names.length + 1) + 43) ≤ R.locals) (hRcells : cells + 1 ≤ R.cells) (hRslots : slots + 6 ≤ R.slots) (hlocks : meth.locks = false)
    (hx : ∀ t : State, s.vm.Alike t.vm → H.size ≤ t.heap.size → (∀ q : Nat, q < H.size → t.heap[q]? = H[q]?) → XC cls s t)
    (hf : ∀ z ∈ locs, free z.base) (hc : cells + 1 ≤ mc) (hs : slots + 6 ≤ ms) :
    W p l e R s m args below meth c H locs cells slots (vx_MQ below Qc XC args s mc ms free) (F0 m pc ls rest) := by
  intro T hT X
  have htr : e.platform.stackTraces = false := (show e.platform.stackTraces = l.stackTraces by rw [X.admits.platform]).trans hl
  have Y := vx_rebase X (R' := { frames := R.frames, locals := R.locals, cells := 1, slots := 6 }) (Nat.le_refl _) (Nat.le_refl _) hRcells hRslots
  obtain ⟨s', hA⟩ : ∃ z, z = (T.setVm s.vm).setFrames (.invoking m args :: below) := ⟨_, rfl⟩
  rw [← hA] at Y
  have hvm : s'.vm = s.vm := by rw [hA]; rfl
  have hhp : s'.heap = H := by rw [hA]; exact hT
  have hW0 : s.WarmedH s'.vm := by rw [hvm]; exact State.WarmedH.refl s
  have hat' : ∀ w ∈ vx_atS own ic cls names, w.before args s' = true := fun w hw => vx_ot_at hW0 hvm.symm (hgood w (List.mem_cons_of_mem _ (List.mem_cons_of_mem _ hw))) (hat w hw)
  have hk' : (Cond.classLink own ik cls).before args s' = true := vx_ot_at hW0 hvm.symm (hgood _ List.mem_cons_self) hk
  have hini' : (Cond.initialized cls).before args s' = true := vx_ot_at hW0 hvm.symm (hgood _ (List.mem_cons_of_mem _ List.mem_cons_self)) hini
  have hU' : vx_Zq Bundle.tN "UNASSIGNED_STACK" Bundle.steD A s' s'.heap := by rw [hhp]; exact vx_Zq.moved hW0.alike (hU.kept hS.2.1)
  have hN' : vx_Zq Bundle.tN "SUPPRESSED_SENTINEL" Bundle.listD A s' s'.heap := by rw [hhp]; exact vx_Zq.moved hW0.alike (hN.kept hS.2.1)
  have h : ∀ w ∈ Bundle.ownAtoms own ic cls names, w.before args s' = true := vx_own hat' (vx_isRefq hU'.1) (vx_isRefq hN'.1) hU'.2.word hN'.2.word
  have hown' : s'.vm.findClass own = some m.cls := by rw [hvm]; exact hown
  have hins : (Cond.instantiable cls 6).before args s' = true := h _ (by simp [Bundle.ownAtoms])
  obtain ⟨vm₁, cX, kX, hfX, hkX, -, -, X₁, st1⟩ := Y.newCold hexec (own := own) (C := cls) (index := ik) (n := 6) hown' hk' hins hini'
    (g := F0 m pc ls rest) rfl (by rw [hb]; exact d0) (Nat.le_refl _) (Nat.le_refl _)
  generalize hT1 : (T.setVm vm₁).pushCell { cls := cX, slots := kX.instanceTypes.map defaultValue, vm := .none } = T1 at X₁ st1
  have hcat : (Value.ref T.heap.size).category = 1 := rfl
  have hcellA : T1.heap[T.heap.size]? = some (freshCell cX kX) := by rw [← hT1]; exact State.heap_pushCell_size _ _
  have d3' : decode c.code (pc + 3) = .ok (.dup, 1) := by rw [hb]; exact d3
  have d4' : decode c.code (pc + 4) = .ok (.ldc_w is, 3) := by rw [hb]; exact d4
  have hstr' : vk_R own is text sa s' := vk_R.warm hW0 hstr
  obtain ⟨U, hsteps, hrun, hend, hW, hsame, ce, hce, hO⟩ := X₁.ctorThrowS hexec htr (own := own) (cls := cls) (names := names) (ic := ic) hown' hcls hnames h (fun x hx => nomatch hx) hfX hkX hcellA (by rw [hhp, hT]; exact Nat.le_refl _) (msg := .ref sa) rfl
    (g := { method := m, pc := pc + 7, locals := ls, stack := .ref sa :: .ref T.heap.size :: .ref T.heap.size :: rest, locked := none }) rfl hsize rfl rfl (rest := rest) rfl
    (by rw [hb]; exact d7) (by rw [hb]; exact d10) hout hRframes (by simp only [List.map_cons, List.sum_cons, hcat]; omega) hlocks
  obtain ⟨f1, f2⟩ := vx_frame hsame
  rw [hhp] at f1 f2
  have hWs : s.WarmedH U.vm := State.WarmedH.trans hW0 hW
  have hcl : s.vm.findClass cls = some ce.cls := by
    have h9 := hO.cls
    rw [hvm] at h9
    exact h9
  have hall : s.sameButNew ({ U with vm := s.vm } : State) locs mc ms := by
    subst hA
    obtain ⟨e1, e2⟩ := hsame
    rw [State.setFrames_setFrames] at e1
    have h2 : (T.setVm s.vm).sameButNew ({ U with vm := s.vm } : State) [] (0 + 1) (0 + 6) := ⟨e1, e2⟩
    have h3 := X.same.trans h2
    rw [List.append_nil] at h3
    exact h3.mono hc hs
  refine ⟨U, ?_, .threw T.heap.size, hrun, hend, Or.inr ⟨T.heap.size, rfl, cls, ce, locs, hx U hWs.alike f1 (fun q hq => f2 q hq (fun z hz => nomatch hz)), hce, hO.vm, hcl, hWs, hall, hf⟩⟩
  refine st1 _ ?_
  show Steps p.tables e below (T1.setTop { method := m, pc := pc + 3, locals := ls, stack := .ref T.heap.size :: rest, locked := none }) _
  jvm_step X₁.here [X₁.here.top, hexec, d3', Value.category]
  exact X₁.ldcStringW hexec (own := own) (text := text) (index := is) (a := sa) hown' hstr'.1 hstr'.2
    (g := { method := m, pc := pc + 4, locals := ls, stack := .ref T.heap.size :: .ref T.heap.size :: rest, locked := none }) rfl d4' _ hsteps
end Ends
section Bodies
variable {l : Launch}
theorem vx_ofW {y : MethodName} {ws ws' : List Cond} {rm : Room} {Pc : Array Value → State → Prop} {Qc : Array Value → State → Outcome → State → Prop} {XC : String → State → State → Prop} {mc ms : Nat} {free : Addr → Prop} {cc : ByteArray} {maxL : Nat} {ret : Option FieldType}
    (hy : plainName y.cls = true) (hw : ws = Cond.code y cc maxL ret :: ws')
    (body : ∀ p e s m args below meth c s₁, BodyLoose p l y (headSpec ws rm) cc maxL ret e s m args below meth c s₁ → c.maxLocals = maxL → (∀ x ∈ c.exceptionTable.toList, False) → Pc args s →
      W p l e (headSpec ws rm).room s m args below meth c s.heap [] 0 0 (vx_MQ below Qc XC args s mc ms free) (entryFrame m args maxL)) : vx_Met l y ws rm Pc Qc XC mc ms free := by
  refine MetFree.of_bodyS (code := cc) (maxLocals := maxL) (ret := ret) hy ?_ ?_
  · intro args s m h hn
    obtain ⟨meth, c, h1, h2, h3, h4, h5, h6, -, -⟩ := Cond.code_spec hn (atoms_spec (ws := ws) h _ (by rw [hw]; exact List.mem_cons_self))
    exact ⟨meth, c, h1, h2, h3, h4, h5, h6⟩
  · intro p e s m args below meth c s₁ B hml hP _
    have hh0 : s₁.heap = s.heap := by rw [B.state]; rfl
    have ht : ∀ x ∈ c.exceptionTable.toList, False := by
      obtain ⟨meth9, c9, h1, h2, -, -, -, -, h7, -⟩ := Cond.code_spec B.named (atoms_spec (ws := ws) B.pre _ (by rw [hw]; exact List.mem_cons_self))
      cases Option.some.inj (h1.symm.trans B.method)
      cases Option.some.inj (h2.symm.trans (Stand.of_body B).code)
      intro x hx
      rw [Array.isEmpty_iff.mp h7] at hx
      cases hx
    obtain ⟨t, a1, o, b1, b2, b3⟩ := body p e s m args below meth c s₁ B hml ht hP s₁ hh0 (Stand.of_body B)
    exact ⟨t, o, a1, b1, b2, b3⟩
/-- the table of a body with handlers -/
theorem vx_table {p : Program} {x y : MethodName} {S : Spec} {cc bytes : ByteArray} {maxL maxL' : Nat} {ret ret' : Option FieldType} {e : Env} {s s₁ : State} {m : MethodId} {args : Array Value} {below : List Frame} {meth : Method} {c : Code} {hh : List (Nat × Nat × Nat × Nat)}
    (B : BodyLoose p l y S cc maxL ret e s m args below meth c s₁) (h : (Cond.codeWith y bytes maxL' ret' hh).before args s = true) : c.exceptionTable.toList = tableOf hh := by
  obtain ⟨m9, meth9, c9, hn9, h1, h2, -, -, h6, -⟩ := Cond.codeWith_spec h
  cases Option.some.inj (hn9.symm.trans B.named)
  cases Option.some.inj (h1.symm.trans B.method)
  cases Option.some.inj (h2.symm.trans (Stand.of_body B).code)
  rw [← h6, table_eq]
end Bodies
end VXA
/-! ===== END ===== -/
/-! ===== BEGIN a static call of a method with an exception table ===== -/
section VXS
variable {p : Program} {l : Launch} {e : Env} {R : Room} {s : State} {m : MethodId} {args : Array Value} {below : List Frame} {meth : Method} {c : Code} {T : State} {H : Heap} {locs : List Loc} {cells slots : Nat}
abbrev vx_CSW (R : Room) (s : State) (args : Array Value) (own : String) (index : Nat) (y : MethodName) (bytes : ByteArray) (maxL : Nat) (ret : Option FieldType) (hh : List (Nat × Nat × Nat × Nat)) (ws : List Cond) (rm : Room) (mc ms n : Nat) : Prop :=
  (rm.cells = mc ∧ rm.slots = ms ∧ rm.frames + 1 ≤ R.frames ∧ 8 + (maxL + 11) + rm.locals ≤ R.locals ∧ (∀ w ∈ ws, ∀ (a' : Array Value) (U : State), s.WarmedH U.vm → w.before a' U = true) ∧ Cond.codeWith y bytes maxL ret hh ∈ ws) ∧
  (Cond.codeWith y bytes maxL ret hh).before args s = true ∧ (Cond.initialized y.cls).before args s = true ∧ (y.cls ≠ "java/lang/invoke/MethodHandle" ∧ y.cls ≠ "java/lang/invoke/VarHandle") ∧
  (∀ sig, parseMethodDescriptor y.desc = some sig → n = sig.parameters.length) ∧ (Cond.methodLink own index y).before args s = true ∧ (Cond.static y).before args s = true
theorem vx_cwSW {own : String} {index maxL mc ms : Nat} {y : MethodName} {bytes : ByteArray} {ret : Option FieldType} {hh : List (Nat × Nat × Nat × Nat)} {Ts ws ws' : List Cond} {rm : Room} (n : Nat) (ht : ∀ w ∈ Ts, w.before args s = true) (hT : GoodIn Ts (va_wsS own index y ws)) (hw : ws = Cond.codeWith y bytes maxL ret hh :: ws') (hrc : rm.cells = mc) (hrs : rm.slots = ms)
    (hd : y.cls ≠ "java/lang/invoke/MethodHandle" ∧ y.cls ≠ "java/lang/invoke/VarHandle" ∧ (parseMethodDescriptor y.desc).map (fun d => d.parameters.length) = some n) (hR : rm.frames + 1 ≤ R.frames ∧ 8 + (maxL + 11) + rm.locals ≤ R.locals) :
    vx_CSW R s args own index y bytes maxL ret hh ws rm mc ms n := by
  have ok : ∀ w ∈ va_wsS own index y ws, w.before args s = true := fun w h => ht w (hT w h).1
  have hG : GoodIn Ts ws := fun w h => hT w (by unfold va_wsS; exact List.mem_append_right _ h)
  have hc : Cond.codeWith y bytes maxL ret hh ∈ ws := by rw [hw]; exact List.mem_cons_self
  refine ⟨⟨hrc, hrs, hR.1, hR.2, pay_in ht hG, hc⟩, ht _ (hG _ hc).1, ok _ (by simp [va_wsS]), ⟨hd.1, hd.2.1⟩, fun sig h => ?_, ok _ (by simp [va_wsS]), ok _ (by simp [va_wsS])⟩
  have h2 := hd.2.2
  rw [h] at h2
  exact (Option.some.inj h2).symm
theorem vx_callSW (X : Stand p l e R s m args below meth c T locs cells slots) (hexec : p.tables.exec = Jvm.exec) {own : String} {index : Nat} {y : MethodName} {bytes : ByteArray} {maxL : Nat} {ret : Option FieldType} {hh : List (Nat × Nat × Nat × Nat)}
    (hown : s.vm.findClass own = some m.cls) (hlink : (Cond.methodLink own index y).before args s = true) (hstat : (Cond.static y).before args s = true) (hinit : (Cond.initialized y.cls).before args s = true)
    (hcode : (Cond.codeWith y bytes maxL ret hh).before args s = true) (hy : y.cls ≠ "java/lang/invoke/MethodHandle" ∧ y.cls ≠ "java/lang/invoke/VarHandle")
    {W9 : Nat} {Pre : Pt → Array Value → Prop} {Post : Pt → Array Value → Option Value → Pt → Prop} (hK : Back l R p e below s args y 3 W9 Pre Post)
    {g : JFrame} (hg : g.method = m) (hsize : g.locals.size = c.maxLocals) {argsL rest : List Value} (hlen : ∀ sig, parseMethodDescriptor y.desc = some sig → argsL.length = sig.parameters.length)
    (hstack : g.stack = argsL.reverse ++ rest) (hW : 2 * g.monitorRoom + (rest.map fun v => v.category).sum ≤ W9) (hdg : decode c.code g.pc = .ok (.invokestatic index, 3))
    (hpre : ∀ vm₁, s.WarmedH vm₁ → Pre ⟨T.setVm vm₁, locs, cells, slots⟩ argsL.toArray) :
    ∃ (v : Option Value) (vm₁ : Vm) (B : Pt), s.WarmedH vm₁ ∧ Stand p l e R s m args below meth c B.U B.locs B.cells B.slots ∧ Post ⟨T.setVm vm₁, locs, cells, slots⟩ argsL.toArray v B ∧
      ∀ target, Steps p.tables e below (B.U.setTop { g with pc := g.pc + 3, stack := v.toList ++ rest }) target → Steps p.tables e below (T.setTop g) target := by
  obtain ⟨mk, methM, cM, hnamed, hmethM, -, -, -, -, -, -, hsigM⟩ := Cond.codeWith_spec hcode
  have hstatic : methM.isStatic = true := Cond.static_spec hnamed hmethM hstat
  obtain ⟨kP, hkP, -⟩ := className_of_methodNamed hnamed
  have hinitP : kP.init = .initialized := Cond.initialized_spec (findClass_of_methodNamed hnamed) hkP hinit
  obtain ⟨vm₁, X₁, hstep₁⟩ := X.invokestatic hexec hown hlink hnamed hmethM hstatic hkP hinitP hy (g := g) hg (argsL := argsL) (rest := rest) (hlen _ hsigM) hstack hdg
  obtain ⟨v, B, X', hpost, hsteps⟩ := hK m meth c ⟨T.setVm vm₁, locs, cells, slots⟩ { g with stack := rest } (.invokestatic index) mk argsL.toArray X₁ hg hsize hdg hW (X₁.named hnamed) (hpre vm₁ X₁.warmed)
  exact ⟨v, vm₁, B, X₁.warmed, X', hpost, fun target h => hstep₁ _ fun acts => by rw [doInvoke_state]; exact hsteps.trans h⟩
theorem vx_runSW {y : MethodName} {bytes cc : ByteArray} {maxL nL mc ms n index : Nat} {ret : Option FieldType} {hh : List (Nat × Nat × Nat × Nat)} {ws : List Cond} {rm : Room} {Pc : Array Value → State → Prop} {Qc : Array Value → State → Outcome → State → Prop} {free : Addr → Prop} {Ts : List Cond} {own : String} {As rest : List Value} {g : JFrame}
    (S : CallFix p m c cc nL s args Ts own) (hM : Met l y ws rm Pc Qc mc ms free) (cw : vx_CSW R s args own index y bytes maxL ret hh ws rm mc ms n) (hp : PreS s H Pc As)
    (hg : g.method = m) (hn : As.length = n) (hsize : g.locals.size = nL) (hstack : g.stack = As.reverse ++ rest) (hW : 2 * g.monitorRoom + (rest.map fun v => v.category).sum ≤ 8) (hdg : decode cc g.pc = .ok (.invokestatic index, 3)) (hf : cells + mc ≤ R.cells ∧ slots + ms ≤ R.slots) :
    va_Run p l e R s m args below meth c H locs cells slots mc ms g rest (Qc As.toArray) (free) := by
  obtain ⟨⟨hrc, hrs, hfr, hlo, hws, hcw⟩, hcode, hini, hy, hlen, hl, hstt⟩ := cw
  have hK : Back l R p e below s args y 3 8 (PreOf R mc ms Pc) (PostOf Qc mc ms free) := va_backW (hh := hh) (bytes := bytes) (maxL := maxL) (ret := ret) hM hp.1 hrc hrs hfr hlo hws hcw (fun a' U hW => word_at hW (Or.inl (by first | rfl | simp [Cond.onTables, Cond.keeps, Cond.steady])) hini)
  obtain ⟨hx, hb, hml, ho, -⟩ := S
  intro T hT X
  obtain ⟨v, vm₁, ⟨U', l2, c2, s2⟩, hW₁, X', ⟨g', mk, t, L, e1, e2, hq, h1, hL, h2, h3⟩, st⟩ := vx_callSW X hx (hh := hh) (bytes := bytes) (maxL := maxL) (ret := ret) ho hl hstt hini hcode hy hK hg (hsize.trans hml.symm) (argsL := As) (rest := rest) (fun sig h => hn.trans (hlen sig h)) hstack hW (by rw [hb]; exact hdg)
    (fun vm₁ hW₁ => ⟨hf.1, hf.2, hp.2 (T.setVm vm₁) hT hW₁⟩)
  dsimp only [Pt.U, Pt.locs, Pt.cells, Pt.slots] at X' e1 e2 h1 h2 h3 st
  subst h1; subst h2; subst h3
  exact ⟨v, (T.setVm vm₁).calling g' mk As.toArray, t, U', L, hT, X', hL, e1, e2, hq, st⟩
/-- not caught here, past rows that name other classes: it goes on to the caller -/
theorem vx_outP {p : Program} {l : Launch} {e : Env} {R : Room} {s : State} {m : MethodId} {args : Array Value} {below : List Frame} {meth : Method} {c : Code} {H : Heap} {locs : List Loc} {cells slots : Nat} {free : Addr → Prop} {ls : Array Slot} {rest : List Value} {Qc : Array Value → State → Outcome → State → Prop} {XC : String → State → State → Prop}
    {pc : Nat} {own E : String} {ce : Cell} {q : Addr} {mc ms : Nat} (hown : s.vm.findClass own = some m.cls) (hlocks : meth.locks = false)
    (hpass : ∀ z ∈ c.exceptionTable.toList, covers z pc = false ∨ (z.catchType ≠ 0 ∧ ∃ nm : String, (Cond.classLink own z.catchType nm).before args s = true ∧ va_Nc E nm s)) (hcell : H[q]? = some ce) (hv : ce.vm = .none) (hcl : s.vm.findClass E = some ce.cls)
    (hx : ∀ t : State, t.heap = H → s.vm.Alike t.vm → XC E s t) (hf : ∀ z ∈ locs, free z.base) (hc : cells ≤ mc) (hs : slots ≤ ms) :
    vx_W p l e R s m args below meth c H locs cells slots (vx_MQ below Qc XC args s mc ms free) (F0 m pc ls rest) q := by
  intro T hT X
  have hpl : e.platform.magicAccessors = ({} : Platform).magicAccessors := by rw [X.admits.platform]
  obtain ⟨vm', hW', X', st⟩ := X.outThrough hlocks q (g := F0 m pc ls rest) rfl rfl rfl (cell := ce) (by rw [hT]; exact hcell) (by rw [hv]; rfl)
    (by obtain ⟨k9, h9, -⟩ := Vm.findClass_spec hcl; exact ⟨k9, h9⟩) (fun z hz => by
      rcases hpass z hz with h | ⟨hz0, nm, hl1, hn1⟩
      · exact Or.inl h
      · obtain ⟨c6, hc6, hcl6⟩ := Cond.classLink_spec hown hl1 e.platform hpl
        obtain ⟨a8, b8, h1, h2, h3⟩ := hn1
        cases Option.some.inj (h1.symm.trans hcl)
        cases Option.some.inj (h2.symm.trans hc6)
        exact Or.inr ⟨hz0, _, hcl6, h3⟩)
  obtain ⟨g₀, hfr⟩ := X'.frames_eq
  have hcell9 : ((T.setVm vm').setFrames (.throwing q :: below)).heap[q]? = some ce := by
    show T.heap[q]? = some ce
    rw [hT]; exact hcell
  have hend : Ended ((T.setVm vm').setFrames (.throwing q :: below)) below (.threw q) := State.frames_setFrames _ (State.cur_lt_of_frames hfr)
  refine ⟨(T.setVm vm').setFrames (.throwing q :: below), ?_, .threw q, X'.here.running, hend, Or.inr ⟨q, rfl, E, ce, locs, hx _ hT (X'.ends _).1.alike, hcell9, hv, hcl, (X'.ends _).1, (X'.ends _).2.mono hc hs, hf⟩⟩
  rw [X.pushThrowing_eq]
  exact st
/-- a thing of a world lies in the heap -/
theorem vx_lt {D : va_G} {cl : List vw_C} {ws : va_W} {H1 : Heap} (h : va_P D cl ws H1) {k : Nat} {q : Nat × va_E} (hk : ws[k]? = some q) : q.1 < H1.size := (h k q hk).lt
end VXS
/-! ===== END ===== -/
/-! ===== BEGIN methods with a table of their own: called by a name, returning or throwing ===== -/
section VXH
/-! vx_backW, vx_callVX, vx_callSX, vx_callVW, vx_runVW, vx_runVX, vx_runSX, vx_ofWH follow the same proofs as their sisters above (Free/Laws.lean, Shelf42/LK1.lean); vx_outP calls Shelf42/NT130.lean (outThrough). -/
section
variable {l : Launch} {R : Room} {p : Program} {e : Env} {below : List Frame} {s : State} {sargs : Array Value} {y : MethodName} {len W9 : Nat}
theorem vx_backW {ws : List Cond} {rm : Room} {Pc : Array Value → State → Prop} {Qc : Array Value → State → Outcome → State → Prop} {XC : String → State → State → Prop} {mc ms : Nat} {free : Addr → Prop} {bytes : ByteArray} {maxL : Nat} {ret : Option FieldType} {hh : List (Nat × Nat × Nat × Nat)}
    (hM : vx_Met l y ws rm Pc Qc XC mc ms free) (hblind : FrameBlind Pc) (hrc : rm.cells = mc) (hrs : rm.slots = ms)
    (hframes : rm.frames + 1 ≤ R.frames) (hlocals : W9 + (maxL + 11) + rm.locals ≤ R.locals)
    (hws : ∀ w ∈ ws, ∀ a' U, s.WarmedH U.vm → w.before a' U = true) (hcode : Cond.codeWith y bytes maxL ret hh ∈ ws) (hinit : ∀ a' U, s.WarmedH U.vm → (Cond.initialized y.cls).before a' U = true) :
    vx_Back l R p e below s sargs y len W9 (PreOf R mc ms Pc) (PostOf Qc mc ms free) (vx_Post XC mc ms free) := by
  intro m meth c A g ig mk a X hg hsize hdg hW hn hp
  have h1 : (headSpec ws rm).pre.before a A.U = true := atoms_intro fun w hw => hws w hw _ _ X.warmed
  have h2 : (Cond.codeWith y bytes maxL ret hh).before a A.U = true := hws _ hcode _ _ X.warmed
  have h3 : (Cond.initialized y.cls).before a A.U = true := hinit _ _ X.warmed
  have h4 : A.cells + (headSpec ws rm).room.cells ≤ R.cells := by rw [show (headSpec ws rm).room.cells = mc from hrc]; exact hp.1
  have h5 : A.slots + (headSpec ws rm).room.slots ≤ R.slots := by rw [show (headSpec ws rm).room.slots = ms from hrs]; exact hp.2.1
  have hPc : Pc a (A.U.calling g mk a) := hblind _ _ _ _ hp.2.2
  obtain ⟨U, Ls, c0, s0⟩ := A
  dsimp only [Pt.U, Pt.locs, Pt.cells, Pt.slots] at h1 h2 h3 h4 h5 X hn hPc ⊢
  obtain ⟨m9, methY, cY, hn9, hmY, hcY, -, hlY, -⟩ := Cond.codeWith_spec h2
  cases Option.some.inj (hn9.symm.trans hn)
  obtain ⟨kY, hkY, -⟩ := className_of_methodNamed hn
  have hinitY : kY.init = .initialized := Cond.initialized_spec (findClass_of_methodNamed hn) hkY h3
  have h : At U g.method c below := by rw [hg]; exact X.here
  have hlocals9 : W9 + (maxL + 11) + (headSpec ws rm).room.locals ≤ R.locals := hlocals
  have happ : (headSpec ws rm).appliesLoose y e.platform (U.calling g mk a) = true :=
    Spec.appliesLoose_calling (g := g) h hdg hn hkY hinitY
      (X.room_calling (g := g) (R' := (headSpec ws rm).room) hsize hmY hcY hframes (by rw [hlY]; omega) h4 h5) h1
  obtain ⟨mid, hmid⟩ := h.above
  have hfr : (U.setTop g).frames = (.java g :: mid) ++ below := by rw [State.frames_setTop' g h.top, hmid]; rfl
  obtain ⟨o, s₂, hsteps, -, hend, hq⟩ := Steps.callFree hM p X.admits X.cas X.clock (acts := []) hfr happ hPc trivial
  have hq' : vx_Q Qc XC mc ms free a (U.calling g mk a) o s₂ := hq
  rw [State.frames_setTop' g h.top] at hend
  obtain ⟨g₀, hg0⟩ := Option.isSome_iff_exists.mp h.top
  obtain ⟨r, hr⟩ := State.topJava?_eq_some.mp hg0
  have hr' : (({ U with heap := s₂.heap, slotsUsed := s₂.slotsUsed } : State).setVm s₂.vm).frames = .java g₀ :: r := hr
  rcases hq' with ⟨hqc, L, hfe, hL⟩ | ⟨q, rfl, E, ce, L, hx, hce, hcv, hcl, hW₂, hsm, hL⟩
  · obtain ⟨⟨v, rfl⟩, hW₂, e2, q2, q3, q4, q5, q6⟩ := id hfe
    have e3 : s₂ = ({ (U.calling g mk a).setFrames s₂.frames with heap := s₂.heap, slotsUsed := s₂.slotsUsed } : State).setVm s₂.vm := by
      have : s₂ = ({ s₂ with vm := (U.calling g mk a).vm } : State).setVm s₂.vm := rfl
      rw [e2] at this
      exact this
    obtain ⟨c₂, i₂, len₂, hc₂, hd₂, hf₂⟩ := hend
    have hW' : U.WarmedH s₂.vm := hW₂
    have hcc : c₂ = c := by
      have h1 : s₂.code? g.method = U.code? g.method := by
        rw [State.code?_eq, State.code?_eq, hW'.alike.method?]
      exact Option.some.inj (hc₂.symm.trans (h1.trans h.code))
    subst hcc
    have hlen : len₂ = len := by rw [hdg] at hd₂; cases hd₂; rfl
    subst hlen
    have hs₂ : s₂ = (({ U with heap := s₂.heap, slotsUsed := s₂.slotsUsed } : State).setVm s₂.vm).setTop { g with pc := g.pc + len₂, stack := v.toList ++ g.stack } := by
      refine e3.trans ?_
      rw [hf₂, State.calling_eq h.top, State.setFrames_setFrames, State.setTop_of_frames _ hr', hr]
      rfl
    have hsame : U.sameButNew ({ U with heap := s₂.heap, slotsUsed := s₂.slotsUsed } : State) L mc ms := by
      refine ⟨?_, q2, q3, q4, q5, q6⟩
      obtain ⟨t, ht, -⟩ := State.frames_cons hr
      show ({ U with heap := s₂.heap, slotsUsed := s₂.slotsUsed } : State) = { U.setFrames U.frames with heap := s₂.heap, slotsUsed := s₂.slotsUsed }
      rw [State.setFrames_self ht]
    subst hg
    refine Or.inl ⟨v, ⟨(({ U with heap := s₂.heap, slotsUsed := s₂.slotsUsed } : State).setVm s₂.vm), Ls ++ L, c0 + mc, s0 + ms⟩,
      ⟨X.admits, X.cas, X.clock, X.frames, X.room, X.hears, X.method, X.code, (X.here.setHeapUsed s₂.heap s₂.slotsUsed).setVm hW'.alike, X.tail, State.WarmedH.trans X.warmed hW', X.limits, X.bytes, X.same.trans (hsame.setVm s.vm)⟩,
      ⟨g, mk, s₂, L, rfl, rfl, hqc, rfl, hL, rfl, rfl⟩, ?_⟩
    show Steps p.tables e below _ ((({ U with heap := s₂.heap, slotsUsed := s₂.slotsUsed } : State).setVm s₂.vm).setTop { g with pc := g.pc + len₂, stack := v.toList ++ g.stack })
    rw [← hs₂]
    exact hsteps
  · obtain ⟨e2, q2, q3, q4, q5, q6⟩ := id hsm
    have e3 : s₂ = ({ (U.calling g mk a).setFrames s₂.frames with heap := s₂.heap, slotsUsed := s₂.slotsUsed } : State).setVm s₂.vm := by
      have : s₂ = ({ s₂ with vm := (U.calling g mk a).vm } : State).setVm s₂.vm := rfl
      rw [e2] at this
      exact this
    have hf₂ : s₂.frames = .throwing q :: .java g :: U.frames.tail := hend
    have hW' : U.WarmedH s₂.vm := hW₂
    have hs₂ : s₂ = ((({ U with heap := s₂.heap, slotsUsed := s₂.slotsUsed } : State).setVm s₂.vm).setTop g).pushFrame (.throwing q) := by
      refine e3.trans ?_
      rw [hf₂, State.calling_eq h.top, State.setFrames_setFrames, State.pushFrame, State.frames_setTop _ hr', State.setTop_of_frames _ hr', State.setFrames_setFrames, hr]
      rfl
    have hsame : U.sameButNew ({ U with heap := s₂.heap, slotsUsed := s₂.slotsUsed } : State) L mc ms := by
      refine ⟨?_, q2, q3, q4, q5, q6⟩
      obtain ⟨t, ht, -⟩ := State.frames_cons hr
      show ({ U with heap := s₂.heap, slotsUsed := s₂.slotsUsed } : State) = { U.setFrames U.frames with heap := s₂.heap, slotsUsed := s₂.slotsUsed }
      rw [State.setFrames_self ht]
    subst hg
    refine Or.inr ⟨q, ⟨(({ U with heap := s₂.heap, slotsUsed := s₂.slotsUsed } : State).setVm s₂.vm), Ls ++ L, c0 + mc, s0 + ms⟩,
      ⟨X.admits, X.cas, X.clock, X.frames, X.room, X.hears, X.method, X.code, (X.here.setHeapUsed s₂.heap s₂.slotsUsed).setVm hW'.alike, X.tail, State.WarmedH.trans X.warmed hW', X.limits, X.bytes, X.same.trans (hsame.setVm s.vm)⟩,
      ⟨g, mk, s₂, L, E, ce, rfl, rfl, hx, hce, hcv, hcl, rfl, hL, rfl, rfl⟩, ?_⟩
    show Steps p.tables e below _ (((({ U with heap := s₂.heap, slotsUsed := s₂.slotsUsed } : State).setVm s₂.vm).setTop g).pushFrame (.throwing q))
    rw [← hs₂]
    exact hsteps
end
variable {p : Program} {l : Launch} {e : Env} {R : Room} {s : State} {m : MethodId} {args : Array Value} {below : List Frame} {meth : Method} {c : Code} {T : State} {H : Heap} {locs : List Loc} {cells slots : Nat}
theorem vx_callVX (X : Stand p l e R s m args below meth c T locs cells slots) (hexec : p.tables.exec = Jvm.exec) {own C : String} {index : Nat} {y : MethodName} {bytes : ByteArray} {maxL : Nat} {ret : Option FieldType} {hh : List (Nat × Nat × Nat × Nat)}
    (hown : s.vm.findClass own = some m.cls) (hlink : (Cond.methodLink own index y).before args s = true) (hinst : (Cond.instanceMethod y).before args s = true) (hsel : (Cond.selects C y y).before args s = true)
    (hcode : (Cond.codeWith y bytes maxL ret hh).before args s = true) (hy : y.cls ≠ "java/lang/invoke/MethodHandle" ∧ y.cls ≠ "java/lang/invoke/VarHandle")
    {W9 : Nat} {Pre : Pt → Array Value → Prop} {Post : Pt → Array Value → Option Value → Pt → Prop} {PostX : Pt → Array Value → Addr → Pt → Prop} (hK : vx_Back l R p e below s args y 3 W9 Pre Post PostX)
    {b : Addr} {cellB : Cell} (hcell : T.heap[b]? = some cellB) (hobj : cellB.vm.isStatics = false) (hcls : s.vm.findClass C = some cellB.cls)
    {g : JFrame} (hg : g.method = m) (hsize : g.locals.size = c.maxLocals) {argsL rest : List Value} (hlen : ∀ sig, parseMethodDescriptor y.desc = some sig → argsL.length = sig.parameters.length)
    (hstack : g.stack = argsL.reverse ++ .ref b :: rest) (hW : 2 * g.monitorRoom + (rest.map fun v => v.category).sum ≤ W9) (hdg : decode c.code g.pc = .ok (.invokevirtual index, 3))
    (hpre : ∀ vm₁, s.WarmedH vm₁ → Pre ⟨T.setVm vm₁, locs, cells, slots⟩ (Value.ref b :: argsL).toArray) :
    (∃ (v : Option Value) (vm₁ : Vm) (B : Pt), s.WarmedH vm₁ ∧ Stand p l e R s m args below meth c B.U B.locs B.cells B.slots ∧ Post ⟨T.setVm vm₁, locs, cells, slots⟩ (Value.ref b :: argsL).toArray v B ∧
      ∀ target, Steps p.tables e below (B.U.setTop { g with pc := g.pc + 3, stack := v.toList ++ rest }) target → Steps p.tables e below (T.setTop g) target) ∨
    (∃ (q : Addr) (vm₁ : Vm) (B : Pt), s.WarmedH vm₁ ∧ Stand p l e R s m args below meth c B.U B.locs B.cells B.slots ∧ PostX ⟨T.setVm vm₁, locs, cells, slots⟩ (Value.ref b :: argsL).toArray q B ∧
      Steps p.tables e below (T.setTop g) ((B.U.setTop { g with stack := rest }).pushFrame (.throwing q))) := by
  obtain ⟨mk, methM, hnamed, hmethM, hstM, habM⟩ := Cond.instanceMethod_spec hinst
  obtain ⟨m8, methM', cM, hn8, hmethM', -, -, -, -, -, -, hsigM⟩ := Cond.codeWith_spec hcode
  cases Option.some.inj (hn8.symm.trans hnamed)
  cases hmethM.symm.trans hmethM'
  obtain ⟨c2, r2, m2, q1, q2, q3, q4, kP, hkP, hkPi⟩ := Cond.selects_spec hsel
  cases hcls.symm.trans q1
  cases (State.methodFound?_of_named hnamed hy).symm.trans q2
  cases hnamed.symm.trans q3
  have hselP : selectMethod e.platform s.vm cellB.cls mk = .method mk := by rw [Launch.admits_selectMethod X.admits]; exact q4
  obtain ⟨vm₁, X₁, hstep₁⟩ := X.invokevirtual hexec hown hlink hnamed hmethM hstM hkP hkPi hy (a := b) (cell := cellB) hcell
    (fun z h => by rw [h] at hobj; cases hobj) hselP hmethM habM hkP hkPi (g := g) hg (argsL := argsL) (rest := rest) (hlen _ hsigM) hstack hdg
  rcases hK m meth c ⟨T.setVm vm₁, locs, cells, slots⟩ { g with stack := rest } (.invokevirtual index) mk (Value.ref b :: argsL).toArray X₁ hg hsize hdg hW (X₁.named hnamed) (hpre vm₁ X₁.warmed) with ⟨v, B, X', hpost, hsteps⟩ | ⟨q, B, X', hpost, hsteps⟩
  · exact Or.inl ⟨v, vm₁, B, X₁.warmed, X', hpost, fun target h => hstep₁ _ fun acts => by rw [doInvoke_state]; exact hsteps.trans h⟩
  · exact Or.inr ⟨q, vm₁, B, X₁.warmed, X', hpost, hstep₁ _ fun acts => by rw [doInvoke_state]; exact hsteps⟩
theorem vx_callSX (X : Stand p l e R s m args below meth c T locs cells slots) (hexec : p.tables.exec = Jvm.exec) {own : String} {index : Nat} {y : MethodName} {bytes : ByteArray} {maxL : Nat} {ret : Option FieldType} {hh : List (Nat × Nat × Nat × Nat)}
    (hown : s.vm.findClass own = some m.cls) (hlink : (Cond.methodLink own index y).before args s = true) (hstat : (Cond.static y).before args s = true) (hinit : (Cond.initialized y.cls).before args s = true)
    (hcode : (Cond.codeWith y bytes maxL ret hh).before args s = true) (hy : y.cls ≠ "java/lang/invoke/MethodHandle" ∧ y.cls ≠ "java/lang/invoke/VarHandle")
    {W9 : Nat} {Pre : Pt → Array Value → Prop} {Post : Pt → Array Value → Option Value → Pt → Prop} {PostX : Pt → Array Value → Addr → Pt → Prop} (hK : vx_Back l R p e below s args y 3 W9 Pre Post PostX)
    {g : JFrame} (hg : g.method = m) (hsize : g.locals.size = c.maxLocals) {argsL rest : List Value} (hlen : ∀ sig, parseMethodDescriptor y.desc = some sig → argsL.length = sig.parameters.length)
    (hstack : g.stack = argsL.reverse ++ rest) (hW : 2 * g.monitorRoom + (rest.map fun v => v.category).sum ≤ W9) (hdg : decode c.code g.pc = .ok (.invokestatic index, 3))
    (hpre : ∀ vm₁, s.WarmedH vm₁ → Pre ⟨T.setVm vm₁, locs, cells, slots⟩ argsL.toArray) :
    (∃ (v : Option Value) (vm₁ : Vm) (B : Pt), s.WarmedH vm₁ ∧ Stand p l e R s m args below meth c B.U B.locs B.cells B.slots ∧ Post ⟨T.setVm vm₁, locs, cells, slots⟩ argsL.toArray v B ∧
      ∀ target, Steps p.tables e below (B.U.setTop { g with pc := g.pc + 3, stack := v.toList ++ rest }) target → Steps p.tables e below (T.setTop g) target) ∨
    (∃ (q : Addr) (vm₁ : Vm) (B : Pt), s.WarmedH vm₁ ∧ Stand p l e R s m args below meth c B.U B.locs B.cells B.slots ∧ PostX ⟨T.setVm vm₁, locs, cells, slots⟩ argsL.toArray q B ∧
      Steps p.tables e below (T.setTop g) ((B.U.setTop { g with stack := rest }).pushFrame (.throwing q))) := by
  obtain ⟨mk, methM, cM, hnamed, hmethM, -, -, -, -, -, -, hsigM⟩ := Cond.codeWith_spec hcode
  have hstatic : methM.isStatic = true := Cond.static_spec hnamed hmethM hstat
  obtain ⟨kP, hkP, -⟩ := className_of_methodNamed hnamed
  have hinitP : kP.init = .initialized := Cond.initialized_spec (findClass_of_methodNamed hnamed) hkP hinit
  obtain ⟨vm₁, X₁, hstep₁⟩ := X.invokestatic hexec hown hlink hnamed hmethM hstatic hkP hinitP hy (g := g) hg (argsL := argsL) (rest := rest) (hlen _ hsigM) hstack hdg
  rcases hK m meth c ⟨T.setVm vm₁, locs, cells, slots⟩ { g with stack := rest } (.invokestatic index) mk argsL.toArray X₁ hg hsize hdg hW (X₁.named hnamed) (hpre vm₁ X₁.warmed) with ⟨v, B, X', hpost, hsteps⟩ | ⟨q, B, X', hpost, hsteps⟩
  · exact Or.inl ⟨v, vm₁, B, X₁.warmed, X', hpost, fun target h => hstep₁ _ fun acts => by rw [doInvoke_state]; exact hsteps.trans h⟩
  · exact Or.inr ⟨q, vm₁, B, X₁.warmed, X', hpost, hstep₁ _ fun acts => by rw [doInvoke_state]; exact hsteps⟩
theorem vx_callVW (X : Stand p l e R s m args below meth c T locs cells slots) (hexec : p.tables.exec = Jvm.exec) {own C : String} {index : Nat} {y : MethodName} {bytes : ByteArray} {maxL : Nat} {ret : Option FieldType} {hh : List (Nat × Nat × Nat × Nat)}
    (hown : s.vm.findClass own = some m.cls) (hlink : (Cond.methodLink own index y).before args s = true) (hinst : (Cond.instanceMethod y).before args s = true) (hsel : (Cond.selects C y y).before args s = true)
    (hcode : (Cond.codeWith y bytes maxL ret hh).before args s = true) (hy : y.cls ≠ "java/lang/invoke/MethodHandle" ∧ y.cls ≠ "java/lang/invoke/VarHandle")
    {W9 : Nat} {Pre : Pt → Array Value → Prop} {Post : Pt → Array Value → Option Value → Pt → Prop} (hK : Back l R p e below s args y 3 W9 Pre Post)
    {b : Addr} {cellB : Cell} (hcell : T.heap[b]? = some cellB) (hobj : cellB.vm.isStatics = false) (hcls : s.vm.findClass C = some cellB.cls)
    {g : JFrame} (hg : g.method = m) (hsize : g.locals.size = c.maxLocals) {argsL rest : List Value} (hlen : ∀ sig, parseMethodDescriptor y.desc = some sig → argsL.length = sig.parameters.length)
    (hstack : g.stack = argsL.reverse ++ .ref b :: rest) (hW : 2 * g.monitorRoom + (rest.map fun v => v.category).sum ≤ W9) (hdg : decode c.code g.pc = .ok (.invokevirtual index, 3))
    (hpre : ∀ vm₁, s.WarmedH vm₁ → Pre ⟨T.setVm vm₁, locs, cells, slots⟩ (Value.ref b :: argsL).toArray) :
    ∃ (v : Option Value) (vm₁ : Vm) (B : Pt), s.WarmedH vm₁ ∧ Stand p l e R s m args below meth c B.U B.locs B.cells B.slots ∧ Post ⟨T.setVm vm₁, locs, cells, slots⟩ (Value.ref b :: argsL).toArray v B ∧
      ∀ target, Steps p.tables e below (B.U.setTop { g with pc := g.pc + 3, stack := v.toList ++ rest }) target → Steps p.tables e below (T.setTop g) target := by
  obtain ⟨mk, methM, hnamed, hmethM, hstM, habM⟩ := Cond.instanceMethod_spec hinst
  obtain ⟨m8, methM', cM, hn8, hmethM', -, -, -, -, -, -, hsigM⟩ := Cond.codeWith_spec hcode
  cases Option.some.inj (hn8.symm.trans hnamed)
  cases hmethM.symm.trans hmethM'
  obtain ⟨c2, r2, m2, q1, q2, q3, q4, kP, hkP, hkPi⟩ := Cond.selects_spec hsel
  cases hcls.symm.trans q1
  cases (State.methodFound?_of_named hnamed hy).symm.trans q2
  cases hnamed.symm.trans q3
  have hselP : selectMethod e.platform s.vm cellB.cls mk = .method mk := by rw [Launch.admits_selectMethod X.admits]; exact q4
  obtain ⟨vm₁, X₁, hstep₁⟩ := X.invokevirtual hexec hown hlink hnamed hmethM hstM hkP hkPi hy (a := b) (cell := cellB) hcell
    (fun z h => by rw [h] at hobj; cases hobj) hselP hmethM habM hkP hkPi (g := g) hg (argsL := argsL) (rest := rest) (hlen _ hsigM) hstack hdg
  obtain ⟨v, B, X', hpost, hsteps⟩ := hK m meth c ⟨T.setVm vm₁, locs, cells, slots⟩ { g with stack := rest } (.invokevirtual index) mk (Value.ref b :: argsL).toArray X₁ hg hsize hdg hW (X₁.named hnamed) (hpre vm₁ X₁.warmed)
  exact ⟨v, vm₁, B, X₁.warmed, X', hpost, fun target h => hstep₁ _ fun acts => by rw [doInvoke_state]; exact hsteps.trans h⟩
abbrev vx_CVW (R : Room) (s : State) (args : Array Value) (own C : String) (index : Nat) (y : MethodName) (bytes : ByteArray) (maxL : Nat) (ret : Option FieldType) (hh : List (Nat × Nat × Nat × Nat)) (ws : List Cond) (rm : Room) (mc ms n : Nat) : Prop :=
  (rm.cells = mc ∧ rm.slots = ms ∧ rm.frames + 1 ≤ R.frames ∧ 8 + (maxL + 11) + rm.locals ≤ R.locals ∧ (∀ w ∈ ws, ∀ (a' : Array Value) (U : State), s.WarmedH U.vm → w.before a' U = true) ∧ Cond.codeWith y bytes maxL ret hh ∈ ws) ∧
  (Cond.codeWith y bytes maxL ret hh).before args s = true ∧ (Cond.initialized y.cls).before args s = true ∧ (y.cls ≠ "java/lang/invoke/MethodHandle" ∧ y.cls ≠ "java/lang/invoke/VarHandle") ∧
  (∀ sig, parseMethodDescriptor y.desc = some sig → n = sig.parameters.length) ∧ (Cond.methodLink own index y).before args s = true ∧ (Cond.instanceMethod y).before args s = true ∧ (Cond.selects C y y).before args s = true
theorem vx_cwVW {own C : String} {index maxL mc ms : Nat} {y : MethodName} {bytes : ByteArray} {ret : Option FieldType} {hh : List (Nat × Nat × Nat × Nat)} {Ts ws ws' : List Cond} {rm : Room} (n : Nat) (ht : ∀ w ∈ Ts, w.before args s = true) (hT : GoodIn Ts (wsV own index C y ws)) (hw : ws = Cond.codeWith y bytes maxL ret hh :: ws') (hrc : rm.cells = mc) (hrs : rm.slots = ms)
    (hd : y.cls = C ∧ y.cls ≠ "java/lang/invoke/MethodHandle" ∧ y.cls ≠ "java/lang/invoke/VarHandle" ∧ (parseMethodDescriptor y.desc).map (fun d => d.parameters.length) = some n) (hR : rm.frames + 1 ≤ R.frames ∧ 8 + (maxL + 11) + rm.locals ≤ R.locals) :
    vx_CVW R s args own C index y bytes maxL ret hh ws rm mc ms n := by
  obtain ⟨hC, hd⟩ := hd
  subst hC
  have ok : ∀ w ∈ wsV own index y.cls y ws, w.before args s = true := fun w h => ht w (hT w h).1
  have hG : GoodIn Ts ws := fun w h => hT w (by unfold wsV; exact List.mem_append_right _ h)
  have hc : Cond.codeWith y bytes maxL ret hh ∈ ws := by rw [hw]; exact List.mem_cons_self
  refine ⟨⟨hrc, hrs, hR.1, hR.2, pay_in ht hG, hc⟩, ht _ (hG _ hc).1, ok _ (by simp [wsV]), ⟨hd.1, hd.2.1⟩, fun sig h => ?_, ok _ (by simp [wsV]), ok _ (by simp [wsV]), ok _ (by simp [wsV])⟩
  have h2 := hd.2.2
  rw [h] at h2
  exact (Option.some.inj h2).symm
theorem vx_runVW {y : MethodName} {bytes cc : ByteArray} {maxL nL mc ms n index : Nat} {ret : Option FieldType} {hh : List (Nat × Nat × Nat × Nat)} {ws : List Cond} {rm : Room} {Pc : Array Value → State → Prop} {Qc : Array Value → State → Outcome → State → Prop} {free : Addr → Prop} {Ts : List Cond} {own C : String} {b : Addr} {As rest : List Value} {g : JFrame}
    (S : CallFix p m c cc nL s args Ts own) (hM : Met l y ws rm Pc Qc mc ms free) (cw : vx_CVW R s args own C index y bytes maxL ret hh ws rm mc ms n) (hp : PreV s H C b Pc As)
    (hg : g.method = m) (hn : As.length = n) (hsize : g.locals.size = nL) (hstack : g.stack = As.reverse ++ .ref b :: rest) (hW : 2 * g.monitorRoom + (rest.map fun v => v.category).sum ≤ 8) (hdg : decode cc g.pc = .ok (.invokevirtual index, 3)) (hf : cells + mc ≤ R.cells ∧ slots + ms ≤ R.slots) :
    va_Run p l e R s m args below meth c H locs cells slots mc ms g rest (Qc (Value.ref b :: As).toArray) free := by
  obtain ⟨⟨hrc, hrs, hfr, hlo, hws, hcw⟩, hcode, hini, hy, hlen, hl, hin, hse⟩ := cw
  have hK : Back l R p e below s args y 3 8 (PreOf R mc ms Pc) (PostOf Qc mc ms free) := va_backW (hh := hh) (bytes := bytes) (maxL := maxL) (ret := ret) hM hp.1 hrc hrs hfr hlo hws hcw (fun a' U hW => word_at hW (Or.inl (by first | rfl | simp [Cond.onTables, Cond.keeps, Cond.steady])) hini)
  obtain ⟨hx, hb, hml, ho, -⟩ := S
  obtain ⟨-, ⟨cellB, hcB, hoB, hclB⟩, hPc⟩ := hp
  intro T hT X
  obtain ⟨v, vm₁, ⟨U', l2, c2, s2⟩, hW₁, X', ⟨g', mk, t, L, e1, e2, hq, h1, hL, h2, h3⟩, st⟩ := vx_callVW X hx (C := C) (hh := hh) (bytes := bytes) (maxL := maxL) (ret := ret) ho hl hin hse hcode hy hK (by rw [hT]; exact hcB) hoB hclB hg (hsize.trans hml.symm) (argsL := As) (rest := rest) (fun sig h => hn.trans (hlen sig h)) hstack hW (by rw [hb]; exact hdg)
    (fun vm₁ hW₁ => ⟨hf.1, hf.2, hPc (T.setVm vm₁) hT hW₁⟩)
  dsimp only [Pt.U, Pt.locs, Pt.cells, Pt.slots] at X' e1 e2 h1 h2 h3 st
  subst h1; subst h2; subst h3
  exact ⟨v, (T.setVm vm₁).calling g' mk (Value.ref b :: As).toArray, t, U', L, hT, X', hL, e1, e2, hq, st⟩
section
variable {y : MethodName} {bytes cc : ByteArray} {maxL nL mc ms n index : Nat} {ret : Option FieldType} {ws : List Cond} {rm : Room} {Pc : Array Value → State → Prop} {Qc : Array Value → State → Outcome → State → Prop} {XC : String → State → State → Prop} {free : Addr → Prop} {Ts : List Cond} {own C : String} {b : Addr} {As rest : List Value} {g : JFrame}
theorem vx_runVX {hh : List (Nat × Nat × Nat × Nat)} (S : CallFix p m c cc nL s args Ts own) (hM : vx_Met l y ws rm Pc Qc XC mc ms free) (cw : vx_CVW R s args own C index y bytes maxL ret hh ws rm mc ms n) (hp : PreV s H C b Pc As)
    (hg : g.method = m) (hn : As.length = n) (hsize : g.locals.size = nL) (hstack : g.stack = As.reverse ++ .ref b :: rest) (hW : 2 * g.monitorRoom + (rest.map fun v => v.category).sum ≤ 8) (hdg : decode cc g.pc = .ok (.invokevirtual index, 3)) (hf : cells + mc ≤ R.cells ∧ slots + ms ≤ R.slots) :
    vx_Run p l e R s m args below meth c H locs cells slots mc ms g rest (Qc (Value.ref b :: As).toArray) XC free := by
  obtain ⟨⟨hrc, hrs, hfr, hlo, hws, hcw⟩, hcode, hini, hy, hlen, hl, hin, hse⟩ := cw
  have hK : vx_Back l R p e below s args y 3 8 (PreOf R mc ms Pc) (PostOf Qc mc ms free) (vx_Post XC mc ms free) := vx_backW (hh := hh) (bytes := bytes) (maxL := maxL) (ret := ret) hM hp.1 hrc hrs hfr hlo hws hcw (fun a' U hW => word_at hW (Or.inl (by first | rfl | simp [Cond.onTables, Cond.keeps, Cond.steady])) hini)
  obtain ⟨hx, hb, hml, ho, -⟩ := S
  obtain ⟨-, ⟨cellB, hcB, hoB, hclB⟩, hPc⟩ := hp
  intro T hT X
  rcases vx_callVX X hx (C := C) (hh := hh) (bytes := bytes) (maxL := maxL) (ret := ret) ho hl hin hse hcode hy hK (by rw [hT]; exact hcB) hoB hclB hg (hsize.trans hml.symm) (argsL := As) (rest := rest) (fun sig h => hn.trans (hlen sig h)) hstack hW (by rw [hb]; exact hdg)
    (fun vm₁ hW₁ => ⟨hf.1, hf.2, hPc (T.setVm vm₁) hT hW₁⟩) with ⟨v, vm₁, ⟨U', l2, c2, s2⟩, hW₁, X', ⟨g', mk, t, L, e1, e2, hq, h1, hL, h2, h3⟩, st⟩ | ⟨q, vm₁, ⟨U', l2, c2, s2⟩, hW₁, X', ⟨g', mk, t, L, E, ce, e1, e2, hq, hce, hcv, hcl, h1, hL, h2, h3⟩, st⟩
  · dsimp only [Pt.U, Pt.locs, Pt.cells, Pt.slots] at X' e1 e2 h1 h2 h3 st
    subst h1; subst h2; subst h3
    exact Or.inl ⟨v, (T.setVm vm₁).calling g' mk (Value.ref b :: As).toArray, t, U', L, hT, X', hL, e1, e2, hq, st⟩
  · dsimp only [Pt.U, Pt.locs, Pt.cells, Pt.slots] at X' e1 e2 h1 h2 h3 st hcl
    subst h1; subst h2; subst h3
    exact Or.inr ⟨q, (T.setVm vm₁).calling g' mk (Value.ref b :: As).toArray, t, U', L, E, ce, hT, X', hL, e1, e2, hq, hce, hcv, vx_cls hW₁ hcl, st⟩
theorem vx_runSX {hh : List (Nat × Nat × Nat × Nat)} (S : CallFix p m c cc nL s args Ts own) (hM : vx_Met l y ws rm Pc Qc XC mc ms free) (cw : vx_CSW R s args own index y bytes maxL ret hh ws rm mc ms n) (hp : PreS s H Pc As)
    (hg : g.method = m) (hn : As.length = n) (hsize : g.locals.size = nL) (hstack : g.stack = As.reverse ++ rest) (hW : 2 * g.monitorRoom + (rest.map fun v => v.category).sum ≤ 8) (hdg : decode cc g.pc = .ok (.invokestatic index, 3)) (hf : cells + mc ≤ R.cells ∧ slots + ms ≤ R.slots) :
    vx_Run p l e R s m args below meth c H locs cells slots mc ms g rest (Qc As.toArray) XC free := by
  obtain ⟨⟨hrc, hrs, hfr, hlo, hws, hcw⟩, hcode, hini, hy, hlen, hl, hstt⟩ := cw
  have hK : vx_Back l R p e below s args y 3 8 (PreOf R mc ms Pc) (PostOf Qc mc ms free) (vx_Post XC mc ms free) := vx_backW (hh := hh) (bytes := bytes) (maxL := maxL) (ret := ret) hM hp.1 hrc hrs hfr hlo hws hcw (fun a' U hW => word_at hW (Or.inl (by first | rfl | simp [Cond.onTables, Cond.keeps, Cond.steady])) hini)
  obtain ⟨hx, hb, hml, ho, -⟩ := S
  intro T hT X
  rcases vx_callSX X hx (hh := hh) (bytes := bytes) (maxL := maxL) (ret := ret) ho hl hstt hini hcode hy hK hg (hsize.trans hml.symm) (argsL := As) (rest := rest) (fun sig h => hn.trans (hlen sig h)) hstack hW (by rw [hb]; exact hdg)
    (fun vm₁ hW₁ => ⟨hf.1, hf.2, hp.2 (T.setVm vm₁) hT hW₁⟩) with ⟨v, vm₁, ⟨U', l2, c2, s2⟩, hW₁, X', ⟨g', mk, t, L, e1, e2, hq, h1, hL, h2, h3⟩, st⟩ | ⟨q, vm₁, ⟨U', l2, c2, s2⟩, hW₁, X', ⟨g', mk, t, L, E, ce, e1, e2, hq, hce, hcv, hcl, h1, hL, h2, h3⟩, st⟩
  · dsimp only [Pt.U, Pt.locs, Pt.cells, Pt.slots] at X' e1 e2 h1 h2 h3 st
    subst h1; subst h2; subst h3
    exact Or.inl ⟨v, (T.setVm vm₁).calling g' mk As.toArray, t, U', L, hT, X', hL, e1, e2, hq, st⟩
  · dsimp only [Pt.U, Pt.locs, Pt.cells, Pt.slots] at X' e1 e2 h1 h2 h3 st hcl
    subst h1; subst h2; subst h3
    exact Or.inr ⟨q, (T.setVm vm₁).calling g' mk As.toArray, t, U', L, E, ce, hT, X', hL, e1, e2, hq, hce, hcv, vx_cls hW₁ hcl, st⟩
end
end VXH
theorem vx_ofWH {l : Launch} {y : MethodName} {ws ws' : List Cond} {rm : Room} {Pc : Array Value → State → Prop} {Qc : Array Value → State → Outcome → State → Prop} {XC : String → State → State → Prop} {mc ms : Nat} {free : Addr → Prop} {cc : ByteArray} {maxL : Nat} {ret : Option FieldType} {hh : List (Nat × Nat × Nat × Nat)}
    (hy : plainName y.cls = true) (hw : ws = Cond.codeWith y cc maxL ret hh :: ws')
    (body : ∀ p e s m args below meth c s₁, BodyLoose p l y (headSpec ws rm) cc maxL ret e s m args below meth c s₁ → c.maxLocals = maxL → Pc args s →
      W p l e (headSpec ws rm).room s m args below meth c s.heap [] 0 0 (vx_MQ below Qc XC args s mc ms free) (entryFrame m args maxL)) : vx_Met l y ws rm Pc Qc XC mc ms free := by
  refine MetFree.of_bodyS (code := cc) (maxLocals := maxL) (ret := ret) hy ?_ ?_
  · intro args s m h hn
    obtain ⟨m9, meth, c, hn9, h1, h2, h3, h4, -, h5, h6, -⟩ := Cond.codeWith_spec (atoms_spec (ws := ws) h _ (by rw [hw]; exact List.mem_cons_self))
    cases hn.symm.trans hn9
    exact ⟨meth, c, h1, h2, h3, h4, h5, h6⟩
  · intro p e s m args below meth c s₁ B hml hP _
    have hh0 : s₁.heap = s.heap := by rw [B.state]; rfl
    obtain ⟨t, a1, o, b1, b2, b3⟩ := body p e s m args below meth c s₁ B hml hP s₁ hh0 (Stand.of_body B)
    exact ⟨t, o, a1, b1, b2, b3⟩
/-! ===== END ===== -/

/-! ===== BEGIN printed: names, fields, word lists, decode rows ===== -/
def RX0 : String := "HomeGateway$Device"
def TX0 : u_T := fun k => match k with
  | 0 => ("HomeGateway$Device", "group", "I", false)
  | 1 => ("HomeGateway$Device", "weight", "I", false)
  | 2 => ("HomeGateway$Device", "wakeDelay", "I", false)
  | 3 => ("HomeGateway$Device", "patience", "I", false)
  | 4 => ("HomeGateway$Device", "state", "I", false)
  | 5 => ("HomeGateway$Device", "waitLeft", "I", false)
  | 6 => ("HomeGateway$Device", "idle", "I", false)
  | 7 => ("HomeGateway$Device", "virtualTime", "J", false)
  | 8 => ("HomeGateway$Device", "delivered", "I", false)
  | 9 => ("HomeGateway$Device", "longestDelay", "I", false)
  | 10 => ("HomeGateway$Device", "first", "I", false)
  | 11 => ("HomeGateway$Device", "last", "I", false)
  | 12 => ("HomeGateway$Device", "queued", "I", false)
  | 13 => ("HomeGateway$Device", "backlog", "I", false)
  | _ => ("HomeGateway$Device", "servedInTick", "Z", false)
def tyX0 : Nat → FieldType := fun k => match k with
  | 0 => .int
  | 1 => .int
  | 2 => .int
  | 3 => .int
  | 4 => .int
  | 5 => .int
  | 6 => .int
  | 7 => .long
  | 8 => .int
  | 9 => .int
  | 10 => .int
  | 11 => .int
  | 12 => .int
  | 13 => .int
  | _ => .boolean
abbrev wsX00 : List Cond := u_ws RX0 TX0 15
theorem nmX0 : ∀ a, a < 15 → ∀ b, b < 15 → a ≠ b → (TX0 a).2.1 ≠ (TX0 b).2.1 := by decide +kernel
theorem tyX0_ok : ∀ k, k < 15 → parseFieldDescriptor (TX0 k).2.2.1 = some (tyX0 k) := by decide +kernel
abbrev cX0_init : ByteArray := prog_2_method_1_code
def yX0_init : MethodName := ⟨RX0, "<init>", "()V"⟩
abbrev cX0_setUp : ByteArray := prog_2_method_2_code
def yX0_setUp : MethodName := ⟨RX0, "setUp", "(IIII)V"⟩
abbrev cX0_copyFrom : ByteArray := prog_2_method_3_code
def yX0_copyFrom : MethodName := ⟨RX0, "copyFrom", "(LHomeGateway$Device;)V"⟩
abbrev cX0_startWaking : ByteArray := prog_2_method_4_code
def yX0_startWaking : MethodName := ⟨RX0, "startWaking", "()V"⟩
abbrev cX0_beginTick : ByteArray := prog_2_method_5_code
def yX0_beginTick : MethodName := ⟨RX0, "beginTick", "()V"⟩
abbrev cX0_endTick : ByteArray := prog_2_method_6_code
def yX0_endTick : MethodName := ⟨RX0, "endTick", "()V"⟩
abbrev cX0_enqueue : ByteArray := prog_2_method_7_code
def yX0_enqueue : MethodName := ⟨RX0, "enqueue", "(LHomeGateway$PacketStore;I)V"⟩
abbrev cX0_serveFirst : ByteArray := prog_2_method_8_code
def yX0_serveFirst : MethodName := ⟨RX0, "serveFirst", "(LHomeGateway$PacketStore;I)V"⟩
def RX1 : String := "HomeGateway$Gateway"
def TX1 : u_T := fun k => match k with
  | 0 => ("HomeGateway$Gateway", "packets", "LHomeGateway$PacketStore;", true)
  | 1 => ("HomeGateway$Gateway", "present", "Z", false)
  | 2 => ("HomeGateway$Gateway", "rate", "I", false)
  | 3 => ("HomeGateway$Gateway", "dayLength", "I", false)
  | 4 => ("HomeGateway$Gateway", "limit", "I", false)
  | 5 => ("HomeGateway$Gateway", "devices", "[LHomeGateway$Device;", true)
  | 6 => ("HomeGateway$Gateway", "deviceCount", "I", false)
  | 7 => ("HomeGateway$Gateway", "rules", "LHomeGateway$RuleList;", true)
  | 8 => ("HomeGateway$Gateway", "wakePorts", "[I", true)
  | 9 => ("HomeGateway$Gateway", "wakePortCount", "I", false)
  | 10 => ("HomeGateway$Gateway", "quietFrom", "[I", true)
  | 11 => ("HomeGateway$Gateway", "quietTo", "[I", true)
  | 12 => ("HomeGateway$Gateway", "clock", "I", false)
  | 13 => ("HomeGateway$Gateway", "rejected", "I", false)
  | 14 => ("HomeGateway$Gateway", "proxied", "I", false)
  | _ => ("HomeGateway$Gateway", "dropped", "I", false)
def tyX1 : Nat → FieldType := fun k => match k with
  | 0 => .object "HomeGateway$PacketStore"
  | 1 => .boolean
  | 2 => .int
  | 3 => .int
  | 4 => .int
  | 5 => .array (.object "HomeGateway$Device")
  | 6 => .int
  | 7 => .object "HomeGateway$RuleList"
  | 8 => .array .int
  | 9 => .int
  | 10 => .array .int
  | 11 => .array .int
  | 12 => .int
  | 13 => .int
  | 14 => .int
  | _ => .int
abbrev wsX10 : List Cond := u_ws RX1 TX1 16
theorem nmX1 : ∀ a, a < 16 → ∀ b, b < 16 → a ≠ b → (TX1 a).2.1 ≠ (TX1 b).2.1 := by decide +kernel
theorem tyX1_ok : ∀ k, k < 16 → parseFieldDescriptor (TX1 k).2.2.1 = some (tyX1 k) := by decide +kernel
abbrev cX1_init : ByteArray := prog_3_method_1_code
def yX1_init : MethodName := ⟨RX1, "<init>", "(LHomeGateway$PacketStore;)V"⟩
abbrev cX1_copyFrom : ByteArray := prog_3_method_2_code
def yX1_copyFrom : MethodName := ⟨RX1, "copyFrom", "(LHomeGateway$Gateway;)V"⟩
abbrev cX1_startAnew : ByteArray := prog_3_method_3_code
def yX1_startAnew : MethodName := ⟨RX1, "startAnew", "()V"⟩
abbrev cX1_addDevice : ByteArray := prog_3_method_4_code
def yX1_addDevice : MethodName := ⟨RX1, "addDevice", "(IIII)V"⟩
abbrev cX1_addWakePort : ByteArray := prog_3_method_5_code
def yX1_addWakePort : MethodName := ⟨RX1, "addWakePort", "(I)V"⟩
abbrev cX1_isWakePort : ByteArray := prog_3_method_6_code
def yX1_isWakePort : MethodName := ⟨RX1, "isWakePort", "(I)Z"⟩
abbrev cX1_setQuiet : ByteArray := prog_3_method_7_code
def yX1_setQuiet : MethodName := ⟨RX1, "setQuiet", "(III)V"⟩
abbrev cX1_isQuietHour : ByteArray := prog_3_method_8_code
def yX1_isQuietHour : MethodName := ⟨RX1, "isQuietHour", "(I)Z"⟩
abbrev cX1_hasDevice : ByteArray := prog_3_method_9_code
def yX1_hasDevice : MethodName := ⟨RX1, "hasDevice", "(I)Z"⟩
abbrev cX1_groupOf : ByteArray := prog_3_method_10_code
def yX1_groupOf : MethodName := ⟨RX1, "groupOf", "(I)I"⟩
abbrev cX1_isIsolated : ByteArray := prog_3_method_11_code
def yX1_isIsolated : MethodName := ⟨RX1, "isIsolated", "(II)Z"⟩
abbrev cX1_isOpen : ByteArray := prog_3_method_12_code
def yX1_isOpen : MethodName := ⟨RX1, "isOpen", "(III)Z"⟩
abbrev cX1_judge : ByteArray := prog_3_method_13_code
def yX1_judge : MethodName := ⟨RX1, "judge", "(III)I"⟩
abbrev cX1_countOpenPorts : ByteArray := prog_3_method_14_code
def yX1_countOpenPorts : MethodName := ⟨RX1, "countOpenPorts", "(II)I"⟩
abbrev cX1_measureFairness : ByteArray := prog_3_method_15_code
def yX1_measureFairness : MethodName := ⟨RX1, "measureFairness", "()I"⟩
abbrev cX1_take : ByteArray := prog_3_method_16_code
def yX1_take : MethodName := ⟨RX1, "take", "(IIII)I"⟩
abbrev cX1_leastVirtualTime : ByteArray := prog_3_method_17_code
def yX1_leastVirtualTime : MethodName := ⟨RX1, "leastVirtualTime", "()J"⟩
abbrev cX1_isDrained : ByteArray := prog_3_method_18_code
def yX1_isDrained : MethodName := ⟨RX1, "isDrained", "()Z"⟩
abbrev cX1_passTick : ByteArray := prog_3_method_19_code
def yX1_passTick : MethodName := ⟨RX1, "passTick", "()I"⟩
abbrev cX1_serveLine : ByteArray := prog_3_method_20_code
def yX1_serveLine : MethodName := ⟨RX1, "serveLine", "()I"⟩
abbrev cX1_nextToServe : ByteArray := prog_3_method_21_code
def yX1_nextToServe : MethodName := ⟨RX1, "nextToServe", "()I"⟩
abbrev cX1_canBeServed : ByteArray := prog_3_method_22_code
def yX1_canBeServed : MethodName := ⟨RX1, "canBeServed", "(LHomeGateway$Device;)Z"⟩
abbrev cX1_sumUp : ByteArray := prog_3_method_23_code
def yX1_sumUp : MethodName := ⟨RX1, "sumUp", "()J"⟩
def RX2 : String := "HomeGateway$History"
def TX2 : u_T := fun k => match k with
  | 0 => ("HomeGateway$History", "saved", "[LHomeGateway$Gateway;", true)
  | 1 => ("HomeGateway$History", "next", "I", false)
  | _ => ("HomeGateway$History", "count", "I", false)
def tyX2 : Nat → FieldType := fun k => match k with
  | 0 => .array (.object "HomeGateway$Gateway")
  | 1 => .int
  | _ => .int
abbrev wsX20 : List Cond := u_ws RX2 TX2 3
theorem nmX2 : ∀ a, a < 3 → ∀ b, b < 3 → a ≠ b → (TX2 a).2.1 ≠ (TX2 b).2.1 := by decide +kernel
theorem tyX2_ok : ∀ k, k < 3 → parseFieldDescriptor (TX2 k).2.2.1 = some (tyX2 k) := by decide +kernel
abbrev cX2_init : ByteArray := prog_4_method_1_code
def yX2_init : MethodName := ⟨RX2, "<init>", "(LHomeGateway$PacketStore;)V"⟩
abbrev cX2_save : ByteArray := prog_4_method_2_code
def yX2_save : MethodName := ⟨RX2, "save", "(LHomeGateway$Gateway;)V"⟩
abbrev cX2_bringBack : ByteArray := prog_4_method_3_code
def yX2_bringBack : MethodName := ⟨RX2, "bringBack", "(LHomeGateway$Gateway;)V"⟩
def RX3 : String := "HomeGateway$PacketStore"
def TX3 : u_T := fun k => match k with
  | 0 => ("HomeGateway$PacketStore", "sizes", "[I", true)
  | 1 => ("HomeGateway$PacketStore", "arrivals", "[I", true)
  | 2 => ("HomeGateway$PacketStore", "followers", "[I", true)
  | _ => ("HomeGateway$PacketStore", "count", "I", false)
def tyX3 : Nat → FieldType := fun k => match k with
  | 0 => .array .int
  | 1 => .array .int
  | 2 => .array .int
  | _ => .int
abbrev wsX30 : List Cond := u_ws RX3 TX3 4
theorem nmX3 : ∀ a, a < 4 → ∀ b, b < 4 → a ≠ b → (TX3 a).2.1 ≠ (TX3 b).2.1 := by decide +kernel
theorem tyX3_ok : ∀ k, k < 4 → parseFieldDescriptor (TX3 k).2.2.1 = some (tyX3 k) := by decide +kernel
abbrev cX3_init : ByteArray := prog_5_method_1_code
def yX3_init : MethodName := ⟨RX3, "<init>", "()V"⟩
abbrev cX3_isFull : ByteArray := prog_5_method_2_code
def yX3_isFull : MethodName := ⟨RX3, "isFull", "()Z"⟩
abbrev cX3_holds : ByteArray := prog_5_method_3_code
def yX3_holds : MethodName := ⟨RX3, "holds", "(I)Z"⟩
abbrev cX3_put : ByteArray := prog_5_method_4_code
def yX3_put : MethodName := ⟨RX3, "put", "(II)I"⟩
abbrev cX3_link : ByteArray := prog_5_method_5_code
def yX3_link : MethodName := ⟨RX3, "link", "(II)V"⟩
abbrev cX3_sizeOf : ByteArray := prog_5_method_6_code
def yX3_sizeOf : MethodName := ⟨RX3, "sizeOf", "(I)I"⟩
abbrev cX3_arrivalOf : ByteArray := prog_5_method_7_code
def yX3_arrivalOf : MethodName := ⟨RX3, "arrivalOf", "(I)I"⟩
abbrev cX3_followerOf : ByteArray := prog_5_method_8_code
def yX3_followerOf : MethodName := ⟨RX3, "followerOf", "(I)I"⟩
def RX4 : String := "HomeGateway$Rule"
def TX4 : u_T := fun k => match k with
  | 0 => ("HomeGateway$Rule", "allow", "Z", false)
  | 1 => ("HomeGateway$Rule", "from", "I", false)
  | 2 => ("HomeGateway$Rule", "to", "I", false)
  | 3 => ("HomeGateway$Rule", "low", "I", false)
  | _ => ("HomeGateway$Rule", "high", "I", false)
def tyX4 : Nat → FieldType := fun k => match k with
  | 0 => .boolean
  | 1 => .int
  | 2 => .int
  | 3 => .int
  | _ => .int
abbrev wsX40 : List Cond := u_ws RX4 TX4 5
theorem nmX4 : ∀ a, a < 5 → ∀ b, b < 5 → a ≠ b → (TX4 a).2.1 ≠ (TX4 b).2.1 := by decide +kernel
theorem tyX4_ok : ∀ k, k < 5 → parseFieldDescriptor (TX4 k).2.2.1 = some (tyX4 k) := by decide +kernel
abbrev cX4_init : ByteArray := prog_6_method_1_code
def yX4_init : MethodName := ⟨RX4, "<init>", "()V"⟩
abbrev cX4_setUp : ByteArray := prog_6_method_2_code
def yX4_setUp : MethodName := ⟨RX4, "setUp", "(ZIIII)V"⟩
abbrev cX4_copyFrom : ByteArray := prog_6_method_3_code
def yX4_copyFrom : MethodName := ⟨RX4, "copyFrom", "(LHomeGateway$Rule;)V"⟩
abbrev cX4_matchesGroups : ByteArray := prog_6_method_4_code
def yX4_matchesGroups : MethodName := ⟨RX4, "matchesGroups", "(II)Z"⟩
abbrev cX4_matches : ByteArray := prog_6_method_5_code
def yX4_matches : MethodName := ⟨RX4, "matches", "(III)Z"⟩
def RX5 : String := "HomeGateway$RuleList"
def TX5 : u_T := fun k => match k with
  | 0 => ("HomeGateway$RuleList", "rules", "[LHomeGateway$Rule;", true)
  | _ => ("HomeGateway$RuleList", "count", "I", false)
def tyX5 : Nat → FieldType := fun k => match k with
  | 0 => .array (.object "HomeGateway$Rule")
  | _ => .int
abbrev wsX50 : List Cond := u_ws RX5 TX5 2
theorem nmX5 : ∀ a, a < 2 → ∀ b, b < 2 → a ≠ b → (TX5 a).2.1 ≠ (TX5 b).2.1 := by decide +kernel
theorem tyX5_ok : ∀ k, k < 2 → parseFieldDescriptor (TX5 k).2.2.1 = some (tyX5 k) := by decide +kernel
abbrev cX5_init : ByteArray := prog_7_method_1_code
def yX5_init : MethodName := ⟨RX5, "<init>", "()V"⟩
abbrev cX5_copyFrom : ByteArray := prog_7_method_2_code
def yX5_copyFrom : MethodName := ⟨RX5, "copyFrom", "(LHomeGateway$RuleList;)V"⟩
abbrev cX5_isFull : ByteArray := prog_7_method_3_code
def yX5_isFull : MethodName := ⟨RX5, "isFull", "()Z"⟩
abbrev cX5_putLast : ByteArray := prog_7_method_4_code
def yX5_putLast : MethodName := ⟨RX5, "putLast", "(ZIIII)V"⟩
abbrev cX5_takeOut : ByteArray := prog_7_method_5_code
def yX5_takeOut : MethodName := ⟨RX5, "takeOut", "(I)V"⟩
abbrev cX5_shift : ByteArray := prog_7_method_6_code
def yX5_shift : MethodName := ⟨RX5, "shift", "(II)V"⟩
abbrev cX5_firstMatch : ByteArray := prog_7_method_7_code
def yX5_firstMatch : MethodName := ⟨RX5, "firstMatch", "(III)I"⟩
abbrev cX5_allows : ByteArray := prog_7_method_8_code
def yX5_allows : MethodName := ⟨RX5, "allows", "(I)Z"⟩
abbrev cX5_nextEdge : ByteArray := prog_7_method_9_code
def yX5_nextEdge : MethodName := ⟨RX5, "nextEdge", "(I)I"⟩
abbrev cX5_isCovered : ByteArray := prog_7_method_10_code
def yX5_isCovered : MethodName := ⟨RX5, "isCovered", "(I)Z"⟩
abbrev cX5_isCoveredFor : ByteArray := prog_7_method_11_code
def yX5_isCoveredFor : MethodName := ⟨RX5, "isCoveredFor", "(III)Z"⟩
abbrev cX5_matchesEarlier : ByteArray := prog_7_method_12_code
def yX5_matchesEarlier : MethodName := ⟨RX5, "matchesEarlier", "(IIII)Z"⟩
abbrev cX5_addTo : ByteArray := prog_7_method_13_code
def yX5_addTo : MethodName := ⟨RX5, "addTo", "(J)J"⟩
def RX6 : String := "HomeGateway$SetupReader"
def TX6 : u_T := fun k => match k with
  | 0 => ("HomeGateway$SetupReader", "text", "[B", true)
  | 1 => ("HomeGateway$SetupReader", "length", "I", false)
  | 2 => ("HomeGateway$SetupReader", "position", "I", false)
  | 3 => ("HomeGateway$SetupReader", "tokenStart", "I", false)
  | 4 => ("HomeGateway$SetupReader", "number", "I", false)
  | 5 => ("HomeGateway$SetupReader", "target", "LHomeGateway$Gateway;", true)
  | 6 => ("HomeGateway$SetupReader", "wakeSeen", "Z", false)
  | 7 => ("HomeGateway$SetupReader", "limitSeen", "Z", false)
  | 8 => ("HomeGateway$SetupReader", "quietSeen", "[Z", true)
  | 9 => ("HomeGateway$SetupReader", "error", "I", false)
  | _ => ("HomeGateway$SetupReader", "errorOffset", "I", false)
def tyX6 : Nat → FieldType := fun k => match k with
  | 0 => .array .byte
  | 1 => .int
  | 2 => .int
  | 3 => .int
  | 4 => .int
  | 5 => .object "HomeGateway$Gateway"
  | 6 => .boolean
  | 7 => .boolean
  | 8 => .array .boolean
  | 9 => .int
  | _ => .int
abbrev wsX60 : List Cond := u_ws RX6 TX6 11
theorem nmX6 : ∀ a, a < 11 → ∀ b, b < 11 → a ≠ b → (TX6 a).2.1 ≠ (TX6 b).2.1 := by decide +kernel
theorem tyX6_ok : ∀ k, k < 11 → parseFieldDescriptor (TX6 k).2.2.1 = some (tyX6 k) := by decide +kernel
abbrev cX6_init : ByteArray := prog_8_method_1_code
def yX6_init : MethodName := ⟨RX6, "<init>", "([BLHomeGateway$Gateway;)V"⟩
abbrev cX6_readDraft : ByteArray := prog_8_method_2_code
def yX6_readDraft : MethodName := ⟨RX6, "readDraft", "(I)I"⟩
abbrev cX6_fail : ByteArray := prog_8_method_3_code
def yX6_fail : MethodName := ⟨RX6, "fail", "(I)Z"⟩
abbrev cX6_byteAt : ByteArray := prog_8_method_4_code
def yX6_byteAt : MethodName := ⟨RX6, "byteAt", "(I)I"⟩
abbrev cX6_isLetterAt : ByteArray := prog_8_method_5_code
def yX6_isLetterAt : MethodName := ⟨RX6, "isLetterAt", "(I)Z"⟩
abbrev cX6_isDigitAt : ByteArray := prog_8_method_6_code
def yX6_isDigitAt : MethodName := ⟨RX6, "isDigitAt", "(I)Z"⟩
abbrev cX6_startToken : ByteArray := prog_8_method_7_code
def yX6_startToken : MethodName := ⟨RX6, "startToken", "()V"⟩
abbrev cX6_isAtEnd : ByteArray := prog_8_method_8_code
def yX6_isAtEnd : MethodName := ⟨RX6, "isAtEnd", "()Z"⟩
abbrev cX6_readSemicolon : ByteArray := prog_8_method_9_code
def yX6_readSemicolon : MethodName := ⟨RX6, "readSemicolon", "()Z"⟩
abbrev cX6_readWord : ByteArray := prog_8_method_10_code
def yX6_readWord : MethodName := ⟨RX6, "readWord", "()V"⟩
abbrev cX6_isWord : ByteArray := prog_8_method_11_code
def yX6_isWord : MethodName := ⟨RX6, "isWord", "(Ljava/lang/String;)Z"⟩
abbrev cX6_readNumber : ByteArray := prog_8_method_12_code
def yX6_readNumber : MethodName := ⟨RX6, "readNumber", "(II)Z"⟩
abbrev cX6_readSelector : ByteArray := prog_8_method_13_code
def yX6_readSelector : MethodName := ⟨RX6, "readSelector", "()I"⟩
abbrev cX6_readHead : ByteArray := prog_8_method_14_code
def yX6_readHead : MethodName := ⟨RX6, "readHead", "()Z"⟩
abbrev cX6_readStatement : ByteArray := prog_8_method_15_code
def yX6_readStatement : MethodName := ⟨RX6, "readStatement", "()Z"⟩
abbrev cX6_readDevice : ByteArray := prog_8_method_16_code
def yX6_readDevice : MethodName := ⟨RX6, "readDevice", "()Z"⟩
abbrev cX6_readRule : ByteArray := prog_8_method_17_code
def yX6_readRule : MethodName := ⟨RX6, "readRule", "(Z)Z"⟩
abbrev cX6_readWakePorts : ByteArray := prog_8_method_18_code
def yX6_readWakePorts : MethodName := ⟨RX6, "readWakePorts", "()Z"⟩
abbrev cX6_isNumberNext : ByteArray := prog_8_method_19_code
def yX6_isNumberNext : MethodName := ⟨RX6, "isNumberNext", "()Z"⟩
abbrev cX6_readWakePort : ByteArray := prog_8_method_20_code
def yX6_readWakePort : MethodName := ⟨RX6, "readWakePort", "()Z"⟩
abbrev cX6_readQuiet : ByteArray := prog_8_method_21_code
def yX6_readQuiet : MethodName := ⟨RX6, "readQuiet", "()Z"⟩
abbrev cX6_readLimit : ByteArray := prog_8_method_22_code
def yX6_readLimit : MethodName := ⟨RX6, "readLimit", "()Z"⟩
def RX7 : String := "HomeGateway"
def TX7 : u_T := fun k => match k with
  | 0 => ("HomeGateway", "buffer", "[B", true)
  | 1 => ("HomeGateway", "bufferLength", "I", false)
  | 2 => ("HomeGateway", "lastErrorOffset", "I", false)
  | 3 => ("HomeGateway", "current", "LHomeGateway$Gateway;", true)
  | 4 => ("HomeGateway", "draft", "LHomeGateway$Gateway;", true)
  | 5 => ("HomeGateway", "history", "LHomeGateway$History;", true)
  | _ => ("HomeGateway", "reader", "LHomeGateway$SetupReader;", true)
def tyX7 : Nat → FieldType := fun k => match k with
  | 0 => .array .byte
  | 1 => .int
  | 2 => .int
  | 3 => .object "HomeGateway$Gateway"
  | 4 => .object "HomeGateway$Gateway"
  | 5 => .object "HomeGateway$History"
  | _ => .object "HomeGateway$SetupReader"
abbrev wsX70 : List Cond := u_ws RX7 TX7 7
theorem nmX7 : ∀ a, a < 7 → ∀ b, b < 7 → a ≠ b → (TX7 a).2.1 ≠ (TX7 b).2.1 := by decide +kernel
theorem tyX7_ok : ∀ k, k < 7 → parseFieldDescriptor (TX7 k).2.2.1 = some (tyX7 k) := by decide +kernel
abbrev cX7_init : ByteArray := prog_1_method_1_code
def yX7_init : MethodName := ⟨RX7, "<init>", "()V"⟩
abbrev cX7_append : ByteArray := prog_1_method_2_code
def yX7_append : MethodName := ⟨RX7, "append", "(IIIII)I"⟩
abbrev cX7_load : ByteArray := prog_1_method_3_code
def yX7_load : MethodName := ⟨RX7, "load", "(I)I"⟩
abbrev cX7_errorOffset : ByteArray := prog_1_method_4_code
def yX7_errorOffset : MethodName := ⟨RX7, "errorOffset", "()I"⟩
abbrev cX7_deviceCount : ByteArray := prog_1_method_5_code
def yX7_deviceCount : MethodName := ⟨RX7, "deviceCount", "()I"⟩
abbrev cX7_ruleCount : ByteArray := prog_1_method_6_code
def yX7_ruleCount : MethodName := ⟨RX7, "ruleCount", "()I"⟩
abbrev cX7_clock : ByteArray := prog_1_method_7_code
def yX7_clock : MethodName := ⟨RX7, "clock", "()I"⟩
abbrev cX7_state : ByteArray := prog_1_method_8_code
def yX7_state : MethodName := ⟨RX7, "state", "(I)I"⟩
abbrev cX7_weight : ByteArray := prog_1_method_9_code
def yX7_weight : MethodName := ⟨RX7, "weight", "(I)I"⟩
abbrev cX7_queueLength : ByteArray := prog_1_method_10_code
def yX7_queueLength : MethodName := ⟨RX7, "queueLength", "(I)I"⟩
abbrev cX7_backlog : ByteArray := prog_1_method_11_code
def yX7_backlog : MethodName := ⟨RX7, "backlog", "(I)I"⟩
abbrev cX7_virtualTime : ByteArray := prog_1_method_12_code
def yX7_virtualTime : MethodName := ⟨RX7, "virtualTime", "(I)J"⟩
abbrev cX7_delivered : ByteArray := prog_1_method_13_code
def yX7_delivered : MethodName := ⟨RX7, "delivered", "(I)I"⟩
abbrev cX7_longestDelay : ByteArray := prog_1_method_14_code
def yX7_longestDelay : MethodName := ⟨RX7, "longestDelay", "(I)I"⟩
abbrev cX7_rejected : ByteArray := prog_1_method_15_code
def yX7_rejected : MethodName := ⟨RX7, "rejected", "()I"⟩
abbrev cX7_proxied : ByteArray := prog_1_method_16_code
def yX7_proxied : MethodName := ⟨RX7, "proxied", "()I"⟩
abbrev cX7_dropped : ByteArray := prog_1_method_17_code
def yX7_dropped : MethodName := ⟨RX7, "dropped", "()I"⟩
abbrev cX7_isQuiet : ByteArray := prog_1_method_18_code
def yX7_isQuiet : MethodName := ⟨RX7, "isQuiet", "(I)Z"⟩
abbrev cX7_verdict : ByteArray := prog_1_method_19_code
def yX7_verdict : MethodName := ⟨RX7, "verdict", "(III)I"⟩
abbrev cX7_matching : ByteArray := prog_1_method_20_code
def yX7_matching : MethodName := ⟨RX7, "matching", "(III)I"⟩
abbrev cX7_isUseless : ByteArray := prog_1_method_21_code
def yX7_isUseless : MethodName := ⟨RX7, "isUseless", "(I)Z"⟩
abbrev cX7_openPorts : ByteArray := prog_1_method_22_code
def yX7_openPorts : MethodName := ⟨RX7, "openPorts", "(II)I"⟩
abbrev cX7_fairness : ByteArray := prog_1_method_23_code
def yX7_fairness : MethodName := ⟨RX7, "fairness", "()I"⟩
abbrev cX7_drainTime : ByteArray := prog_1_method_24_code
def yX7_drainTime : MethodName := ⟨RX7, "drainTime", "(I)I"⟩
abbrev cX7_arrive : ByteArray := prog_1_method_25_code
def yX7_arrive : MethodName := ⟨RX7, "arrive", "(IIII)I"⟩
abbrev cX7_tick : ByteArray := prog_1_method_26_code
def yX7_tick : MethodName := ⟨RX7, "tick", "(I)I"⟩
abbrev cX7_sleep : ByteArray := prog_1_method_27_code
def yX7_sleep : MethodName := ⟨RX7, "sleep", "(I)I"⟩
abbrev cX7_wake : ByteArray := prog_1_method_28_code
def yX7_wake : MethodName := ⟨RX7, "wake", "(I)I"⟩
abbrev cX7_setWeight : ByteArray := prog_1_method_29_code
def yX7_setWeight : MethodName := ⟨RX7, "setWeight", "(II)I"⟩
abbrev cX7_addRule : ByteArray := prog_1_method_30_code
def yX7_addRule : MethodName := ⟨RX7, "addRule", "(ZIIII)I"⟩
abbrev cX7_removeRule : ByteArray := prog_1_method_31_code
def yX7_removeRule : MethodName := ⟨RX7, "removeRule", "(I)I"⟩
abbrev cX7_moveRule : ByteArray := prog_1_method_32_code
def yX7_moveRule : MethodName := ⟨RX7, "moveRule", "(II)I"⟩
abbrev cX7_undo : ByteArray := prog_1_method_33_code
def yX7_undo : MethodName := ⟨RX7, "undo", "()I"⟩
abbrev cX7_checksum : ByteArray := prog_1_method_34_code
def yX7_checksum : MethodName := ⟨RX7, "checksum", "()J"⟩
abbrev cX7_appendWord : ByteArray := prog_1_method_35_code
def yX7_appendWord : MethodName := ⟨RX7, "appendWord", "(I)V"⟩
abbrev cX7_checkDevice : ByteArray := prog_1_method_36_code
def yX7_checkDevice : MethodName := ⟨RX7, "checkDevice", "(I)V"⟩
abbrev cX7_checkSender : ByteArray := prog_1_method_37_code
def yX7_checkSender : MethodName := ⟨RX7, "checkSender", "(I)V"⟩
abbrev cX7_checkRule : ByteArray := prog_1_method_38_code
def yX7_checkRule : MethodName := ⟨RX7, "checkRule", "(I)V"⟩
abbrev cX7_checkPort : ByteArray := prog_1_method_39_code
def yX7_checkPort : MethodName := ⟨RX7, "checkPort", "(I)V"⟩
abbrev cX7_checkGateway : ByteArray := prog_1_method_40_code
def yX7_checkGateway : MethodName := ⟨RX7, "checkGateway", "()V"⟩
def RX8 : String := "HomeGatewayModel"
def TX8 : u_T := fun k => match k with
  | 0 => ("HomeGatewayModel", "thrown", "I", false)
  | 1 => ("HomeGatewayModel", "buffer", "[I", true)
  | 2 => ("HomeGatewayModel", "bufferLength", "I", false)
  | 3 => ("HomeGatewayModel", "textLength", "I", false)
  | 4 => ("HomeGatewayModel", "position", "I", false)
  | 5 => ("HomeGatewayModel", "error", "I", false)
  | 6 => ("HomeGatewayModel", "errorAt", "I", false)
  | 7 => ("HomeGatewayModel", "errorOffset", "I", false)
  | 8 => ("HomeGatewayModel", "data", "[I", true)
  | 9 => ("HomeGatewayModel", "draft", "[I", true)
  | 10 => ("HomeGatewayModel", "future", "[I", true)
  | 11 => ("HomeGatewayModel", "history", "[[I", true)
  | 12 => ("HomeGatewayModel", "times", "[J", true)
  | 13 => ("HomeGatewayModel", "futureTimes", "[J", true)
  | 14 => ("HomeGatewayModel", "timesBefore", "[[J", true)
  | 15 => ("HomeGatewayModel", "undoDepth", "I", false)
  | 16 => ("HomeGatewayModel", "numberStart", "I", false)
  | _ => ("HomeGatewayModel", "seen", "I", false)
def tyX8 : Nat → FieldType := fun k => match k with
  | 0 => .int
  | 1 => .array .int
  | 2 => .int
  | 3 => .int
  | 4 => .int
  | 5 => .int
  | 6 => .int
  | 7 => .int
  | 8 => .array .int
  | 9 => .array .int
  | 10 => .array .int
  | 11 => .array (.array .int)
  | 12 => .array .long
  | 13 => .array .long
  | 14 => .array (.array .long)
  | 15 => .int
  | 16 => .int
  | _ => .int
abbrev wsX80 : List Cond := u_ws RX8 TX8 18
theorem nmX8 : ∀ a, a < 18 → ∀ b, b < 18 → a ≠ b → (TX8 a).2.1 ≠ (TX8 b).2.1 := by decide +kernel
theorem tyX8_ok : ∀ k, k < 18 → parseFieldDescriptor (TX8 k).2.2.1 = some (tyX8 k) := by decide +kernel
abbrev cX8_init : ByteArray := prog_10_method_1_code
def yX8_init : MethodName := ⟨RX8, "<init>", "()V"⟩
abbrev cX8_thrown : ByteArray := prog_10_method_2_code
def yX8_thrown : MethodName := ⟨RX8, "thrown", "()I"⟩
abbrev cX8_fails : ByteArray := prog_10_method_3_code
def yX8_fails : MethodName := ⟨RX8, "fails", "(ZI)Z"⟩
abbrev cX8_in : ByteArray := prog_10_method_4_code
def yX8_in : MethodName := ⟨RX8, "in", "(III)Z"⟩
abbrev cX8_max : ByteArray := prog_10_method_5_code
def yX8_max : MethodName := ⟨RX8, "max", "(II)I"⟩
abbrev cX8_min : ByteArray := prog_10_method_6_code
def yX8_min : MethodName := ⟨RX8, "min", "(II)I"⟩
abbrev cX8_device : ByteArray := prog_10_method_7_code
def yX8_device : MethodName := ⟨RX8, "device", "(I)I"⟩
abbrev cX8_rule : ByteArray := prog_10_method_8_code
def yX8_rule : MethodName := ⟨RX8, "rule", "(I)I"⟩
abbrev cX8_packet : ByteArray := prog_10_method_9_code
def yX8_packet : MethodName := ⟨RX8, "packet", "(II)I"⟩
abbrev cX8_quiet : ByteArray := prog_10_method_10_code
def yX8_quiet : MethodName := ⟨RX8, "quiet", "(I)I"⟩
abbrev cX8_copy : ByteArray := prog_10_method_11_code
def yX8_copy : MethodName := ⟨RX8, "copy", "([I[I)V"⟩
abbrev cX8_copyTimes : ByteArray := prog_10_method_12_code
def yX8_copyTimes : MethodName := ⟨RX8, "copyTimes", "([J[J)V"⟩
abbrev cX8_append : ByteArray := prog_10_method_13_code
def yX8_append : MethodName := ⟨RX8, "append", "(IIIII)I"⟩
abbrev cX8_byteAt : ByteArray := prog_10_method_14_code
def yX8_byteAt : MethodName := ⟨RX8, "byteAt", "(I)I"⟩
abbrev cX8_isGood : ByteArray := prog_10_method_15_code
def yX8_isGood : MethodName := ⟨RX8, "isGood", "()Z"⟩
abbrev cX8_report : ByteArray := prog_10_method_16_code
def yX8_report : MethodName := ⟨RX8, "report", "(II)V"⟩
abbrev cX8_next : ByteArray := prog_10_method_17_code
def yX8_next : MethodName := ⟨RX8, "next", "()I"⟩
abbrev cX8_isLetter : ByteArray := prog_10_method_18_code
def yX8_isLetter : MethodName := ⟨RX8, "isLetter", "(I)Z"⟩
abbrev cX8_isDigit : ByteArray := prog_10_method_19_code
def yX8_isDigit : MethodName := ⟨RX8, "isDigit", "(I)Z"⟩
abbrev cX8_takeWord : ByteArray := prog_10_method_20_code
def yX8_takeWord : MethodName := ⟨RX8, "takeWord", "(Ljava/lang/String;)Z"⟩
abbrev cX8_expect : ByteArray := prog_10_method_21_code
def yX8_expect : MethodName := ⟨RX8, "expect", "(I)V"⟩
abbrev cX8_number : ByteArray := prog_10_method_22_code
def yX8_number : MethodName := ⟨RX8, "number", "(II)I"⟩
abbrev cX8_once : ByteArray := prog_10_method_23_code
def yX8_once : MethodName := ⟨RX8, "once", "(II)V"⟩
abbrev cX8_readGroup : ByteArray := prog_10_method_24_code
def yX8_readGroup : MethodName := ⟨RX8, "readGroup", "()I"⟩
abbrev cX8_readSelector : ByteArray := prog_10_method_25_code
def yX8_readSelector : MethodName := ⟨RX8, "readSelector", "()I"⟩
abbrev cX8_readDevice : ByteArray := prog_10_method_26_code
def yX8_readDevice : MethodName := ⟨RX8, "readDevice", "(I)V"⟩
abbrev cX8_setRule : ByteArray := prog_10_method_27_code
def yX8_setRule : MethodName := ⟨RX8, "setRule", "([IIIIIII)V"⟩
abbrev cX8_readRule : ByteArray := prog_10_method_28_code
def yX8_readRule : MethodName := ⟨RX8, "readRule", "(II)V"⟩
abbrev cX8_isWakePort : ByteArray := prog_10_method_29_code
def yX8_isWakePort : MethodName := ⟨RX8, "isWakePort", "([II)Z"⟩
abbrev cX8_readWake : ByteArray := prog_10_method_30_code
def yX8_readWake : MethodName := ⟨RX8, "readWake", "()V"⟩
abbrev cX8_readQuiet : ByteArray := prog_10_method_31_code
def yX8_readQuiet : MethodName := ⟨RX8, "readQuiet", "()V"⟩
abbrev cX8_statement : ByteArray := prog_10_method_32_code
def yX8_statement : MethodName := ⟨RX8, "statement", "()V"⟩
abbrev cX8_load : ByteArray := prog_10_method_33_code
def yX8_load : MethodName := ⟨RX8, "load", "(I)I"⟩
abbrev cX8_errorOffset : ByteArray := prog_10_method_34_code
def yX8_errorOffset : MethodName := ⟨RX8, "errorOffset", "()I"⟩
abbrev cX8_matches : ByteArray := prog_10_method_35_code
def yX8_matches : MethodName := ⟨RX8, "matches", "(IIII)Z"⟩
abbrev cX8_firstRule : ByteArray := prog_10_method_36_code
def yX8_firstRule : MethodName := ⟨RX8, "firstRule", "(IIII)I"⟩
abbrev cX8_groupOf : ByteArray := prog_10_method_37_code
def yX8_groupOf : MethodName := ⟨RX8, "groupOf", "(I)I"⟩
abbrev cX8_verdictOf : ByteArray := prog_10_method_38_code
def yX8_verdictOf : MethodName := ⟨RX8, "verdictOf", "(III)I"⟩
abbrev cX8_isPort : ByteArray := prog_10_method_39_code
def yX8_isPort : MethodName := ⟨RX8, "isPort", "(I)Z"⟩
abbrev cX8_isQuietFor : ByteArray := prog_10_method_40_code
def yX8_isQuietFor : MethodName := ⟨RX8, "isQuietFor", "([II)Z"⟩
abbrev cX8_canBeServed : ByteArray := prog_10_method_41_code
def yX8_canBeServed : MethodName := ⟨RX8, "canBeServed", "([II)Z"⟩
abbrev cX8_deliver : ByteArray := prog_10_method_42_code
def yX8_deliver : MethodName := ⟨RX8, "deliver", "([I[JI)V"⟩
abbrev cX8_step : ByteArray := prog_10_method_43_code
def yX8_step : MethodName := ⟨RX8, "step", "([I[J)I"⟩
abbrev cX8_noDevice : ByteArray := prog_10_method_44_code
def yX8_noDevice : MethodName := ⟨RX8, "noDevice", "(I)Z"⟩
abbrev cX8_noSender : ByteArray := prog_10_method_45_code
def yX8_noSender : MethodName := ⟨RX8, "noSender", "(I)Z"⟩
abbrev cX8_noRule : ByteArray := prog_10_method_46_code
def yX8_noRule : MethodName := ⟨RX8, "noRule", "(I)Z"⟩
abbrev cX8_deviceCount : ByteArray := prog_10_method_47_code
def yX8_deviceCount : MethodName := ⟨RX8, "deviceCount", "()I"⟩
abbrev cX8_ruleCount : ByteArray := prog_10_method_48_code
def yX8_ruleCount : MethodName := ⟨RX8, "ruleCount", "()I"⟩
abbrev cX8_clock : ByteArray := prog_10_method_49_code
def yX8_clock : MethodName := ⟨RX8, "clock", "()I"⟩
abbrev cX8_state : ByteArray := prog_10_method_50_code
def yX8_state : MethodName := ⟨RX8, "state", "(I)I"⟩
abbrev cX8_weight : ByteArray := prog_10_method_51_code
def yX8_weight : MethodName := ⟨RX8, "weight", "(I)I"⟩
abbrev cX8_queueLength : ByteArray := prog_10_method_52_code
def yX8_queueLength : MethodName := ⟨RX8, "queueLength", "(I)I"⟩
abbrev cX8_backlogOf : ByteArray := prog_10_method_53_code
def yX8_backlogOf : MethodName := ⟨RX8, "backlogOf", "(I)I"⟩
abbrev cX8_backlog : ByteArray := prog_10_method_54_code
def yX8_backlog : MethodName := ⟨RX8, "backlog", "(I)I"⟩
abbrev cX8_virtualTime : ByteArray := prog_10_method_55_code
def yX8_virtualTime : MethodName := ⟨RX8, "virtualTime", "(I)J"⟩
abbrev cX8_delivered : ByteArray := prog_10_method_56_code
def yX8_delivered : MethodName := ⟨RX8, "delivered", "(I)I"⟩
abbrev cX8_longestDelay : ByteArray := prog_10_method_57_code
def yX8_longestDelay : MethodName := ⟨RX8, "longestDelay", "(I)I"⟩
abbrev cX8_rejected : ByteArray := prog_10_method_58_code
def yX8_rejected : MethodName := ⟨RX8, "rejected", "()I"⟩
abbrev cX8_proxied : ByteArray := prog_10_method_59_code
def yX8_proxied : MethodName := ⟨RX8, "proxied", "()I"⟩
abbrev cX8_dropped : ByteArray := prog_10_method_60_code
def yX8_dropped : MethodName := ⟨RX8, "dropped", "()I"⟩
abbrev cX8_isQuiet : ByteArray := prog_10_method_61_code
def yX8_isQuiet : MethodName := ⟨RX8, "isQuiet", "(I)Z"⟩
abbrev cX8_verdict : ByteArray := prog_10_method_62_code
def yX8_verdict : MethodName := ⟨RX8, "verdict", "(III)I"⟩
abbrev cX8_matching : ByteArray := prog_10_method_63_code
def yX8_matching : MethodName := ⟨RX8, "matching", "(III)I"⟩
abbrev cX8_isUseless : ByteArray := prog_10_method_64_code
def yX8_isUseless : MethodName := ⟨RX8, "isUseless", "(I)Z"⟩
abbrev cX8_openPorts : ByteArray := prog_10_method_65_code
def yX8_openPorts : MethodName := ⟨RX8, "openPorts", "(II)I"⟩
abbrev cX8_fairness : ByteArray := prog_10_method_66_code
def yX8_fairness : MethodName := ⟨RX8, "fairness", "()I"⟩
abbrev cX8_isEmpty : ByteArray := prog_10_method_67_code
def yX8_isEmpty : MethodName := ⟨RX8, "isEmpty", "([I)Z"⟩
abbrev cX8_drainTime : ByteArray := prog_10_method_68_code
def yX8_drainTime : MethodName := ⟨RX8, "drainTime", "(I)I"⟩
abbrev cX8_remember : ByteArray := prog_10_method_69_code
def yX8_remember : MethodName := ⟨RX8, "remember", "()V"⟩
abbrev cX8_receive : ByteArray := prog_10_method_70_code
def yX8_receive : MethodName := ⟨RX8, "receive", "(IIII)I"⟩
abbrev cX8_wakeUp : ByteArray := prog_10_method_71_code
def yX8_wakeUp : MethodName := ⟨RX8, "wakeUp", "(I)V"⟩
abbrev cX8_arrive : ByteArray := prog_10_method_72_code
def yX8_arrive : MethodName := ⟨RX8, "arrive", "(IIII)I"⟩
abbrev cX8_tick : ByteArray := prog_10_method_73_code
def yX8_tick : MethodName := ⟨RX8, "tick", "(I)I"⟩
abbrev cX8_sleep : ByteArray := prog_10_method_74_code
def yX8_sleep : MethodName := ⟨RX8, "sleep", "(I)I"⟩
abbrev cX8_wake : ByteArray := prog_10_method_75_code
def yX8_wake : MethodName := ⟨RX8, "wake", "(I)I"⟩
abbrev cX8_setWeight : ByteArray := prog_10_method_76_code
def yX8_setWeight : MethodName := ⟨RX8, "setWeight", "(II)I"⟩
abbrev cX8_addRule : ByteArray := prog_10_method_77_code
def yX8_addRule : MethodName := ⟨RX8, "addRule", "(ZIIII)I"⟩
abbrev cX8_swap : ByteArray := prog_10_method_78_code
def yX8_swap : MethodName := ⟨RX8, "swap", "(II)V"⟩
abbrev cX8_shift : ByteArray := prog_10_method_79_code
def yX8_shift : MethodName := ⟨RX8, "shift", "(II)V"⟩
abbrev cX8_removeRule : ByteArray := prog_10_method_80_code
def yX8_removeRule : MethodName := ⟨RX8, "removeRule", "(I)I"⟩
abbrev cX8_moveRule : ByteArray := prog_10_method_81_code
def yX8_moveRule : MethodName := ⟨RX8, "moveRule", "(II)I"⟩
abbrev cX8_undo : ByteArray := prog_10_method_82_code
def yX8_undo : MethodName := ⟨RX8, "undo", "()I"⟩
abbrev cX8_checksum : ByteArray := prog_10_method_83_code
def yX8_checksum : MethodName := ⟨RX8, "checksum", "()J"⟩
def RJ9 : String := "java/lang/Math"
def TJ9 : u_T := fun k => match k with
  | _ => ("", "", "", false)
def tyJ9 : Nat → FieldType := fun k => match k with
  | _ => .int
abbrev wsJ90 : List Cond := u_ws RJ9 TJ9 0
theorem nmJ9 : ∀ a, a < 0 → ∀ b, b < 0 → a ≠ b → (TJ9 a).2.1 ≠ (TJ9 b).2.1 := by decide +kernel
theorem tyJ9_ok : ∀ k, k < 0 → parseFieldDescriptor (TJ9 k).2.2.1 = some (tyJ9 k) := by decide +kernel
abbrev cJ9_max_7cf53 : ByteArray := prog_15_method_65_code
def yJ9_max_7cf53 : MethodName := ⟨RJ9, "max", "(II)I"⟩
abbrev cJ9_max_f86c9 : ByteArray := prog_15_method_66_code
def yJ9_max_f86c9 : MethodName := ⟨RJ9, "max", "(JJ)J"⟩
abbrev cJ9_min_7cf53 : ByteArray := prog_15_method_69_code
def yJ9_min_7cf53 : MethodName := ⟨RJ9, "min", "(II)I"⟩
def RJ0 : String := "java/lang/String"
def TJ0 : u_T := fun k => match k with
  | _ => ("", "", "", false)
def tyJ0 : Nat → FieldType := fun k => match k with
  | _ => .int
abbrev wsJ00 : List Cond := u_ws RJ0 TJ0 0
theorem nmJ0 : ∀ a, a < 0 → ∀ b, b < 0 → a ≠ b → (TJ0 a).2.1 ≠ (TJ0 b).2.1 := by decide +kernel
theorem tyJ0_ok : ∀ k, k < 0 → parseFieldDescriptor (TJ0 k).2.2.1 = some (tyJ0 k) := by decide +kernel
abbrev cJ0_length_8abf5 : ByteArray := prog_17_method_54_code
def yJ0_length_8abf5 : MethodName := ⟨RJ0, "length", "()I"⟩
abbrev cJ0_charAt_5068e : ByteArray := prog_17_method_56_code
def yJ0_charAt_5068e : MethodName := ⟨RJ0, "charAt", "(I)C"⟩
abbrev cJ0_coder_7d493 : ByteArray := prog_17_method_152_code
def yJ0_coder_7d493 : MethodName := ⟨RJ0, "coder", "()B"⟩
abbrev cJ0_isLatin1_aae02 : ByteArray := prog_17_method_154_code
def yJ0_isLatin1_aae02 : MethodName := ⟨RJ0, "isLatin1", "()Z"⟩
abbrev cJ0_checkIndex_df160 : ByteArray := prog_17_method_155_code
def yJ0_checkIndex_df160 : MethodName := ⟨RJ0, "checkIndex", "(II)V"⟩
def RJ1 : String := "java/lang/StringLatin1"
def TJ1 : u_T := fun k => match k with
  | _ => ("", "", "", false)
def tyJ1 : Nat → FieldType := fun k => match k with
  | _ => .int
abbrev wsJ10 : List Cond := u_ws RJ1 TJ1 0
theorem nmJ1 : ∀ a, a < 0 → ∀ b, b < 0 → a ≠ b → (TJ1 a).2.1 ≠ (TJ1 b).2.1 := by decide +kernel
theorem tyJ1_ok : ∀ k, k < 0 → parseFieldDescriptor (TJ1 k).2.2.1 = some (tyJ1 k) := by decide +kernel
abbrev cJ1_charAt_3b067 : ByteArray := prog_18_method_2_code
def yJ1_charAt_3b067 : MethodName := ⟨RJ1, "charAt", "([BI)C"⟩
def RJ2 : String := "java/lang/StringUTF16"
def TJ2 : u_T := fun k => match k with
  | _ => ("", "", "", false)
def tyJ2 : Nat → FieldType := fun k => match k with
  | _ => .int
abbrev wsJ20 : List Cond := u_ws RJ2 TJ2 0
theorem nmJ2 : ∀ a, a < 0 → ∀ b, b < 0 → a ≠ b → (TJ2 a).2.1 ≠ (TJ2 b).2.1 := by decide +kernel
theorem tyJ2_ok : ∀ k, k < 0 → parseFieldDescriptor (TJ2 k).2.2.1 = some (tyJ2 k) := by decide +kernel
abbrev cJ2_getChar_3b067 : ByteArray := prog_19_method_5_code
def yJ2_getChar_3b067 : MethodName := ⟨RJ2, "getChar", "([BI)C"⟩
abbrev cJ2_length_9d52b : ByteArray := prog_19_method_6_code
def yJ2_length_9d52b : MethodName := ⟨RJ2, "length", "([B)I"⟩
abbrev cJ2_charAt_3b067 : ByteArray := prog_19_method_83_code
def yJ2_charAt_3b067 : MethodName := ⟨RJ2, "charAt", "([BI)C"⟩
abbrev cJ2_checkIndex_2214a : ByteArray := prog_19_method_91_code
def yJ2_checkIndex_2214a : MethodName := ⟨RJ2, "checkIndex", "(I[B)V"⟩
def RJ3 : String := "jdk/internal/util/Preconditions"
def TJ3 : u_T := fun k => match k with
  | _ => ("", "", "", false)
def tyJ3 : Nat → FieldType := fun k => match k with
  | _ => .int
abbrev wsJ30 : List Cond := u_ws RJ3 TJ3 0
theorem nmJ3 : ∀ a, a < 0 → ∀ b, b < 0 → a ≠ b → (TJ3 a).2.1 ≠ (TJ3 b).2.1 := by decide +kernel
theorem tyJ3_ok : ∀ k, k < 0 → parseFieldDescriptor (TJ3 k).2.2.1 = some (tyJ3 k) := by decide +kernel
abbrev cJ3_checkIndex_8e157 : ByteArray := prog_21_method_11_code
def yJ3_checkIndex_8e157 : MethodName := ⟨RJ3, "checkIndex", "(IILjava/util/function/BiFunction;)I"⟩
def RL : String := "HomeGatewayLaw"
abbrev cL_load : ByteArray := method_3_code
def yL_load : MethodName := ⟨RL, "load", "(LHomeGateway;I[J)I"⟩
abbrev cL_state : ByteArray := method_4_code
def yL_state : MethodName := ⟨RL, "state", "(LHomeGateway;I[J)I"⟩
abbrev cL_weight : ByteArray := method_5_code
def yL_weight : MethodName := ⟨RL, "weight", "(LHomeGateway;I[J)I"⟩
abbrev cL_queueLength : ByteArray := method_6_code
def yL_queueLength : MethodName := ⟨RL, "queueLength", "(LHomeGateway;I[J)I"⟩
abbrev cL_backlog : ByteArray := method_7_code
def yL_backlog : MethodName := ⟨RL, "backlog", "(LHomeGateway;I[J)I"⟩
abbrev cL_virtualTime : ByteArray := method_8_code
def yL_virtualTime : MethodName := ⟨RL, "virtualTime", "(LHomeGateway;I[J)I"⟩
abbrev cL_delivered : ByteArray := method_9_code
def yL_delivered : MethodName := ⟨RL, "delivered", "(LHomeGateway;I[J)I"⟩
abbrev cL_longestDelay : ByteArray := method_10_code
def yL_longestDelay : MethodName := ⟨RL, "longestDelay", "(LHomeGateway;I[J)I"⟩
abbrev cL_isQuiet : ByteArray := method_11_code
def yL_isQuiet : MethodName := ⟨RL, "isQuiet", "(LHomeGateway;I[J)I"⟩
abbrev cL_verdict : ByteArray := method_12_code
def yL_verdict : MethodName := ⟨RL, "verdict", "(LHomeGateway;III[J)I"⟩
abbrev cL_matching : ByteArray := method_13_code
def yL_matching : MethodName := ⟨RL, "matching", "(LHomeGateway;III[J)I"⟩
abbrev cL_isUseless : ByteArray := method_14_code
def yL_isUseless : MethodName := ⟨RL, "isUseless", "(LHomeGateway;I[J)I"⟩
abbrev cL_openPorts : ByteArray := method_15_code
def yL_openPorts : MethodName := ⟨RL, "openPorts", "(LHomeGateway;II[J)I"⟩
abbrev cL_drainTime : ByteArray := method_16_code
def yL_drainTime : MethodName := ⟨RL, "drainTime", "(LHomeGateway;I[J)I"⟩
abbrev cL_arrive : ByteArray := method_17_code
def yL_arrive : MethodName := ⟨RL, "arrive", "(LHomeGateway;IIII[J)I"⟩
abbrev cL_tick : ByteArray := method_18_code
def yL_tick : MethodName := ⟨RL, "tick", "(LHomeGateway;I[J)I"⟩
abbrev cL_sleep : ByteArray := method_19_code
def yL_sleep : MethodName := ⟨RL, "sleep", "(LHomeGateway;I[J)I"⟩
abbrev cL_wake : ByteArray := method_20_code
def yL_wake : MethodName := ⟨RL, "wake", "(LHomeGateway;I[J)I"⟩
abbrev cL_setWeight : ByteArray := method_21_code
def yL_setWeight : MethodName := ⟨RL, "setWeight", "(LHomeGateway;II[J)I"⟩
abbrev cL_addRule : ByteArray := method_22_code
def yL_addRule : MethodName := ⟨RL, "addRule", "(LHomeGateway;ZIIII[J)I"⟩
abbrev cL_removeRule : ByteArray := method_23_code
def yL_removeRule : MethodName := ⟨RL, "removeRule", "(LHomeGateway;I[J)I"⟩
abbrev cL_moveRule : ByteArray := method_24_code
def yL_moveRule : MethodName := ⟨RL, "moveRule", "(LHomeGateway;II[J)I"⟩
abbrev cL_law : ByteArray := code
def yL_law : MethodName := ⟨RL, "law", "([I)Z"⟩
/-! ===== BEGIN a constructor that throws (launches without stack traces) ===== -/
section VXIA
variable {p : Program} {l : Launch} {e : Env} {R : Room} {s : State} {m : MethodId} {args : Array Value} {below : List Frame} {meth : Method} {c : Code} {T : State} {locs : List Loc} {cells slots : Nat}
theorem vx_callI (X : Stand p l e R s m args below meth c T locs cells slots) (hexec : p.tables.exec = Jvm.exec) {own : String} {index : Nat} {y : MethodName} {bytes : ByteArray} {maxL : Nat}
    (hown : s.vm.findClass own = some m.cls) (hy1 : y.name = "<init>") (hlink : (Cond.methodLink own index y).before args s = true) (hinst : (Cond.instanceMethod y).before args s = true)
    (hcode : (Cond.code y bytes maxL none).before args s = true) (hy : y.cls ≠ "java/lang/invoke/MethodHandle" ∧ y.cls ≠ "java/lang/invoke/VarHandle")
    {W9 : Nat} {Pre : Pt → Array Value → Prop} {Post : Pt → Array Value → Option Value → Pt → Prop} {PostX : Pt → Array Value → Addr → Pt → Prop} (hK : vx_Back l R p e below s args y 3 W9 Pre Post PostX)
    {g : JFrame} (hg : g.method = m) (hsize : g.locals.size = c.maxLocals) {a : Addr} {argsL rest : List Value} (hlen : ∀ sig, parseMethodDescriptor y.desc = some sig → argsL.length = sig.parameters.length)
    (hstack : g.stack = argsL.reverse ++ .ref a :: rest) (hW : 2 * g.monitorRoom + (rest.map fun v => v.category).sum ≤ W9) (hdg : decode c.code g.pc = .ok (.invokespecial index, 3))
    (hpre : ∀ vm₁, s.WarmedH vm₁ → Pre ⟨T.setVm vm₁, locs, cells, slots⟩ (Value.ref a :: argsL).toArray) :
    (∃ (v : Option Value) (vm₁ : Vm) (B : Pt), s.WarmedH vm₁ ∧ Stand p l e R s m args below meth c B.U B.locs B.cells B.slots ∧ Post ⟨T.setVm vm₁, locs, cells, slots⟩ (Value.ref a :: argsL).toArray v B ∧
      ∀ target, Steps p.tables e below (B.U.setTop { g with pc := g.pc + 3, stack := v.toList ++ rest }) target → Steps p.tables e below (T.setTop g) target) ∨
    (∃ (q : Addr) (vm₁ : Vm) (B : Pt), s.WarmedH vm₁ ∧ Stand p l e R s m args below meth c B.U B.locs B.cells B.slots ∧ PostX ⟨T.setVm vm₁, locs, cells, slots⟩ (Value.ref a :: argsL).toArray q B ∧
      Steps p.tables e below (T.setTop g) ((B.U.setTop { g with stack := rest }).pushFrame (.throwing q))) := by
  subst hg
  have hpl : e.platform.magicAccessors = ({} : Platform).magicAccessors := by rw [X.admits.platform]
  obtain ⟨mk, methM, cM, kP, vm₁, hnamed, hmethM, hcodeM, -, hlocalsM, -, hkP, -, hW₁, hstep₁⟩ := Steps.initColdArgs (e := e) X.here hexec X.warmed hpl hown hy1 hy hlink hinst hcode (f := g) rfl hlen hstack hdg
  have X₁ := X.noted hW₁
  rcases hK g.method meth c ⟨T.setVm vm₁, locs, cells, slots⟩ { g with stack := rest } (.invokespecial index) mk (Value.ref a :: argsL).toArray X₁ rfl hsize hdg hW (X₁.named hnamed) (hpre vm₁ X₁.warmed) with ⟨v, B, X', hpost, hsteps⟩ | ⟨q, B, X', hpost, hsteps⟩
  · exact Or.inl ⟨v, vm₁, B, X₁.warmed, X', hpost, fun target h => hstep₁ _ fun acts => by rw [doInvoke_state]; exact hsteps.trans h⟩
  · exact Or.inr ⟨q, vm₁, B, X₁.warmed, X', hpost, hstep₁ _ fun acts => by rw [doInvoke_state]; exact hsteps⟩
end VXIA
section VXIB
variable {p : Program} {l : Launch} {e : Env} {R : Room} {s : State} {m : MethodId} {args : Array Value} {below : List Frame} {meth : Method} {c : Code} {H : Heap} {locs : List Loc} {cells slots : Nat}
variable {y : MethodName} {bytes cc : ByteArray} {maxL nL mc ms n index : Nat} {ret : Option FieldType} {ws : List Cond} {rm : Room} {Pc : Array Value → State → Prop} {Qc : Array Value → State → Outcome → State → Prop} {XC : String → State → State → Prop} {free : Addr → Prop} {Ts : List Cond} {own C : String} {b : Addr} {As rest : List Value} {g : JFrame}
theorem vx_runI (S : CallFix p m c cc nL s args Ts own) (hM : vx_Met l y ws rm Pc Qc XC mc ms free) (cw : CallB R s args own index y bytes maxL none ws rm mc ms n ∧ y.name = "<init>" ∧ (Cond.instanceMethod y).before args s = true) (hp : PreS s H Pc (.ref b :: As))
    (hg : g.method = m) (hn : As.length = n) (hsize : g.locals.size = nL) (hstack : g.stack = As.reverse ++ .ref b :: rest) (hW : 2 * g.monitorRoom + (rest.map fun v => v.category).sum ≤ 8) (hdg : decode cc g.pc = .ok (.invokespecial index, 3)) (hf : cells + mc ≤ R.cells ∧ slots + ms ≤ R.slots) :
    vx_Run p l e R s m args below meth c H locs cells slots mc ms g rest (Qc (Value.ref b :: As).toArray) XC free := by
  have hK : vx_Back l R p e below s args y 3 8 (PreOf R mc ms Pc) (PostOf Qc mc ms free) (vx_Post XC mc ms free) := vx_callBack cw.1 hM hp.1
  obtain ⟨⟨-, -, -, -, -, -, hcode, -, hy, hlen, hl⟩, hy1, hin⟩ := cw
  obtain ⟨hx, hb, hml, ho, -⟩ := S
  have hPc := hp.2
  intro T hT X
  rcases vx_callI X hx (bytes := bytes) (maxL := maxL) ho hy1 hl hin hcode hy hK hg (hsize.trans hml.symm) (a := b) (argsL := As) (rest := rest) (fun sig h => hn.trans (hlen sig h)) hstack hW (by rw [hb]; exact hdg)
    (fun vm₁ hW₁ => ⟨hf.1, hf.2, hPc (T.setVm vm₁) hT hW₁⟩) with ⟨v, vm₁, ⟨U', l2, c2, s2⟩, hW₁, X', ⟨g', mk, t, L, e1, e2, hq, h1, hL, h2, h3⟩, st⟩ | ⟨q, vm₁, ⟨U', l2, c2, s2⟩, hW₁, X', ⟨g', mk, t, L, E, ce, e1, e2, hq, hce, hcv, hcl, h1, hL, h2, h3⟩, st⟩
  · dsimp only [Pt.U, Pt.locs, Pt.cells, Pt.slots] at X' e1 e2 h1 h2 h3 st
    subst h1; subst h2; subst h3
    exact Or.inl ⟨v, (T.setVm vm₁).calling g' mk (Value.ref b :: As).toArray, t, U', L, hT, X', hL, e1, e2, hq, st⟩
  · dsimp only [Pt.U, Pt.locs, Pt.cells, Pt.slots] at X' e1 e2 h1 h2 h3 st hcl
    subst h1; subst h2; subst h3
    exact Or.inr ⟨q, (T.setVm vm₁).calling g' mk (Value.ref b :: As).toArray, t, U', L, E, ce, hT, X', hL, e1, e2, hq, hce, hcv, vx_cls hW₁ hcl, st⟩
end VXIB
/-! ===== END ===== -/
abbrev vwCl : List vw_C := [(RX0, TX0, 15), (RX1, TX1, 16), (RX2, TX2, 3), (RX3, TX3, 4), (RX4, TX4, 5), (RX5, TX5, 2), (RX6, TX6, 11), (RX7, TX7, 7), (RX8, TX8, 18)]
end
section
/-- the texts that are looked into, their bytes -/
def hgStr : List (List Nat) := [[104, 111, 109, 101], [103, 117, 101, 115, 116], [105, 111, 116], [110, 101, 116], [97, 110, 121], [103, 97, 116, 101, 119, 97, 121], [100, 101, 118, 105, 99, 101], [97, 108, 108, 111, 119], [100, 101, 110, 121], [119, 97, 107, 101], [113, 117, 105, 101, 116], [108, 105, 109, 105, 116]]
/-! THE ABSTRACT MACHINE: rows of a method over a memory of numbered cells; calls by number, fuel for jumps and calls. A row: the instruction, its length, numbers that a program has looked up, handlers or a switch's targets. -/
abbrev hgRow : Type := Instr × Nat × List Nat × List (Nat × Nat × Nat)
abbrev hgL : Type := List (Option Value)
abbrev hgMem : Type := Nat × (Nat → Nat → Int32) × (Nat → Nat → Int64) × (Nat → Nat → Option Nat)
abbrev hgOut : Type := (Value ⊕ Nat) × hgMem
abbrev hgX : Type := Nat × (Nat → Int32)
abbrev hgK : Type := Nat × Nat
def hgI (M : hgMem) : Nat → Nat → Int32 := M.2.1
def hgJ (M : hgMem) : Nat → Nat → Int64 := M.2.2.1
def hgR (M : hgMem) : Nat → Nat → Option Nat := M.2.2.2
def hgU {α : Type} (f : Nat → Nat → α) (a k : Nat) (x : α) : Nat → Nat → α := fun b j => if b = a then (if j = k then x else f b j) else f b j
def hgSI (M : hgMem) (a k : Nat) (x : Int32) : hgMem := (M.1, hgU M.2.1 a k x, M.2.2.1, M.2.2.2)
def hgSJ (M : hgMem) (a k : Nat) (x : Int64) : hgMem := (M.1, M.2.1, hgU M.2.2.1 a k x, M.2.2.2)
def hgSR (M : hgMem) (a k : Nat) (x : Nat) : hgMem := (M.1, M.2.1, M.2.2.1, hgU M.2.2.2 a k (some x))
def hgZ {α : Type} (f : Nat → Nat → α) (a : Nat) (z : α) : Nat → Nat → α := fun b j => if b = a then z else f b j
def hgNew (M : hgMem) : hgMem := (M.1 + 1, hgZ M.2.1 M.1 0, hgZ M.2.2.1 M.1 0, hgZ M.2.2.2 M.1 none)
/-- n cells of one kind, one behind the other -/
def hgNews : Nat → hgMem → hgMem
  | 0, M => M
  | n + 1, M => hgNews n (hgNew M)
/-- the places of an array of arrays: its rows lie right behind it -/
def hgGrid (a : Nat) : Nat → hgMem → hgMem
  | 0, M => M
  | n + 1, M => hgSR (hgGrid a n M) a n (a + 1 + n)
/-- what a cell is: below 20 an object of that class with so many fields; 20 int[], 21 long[], 22 byte[], 23 boolean[], 24 Device[], 25 Rule[], 26 Gateway[], 27 int[][], 28 long[][], of that length -/
def hgGsh (j : Nat) : Nat × Nat := if j = 0 then (1, 16) else if j = 1 then (24, 10) else if j < 12 then (0, 15) else if j = 12 then (5, 2) else if j = 13 then (25, 12) else if j < 26 then (4, 5) else if j = 26 then (20, 8) else (20, 3)
def hgSh (a : Nat) : Nat × Nat :=
  if a = 0 then (7, 7) else if a = 1 then (3, 4) else if a < 5 then (20, 512) else if a = 5 then (22, 900) else if a < 64 then hgGsh ((a - 6) % 29) else if a = 64 then (2, 3) else if a = 65 then (26, 8) else if a < 298 then hgGsh ((a - 66) % 29) else if a = 298 then (6, 11) else if a = 299 then (23, 3) else
  if a = 300 then (8, 18) else if a = 301 then (20, 900) else if a < 305 then (20, 20187) else if a = 305 then (27, 8) else if a < 314 then (20, 20187) else if a < 316 then (21, 10) else if a = 316 then (28, 8) else if a < 325 then (21, 10) else if a = 325 then (21, 1) else (99, 0)
/-- an index that lies in an array of n places -/
def hgIn (i : Int32) (n : Nat) : Bool := decide (0 ≤ i.toInt) && decide (i.toInt < (n : Int))
def hgG : hgL → Nat → Option Value
  | [], _ => none
  | v :: _, 0 => v
  | _ :: L, n + 1 => hgG L n
def hgPut : hgL → Nat → Option Value → hgL
  | [], _, _ => []
  | _ :: L, 0, v => v :: L
  | w :: L, n + 1, v => w :: hgPut L n v
def hgWide (v : Option Value) : Bool := match v with
  | some (.long _) => true
  | some (.double _) => true
  | _ => false
/-- a value of one word goes to place i: one of two words that began ahead of it is gone -/
def hgS1 (L : hgL) (i : Nat) (v : Option Value) : hgL := match i with
  | 0 => hgPut L 0 v
  | j + 1 => if hgWide (hgG L j) = true then hgPut (hgPut L j none) (j + 1) v else hgPut L (j + 1) v
def hgS2 (L : hgL) (i : Nat) (v : Option Value) : hgL := hgPut (hgS1 L i v) (i + 1) none
def hgMask : List Bool → hgL → hgL
  | true :: b, v :: L => v :: hgMask b L
  | false :: b, _ :: L => none :: hgMask b L
  | [], L => L
  | _, [] => []
def hgEnt : List Value → hgL
  | [] => []
  | .long x :: r => some (.long x) :: none :: hgEnt r
  | .double x :: r => some (.double x) :: none :: hgEnt r
  | v :: r => some v :: hgEnt r
def hgPad (n : Nat) (L : hgL) : hgL := match n with
  | 0 => L
  | n + 1 => match L with
    | [] => none :: hgPad n []
    | v :: L => v :: hgPad n L
def hgTake : Nat → List Value → List Value → Option (List Value × List Value)
  | 0, acc, S => some (acc, S)
  | n + 1, acc, v :: S => hgTake n (v :: acc) S
  | _ + 1, _, [] => none
def hgHd (E : Nat) : List (Nat × Nat × Nat) → Option (Nat × Nat)
  | [] => none
  | (e, t, loc) :: r => if e = E then some (t, loc) else hgHd E r
section HGST
variable (X : hgX) (rm : hgK) (call : Nat → List Value → hgMem → Option hgOut) (jump : Nat → hgL → List Value → hgK → hgMem → Option hgOut)
def hgi1 (S : List Value) (f : Int32 → List Value → Option hgOut) : Option hgOut := match S with
  | .int x :: r => f x r
  | _ => none
def hgi2 (S : List Value) (f : Int32 → Int32 → List Value → Option hgOut) : Option hgOut := match S with
  | .int y :: .int x :: r => f x y r
  | _ => none
def hgj2 (S : List Value) (f : Int64 → Int64 → List Value → Option hgOut) : Option hgOut := match S with
  | .long y :: .long x :: r => f x y r
  | _ => none
def hgf1 (S : List Value) (f : UInt32 → List Value → Option hgOut) : Option hgOut := match S with
  | .float x :: r => f x r
  | _ => none
def hgf2 (S : List Value) (f : UInt32 → UInt32 → List Value → Option hgOut) : Option hgOut := match S with
  | .float y :: .float x :: r => f x y r
  | _ => none
def hgr1 (S : List Value) (f : Nat → List Value → Option hgOut) : Option hgOut := match S with
  | .ref a :: r => f a r
  | _ => none
def hgr2 (S : List Value) (f : Nat → Int32 → List Value → Option hgOut) : Option hgOut := match S with
  | .int i :: .ref a :: r => f a i r
  | _ => none
def hgld (L : hgL) (n : Nat) (t : Nat) (f : Value → Option hgOut) : Option hgOut := match t, hgG L n with
  | 0, some (.int x) => f (.int x)
  | 1, some (.long x) => f (.long x)
  | 2, some (.float x) => f (.float x)
  | 3, some (.ref x) => f (.ref x)
  | _, _ => none
def hgst (S : List Value) (t : Nat) (f : Value → List Value → Option hgOut) : Option hgOut := match t, S with
  | 0, .int x :: r => f (.int x) r
  | 1, .long x :: r => f (.long x) r
  | 2, .float x :: r => f (.float x) r
  | 3, .ref x :: r => f (.ref x) r
  | _, _ => none
def hgdup (S : List Value) (f : Value → List Value → Option hgOut) : Option hgOut := match S with
  | .int x :: r => f (.int x) r
  | .float x :: r => f (.float x) r
  | .ref x :: r => f (.ref x) r
  | _ => none
/-- getfield of kind kd (0 int, 1 long, 2 reference, 3 boolean) -/
def hgget (M : hgMem) (a ci k kd : Nat) (f : Value → Option hgOut) : Option hgOut :=
  if a < M.1 ∧ (hgSh a).1 = ci then
    match kd with
    | 1 => f (.long (hgJ M a k))
    | 2 => match hgR M a k with
      | some r => f (.ref r)
      | none => none
    | _ => f (.int (hgI M a k))
  else none
def hgput (M : hgMem) (S : List Value) (ci k kd : Nat) (f : List Value → hgMem → Option hgOut) : Option hgOut := match kd, S with
  | 0, .int x :: .ref a :: r => if a < M.1 ∧ (hgSh a).1 = ci then f r (hgSI M a k x) else none
  | 1, .long x :: .ref a :: r => if a < M.1 ∧ (hgSh a).1 = ci then f r (hgSJ M a k x) else none
  | 2, .ref x :: .ref a :: r => if a < M.1 ∧ x < M.1 ∧ (hgSh a).1 = ci then f r (hgSR M a k x) else none
  | 3, .int x :: .ref a :: r => if a < M.1 ∧ (hgSh a).1 = ci ∧ (x = 0 ∨ x = 1) then f r (hgSI M a k x) else none
  | _, _ => none
def hgPrim (p : Nat) (S : List Value) (M : hgMem) (f : List Value → Option hgOut) : Option hgOut := match p, S with
  | 1000, .int y :: .int x :: r => f (.int (if x < y then y else x) :: r)
  | 1001, .int y :: .int x :: r => f (.int (if y < x then y else x) :: r)
  | 1002, .long y :: .long x :: r => f (.long (if y < x then x else y) :: r)
  | 1003, .ref a :: r => if 1000 ≤ a ∧ a < 1000 + hgStr.length then f (.int (nI (hgStr.getD (a - 1000) []).length) :: r) else none
  | 1004, .int i :: .ref a :: r => if 1000 ≤ a ∧ a < 1000 + hgStr.length ∧ hgIn i (hgStr.getD (a - 1000) []).length = true then f (.int (nI ((hgStr.getD (a - 1000) []).getD i.toNatClampNeg 0)) :: r) else none
  | 1005, .ref a :: r => if a < M.1 then f r else none
  | _, _ => none
/-- an answer goes on the stack, if there is one -/
def hgPush (x : Value) (r : List Value) : List Value := match x with
  | .null => r
  | x => x :: r
/-- the receiver is an object of class ci (99: none is wanted) -/
def hgRecv (ci N : Nat) (as : List Value) : Bool := match as with
  | .ref a :: _ => decide (ci = 99) || (decide (a < N) && decide ((hgSh a).1 = ci))
  | _ => decide (ci = 99)
def hgcall (ps : List Nat) (hs : List (Nat × Nat × Nat)) (L : hgL) (S : List Value) (K : hgK) (M : hgMem) (k : hgL → List Value → hgK → hgMem → Option hgOut) : Option hgOut := match ps with
  | [p, n, _, _, mc, ms, ci] =>
    if 1000 ≤ p then hgPrim p S M (fun r => if r.length ≤ 5 then k L r K M else none) else
    match hgTake n [] S with
    | none => none
    | some (as, r) =>
      if r.length ≤ 4 ∧ K.1 + mc ≤ rm.1 ∧ K.2 + ms ≤ rm.2 ∧ hgRecv ci M.1 as = true then
        match call p as M with
        | none => none
        | some (.inl x, M1) => k L (hgPush x r) (K.1 + mc, K.2 + ms) M1
        | some (.inr E, M1) => match hs with
          | [] => some (.inr E, M1)
          | _ => match hgHd E hs with
            | none => none
            | some (t, loc) => jump t (hgS1 L loc none) [] (K.1 + mc, K.2 + ms) M1
      else none
  | _ => none
/-- one row, then k -/
def hgStep (i : Instr) (ps : List Nat) (hs : List (Nat × Nat × Nat)) (L : hgL) (S : List Value) (K : hgK) (M : hgMem) (k : hgL → List Value → hgK → hgMem → Option hgOut) : Option hgOut := match i with
  | .iconst n => k L (.int (Int32.ofInt n) :: S) K M
  | .bipush n => k L (.int (Int8.ofInt n).toInt32 :: S) K M
  | .sipush n => k L (.int (Int16.ofInt n).toInt32 :: S) K M
  | .lconst n => k L (.long (Int64.ofNat n.val) :: S) K M
  | .fconst n => if n.val = 0 then k L (.float FP.fconst0 :: S) K M else if n.val = 1 then k L (.float FP.fconst1 :: S) K M else none
  | .iload n => hgld L n 0 fun v => k L (v :: S) K M
  | .iload_n n => hgld L n.val 0 fun v => k L (v :: S) K M
  | .lload n => hgld L n 1 fun v => k L (v :: S) K M
  | .lload_n n => hgld L n.val 1 fun v => k L (v :: S) K M
  | .fload n => hgld L n 2 fun v => k L (v :: S) K M
  | .fload_n n => hgld L n.val 2 fun v => k L (v :: S) K M
  | .aload n => hgld L n 3 fun v => k L (v :: S) K M
  | .aload_n n => hgld L n.val 3 fun v => k L (v :: S) K M
  | .istore n => hgst S 0 fun v r => k (hgS1 L n (some v)) r K M
  | .istore_n n => hgst S 0 fun v r => k (hgS1 L n.val (some v)) r K M
  | .lstore n => hgst S 1 fun v r => k (hgS2 L n (some v)) r K M
  | .lstore_n n => hgst S 1 fun v r => k (hgS2 L n.val (some v)) r K M
  | .fstore n => hgst S 2 fun v r => k (hgS1 L n (some v)) r K M
  | .fstore_n n => hgst S 2 fun v r => k (hgS1 L n.val (some v)) r K M
  | .astore n => hgst S 3 fun v r => k (hgS1 L n (some v)) r K M
  | .astore_n n => hgst S 3 fun v r => k (hgS1 L n.val (some v)) r K M
  | .iinc n d => match hgG L n with
    | some (.int x) => k (hgPut L n (some (.int (x + Int32.ofInt d)))) S K M
    | _ => none
  | .iadd => hgi2 S fun x y r => k L (.int (x + y) :: r) K M
  | .isub => hgi2 S fun x y r => k L (.int (x - y) :: r) K M
  | .imul => hgi2 S fun x y r => k L (.int (x * y) :: r) K M
  | .iand => hgi2 S fun x y r => k L (.int (x &&& y) :: r) K M
  | .ior => hgi2 S fun x y r => k L (.int (x ||| y) :: r) K M
  | .idiv => hgi2 S fun x y r => if y = 0 then none else k L (.int (x / y) :: r) K M
  | .irem => hgi2 S fun x y r => if y = 0 then none else k L (.int (x - x / y * y) :: r) K M
  | .ishl => hgi2 S fun x y r => k L (.int (x <<< (y &&& 31)) :: r) K M
  | .ishr => hgi2 S fun x y r => k L (.int (x >>> (y &&& 31)) :: r) K M
  | .iushr => hgi2 S fun x y r => k L (.int (x.toUInt32 >>> (y.toUInt32 &&& Int32.toUInt32 31)).toInt32 :: r) K M
  | .i2l => hgi1 S fun x r => k L (.long x.toInt64 :: r) K M
  | .i2b => hgi1 S fun x r => k L (.int x.toInt8.toInt32 :: r) K M
  | .i2f => hgi1 S fun x r => k L (.float (FP.i2f x) :: r) K M
  | .f2i => hgf1 S fun x r => k L (.int (FP.f2i x) :: r) K M
  | .ladd => hgj2 S fun x y r => k L (.long (x + y) :: r) K M
  | .lmul => hgj2 S fun x y r => k L (.long (x * y) :: r) K M
  | .lcmp => hgj2 S fun x y r => k L (.int (lg_cmp x y) :: r) K M
  | .fadd => hgf2 S fun x y r => if (FP.fadd x y) &&& 0x7fffffff ≤ 0x7f800000 then k L (.float (FP.fadd x y) :: r) K M else none
  | .fmul => hgf2 S fun x y r => if (FP.fmul x y) &&& 0x7fffffff ≤ 0x7f800000 then k L (.float (FP.fmul x y) :: r) K M else none
  | .fdiv => hgf2 S fun x y r => if (FP.fdiv x y) &&& 0x7fffffff ≤ 0x7f800000 then k L (.float (FP.fdiv x y) :: r) K M else none
  | .fcmp op => hgf2 S fun x y r => k L (.int (Op.cmpValue (FP.fcmp x y) op) :: r) K M
  | .dup => hgdup S fun v r => k L (v :: v :: r) K M
  | .pop => hgdup S fun _ r => k L r K M
  | .dup2 => hgr2 S fun a i r => k L (.int i :: .ref a :: .int i :: .ref a :: r) K M
  | .goto _ => match ps with
    | [t] => jump t L S K M
    | _ => none
  | .ifCond c _ => match ps with
    | [t] => hgi1 S fun x r => match c with
      | .eq => if x = 0 then jump t L r K M else k L r K M
      | .ne => if x = 0 then k L r K M else jump t L r K M
      | .lt => if x < 0 then jump t L r K M else k L r K M
      | .ge => if 0 ≤ x then jump t L r K M else k L r K M
      | .gt => if 0 < x then jump t L r K M else k L r K M
      | .le => if x ≤ 0 then jump t L r K M else k L r K M
    | _ => none
  | .if_icmp c _ => match ps with
    | [t] => hgi2 S fun x y r => match c with
      | .eq => if x = y then jump t L r K M else k L r K M
      | .ne => if x = y then k L r K M else jump t L r K M
      | .lt => if x < y then jump t L r K M else k L r K M
      | .ge => if y ≤ x then jump t L r K M else k L r K M
      | .gt => if y < x then jump t L r K M else k L r K M
      | .le => if x ≤ y then jump t L r K M else k L r K M
    | _ => none
  | .tableswitch _ _ _ _ => match ps with
    | [d] => hgi1 S fun x r => if hgIn x hs.length = true then jump (hs.getD x.toNatClampNeg (0, 0, 0)).1 L r K M else jump d L r K M
    | _ => none
  | .ldc _ => match ps with
    | [0, _, v] => k L (.int (nI v) :: S) K M
    | [1, _, v] => k L (.float (UInt32.ofNat v) :: S) K M
    | [2, _, v] => k L (.ref v :: S) K M
    | _ => none
  | .ldc_w _ => match ps with
    | [0, _, v] => k L (.int (nI v) :: S) K M
    | _ => none
  | .ldc2_w _ => match ps with
    | [0, _, v] => k L (.long (lN v) :: S) K M
    | [1, _, v] => k L (.long (-lN v) :: S) K M
    | _ => none
  | .getfield _ => match ps with
    | [ci, f, kd, _] => hgr1 S fun a r => hgget M a ci f kd fun v => k L (v :: r) K M
    | _ => none
  | .putfield _ => match ps with
    | [ci, f, kd, _, _] => hgput M S ci f kd fun r M1 => k L r K M1
    | _ => none
  | .iaload => hgr2 S fun a i r => if a = 2000 then (if hgIn i X.1 = true then k L (.int (X.2 i.toNatClampNeg) :: r) K M else none) else if a < M.1 ∧ (hgSh a).1 = 20 ∧ hgIn i (hgSh a).2 = true then k L (.int (hgI M a i.toNatClampNeg) :: r) K M else none
  | .baload => hgr2 S fun a i r => if a < M.1 ∧ ((hgSh a).1 = 22 ∨ (hgSh a).1 = 23) ∧ hgIn i (hgSh a).2 = true then k L (.int (hgI M a i.toNatClampNeg) :: r) K M else none
  | .laload => hgr2 S fun a i r => if a < M.1 ∧ (hgSh a).1 = 21 ∧ hgIn i (hgSh a).2 = true then k L (.long (hgJ M a i.toNatClampNeg) :: r) K M else none
  | .aaload => hgr2 S fun a i r => if a < M.1 ∧ 24 ≤ (hgSh a).1 ∧ (hgSh a).1 ≤ 28 ∧ hgIn i (hgSh a).2 = true then (match hgR M a i.toNatClampNeg with
      | some q => k L (.ref q :: r) K M
      | none => none) else none
  | .iastore => match S with
    | .int x :: .int i :: .ref a :: r => if a < M.1 ∧ (hgSh a).1 = 20 ∧ hgIn i (hgSh a).2 = true then k L r K (hgSI M a i.toNatClampNeg x) else none
    | _ => none
  | .bastore => match S with
    | .int x :: .int i :: .ref a :: r => if a < M.1 ∧ (hgSh a).1 = 22 ∧ hgIn i (hgSh a).2 = true then k L r K (hgSI M a i.toNatClampNeg (vp_nar .byte x)) else if a < M.1 ∧ (hgSh a).1 = 23 ∧ hgIn i (hgSh a).2 = true then k L r K (hgSI M a i.toNatClampNeg (vp_nar .boolean x)) else none
    | _ => none
  | .lastore => match S with
    | .long x :: .int i :: .ref a :: r => if a < M.1 ∧ (hgSh a).1 = 21 ∧ hgIn i (hgSh a).2 = true then k L r K (hgSJ M a i.toNatClampNeg x) else none
    | _ => none
  | .aastore => match S with
    | .ref q :: .int i :: .ref a :: r => if a < M.1 ∧ q < M.1 ∧ 24 ≤ (hgSh a).1 ∧ (hgSh a).1 ≤ 26 ∧ (hgSh q).1 = [0, 4, 1].getD ((hgSh a).1 - 24) 99 ∧ hgIn i (hgSh a).2 = true then k L r K (hgSR M a i.toNatClampNeg q) else none
    | _ => none
  | .arraylength => hgr1 S fun a r => if a = 2000 then k L (.int (nI X.1) :: r) K M else if a < M.1 ∧ 20 ≤ (hgSh a).1 ∧ (hgSh a).1 ≤ 23 then k L (.int (nI (hgSh a).2) :: r) K M else none
  | .new _ => match ps with
    | [1, ci, n, _] => if hgSh M.1 = (ci, n) ∧ K.1 + 1 ≤ rm.1 ∧ K.2 + n ≤ rm.2 then k L (.ref M.1 :: S) (K.1 + 1, K.2 + n) (hgNew M) else none
    | [2, E, _, _, _, _] => if S.length ≤ 4 ∧ K.1 + 1 ≤ rm.1 ∧ K.2 + 6 ≤ rm.2 then some (.inr E, M) else none
    | _ => none
  | .newarray _ => match ps with
    | [kd] => hgi1 S fun x r => if hgSh M.1 = (kd, x.toNatClampNeg) ∧ ¬ x < 0 ∧ K.1 + 1 ≤ rm.1 ∧ K.2 + x.toNatClampNeg ≤ rm.2 then k L (.ref M.1 :: r) (K.1 + 1, K.2 + x.toNatClampNeg) (hgNew M) else none
    | _ => none
  | .anewarray _ => match ps with
    | [kd, _] => hgi1 S fun x r => if hgSh M.1 = (kd, x.toNatClampNeg) ∧ ¬ x < 0 ∧ K.1 + 1 ≤ rm.1 ∧ K.2 + x.toNatClampNeg ≤ rm.2 then k L (.ref M.1 :: r) (K.1 + 1, K.2 + x.toNatClampNeg) (hgNew M) else none
    | _ => none
  | .multianewarray _ _ => match ps with
    | [kd, kr, n, w, _] => match S with
      | .int y :: .int x :: r => if x = nI n ∧ y = nI w ∧ hgSh M.1 = (kd, n) ∧ (List.range n).all (fun j => decide (hgSh (M.1 + 1 + j) = (kr, w))) = true ∧ K.1 + (1 + n) ≤ rm.1 ∧ K.2 + (n + n * w) ≤ rm.2 then k L (.ref M.1 :: r) (K.1 + (1 + n), K.2 + (n + n * w)) (hgGrid M.1 n (hgNews (1 + n) M)) else none
      | _ => none
    | _ => none
  | .invokevirtual _ => hgcall rm call jump ps hs L S K M k
  | .invokestatic _ => hgcall rm call jump ps hs L S K M k
  | .invokespecial _ => hgcall rm call jump ps hs L S K M k
  | .ireturn => match ps, S with
    | [3], [.int x] => if x = 0 ∨ x = 1 then some (.inl (.int x), M) else none
    | [1], [.int x] => some (.inl (.int x), M)
    | _, _ => none
  | .lreturn => match S with
    | [.long x] => some (.inl (.long x), M)
    | _ => none
  | .return_ => match S with
    | [] => some (.inl .null, M)
    | _ => none
  | _ => none
def hgEx : List hgRow → hgL → List Value → hgK → hgMem → Option hgOut
  | [], _, _, _, _ => none
  | (i, _, ps, hs) :: rs, L, S, K, M => hgStep X rm call jump i ps hs L S K M (fun L S K M => hgEx rs L S K M)
end HGST
end
section
/- HomeGateway$Device.<init>()V -/
def hgr0_0 : List hgRow := (.aload_n 0, 1, [], []) :: (.invokespecial 3, 3, [1005, 1, 1, 61, 0, 0, 99], []) :: (.aload_n 0, 1, [], []) :: (.iconst 1, 1, [], []) :: (.putfield 9, 3, [0, 1, 0, 64, 0], []) :: (.aload_n 0, 1, [], []) :: (.iconst (-1), 1, [], []) :: (.putfield 15, 3, [0, 9, 0, 81, 0], []) :: (.return_, 1, [], []) :: []
def hgb0 : List (Nat × List Bool × List hgRow) := [(0, [true], hgr0_0)]
/- HomeGateway$Device.setUp(IIII)V -/
def hgr1_0 : List hgRow := (.aload_n 0, 1, [], []) :: (.iload_n 1, 1, [], []) :: (.putfield 18, 3, [0, 0, 0, 62, 0], []) :: (.aload_n 0, 1, [], []) :: (.iload_n 2, 1, [], []) :: (.putfield 9, 3, [0, 1, 0, 64, 0], []) :: (.aload_n 0, 1, [], []) :: (.iload_n 3, 1, [], []) :: (.putfield 21, 3, [0, 2, 0, 67, 0], []) :: (.aload_n 0, 1, [], []) :: (.iload 4, 2, [], []) :: (.putfield 24, 3, [0, 3, 0, 69, 0], []) :: (.aload_n 0, 1, [], []) :: (.iconst 0, 1, [], []) :: (.putfield 27, 3, [0, 4, 0, 70, 0], []) :: (.aload_n 0, 1, [], []) :: (.iconst 0, 1, [], []) :: (.putfield 30, 3, [0, 5, 0, 73, 0], []) :: (.aload_n 0, 1, [], []) :: (.iconst 0, 1, [], []) :: (.putfield 33, 3, [0, 6, 0, 74, 0], []) :: (.aload_n 0, 1, [], []) :: (.lconst 0, 1, [], []) :: (.putfield 36, 3, [0, 7, 1, 75, 0], []) :: (.aload_n 0, 1, [], []) :: (.iconst 0, 1, [], []) :: (.putfield 40, 3, [0, 8, 0, 78, 0], []) :: (.aload_n 0, 1, [], []) :: (.iconst (-1), 1, [], []) :: (.putfield 15, 3, [0, 9, 0, 81, 0], []) :: (.aload_n 0, 1, [], []) :: (.iconst (-1), 1, [], []) :: (.putfield 43, 3, [0, 10, 0, 83, 0], []) :: (.aload_n 0, 1, [], []) :: (.iconst (-1), 1, [], []) :: (.putfield 46, 3, [0, 11, 0, 85, 0], []) :: (.aload_n 0, 1, [], []) :: (.iconst 0, 1, [], []) :: (.putfield 49, 3, [0, 12, 0, 86, 0], []) :: (.aload_n 0, 1, [], []) :: (.iconst 0, 1, [], []) :: (.putfield 52, 3, [0, 13, 0, 89, 0], []) :: (.aload_n 0, 1, [], []) :: (.iconst 0, 1, [], []) :: (.putfield 55, 3, [0, 14, 3, 92, 0], []) :: (.return_, 1, [], []) :: []
def hgb1 : List (Nat × List Bool × List hgRow) := [(0, [true, true, true, true, true], hgr1_0)]
/- HomeGateway$Device.copyFrom(LHomeGateway$Device;)V -/
def hgr2_0 : List hgRow := (.aload_n 0, 1, [], []) :: (.aload_n 1, 1, [], []) :: (.getfield 18, 3, [0, 0, 0, 62], []) :: (.putfield 18, 3, [0, 0, 0, 62, 0], []) :: (.aload_n 0, 1, [], []) :: (.aload_n 1, 1, [], []) :: (.getfield 9, 3, [0, 1, 0, 64], []) :: (.putfield 9, 3, [0, 1, 0, 64, 0], []) :: (.aload_n 0, 1, [], []) :: (.aload_n 1, 1, [], []) :: (.getfield 21, 3, [0, 2, 0, 67], []) :: (.putfield 21, 3, [0, 2, 0, 67, 0], []) :: (.aload_n 0, 1, [], []) :: (.aload_n 1, 1, [], []) :: (.getfield 24, 3, [0, 3, 0, 69], []) :: (.putfield 24, 3, [0, 3, 0, 69, 0], []) :: (.aload_n 0, 1, [], []) :: (.aload_n 1, 1, [], []) :: (.getfield 27, 3, [0, 4, 0, 70], []) :: (.putfield 27, 3, [0, 4, 0, 70, 0], []) :: (.aload_n 0, 1, [], []) :: (.aload_n 1, 1, [], []) :: (.getfield 30, 3, [0, 5, 0, 73], []) :: (.putfield 30, 3, [0, 5, 0, 73, 0], []) :: (.aload_n 0, 1, [], []) :: (.aload_n 1, 1, [], []) :: (.getfield 33, 3, [0, 6, 0, 74], []) :: (.putfield 33, 3, [0, 6, 0, 74, 0], []) :: (.aload_n 0, 1, [], []) :: (.aload_n 1, 1, [], []) :: (.getfield 36, 3, [0, 7, 1, 75], []) :: (.putfield 36, 3, [0, 7, 1, 75, 0], []) :: (.aload_n 0, 1, [], []) :: (.aload_n 1, 1, [], []) :: (.getfield 40, 3, [0, 8, 0, 78], []) :: (.putfield 40, 3, [0, 8, 0, 78, 0], []) :: (.aload_n 0, 1, [], []) :: (.aload_n 1, 1, [], []) :: (.getfield 15, 3, [0, 9, 0, 81], []) :: (.putfield 15, 3, [0, 9, 0, 81, 0], []) :: (.aload_n 0, 1, [], []) :: (.aload_n 1, 1, [], []) :: (.getfield 43, 3, [0, 10, 0, 83], []) :: (.putfield 43, 3, [0, 10, 0, 83, 0], []) :: (.aload_n 0, 1, [], []) :: (.aload_n 1, 1, [], []) :: (.getfield 46, 3, [0, 11, 0, 85], []) :: (.putfield 46, 3, [0, 11, 0, 85, 0], []) :: (.aload_n 0, 1, [], []) :: (.aload_n 1, 1, [], []) :: (.getfield 49, 3, [0, 12, 0, 86], []) :: (.putfield 49, 3, [0, 12, 0, 86, 0], []) :: (.aload_n 0, 1, [], []) :: (.aload_n 1, 1, [], []) :: (.getfield 52, 3, [0, 13, 0, 89], []) :: (.putfield 52, 3, [0, 13, 0, 89, 0], []) :: (.aload_n 0, 1, [], []) :: (.aload_n 1, 1, [], []) :: (.getfield 55, 3, [0, 14, 3, 92], []) :: (.putfield 55, 3, [0, 14, 3, 92, 0], []) :: (.return_, 1, [], []) :: []
def hgb2 : List (Nat × List Bool × List hgRow) := [(0, [true, true], hgr2_0)]
/- HomeGateway$Device.startWaking()V -/
def hgr3_0 : List hgRow := (.aload_n 0, 1, [], []) :: (.iconst 1, 1, [], []) :: (.putfield 27, 3, [0, 4, 0, 70, 0], []) :: (.aload_n 0, 1, [], []) :: (.aload_n 0, 1, [], []) :: (.getfield 21, 3, [0, 2, 0, 67], []) :: (.putfield 30, 3, [0, 5, 0, 73, 0], []) :: (.return_, 1, [], []) :: []
def hgb3 : List (Nat × List Bool × List hgRow) := [(0, [true], hgr3_0)]
/- HomeGateway$Device.beginTick()V -/
def hgr4_44 : List hgRow := (.return_, 1, [], []) :: []
def hgr4_34 : List hgRow := (.aload_n 0, 1, [], []) :: (.dup, 1, [], []) :: (.getfield 30, 3, [0, 5, 0, 73], []) :: (.iconst 1, 1, [], []) :: (.isub, 1, [], []) :: (.putfield 30, 3, [0, 5, 0, 73, 0], []) :: hgr4_44
def hgr4_14 : List hgRow := (.aload_n 0, 1, [], []) :: (.getfield 30, 3, [0, 5, 0, 73], []) :: (.ifCond .ne 16, 3, [34], []) :: (.aload_n 0, 1, [], []) :: (.iconst 0, 1, [], []) :: (.putfield 27, 3, [0, 4, 0, 70, 0], []) :: (.aload_n 0, 1, [], []) :: (.iconst 0, 1, [], []) :: (.putfield 33, 3, [0, 6, 0, 74, 0], []) :: (.goto 13, 3, [44], []) :: []
def hgr4_0 : List hgRow := (.aload_n 0, 1, [], []) :: (.iconst 0, 1, [], []) :: (.putfield 55, 3, [0, 14, 3, 92, 0], []) :: (.aload_n 0, 1, [], []) :: (.getfield 27, 3, [0, 4, 0, 70], []) :: (.iconst 1, 1, [], []) :: (.if_icmp .eq 4, 3, [14], []) :: (.return_, 1, [], []) :: []
def hgb4 : List (Nat × List Bool × List hgRow) := [(0, [true], hgr4_0), (14, [true], hgr4_14), (34, [true], hgr4_34), (44, [false], hgr4_44)]
/- HomeGateway$Device.endTick()V -/
def hgr5_54 : List hgRow := (.return_, 1, [], []) :: []
def hgr5_28 : List hgRow := (.aload_n 0, 1, [], []) :: (.dup, 1, [], []) :: (.getfield 33, 3, [0, 6, 0, 74], []) :: (.iconst 1, 1, [], []) :: (.iadd, 1, [], []) :: (.putfield 33, 3, [0, 6, 0, 74, 0], []) :: (.aload_n 0, 1, [], []) :: (.getfield 33, 3, [0, 6, 0, 74], []) :: (.aload_n 0, 1, [], []) :: (.getfield 24, 3, [0, 3, 0, 69], []) :: (.if_icmp .ne 8, 3, [54], []) :: (.aload_n 0, 1, [], []) :: (.iconst 2, 1, [], []) :: (.putfield 27, 3, [0, 4, 0, 70, 0], []) :: hgr5_54
def hgr5_22 : List hgRow := (.aload_n 0, 1, [], []) :: (.iconst 0, 1, [], []) :: (.putfield 33, 3, [0, 6, 0, 74, 0], []) :: (.return_, 1, [], []) :: []
def hgr5_8 : List hgRow := (.aload_n 0, 1, [], []) :: (.getfield 55, 3, [0, 14, 3, 92], []) :: (.ifCond .ne 10, 3, [22], []) :: (.aload_n 0, 1, [], []) :: (.getfield 49, 3, [0, 12, 0, 86], []) :: (.ifCond .le 9, 3, [28], []) :: hgr5_22
def hgr5_0 : List hgRow := (.aload_n 0, 1, [], []) :: (.getfield 27, 3, [0, 4, 0, 70], []) :: (.ifCond .eq 4, 3, [8], []) :: (.return_, 1, [], []) :: []
def hgb5 : List (Nat × List Bool × List hgRow) := [(0, [true], hgr5_0), (8, [true], hgr5_8), (22, [true], hgr5_22), (28, [true], hgr5_28), (54, [false], hgr5_54)]
/- HomeGateway$Device.enqueue(LHomeGateway$PacketStore;I)V -/
def hgr6_24 : List hgRow := (.aload_n 0, 1, [], []) :: (.iload_n 2, 1, [], []) :: (.putfield 46, 3, [0, 11, 0, 85, 0], []) :: (.aload_n 0, 1, [], []) :: (.dup, 1, [], []) :: (.getfield 49, 3, [0, 12, 0, 86], []) :: (.iconst 1, 1, [], []) :: (.iadd, 1, [], []) :: (.putfield 49, 3, [0, 12, 0, 86, 0], []) :: (.aload_n 0, 1, [], []) :: (.dup, 1, [], []) :: (.getfield 52, 3, [0, 13, 0, 89], []) :: (.aload_n 1, 1, [], []) :: (.iload_n 2, 1, [], []) :: (.invokevirtual 65, 3, [39, 2, 0, 894, 0, 0, 3], []) :: (.iadd, 1, [], []) :: (.putfield 52, 3, [0, 13, 0, 89, 0], []) :: (.return_, 1, [], []) :: []
def hgr6_15 : List hgRow := (.aload_n 1, 1, [], []) :: (.aload_n 0, 1, [], []) :: (.getfield 46, 3, [0, 11, 0, 85], []) :: (.iload_n 2, 1, [], []) :: (.invokevirtual 59, 3, [38, 3, 1, 944, 0, 0, 3], []) :: hgr6_24
def hgr6_0 : List hgRow := (.aload_n 0, 1, [], []) :: (.getfield 49, 3, [0, 12, 0, 86], []) :: (.ifCond .ne 11, 3, [15], []) :: (.aload_n 0, 1, [], []) :: (.iload_n 2, 1, [], []) :: (.putfield 43, 3, [0, 10, 0, 83, 0], []) :: (.goto 12, 3, [24], []) :: []
def hgb6 : List (Nat × List Bool × List hgRow) := [(0, [true, true, true], hgr6_0), (15, [true, true, true], hgr6_15), (24, [true, true, true], hgr6_24)]
/- HomeGateway$Device.serveFirst(LHomeGateway$PacketStore;I)V -/
def hgr7_99 : List hgRow := (.aload_n 0, 1, [], []) :: (.iconst 1, 1, [], []) :: (.putfield 55, 3, [0, 14, 3, 92, 0], []) :: (.return_, 1, [], []) :: []
def hgr7_0 : List hgRow := (.aload_n 1, 1, [], []) :: (.aload_n 0, 1, [], []) :: (.getfield 43, 3, [0, 10, 0, 83], []) :: (.invokevirtual 65, 3, [39, 2, 0, 894, 0, 0, 3], []) :: (.istore_n 3, 1, [], []) :: (.aload_n 0, 1, [], []) :: (.aload_n 0, 1, [], []) :: (.getfield 15, 3, [0, 9, 0, 81], []) :: (.iload_n 2, 1, [], []) :: (.aload_n 1, 1, [], []) :: (.aload_n 0, 1, [], []) :: (.getfield 43, 3, [0, 10, 0, 83], []) :: (.invokevirtual 69, 3, [40, 2, 0, 895, 0, 0, 3], []) :: (.isub, 1, [], []) :: (.invokestatic 72, 3, [1000, 2, 0, 899, 0, 0, 99], []) :: (.putfield 15, 3, [0, 9, 0, 81, 0], []) :: (.aload_n 0, 1, [], []) :: (.aload_n 1, 1, [], []) :: (.aload_n 0, 1, [], []) :: (.getfield 43, 3, [0, 10, 0, 83], []) :: (.invokevirtual 78, 3, [41, 2, 0, 902, 0, 0, 3], []) :: (.putfield 43, 3, [0, 10, 0, 83, 0], []) :: (.aload_n 0, 1, [], []) :: (.dup, 1, [], []) :: (.getfield 49, 3, [0, 12, 0, 86], []) :: (.iconst 1, 1, [], []) :: (.isub, 1, [], []) :: (.putfield 49, 3, [0, 12, 0, 86, 0], []) :: (.aload_n 0, 1, [], []) :: (.dup, 1, [], []) :: (.getfield 52, 3, [0, 13, 0, 89], []) :: (.iload_n 3, 1, [], []) :: (.isub, 1, [], []) :: (.putfield 52, 3, [0, 13, 0, 89, 0], []) :: (.aload_n 0, 1, [], []) :: (.dup, 1, [], []) :: (.getfield 40, 3, [0, 8, 0, 78], []) :: (.iload_n 3, 1, [], []) :: (.iadd, 1, [], []) :: (.putfield 40, 3, [0, 8, 0, 78, 0], []) :: (.aload_n 0, 1, [], []) :: (.getfield 9, 3, [0, 1, 0, 64], []) :: (.ifCond .le 23, 3, [99], []) :: (.aload_n 0, 1, [], []) :: (.dup, 1, [], []) :: (.getfield 36, 3, [0, 7, 1, 75], []) :: (.sipush 2520, 3, [], []) :: (.iload_n 3, 1, [], []) :: (.imul, 1, [], []) :: (.aload_n 0, 1, [], []) :: (.getfield 9, 3, [0, 1, 0, 64], []) :: (.idiv, 1, [], []) :: (.i2l, 1, [], []) :: (.ladd, 1, [], []) :: (.putfield 36, 3, [0, 7, 1, 75, 0], []) :: hgr7_99
def hgb7 : List (Nat × List Bool × List hgRow) := [(0, [true, true, true, false], hgr7_0), (99, [true, false, false, false], hgr7_99)]
/- HomeGateway$Gateway.<init>(LHomeGateway$PacketStore;)V -/
def hgr8_45 : List hgRow := (.aload_n 0, 1, [], []) :: (.new 22, 3, [1, 5, 2, 125], []) :: (.dup, 1, [], []) :: (.invokespecial 24, 3, [47, 1, 1, 127, 13, 72, 5], []) :: (.putfield 25, 3, [1, 7, 2, 182, 1], []) :: (.aload_n 0, 1, [], []) :: (.bipush 8, 2, [], []) :: (.newarray .int, 2, [20], []) :: (.putfield 29, 3, [1, 8, 2, 185, 1], []) :: (.aload_n 0, 1, [], []) :: (.iconst 3, 1, [], []) :: (.newarray .int, 2, [20], []) :: (.putfield 33, 3, [1, 10, 2, 188, 1], []) :: (.aload_n 0, 1, [], []) :: (.iconst 3, 1, [], []) :: (.newarray .int, 2, [20], []) :: (.putfield 36, 3, [1, 11, 2, 189, 1], []) :: (.return_, 1, [], []) :: []
def hgr8_20 : List hgRow := (.iload_n 2, 1, [], []) :: (.bipush 10, 2, [], []) :: (.if_icmp .ge 22, 3, [45], []) :: (.aload_n 0, 1, [], []) :: (.getfield 17, 3, [1, 5, 2, 177], []) :: (.iload_n 2, 1, [], []) :: (.new 15, 3, [1, 0, 15, 55], []) :: (.dup, 1, [], []) :: (.invokespecial 21, 3, [0, 1, 1, 58, 0, 0, 0], []) :: (.aastore, 1, [], []) :: (.iinc 2 1, 3, [], []) :: (.goto (-22), 3, [20], []) :: []
def hgr8_0 : List hgRow := (.aload_n 0, 1, [], []) :: (.invokespecial 3, 3, [1005, 1, 1, 54, 0, 0, 99], []) :: (.aload_n 0, 1, [], []) :: (.aload_n 1, 1, [], []) :: (.putfield 9, 3, [1, 0, 2, 168, 1], []) :: (.aload_n 0, 1, [], []) :: (.bipush 10, 2, [], []) :: (.anewarray 15, 3, [24, 55], []) :: (.putfield 17, 3, [1, 5, 2, 177, 1], []) :: (.iconst 0, 1, [], []) :: (.istore_n 2, 1, [], []) :: hgr8_20
def hgb8 : List (Nat × List Bool × List hgRow) := [(0, [true, true, false], hgr8_0), (20, [true, false, true], hgr8_20), (45, [true, false, false], hgr8_45)]
/- HomeGateway$Gateway.copyFrom(LHomeGateway$Gateway;)V -/
def hgr9_155 : List hgRow := (.aload_n 0, 1, [], []) :: (.aload_n 1, 1, [], []) :: (.getfield 66, 3, [1, 12, 0, 190], []) :: (.putfield 66, 3, [1, 12, 0, 190, 0], []) :: (.aload_n 0, 1, [], []) :: (.aload_n 1, 1, [], []) :: (.getfield 69, 3, [1, 13, 0, 192], []) :: (.putfield 69, 3, [1, 13, 0, 192, 0], []) :: (.aload_n 0, 1, [], []) :: (.aload_n 1, 1, [], []) :: (.getfield 72, 3, [1, 14, 0, 194], []) :: (.putfield 72, 3, [1, 14, 0, 194, 0], []) :: (.aload_n 0, 1, [], []) :: (.aload_n 1, 1, [], []) :: (.getfield 75, 3, [1, 15, 0, 196], []) :: (.putfield 75, 3, [1, 15, 0, 196, 0], []) :: (.return_, 1, [], []) :: []
def hgr9_120 : List hgRow := (.iload_n 2, 1, [], []) :: (.iconst 3, 1, [], []) :: (.if_icmp .ge 33, 3, [155], []) :: (.aload_n 0, 1, [], []) :: (.getfield 33, 3, [1, 10, 2, 188], []) :: (.iload_n 2, 1, [], []) :: (.aload_n 1, 1, [], []) :: (.getfield 33, 3, [1, 10, 2, 188], []) :: (.iload_n 2, 1, [], []) :: (.iaload, 1, [], []) :: (.iastore, 1, [], []) :: (.aload_n 0, 1, [], []) :: (.getfield 36, 3, [1, 11, 2, 189], []) :: (.iload_n 2, 1, [], []) :: (.aload_n 1, 1, [], []) :: (.getfield 36, 3, [1, 11, 2, 189], []) :: (.iload_n 2, 1, [], []) :: (.iaload, 1, [], []) :: (.iastore, 1, [], []) :: (.iinc 2 1, 3, [], []) :: (.goto (-32), 3, [120], []) :: []
def hgr9_118 : List hgRow := (.iconst 0, 1, [], []) :: (.istore_n 2, 1, [], []) :: hgr9_120
def hgr9_92 : List hgRow := (.iload_n 2, 1, [], []) :: (.aload_n 0, 1, [], []) :: (.getfield 63, 3, [1, 9, 0, 186], []) :: (.if_icmp .ge 21, 3, [118], []) :: (.aload_n 0, 1, [], []) :: (.getfield 29, 3, [1, 8, 2, 185], []) :: (.iload_n 2, 1, [], []) :: (.aload_n 1, 1, [], []) :: (.getfield 29, 3, [1, 8, 2, 185], []) :: (.iload_n 2, 1, [], []) :: (.iaload, 1, [], []) :: (.iastore, 1, [], []) :: (.iinc 2 1, 3, [], []) :: (.goto (-23), 3, [92], []) :: []
def hgr9_71 : List hgRow := (.aload_n 0, 1, [], []) :: (.getfield 25, 3, [1, 7, 2, 182], []) :: (.aload_n 1, 1, [], []) :: (.getfield 25, 3, [1, 7, 2, 182], []) :: (.invokevirtual 60, 3, [48, 2, 1, 376, 0, 0, 5], []) :: (.aload_n 0, 1, [], []) :: (.aload_n 1, 1, [], []) :: (.getfield 63, 3, [1, 9, 0, 186], []) :: (.putfield 63, 3, [1, 9, 0, 186, 0], []) :: (.iconst 0, 1, [], []) :: (.istore_n 2, 1, [], []) :: hgr9_92
def hgr9_42 : List hgRow := (.iload_n 2, 1, [], []) :: (.aload_n 0, 1, [], []) :: (.getfield 53, 3, [1, 6, 0, 179], []) :: (.if_icmp .ge 24, 3, [71], []) :: (.aload_n 0, 1, [], []) :: (.getfield 17, 3, [1, 5, 2, 177], []) :: (.iload_n 2, 1, [], []) :: (.aaload, 1, [], []) :: (.aload_n 1, 1, [], []) :: (.getfield 17, 3, [1, 5, 2, 177], []) :: (.iload_n 2, 1, [], []) :: (.aaload, 1, [], []) :: (.invokevirtual 56, 3, [2, 2, 1, 372, 0, 0, 0], []) :: (.iinc 2 1, 3, [], []) :: (.goto (-26), 3, [42], []) :: []
def hgr9_0 : List hgRow := (.aload_n 0, 1, [], []) :: (.aload_n 1, 1, [], []) :: (.getfield 39, 3, [1, 1, 3, 169], []) :: (.putfield 39, 3, [1, 1, 3, 169, 0], []) :: (.aload_n 0, 1, [], []) :: (.aload_n 1, 1, [], []) :: (.getfield 43, 3, [1, 2, 0, 171], []) :: (.putfield 43, 3, [1, 2, 0, 171, 0], []) :: (.aload_n 0, 1, [], []) :: (.aload_n 1, 1, [], []) :: (.getfield 47, 3, [1, 3, 0, 173], []) :: (.putfield 47, 3, [1, 3, 0, 173, 0], []) :: (.aload_n 0, 1, [], []) :: (.aload_n 1, 1, [], []) :: (.getfield 50, 3, [1, 4, 0, 175], []) :: (.putfield 50, 3, [1, 4, 0, 175, 0], []) :: (.aload_n 0, 1, [], []) :: (.aload_n 1, 1, [], []) :: (.getfield 53, 3, [1, 6, 0, 179], []) :: (.putfield 53, 3, [1, 6, 0, 179, 0], []) :: (.iconst 0, 1, [], []) :: (.istore_n 2, 1, [], []) :: hgr9_42
def hgb9 : List (Nat × List Bool × List hgRow) := [(0, [true, true, false], hgr9_0), (42, [true, true, true], hgr9_42), (71, [true, true, false], hgr9_71), (92, [true, true, true], hgr9_92), (118, [true, true, false], hgr9_118), (120, [true, true, true], hgr9_120), (155, [true, true, false], hgr9_155)]
/- HomeGateway$Gateway.startAnew()V -/
def hgr10_60 : List hgRow := (.aload_n 0, 1, [], []) :: (.iconst 0, 1, [], []) :: (.putfield 66, 3, [1, 12, 0, 190, 0], []) :: (.aload_n 0, 1, [], []) :: (.iconst 0, 1, [], []) :: (.putfield 69, 3, [1, 13, 0, 192, 0], []) :: (.aload_n 0, 1, [], []) :: (.iconst 0, 1, [], []) :: (.putfield 72, 3, [1, 14, 0, 194, 0], []) :: (.aload_n 0, 1, [], []) :: (.iconst 0, 1, [], []) :: (.putfield 75, 3, [1, 15, 0, 196, 0], []) :: (.return_, 1, [], []) :: []
def hgr10_42 : List hgRow := (.iload_n 1, 1, [], []) :: (.iconst 3, 1, [], []) :: (.if_icmp .ge 16, 3, [60], []) :: (.aload_n 0, 1, [], []) :: (.iload_n 1, 1, [], []) :: (.iconst 0, 1, [], []) :: (.iconst 0, 1, [], []) :: (.invokevirtual 81, 3, [14, 4, 1, 485, 0, 0, 1], []) :: (.iinc 1 1, 3, [], []) :: (.goto (-15), 3, [42], []) :: []
def hgr10_0 : List hgRow := (.aload_n 0, 1, [], []) :: (.iconst 1, 1, [], []) :: (.putfield 39, 3, [1, 1, 3, 169, 0], []) :: (.aload_n 0, 1, [], []) :: (.iconst 1, 1, [], []) :: (.putfield 43, 3, [1, 2, 0, 171, 0], []) :: (.aload_n 0, 1, [], []) :: (.iconst 1, 1, [], []) :: (.putfield 47, 3, [1, 3, 0, 173, 0], []) :: (.aload_n 0, 1, [], []) :: (.sipush 200, 3, [], []) :: (.putfield 50, 3, [1, 4, 0, 175, 0], []) :: (.aload_n 0, 1, [], []) :: (.iconst 0, 1, [], []) :: (.putfield 53, 3, [1, 6, 0, 179, 0], []) :: (.aload_n 0, 1, [], []) :: (.getfield 25, 3, [1, 7, 2, 182], []) :: (.iconst 0, 1, [], []) :: (.putfield 78, 3, [5, 1, 0, 161, 0], []) :: (.aload_n 0, 1, [], []) :: (.iconst 0, 1, [], []) :: (.putfield 63, 3, [1, 9, 0, 186, 0], []) :: (.iconst 0, 1, [], []) :: (.istore_n 1, 1, [], []) :: hgr10_42
def hgb10 : List (Nat × List Bool × List hgRow) := [(0, [true, false], hgr10_0), (42, [true, true], hgr10_42), (60, [true, false], hgr10_60)]
/- HomeGateway$Gateway.addDevice(IIII)V -/
def hgr11_43 : List hgRow := (.return_, 1, [], []) :: []
def hgr11_0 : List hgRow := (.aload_n 0, 1, [], []) :: (.getfield 53, 3, [1, 6, 0, 179], []) :: (.ifCond .lt 39, 3, [43], []) :: (.aload_n 0, 1, [], []) :: (.getfield 53, 3, [1, 6, 0, 179], []) :: (.bipush 10, 2, [], []) :: (.if_icmp .ge 30, 3, [43], []) :: (.aload_n 0, 1, [], []) :: (.getfield 17, 3, [1, 5, 2, 177], []) :: (.aload_n 0, 1, [], []) :: (.getfield 53, 3, [1, 6, 0, 179], []) :: (.aaload, 1, [], []) :: (.iload_n 1, 1, [], []) :: (.iload_n 2, 1, [], []) :: (.iload_n 3, 1, [], []) :: (.iload 4, 2, [], []) :: (.invokevirtual 85, 3, [1, 5, 1, 607, 0, 0, 0], []) :: (.aload_n 0, 1, [], []) :: (.dup, 1, [], []) :: (.getfield 53, 3, [1, 6, 0, 179], []) :: (.iconst 1, 1, [], []) :: (.iadd, 1, [], []) :: (.putfield 53, 3, [1, 6, 0, 179, 0], []) :: hgr11_43
def hgb11 : List (Nat × List Bool × List hgRow) := [(0, [true, true, true, true, true], hgr11_0), (43, [false, false, false, false, false], hgr11_43)]
/- HomeGateway$Gateway.addWakePort(I)V -/
def hgr12_36 : List hgRow := (.return_, 1, [], []) :: []
def hgr12_0 : List hgRow := (.aload_n 0, 1, [], []) :: (.getfield 63, 3, [1, 9, 0, 186], []) :: (.ifCond .lt 32, 3, [36], []) :: (.aload_n 0, 1, [], []) :: (.getfield 63, 3, [1, 9, 0, 186], []) :: (.bipush 8, 2, [], []) :: (.if_icmp .ge 23, 3, [36], []) :: (.aload_n 0, 1, [], []) :: (.getfield 29, 3, [1, 8, 2, 185], []) :: (.aload_n 0, 1, [], []) :: (.getfield 63, 3, [1, 9, 0, 186], []) :: (.iload_n 1, 1, [], []) :: (.iastore, 1, [], []) :: (.aload_n 0, 1, [], []) :: (.dup, 1, [], []) :: (.getfield 63, 3, [1, 9, 0, 186], []) :: (.iconst 1, 1, [], []) :: (.iadd, 1, [], []) :: (.putfield 63, 3, [1, 9, 0, 186, 0], []) :: hgr12_36
def hgb12 : List (Nat × List Bool × List hgRow) := [(0, [true, true], hgr12_0), (36, [false, false], hgr12_36)]
/- HomeGateway$Gateway.isWakePort(I)Z -/
def hgr13_28 : List hgRow := (.iconst 0, 1, [], []) :: (.ireturn, 1, [3], []) :: []
def hgr13_22 : List hgRow := (.iinc 2 1, 3, [], []) :: (.goto (-23), 3, [2], []) :: []
def hgr13_2 : List hgRow := (.iload_n 2, 1, [], []) :: (.aload_n 0, 1, [], []) :: (.getfield 63, 3, [1, 9, 0, 186], []) :: (.if_icmp .ge 21, 3, [28], []) :: (.aload_n 0, 1, [], []) :: (.getfield 29, 3, [1, 8, 2, 185], []) :: (.iload_n 2, 1, [], []) :: (.iaload, 1, [], []) :: (.iload_n 1, 1, [], []) :: (.if_icmp .ne 5, 3, [22], []) :: (.iconst 1, 1, [], []) :: (.ireturn, 1, [3], []) :: []
def hgr13_0 : List hgRow := (.iconst 0, 1, [], []) :: (.istore_n 2, 1, [], []) :: hgr13_2
def hgb13 : List (Nat × List Bool × List hgRow) := [(0, [true, true, false], hgr13_0), (2, [true, true, true], hgr13_2), (22, [true, true, true], hgr13_22), (28, [false, false, false], hgr13_28)]
/- HomeGateway$Gateway.setQuiet(III)V -/
def hgr14_23 : List hgRow := (.return_, 1, [], []) :: []
def hgr14_0 : List hgRow := (.iload_n 1, 1, [], []) :: (.ifCond .lt 22, 3, [23], []) :: (.iload_n 1, 1, [], []) :: (.iconst 3, 1, [], []) :: (.if_icmp .ge 17, 3, [23], []) :: (.aload_n 0, 1, [], []) :: (.getfield 33, 3, [1, 10, 2, 188], []) :: (.iload_n 1, 1, [], []) :: (.iload_n 2, 1, [], []) :: (.iastore, 1, [], []) :: (.aload_n 0, 1, [], []) :: (.getfield 36, 3, [1, 11, 2, 189], []) :: (.iload_n 1, 1, [], []) :: (.iload_n 3, 1, [], []) :: (.iastore, 1, [], []) :: hgr14_23
def hgb14 : List (Nat × List Bool × List hgRow) := [(0, [true, true, true, true], hgr14_0), (23, [false, false, false, false], hgr14_23)]
/- HomeGateway$Gateway.isQuietHour(I)Z -/
def hgr15_82 : List hgRow := (.ireturn, 1, [3], []) :: []
def hgr15_81 : List hgRow := (.iconst 0, 1, [], []) :: hgr15_82
def hgr15_66 : List hgRow := (.iload_n 3, 1, [], []) :: (.iload_n 2, 1, [], []) :: (.if_icmp .gt 13, 3, [81], []) :: (.iload_n 2, 1, [], []) :: (.iload 4, 2, [], []) :: (.if_icmp .ge 7, 3, [81], []) :: (.iconst 1, 1, [], []) :: (.goto 4, 3, [82], []) :: []
def hgr15_65 : List hgRow := (.ireturn, 1, [3], []) :: []
def hgr15_64 : List hgRow := (.iconst 0, 1, [], []) :: hgr15_65
def hgr15_60 : List hgRow := (.iconst 1, 1, [], []) :: (.goto 4, 3, [65], []) :: []
def hgr15_18 : List hgRow := (.aload_n 0, 1, [], []) :: (.getfield 66, 3, [1, 12, 0, 190], []) :: (.aload_n 0, 1, [], []) :: (.getfield 47, 3, [1, 3, 0, 173], []) :: (.irem, 1, [], []) :: (.istore_n 2, 1, [], []) :: (.aload_n 0, 1, [], []) :: (.getfield 33, 3, [1, 10, 2, 188], []) :: (.iload_n 1, 1, [], []) :: (.iaload, 1, [], []) :: (.istore_n 3, 1, [], []) :: (.aload_n 0, 1, [], []) :: (.getfield 36, 3, [1, 11, 2, 189], []) :: (.iload_n 1, 1, [], []) :: (.iaload, 1, [], []) :: (.istore 4, 2, [], []) :: (.iload 4, 2, [], []) :: (.iload_n 3, 1, [], []) :: (.if_icmp .ge 20, 3, [66], []) :: (.iload_n 2, 1, [], []) :: (.iload_n 3, 1, [], []) :: (.if_icmp .ge 9, 3, [60], []) :: (.iload_n 2, 1, [], []) :: (.iload 4, 2, [], []) :: (.if_icmp .ge 7, 3, [64], []) :: hgr15_60
def hgr15_16 : List hgRow := (.iconst 0, 1, [], []) :: (.ireturn, 1, [3], []) :: []
def hgr15_0 : List hgRow := (.iload_n 1, 1, [], []) :: (.ifCond .lt 15, 3, [16], []) :: (.iload_n 1, 1, [], []) :: (.iconst 3, 1, [], []) :: (.if_icmp .ge 10, 3, [16], []) :: (.aload_n 0, 1, [], []) :: (.getfield 47, 3, [1, 3, 0, 173], []) :: (.ifCond .gt 5, 3, [18], []) :: hgr15_16
def hgb15 : List (Nat × List Bool × List hgRow) := [(0, [true, true, false, false, false], hgr15_0), (16, [false, false, false, false, false], hgr15_16), (18, [true, true, false, false, false], hgr15_18), (60, [false, false, false, false, false], hgr15_60), (64, [false, false, false, false, false], hgr15_64), (65, [false, false, false, false, false], hgr15_65), (66, [false, false, true, true, true], hgr15_66), (81, [false, false, false, false, false], hgr15_81), (82, [false, false, false, false, false], hgr15_82)]
/- HomeGateway$Gateway.hasDevice(I)Z -/
def hgr16_17 : List hgRow := (.ireturn, 1, [3], []) :: []
def hgr16_16 : List hgRow := (.iconst 0, 1, [], []) :: hgr16_17
def hgr16_0 : List hgRow := (.iload_n 1, 1, [], []) :: (.ifCond .lt 15, 3, [16], []) :: (.iload_n 1, 1, [], []) :: (.aload_n 0, 1, [], []) :: (.getfield 53, 3, [1, 6, 0, 179], []) :: (.if_icmp .ge 7, 3, [16], []) :: (.iconst 1, 1, [], []) :: (.goto 4, 3, [17], []) :: []
def hgb16 : List (Nat × List Bool × List hgRow) := [(0, [true, true], hgr16_0), (16, [false, false], hgr16_16), (17, [false, false], hgr16_17)]
/- HomeGateway$Gateway.groupOf(I)I -/
def hgr17_21 : List hgRow := (.ireturn, 1, [1], []) :: []
def hgr17_20 : List hgRow := (.iconst 3, 1, [], []) :: hgr17_21
def hgr17_0 : List hgRow := (.aload_n 0, 1, [], []) :: (.iload_n 1, 1, [], []) :: (.invokevirtual 89, 3, [16, 2, 0, 774, 0, 0, 1], []) :: (.ifCond .eq 15, 3, [20], []) :: (.aload_n 0, 1, [], []) :: (.getfield 17, 3, [1, 5, 2, 177], []) :: (.iload_n 1, 1, [], []) :: (.aaload, 1, [], []) :: (.getfield 93, 3, [0, 0, 0, 63], []) :: (.goto 4, 3, [21], []) :: []
def hgb17 : List (Nat × List Bool × List hgRow) := [(0, [true, true], hgr17_0), (20, [false, false], hgr17_20), (21, [false, false], hgr17_21)]
/- HomeGateway$Gateway.isIsolated(II)Z -/
def hgr18_36 : List hgRow := (.ireturn, 1, [3], []) :: []
def hgr18_35 : List hgRow := (.iconst 0, 1, [], []) :: hgr18_36
def hgr18_31 : List hgRow := (.iconst 1, 1, [], []) :: (.goto 4, 3, [36], []) :: []
def hgr18_11 : List hgRow := (.aload_n 0, 1, [], []) :: (.iload_n 2, 1, [], []) :: (.invokevirtual 96, 3, [17, 2, 0, 770, 0, 0, 1], []) :: (.istore_n 3, 1, [], []) :: (.iload_n 3, 1, [], []) :: (.ifCond .eq 13, 3, [31], []) :: (.iload_n 3, 1, [], []) :: (.iconst 1, 1, [], []) :: (.if_icmp .ne 12, 3, [35], []) :: (.iload_n 1, 1, [], []) :: (.iload_n 2, 1, [], []) :: (.if_icmp .eq 7, 3, [35], []) :: hgr18_31
def hgr18_0 : List hgRow := (.aload_n 0, 1, [], []) :: (.iload_n 1, 1, [], []) :: (.invokevirtual 96, 3, [17, 2, 0, 770, 0, 0, 1], []) :: (.iconst 1, 1, [], []) :: (.if_icmp .eq 5, 3, [11], []) :: (.iconst 0, 1, [], []) :: (.ireturn, 1, [3], []) :: []
def hgb18 : List (Nat × List Bool × List hgRow) := [(0, [true, true, true, false], hgr18_0), (11, [true, true, true, false], hgr18_11), (31, [false, false, false, false], hgr18_31), (35, [false, false, false, false], hgr18_35), (36, [false, false, false, false], hgr18_36)]
/- HomeGateway$Gateway.isOpen(III)Z -/
def hgr19_39 : List hgRow := (.ireturn, 1, [3], []) :: []
def hgr19_30 : List hgRow := (.aload_n 0, 1, [], []) :: (.getfield 25, 3, [1, 7, 2, 182], []) :: (.iload 4, 2, [], []) :: (.invokevirtual 104, 3, [54, 2, 0, 794, 0, 0, 5], []) :: hgr19_39
def hgr19_26 : List hgRow := (.iconst 0, 1, [], []) :: (.goto 12, 3, [39], []) :: []
def hgr19_0 : List hgRow := (.aload_n 0, 1, [], []) :: (.getfield 25, 3, [1, 7, 2, 182], []) :: (.iload_n 1, 1, [], []) :: (.iload_n 2, 1, [], []) :: (.iload_n 3, 1, [], []) :: (.invokevirtual 100, 3, [53, 4, 0, 782, 0, 0, 5], []) :: (.istore 4, 2, [], []) :: (.iload 4, 2, [], []) :: (.ifCond .ge 16, 3, [30], []) :: (.iload_n 1, 1, [], []) :: (.iconst 3, 1, [], []) :: (.if_icmp .eq 7, 3, [26], []) :: (.iconst 1, 1, [], []) :: (.goto 16, 3, [39], []) :: []
def hgb19 : List (Nat × List Bool × List hgRow) := [(0, [true, true, true, true, false], hgr19_0), (26, [false, false, false, false, false], hgr19_26), (30, [true, false, false, false, true], hgr19_30), (39, [false, false, false, false, false], hgr19_39)]
/- HomeGateway$Gateway.judge(III)I -/
def hgr20_34 : List hgRow := (.ireturn, 1, [1], []) :: []
def hgr20_33 : List hgRow := (.iconst 1, 1, [], []) :: hgr20_34
def hgr20_11 : List hgRow := (.aload_n 0, 1, [], []) :: (.aload_n 0, 1, [], []) :: (.iload_n 1, 1, [], []) :: (.invokevirtual 96, 3, [17, 2, 0, 770, 0, 0, 1], []) :: (.aload_n 0, 1, [], []) :: (.iload_n 2, 1, [], []) :: (.invokevirtual 96, 3, [17, 2, 0, 770, 0, 0, 1], []) :: (.iload_n 3, 1, [], []) :: (.invokevirtual 111, 3, [19, 4, 0, 778, 0, 0, 1], []) :: (.ifCond .eq 7, 3, [33], []) :: (.iconst 0, 1, [], []) :: (.goto 4, 3, [34], []) :: []
def hgr20_0 : List hgRow := (.aload_n 0, 1, [], []) :: (.iload_n 1, 1, [], []) :: (.iload_n 2, 1, [], []) :: (.invokevirtual 107, 3, [18, 3, 0, 766, 0, 0, 1], []) :: (.ifCond .eq 5, 3, [11], []) :: (.iconst 2, 1, [], []) :: (.ireturn, 1, [1], []) :: []
def hgb20 : List (Nat × List Bool × List hgRow) := [(0, [true, true, true, true], hgr20_0), (11, [true, true, true, true], hgr20_11), (33, [false, false, false, false], hgr20_33), (34, [false, false, false, false], hgr20_34)]
/- HomeGateway$Gateway.countOpenPorts(II)I -/
def hgr21_82 : List hgRow := (.iload_n 3, 1, [], []) :: (.ireturn, 1, [1], []) :: []
def hgr21_72 : List hgRow := (.iload 6, 2, [], []) :: (.istore 4, 2, [], []) :: (.iinc 5 1, 3, [], []) :: (.goto (-60), 3, [19], []) :: []
def hgr21_19 : List hgRow := (.iload 5, 2, [], []) :: (.bipush 24, 2, [], []) :: (.if_icmp .gt 59, 3, [82], []) :: (.iload 4, 2, [], []) :: (.sipush 1000, 3, [], []) :: (.if_icmp .ge 51, 3, [82], []) :: (.aload_n 0, 1, [], []) :: (.getfield 25, 3, [1, 7, 2, 182], []) :: (.iload 4, 2, [], []) :: (.invokevirtual 115, 3, [55, 2, 0, 844, 0, 0, 5], []) :: (.istore 6, 2, [], []) :: (.aload_n 0, 1, [], []) :: (.aload_n 0, 1, [], []) :: (.iload_n 1, 1, [], []) :: (.invokevirtual 96, 3, [17, 2, 0, 770, 0, 0, 1], []) :: (.aload_n 0, 1, [], []) :: (.iload_n 2, 1, [], []) :: (.invokevirtual 96, 3, [17, 2, 0, 770, 0, 0, 1], []) :: (.iload 4, 2, [], []) :: (.invokevirtual 111, 3, [19, 4, 0, 778, 0, 0, 1], []) :: (.ifCond .eq 11, 3, [72], []) :: (.iload_n 3, 1, [], []) :: (.iload 6, 2, [], []) :: (.iload 4, 2, [], []) :: (.isub, 1, [], []) :: (.iadd, 1, [], []) :: (.istore_n 3, 1, [], []) :: hgr21_72
def hgr21_11 : List hgRow := (.iconst 0, 1, [], []) :: (.istore_n 3, 1, [], []) :: (.iconst 0, 1, [], []) :: (.istore 4, 2, [], []) :: (.iconst 0, 1, [], []) :: (.istore 5, 2, [], []) :: hgr21_19
def hgr21_0 : List hgRow := (.aload_n 0, 1, [], []) :: (.iload_n 1, 1, [], []) :: (.iload_n 2, 1, [], []) :: (.invokevirtual 107, 3, [18, 3, 0, 766, 0, 0, 1], []) :: (.ifCond .eq 5, 3, [11], []) :: (.iconst 0, 1, [], []) :: (.ireturn, 1, [1], []) :: []
def hgb21 : List (Nat × List Bool × List hgRow) := [(0, [true, true, true, false, false, false, false], hgr21_0), (11, [true, true, true, false, false, false, false], hgr21_11), (19, [true, true, true, true, true, true, false], hgr21_19), (72, [true, true, true, true, false, true, true], hgr21_72), (82, [false, false, false, true, false, false, false], hgr21_82)]
/- HomeGateway$Gateway.measureFairness()I -/
def hgr22_99 : List hgRow := (.sipush 1000, 3, [], []) :: (.ireturn, 1, [1], []) :: []
def hgr22_70 : List hgRow := (.aload_n 0, 1, [], []) :: (.getfield 53, 3, [1, 6, 0, 179], []) :: (.ifCond .le 25, 3, [99], []) :: (.fload_n 2, 1, [], []) :: (.fconst 0, 1, [], []) :: (.fcmp .l, 1, [], []) :: (.ifCond .le 19, 3, [99], []) :: (.ldc 124, 2, [1, 359, 1148846080], []) :: (.fload_n 1, 1, [], []) :: (.fmul, 1, [], []) :: (.fload_n 1, 1, [], []) :: (.fmul, 1, [], []) :: (.aload_n 0, 1, [], []) :: (.getfield 53, 3, [1, 6, 0, 179], []) :: (.i2f, 1, [], []) :: (.fload_n 2, 1, [], []) :: (.fmul, 1, [], []) :: (.fdiv, 1, [], []) :: (.f2i, 1, [], []) :: (.ireturn, 1, [1], []) :: []
def hgr22_64 : List hgRow := (.iinc 3 1, 3, [], []) :: (.goto (-61), 3, [6], []) :: []
def hgr22_6 : List hgRow := (.iload_n 3, 1, [], []) :: (.aload_n 0, 1, [], []) :: (.getfield 53, 3, [1, 6, 0, 179], []) :: (.if_icmp .ge 59, 3, [70], []) :: (.aload_n 0, 1, [], []) :: (.getfield 17, 3, [1, 5, 2, 177], []) :: (.iload_n 3, 1, [], []) :: (.aaload, 1, [], []) :: (.getfield 118, 3, [0, 1, 0, 66], []) :: (.ifCond .le 41, 3, [64], []) :: (.fconst 1, 1, [], []) :: (.aload_n 0, 1, [], []) :: (.getfield 17, 3, [1, 5, 2, 177], []) :: (.iload_n 3, 1, [], []) :: (.aaload, 1, [], []) :: (.getfield 121, 3, [0, 8, 0, 80], []) :: (.i2f, 1, [], []) :: (.fmul, 1, [], []) :: (.aload_n 0, 1, [], []) :: (.getfield 17, 3, [1, 5, 2, 177], []) :: (.iload_n 3, 1, [], []) :: (.aaload, 1, [], []) :: (.getfield 118, 3, [0, 1, 0, 66], []) :: (.i2f, 1, [], []) :: (.fdiv, 1, [], []) :: (.fstore 4, 2, [], []) :: (.fload_n 1, 1, [], []) :: (.fload 4, 2, [], []) :: (.fadd, 1, [], []) :: (.fstore_n 1, 1, [], []) :: (.fload_n 2, 1, [], []) :: (.fload 4, 2, [], []) :: (.fload 4, 2, [], []) :: (.fmul, 1, [], []) :: (.fadd, 1, [], []) :: (.fstore_n 2, 1, [], []) :: hgr22_64
def hgr22_0 : List hgRow := (.fconst 0, 1, [], []) :: (.fstore_n 1, 1, [], []) :: (.fconst 0, 1, [], []) :: (.fstore_n 2, 1, [], []) :: (.iconst 0, 1, [], []) :: (.istore_n 3, 1, [], []) :: hgr22_6
def hgb22 : List (Nat × List Bool × List hgRow) := [(0, [true, false, false, false, false], hgr22_0), (6, [true, true, true, true, false], hgr22_6), (64, [true, true, true, true, false], hgr22_64), (70, [true, true, true, false, false], hgr22_70), (99, [false, false, false, false, false], hgr22_99)]
/- HomeGateway$Gateway.take(IIII)I -/
def hgr23_157 : List hgRow := (.iconst 0, 1, [], []) :: (.ireturn, 1, [1], []) :: []
def hgr23_121 : List hgRow := (.aload 5, 2, [], []) :: (.aload_n 0, 1, [], []) :: (.getfield 9, 3, [1, 0, 2, 168], []) :: (.aload_n 0, 1, [], []) :: (.getfield 9, 3, [1, 0, 2, 168], []) :: (.iload 4, 2, [], []) :: (.aload_n 0, 1, [], []) :: (.getfield 66, 3, [1, 12, 0, 190], []) :: (.invokevirtual 160, 3, [37, 3, 0, 935, 0, 0, 3], []) :: (.invokevirtual 164, 3, [6, 3, 1, 940, 0, 0, 0], []) :: (.aload 5, 2, [], []) :: (.getfield 128, 3, [0, 4, 0, 72], []) :: (.iconst 2, 1, [], []) :: (.if_icmp .ne 8, 3, [157], []) :: (.aload 5, 2, [], []) :: (.invokevirtual 168, 3, [3, 1, 1, 948, 0, 0, 0], []) :: hgr23_157
def hgr23_96 : List hgRow := (.aload 5, 2, [], []) :: (.getfield 143, 3, [0, 12, 0, 88], []) :: (.ifCond .ne 20, 3, [121], []) :: (.aload 5, 2, [], []) :: (.aload 5, 2, [], []) :: (.getfield 146, 3, [0, 7, 1, 77], []) :: (.aload_n 0, 1, [], []) :: (.invokevirtual 150, 3, [24, 1, 0, 928, 0, 0, 1], []) :: (.invokestatic 154, 3, [1002, 2, 0, 932, 0, 0, 99], []) :: (.putfield 146, 3, [0, 7, 1, 77, 0], []) :: hgr23_121
def hgr23_84 : List hgRow := (.aload_n 0, 1, [], []) :: (.dup, 1, [], []) :: (.getfield 75, 3, [1, 15, 0, 196], []) :: (.iconst 1, 1, [], []) :: (.iadd, 1, [], []) :: (.putfield 75, 3, [1, 15, 0, 196, 0], []) :: (.iconst 3, 1, [], []) :: (.ireturn, 1, [1], []) :: []
def hgr23_59 : List hgRow := (.aload 5, 2, [], []) :: (.getfield 134, 3, [0, 13, 0, 91], []) :: (.iload 4, 2, [], []) :: (.iadd, 1, [], []) :: (.aload_n 0, 1, [], []) :: (.getfield 50, 3, [1, 4, 0, 175], []) :: (.if_icmp .gt 13, 3, [84], []) :: (.aload_n 0, 1, [], []) :: (.getfield 9, 3, [1, 0, 2, 168], []) :: (.invokevirtual 137, 3, [35, 1, 0, 924, 0, 0, 3], []) :: (.ifCond .eq 15, 3, [96], []) :: hgr23_84
def hgr23_22 : List hgRow := (.aload_n 0, 1, [], []) :: (.getfield 17, 3, [1, 5, 2, 177], []) :: (.iload_n 2, 1, [], []) :: (.aaload, 1, [], []) :: (.astore 5, 2, [], []) :: (.aload 5, 2, [], []) :: (.getfield 128, 3, [0, 4, 0, 72], []) :: (.iconst 2, 1, [], []) :: (.if_icmp .ne 23, 3, [59], []) :: (.aload_n 0, 1, [], []) :: (.iload_n 3, 1, [], []) :: (.invokevirtual 131, 3, [13, 2, 0, 923, 0, 0, 1], []) :: (.ifCond .ne 15, 3, [59], []) :: (.aload_n 0, 1, [], []) :: (.dup, 1, [], []) :: (.getfield 72, 3, [1, 14, 0, 194], []) :: (.iconst 1, 1, [], []) :: (.iadd, 1, [], []) :: (.putfield 72, 3, [1, 14, 0, 194, 0], []) :: (.iconst 2, 1, [], []) :: (.ireturn, 1, [1], []) :: []
def hgr23_0 : List hgRow := (.aload_n 0, 1, [], []) :: (.iload_n 1, 1, [], []) :: (.iload_n 2, 1, [], []) :: (.iload_n 3, 1, [], []) :: (.invokevirtual 125, 3, [20, 4, 0, 922, 0, 0, 1], []) :: (.ifCond .eq 15, 3, [22], []) :: (.aload_n 0, 1, [], []) :: (.dup, 1, [], []) :: (.getfield 69, 3, [1, 13, 0, 192], []) :: (.iconst 1, 1, [], []) :: (.iadd, 1, [], []) :: (.putfield 69, 3, [1, 13, 0, 192, 0], []) :: (.iconst 1, 1, [], []) :: (.ireturn, 1, [1], []) :: []
def hgb23 : List (Nat × List Bool × List hgRow) := [(0, [true, true, true, true, true, false], hgr23_0), (22, [true, false, true, true, true, false], hgr23_22), (59, [true, false, false, false, true, true], hgr23_59), (84, [true, false, false, false, false, false], hgr23_84), (96, [true, false, false, false, true, true], hgr23_96), (121, [true, false, false, false, true, true], hgr23_121), (157, [false, false, false, false, false, false], hgr23_157)]
/- HomeGateway$Gateway.leastVirtualTime()J -/
def hgr24_67 : List hgRow := (.lload_n 1, 1, [], []) :: (.lreturn, 1, [], []) :: []
def hgr24_61 : List hgRow := (.iinc 4 1, 3, [], []) :: (.goto (-57), 3, [7], []) :: []
def hgr24_48 : List hgRow := (.aload_n 0, 1, [], []) :: (.getfield 17, 3, [1, 5, 2, 177], []) :: (.iload 4, 2, [], []) :: (.aaload, 1, [], []) :: (.getfield 146, 3, [0, 7, 1, 77], []) :: (.lstore_n 1, 1, [], []) :: (.iconst 1, 1, [], []) :: (.istore_n 3, 1, [], []) :: hgr24_61
def hgr24_7 : List hgRow := (.iload 4, 2, [], []) :: (.aload_n 0, 1, [], []) :: (.getfield 53, 3, [1, 6, 0, 179], []) :: (.if_icmp .ge 54, 3, [67], []) :: (.aload_n 0, 1, [], []) :: (.getfield 17, 3, [1, 5, 2, 177], []) :: (.iload 4, 2, [], []) :: (.aaload, 1, [], []) :: (.getfield 143, 3, [0, 12, 0, 88], []) :: (.ifCond .le 35, 3, [61], []) :: (.iload_n 3, 1, [], []) :: (.ifCond .eq 18, 3, [48], []) :: (.aload_n 0, 1, [], []) :: (.getfield 17, 3, [1, 5, 2, 177], []) :: (.iload 4, 2, [], []) :: (.aaload, 1, [], []) :: (.getfield 146, 3, [0, 7, 1, 77], []) :: (.lload_n 1, 1, [], []) :: (.lcmp, 1, [], []) :: (.ifCond .ge 16, 3, [61], []) :: hgr24_48
def hgr24_0 : List hgRow := (.lconst 0, 1, [], []) :: (.lstore_n 1, 1, [], []) :: (.iconst 0, 1, [], []) :: (.istore_n 3, 1, [], []) :: (.iconst 0, 1, [], []) :: (.istore 4, 2, [], []) :: hgr24_7
def hgb24 : List (Nat × List Bool × List hgRow) := [(0, [true, false, false, false, false], hgr24_0), (7, [true, true, false, true, true], hgr24_7), (48, [true, false, false, false, true], hgr24_48), (61, [true, true, false, true, true], hgr24_61), (67, [false, true, false, false, false], hgr24_67)]
/- HomeGateway$Gateway.isDrained()Z -/
def hgr25_30 : List hgRow := (.iconst 1, 1, [], []) :: (.ireturn, 1, [3], []) :: []
def hgr25_24 : List hgRow := (.iinc 1 1, 3, [], []) :: (.goto (-25), 3, [2], []) :: []
def hgr25_2 : List hgRow := (.iload_n 1, 1, [], []) :: (.aload_n 0, 1, [], []) :: (.getfield 53, 3, [1, 6, 0, 179], []) :: (.if_icmp .ge 23, 3, [30], []) :: (.aload_n 0, 1, [], []) :: (.getfield 17, 3, [1, 5, 2, 177], []) :: (.iload_n 1, 1, [], []) :: (.aaload, 1, [], []) :: (.getfield 143, 3, [0, 12, 0, 88], []) :: (.ifCond .le 5, 3, [24], []) :: (.iconst 0, 1, [], []) :: (.ireturn, 1, [3], []) :: []
def hgr25_0 : List hgRow := (.iconst 0, 1, [], []) :: (.istore_n 1, 1, [], []) :: hgr25_2
def hgb25 : List (Nat × List Bool × List hgRow) := [(0, [true, false], hgr25_0), (2, [true, true], hgr25_2), (24, [true, true], hgr25_24), (30, [false, false], hgr25_30)]
/- HomeGateway$Gateway.passTick()I -/
def hgr26_55 : List hgRow := (.aload_n 0, 1, [], []) :: (.dup, 1, [], []) :: (.getfield 66, 3, [1, 12, 0, 190], []) :: (.iconst 1, 1, [], []) :: (.iadd, 1, [], []) :: (.putfield 66, 3, [1, 12, 0, 190, 0], []) :: (.iload_n 1, 1, [], []) :: (.ireturn, 1, [1], []) :: []
def hgr26_32 : List hgRow := (.iload_n 2, 1, [], []) :: (.aload_n 0, 1, [], []) :: (.getfield 53, 3, [1, 6, 0, 179], []) :: (.if_icmp .ge 18, 3, [55], []) :: (.aload_n 0, 1, [], []) :: (.getfield 17, 3, [1, 5, 2, 177], []) :: (.iload_n 2, 1, [], []) :: (.aaload, 1, [], []) :: (.invokevirtual 178, 3, [5, 1, 1, 906, 0, 0, 0], []) :: (.iinc 2 1, 3, [], []) :: (.goto (-20), 3, [32], []) :: []
def hgr26_25 : List hgRow := (.aload_n 0, 1, [], []) :: (.invokevirtual 174, 3, [27, 1, 0, 869, 0, 0, 1], []) :: (.istore_n 1, 1, [], []) :: (.iconst 0, 1, [], []) :: (.istore_n 2, 1, [], []) :: hgr26_32
def hgr26_2 : List hgRow := (.iload_n 1, 1, [], []) :: (.aload_n 0, 1, [], []) :: (.getfield 53, 3, [1, 6, 0, 179], []) :: (.if_icmp .ge 18, 3, [25], []) :: (.aload_n 0, 1, [], []) :: (.getfield 17, 3, [1, 5, 2, 177], []) :: (.iload_n 1, 1, [], []) :: (.aaload, 1, [], []) :: (.invokevirtual 171, 3, [4, 1, 1, 865, 0, 0, 0], []) :: (.iinc 1 1, 3, [], []) :: (.goto (-20), 3, [2], []) :: []
def hgr26_0 : List hgRow := (.iconst 0, 1, [], []) :: (.istore_n 1, 1, [], []) :: hgr26_2
def hgb26 : List (Nat × List Bool × List hgRow) := [(0, [true, false, false], hgr26_0), (2, [true, true, false], hgr26_2), (25, [true, false, false], hgr26_25), (32, [true, true, true], hgr26_32), (55, [true, true, false], hgr26_55)]
/- HomeGateway$Gateway.serveLine()I -/
def hgr27_84 : List hgRow := (.aload_n 0, 1, [], []) :: (.getfield 43, 3, [1, 2, 0, 171], []) :: (.ireturn, 1, [1], []) :: []
def hgr27_56 : List hgRow := (.aload_n 0, 1, [], []) :: (.getfield 17, 3, [1, 5, 2, 177], []) :: (.iload_n 3, 1, [], []) :: (.aaload, 1, [], []) :: (.aload_n 0, 1, [], []) :: (.getfield 9, 3, [1, 0, 2, 168], []) :: (.aload_n 0, 1, [], []) :: (.getfield 66, 3, [1, 12, 0, 190], []) :: (.invokevirtual 190, 3, [7, 3, 1, 890, 0, 0, 0], []) :: (.iload_n 1, 1, [], []) :: (.iload 4, 2, [], []) :: (.isub, 1, [], []) :: (.istore_n 1, 1, [], []) :: (.iinc 2 1, 3, [], []) :: (.goto (-74), 3, [7], []) :: []
def hgr27_30 : List hgRow := (.aload_n 0, 1, [], []) :: (.getfield 9, 3, [1, 0, 2, 168], []) :: (.aload_n 0, 1, [], []) :: (.getfield 17, 3, [1, 5, 2, 177], []) :: (.iload_n 3, 1, [], []) :: (.aaload, 1, [], []) :: (.getfield 184, 3, [0, 10, 0, 84], []) :: (.invokevirtual 187, 3, [39, 2, 0, 882, 0, 0, 3], []) :: (.istore 4, 2, [], []) :: (.iload 4, 2, [], []) :: (.iload_n 1, 1, [], []) :: (.if_icmp .le 5, 3, [56], []) :: (.iload_n 2, 1, [], []) :: (.ireturn, 1, [1], []) :: []
def hgr27_7 : List hgRow := (.iload_n 2, 1, [], []) :: (.aload_n 0, 1, [], []) :: (.getfield 43, 3, [1, 2, 0, 171], []) :: (.if_icmp .ge 72, 3, [84], []) :: (.aload_n 0, 1, [], []) :: (.invokevirtual 181, 3, [28, 1, 0, 873, 0, 0, 1], []) :: (.istore_n 3, 1, [], []) :: (.aload_n 0, 1, [], []) :: (.iload_n 3, 1, [], []) :: (.invokevirtual 89, 3, [16, 2, 0, 774, 0, 0, 1], []) :: (.ifCond .ne 5, 3, [30], []) :: (.iload_n 2, 1, [], []) :: (.ireturn, 1, [1], []) :: []
def hgr27_0 : List hgRow := (.aload_n 0, 1, [], []) :: (.getfield 43, 3, [1, 2, 0, 171], []) :: (.istore_n 1, 1, [], []) :: (.iconst 0, 1, [], []) :: (.istore_n 2, 1, [], []) :: hgr27_7
def hgb27 : List (Nat × List Bool × List hgRow) := [(0, [true, false, false, false, false], hgr27_0), (7, [true, true, true, false, false], hgr27_7), (30, [true, true, true, true, false], hgr27_30), (56, [true, true, true, true, true], hgr27_56), (84, [true, false, false, false, false], hgr27_84)]
/- HomeGateway$Gateway.nextToServe()I -/
def hgr28_59 : List hgRow := (.iload_n 1, 1, [], []) :: (.ireturn, 1, [1], []) :: []
def hgr28_53 : List hgRow := (.iinc 2 1, 3, [], []) :: (.goto (-52), 3, [4], []) :: []
def hgr28_51 : List hgRow := (.iload_n 2, 1, [], []) :: (.istore_n 1, 1, [], []) :: hgr28_53
def hgr28_4 : List hgRow := (.iload_n 2, 1, [], []) :: (.aload_n 0, 1, [], []) :: (.getfield 53, 3, [1, 6, 0, 179], []) :: (.if_icmp .ge 50, 3, [59], []) :: (.aload_n 0, 1, [], []) :: (.aload_n 0, 1, [], []) :: (.getfield 17, 3, [1, 5, 2, 177], []) :: (.iload_n 2, 1, [], []) :: (.aaload, 1, [], []) :: (.invokevirtual 193, 3, [29, 2, 0, 877, 0, 0, 1], []) :: (.ifCond .eq 31, 3, [53], []) :: (.iload_n 1, 1, [], []) :: (.ifCond .lt 25, 3, [51], []) :: (.aload_n 0, 1, [], []) :: (.getfield 17, 3, [1, 5, 2, 177], []) :: (.iload_n 2, 1, [], []) :: (.aaload, 1, [], []) :: (.getfield 146, 3, [0, 7, 1, 77], []) :: (.aload_n 0, 1, [], []) :: (.getfield 17, 3, [1, 5, 2, 177], []) :: (.iload_n 1, 1, [], []) :: (.aaload, 1, [], []) :: (.getfield 146, 3, [0, 7, 1, 77], []) :: (.lcmp, 1, [], []) :: (.ifCond .ge 5, 3, [53], []) :: hgr28_51
def hgr28_0 : List hgRow := (.iconst (-1), 1, [], []) :: (.istore_n 1, 1, [], []) :: (.iconst 0, 1, [], []) :: (.istore_n 2, 1, [], []) :: hgr28_4
def hgb28 : List (Nat × List Bool × List hgRow) := [(0, [true, false, false], hgr28_0), (4, [true, true, true], hgr28_4), (51, [true, false, true], hgr28_51), (53, [true, true, true], hgr28_53), (59, [false, true, false], hgr28_59)]
/- HomeGateway$Gateway.canBeServed(LHomeGateway$Device;)Z -/
def hgr29_30 : List hgRow := (.ireturn, 1, [3], []) :: []
def hgr29_29 : List hgRow := (.iconst 0, 1, [], []) :: hgr29_30
def hgr29_0 : List hgRow := (.aload_n 1, 1, [], []) :: (.getfield 143, 3, [0, 12, 0, 88], []) :: (.ifCond .le 25, 3, [29], []) :: (.aload_n 1, 1, [], []) :: (.getfield 128, 3, [0, 4, 0, 72], []) :: (.ifCond .ne 18, 3, [29], []) :: (.aload_n 0, 1, [], []) :: (.aload_n 1, 1, [], []) :: (.getfield 93, 3, [0, 0, 0, 63], []) :: (.invokevirtual 197, 3, [15, 2, 0, 881, 0, 0, 1], []) :: (.ifCond .ne 7, 3, [29], []) :: (.iconst 1, 1, [], []) :: (.goto 4, 3, [30], []) :: []
def hgb29 : List (Nat × List Bool × List hgRow) := [(0, [true, true], hgr29_0), (29, [false, false], hgr29_29), (30, [false, false], hgr29_30)]
/- HomeGateway$Gateway.sumUp()J -/
def hgr30_130 : List hgRow := (.aload_n 0, 1, [], []) :: (.getfield 25, 3, [1, 7, 2, 182], []) :: (.lload_n 1, 1, [], []) :: (.invokevirtual 202, 3, [59, 2, 0, 397, 0, 0, 5], []) :: (.lreturn, 1, [], []) :: []
def hgr30_44 : List hgRow := (.iload_n 3, 1, [], []) :: (.aload_n 0, 1, [], []) :: (.getfield 53, 3, [1, 6, 0, 179], []) :: (.if_icmp .ge 81, 3, [130], []) :: (.aload_n 0, 1, [], []) :: (.getfield 17, 3, [1, 5, 2, 177], []) :: (.iload_n 3, 1, [], []) :: (.aaload, 1, [], []) :: (.astore 4, 2, [], []) :: (.ldc2_w 200, 3, [0, 396, 31], []) :: (.lload_n 1, 1, [], []) :: (.lmul, 1, [], []) :: (.aload 4, 2, [], []) :: (.getfield 128, 3, [0, 4, 0, 72], []) :: (.i2l, 1, [], []) :: (.ladd, 1, [], []) :: (.lstore_n 1, 1, [], []) :: (.ldc2_w 200, 3, [0, 396, 31], []) :: (.lload_n 1, 1, [], []) :: (.lmul, 1, [], []) :: (.aload 4, 2, [], []) :: (.getfield 118, 3, [0, 1, 0, 66], []) :: (.i2l, 1, [], []) :: (.ladd, 1, [], []) :: (.lstore_n 1, 1, [], []) :: (.ldc2_w 200, 3, [0, 396, 31], []) :: (.lload_n 1, 1, [], []) :: (.lmul, 1, [], []) :: (.aload 4, 2, [], []) :: (.getfield 134, 3, [0, 13, 0, 91], []) :: (.i2l, 1, [], []) :: (.ladd, 1, [], []) :: (.lstore_n 1, 1, [], []) :: (.ldc2_w 200, 3, [0, 396, 31], []) :: (.lload_n 1, 1, [], []) :: (.lmul, 1, [], []) :: (.aload 4, 2, [], []) :: (.getfield 146, 3, [0, 7, 1, 77], []) :: (.ladd, 1, [], []) :: (.lstore_n 1, 1, [], []) :: (.ldc2_w 200, 3, [0, 396, 31], []) :: (.lload_n 1, 1, [], []) :: (.lmul, 1, [], []) :: (.aload 4, 2, [], []) :: (.getfield 121, 3, [0, 8, 0, 80], []) :: (.i2l, 1, [], []) :: (.ladd, 1, [], []) :: (.lstore_n 1, 1, [], []) :: (.iinc 3 1, 3, [], []) :: (.goto (-83), 3, [44], []) :: []
def hgr30_0 : List hgRow := (.aload_n 0, 1, [], []) :: (.getfield 66, 3, [1, 12, 0, 190], []) :: (.i2l, 1, [], []) :: (.lstore_n 1, 1, [], []) :: (.ldc2_w 200, 3, [0, 396, 31], []) :: (.lload_n 1, 1, [], []) :: (.lmul, 1, [], []) :: (.aload_n 0, 1, [], []) :: (.getfield 69, 3, [1, 13, 0, 192], []) :: (.i2l, 1, [], []) :: (.ladd, 1, [], []) :: (.lstore_n 1, 1, [], []) :: (.ldc2_w 200, 3, [0, 396, 31], []) :: (.lload_n 1, 1, [], []) :: (.lmul, 1, [], []) :: (.aload_n 0, 1, [], []) :: (.getfield 72, 3, [1, 14, 0, 194], []) :: (.i2l, 1, [], []) :: (.ladd, 1, [], []) :: (.lstore_n 1, 1, [], []) :: (.ldc2_w 200, 3, [0, 396, 31], []) :: (.lload_n 1, 1, [], []) :: (.lmul, 1, [], []) :: (.aload_n 0, 1, [], []) :: (.getfield 75, 3, [1, 15, 0, 196], []) :: (.i2l, 1, [], []) :: (.ladd, 1, [], []) :: (.lstore_n 1, 1, [], []) :: (.iconst 0, 1, [], []) :: (.istore_n 3, 1, [], []) :: hgr30_44
def hgb30 : List (Nat × List Bool × List hgRow) := [(0, [true, false, false, false, false], hgr30_0), (44, [true, true, false, true, false], hgr30_44), (130, [true, true, false, false, false], hgr30_130)]
/- HomeGateway$History.<init>(LHomeGateway$PacketStore;)V -/
def hgr31_41 : List hgRow := (.return_, 1, [], []) :: []
def hgr31_15 : List hgRow := (.iload_n 2, 1, [], []) :: (.bipush 8, 2, [], []) :: (.if_icmp .ge 23, 3, [41], []) :: (.aload_n 0, 1, [], []) :: (.getfield 11, 3, [2, 0, 2, 240], []) :: (.iload_n 2, 1, [], []) :: (.new 9, 3, [1, 1, 16, 237], []) :: (.dup, 1, [], []) :: (.aload_n 1, 1, [], []) :: (.invokespecial 17, 3, [8, 2, 1, 239, 28, 248, 1], []) :: (.aastore, 1, [], []) :: (.iinc 2 1, 3, [], []) :: (.goto (-23), 3, [15], []) :: []
def hgr31_0 : List hgRow := (.aload_n 0, 1, [], []) :: (.invokespecial 3, 3, [1005, 1, 1, 236, 0, 0, 99], []) :: (.aload_n 0, 1, [], []) :: (.bipush 8, 2, [], []) :: (.anewarray 9, 3, [26, 237], []) :: (.putfield 11, 3, [2, 0, 2, 240, 1], []) :: (.iconst 0, 1, [], []) :: (.istore_n 2, 1, [], []) :: hgr31_15
def hgb31 : List (Nat × List Bool × List hgRow) := [(0, [true, true, false], hgr31_0), (15, [true, true, true], hgr31_15), (41, [false, false, false], hgr31_41)]
/- HomeGateway$History.save(LHomeGateway$Gateway;)V -/
def hgr32_52 : List hgRow := (.putfield 20, 3, [2, 1, 0, 241, 0], []) :: (.aload_n 0, 1, [], []) :: (.aload_n 0, 1, [], []) :: (.getfield 28, 3, [2, 2, 0, 242], []) :: (.iconst 1, 1, [], []) :: (.iadd, 1, [], []) :: (.bipush 8, 2, [], []) :: (.invokestatic 31, 3, [1001, 2, 0, 662, 0, 0, 99], []) :: (.putfield 28, 3, [2, 2, 0, 242, 0], []) :: (.return_, 1, [], []) :: []
def hgr32_51 : List hgRow := (.iconst 0, 1, [], []) :: hgr32_52
def hgr32_17 : List hgRow := (.aload_n 0, 1, [], []) :: (.getfield 11, 3, [2, 0, 2, 240], []) :: (.aload_n 0, 1, [], []) :: (.getfield 20, 3, [2, 1, 0, 241], []) :: (.aaload, 1, [], []) :: (.aload_n 1, 1, [], []) :: (.invokevirtual 24, 3, [9, 2, 1, 368, 0, 0, 1], []) :: (.aload_n 0, 1, [], []) :: (.aload_n 0, 1, [], []) :: (.getfield 20, 3, [2, 1, 0, 241], []) :: (.iconst 1, 1, [], []) :: (.iadd, 1, [], []) :: (.bipush 8, 2, [], []) :: (.if_icmp .ge 12, 3, [51], []) :: (.aload_n 0, 1, [], []) :: (.getfield 20, 3, [2, 1, 0, 241], []) :: (.iconst 1, 1, [], []) :: (.iadd, 1, [], []) :: (.goto 4, 3, [52], []) :: []
def hgr32_16 : List hgRow := (.return_, 1, [], []) :: []
def hgr32_0 : List hgRow := (.aload_n 0, 1, [], []) :: (.getfield 20, 3, [2, 1, 0, 241], []) :: (.ifCond .lt 12, 3, [16], []) :: (.aload_n 0, 1, [], []) :: (.getfield 20, 3, [2, 1, 0, 241], []) :: (.bipush 8, 2, [], []) :: (.if_icmp .lt 4, 3, [17], []) :: hgr32_16
def hgb32 : List (Nat × List Bool × List hgRow) := [(0, [true, true], hgr32_0), (16, [false, false], hgr32_16), (17, [true, true], hgr32_17), (51, [true, false], hgr32_51), (52, [true, false], hgr32_52)]
/- HomeGateway$History.bringBack(LHomeGateway$Gateway;)V -/
def hgr33_33 : List hgRow := (.aload_n 1, 1, [], []) :: (.aload_n 0, 1, [], []) :: (.getfield 11, 3, [2, 0, 2, 240], []) :: (.iload_n 2, 1, [], []) :: (.aaload, 1, [], []) :: (.invokevirtual 24, 3, [9, 2, 1, 368, 0, 0, 1], []) :: (.aload_n 0, 1, [], []) :: (.iload_n 2, 1, [], []) :: (.putfield 20, 3, [2, 1, 0, 241, 0], []) :: (.aload_n 0, 1, [], []) :: (.dup, 1, [], []) :: (.getfield 28, 3, [2, 2, 0, 242], []) :: (.iconst 1, 1, [], []) :: (.isub, 1, [], []) :: (.putfield 28, 3, [2, 2, 0, 242, 0], []) :: (.return_, 1, [], []) :: []
def hgr33_32 : List hgRow := (.return_, 1, [], []) :: []
def hgr33_18 : List hgRow := (.istore_n 2, 1, [], []) :: (.aload_n 0, 1, [], []) :: (.getfield 28, 3, [2, 2, 0, 242], []) :: (.ifCond .le 9, 3, [32], []) :: (.iload_n 2, 1, [], []) :: (.bipush 8, 2, [], []) :: (.if_icmp .lt 4, 3, [33], []) :: hgr33_32
def hgr33_16 : List hgRow := (.bipush 7, 2, [], []) :: hgr33_18
def hgr33_0 : List hgRow := (.aload_n 0, 1, [], []) :: (.getfield 20, 3, [2, 1, 0, 241], []) :: (.ifCond .le 12, 3, [16], []) :: (.aload_n 0, 1, [], []) :: (.getfield 20, 3, [2, 1, 0, 241], []) :: (.iconst 1, 1, [], []) :: (.isub, 1, [], []) :: (.goto 5, 3, [18], []) :: []
def hgb33 : List (Nat × List Bool × List hgRow) := [(0, [true, true, false], hgr33_0), (16, [true, true, false], hgr33_16), (18, [true, true, false], hgr33_18), (32, [false, false, false], hgr33_32), (33, [true, true, true], hgr33_33)]
/- HomeGateway$PacketStore.<init>()V -/
def hgr34_0 : List hgRow := (.aload_n 0, 1, [], []) :: (.invokespecial 3, 3, [1005, 1, 1, 34, 0, 0, 99], []) :: (.aload_n 0, 1, [], []) :: (.sipush 512, 3, [], []) :: (.newarray .int, 2, [20], []) :: (.putfield 9, 3, [3, 0, 2, 35, 1], []) :: (.aload_n 0, 1, [], []) :: (.sipush 512, 3, [], []) :: (.newarray .int, 2, [20], []) :: (.putfield 15, 3, [3, 1, 2, 36, 1], []) :: (.aload_n 0, 1, [], []) :: (.sipush 512, 3, [], []) :: (.newarray .int, 2, [20], []) :: (.putfield 18, 3, [3, 2, 2, 37, 1], []) :: (.return_, 1, [], []) :: []
def hgb34 : List (Nat × List Bool × List hgRow) := [(0, [true], hgr34_0)]
/- HomeGateway$PacketStore.isFull()Z -/
def hgr35_15 : List hgRow := (.ireturn, 1, [3], []) :: []
def hgr35_14 : List hgRow := (.iconst 0, 1, [], []) :: hgr35_15
def hgr35_0 : List hgRow := (.aload_n 0, 1, [], []) :: (.getfield 21, 3, [3, 3, 0, 38], []) :: (.sipush 512, 3, [], []) :: (.if_icmp .lt 7, 3, [14], []) :: (.iconst 1, 1, [], []) :: (.goto 4, 3, [15], []) :: []
def hgb35 : List (Nat × List Bool × List hgRow) := [(0, [true], hgr35_0), (14, [false], hgr35_14), (15, [false], hgr35_15)]
/- HomeGateway$PacketStore.holds(I)Z -/
def hgr36_17 : List hgRow := (.ireturn, 1, [3], []) :: []
def hgr36_16 : List hgRow := (.iconst 0, 1, [], []) :: hgr36_17
def hgr36_0 : List hgRow := (.iload_n 1, 1, [], []) :: (.ifCond .lt 15, 3, [16], []) :: (.iload_n 1, 1, [], []) :: (.aload_n 0, 1, [], []) :: (.getfield 21, 3, [3, 3, 0, 38], []) :: (.if_icmp .ge 7, 3, [16], []) :: (.iconst 1, 1, [], []) :: (.goto 4, 3, [17], []) :: []
def hgb36 : List (Nat × List Bool × List hgRow) := [(0, [true, true], hgr36_0), (16, [false, false], hgr36_16), (17, [false, false], hgr36_17)]
/- HomeGateway$PacketStore.put(II)I -/
def hgr37_9 : List hgRow := (.aload_n 0, 1, [], []) :: (.getfield 9, 3, [3, 0, 2, 35], []) :: (.aload_n 0, 1, [], []) :: (.getfield 21, 3, [3, 3, 0, 38], []) :: (.iload_n 1, 1, [], []) :: (.iastore, 1, [], []) :: (.aload_n 0, 1, [], []) :: (.getfield 15, 3, [3, 1, 2, 36], []) :: (.aload_n 0, 1, [], []) :: (.getfield 21, 3, [3, 3, 0, 38], []) :: (.iload_n 2, 1, [], []) :: (.iastore, 1, [], []) :: (.aload_n 0, 1, [], []) :: (.dup, 1, [], []) :: (.getfield 21, 3, [3, 3, 0, 38], []) :: (.iconst 1, 1, [], []) :: (.iadd, 1, [], []) :: (.putfield 21, 3, [3, 3, 0, 38, 0], []) :: (.aload_n 0, 1, [], []) :: (.getfield 21, 3, [3, 3, 0, 38], []) :: (.iconst 1, 1, [], []) :: (.isub, 1, [], []) :: (.ireturn, 1, [1], []) :: []
def hgr37_0 : List hgRow := (.aload_n 0, 1, [], []) :: (.invokevirtual 25, 3, [35, 1, 0, 939, 0, 0, 3], []) :: (.ifCond .eq 5, 3, [9], []) :: (.iconst (-1), 1, [], []) :: (.ireturn, 1, [1], []) :: []
def hgb37 : List (Nat × List Bool × List hgRow) := [(0, [true, true, true], hgr37_0), (9, [true, true, true], hgr37_9)]
/- HomeGateway$PacketStore.link(II)V -/
def hgr38_15 : List hgRow := (.return_, 1, [], []) :: []
def hgr38_0 : List hgRow := (.aload_n 0, 1, [], []) :: (.iload_n 1, 1, [], []) :: (.invokevirtual 29, 3, [36, 2, 0, 886, 0, 0, 3], []) :: (.ifCond .eq 10, 3, [15], []) :: (.aload_n 0, 1, [], []) :: (.getfield 18, 3, [3, 2, 2, 37], []) :: (.iload_n 1, 1, [], []) :: (.iload_n 2, 1, [], []) :: (.iastore, 1, [], []) :: hgr38_15
def hgb38 : List (Nat × List Bool × List hgRow) := [(0, [true, true, true], hgr38_0), (15, [false, false, false], hgr38_15)]
/- HomeGateway$PacketStore.sizeOf(I)I -/
def hgr39_18 : List hgRow := (.ireturn, 1, [1], []) :: []
def hgr39_17 : List hgRow := (.iconst 0, 1, [], []) :: hgr39_18
def hgr39_0 : List hgRow := (.aload_n 0, 1, [], []) :: (.iload_n 1, 1, [], []) :: (.invokevirtual 29, 3, [36, 2, 0, 886, 0, 0, 3], []) :: (.ifCond .eq 12, 3, [17], []) :: (.aload_n 0, 1, [], []) :: (.getfield 9, 3, [3, 0, 2, 35], []) :: (.iload_n 1, 1, [], []) :: (.iaload, 1, [], []) :: (.goto 4, 3, [18], []) :: []
def hgb39 : List (Nat × List Bool × List hgRow) := [(0, [true, true], hgr39_0), (17, [false, false], hgr39_17), (18, [false, false], hgr39_18)]
/- HomeGateway$PacketStore.arrivalOf(I)I -/
def hgr40_18 : List hgRow := (.ireturn, 1, [1], []) :: []
def hgr40_17 : List hgRow := (.iconst 0, 1, [], []) :: hgr40_18
def hgr40_0 : List hgRow := (.aload_n 0, 1, [], []) :: (.iload_n 1, 1, [], []) :: (.invokevirtual 29, 3, [36, 2, 0, 886, 0, 0, 3], []) :: (.ifCond .eq 12, 3, [17], []) :: (.aload_n 0, 1, [], []) :: (.getfield 15, 3, [3, 1, 2, 36], []) :: (.iload_n 1, 1, [], []) :: (.iaload, 1, [], []) :: (.goto 4, 3, [18], []) :: []
def hgb40 : List (Nat × List Bool × List hgRow) := [(0, [true, true], hgr40_0), (17, [false, false], hgr40_17), (18, [false, false], hgr40_18)]
/- HomeGateway$PacketStore.followerOf(I)I -/
def hgr41_18 : List hgRow := (.ireturn, 1, [1], []) :: []
def hgr41_17 : List hgRow := (.iconst (-1), 1, [], []) :: hgr41_18
def hgr41_0 : List hgRow := (.aload_n 0, 1, [], []) :: (.iload_n 1, 1, [], []) :: (.invokevirtual 29, 3, [36, 2, 0, 886, 0, 0, 3], []) :: (.ifCond .eq 12, 3, [17], []) :: (.aload_n 0, 1, [], []) :: (.getfield 18, 3, [3, 2, 2, 37], []) :: (.iload_n 1, 1, [], []) :: (.iaload, 1, [], []) :: (.goto 4, 3, [18], []) :: []
def hgb41 : List (Nat × List Bool × List hgRow) := [(0, [true, true], hgr41_0), (17, [false, false], hgr41_17), (18, [false, false], hgr41_18)]
/- HomeGateway$Rule.<init>()V -/
def hgr42_0 : List hgRow := (.aload_n 0, 1, [], []) :: (.invokespecial 3, 3, [1005, 1, 1, 137, 0, 0, 99], []) :: (.aload_n 0, 1, [], []) :: (.iconst 0, 1, [], []) :: (.putfield 9, 3, [4, 0, 3, 138, 0], []) :: (.return_, 1, [], []) :: []
def hgb42 : List (Nat × List Bool × List hgRow) := [(0, [true], hgr42_0)]
/- HomeGateway$Rule.setUp(ZIIII)V -/
def hgr43_0 : List hgRow := (.aload_n 0, 1, [], []) :: (.iload_n 1, 1, [], []) :: (.putfield 9, 3, [4, 0, 3, 138, 0], []) :: (.aload_n 0, 1, [], []) :: (.iload_n 2, 1, [], []) :: (.putfield 15, 3, [4, 1, 0, 140, 0], []) :: (.aload_n 0, 1, [], []) :: (.iload_n 3, 1, [], []) :: (.putfield 19, 3, [4, 2, 0, 142, 0], []) :: (.aload_n 0, 1, [], []) :: (.iload 4, 2, [], []) :: (.putfield 22, 3, [4, 3, 0, 144, 0], []) :: (.aload_n 0, 1, [], []) :: (.iload 5, 2, [], []) :: (.putfield 25, 3, [4, 4, 0, 146, 0], []) :: (.return_, 1, [], []) :: []
def hgb43 : List (Nat × List Bool × List hgRow) := [(0, [true, true, true, true, true, true], hgr43_0)]
/- HomeGateway$Rule.copyFrom(LHomeGateway$Rule;)V -/
def hgr44_0 : List hgRow := (.aload_n 0, 1, [], []) :: (.aload_n 1, 1, [], []) :: (.getfield 9, 3, [4, 0, 3, 138], []) :: (.aload_n 1, 1, [], []) :: (.getfield 15, 3, [4, 1, 0, 140], []) :: (.aload_n 1, 1, [], []) :: (.getfield 19, 3, [4, 2, 0, 142], []) :: (.aload_n 1, 1, [], []) :: (.getfield 22, 3, [4, 3, 0, 144], []) :: (.aload_n 1, 1, [], []) :: (.getfield 25, 3, [4, 4, 0, 146], []) :: (.invokevirtual 28, 3, [43, 6, 1, 384, 0, 0, 4], []) :: (.return_, 1, [], []) :: []
def hgb44 : List (Nat × List Bool × List hgRow) := [(0, [true, true], hgr44_0)]
/- HomeGateway$Rule.matchesGroups(II)Z -/
def hgr45_37 : List hgRow := (.ireturn, 1, [3], []) :: []
def hgr45_36 : List hgRow := (.iconst 0, 1, [], []) :: hgr45_37
def hgr45_32 : List hgRow := (.iconst 1, 1, [], []) :: (.goto 4, 3, [37], []) :: []
def hgr45_16 : List hgRow := (.aload_n 0, 1, [], []) :: (.getfield 19, 3, [4, 2, 0, 142], []) :: (.iconst 4, 1, [], []) :: (.if_icmp .eq 11, 3, [32], []) :: (.aload_n 0, 1, [], []) :: (.getfield 19, 3, [4, 2, 0, 142], []) :: (.iload_n 2, 1, [], []) :: (.if_icmp .ne 7, 3, [36], []) :: hgr45_32
def hgr45_0 : List hgRow := (.aload_n 0, 1, [], []) :: (.getfield 15, 3, [4, 1, 0, 140], []) :: (.iconst 4, 1, [], []) :: (.if_icmp .eq 11, 3, [16], []) :: (.aload_n 0, 1, [], []) :: (.getfield 15, 3, [4, 1, 0, 140], []) :: (.iload_n 1, 1, [], []) :: (.if_icmp .ne 23, 3, [36], []) :: hgr45_16
def hgb45 : List (Nat × List Bool × List hgRow) := [(0, [true, true, true], hgr45_0), (16, [true, false, true], hgr45_16), (32, [false, false, false], hgr45_32), (36, [false, false, false], hgr45_36), (37, [false, false, false], hgr45_37)]
/- HomeGateway$Rule.matches(III)Z -/
def hgr46_30 : List hgRow := (.ireturn, 1, [3], []) :: []
def hgr46_29 : List hgRow := (.iconst 0, 1, [], []) :: hgr46_30
def hgr46_0 : List hgRow := (.aload_n 0, 1, [], []) :: (.getfield 22, 3, [4, 3, 0, 144], []) :: (.iload_n 3, 1, [], []) :: (.if_icmp .gt 24, 3, [29], []) :: (.iload_n 3, 1, [], []) :: (.aload_n 0, 1, [], []) :: (.getfield 25, 3, [4, 4, 0, 146], []) :: (.if_icmp .gt 16, 3, [29], []) :: (.aload_n 0, 1, [], []) :: (.iload_n 1, 1, [], []) :: (.iload_n 2, 1, [], []) :: (.invokevirtual 32, 3, [45, 3, 0, 790, 0, 0, 4], []) :: (.ifCond .eq 7, 3, [29], []) :: (.iconst 1, 1, [], []) :: (.goto 4, 3, [30], []) :: []
def hgb46 : List (Nat × List Bool × List hgRow) := [(0, [true, true, true, true], hgr46_0), (29, [false, false, false, false], hgr46_29), (30, [false, false, false, false], hgr46_30)]
/- HomeGateway$RuleList.<init>()V -/
def hgr47_40 : List hgRow := (.return_, 1, [], []) :: []
def hgr47_15 : List hgRow := (.iload_n 1, 1, [], []) :: (.bipush 12, 2, [], []) :: (.if_icmp .ge 22, 3, [40], []) :: (.aload_n 0, 1, [], []) :: (.getfield 11, 3, [5, 0, 2, 159], []) :: (.iload_n 1, 1, [], []) :: (.new 9, 3, [1, 4, 5, 131], []) :: (.dup, 1, [], []) :: (.invokespecial 17, 3, [42, 1, 1, 134, 0, 0, 4], []) :: (.aastore, 1, [], []) :: (.iinc 1 1, 3, [], []) :: (.goto (-22), 3, [15], []) :: []
def hgr47_0 : List hgRow := (.aload_n 0, 1, [], []) :: (.invokespecial 3, 3, [1005, 1, 1, 130, 0, 0, 99], []) :: (.aload_n 0, 1, [], []) :: (.bipush 12, 2, [], []) :: (.anewarray 9, 3, [25, 131], []) :: (.putfield 11, 3, [5, 0, 2, 159, 1], []) :: (.iconst 0, 1, [], []) :: (.istore_n 1, 1, [], []) :: hgr47_15
def hgb47 : List (Nat × List Bool × List hgRow) := [(0, [true, false], hgr47_0), (15, [true, true], hgr47_15), (40, [false, false], hgr47_40)]
/- HomeGateway$RuleList.copyFrom(LHomeGateway$RuleList;)V -/
def hgr48_39 : List hgRow := (.return_, 1, [], []) :: []
def hgr48_10 : List hgRow := (.iload_n 2, 1, [], []) :: (.aload_n 0, 1, [], []) :: (.getfield 18, 3, [5, 1, 0, 160], []) :: (.if_icmp .ge 24, 3, [39], []) :: (.aload_n 0, 1, [], []) :: (.getfield 11, 3, [5, 0, 2, 159], []) :: (.iload_n 2, 1, [], []) :: (.aaload, 1, [], []) :: (.aload_n 1, 1, [], []) :: (.getfield 11, 3, [5, 0, 2, 159], []) :: (.iload_n 2, 1, [], []) :: (.aaload, 1, [], []) :: (.invokevirtual 22, 3, [44, 2, 1, 380, 0, 0, 4], []) :: (.iinc 2 1, 3, [], []) :: (.goto (-26), 3, [10], []) :: []
def hgr48_0 : List hgRow := (.aload_n 0, 1, [], []) :: (.aload_n 1, 1, [], []) :: (.getfield 18, 3, [5, 1, 0, 160], []) :: (.putfield 18, 3, [5, 1, 0, 160, 0], []) :: (.iconst 0, 1, [], []) :: (.istore_n 2, 1, [], []) :: hgr48_10
def hgb48 : List (Nat × List Bool × List hgRow) := [(0, [true, true, false], hgr48_0), (10, [true, true, true], hgr48_10), (39, [false, false, false], hgr48_39)]
/- HomeGateway$RuleList.isFull()Z -/
def hgr49_14 : List hgRow := (.ireturn, 1, [3], []) :: []
def hgr49_13 : List hgRow := (.iconst 0, 1, [], []) :: hgr49_14
def hgr49_0 : List hgRow := (.aload_n 0, 1, [], []) :: (.getfield 18, 3, [5, 1, 0, 160], []) :: (.bipush 12, 2, [], []) :: (.if_icmp .lt 7, 3, [13], []) :: (.iconst 1, 1, [], []) :: (.goto 4, 3, [14], []) :: []
def hgb49 : List (Nat × List Bool × List hgRow) := [(0, [true], hgr49_0), (13, [false], hgr49_13), (14, [false], hgr49_14)]
/- HomeGateway$RuleList.putLast(ZIIII)V -/
def hgr50_45 : List hgRow := (.return_, 1, [], []) :: []
def hgr50_0 : List hgRow := (.aload_n 0, 1, [], []) :: (.getfield 18, 3, [5, 1, 0, 160], []) :: (.ifCond .lt 41, 3, [45], []) :: (.aload_n 0, 1, [], []) :: (.getfield 18, 3, [5, 1, 0, 160], []) :: (.bipush 12, 2, [], []) :: (.if_icmp .ge 32, 3, [45], []) :: (.aload_n 0, 1, [], []) :: (.getfield 11, 3, [5, 0, 2, 159], []) :: (.aload_n 0, 1, [], []) :: (.getfield 18, 3, [5, 1, 0, 160], []) :: (.aaload, 1, [], []) :: (.iload_n 1, 1, [], []) :: (.iload_n 2, 1, [], []) :: (.iload_n 3, 1, [], []) :: (.iload 4, 2, [], []) :: (.iload 5, 2, [], []) :: (.invokevirtual 26, 3, [43, 6, 1, 624, 0, 0, 4], []) :: (.aload_n 0, 1, [], []) :: (.dup, 1, [], []) :: (.getfield 18, 3, [5, 1, 0, 160], []) :: (.iconst 1, 1, [], []) :: (.iadd, 1, [], []) :: (.putfield 18, 3, [5, 1, 0, 160, 0], []) :: hgr50_45
def hgb50 : List (Nat × List Bool × List hgRow) := [(0, [true, true, true, true, true, true], hgr50_0), (45, [false, false, false, false, false, false], hgr50_45)]
/- HomeGateway$RuleList.takeOut(I)V -/
def hgr51_33 : List hgRow := (.return_, 1, [], []) :: []
def hgr51_0 : List hgRow := (.iload_n 1, 1, [], []) :: (.ifCond .lt 32, 3, [33], []) :: (.iload_n 1, 1, [], []) :: (.aload_n 0, 1, [], []) :: (.getfield 18, 3, [5, 1, 0, 160], []) :: (.if_icmp .ge 24, 3, [33], []) :: (.aload_n 0, 1, [], []) :: (.iload_n 1, 1, [], []) :: (.aload_n 0, 1, [], []) :: (.getfield 18, 3, [5, 1, 0, 160], []) :: (.iconst 1, 1, [], []) :: (.isub, 1, [], []) :: (.invokevirtual 30, 3, [52, 3, 1, 1031, 0, 0, 5], []) :: (.aload_n 0, 1, [], []) :: (.dup, 1, [], []) :: (.getfield 18, 3, [5, 1, 0, 160], []) :: (.iconst 1, 1, [], []) :: (.isub, 1, [], []) :: (.putfield 18, 3, [5, 1, 0, 160, 0], []) :: hgr51_33
def hgb51 : List (Nat × List Bool × List hgRow) := [(0, [true, true], hgr51_0), (33, [false, false], hgr51_33)]
/- HomeGateway$RuleList.shift(II)V -/
def hgr52_94 : List hgRow := (.aload_n 0, 1, [], []) :: (.getfield 11, 3, [5, 0, 2, 159], []) :: (.iload_n 2, 1, [], []) :: (.aload_n 3, 1, [], []) :: (.aastore, 1, [], []) :: (.return_, 1, [], []) :: []
def hgr52_66 : List hgRow := (.iload 4, 2, [], []) :: (.iload_n 2, 1, [], []) :: (.if_icmp .le 25, 3, [94], []) :: (.aload_n 0, 1, [], []) :: (.getfield 11, 3, [5, 0, 2, 159], []) :: (.iload 4, 2, [], []) :: (.aload_n 0, 1, [], []) :: (.getfield 11, 3, [5, 0, 2, 159], []) :: (.iload 4, 2, [], []) :: (.iconst 1, 1, [], []) :: (.isub, 1, [], []) :: (.aaload, 1, [], []) :: (.aastore, 1, [], []) :: (.iinc 4 (-1), 3, [], []) :: (.goto (-25), 3, [66], []) :: []
def hgr52_63 : List hgRow := (.iload_n 1, 1, [], []) :: (.istore 4, 2, [], []) :: hgr52_66
def hgr52_35 : List hgRow := (.iload 4, 2, [], []) :: (.iload_n 2, 1, [], []) :: (.if_icmp .ge 25, 3, [63], []) :: (.aload_n 0, 1, [], []) :: (.getfield 11, 3, [5, 0, 2, 159], []) :: (.iload 4, 2, [], []) :: (.aload_n 0, 1, [], []) :: (.getfield 11, 3, [5, 0, 2, 159], []) :: (.iload 4, 2, [], []) :: (.iconst 1, 1, [], []) :: (.iadd, 1, [], []) :: (.aaload, 1, [], []) :: (.aastore, 1, [], []) :: (.iinc 4 1, 3, [], []) :: (.goto (-25), 3, [35], []) :: []
def hgr52_25 : List hgRow := (.aload_n 0, 1, [], []) :: (.getfield 11, 3, [5, 0, 2, 159], []) :: (.iload_n 1, 1, [], []) :: (.aaload, 1, [], []) :: (.astore_n 3, 1, [], []) :: (.iload_n 1, 1, [], []) :: (.istore 4, 2, [], []) :: hgr52_35
def hgr52_24 : List hgRow := (.return_, 1, [], []) :: []
def hgr52_0 : List hgRow := (.iload_n 1, 1, [], []) :: (.ifCond .lt 23, 3, [24], []) :: (.iload_n 1, 1, [], []) :: (.aload_n 0, 1, [], []) :: (.getfield 18, 3, [5, 1, 0, 160], []) :: (.if_icmp .ge 15, 3, [24], []) :: (.iload_n 2, 1, [], []) :: (.ifCond .lt 11, 3, [24], []) :: (.iload_n 2, 1, [], []) :: (.aload_n 0, 1, [], []) :: (.getfield 18, 3, [5, 1, 0, 160], []) :: (.if_icmp .lt 4, 3, [25], []) :: hgr52_24
def hgb52 : List (Nat × List Bool × List hgRow) := [(0, [true, true, true, false, false], hgr52_0), (24, [false, false, false, false, false], hgr52_24), (25, [true, true, true, false, false], hgr52_25), (35, [true, true, true, true, true], hgr52_35), (63, [true, true, true, true, false], hgr52_63), (66, [true, false, true, true, true], hgr52_66), (94, [true, false, true, true, false], hgr52_94)]
/- HomeGateway$RuleList.firstMatch(III)I -/
def hgr53_37 : List hgRow := (.iconst (-1), 1, [], []) :: (.ireturn, 1, [1], []) :: []
def hgr53_31 : List hgRow := (.iinc 4 1, 3, [], []) :: (.goto (-31), 3, [3], []) :: []
def hgr53_3 : List hgRow := (.iload 4, 2, [], []) :: (.aload_n 0, 1, [], []) :: (.getfield 18, 3, [5, 1, 0, 160], []) :: (.if_icmp .ge 28, 3, [37], []) :: (.aload_n 0, 1, [], []) :: (.getfield 11, 3, [5, 0, 2, 159], []) :: (.iload 4, 2, [], []) :: (.aaload, 1, [], []) :: (.iload_n 1, 1, [], []) :: (.iload_n 2, 1, [], []) :: (.iload_n 3, 1, [], []) :: (.invokevirtual 34, 3, [46, 4, 0, 786, 0, 0, 4], []) :: (.ifCond .eq 6, 3, [31], []) :: (.iload 4, 2, [], []) :: (.ireturn, 1, [1], []) :: []
def hgr53_0 : List hgRow := (.iconst 0, 1, [], []) :: (.istore 4, 2, [], []) :: hgr53_3
def hgb53 : List (Nat × List Bool × List hgRow) := [(0, [true, true, true, true, false], hgr53_0), (3, [true, true, true, true, true], hgr53_3), (31, [true, true, true, true, true], hgr53_31), (37, [false, false, false, false, false], hgr53_37)]
/- HomeGateway$RuleList.allows(I)Z -/
def hgr54_29 : List hgRow := (.ireturn, 1, [3], []) :: []
def hgr54_28 : List hgRow := (.iconst 0, 1, [], []) :: hgr54_29
def hgr54_0 : List hgRow := (.iload_n 1, 1, [], []) :: (.ifCond .lt 27, 3, [28], []) :: (.iload_n 1, 1, [], []) :: (.aload_n 0, 1, [], []) :: (.getfield 18, 3, [5, 1, 0, 160], []) :: (.if_icmp .ge 19, 3, [28], []) :: (.aload_n 0, 1, [], []) :: (.getfield 11, 3, [5, 0, 2, 159], []) :: (.iload_n 1, 1, [], []) :: (.aaload, 1, [], []) :: (.getfield 38, 3, [4, 0, 3, 139], []) :: (.ifCond .eq 7, 3, [28], []) :: (.iconst 1, 1, [], []) :: (.goto 4, 3, [29], []) :: []
def hgb54 : List (Nat × List Bool × List hgRow) := [(0, [true, true], hgr54_0), (28, [false, false], hgr54_28), (29, [false, false], hgr54_29)]
/- HomeGateway$RuleList.nextEdge(I)I -/
def hgr55_78 : List hgRow := (.iload_n 2, 1, [], []) :: (.ireturn, 1, [1], []) :: []
def hgr55_72 : List hgRow := (.iinc 3 1, 3, [], []) :: (.goto (-69), 3, [6], []) :: []
def hgr55_41 : List hgRow := (.aload_n 0, 1, [], []) :: (.getfield 11, 3, [5, 0, 2, 159], []) :: (.iload_n 3, 1, [], []) :: (.aaload, 1, [], []) :: (.getfield 51, 3, [4, 4, 0, 147], []) :: (.iconst 1, 1, [], []) :: (.iadd, 1, [], []) :: (.iload_n 1, 1, [], []) :: (.if_icmp .le 19, 3, [72], []) :: (.iload_n 2, 1, [], []) :: (.aload_n 0, 1, [], []) :: (.getfield 11, 3, [5, 0, 2, 159], []) :: (.iload_n 3, 1, [], []) :: (.aaload, 1, [], []) :: (.getfield 51, 3, [4, 4, 0, 147], []) :: (.iconst 1, 1, [], []) :: (.iadd, 1, [], []) :: (.invokestatic 45, 3, [1001, 2, 0, 848, 0, 0, 99], []) :: (.istore_n 2, 1, [], []) :: hgr55_72
def hgr55_6 : List hgRow := (.iload_n 3, 1, [], []) :: (.aload_n 0, 1, [], []) :: (.getfield 18, 3, [5, 1, 0, 160], []) :: (.if_icmp .ge 67, 3, [78], []) :: (.aload_n 0, 1, [], []) :: (.getfield 11, 3, [5, 0, 2, 159], []) :: (.iload_n 3, 1, [], []) :: (.aaload, 1, [], []) :: (.getfield 42, 3, [4, 3, 0, 145], []) :: (.iload_n 1, 1, [], []) :: (.if_icmp .le 17, 3, [41], []) :: (.iload_n 2, 1, [], []) :: (.aload_n 0, 1, [], []) :: (.getfield 11, 3, [5, 0, 2, 159], []) :: (.iload_n 3, 1, [], []) :: (.aaload, 1, [], []) :: (.getfield 42, 3, [4, 3, 0, 145], []) :: (.invokestatic 45, 3, [1001, 2, 0, 848, 0, 0, 99], []) :: (.istore_n 2, 1, [], []) :: hgr55_41
def hgr55_0 : List hgRow := (.sipush 1000, 3, [], []) :: (.istore_n 2, 1, [], []) :: (.iconst 0, 1, [], []) :: (.istore_n 3, 1, [], []) :: hgr55_6
def hgb55 : List (Nat × List Bool × List hgRow) := [(0, [true, true, false, false], hgr55_0), (6, [true, true, true, true], hgr55_6), (41, [true, true, true, true], hgr55_41), (72, [true, true, true, true], hgr55_72), (78, [false, false, true, false], hgr55_78)]
/- HomeGateway$RuleList.isCovered(I)Z -/
def hgr56_66 : List hgRow := (.iconst 1, 1, [], []) :: (.ireturn, 1, [3], []) :: []
def hgr56_60 : List hgRow := (.iinc 2 1, 3, [], []) :: (.goto (-47), 3, [16], []) :: []
def hgr56_54 : List hgRow := (.iinc 3 1, 3, [], []) :: (.goto (-34), 3, [23], []) :: []
def hgr56_23 : List hgRow := (.iload_n 3, 1, [], []) :: (.iconst 3, 1, [], []) :: (.if_icmp .ge 35, 3, [60], []) :: (.aload_n 0, 1, [], []) :: (.getfield 11, 3, [5, 0, 2, 159], []) :: (.iload_n 1, 1, [], []) :: (.aaload, 1, [], []) :: (.iload_n 2, 1, [], []) :: (.iload_n 3, 1, [], []) :: (.invokevirtual 54, 3, [45, 3, 0, 823, 0, 0, 4], []) :: (.ifCond .eq 15, 3, [54], []) :: (.aload_n 0, 1, [], []) :: (.iload_n 1, 1, [], []) :: (.iload_n 2, 1, [], []) :: (.iload_n 3, 1, [], []) :: (.invokevirtual 58, 3, [57, 4, 0, 824, 0, 0, 5], []) :: (.ifCond .ne 5, 3, [54], []) :: (.iconst 0, 1, [], []) :: (.ireturn, 1, [3], []) :: []
def hgr56_16 : List hgRow := (.iload_n 2, 1, [], []) :: (.iconst 3, 1, [], []) :: (.if_icmp .gt 48, 3, [66], []) :: (.iconst 0, 1, [], []) :: (.istore_n 3, 1, [], []) :: hgr56_23
def hgr56_14 : List hgRow := (.iconst 0, 1, [], []) :: (.istore_n 2, 1, [], []) :: hgr56_16
def hgr56_12 : List hgRow := (.iconst 0, 1, [], []) :: (.ireturn, 1, [3], []) :: []
def hgr56_0 : List hgRow := (.iload_n 1, 1, [], []) :: (.ifCond .lt 11, 3, [12], []) :: (.iload_n 1, 1, [], []) :: (.aload_n 0, 1, [], []) :: (.getfield 18, 3, [5, 1, 0, 160], []) :: (.if_icmp .lt 5, 3, [14], []) :: hgr56_12
def hgb56 : List (Nat × List Bool × List hgRow) := [(0, [true, true, false, false], hgr56_0), (12, [false, false, false, false], hgr56_12), (14, [true, true, false, false], hgr56_14), (16, [true, true, true, false], hgr56_16), (23, [true, true, true, true], hgr56_23), (54, [true, true, true, true], hgr56_54), (60, [true, true, true, false], hgr56_60), (66, [false, false, false, false], hgr56_66)]
/- HomeGateway$RuleList.isCoveredFor(III)Z -/
def hgr57_107 : List hgRow := (.iconst 1, 1, [], []) :: (.ireturn, 1, [3], []) :: []
def hgr57_101 : List hgRow := (.iinc 6 1, 3, [], []) :: (.goto (-51), 3, [53], []) :: []
def hgr57_53 : List hgRow := (.iload 6, 2, [], []) :: (.iload_n 1, 1, [], []) :: (.if_icmp .ge 51, 3, [107], []) :: (.aload_n 0, 1, [], []) :: (.getfield 11, 3, [5, 0, 2, 159], []) :: (.iload 6, 2, [], []) :: (.aaload, 1, [], []) :: (.getfield 51, 3, [4, 4, 0, 147], []) :: (.iconst 1, 1, [], []) :: (.iadd, 1, [], []) :: (.istore 7, 2, [], []) :: (.iload 4, 2, [], []) :: (.iload 7, 2, [], []) :: (.if_icmp .gt 24, 3, [101], []) :: (.iload 7, 2, [], []) :: (.iload 5, 2, [], []) :: (.if_icmp .gt 17, 3, [101], []) :: (.aload_n 0, 1, [], []) :: (.iload_n 1, 1, [], []) :: (.iload_n 2, 1, [], []) :: (.iload_n 3, 1, [], []) :: (.iload 7, 2, [], []) :: (.invokevirtual 61, 3, [58, 5, 0, 828, 0, 0, 5], []) :: (.ifCond .ne 5, 3, [101], []) :: (.iconst 0, 1, [], []) :: (.ireturn, 1, [3], []) :: []
def hgr57_50 : List hgRow := (.iconst 0, 1, [], []) :: (.istore 6, 2, [], []) :: hgr57_53
def hgr57_14 : List hgRow := (.aload_n 0, 1, [], []) :: (.getfield 11, 3, [5, 0, 2, 159], []) :: (.iload_n 1, 1, [], []) :: (.aaload, 1, [], []) :: (.getfield 42, 3, [4, 3, 0, 145], []) :: (.istore 4, 2, [], []) :: (.aload_n 0, 1, [], []) :: (.getfield 11, 3, [5, 0, 2, 159], []) :: (.iload_n 1, 1, [], []) :: (.aaload, 1, [], []) :: (.getfield 51, 3, [4, 4, 0, 147], []) :: (.istore 5, 2, [], []) :: (.aload_n 0, 1, [], []) :: (.iload_n 1, 1, [], []) :: (.iload_n 2, 1, [], []) :: (.iload_n 3, 1, [], []) :: (.iload 4, 2, [], []) :: (.invokevirtual 61, 3, [58, 5, 0, 828, 0, 0, 5], []) :: (.ifCond .ne 5, 3, [50], []) :: (.iconst 0, 1, [], []) :: (.ireturn, 1, [3], []) :: []
def hgr57_12 : List hgRow := (.iconst 0, 1, [], []) :: (.ireturn, 1, [3], []) :: []
def hgr57_0 : List hgRow := (.iload_n 1, 1, [], []) :: (.ifCond .lt 11, 3, [12], []) :: (.iload_n 1, 1, [], []) :: (.aload_n 0, 1, [], []) :: (.getfield 18, 3, [5, 1, 0, 160], []) :: (.if_icmp .lt 5, 3, [14], []) :: hgr57_12
def hgb57 : List (Nat × List Bool × List hgRow) := [(0, [true, true, true, true, false, false, false, false], hgr57_0), (12, [false, false, false, false, false, false, false, false], hgr57_12), (14, [true, true, true, true, false, false, false, false], hgr57_14), (50, [true, true, true, true, true, true, false, false], hgr57_50), (53, [true, true, true, true, true, true, true, false], hgr57_53), (101, [true, true, true, true, true, true, true, false], hgr57_101), (107, [false, false, false, false, false, false, false, false], hgr57_107)]
/- HomeGateway$RuleList.matchesEarlier(IIII)Z -/
def hgr58_26 : List hgRow := (.ireturn, 1, [3], []) :: []
def hgr58_25 : List hgRow := (.iconst 0, 1, [], []) :: hgr58_26
def hgr58_0 : List hgRow := (.aload_n 0, 1, [], []) :: (.iload_n 2, 1, [], []) :: (.iload_n 3, 1, [], []) :: (.iload 4, 2, [], []) :: (.invokevirtual 65, 3, [53, 4, 0, 832, 0, 0, 5], []) :: (.istore 5, 2, [], []) :: (.iload 5, 2, [], []) :: (.ifCond .lt 13, 3, [25], []) :: (.iload 5, 2, [], []) :: (.iload_n 1, 1, [], []) :: (.if_icmp .ge 7, 3, [25], []) :: (.iconst 1, 1, [], []) :: (.goto 4, 3, [26], []) :: []
def hgb58 : List (Nat × List Bool × List hgRow) := [(0, [true, true, true, true, true, false], hgr58_0), (25, [false, false, false, false, false, false], hgr58_25), (26, [false, false, false, false, false, false], hgr58_26)]
/- HomeGateway$RuleList.addTo(J)J -/
def hgr59_102 : List hgRow := (.lload_n 3, 1, [], []) :: (.lreturn, 1, [], []) :: []
def hgr59_41 : List hgRow := (.i2l, 1, [], []) :: (.ladd, 1, [], []) :: (.lstore_n 3, 1, [], []) :: (.ldc2_w 69, 3, [0, 401, 31], []) :: (.lload_n 3, 1, [], []) :: (.lmul, 1, [], []) :: (.aload 6, 2, [], []) :: (.getfield 71, 3, [4, 1, 0, 141], []) :: (.i2l, 1, [], []) :: (.ladd, 1, [], []) :: (.lstore_n 3, 1, [], []) :: (.ldc2_w 69, 3, [0, 401, 31], []) :: (.lload_n 3, 1, [], []) :: (.lmul, 1, [], []) :: (.aload 6, 2, [], []) :: (.getfield 74, 3, [4, 2, 0, 143], []) :: (.i2l, 1, [], []) :: (.ladd, 1, [], []) :: (.lstore_n 3, 1, [], []) :: (.ldc2_w 69, 3, [0, 401, 31], []) :: (.lload_n 3, 1, [], []) :: (.lmul, 1, [], []) :: (.aload 6, 2, [], []) :: (.getfield 42, 3, [4, 3, 0, 145], []) :: (.i2l, 1, [], []) :: (.ladd, 1, [], []) :: (.lstore_n 3, 1, [], []) :: (.ldc2_w 69, 3, [0, 401, 31], []) :: (.lload_n 3, 1, [], []) :: (.lmul, 1, [], []) :: (.aload 6, 2, [], []) :: (.getfield 51, 3, [4, 4, 0, 147], []) :: (.i2l, 1, [], []) :: (.ladd, 1, [], []) :: (.lstore_n 3, 1, [], []) :: (.iinc 5 1, 3, [], []) :: (.goto (-94), 3, [5], []) :: []
def hgr59_40 : List hgRow := (.iconst 0, 1, [], []) :: hgr59_41
def hgr59_5 : List hgRow := (.iload 5, 2, [], []) :: (.aload_n 0, 1, [], []) :: (.getfield 18, 3, [5, 1, 0, 160], []) :: (.if_icmp .ge 91, 3, [102], []) :: (.aload_n 0, 1, [], []) :: (.getfield 11, 3, [5, 0, 2, 159], []) :: (.iload 5, 2, [], []) :: (.aaload, 1, [], []) :: (.astore 6, 2, [], []) :: (.ldc2_w 69, 3, [0, 401, 31], []) :: (.lload_n 3, 1, [], []) :: (.lmul, 1, [], []) :: (.aload 6, 2, [], []) :: (.getfield 38, 3, [4, 0, 3, 139], []) :: (.ifCond .eq 7, 3, [40], []) :: (.iconst 1, 1, [], []) :: (.goto 4, 3, [41], []) :: []
def hgr59_0 : List hgRow := (.lload_n 1, 1, [], []) :: (.lstore_n 3, 1, [], []) :: (.iconst 0, 1, [], []) :: (.istore 5, 2, [], []) :: hgr59_5
def hgb59 : List (Nat × List Bool × List hgRow) := [(0, [true, true, false, false, false, false, false], hgr59_0), (5, [true, false, false, true, false, true, false], hgr59_5), (40, [true, false, false, false, false, true, true], hgr59_40), (41, [true, false, false, false, false, true, true], hgr59_41), (102, [false, false, false, true, false, false, false], hgr59_102)]
/- HomeGateway$SetupReader.<init>([BLHomeGateway$Gateway;)V -/
def hgr60_0 : List hgRow := (.aload_n 0, 1, [], []) :: (.invokespecial 3, 3, [1005, 1, 1, 256, 0, 0, 99], []) :: (.aload_n 0, 1, [], []) :: (.aload_n 1, 1, [], []) :: (.putfield 9, 3, [6, 0, 2, 257, 1], []) :: (.aload_n 0, 1, [], []) :: (.aload_n 2, 1, [], []) :: (.putfield 15, 3, [6, 5, 2, 262, 1], []) :: (.aload_n 0, 1, [], []) :: (.iconst 3, 1, [], []) :: (.newarray .boolean, 2, [23], []) :: (.putfield 19, 3, [6, 8, 2, 265, 1], []) :: (.aload_n 0, 1, [], []) :: (.iconst (-1), 1, [], []) :: (.putfield 23, 3, [6, 10, 0, 267, 0], []) :: (.return_, 1, [], []) :: []
def hgb60 : List (Nat × List Bool × List hgRow) := [(0, [true, true, true], hgr60_0)]
/- HomeGateway$SetupReader.readDraft(I)I -/
def hgr61_131 : List hgRow := (.aload_n 0, 1, [], []) :: (.getfield 51, 3, [6, 9, 0, 266], []) :: (.ireturn, 1, [1], []) :: []
def hgr61_124 : List hgRow := (.istore_n 2, 1, [], []) :: (.iinc 3 1, 3, [], []) :: (.goto (-41), 3, [87], []) :: []
def hgr61_123 : List hgRow := (.iconst 0, 1, [], []) :: hgr61_124
def hgr61_87 : List hgRow := (.iload_n 3, 1, [], []) :: (.sipush 900, 3, [], []) :: (.if_icmp .ge 40, 3, [131], []) :: (.iload_n 2, 1, [], []) :: (.ifCond .eq 36, 3, [131], []) :: (.aload_n 0, 1, [], []) :: (.invokevirtual 61, 3, [67, 1, 0, 581, 0, 0, 6], []) :: (.ifCond .ne 29, 3, [131], []) :: (.aload_n 0, 1, [], []) :: (.invokevirtual 64, 3, [74, 1, 0, 585, 0, 0, 6], []) :: (.ifCond .eq 14, 3, [123], []) :: (.aload_n 0, 1, [], []) :: (.invokevirtual 58, 3, [68, 1, 0, 577, 0, 0, 6], []) :: (.ifCond .eq 7, 3, [123], []) :: (.iconst 1, 1, [], []) :: (.goto 4, 3, [124], []) :: []
def hgr61_84 : List hgRow := (.istore_n 2, 1, [], []) :: (.iconst 0, 1, [], []) :: (.istore_n 3, 1, [], []) :: hgr61_87
def hgr61_83 : List hgRow := (.iconst 0, 1, [], []) :: hgr61_84
def hgr61_55 : List hgRow := (.aload_n 0, 1, [], []) :: (.iconst 0, 1, [], []) :: (.putfield 51, 3, [6, 9, 0, 266, 0], []) :: (.aload_n 0, 1, [], []) :: (.iconst (-1), 1, [], []) :: (.putfield 23, 3, [6, 10, 0, 267, 0], []) :: (.aload_n 0, 1, [], []) :: (.invokevirtual 54, 3, [73, 1, 0, 492, 0, 0, 6], []) :: (.ifCond .eq 14, 3, [83], []) :: (.aload_n 0, 1, [], []) :: (.invokevirtual 58, 3, [68, 1, 0, 577, 0, 0, 6], []) :: (.ifCond .eq 7, 3, [83], []) :: (.iconst 1, 1, [], []) :: (.goto 4, 3, [84], []) :: []
def hgr61_37 : List hgRow := (.iload_n 2, 1, [], []) :: (.iconst 3, 1, [], []) :: (.if_icmp .ge 16, 3, [55], []) :: (.aload_n 0, 1, [], []) :: (.getfield 19, 3, [6, 8, 2, 265], []) :: (.iload_n 2, 1, [], []) :: (.iconst 0, 1, [], []) :: (.bastore, 1, [], []) :: (.iinc 2 1, 3, [], []) :: (.goto (-15), 3, [37], []) :: []
def hgr61_0 : List hgRow := (.aload_n 0, 1, [], []) :: (.getfield 15, 3, [6, 5, 2, 262], []) :: (.invokevirtual 27, 3, [10, 1, 1, 481, 0, 0, 1], []) :: (.aload_n 0, 1, [], []) :: (.iload_n 1, 1, [], []) :: (.aload_n 0, 1, [], []) :: (.getfield 9, 3, [6, 0, 2, 257], []) :: (.arraylength, 1, [], []) :: (.invokestatic 32, 3, [1001, 2, 0, 489, 0, 0, 99], []) :: (.putfield 38, 3, [6, 1, 0, 258, 0], []) :: (.aload_n 0, 1, [], []) :: (.iconst 0, 1, [], []) :: (.putfield 41, 3, [6, 2, 0, 259, 0], []) :: (.aload_n 0, 1, [], []) :: (.iconst 0, 1, [], []) :: (.putfield 44, 3, [6, 6, 3, 263, 0], []) :: (.aload_n 0, 1, [], []) :: (.iconst 0, 1, [], []) :: (.putfield 48, 3, [6, 7, 3, 264, 0], []) :: (.iconst 0, 1, [], []) :: (.istore_n 2, 1, [], []) :: hgr61_37
def hgb61 : List (Nat × List Bool × List hgRow) := [(0, [true, true, false, false], hgr61_0), (37, [true, false, true, false], hgr61_37), (55, [true, false, false, false], hgr61_55), (83, [true, false, false, false], hgr61_83), (84, [true, false, false, false], hgr61_84), (87, [true, false, true, true], hgr61_87), (123, [true, false, false, true], hgr61_123), (124, [true, false, false, true], hgr61_124), (131, [true, false, false, false], hgr61_131)]
/- HomeGateway$SetupReader.fail(I)Z -/
def hgr62_0 : List hgRow := (.aload_n 0, 1, [], []) :: (.iload_n 1, 1, [], []) :: (.putfield 51, 3, [6, 9, 0, 266, 0], []) :: (.aload_n 0, 1, [], []) :: (.aload_n 0, 1, [], []) :: (.getfield 67, 3, [6, 3, 0, 260], []) :: (.putfield 23, 3, [6, 10, 0, 267, 0], []) :: (.iconst 0, 1, [], []) :: (.ireturn, 1, [3], []) :: []
def hgb62 : List (Nat × List Bool × List hgRow) := [(0, [true, true], hgr62_0)]
/- HomeGateway$SetupReader.byteAt(I)I -/
def hgr63_35 : List hgRow := (.ireturn, 1, [1], []) :: []
def hgr63_34 : List hgRow := (.iconst 0, 1, [], []) :: hgr63_35
def hgr63_0 : List hgRow := (.iload_n 1, 1, [], []) :: (.ifCond .lt 33, 3, [34], []) :: (.iload_n 1, 1, [], []) :: (.aload_n 0, 1, [], []) :: (.getfield 38, 3, [6, 1, 0, 258], []) :: (.if_icmp .ge 25, 3, [34], []) :: (.iload_n 1, 1, [], []) :: (.aload_n 0, 1, [], []) :: (.getfield 9, 3, [6, 0, 2, 257], []) :: (.arraylength, 1, [], []) :: (.if_icmp .ge 16, 3, [34], []) :: (.aload_n 0, 1, [], []) :: (.getfield 9, 3, [6, 0, 2, 257], []) :: (.iload_n 1, 1, [], []) :: (.baload, 1, [], []) :: (.sipush 255, 3, [], []) :: (.iand, 1, [], []) :: (.goto 4, 3, [35], []) :: []
def hgb63 : List (Nat × List Bool × List hgRow) := [(0, [true, true], hgr63_0), (34, [false, false], hgr63_34), (35, [false, false], hgr63_35)]
/- HomeGateway$SetupReader.isLetterAt(I)Z -/
def hgr64_25 : List hgRow := (.ireturn, 1, [3], []) :: []
def hgr64_24 : List hgRow := (.iconst 0, 1, [], []) :: hgr64_25
def hgr64_0 : List hgRow := (.aload_n 0, 1, [], []) :: (.iload_n 1, 1, [], []) :: (.invokevirtual 70, 3, [63, 2, 0, 504, 0, 0, 6], []) :: (.bipush 97, 2, [], []) :: (.if_icmp .lt 17, 3, [24], []) :: (.aload_n 0, 1, [], []) :: (.iload_n 1, 1, [], []) :: (.invokevirtual 70, 3, [63, 2, 0, 504, 0, 0, 6], []) :: (.bipush 122, 2, [], []) :: (.if_icmp .gt 7, 3, [24], []) :: (.iconst 1, 1, [], []) :: (.goto 4, 3, [25], []) :: []
def hgb64 : List (Nat × List Bool × List hgRow) := [(0, [true, true], hgr64_0), (24, [false, false], hgr64_24), (25, [false, false], hgr64_25)]
/- HomeGateway$SetupReader.isDigitAt(I)Z -/
def hgr65_25 : List hgRow := (.ireturn, 1, [3], []) :: []
def hgr65_24 : List hgRow := (.iconst 0, 1, [], []) :: hgr65_25
def hgr65_0 : List hgRow := (.aload_n 0, 1, [], []) :: (.iload_n 1, 1, [], []) :: (.invokevirtual 70, 3, [63, 2, 0, 504, 0, 0, 6], []) :: (.bipush 48, 2, [], []) :: (.if_icmp .lt 17, 3, [24], []) :: (.aload_n 0, 1, [], []) :: (.iload_n 1, 1, [], []) :: (.invokevirtual 70, 3, [63, 2, 0, 504, 0, 0, 6], []) :: (.bipush 57, 2, [], []) :: (.if_icmp .gt 7, 3, [24], []) :: (.iconst 1, 1, [], []) :: (.goto 4, 3, [25], []) :: []
def hgb65 : List (Nat × List Bool × List hgRow) := [(0, [true, true], hgr65_0), (24, [false, false], hgr65_24), (25, [false, false], hgr65_25)]
/- HomeGateway$SetupReader.startToken()V -/
def hgr66_37 : List hgRow := (.aload_n 0, 1, [], []) :: (.aload_n 0, 1, [], []) :: (.getfield 41, 3, [6, 2, 0, 259], []) :: (.putfield 67, 3, [6, 3, 0, 260, 0], []) :: (.return_, 1, [], []) :: []
def hgr66_0 : List hgRow := (.aload_n 0, 1, [], []) :: (.getfield 41, 3, [6, 2, 0, 259], []) :: (.aload_n 0, 1, [], []) :: (.getfield 38, 3, [6, 1, 0, 258], []) :: (.if_icmp .ge 29, 3, [37], []) :: (.aload_n 0, 1, [], []) :: (.aload_n 0, 1, [], []) :: (.getfield 41, 3, [6, 2, 0, 259], []) :: (.invokevirtual 70, 3, [63, 2, 0, 504, 0, 0, 6], []) :: (.bipush 32, 2, [], []) :: (.if_icmp .ne 16, 3, [37], []) :: (.aload_n 0, 1, [], []) :: (.dup, 1, [], []) :: (.getfield 41, 3, [6, 2, 0, 259], []) :: (.iconst 1, 1, [], []) :: (.iadd, 1, [], []) :: (.putfield 41, 3, [6, 2, 0, 259, 0], []) :: (.goto (-34), 3, [0], []) :: []
def hgb66 : List (Nat × List Bool × List hgRow) := [(0, [true], hgr66_0), (37, [true], hgr66_37)]
/- HomeGateway$SetupReader.isAtEnd()Z -/
def hgr67_20 : List hgRow := (.ireturn, 1, [3], []) :: []
def hgr67_19 : List hgRow := (.iconst 0, 1, [], []) :: hgr67_20
def hgr67_0 : List hgRow := (.aload_n 0, 1, [], []) :: (.invokevirtual 74, 3, [66, 1, 1, 500, 0, 0, 6], []) :: (.aload_n 0, 1, [], []) :: (.getfield 41, 3, [6, 2, 0, 259], []) :: (.aload_n 0, 1, [], []) :: (.getfield 38, 3, [6, 1, 0, 258], []) :: (.if_icmp .lt 7, 3, [19], []) :: (.iconst 1, 1, [], []) :: (.goto 4, 3, [20], []) :: []
def hgb67 : List (Nat × List Bool × List hgRow) := [(0, [true], hgr67_0), (19, [false], hgr67_19), (20, [false], hgr67_20)]
/- HomeGateway$SetupReader.readSemicolon()Z -/
def hgr68_24 : List hgRow := (.aload_n 0, 1, [], []) :: (.dup, 1, [], []) :: (.getfield 41, 3, [6, 2, 0, 259], []) :: (.iconst 1, 1, [], []) :: (.iadd, 1, [], []) :: (.putfield 41, 3, [6, 2, 0, 259, 0], []) :: (.iconst 1, 1, [], []) :: (.ireturn, 1, [3], []) :: []
def hgr68_0 : List hgRow := (.aload_n 0, 1, [], []) :: (.invokevirtual 74, 3, [66, 1, 1, 500, 0, 0, 6], []) :: (.aload_n 0, 1, [], []) :: (.aload_n 0, 1, [], []) :: (.getfield 41, 3, [6, 2, 0, 259], []) :: (.invokevirtual 70, 3, [63, 2, 0, 504, 0, 0, 6], []) :: (.bipush 59, 2, [], []) :: (.if_icmp .eq 10, 3, [24], []) :: (.aload_n 0, 1, [], []) :: (.bipush (-2), 2, [], []) :: (.invokevirtual 77, 3, [62, 2, 0, 565, 0, 0, 6], []) :: (.ireturn, 1, [3], []) :: []
def hgb68 : List (Nat × List Bool × List hgRow) := [(0, [true], hgr68_0), (24, [true], hgr68_24)]
/- HomeGateway$SetupReader.readWord()V -/
def hgr69_39 : List hgRow := (.return_, 1, [], []) :: []
def hgr69_4 : List hgRow := (.aload_n 0, 1, [], []) :: (.getfield 41, 3, [6, 2, 0, 259], []) :: (.aload_n 0, 1, [], []) :: (.getfield 38, 3, [6, 1, 0, 258], []) :: (.if_icmp .ge 27, 3, [39], []) :: (.aload_n 0, 1, [], []) :: (.aload_n 0, 1, [], []) :: (.getfield 41, 3, [6, 2, 0, 259], []) :: (.invokevirtual 81, 3, [64, 2, 0, 508, 0, 0, 6], []) :: (.ifCond .eq 16, 3, [39], []) :: (.aload_n 0, 1, [], []) :: (.dup, 1, [], []) :: (.getfield 41, 3, [6, 2, 0, 259], []) :: (.iconst 1, 1, [], []) :: (.iadd, 1, [], []) :: (.putfield 41, 3, [6, 2, 0, 259, 0], []) :: (.goto (-32), 3, [4], []) :: []
def hgr69_0 : List hgRow := (.aload_n 0, 1, [], []) :: (.invokevirtual 74, 3, [66, 1, 1, 500, 0, 0, 6], []) :: hgr69_4
def hgb69 : List (Nat × List Bool × List hgRow) := [(0, [true], hgr69_0), (4, [true], hgr69_4), (39, [false], hgr69_39)]
/- HomeGateway$SetupReader.isWord(Ljava/lang/String;)Z -/
def hgr70_54 : List hgRow := (.iconst 1, 1, [], []) :: (.ireturn, 1, [3], []) :: []
def hgr70_48 : List hgRow := (.iinc 2 1, 3, [], []) :: (.goto (-31), 3, [20], []) :: []
def hgr70_20 : List hgRow := (.iload_n 2, 1, [], []) :: (.aload_n 1, 1, [], []) :: (.invokevirtual 84, 3, [1003, 1, 0, 517, 0, 0, 99], []) :: (.if_icmp .ge 29, 3, [54], []) :: (.aload_n 0, 1, [], []) :: (.aload_n 0, 1, [], []) :: (.getfield 67, 3, [6, 3, 0, 260], []) :: (.iload_n 2, 1, [], []) :: (.iadd, 1, [], []) :: (.invokevirtual 70, 3, [63, 2, 0, 504, 0, 0, 6], []) :: (.aload_n 1, 1, [], []) :: (.iload_n 2, 1, [], []) :: (.invokevirtual 89, 3, [1004, 2, 0, 527, 0, 0, 99], []) :: (.if_icmp .eq 5, 3, [48], []) :: (.iconst 0, 1, [], []) :: (.ireturn, 1, [3], []) :: []
def hgr70_18 : List hgRow := (.iconst 0, 1, [], []) :: (.istore_n 2, 1, [], []) :: hgr70_20
def hgr70_0 : List hgRow := (.aload_n 0, 1, [], []) :: (.getfield 41, 3, [6, 2, 0, 259], []) :: (.aload_n 0, 1, [], []) :: (.getfield 67, 3, [6, 3, 0, 260], []) :: (.isub, 1, [], []) :: (.aload_n 1, 1, [], []) :: (.invokevirtual 84, 3, [1003, 1, 0, 517, 0, 0, 99], []) :: (.if_icmp .eq 5, 3, [18], []) :: (.iconst 0, 1, [], []) :: (.ireturn, 1, [3], []) :: []
def hgb70 : List (Nat × List Bool × List hgRow) := [(0, [true, true, false], hgr70_0), (18, [true, true, false], hgr70_18), (20, [true, true, true], hgr70_20), (48, [true, true, true], hgr70_48), (54, [false, false, false], hgr70_54)]
/- HomeGateway$SetupReader.readNumber(II)Z -/
def hgr71_114 : List hgRow := (.iconst 1, 1, [], []) :: (.ireturn, 1, [3], []) :: []
def hgr71_107 : List hgRow := (.aload_n 0, 1, [], []) :: (.bipush (-3), 2, [], []) :: (.invokevirtual 77, 3, [62, 2, 0, 565, 0, 0, 6], []) :: (.ireturn, 1, [3], []) :: []
def hgr71_91 : List hgRow := (.aload_n 0, 1, [], []) :: (.getfield 96, 3, [6, 4, 0, 261], []) :: (.iload_n 1, 1, [], []) :: (.if_icmp .lt 11, 3, [107], []) :: (.aload_n 0, 1, [], []) :: (.getfield 96, 3, [6, 4, 0, 261], []) :: (.iload_n 2, 1, [], []) :: (.if_icmp .le 10, 3, [114], []) :: hgr71_107
def hgr71_27 : List hgRow := (.aload_n 0, 1, [], []) :: (.getfield 41, 3, [6, 2, 0, 259], []) :: (.aload_n 0, 1, [], []) :: (.getfield 38, 3, [6, 1, 0, 258], []) :: (.if_icmp .ge 56, 3, [91], []) :: (.aload_n 0, 1, [], []) :: (.aload_n 0, 1, [], []) :: (.getfield 41, 3, [6, 2, 0, 259], []) :: (.invokevirtual 93, 3, [65, 2, 0, 573, 0, 0, 6], []) :: (.ifCond .eq 45, 3, [91], []) :: (.aload_n 0, 1, [], []) :: (.bipush 10, 2, [], []) :: (.aload_n 0, 1, [], []) :: (.getfield 96, 3, [6, 4, 0, 261], []) :: (.imul, 1, [], []) :: (.aload_n 0, 1, [], []) :: (.aload_n 0, 1, [], []) :: (.getfield 41, 3, [6, 2, 0, 259], []) :: (.invokevirtual 70, 3, [63, 2, 0, 504, 0, 0, 6], []) :: (.iadd, 1, [], []) :: (.bipush 48, 2, [], []) :: (.isub, 1, [], []) :: (.sipush 10000, 3, [], []) :: (.invokestatic 32, 3, [1001, 2, 0, 489, 0, 0, 99], []) :: (.putfield 96, 3, [6, 4, 0, 261, 0], []) :: (.aload_n 0, 1, [], []) :: (.dup, 1, [], []) :: (.getfield 41, 3, [6, 2, 0, 259], []) :: (.iconst 1, 1, [], []) :: (.iadd, 1, [], []) :: (.putfield 41, 3, [6, 2, 0, 259, 0], []) :: (.goto (-61), 3, [27], []) :: []
def hgr71_22 : List hgRow := (.aload_n 0, 1, [], []) :: (.iconst 0, 1, [], []) :: (.putfield 96, 3, [6, 4, 0, 261, 0], []) :: hgr71_27
def hgr71_0 : List hgRow := (.aload_n 0, 1, [], []) :: (.invokevirtual 74, 3, [66, 1, 1, 500, 0, 0, 6], []) :: (.aload_n 0, 1, [], []) :: (.aload_n 0, 1, [], []) :: (.getfield 41, 3, [6, 2, 0, 259], []) :: (.invokevirtual 93, 3, [65, 2, 0, 573, 0, 0, 6], []) :: (.ifCond .ne 10, 3, [22], []) :: (.aload_n 0, 1, [], []) :: (.bipush (-2), 2, [], []) :: (.invokevirtual 77, 3, [62, 2, 0, 565, 0, 0, 6], []) :: (.ireturn, 1, [3], []) :: []
def hgb71 : List (Nat × List Bool × List hgRow) := [(0, [true, true, true], hgr71_0), (22, [true, true, true], hgr71_22), (27, [true, true, true], hgr71_27), (91, [true, true, true], hgr71_91), (107, [true, false, false], hgr71_107), (114, [false, false, false], hgr71_114)]
/- HomeGateway$SetupReader.readSelector()I -/
def hgr72_62 : List hgRow := (.ireturn, 1, [1], []) :: []
def hgr72_61 : List hgRow := (.iconst (-1), 1, [], []) :: hgr72_62
def hgr72_48 : List hgRow := (.aload_n 0, 1, [], []) :: (.ldc 114, 2, [2, 602, 1004], []) :: (.invokevirtual 104, 3, [70, 2, 0, 513, 0, 0, 6], []) :: (.ifCond .eq 7, 3, [61], []) :: (.iconst 4, 1, [], []) :: (.goto 4, 3, [62], []) :: []
def hgr72_37 : List hgRow := (.aload_n 0, 1, [], []) :: (.ldc 112, 2, [2, 601, 1003], []) :: (.invokevirtual 104, 3, [70, 2, 0, 513, 0, 0, 6], []) :: (.ifCond .eq 5, 3, [48], []) :: (.iconst 3, 1, [], []) :: (.ireturn, 1, [1], []) :: []
def hgr72_26 : List hgRow := (.aload_n 0, 1, [], []) :: (.ldc 110, 2, [2, 600, 1002], []) :: (.invokevirtual 104, 3, [70, 2, 0, 513, 0, 0, 6], []) :: (.ifCond .eq 5, 3, [37], []) :: (.iconst 2, 1, [], []) :: (.ireturn, 1, [1], []) :: []
def hgr72_15 : List hgRow := (.aload_n 0, 1, [], []) :: (.ldc 108, 2, [2, 599, 1001], []) :: (.invokevirtual 104, 3, [70, 2, 0, 513, 0, 0, 6], []) :: (.ifCond .eq 5, 3, [26], []) :: (.iconst 1, 1, [], []) :: (.ireturn, 1, [1], []) :: []
def hgr72_0 : List hgRow := (.aload_n 0, 1, [], []) :: (.invokevirtual 99, 3, [69, 1, 1, 496, 0, 0, 6], []) :: (.aload_n 0, 1, [], []) :: (.ldc 102, 2, [2, 598, 1000], []) :: (.invokevirtual 104, 3, [70, 2, 0, 513, 0, 0, 6], []) :: (.ifCond .eq 5, 3, [15], []) :: (.iconst 0, 1, [], []) :: (.ireturn, 1, [1], []) :: []
def hgb72 : List (Nat × List Bool × List hgRow) := [(0, [true], hgr72_0), (15, [true], hgr72_15), (26, [true], hgr72_26), (37, [true], hgr72_37), (48, [true], hgr72_48), (61, [false], hgr72_61), (62, [false], hgr72_62)]
/- HomeGateway$SetupReader.readHead()Z -/
def hgr73_56 : List hgRow := (.aload_n 0, 1, [], []) :: (.getfield 15, 3, [6, 5, 2, 262], []) :: (.aload_n 0, 1, [], []) :: (.getfield 96, 3, [6, 4, 0, 261], []) :: (.putfield 125, 3, [1, 3, 0, 174, 0], []) :: (.iconst 1, 1, [], []) :: (.ireturn, 1, [3], []) :: []
def hgr73_33 : List hgRow := (.aload_n 0, 1, [], []) :: (.getfield 15, 3, [6, 5, 2, 262], []) :: (.aload_n 0, 1, [], []) :: (.getfield 96, 3, [6, 4, 0, 261], []) :: (.putfield 122, 3, [1, 2, 0, 172, 0], []) :: (.aload_n 0, 1, [], []) :: (.iconst 1, 1, [], []) :: (.bipush 100, 2, [], []) :: (.invokevirtual 118, 3, [71, 3, 0, 569, 0, 0, 6], []) :: (.ifCond .ne 5, 3, [56], []) :: (.iconst 0, 1, [], []) :: (.ireturn, 1, [3], []) :: []
def hgr73_20 : List hgRow := (.aload_n 0, 1, [], []) :: (.iconst 1, 1, [], []) :: (.sipush 999, 3, [], []) :: (.invokevirtual 118, 3, [71, 3, 0, 569, 0, 0, 6], []) :: (.ifCond .ne 5, 3, [33], []) :: (.iconst 0, 1, [], []) :: (.ireturn, 1, [3], []) :: []
def hgr73_0 : List hgRow := (.aload_n 0, 1, [], []) :: (.invokevirtual 99, 3, [69, 1, 1, 496, 0, 0, 6], []) :: (.aload_n 0, 1, [], []) :: (.ldc 116, 2, [2, 512, 1005], []) :: (.invokevirtual 104, 3, [70, 2, 0, 513, 0, 0, 6], []) :: (.ifCond .ne 10, 3, [20], []) :: (.aload_n 0, 1, [], []) :: (.bipush (-2), 2, [], []) :: (.invokevirtual 77, 3, [62, 2, 0, 565, 0, 0, 6], []) :: (.ireturn, 1, [3], []) :: []
def hgb73 : List (Nat × List Bool × List hgRow) := [(0, [true], hgr73_0), (20, [true], hgr73_20), (33, [true], hgr73_33), (56, [true], hgr73_56)]
/- HomeGateway$SetupReader.readStatement()Z -/
def hgr74_98 : List hgRow := (.ireturn, 1, [3], []) :: []
def hgr74_92 : List hgRow := (.aload_n 0, 1, [], []) :: (.bipush (-2), 2, [], []) :: (.invokevirtual 77, 3, [62, 2, 0, 565, 0, 0, 6], []) :: hgr74_98
def hgr74_76 : List hgRow := (.aload_n 0, 1, [], []) :: (.ldc 151, 2, [2, 653, 1011], []) :: (.invokevirtual 104, 3, [70, 2, 0, 513, 0, 0, 6], []) :: (.ifCond .eq 10, 3, [92], []) :: (.aload_n 0, 1, [], []) :: (.invokevirtual 153, 3, [81, 1, 0, 654, 0, 0, 6], []) :: (.goto 9, 3, [98], []) :: []
def hgr74_62 : List hgRow := (.aload_n 0, 1, [], []) :: (.ldc 146, 2, [2, 647, 1010], []) :: (.invokevirtual 104, 3, [70, 2, 0, 513, 0, 0, 6], []) :: (.ifCond .eq 8, 3, [76], []) :: (.aload_n 0, 1, [], []) :: (.invokevirtual 148, 3, [80, 1, 0, 648, 0, 0, 6], []) :: (.ireturn, 1, [3], []) :: []
def hgr74_48 : List hgRow := (.aload_n 0, 1, [], []) :: (.ldc 141, 2, [2, 626, 1009], []) :: (.invokevirtual 104, 3, [70, 2, 0, 513, 0, 0, 6], []) :: (.ifCond .eq 8, 3, [62], []) :: (.aload_n 0, 1, [], []) :: (.invokevirtual 143, 3, [77, 1, 0, 627, 0, 0, 6], []) :: (.ireturn, 1, [3], []) :: []
def hgr74_33 : List hgRow := (.aload_n 0, 1, [], []) :: (.ldc 139, 2, [2, 625, 1008], []) :: (.invokevirtual 104, 3, [70, 2, 0, 513, 0, 0, 6], []) :: (.ifCond .eq 9, 3, [48], []) :: (.aload_n 0, 1, [], []) :: (.iconst 0, 1, [], []) :: (.invokevirtual 135, 3, [76, 2, 0, 612, 0, 0, 6], []) :: (.ireturn, 1, [3], []) :: []
def hgr74_18 : List hgRow := (.aload_n 0, 1, [], []) :: (.ldc 133, 2, [2, 611, 1007], []) :: (.invokevirtual 104, 3, [70, 2, 0, 513, 0, 0, 6], []) :: (.ifCond .eq 9, 3, [33], []) :: (.aload_n 0, 1, [], []) :: (.iconst 1, 1, [], []) :: (.invokevirtual 135, 3, [76, 2, 0, 612, 0, 0, 6], []) :: (.ireturn, 1, [3], []) :: []
def hgr74_0 : List hgRow := (.aload_n 0, 1, [], []) :: (.invokevirtual 99, 3, [69, 1, 1, 496, 0, 0, 6], []) :: (.aload_n 0, 1, [], []) :: (.ldc 128, 2, [2, 589, 1006], []) :: (.invokevirtual 104, 3, [70, 2, 0, 513, 0, 0, 6], []) :: (.ifCond .eq 8, 3, [18], []) :: (.aload_n 0, 1, [], []) :: (.invokevirtual 130, 3, [75, 1, 0, 590, 0, 0, 6], []) :: (.ireturn, 1, [3], []) :: []
def hgb74 : List (Nat × List Bool × List hgRow) := [(0, [true], hgr74_0), (18, [true], hgr74_18), (33, [true], hgr74_33), (48, [true], hgr74_48), (62, [true], hgr74_62), (76, [true], hgr74_76), (92, [true], hgr74_92), (98, [false], hgr74_98)]
/- HomeGateway$SetupReader.readDevice()Z -/
def hgr75_86 : List hgRow := (.aload_n 0, 1, [], []) :: (.getfield 15, 3, [6, 5, 2, 262], []) :: (.iload_n 1, 1, [], []) :: (.iload_n 2, 1, [], []) :: (.iload_n 3, 1, [], []) :: (.aload_n 0, 1, [], []) :: (.getfield 96, 3, [6, 4, 0, 261], []) :: (.invokevirtual 162, 3, [11, 5, 1, 603, 0, 0, 1], []) :: (.iconst 1, 1, [], []) :: (.ireturn, 1, [3], []) :: []
def hgr75_69 : List hgRow := (.aload_n 0, 1, [], []) :: (.getfield 96, 3, [6, 4, 0, 261], []) :: (.istore_n 3, 1, [], []) :: (.aload_n 0, 1, [], []) :: (.iconst 0, 1, [], []) :: (.bipush 99, 2, [], []) :: (.invokevirtual 118, 3, [71, 3, 0, 569, 0, 0, 6], []) :: (.ifCond .ne 5, 3, [86], []) :: (.iconst 0, 1, [], []) :: (.ireturn, 1, [3], []) :: []
def hgr75_52 : List hgRow := (.aload_n 0, 1, [], []) :: (.getfield 96, 3, [6, 4, 0, 261], []) :: (.istore_n 2, 1, [], []) :: (.aload_n 0, 1, [], []) :: (.iconst 0, 1, [], []) :: (.bipush 9, 2, [], []) :: (.invokevirtual 118, 3, [71, 3, 0, 569, 0, 0, 6], []) :: (.ifCond .ne 5, 3, [69], []) :: (.iconst 0, 1, [], []) :: (.ireturn, 1, [3], []) :: []
def hgr75_40 : List hgRow := (.aload_n 0, 1, [], []) :: (.iconst 1, 1, [], []) :: (.bipush 9, 2, [], []) :: (.invokevirtual 118, 3, [71, 3, 0, 569, 0, 0, 6], []) :: (.ifCond .ne 5, 3, [52], []) :: (.iconst 0, 1, [], []) :: (.ireturn, 1, [3], []) :: []
def hgr75_33 : List hgRow := (.aload_n 0, 1, [], []) :: (.bipush (-2), 2, [], []) :: (.invokevirtual 77, 3, [62, 2, 0, 565, 0, 0, 6], []) :: (.ireturn, 1, [3], []) :: []
def hgr75_19 : List hgRow := (.aload_n 0, 1, [], []) :: (.invokevirtual 159, 3, [72, 1, 0, 594, 0, 0, 6], []) :: (.istore_n 1, 1, [], []) :: (.iload_n 1, 1, [], []) :: (.ifCond .lt 8, 3, [33], []) :: (.iload_n 1, 1, [], []) :: (.iconst 3, 1, [], []) :: (.if_icmp .lt 10, 3, [40], []) :: hgr75_33
def hgr75_0 : List hgRow := (.aload_n 0, 1, [], []) :: (.getfield 15, 3, [6, 5, 2, 262], []) :: (.getfield 156, 3, [1, 6, 0, 181], []) :: (.bipush 10, 2, [], []) :: (.if_icmp .lt 10, 3, [19], []) :: (.aload_n 0, 1, [], []) :: (.bipush (-4), 2, [], []) :: (.invokevirtual 77, 3, [62, 2, 0, 565, 0, 0, 6], []) :: (.ireturn, 1, [3], []) :: []
def hgb75 : List (Nat × List Bool × List hgRow) := [(0, [true, false, false, false], hgr75_0), (19, [true, false, false, false], hgr75_19), (33, [true, false, false, false], hgr75_33), (40, [true, true, false, false], hgr75_40), (52, [true, true, false, false], hgr75_52), (69, [true, true, true, false], hgr75_69), (86, [true, true, true, true], hgr75_86)]
/- HomeGateway$SetupReader.readRule(Z)Z -/
def hgr76_85 : List hgRow := (.aload_n 0, 1, [], []) :: (.getfield 15, 3, [6, 5, 2, 262], []) :: (.getfield 166, 3, [1, 7, 2, 184], []) :: (.iload_n 1, 1, [], []) :: (.iload_n 2, 1, [], []) :: (.iload_n 3, 1, [], []) :: (.iload 4, 2, [], []) :: (.aload_n 0, 1, [], []) :: (.getfield 96, 3, [6, 4, 0, 261], []) :: (.invokevirtual 175, 3, [50, 6, 1, 620, 0, 0, 5], []) :: (.iconst 1, 1, [], []) :: (.ireturn, 1, [3], []) :: []
def hgr76_65 : List hgRow := (.aload_n 0, 1, [], []) :: (.getfield 96, 3, [6, 4, 0, 261], []) :: (.istore 4, 2, [], []) :: (.aload_n 0, 1, [], []) :: (.iload 4, 2, [], []) :: (.sipush 999, 3, [], []) :: (.invokevirtual 118, 3, [71, 3, 0, 569, 0, 0, 6], []) :: (.ifCond .ne 5, 3, [85], []) :: (.iconst 0, 1, [], []) :: (.ireturn, 1, [3], []) :: []
def hgr76_52 : List hgRow := (.aload_n 0, 1, [], []) :: (.iconst 0, 1, [], []) :: (.sipush 999, 3, [], []) :: (.invokevirtual 118, 3, [71, 3, 0, 569, 0, 0, 6], []) :: (.ifCond .ne 5, 3, [65], []) :: (.iconst 0, 1, [], []) :: (.ireturn, 1, [3], []) :: []
def hgr76_36 : List hgRow := (.aload_n 0, 1, [], []) :: (.invokevirtual 159, 3, [72, 1, 0, 594, 0, 0, 6], []) :: (.istore_n 3, 1, [], []) :: (.iload_n 3, 1, [], []) :: (.ifCond .ge 10, 3, [52], []) :: (.aload_n 0, 1, [], []) :: (.bipush (-2), 2, [], []) :: (.invokevirtual 77, 3, [62, 2, 0, 565, 0, 0, 6], []) :: (.ireturn, 1, [3], []) :: []
def hgr76_20 : List hgRow := (.aload_n 0, 1, [], []) :: (.invokevirtual 159, 3, [72, 1, 0, 594, 0, 0, 6], []) :: (.istore_n 2, 1, [], []) :: (.iload_n 2, 1, [], []) :: (.ifCond .ge 10, 3, [36], []) :: (.aload_n 0, 1, [], []) :: (.bipush (-2), 2, [], []) :: (.invokevirtual 77, 3, [62, 2, 0, 565, 0, 0, 6], []) :: (.ireturn, 1, [3], []) :: []
def hgr76_0 : List hgRow := (.aload_n 0, 1, [], []) :: (.getfield 15, 3, [6, 5, 2, 262], []) :: (.getfield 166, 3, [1, 7, 2, 184], []) :: (.invokevirtual 170, 3, [49, 1, 0, 616, 0, 0, 5], []) :: (.ifCond .eq 10, 3, [20], []) :: (.aload_n 0, 1, [], []) :: (.bipush (-4), 2, [], []) :: (.invokevirtual 77, 3, [62, 2, 0, 565, 0, 0, 6], []) :: (.ireturn, 1, [3], []) :: []
def hgb76 : List (Nat × List Bool × List hgRow) := [(0, [true, true, false, false, false], hgr76_0), (20, [true, true, false, false, false], hgr76_20), (36, [true, true, true, false, false], hgr76_36), (52, [true, true, true, true, false], hgr76_52), (65, [true, true, true, true, false], hgr76_65), (85, [true, true, true, true, true], hgr76_85)]
/- HomeGateway$SetupReader.readWakePorts()Z -/
def hgr77_54 : List hgRow := (.iload_n 1, 1, [], []) :: (.ireturn, 1, [3], []) :: []
def hgr77_26 : List hgRow := (.iload_n 2, 1, [], []) :: (.bipush 8, 2, [], []) :: (.if_icmp .ge 25, 3, [54], []) :: (.iload_n 1, 1, [], []) :: (.ifCond .eq 21, 3, [54], []) :: (.aload_n 0, 1, [], []) :: (.invokevirtual 182, 3, [78, 1, 0, 643, 0, 0, 6], []) :: (.ifCond .eq 14, 3, [54], []) :: (.aload_n 0, 1, [], []) :: (.invokevirtual 179, 3, [79, 1, 0, 631, 0, 0, 6], []) :: (.istore_n 1, 1, [], []) :: (.iinc 2 1, 3, [], []) :: (.goto (-25), 3, [26], []) :: []
def hgr77_14 : List hgRow := (.aload_n 0, 1, [], []) :: (.iconst 1, 1, [], []) :: (.putfield 44, 3, [6, 6, 3, 263, 0], []) :: (.aload_n 0, 1, [], []) :: (.invokevirtual 179, 3, [79, 1, 0, 631, 0, 0, 6], []) :: (.istore_n 1, 1, [], []) :: (.iconst 0, 1, [], []) :: (.istore_n 2, 1, [], []) :: hgr77_26
def hgr77_0 : List hgRow := (.aload_n 0, 1, [], []) :: (.getfield 44, 3, [6, 6, 3, 263], []) :: (.ifCond .eq 10, 3, [14], []) :: (.aload_n 0, 1, [], []) :: (.bipush (-2), 2, [], []) :: (.invokevirtual 77, 3, [62, 2, 0, 565, 0, 0, 6], []) :: (.ireturn, 1, [3], []) :: []
def hgb77 : List (Nat × List Bool × List hgRow) := [(0, [true, false, false], hgr77_0), (14, [true, false, false], hgr77_14), (26, [true, true, true], hgr77_26), (54, [false, true, false], hgr77_54)]
/- HomeGateway$SetupReader.isNumberNext()Z -/
def hgr78_0 : List hgRow := (.aload_n 0, 1, [], []) :: (.invokevirtual 74, 3, [66, 1, 1, 500, 0, 0, 6], []) :: (.aload_n 0, 1, [], []) :: (.aload_n 0, 1, [], []) :: (.getfield 41, 3, [6, 2, 0, 259], []) :: (.invokevirtual 93, 3, [65, 2, 0, 573, 0, 0, 6], []) :: (.ireturn, 1, [3], []) :: []
def hgb78 : List (Nat × List Bool × List hgRow) := [(0, [true], hgr78_0)]
/- HomeGateway$SetupReader.readWakePort()Z -/
def hgr79_53 : List hgRow := (.aload_n 0, 1, [], []) :: (.getfield 15, 3, [6, 5, 2, 262], []) :: (.aload_n 0, 1, [], []) :: (.getfield 96, 3, [6, 4, 0, 261], []) :: (.invokevirtual 191, 3, [12, 2, 1, 639, 0, 0, 1], []) :: (.iconst 1, 1, [], []) :: (.ireturn, 1, [3], []) :: []
def hgr79_34 : List hgRow := (.aload_n 0, 1, [], []) :: (.getfield 15, 3, [6, 5, 2, 262], []) :: (.getfield 188, 3, [1, 9, 0, 187], []) :: (.bipush 8, 2, [], []) :: (.if_icmp .lt 10, 3, [53], []) :: (.aload_n 0, 1, [], []) :: (.bipush (-4), 2, [], []) :: (.invokevirtual 77, 3, [62, 2, 0, 565, 0, 0, 6], []) :: (.ireturn, 1, [3], []) :: []
def hgr79_13 : List hgRow := (.aload_n 0, 1, [], []) :: (.getfield 15, 3, [6, 5, 2, 262], []) :: (.aload_n 0, 1, [], []) :: (.getfield 96, 3, [6, 4, 0, 261], []) :: (.invokevirtual 185, 3, [13, 2, 0, 635, 0, 0, 1], []) :: (.ifCond .eq 10, 3, [34], []) :: (.aload_n 0, 1, [], []) :: (.bipush (-3), 2, [], []) :: (.invokevirtual 77, 3, [62, 2, 0, 565, 0, 0, 6], []) :: (.ireturn, 1, [3], []) :: []
def hgr79_0 : List hgRow := (.aload_n 0, 1, [], []) :: (.iconst 0, 1, [], []) :: (.sipush 999, 3, [], []) :: (.invokevirtual 118, 3, [71, 3, 0, 569, 0, 0, 6], []) :: (.ifCond .ne 5, 3, [13], []) :: (.iconst 0, 1, [], []) :: (.ireturn, 1, [3], []) :: []
def hgb79 : List (Nat × List Bool × List hgRow) := [(0, [true], hgr79_0), (13, [true], hgr79_13), (34, [true], hgr79_34), (53, [true], hgr79_53)]
/- HomeGateway$SetupReader.readQuiet()Z -/
def hgr80_80 : List hgRow := (.aload_n 0, 1, [], []) :: (.getfield 15, 3, [6, 5, 2, 262], []) :: (.iload_n 1, 1, [], []) :: (.iload_n 2, 1, [], []) :: (.aload_n 0, 1, [], []) :: (.getfield 96, 3, [6, 4, 0, 261], []) :: (.invokevirtual 195, 3, [14, 4, 1, 652, 0, 0, 1], []) :: (.iconst 1, 1, [], []) :: (.ireturn, 1, [3], []) :: []
def hgr80_56 : List hgRow := (.aload_n 0, 1, [], []) :: (.getfield 96, 3, [6, 4, 0, 261], []) :: (.istore_n 2, 1, [], []) :: (.aload_n 0, 1, [], []) :: (.iconst 0, 1, [], []) :: (.aload_n 0, 1, [], []) :: (.getfield 15, 3, [6, 5, 2, 262], []) :: (.getfield 125, 3, [1, 3, 0, 174], []) :: (.iconst 1, 1, [], []) :: (.isub, 1, [], []) :: (.invokevirtual 118, 3, [71, 3, 0, 569, 0, 0, 6], []) :: (.ifCond .ne 5, 3, [80], []) :: (.iconst 0, 1, [], []) :: (.ireturn, 1, [3], []) :: []
def hgr80_30 : List hgRow := (.aload_n 0, 1, [], []) :: (.getfield 19, 3, [6, 8, 2, 265], []) :: (.iload_n 1, 1, [], []) :: (.iconst 1, 1, [], []) :: (.bastore, 1, [], []) :: (.aload_n 0, 1, [], []) :: (.iconst 0, 1, [], []) :: (.aload_n 0, 1, [], []) :: (.getfield 15, 3, [6, 5, 2, 262], []) :: (.getfield 125, 3, [1, 3, 0, 174], []) :: (.iconst 1, 1, [], []) :: (.isub, 1, [], []) :: (.invokevirtual 118, 3, [71, 3, 0, 569, 0, 0, 6], []) :: (.ifCond .ne 5, 3, [56], []) :: (.iconst 0, 1, [], []) :: (.ireturn, 1, [3], []) :: []
def hgr80_23 : List hgRow := (.aload_n 0, 1, [], []) :: (.bipush (-2), 2, [], []) :: (.invokevirtual 77, 3, [62, 2, 0, 565, 0, 0, 6], []) :: (.ireturn, 1, [3], []) :: []
def hgr80_0 : List hgRow := (.aload_n 0, 1, [], []) :: (.invokevirtual 159, 3, [72, 1, 0, 594, 0, 0, 6], []) :: (.istore_n 1, 1, [], []) :: (.iload_n 1, 1, [], []) :: (.ifCond .lt 17, 3, [23], []) :: (.iload_n 1, 1, [], []) :: (.iconst 3, 1, [], []) :: (.if_icmp .ge 12, 3, [23], []) :: (.aload_n 0, 1, [], []) :: (.getfield 19, 3, [6, 8, 2, 265], []) :: (.iload_n 1, 1, [], []) :: (.baload, 1, [], []) :: (.ifCond .eq 10, 3, [30], []) :: hgr80_23
def hgb80 : List (Nat × List Bool × List hgRow) := [(0, [true, false, false], hgr80_0), (23, [true, false, false], hgr80_23), (30, [true, true, false], hgr80_30), (56, [true, true, false], hgr80_56), (80, [true, true, true], hgr80_80)]
/- HomeGateway$SetupReader.readLimit()Z -/
def hgr81_32 : List hgRow := (.aload_n 0, 1, [], []) :: (.getfield 15, 3, [6, 5, 2, 262], []) :: (.aload_n 0, 1, [], []) :: (.getfield 96, 3, [6, 4, 0, 261], []) :: (.putfield 199, 3, [1, 4, 0, 176, 0], []) :: (.iconst 1, 1, [], []) :: (.ireturn, 1, [3], []) :: []
def hgr81_14 : List hgRow := (.aload_n 0, 1, [], []) :: (.iconst 1, 1, [], []) :: (.putfield 48, 3, [6, 7, 3, 264, 0], []) :: (.aload_n 0, 1, [], []) :: (.iconst 1, 1, [], []) :: (.sipush 999, 3, [], []) :: (.invokevirtual 118, 3, [71, 3, 0, 569, 0, 0, 6], []) :: (.ifCond .ne 5, 3, [32], []) :: (.iconst 0, 1, [], []) :: (.ireturn, 1, [3], []) :: []
def hgr81_0 : List hgRow := (.aload_n 0, 1, [], []) :: (.getfield 48, 3, [6, 7, 3, 264], []) :: (.ifCond .eq 10, 3, [14], []) :: (.aload_n 0, 1, [], []) :: (.bipush (-2), 2, [], []) :: (.invokevirtual 77, 3, [62, 2, 0, 565, 0, 0, 6], []) :: (.ireturn, 1, [3], []) :: []
def hgb81 : List (Nat × List Bool × List hgRow) := [(0, [true], hgr81_0), (14, [true], hgr81_14), (32, [true], hgr81_32)]
/- HomeGateway.<init>()V -/
def hgr82_0 : List hgRow := (.aload_n 0, 1, [], []) :: (.invokespecial 1, 3, [1005, 1, 1, 26, 0, 0, 99], []) :: (.new 7, 3, [1, 3, 4, 29], []) :: (.dup, 1, [], []) :: (.invokespecial 9, 3, [34, 1, 1, 31, 3, 1536, 3], []) :: (.astore_n 1, 1, [], []) :: (.aload_n 0, 1, [], []) :: (.sipush 900, 3, [], []) :: (.newarray .byte, 2, [22], []) :: (.putfield 12, 3, [7, 0, 2, 293, 1], []) :: (.aload_n 0, 1, [], []) :: (.iconst 0, 1, [], []) :: (.putfield 16, 3, [7, 1, 0, 294, 0], []) :: (.aload_n 0, 1, [], []) :: (.iconst (-1), 1, [], []) :: (.putfield 20, 3, [7, 2, 0, 295, 0], []) :: (.aload_n 0, 1, [], []) :: (.new 23, 3, [1, 1, 16, 49], []) :: (.dup, 1, [], []) :: (.aload_n 1, 1, [], []) :: (.invokespecial 25, 3, [8, 2, 1, 51, 28, 248, 1], []) :: (.putfield 28, 3, [7, 3, 2, 296, 1], []) :: (.aload_n 0, 1, [], []) :: (.new 23, 3, [1, 1, 16, 49], []) :: (.dup, 1, [], []) :: (.aload_n 1, 1, [], []) :: (.invokespecial 25, 3, [8, 2, 1, 51, 28, 248, 1], []) :: (.putfield 32, 3, [7, 4, 2, 297, 1], []) :: (.aload_n 0, 1, [], []) :: (.new 35, 3, [1, 2, 3, 231], []) :: (.dup, 1, [], []) :: (.aload_n 1, 1, [], []) :: (.invokespecial 37, 3, [31, 2, 1, 233, 233, 2120, 2], []) :: (.putfield 38, 3, [7, 5, 2, 298, 1], []) :: (.aload_n 0, 1, [], []) :: (.new 42, 3, [1, 6, 11, 251], []) :: (.dup, 1, [], []) :: (.aload_n 0, 1, [], []) :: (.getfield 12, 3, [7, 0, 2, 293], []) :: (.aload_n 0, 1, [], []) :: (.getfield 32, 3, [7, 4, 2, 297], []) :: (.invokespecial 44, 3, [60, 3, 1, 253, 1, 3, 6], []) :: (.putfield 47, 3, [7, 6, 2, 299, 1], []) :: (.return_, 1, [], []) :: []
def hgb82 : List (Nat × List Bool × List hgRow) := [(0, [true, false], hgr82_0)]
/- HomeGateway.append(IIIII)I -/
def hgr83_12 : List hgRow := (.aload_n 0, 1, [], []) :: (.iload_n 1, 1, [], []) :: (.invokevirtual 51, 3, [116, 2, 1, 319, 0, 0, 7], []) :: (.aload_n 0, 1, [], []) :: (.iload_n 2, 1, [], []) :: (.invokevirtual 51, 3, [116, 2, 1, 319, 0, 0, 7], []) :: (.aload_n 0, 1, [], []) :: (.iload_n 3, 1, [], []) :: (.invokevirtual 51, 3, [116, 2, 1, 319, 0, 0, 7], []) :: (.aload_n 0, 1, [], []) :: (.iload 4, 2, [], []) :: (.invokevirtual 51, 3, [116, 2, 1, 319, 0, 0, 7], []) :: (.aload_n 0, 1, [], []) :: (.iload 5, 2, [], []) :: (.invokevirtual 51, 3, [116, 2, 1, 319, 0, 0, 7], []) :: (.aload_n 0, 1, [], []) :: (.getfield 16, 3, [7, 1, 0, 294], []) :: (.ireturn, 1, [1], []) :: []
def hgr83_0 : List hgRow := (.aload_n 0, 1, [], []) :: (.getfield 16, 3, [7, 1, 0, 294], []) :: (.sipush 880, 3, [], []) :: (.if_icmp .le 5, 3, [12], []) :: (.iconst (-1), 1, [], []) :: (.ireturn, 1, [1], []) :: []
def hgb83 : List (Nat × List Bool × List hgRow) := [(0, [true, true, true, true, true, true], hgr83_0), (12, [true, true, true, true, true, true], hgr83_12)]
/- HomeGateway.load(I)I -/
def hgr84_53 : List hgRow := (.aload_n 0, 1, [], []) :: (.getfield 38, 3, [7, 5, 2, 298], []) :: (.aload_n 0, 1, [], []) :: (.getfield 28, 3, [7, 3, 2, 296], []) :: (.invokevirtual 69, 3, [32, 2, 1, 658, 0, 0, 2], []) :: (.aload_n 0, 1, [], []) :: (.getfield 28, 3, [7, 3, 2, 296], []) :: (.aload_n 0, 1, [], []) :: (.getfield 32, 3, [7, 4, 2, 297], []) :: (.invokevirtual 73, 3, [9, 2, 1, 663, 0, 0, 1], []) :: (.aload_n 0, 1, [], []) :: (.getfield 28, 3, [7, 3, 2, 296], []) :: (.getfield 76, 3, [1, 6, 0, 180], []) :: (.ireturn, 1, [1], []) :: []
def hgr84_22 : List hgRow := (.aload_n 0, 1, [], []) :: (.getfield 47, 3, [7, 6, 2, 299], []) :: (.iload_n 1, 1, [], []) :: (.invokevirtual 62, 3, [61, 2, 0, 477, 0, 0, 6], []) :: (.istore_n 2, 1, [], []) :: (.aload_n 0, 1, [], []) :: (.iconst 0, 1, [], []) :: (.putfield 16, 3, [7, 1, 0, 294, 0], []) :: (.aload_n 0, 1, [], []) :: (.aload_n 0, 1, [], []) :: (.getfield 47, 3, [7, 6, 2, 299], []) :: (.getfield 66, 3, [6, 10, 0, 268], []) :: (.putfield 20, 3, [7, 2, 0, 295, 0], []) :: (.iload_n 2, 1, [], []) :: (.ifCond .eq 5, 3, [53], []) :: (.iload_n 2, 1, [], []) :: (.ireturn, 1, [1], []) :: []
def hgr84_12 : List hgRow := (.new 55, 3, [2, 0, 410, 451, 57, 59], []) :: []
def hgr84_0 : List hgRow := (.iload_n 1, 1, [], []) :: (.ifCond .lt 11, 3, [12], []) :: (.iload_n 1, 1, [], []) :: (.aload_n 0, 1, [], []) :: (.getfield 16, 3, [7, 1, 0, 294], []) :: (.if_icmp .le 13, 3, [22], []) :: hgr84_12
def hgb84 : List (Nat × List Bool × List hgRow) := [(0, [true, true, false], hgr84_0), (12, [false, false, false], hgr84_12), (22, [true, true, false], hgr84_22), (53, [true, false, false], hgr84_53)]
/- HomeGateway.errorOffset()I -/
def hgr85_0 : List hgRow := (.aload_n 0, 1, [], []) :: (.getfield 20, 3, [7, 2, 0, 295], []) :: (.ireturn, 1, [1], []) :: []
def hgb85 : List (Nat × List Bool × List hgRow) := [(0, [true], hgr85_0)]
/- HomeGateway.deviceCount()I -/
def hgr86_0 : List hgRow := (.aload_n 0, 1, [], []) :: (.getfield 28, 3, [7, 3, 2, 296], []) :: (.getfield 76, 3, [1, 6, 0, 180], []) :: (.ireturn, 1, [1], []) :: []
def hgb86 : List (Nat × List Bool × List hgRow) := [(0, [true], hgr86_0)]
/- HomeGateway.ruleCount()I -/
def hgr87_0 : List hgRow := (.aload_n 0, 1, [], []) :: (.getfield 28, 3, [7, 3, 2, 296], []) :: (.getfield 79, 3, [1, 7, 2, 183], []) :: (.getfield 83, 3, [5, 1, 0, 162], []) :: (.ireturn, 1, [1], []) :: []
def hgb87 : List (Nat × List Bool × List hgRow) := [(0, [true], hgr87_0)]
/- HomeGateway.clock()I -/
def hgr88_0 : List hgRow := (.aload_n 0, 1, [], []) :: (.getfield 28, 3, [7, 3, 2, 296], []) :: (.getfield 88, 3, [1, 12, 0, 191], []) :: (.ireturn, 1, [1], []) :: []
def hgb88 : List (Nat × List Bool × List hgRow) := [(0, [true], hgr88_0)]
/- HomeGateway.state(I)I -/
def hgr89_0 : List hgRow := (.aload_n 0, 1, [], []) :: (.iload_n 1, 1, [], []) :: (.invokevirtual 91, 3, [117, 2, 1, 672, 1, 6, 7], []) :: (.aload_n 0, 1, [], []) :: (.getfield 28, 3, [7, 3, 2, 296], []) :: (.getfield 94, 3, [1, 5, 2, 178], []) :: (.iload_n 1, 1, [], []) :: (.aaload, 1, [], []) :: (.getfield 98, 3, [0, 4, 0, 71], []) :: (.ireturn, 1, [1], []) :: []
def hgb89 : List (Nat × List Bool × List hgRow) := [(0, [true, true], hgr89_0)]
/- HomeGateway.weight(I)I -/
def hgr90_0 : List hgRow := (.aload_n 0, 1, [], []) :: (.iload_n 1, 1, [], []) :: (.invokevirtual 91, 3, [117, 2, 1, 672, 1, 6, 7], []) :: (.aload_n 0, 1, [], []) :: (.getfield 28, 3, [7, 3, 2, 296], []) :: (.getfield 94, 3, [1, 5, 2, 178], []) :: (.iload_n 1, 1, [], []) :: (.aaload, 1, [], []) :: (.getfield 103, 3, [0, 1, 0, 65], []) :: (.ireturn, 1, [1], []) :: []
def hgb90 : List (Nat × List Bool × List hgRow) := [(0, [true, true], hgr90_0)]
/- HomeGateway.queueLength(I)I -/
def hgr91_0 : List hgRow := (.aload_n 0, 1, [], []) :: (.iload_n 1, 1, [], []) :: (.invokevirtual 91, 3, [117, 2, 1, 672, 1, 6, 7], []) :: (.aload_n 0, 1, [], []) :: (.getfield 28, 3, [7, 3, 2, 296], []) :: (.getfield 94, 3, [1, 5, 2, 178], []) :: (.iload_n 1, 1, [], []) :: (.aaload, 1, [], []) :: (.getfield 106, 3, [0, 12, 0, 87], []) :: (.ireturn, 1, [1], []) :: []
def hgb91 : List (Nat × List Bool × List hgRow) := [(0, [true, true], hgr91_0)]
/- HomeGateway.backlog(I)I -/
def hgr92_0 : List hgRow := (.aload_n 0, 1, [], []) :: (.iload_n 1, 1, [], []) :: (.invokevirtual 91, 3, [117, 2, 1, 672, 1, 6, 7], []) :: (.aload_n 0, 1, [], []) :: (.getfield 28, 3, [7, 3, 2, 296], []) :: (.getfield 94, 3, [1, 5, 2, 178], []) :: (.iload_n 1, 1, [], []) :: (.aaload, 1, [], []) :: (.getfield 109, 3, [0, 13, 0, 90], []) :: (.ireturn, 1, [1], []) :: []
def hgb92 : List (Nat × List Bool × List hgRow) := [(0, [true, true], hgr92_0)]
/- HomeGateway.virtualTime(I)J -/
def hgr93_0 : List hgRow := (.aload_n 0, 1, [], []) :: (.iload_n 1, 1, [], []) :: (.invokevirtual 91, 3, [117, 2, 1, 672, 1, 6, 7], []) :: (.aload_n 0, 1, [], []) :: (.getfield 28, 3, [7, 3, 2, 296], []) :: (.getfield 94, 3, [1, 5, 2, 178], []) :: (.iload_n 1, 1, [], []) :: (.aaload, 1, [], []) :: (.getfield 112, 3, [0, 7, 1, 76], []) :: (.lreturn, 1, [], []) :: []
def hgb93 : List (Nat × List Bool × List hgRow) := [(0, [true, true], hgr93_0)]
/- HomeGateway.delivered(I)I -/
def hgr94_0 : List hgRow := (.aload_n 0, 1, [], []) :: (.iload_n 1, 1, [], []) :: (.invokevirtual 91, 3, [117, 2, 1, 672, 1, 6, 7], []) :: (.aload_n 0, 1, [], []) :: (.getfield 28, 3, [7, 3, 2, 296], []) :: (.getfield 94, 3, [1, 5, 2, 178], []) :: (.iload_n 1, 1, [], []) :: (.aaload, 1, [], []) :: (.getfield 116, 3, [0, 8, 0, 79], []) :: (.ireturn, 1, [1], []) :: []
def hgb94 : List (Nat × List Bool × List hgRow) := [(0, [true, true], hgr94_0)]
/- HomeGateway.longestDelay(I)I -/
def hgr95_0 : List hgRow := (.aload_n 0, 1, [], []) :: (.iload_n 1, 1, [], []) :: (.invokevirtual 91, 3, [117, 2, 1, 672, 1, 6, 7], []) :: (.aload_n 0, 1, [], []) :: (.getfield 28, 3, [7, 3, 2, 296], []) :: (.getfield 94, 3, [1, 5, 2, 178], []) :: (.iload_n 1, 1, [], []) :: (.aaload, 1, [], []) :: (.getfield 119, 3, [0, 9, 0, 82], []) :: (.ireturn, 1, [1], []) :: []
def hgb95 : List (Nat × List Bool × List hgRow) := [(0, [true, true], hgr95_0)]
/- HomeGateway.rejected()I -/
def hgr96_0 : List hgRow := (.aload_n 0, 1, [], []) :: (.getfield 28, 3, [7, 3, 2, 296], []) :: (.getfield 122, 3, [1, 13, 0, 193], []) :: (.ireturn, 1, [1], []) :: []
def hgb96 : List (Nat × List Bool × List hgRow) := [(0, [true], hgr96_0)]
/- HomeGateway.proxied()I -/
def hgr97_0 : List hgRow := (.aload_n 0, 1, [], []) :: (.getfield 28, 3, [7, 3, 2, 296], []) :: (.getfield 125, 3, [1, 14, 0, 195], []) :: (.ireturn, 1, [1], []) :: []
def hgb97 : List (Nat × List Bool × List hgRow) := [(0, [true], hgr97_0)]
/- HomeGateway.dropped()I -/
def hgr98_0 : List hgRow := (.aload_n 0, 1, [], []) :: (.getfield 28, 3, [7, 3, 2, 296], []) :: (.getfield 128, 3, [1, 15, 0, 197], []) :: (.ireturn, 1, [1], []) :: []
def hgb98 : List (Nat × List Bool × List hgRow) := [(0, [true], hgr98_0)]
/- HomeGateway.isQuiet(I)Z -/
def hgr99_19 : List hgRow := (.aload_n 0, 1, [], []) :: (.getfield 28, 3, [7, 3, 2, 296], []) :: (.iload_n 1, 1, [], []) :: (.invokevirtual 133, 3, [15, 2, 0, 742, 0, 0, 1], []) :: (.ireturn, 1, [3], []) :: []
def hgr99_9 : List hgRow := (.new 55, 3, [2, 0, 410, 741, 131, 59], []) :: []
def hgr99_0 : List hgRow := (.iload_n 1, 1, [], []) :: (.ifCond .lt 8, 3, [9], []) :: (.iload_n 1, 1, [], []) :: (.iconst 3, 1, [], []) :: (.if_icmp .lt 13, 3, [19], []) :: hgr99_9
def hgb99 : List (Nat × List Bool × List hgRow) := [(0, [true, true], hgr99_0), (9, [false, false], hgr99_9), (19, [true, true], hgr99_19)]
/- HomeGateway.verdict(III)I -/
def hgr100_0 : List hgRow := (.aload_n 0, 1, [], []) :: (.iload_n 1, 1, [], []) :: (.invokevirtual 137, 3, [118, 2, 1, 753, 1, 6, 7], []) :: (.aload_n 0, 1, [], []) :: (.iload_n 2, 1, [], []) :: (.invokevirtual 91, 3, [117, 2, 1, 672, 1, 6, 7], []) :: (.iload_n 3, 1, [], []) :: (.invokestatic 140, 3, [120, 1, 1, 758, 1, 6, 99], []) :: (.aload_n 0, 1, [], []) :: (.getfield 28, 3, [7, 3, 2, 296], []) :: (.iload_n 1, 1, [], []) :: (.iload_n 2, 1, [], []) :: (.iload_n 3, 1, [], []) :: (.invokevirtual 143, 3, [20, 4, 0, 762, 0, 0, 1], []) :: (.ireturn, 1, [1], []) :: []
def hgb100 : List (Nat × List Bool × List hgRow) := [(0, [true, true, true, true], hgr100_0)]
/- HomeGateway.matching(III)I -/
def hgr101_28 : List hgRow := (.iload_n 3, 1, [], []) :: (.invokestatic 140, 3, [120, 1, 1, 758, 1, 6, 99], []) :: (.aload_n 0, 1, [], []) :: (.getfield 28, 3, [7, 3, 2, 296], []) :: (.getfield 79, 3, [1, 7, 2, 183], []) :: (.iload_n 1, 1, [], []) :: (.iload_n 2, 1, [], []) :: (.iload_n 3, 1, [], []) :: (.invokevirtual 149, 3, [53, 4, 0, 806, 0, 0, 5], []) :: (.ireturn, 1, [1], []) :: []
def hgr101_18 : List hgRow := (.new 55, 3, [2, 0, 410, 805, 147, 59], []) :: []
def hgr101_0 : List hgRow := (.iload_n 1, 1, [], []) :: (.ifCond .lt 17, 3, [18], []) :: (.iload_n 1, 1, [], []) :: (.iconst 3, 1, [], []) :: (.if_icmp .gt 12, 3, [18], []) :: (.iload_n 2, 1, [], []) :: (.ifCond .lt 8, 3, [18], []) :: (.iload_n 2, 1, [], []) :: (.iconst 3, 1, [], []) :: (.if_icmp .lt 13, 3, [28], []) :: hgr101_18
def hgb101 : List (Nat × List Bool × List hgRow) := [(0, [true, true, true, true], hgr101_0), (18, [false, false, false, false], hgr101_18), (28, [true, true, true, true], hgr101_28)]
/- HomeGateway.isUseless(I)Z -/
def hgr102_0 : List hgRow := (.aload_n 0, 1, [], []) :: (.iload_n 1, 1, [], []) :: (.invokevirtual 152, 3, [119, 2, 1, 814, 1, 6, 7], []) :: (.aload_n 0, 1, [], []) :: (.getfield 28, 3, [7, 3, 2, 296], []) :: (.getfield 79, 3, [1, 7, 2, 183], []) :: (.iload_n 1, 1, [], []) :: (.invokevirtual 155, 3, [56, 2, 0, 819, 0, 0, 5], []) :: (.ireturn, 1, [3], []) :: []
def hgb102 : List (Nat × List Bool × List hgRow) := [(0, [true, true], hgr102_0)]
/- HomeGateway.openPorts(II)I -/
def hgr103_0 : List hgRow := (.aload_n 0, 1, [], []) :: (.iload_n 1, 1, [], []) :: (.invokevirtual 137, 3, [118, 2, 1, 753, 1, 6, 7], []) :: (.aload_n 0, 1, [], []) :: (.iload_n 2, 1, [], []) :: (.invokevirtual 91, 3, [117, 2, 1, 672, 1, 6, 7], []) :: (.aload_n 0, 1, [], []) :: (.getfield 28, 3, [7, 3, 2, 296], []) :: (.iload_n 1, 1, [], []) :: (.iload_n 2, 1, [], []) :: (.invokevirtual 158, 3, [21, 3, 0, 840, 0, 0, 1], []) :: (.ireturn, 1, [1], []) :: []
def hgb103 : List (Nat × List Bool × List hgRow) := [(0, [true, true, true], hgr103_0)]
/- HomeGateway.fairness()I -/
def hgr104_0 : List hgRow := (.aload_n 0, 1, [], []) :: (.getfield 28, 3, [7, 3, 2, 296], []) :: (.invokevirtual 162, 3, [22, 1, 0, 355, 0, 0, 1], []) :: (.ireturn, 1, [1], []) :: []
def hgb104 : List (Nat × List Bool × List hgRow) := [(0, [true], hgr104_0)]
/- HomeGateway.drainTime(I)I -/
def hgr105_80 : List hgRow := (.ireturn, 1, [1], []) :: []
def hgr105_79 : List hgRow := (.iconst (-1), 1, [], []) :: hgr105_80
def hgr105_65 : List hgRow := (.aload_n 0, 1, [], []) :: (.getfield 32, 3, [7, 4, 2, 297], []) :: (.invokevirtual 168, 3, [25, 1, 0, 857, 0, 0, 1], []) :: (.ifCond .eq 7, 3, [79], []) :: (.iload_n 1, 1, [], []) :: (.goto 4, 3, [80], []) :: []
def hgr105_51 : List hgRow := (.aload_n 0, 1, [], []) :: (.getfield 32, 3, [7, 4, 2, 297], []) :: (.invokevirtual 172, 3, [26, 1, 0, 861, 0, 0, 1], []) :: (.pop, 1, [], []) :: (.iinc 2 1, 3, [], []) :: (.goto (-28), 3, [34], []) :: []
def hgr105_34 : List hgRow := (.iload_n 2, 1, [], []) :: (.iload_n 1, 1, [], []) :: (.if_icmp .ge 29, 3, [65], []) :: (.aload_n 0, 1, [], []) :: (.getfield 32, 3, [7, 4, 2, 297], []) :: (.invokevirtual 168, 3, [25, 1, 0, 857, 0, 0, 1], []) :: (.ifCond .eq 5, 3, [51], []) :: (.iload_n 2, 1, [], []) :: (.ireturn, 1, [1], []) :: []
def hgr105_21 : List hgRow := (.aload_n 0, 1, [], []) :: (.getfield 32, 3, [7, 4, 2, 297], []) :: (.aload_n 0, 1, [], []) :: (.getfield 28, 3, [7, 3, 2, 296], []) :: (.invokevirtual 73, 3, [9, 2, 1, 663, 0, 0, 1], []) :: (.iconst 0, 1, [], []) :: (.istore_n 2, 1, [], []) :: hgr105_34
def hgr105_11 : List hgRow := (.new 55, 3, [2, 0, 410, 856, 166, 59], []) :: []
def hgr105_0 : List hgRow := (.iload_n 1, 1, [], []) :: (.ifCond .lt 10, 3, [11], []) :: (.iload_n 1, 1, [], []) :: (.sipush 300, 3, [], []) :: (.if_icmp .le 13, 3, [21], []) :: hgr105_11
def hgb105 : List (Nat × List Bool × List hgRow) := [(0, [true, true, false], hgr105_0), (11, [false, false, false], hgr105_11), (21, [true, true, false], hgr105_21), (34, [true, true, true], hgr105_34), (51, [true, true, true], hgr105_51), (65, [true, true, false], hgr105_65), (79, [false, false, false], hgr105_79), (80, [false, false, false], hgr105_80)]
/- HomeGateway.arrive(IIII)I -/
def hgr106_37 : List hgRow := (.aload_n 0, 1, [], []) :: (.getfield 38, 3, [7, 5, 2, 298], []) :: (.aload_n 0, 1, [], []) :: (.getfield 28, 3, [7, 3, 2, 296], []) :: (.invokevirtual 69, 3, [32, 2, 1, 658, 0, 0, 2], []) :: (.aload_n 0, 1, [], []) :: (.getfield 28, 3, [7, 3, 2, 296], []) :: (.iload_n 1, 1, [], []) :: (.iload_n 2, 1, [], []) :: (.iload_n 3, 1, [], []) :: (.iload 4, 2, [], []) :: (.invokevirtual 177, 3, [23, 5, 0, 918, 0, 0, 1], []) :: (.ireturn, 1, [1], []) :: []
def hgr106_27 : List hgRow := (.new 55, 3, [2, 0, 410, 917, 175, 59], []) :: []
def hgr106_0 : List hgRow := (.aload_n 0, 1, [], []) :: (.iload_n 1, 1, [], []) :: (.invokevirtual 137, 3, [118, 2, 1, 753, 1, 6, 7], []) :: (.aload_n 0, 1, [], []) :: (.iload_n 2, 1, [], []) :: (.invokevirtual 91, 3, [117, 2, 1, 672, 1, 6, 7], []) :: (.iload_n 3, 1, [], []) :: (.invokestatic 140, 3, [120, 1, 1, 758, 1, 6, 99], []) :: (.iload 4, 2, [], []) :: (.iconst 1, 1, [], []) :: (.if_icmp .lt 10, 3, [27], []) :: (.iload 4, 2, [], []) :: (.bipush 99, 2, [], []) :: (.if_icmp .le 13, 3, [37], []) :: hgr106_27
def hgb106 : List (Nat × List Bool × List hgRow) := [(0, [true, true, true, true, true], hgr106_0), (27, [false, false, false, false, false], hgr106_27), (37, [true, true, true, true, true], hgr106_37)]
/- HomeGateway.tick(I)I -/
def hgr107_85 : List hgRow := (.iload_n 2, 1, [], []) :: (.ireturn, 1, [1], []) :: []
def hgr107_64 : List hgRow := (.iload_n 3, 1, [], []) :: (.iload_n 1, 1, [], []) :: (.if_icmp .ge 19, 3, [85], []) :: (.iload_n 2, 1, [], []) :: (.aload_n 0, 1, [], []) :: (.getfield 28, 3, [7, 3, 2, 296], []) :: (.invokevirtual 172, 3, [26, 1, 0, 861, 0, 0, 1], []) :: (.iadd, 1, [], []) :: (.istore_n 2, 1, [], []) :: (.iinc 3 1, 3, [], []) :: (.goto (-18), 3, [64], []) :: []
def hgr107_49 : List hgRow := (.aload_n 0, 1, [], []) :: (.getfield 38, 3, [7, 5, 2, 298], []) :: (.aload_n 0, 1, [], []) :: (.getfield 28, 3, [7, 3, 2, 296], []) :: (.invokevirtual 69, 3, [32, 2, 1, 658, 0, 0, 2], []) :: (.iconst 0, 1, [], []) :: (.istore_n 2, 1, [], []) :: (.iconst 0, 1, [], []) :: (.istore_n 3, 1, [], []) :: hgr107_64
def hgr107_21 : List hgRow := (.aload_n 0, 1, [], []) :: (.invokevirtual 183, 3, [121, 1, 1, 961, 1, 6, 7], []) :: (.aload_n 0, 1, [], []) :: (.getfield 28, 3, [7, 3, 2, 296], []) :: (.getfield 88, 3, [1, 12, 0, 191], []) :: (.ldc 186, 2, [0, 981, 100000], []) :: (.iload_n 1, 1, [], []) :: (.isub, 1, [], []) :: (.if_icmp .le 13, 3, [49], []) :: (.new 187, 3, [2, 1, 965, 982, 189, 191], []) :: []
def hgr107_11 : List hgRow := (.new 55, 3, [2, 0, 410, 960, 181, 59], []) :: []
def hgr107_0 : List hgRow := (.iload_n 1, 1, [], []) :: (.iconst 1, 1, [], []) :: (.if_icmp .lt 9, 3, [11], []) :: (.iload_n 1, 1, [], []) :: (.bipush 100, 2, [], []) :: (.if_icmp .le 13, 3, [21], []) :: hgr107_11
def hgb107 : List (Nat × List Bool × List hgRow) := [(0, [true, true, false, false], hgr107_0), (11, [false, false, false, false], hgr107_11), (21, [true, true, false, false], hgr107_21), (49, [true, true, false, false], hgr107_49), (64, [true, true, true, true], hgr107_64), (85, [false, false, true, false], hgr107_85)]
/- HomeGateway.sleep(I)I -/
def hgr108_33 : List hgRow := (.aload_n 0, 1, [], []) :: (.getfield 38, 3, [7, 5, 2, 298], []) :: (.aload_n 0, 1, [], []) :: (.getfield 28, 3, [7, 3, 2, 296], []) :: (.invokevirtual 69, 3, [32, 2, 1, 658, 0, 0, 2], []) :: (.aload_n 0, 1, [], []) :: (.getfield 28, 3, [7, 3, 2, 296], []) :: (.getfield 94, 3, [1, 5, 2, 178], []) :: (.iload_n 1, 1, [], []) :: (.aaload, 1, [], []) :: (.iconst 2, 1, [], []) :: (.putfield 98, 3, [0, 4, 0, 71, 0], []) :: (.iload_n 2, 1, [], []) :: (.ireturn, 1, [1], []) :: []
def hgr108_0 : List hgRow := (.aload_n 0, 1, [], []) :: (.iload_n 1, 1, [], []) :: (.invokevirtual 91, 3, [117, 2, 1, 672, 1, 6, 7], []) :: (.aload_n 0, 1, [], []) :: (.getfield 28, 3, [7, 3, 2, 296], []) :: (.getfield 94, 3, [1, 5, 2, 178], []) :: (.iload_n 1, 1, [], []) :: (.aaload, 1, [], []) :: (.getfield 98, 3, [0, 4, 0, 71], []) :: (.istore_n 2, 1, [], []) :: (.iload_n 2, 1, [], []) :: (.iconst 2, 1, [], []) :: (.if_icmp .ne 13, 3, [33], []) :: (.new 187, 3, [2, 1, 965, 990, 192, 191], []) :: []
def hgb108 : List (Nat × List Bool × List hgRow) := [(0, [true, true, false], hgr108_0), (33, [true, true, true], hgr108_33)]
/- HomeGateway.wake(I)I -/
def hgr109_31 : List hgRow := (.aload_n 0, 1, [], []) :: (.getfield 38, 3, [7, 5, 2, 298], []) :: (.aload_n 0, 1, [], []) :: (.getfield 28, 3, [7, 3, 2, 296], []) :: (.invokevirtual 69, 3, [32, 2, 1, 658, 0, 0, 2], []) :: (.aload_n 0, 1, [], []) :: (.getfield 28, 3, [7, 3, 2, 296], []) :: (.getfield 94, 3, [1, 5, 2, 178], []) :: (.iload_n 1, 1, [], []) :: (.aaload, 1, [], []) :: (.invokevirtual 196, 3, [3, 1, 1, 999, 0, 0, 0], []) :: (.aload_n 0, 1, [], []) :: (.getfield 28, 3, [7, 3, 2, 296], []) :: (.getfield 94, 3, [1, 5, 2, 178], []) :: (.iload_n 1, 1, [], []) :: (.aaload, 1, [], []) :: (.getfield 199, 3, [0, 2, 0, 68], []) :: (.ireturn, 1, [1], []) :: []
def hgr109_0 : List hgRow := (.aload_n 0, 1, [], []) :: (.iload_n 1, 1, [], []) :: (.invokevirtual 91, 3, [117, 2, 1, 672, 1, 6, 7], []) :: (.aload_n 0, 1, [], []) :: (.getfield 28, 3, [7, 3, 2, 296], []) :: (.getfield 94, 3, [1, 5, 2, 178], []) :: (.iload_n 1, 1, [], []) :: (.aaload, 1, [], []) :: (.getfield 98, 3, [0, 4, 0, 71], []) :: (.iconst 2, 1, [], []) :: (.if_icmp .eq 13, 3, [31], []) :: (.new 187, 3, [2, 1, 965, 998, 194, 191], []) :: []
def hgb109 : List (Nat × List Bool × List hgRow) := [(0, [true, true], hgr109_0), (31, [true, true], hgr109_31)]
/- HomeGateway.setWeight(II)I -/
def hgr110_26 : List hgRow := (.aload_n 0, 1, [], []) :: (.getfield 38, 3, [7, 5, 2, 298], []) :: (.aload_n 0, 1, [], []) :: (.getfield 28, 3, [7, 3, 2, 296], []) :: (.invokevirtual 69, 3, [32, 2, 1, 658, 0, 0, 2], []) :: (.aload_n 0, 1, [], []) :: (.getfield 28, 3, [7, 3, 2, 296], []) :: (.getfield 94, 3, [1, 5, 2, 178], []) :: (.iload_n 1, 1, [], []) :: (.aaload, 1, [], []) :: (.getfield 103, 3, [0, 1, 0, 65], []) :: (.istore_n 3, 1, [], []) :: (.aload_n 0, 1, [], []) :: (.getfield 28, 3, [7, 3, 2, 296], []) :: (.getfield 94, 3, [1, 5, 2, 178], []) :: (.iload_n 1, 1, [], []) :: (.aaload, 1, [], []) :: (.iload_n 2, 1, [], []) :: (.putfield 103, 3, [0, 1, 0, 65, 0], []) :: (.iload_n 3, 1, [], []) :: (.ireturn, 1, [1], []) :: []
def hgr110_16 : List hgRow := (.new 55, 3, [2, 0, 410, 1007, 202, 59], []) :: []
def hgr110_0 : List hgRow := (.aload_n 0, 1, [], []) :: (.iload_n 1, 1, [], []) :: (.invokevirtual 91, 3, [117, 2, 1, 672, 1, 6, 7], []) :: (.iload_n 2, 1, [], []) :: (.iconst 1, 1, [], []) :: (.if_icmp .lt 9, 3, [16], []) :: (.iload_n 2, 1, [], []) :: (.bipush 9, 2, [], []) :: (.if_icmp .le 13, 3, [26], []) :: hgr110_16
def hgb110 : List (Nat × List Bool × List hgRow) := [(0, [true, true, true, false], hgr110_0), (16, [false, false, false, false], hgr110_16), (26, [true, true, true, false], hgr110_26)]
/- HomeGateway.addRule(ZIIII)I -/
def hgr111_85 : List hgRow := (.aload_n 0, 1, [], []) :: (.getfield 38, 3, [7, 5, 2, 298], []) :: (.aload_n 0, 1, [], []) :: (.getfield 28, 3, [7, 3, 2, 296], []) :: (.invokevirtual 69, 3, [32, 2, 1, 658, 0, 0, 2], []) :: (.aload_n 0, 1, [], []) :: (.getfield 28, 3, [7, 3, 2, 296], []) :: (.getfield 79, 3, [1, 7, 2, 183], []) :: (.iload_n 1, 1, [], []) :: (.iload_n 2, 1, [], []) :: (.iload_n 3, 1, [], []) :: (.iload 4, 2, [], []) :: (.iload 5, 2, [], []) :: (.invokevirtual 213, 3, [50, 6, 1, 1019, 0, 0, 5], []) :: (.aload_n 0, 1, [], []) :: (.getfield 28, 3, [7, 3, 2, 296], []) :: (.getfield 79, 3, [1, 7, 2, 183], []) :: (.getfield 83, 3, [5, 1, 0, 162], []) :: (.iconst 1, 1, [], []) :: (.isub, 1, [], []) :: (.ireturn, 1, [1], []) :: []
def hgr111_58 : List hgRow := (.aload_n 0, 1, [], []) :: (.invokevirtual 183, 3, [121, 1, 1, 961, 1, 6, 7], []) :: (.aload_n 0, 1, [], []) :: (.getfield 28, 3, [7, 3, 2, 296], []) :: (.getfield 79, 3, [1, 7, 2, 183], []) :: (.invokevirtual 208, 3, [49, 1, 0, 1017, 0, 0, 5], []) :: (.ifCond .eq 13, 3, [85], []) :: (.new 187, 3, [2, 1, 965, 1018, 211, 191], []) :: []
def hgr111_48 : List hgRow := (.new 55, 3, [2, 0, 410, 1016, 206, 59], []) :: []
def hgr111_28 : List hgRow := (.iload 4, 2, [], []) :: (.ifCond .lt 18, 3, [48], []) :: (.iload 5, 2, [], []) :: (.sipush 1000, 3, [], []) :: (.if_icmp .ge 10, 3, [48], []) :: (.iload 5, 2, [], []) :: (.iload 4, 2, [], []) :: (.if_icmp .ge 13, 3, [58], []) :: hgr111_48
def hgr111_18 : List hgRow := (.new 55, 3, [2, 0, 410, 1015, 204, 59], []) :: []
def hgr111_0 : List hgRow := (.iload_n 2, 1, [], []) :: (.ifCond .lt 17, 3, [18], []) :: (.iload_n 2, 1, [], []) :: (.iconst 4, 1, [], []) :: (.if_icmp .gt 12, 3, [18], []) :: (.iload_n 3, 1, [], []) :: (.ifCond .lt 8, 3, [18], []) :: (.iload_n 3, 1, [], []) :: (.iconst 4, 1, [], []) :: (.if_icmp .le 13, 3, [28], []) :: hgr111_18
def hgb111 : List (Nat × List Bool × List hgRow) := [(0, [true, true, true, true, true, true], hgr111_0), (18, [false, false, false, false, false, false], hgr111_18), (28, [true, true, true, true, true, true], hgr111_28), (48, [false, false, false, false, false, false], hgr111_48), (58, [true, true, true, true, true, true], hgr111_58), (85, [true, true, true, true, true, true], hgr111_85)]
/- HomeGateway.removeRule(I)I -/
def hgr112_0 : List hgRow := (.aload_n 0, 1, [], []) :: (.iload_n 1, 1, [], []) :: (.invokevirtual 152, 3, [119, 2, 1, 814, 1, 6, 7], []) :: (.aload_n 0, 1, [], []) :: (.getfield 38, 3, [7, 5, 2, 298], []) :: (.aload_n 0, 1, [], []) :: (.getfield 28, 3, [7, 3, 2, 296], []) :: (.invokevirtual 69, 3, [32, 2, 1, 658, 0, 0, 2], []) :: (.aload_n 0, 1, [], []) :: (.getfield 28, 3, [7, 3, 2, 296], []) :: (.getfield 79, 3, [1, 7, 2, 183], []) :: (.iload_n 1, 1, [], []) :: (.invokevirtual 217, 3, [51, 2, 1, 1027, 0, 0, 5], []) :: (.aload_n 0, 1, [], []) :: (.getfield 28, 3, [7, 3, 2, 296], []) :: (.getfield 79, 3, [1, 7, 2, 183], []) :: (.getfield 83, 3, [5, 1, 0, 162], []) :: (.ireturn, 1, [1], []) :: []
def hgb112 : List (Nat × List Bool × List hgRow) := [(0, [true, true], hgr112_0)]
/- HomeGateway.moveRule(II)I -/
def hgr113_0 : List hgRow := (.aload_n 0, 1, [], []) :: (.iload_n 1, 1, [], []) :: (.invokevirtual 152, 3, [119, 2, 1, 814, 1, 6, 7], []) :: (.aload_n 0, 1, [], []) :: (.iload_n 2, 1, [], []) :: (.invokevirtual 152, 3, [119, 2, 1, 814, 1, 6, 7], []) :: (.aload_n 0, 1, [], []) :: (.getfield 38, 3, [7, 5, 2, 298], []) :: (.aload_n 0, 1, [], []) :: (.getfield 28, 3, [7, 3, 2, 296], []) :: (.invokevirtual 69, 3, [32, 2, 1, 658, 0, 0, 2], []) :: (.aload_n 0, 1, [], []) :: (.getfield 28, 3, [7, 3, 2, 296], []) :: (.getfield 79, 3, [1, 7, 2, 183], []) :: (.iload_n 1, 1, [], []) :: (.iload_n 2, 1, [], []) :: (.invokevirtual 220, 3, [52, 3, 1, 1042, 0, 0, 5], []) :: (.aload_n 0, 1, [], []) :: (.getfield 28, 3, [7, 3, 2, 296], []) :: (.getfield 79, 3, [1, 7, 2, 183], []) :: (.getfield 83, 3, [5, 1, 0, 162], []) :: (.ireturn, 1, [1], []) :: []
def hgb113 : List (Nat × List Bool × List hgRow) := [(0, [true, true, true], hgr113_0)]
/- HomeGateway.undo()I -/
def hgr114_12 : List hgRow := (.aload_n 0, 1, [], []) :: (.getfield 38, 3, [7, 5, 2, 298], []) :: (.aload_n 0, 1, [], []) :: (.getfield 28, 3, [7, 3, 2, 296], []) :: (.invokevirtual 225, 3, [33, 2, 1, 364, 0, 0, 2], []) :: (.aload_n 0, 1, [], []) :: (.getfield 38, 3, [7, 5, 2, 298], []) :: (.getfield 224, 3, [2, 2, 0, 243], []) :: (.ireturn, 1, [1], []) :: []
def hgr114_0 : List hgRow := (.aload_n 0, 1, [], []) :: (.getfield 38, 3, [7, 5, 2, 298], []) :: (.getfield 224, 3, [2, 2, 0, 243], []) :: (.ifCond .ne 5, 3, [12], []) :: (.iconst (-1), 1, [], []) :: (.ireturn, 1, [1], []) :: []
def hgb114 : List (Nat × List Bool × List hgRow) := [(0, [true], hgr114_0), (12, [true], hgr114_12)]
/- HomeGateway.checksum()J -/
def hgr115_0 : List hgRow := (.aload_n 0, 1, [], []) :: (.getfield 28, 3, [7, 3, 2, 296], []) :: (.invokevirtual 228, 3, [30, 1, 0, 392, 0, 0, 1], []) :: (.lreturn, 1, [], []) :: []
def hgb115 : List (Nat × List Bool × List hgRow) := [(0, [true], hgr115_0)]
/- HomeGateway.appendWord(I)V -/
def hgr116_55 : List hgRow := (.return_, 1, [], []) :: []
def hgr116_49 : List hgRow := (.iinc 2 (-8), 3, [], []) :: (.goto (-49), 3, [3], []) :: []
def hgr116_3 : List hgRow := (.iload_n 2, 1, [], []) :: (.ifCond .lt 51, 3, [55], []) :: (.aload_n 0, 1, [], []) :: (.getfield 16, 3, [7, 1, 0, 294], []) :: (.ifCond .lt 38, 3, [49], []) :: (.aload_n 0, 1, [], []) :: (.getfield 16, 3, [7, 1, 0, 294], []) :: (.aload_n 0, 1, [], []) :: (.getfield 12, 3, [7, 0, 2, 293], []) :: (.arraylength, 1, [], []) :: (.if_icmp .ge 26, 3, [49], []) :: (.aload_n 0, 1, [], []) :: (.getfield 12, 3, [7, 0, 2, 293], []) :: (.aload_n 0, 1, [], []) :: (.getfield 16, 3, [7, 1, 0, 294], []) :: (.iload_n 1, 1, [], []) :: (.iload_n 2, 1, [], []) :: (.iushr, 1, [], []) :: (.i2b, 1, [], []) :: (.bastore, 1, [], []) :: (.aload_n 0, 1, [], []) :: (.dup, 1, [], []) :: (.getfield 16, 3, [7, 1, 0, 294], []) :: (.iconst 1, 1, [], []) :: (.iadd, 1, [], []) :: (.putfield 16, 3, [7, 1, 0, 294, 0], []) :: hgr116_49
def hgr116_0 : List hgRow := (.bipush 24, 2, [], []) :: (.istore_n 2, 1, [], []) :: hgr116_3
def hgb116 : List (Nat × List Bool × List hgRow) := [(0, [true, true, false], hgr116_0), (3, [true, true, true], hgr116_3), (49, [true, true, true], hgr116_49), (55, [false, false, false], hgr116_55)]
/- HomeGateway.checkDevice(I)V -/
def hgr117_25 : List hgRow := (.return_, 1, [], []) :: []
def hgr117_15 : List hgRow := (.new 232, 3, [2, 2, 676, 685, 234, 236], []) :: []
def hgr117_0 : List hgRow := (.iload_n 1, 1, [], []) :: (.ifCond .lt 14, 3, [15], []) :: (.iload_n 1, 1, [], []) :: (.aload_n 0, 1, [], []) :: (.getfield 28, 3, [7, 3, 2, 296], []) :: (.getfield 76, 3, [1, 6, 0, 180], []) :: (.if_icmp .lt 13, 3, [25], []) :: hgr117_15
def hgb117 : List (Nat × List Bool × List hgRow) := [(0, [true, true], hgr117_0), (15, [false, false], hgr117_15), (25, [false, false], hgr117_25)]
/- HomeGateway.checkSender(I)V -/
def hgr118_26 : List hgRow := (.return_, 1, [], []) :: []
def hgr118_16 : List hgRow := (.new 232, 3, [2, 2, 676, 757, 237, 236], []) :: []
def hgr118_0 : List hgRow := (.iload_n 1, 1, [], []) :: (.iconst (-1), 1, [], []) :: (.if_icmp .lt 14, 3, [16], []) :: (.iload_n 1, 1, [], []) :: (.aload_n 0, 1, [], []) :: (.getfield 28, 3, [7, 3, 2, 296], []) :: (.getfield 76, 3, [1, 6, 0, 180], []) :: (.if_icmp .lt 13, 3, [26], []) :: hgr118_16
def hgb118 : List (Nat × List Bool × List hgRow) := [(0, [true, true], hgr118_0), (16, [false, false], hgr118_16), (26, [false, false], hgr118_26)]
/- HomeGateway.checkRule(I)V -/
def hgr119_28 : List hgRow := (.return_, 1, [], []) :: []
def hgr119_18 : List hgRow := (.new 232, 3, [2, 2, 676, 818, 239, 236], []) :: []
def hgr119_0 : List hgRow := (.iload_n 1, 1, [], []) :: (.ifCond .lt 17, 3, [18], []) :: (.iload_n 1, 1, [], []) :: (.aload_n 0, 1, [], []) :: (.getfield 28, 3, [7, 3, 2, 296], []) :: (.getfield 79, 3, [1, 7, 2, 183], []) :: (.getfield 83, 3, [5, 1, 0, 162], []) :: (.if_icmp .lt 13, 3, [28], []) :: hgr119_18
def hgb119 : List (Nat × List Bool × List hgRow) := [(0, [true, true], hgr119_0), (18, [false, false], hgr119_18), (28, [false, false], hgr119_28)]
/- HomeGateway.checkPort(I)V -/
def hgr120_21 : List hgRow := (.return_, 1, [], []) :: []
def hgr120_11 : List hgRow := (.new 55, 3, [2, 0, 410, 761, 241, 59], []) :: []
def hgr120_0 : List hgRow := (.iload_n 0, 1, [], []) :: (.ifCond .lt 10, 3, [11], []) :: (.iload_n 0, 1, [], []) :: (.sipush 1000, 3, [], []) :: (.if_icmp .lt 13, 3, [21], []) :: hgr120_11
def hgb120 : List (Nat × List Bool × List hgRow) := [(0, [true], hgr120_0), (11, [false], hgr120_11), (21, [false], hgr120_21)]
/- HomeGateway.checkGateway()V -/
def hgr121_20 : List hgRow := (.return_, 1, [], []) :: []
def hgr121_0 : List hgRow := (.aload_n 0, 1, [], []) :: (.getfield 28, 3, [7, 3, 2, 296], []) :: (.getfield 243, 3, [1, 1, 3, 170], []) :: (.ifCond .ne 13, 3, [20], []) :: (.new 187, 3, [2, 1, 965, 974, 247, 191], []) :: []
def hgb121 : List (Nat × List Bool × List hgRow) := [(0, [true], hgr121_0), (20, [false], hgr121_20)]
/- HomeGatewayModel.<init>()V -/
def hgr122_0 : List hgRow := (.aload_n 0, 1, [], []) :: (.invokespecial 3, 3, [1005, 1, 1, 1048, 0, 0, 99], []) :: (.aload_n 0, 1, [], []) :: (.sipush 900, 3, [], []) :: (.newarray .int, 2, [20], []) :: (.putfield 9, 3, [8, 1, 2, 1054, 1], []) :: (.aload_n 0, 1, [], []) :: (.iconst (-1), 1, [], []) :: (.putfield 13, 3, [8, 7, 0, 1060, 0], []) :: (.aload_n 0, 1, [], []) :: (.sipush 20187, 3, [], []) :: (.newarray .int, 2, [20], []) :: (.putfield 17, 3, [8, 8, 2, 1061, 1], []) :: (.aload_n 0, 1, [], []) :: (.sipush 20187, 3, [], []) :: (.newarray .int, 2, [20], []) :: (.putfield 20, 3, [8, 9, 2, 1062, 1], []) :: (.aload_n 0, 1, [], []) :: (.sipush 20187, 3, [], []) :: (.newarray .int, 2, [20], []) :: (.putfield 23, 3, [8, 10, 2, 1063, 1], []) :: (.aload_n 0, 1, [], []) :: (.bipush 8, 2, [], []) :: (.sipush 20187, 3, [], []) :: (.multianewarray 26 2, 4, [27, 20, 8, 20187, 1049], []) :: (.putfield 28, 3, [8, 11, 2, 1064, 1], []) :: (.aload_n 0, 1, [], []) :: (.bipush 10, 2, [], []) :: (.newarray .long, 2, [21], []) :: (.putfield 31, 3, [8, 12, 2, 1065, 1], []) :: (.aload_n 0, 1, [], []) :: (.bipush 10, 2, [], []) :: (.newarray .long, 2, [21], []) :: (.putfield 35, 3, [8, 13, 2, 1066, 1], []) :: (.aload_n 0, 1, [], []) :: (.bipush 8, 2, [], []) :: (.bipush 10, 2, [], []) :: (.multianewarray 38 2, 4, [28, 21, 8, 10, 1051], []) :: (.putfield 40, 3, [8, 14, 2, 1067, 1], []) :: (.return_, 1, [], []) :: []
def hgb122 : List (Nat × List Bool × List hgRow) := [(0, [true], hgr122_0)]
/- HomeGatewayModel.thrown()I -/
def hgr123_0 : List hgRow := (.aload_n 0, 1, [], []) :: (.getfield 43, 3, [8, 0, 0, 1053], []) :: (.ireturn, 1, [1], []) :: []
def hgb123 : List (Nat × List Bool × List hgRow) := [(0, [true], hgr123_0)]
/- HomeGatewayModel.fails(ZI)Z -/
def hgr124_28 : List hgRow := (.ireturn, 1, [3], []) :: []
def hgr124_27 : List hgRow := (.iconst 0, 1, [], []) :: hgr124_28
def hgr124_16 : List hgRow := (.aload_n 0, 1, [], []) :: (.getfield 43, 3, [8, 0, 0, 1053], []) :: (.ifCond .eq 7, 3, [27], []) :: (.iconst 1, 1, [], []) :: (.goto 4, 3, [28], []) :: []
def hgr124_0 : List hgRow := (.iload_n 1, 1, [], []) :: (.ifCond .eq 15, 3, [16], []) :: (.aload_n 0, 1, [], []) :: (.getfield 43, 3, [8, 0, 0, 1053], []) :: (.ifCond .ne 8, 3, [16], []) :: (.aload_n 0, 1, [], []) :: (.iload_n 2, 1, [], []) :: (.putfield 43, 3, [8, 0, 0, 1053, 0], []) :: hgr124_16
def hgb124 : List (Nat × List Bool × List hgRow) := [(0, [true, true, true], hgr124_0), (16, [true, false, false], hgr124_16), (27, [false, false, false], hgr124_27), (28, [false, false, false], hgr124_28)]
/- HomeGatewayModel.in(III)Z -/
def hgr125_15 : List hgRow := (.ireturn, 1, [3], []) :: []
def hgr125_14 : List hgRow := (.iconst 0, 1, [], []) :: hgr125_15
def hgr125_0 : List hgRow := (.iload_n 0, 1, [], []) :: (.iload_n 1, 1, [], []) :: (.if_icmp .lt 12, 3, [14], []) :: (.iload_n 0, 1, [], []) :: (.iload_n 2, 1, [], []) :: (.if_icmp .gt 7, 3, [14], []) :: (.iconst 1, 1, [], []) :: (.goto 4, 3, [15], []) :: []
def hgb125 : List (Nat × List Bool × List hgRow) := [(0, [true, true, true], hgr125_0), (14, [false, false, false], hgr125_14), (15, [false, false, false], hgr125_15)]
/- HomeGatewayModel.max(II)I -/
def hgr126_10 : List hgRow := (.ireturn, 1, [1], []) :: []
def hgr126_9 : List hgRow := (.iload_n 1, 1, [], []) :: hgr126_10
def hgr126_0 : List hgRow := (.iload_n 0, 1, [], []) :: (.iload_n 1, 1, [], []) :: (.if_icmp .le 7, 3, [9], []) :: (.iload_n 0, 1, [], []) :: (.goto 4, 3, [10], []) :: []
def hgb126 : List (Nat × List Bool × List hgRow) := [(0, [true, true], hgr126_0), (9, [false, true], hgr126_9), (10, [false, false], hgr126_10)]
/- HomeGatewayModel.min(II)I -/
def hgr127_10 : List hgRow := (.ireturn, 1, [1], []) :: []
def hgr127_9 : List hgRow := (.iload_n 1, 1, [], []) :: hgr127_10
def hgr127_0 : List hgRow := (.iload_n 0, 1, [], []) :: (.iload_n 1, 1, [], []) :: (.if_icmp .ge 7, 3, [9], []) :: (.iload_n 0, 1, [], []) :: (.goto 4, 3, [10], []) :: []
def hgb127 : List (Nat × List Bool × List hgRow) := [(0, [true, true], hgr127_0), (9, [false, true], hgr127_9), (10, [false, false], hgr127_10)]
/- HomeGatewayModel.device(I)I -/
def hgr128_0 : List hgRow := (.bipush 27, 2, [], []) :: (.bipush 10, 2, [], []) :: (.iload_n 0, 1, [], []) :: (.imul, 1, [], []) :: (.iadd, 1, [], []) :: (.ireturn, 1, [1], []) :: []
def hgb128 : List (Nat × List Bool × List hgRow) := [(0, [true], hgr128_0)]
/- HomeGatewayModel.rule(I)I -/
def hgr129_0 : List hgRow := (.bipush 127, 2, [], []) :: (.iconst 5, 1, [], []) :: (.iload_n 0, 1, [], []) :: (.imul, 1, [], []) :: (.iadd, 1, [], []) :: (.ireturn, 1, [1], []) :: []
def hgb129 : List (Nat × List Bool × List hgRow) := [(0, [true], hgr129_0)]
/- HomeGatewayModel.packet(II)I -/
def hgr130_0 : List hgRow := (.sipush 187, 3, [], []) :: (.iconst 2, 1, [], []) :: (.sipush 1000, 3, [], []) :: (.iload_n 0, 1, [], []) :: (.imul, 1, [], []) :: (.iload_n 1, 1, [], []) :: (.iadd, 1, [], []) :: (.imul, 1, [], []) :: (.iadd, 1, [], []) :: (.ireturn, 1, [1], []) :: []
def hgb130 : List (Nat × List Bool × List hgRow) := [(0, [true, true], hgr130_0)]
/- HomeGatewayModel.quiet(I)I -/
def hgr131_0 : List hgRow := (.bipush 18, 2, [], []) :: (.iconst 3, 1, [], []) :: (.iload_n 0, 1, [], []) :: (.imul, 1, [], []) :: (.iadd, 1, [], []) :: (.ireturn, 1, [1], []) :: []
def hgb131 : List (Nat × List Bool × List hgRow) := [(0, [true], hgr131_0)]
/- HomeGatewayModel.copy([I[I)V -/
def hgr132_71 : List hgRow := (.return_, 1, [], []) :: []
def hgr132_65 : List hgRow := (.iinc 2 1, 3, [], []) :: (.goto (-45), 3, [23], []) :: []
def hgr132_36 : List hgRow := (.iload_n 3, 1, [], []) :: (.iload_n 2, 1, [], []) :: (.aload_n 0, 1, [], []) :: (.iload_n 2, 1, [], []) :: (.invokestatic 50, 3, [128, 1, 0, 1185, 0, 0, 99], []) :: (.bipush 9, 2, [], []) :: (.iadd, 1, [], []) :: (.iaload, 1, [], []) :: (.invokestatic 46, 3, [130, 2, 0, 1234, 0, 0, 99], []) :: (.if_icmp .ge 15, 3, [65], []) :: (.aload_n 1, 1, [], []) :: (.iload_n 3, 1, [], []) :: (.aload_n 0, 1, [], []) :: (.iload_n 3, 1, [], []) :: (.iaload, 1, [], []) :: (.iastore, 1, [], []) :: (.iinc 3 1, 3, [], []) :: (.goto (-26), 3, [36], []) :: []
def hgr132_23 : List hgRow := (.iload_n 2, 1, [], []) :: (.aload_n 0, 1, [], []) :: (.iconst 0, 1, [], []) :: (.iaload, 1, [], []) :: (.if_icmp .ge 44, 3, [71], []) :: (.iload_n 2, 1, [], []) :: (.iconst 0, 1, [], []) :: (.invokestatic 46, 3, [130, 2, 0, 1234, 0, 0, 99], []) :: (.istore_n 3, 1, [], []) :: hgr132_36
def hgr132_21 : List hgRow := (.iconst 0, 1, [], []) :: (.istore_n 2, 1, [], []) :: hgr132_23
def hgr132_2 : List hgRow := (.iload_n 2, 1, [], []) :: (.sipush 187, 3, [], []) :: (.if_icmp .ge 15, 3, [21], []) :: (.aload_n 1, 1, [], []) :: (.iload_n 2, 1, [], []) :: (.aload_n 0, 1, [], []) :: (.iload_n 2, 1, [], []) :: (.iaload, 1, [], []) :: (.iastore, 1, [], []) :: (.iinc 2 1, 3, [], []) :: (.goto (-16), 3, [2], []) :: []
def hgr132_0 : List hgRow := (.iconst 0, 1, [], []) :: (.istore_n 2, 1, [], []) :: hgr132_2
def hgb132 : List (Nat × List Bool × List hgRow) := [(0, [true, true, false, false], hgr132_0), (2, [true, true, true, false], hgr132_2), (21, [true, true, false, false], hgr132_21), (23, [true, true, true, false], hgr132_23), (36, [true, true, true, true], hgr132_36), (65, [true, true, true, false], hgr132_65), (71, [false, false, false, false], hgr132_71)]
/- HomeGatewayModel.copyTimes([J[J)V -/
def hgr133_20 : List hgRow := (.return_, 1, [], []) :: []
def hgr133_2 : List hgRow := (.iload_n 2, 1, [], []) :: (.bipush 10, 2, [], []) :: (.if_icmp .ge 15, 3, [20], []) :: (.aload_n 1, 1, [], []) :: (.iload_n 2, 1, [], []) :: (.aload_n 0, 1, [], []) :: (.iload_n 2, 1, [], []) :: (.laload, 1, [], []) :: (.lastore, 1, [], []) :: (.iinc 2 1, 3, [], []) :: (.goto (-15), 3, [2], []) :: []
def hgr133_0 : List hgRow := (.iconst 0, 1, [], []) :: (.istore_n 2, 1, [], []) :: hgr133_2
def hgb133 : List (Nat × List Bool × List hgRow) := [(0, [true, true, false], hgr133_0), (2, [true, true, true], hgr133_2), (20, [false, false, false], hgr133_20)]
/- HomeGatewayModel.append(IIIII)I -/
def hgr134_120 : List hgRow := (.aload_n 0, 1, [], []) :: (.getfield 54, 3, [8, 2, 0, 1055], []) :: (.ireturn, 1, [1], []) :: []
def hgr134_76 : List hgRow := (.istore 7, 2, [], []) :: (.aload_n 0, 1, [], []) :: (.getfield 9, 3, [8, 1, 2, 1054], []) :: (.aload_n 0, 1, [], []) :: (.getfield 54, 3, [8, 2, 0, 1055], []) :: (.iload 7, 2, [], []) :: (.bipush 24, 2, [], []) :: (.bipush 8, 2, [], []) :: (.iload 6, 2, [], []) :: (.iconst 4, 1, [], []) :: (.irem, 1, [], []) :: (.imul, 1, [], []) :: (.isub, 1, [], []) :: (.ishr, 1, [], []) :: (.sipush 255, 3, [], []) :: (.iand, 1, [], []) :: (.iastore, 1, [], []) :: (.aload_n 0, 1, [], []) :: (.dup, 1, [], []) :: (.getfield 54, 3, [8, 2, 0, 1055], []) :: (.iconst 1, 1, [], []) :: (.iadd, 1, [], []) :: (.putfield 54, 3, [8, 2, 0, 1055, 0], []) :: (.iinc 6 1, 3, [], []) :: (.goto (-94), 3, [23], []) :: []
def hgr134_74 : List hgRow := (.iload 5, 2, [], []) :: hgr134_76
def hgr134_62 : List hgRow := (.iload 6, 2, [], []) :: (.bipush 16, 2, [], []) :: (.if_icmp .ge 8, 3, [74], []) :: (.iload 4, 2, [], []) :: (.goto 5, 3, [76], []) :: []
def hgr134_51 : List hgRow := (.iload 6, 2, [], []) :: (.bipush 12, 2, [], []) :: (.if_icmp .ge 7, 3, [62], []) :: (.iload_n 3, 1, [], []) :: (.goto 17, 3, [76], []) :: []
def hgr134_40 : List hgRow := (.iload 6, 2, [], []) :: (.bipush 8, 2, [], []) :: (.if_icmp .ge 7, 3, [51], []) :: (.iload_n 2, 1, [], []) :: (.goto 28, 3, [76], []) :: []
def hgr134_23 : List hgRow := (.iload 6, 2, [], []) :: (.bipush 20, 2, [], []) :: (.if_icmp .ge 93, 3, [120], []) :: (.iload 6, 2, [], []) :: (.iconst 4, 1, [], []) :: (.if_icmp .ge 7, 3, [40], []) :: (.iload_n 1, 1, [], []) :: (.goto 39, 3, [76], []) :: []
def hgr134_20 : List hgRow := (.iconst 0, 1, [], []) :: (.istore 6, 2, [], []) :: hgr134_23
def hgr134_0 : List hgRow := (.aload_n 0, 1, [], []) :: (.iconst 0, 1, [], []) :: (.putfield 43, 3, [8, 0, 0, 1053, 0], []) :: (.aload_n 0, 1, [], []) :: (.getfield 54, 3, [8, 2, 0, 1055], []) :: (.bipush 20, 2, [], []) :: (.iadd, 1, [], []) :: (.sipush 900, 3, [], []) :: (.if_icmp .le 5, 3, [20], []) :: (.iconst (-1), 1, [], []) :: (.ireturn, 1, [1], []) :: []
def hgb134 : List (Nat × List Bool × List hgRow) := [(0, [true, true, true, true, true, true, false, false], hgr134_0), (20, [true, true, true, true, true, true, false, false], hgr134_20), (23, [true, true, true, true, true, true, true, false], hgr134_23), (40, [true, true, true, true, true, true, true, false], hgr134_40), (51, [true, true, true, true, true, true, true, false], hgr134_51), (62, [true, true, true, true, true, true, true, false], hgr134_62), (74, [true, true, true, true, true, true, true, false], hgr134_74), (76, [true, true, true, true, true, true, true, false], hgr134_76), (120, [true, false, false, false, false, false, false, false], hgr134_120)]
/- HomeGatewayModel.byteAt(I)I -/
def hgr135_18 : List hgRow := (.ireturn, 1, [1], []) :: []
def hgr135_17 : List hgRow := (.iconst (-1), 1, [], []) :: hgr135_18
def hgr135_0 : List hgRow := (.iload_n 1, 1, [], []) :: (.aload_n 0, 1, [], []) :: (.getfield 57, 3, [8, 3, 0, 1056], []) :: (.if_icmp .ge 12, 3, [17], []) :: (.aload_n 0, 1, [], []) :: (.getfield 9, 3, [8, 1, 2, 1054], []) :: (.iload_n 1, 1, [], []) :: (.iaload, 1, [], []) :: (.goto 4, 3, [18], []) :: []
def hgb135 : List (Nat × List Bool × List hgRow) := [(0, [true, true], hgr135_0), (17, [false, false], hgr135_17), (18, [false, false], hgr135_18)]
/- HomeGatewayModel.isGood()Z -/
def hgr136_12 : List hgRow := (.ireturn, 1, [3], []) :: []
def hgr136_11 : List hgRow := (.iconst 0, 1, [], []) :: hgr136_12
def hgr136_0 : List hgRow := (.aload_n 0, 1, [], []) :: (.getfield 60, 3, [8, 5, 0, 1058], []) :: (.ifCond .ne 7, 3, [11], []) :: (.iconst 1, 1, [], []) :: (.goto 4, 3, [12], []) :: []
def hgb136 : List (Nat × List Bool × List hgRow) := [(0, [true], hgr136_0), (11, [false], hgr136_11), (12, [false], hgr136_12)]
/- HomeGatewayModel.report(II)V -/
def hgr137_8 : List hgRow := (.aload_n 0, 1, [], []) :: (.iload_n 1, 1, [], []) :: (.putfield 60, 3, [8, 5, 0, 1058, 0], []) :: (.aload_n 0, 1, [], []) :: (.iload_n 2, 1, [], []) :: (.putfield 63, 3, [8, 6, 0, 1059, 0], []) :: (.return_, 1, [], []) :: []
def hgr137_0 : List hgRow := (.aload_n 0, 1, [], []) :: (.getfield 60, 3, [8, 5, 0, 1058], []) :: (.ifCond .eq 4, 3, [8], []) :: (.return_, 1, [], []) :: []
def hgb137 : List (Nat × List Bool × List hgRow) := [(0, [true, true, true], hgr137_0), (8, [true, true, true], hgr137_8)]
/- HomeGatewayModel.next()I -/
def hgr138_26 : List hgRow := (.aload_n 0, 1, [], []) :: (.aload_n 0, 1, [], []) :: (.getfield 66, 3, [8, 4, 0, 1057], []) :: (.invokevirtual 69, 3, [135, 2, 0, 1141, 0, 0, 8], []) :: (.ireturn, 1, [1], []) :: []
def hgr138_0 : List hgRow := (.aload_n 0, 1, [], []) :: (.aload_n 0, 1, [], []) :: (.getfield 66, 3, [8, 4, 0, 1057], []) :: (.invokevirtual 69, 3, [135, 2, 0, 1141, 0, 0, 8], []) :: (.bipush 32, 2, [], []) :: (.if_icmp .ne 16, 3, [26], []) :: (.aload_n 0, 1, [], []) :: (.dup, 1, [], []) :: (.getfield 66, 3, [8, 4, 0, 1057], []) :: (.iconst 1, 1, [], []) :: (.iadd, 1, [], []) :: (.putfield 66, 3, [8, 4, 0, 1057, 0], []) :: (.goto (-23), 3, [0], []) :: []
def hgb138 : List (Nat × List Bool × List hgRow) := [(0, [true], hgr138_0), (26, [true], hgr138_26)]
/- HomeGatewayModel.isLetter(I)Z -/
def hgr139_0 : List hgRow := (.iload_n 0, 1, [], []) :: (.bipush 97, 2, [], []) :: (.bipush 122, 2, [], []) :: (.invokestatic 72, 3, [125, 3, 0, 1121, 0, 0, 99], []) :: (.ireturn, 1, [3], []) :: []
def hgb139 : List (Nat × List Bool × List hgRow) := [(0, [true], hgr139_0)]
/- HomeGatewayModel.isDigit(I)Z -/
def hgr140_0 : List hgRow := (.iload_n 0, 1, [], []) :: (.bipush 48, 2, [], []) :: (.bipush 57, 2, [], []) :: (.invokestatic 72, 3, [125, 3, 0, 1121, 0, 0, 99], []) :: (.ireturn, 1, [3], []) :: []
def hgb140 : List (Nat × List Bool × List hgRow) := [(0, [true], hgr140_0)]
/- HomeGatewayModel.takeWord(Ljava/lang/String;)Z -/
def hgr141_71 : List hgRow := (.aload_n 0, 1, [], []) :: (.dup, 1, [], []) :: (.getfield 66, 3, [8, 4, 0, 1057], []) :: (.aload_n 1, 1, [], []) :: (.invokevirtual 84, 3, [1003, 1, 0, 1145, 0, 0, 99], []) :: (.iadd, 1, [], []) :: (.putfield 66, 3, [8, 4, 0, 1057, 0], []) :: (.iconst 1, 1, [], []) :: (.ireturn, 1, [3], []) :: []
def hgr141_50 : List hgRow := (.aload_n 0, 1, [], []) :: (.aload_n 0, 1, [], []) :: (.getfield 66, 3, [8, 4, 0, 1057], []) :: (.aload_n 1, 1, [], []) :: (.invokevirtual 84, 3, [1003, 1, 0, 1145, 0, 0, 99], []) :: (.iadd, 1, [], []) :: (.invokevirtual 69, 3, [135, 2, 0, 1141, 0, 0, 8], []) :: (.invokestatic 93, 3, [139, 1, 0, 1147, 0, 0, 99], []) :: (.ifCond .eq 5, 3, [71], []) :: (.iconst 0, 1, [], []) :: (.ireturn, 1, [3], []) :: []
def hgr141_44 : List hgRow := (.iinc 2 1, 3, [], []) :: (.goto (-31), 3, [16], []) :: []
def hgr141_16 : List hgRow := (.iload_n 2, 1, [], []) :: (.aload_n 1, 1, [], []) :: (.invokevirtual 84, 3, [1003, 1, 0, 1145, 0, 0, 99], []) :: (.if_icmp .ge 29, 3, [50], []) :: (.aload_n 0, 1, [], []) :: (.aload_n 0, 1, [], []) :: (.getfield 66, 3, [8, 4, 0, 1057], []) :: (.iload_n 2, 1, [], []) :: (.iadd, 1, [], []) :: (.invokevirtual 69, 3, [135, 2, 0, 1141, 0, 0, 8], []) :: (.aload_n 1, 1, [], []) :: (.iload_n 2, 1, [], []) :: (.invokevirtual 89, 3, [1004, 2, 0, 1146, 0, 0, 99], []) :: (.if_icmp .eq 5, 3, [44], []) :: (.iconst 0, 1, [], []) :: (.ireturn, 1, [3], []) :: []
def hgr141_9 : List hgRow := (.aload_n 0, 1, [], []) :: (.invokevirtual 80, 3, [138, 1, 0, 1137, 0, 0, 8], []) :: (.pop, 1, [], []) :: (.iconst 0, 1, [], []) :: (.istore_n 2, 1, [], []) :: hgr141_16
def hgr141_0 : List hgRow := (.aload_n 0, 1, [], []) :: (.invokevirtual 76, 3, [136, 1, 0, 1133, 0, 0, 8], []) :: (.ifCond .ne 5, 3, [9], []) :: (.iconst 0, 1, [], []) :: (.ireturn, 1, [3], []) :: []
def hgb141 : List (Nat × List Bool × List hgRow) := [(0, [true, true, false], hgr141_0), (9, [true, true, false], hgr141_9), (16, [true, true, true], hgr141_16), (44, [true, true, true], hgr141_44), (50, [true, true, false], hgr141_50), (71, [true, true, false], hgr141_71)]
/- HomeGatewayModel.expect(I)V -/
def hgr142_27 : List hgRow := (.aload_n 0, 1, [], []) :: (.dup, 1, [], []) :: (.getfield 66, 3, [8, 4, 0, 1057], []) :: (.iconst 1, 1, [], []) :: (.iadd, 1, [], []) :: (.putfield 66, 3, [8, 4, 0, 1057, 0], []) :: (.return_, 1, [], []) :: []
def hgr142_8 : List hgRow := (.aload_n 0, 1, [], []) :: (.invokevirtual 80, 3, [138, 1, 0, 1137, 0, 0, 8], []) :: (.iload_n 1, 1, [], []) :: (.if_icmp .eq 14, 3, [27], []) :: (.aload_n 0, 1, [], []) :: (.bipush (-2), 2, [], []) :: (.aload_n 0, 1, [], []) :: (.getfield 66, 3, [8, 4, 0, 1057], []) :: (.invokevirtual 97, 3, [137, 3, 1, 1150, 0, 0, 8], []) :: (.return_, 1, [], []) :: []
def hgr142_0 : List hgRow := (.aload_n 0, 1, [], []) :: (.invokevirtual 76, 3, [136, 1, 0, 1133, 0, 0, 8], []) :: (.ifCond .ne 4, 3, [8], []) :: (.return_, 1, [], []) :: []
def hgb142 : List (Nat × List Bool × List hgRow) := [(0, [true, true], hgr142_0), (8, [true, true], hgr142_8), (27, [true, false], hgr142_27)]
/- HomeGatewayModel.number(II)I -/
def hgr143_109 : List hgRow := (.iload_n 3, 1, [], []) :: (.ireturn, 1, [1], []) :: []
def hgr143_90 : List hgRow := (.iload_n 3, 1, [], []) :: (.iload_n 1, 1, [], []) :: (.iload_n 2, 1, [], []) :: (.invokestatic 72, 3, [125, 3, 0, 1121, 0, 0, 99], []) :: (.ifCond .ne 13, 3, [109], []) :: (.aload_n 0, 1, [], []) :: (.bipush (-3), 2, [], []) :: (.aload_n 0, 1, [], []) :: (.getfield 104, 3, [8, 16, 0, 1069], []) :: (.invokevirtual 97, 3, [137, 3, 1, 1150, 0, 0, 8], []) :: hgr143_109
def hgr143_41 : List hgRow := (.aload_n 0, 1, [], []) :: (.aload_n 0, 1, [], []) :: (.getfield 66, 3, [8, 4, 0, 1057], []) :: (.invokevirtual 69, 3, [135, 2, 0, 1141, 0, 0, 8], []) :: (.invokestatic 101, 3, [140, 1, 0, 1158, 0, 0, 99], []) :: (.ifCond .eq 38, 3, [90], []) :: (.ldc 107, 2, [0, 1161, 1000000], []) :: (.bipush 10, 2, [], []) :: (.iload_n 3, 1, [], []) :: (.imul, 1, [], []) :: (.aload_n 0, 1, [], []) :: (.aload_n 0, 1, [], []) :: (.getfield 66, 3, [8, 4, 0, 1057], []) :: (.invokevirtual 69, 3, [135, 2, 0, 1141, 0, 0, 8], []) :: (.iadd, 1, [], []) :: (.bipush 48, 2, [], []) :: (.isub, 1, [], []) :: (.invokestatic 108, 3, [127, 2, 0, 1162, 0, 0, 99], []) :: (.istore_n 3, 1, [], []) :: (.aload_n 0, 1, [], []) :: (.dup, 1, [], []) :: (.getfield 66, 3, [8, 4, 0, 1057], []) :: (.iconst 1, 1, [], []) :: (.iadd, 1, [], []) :: (.putfield 66, 3, [8, 4, 0, 1057, 0], []) :: (.goto (-46), 3, [41], []) :: []
def hgr143_31 : List hgRow := (.aload_n 0, 1, [], []) :: (.aload_n 0, 1, [], []) :: (.getfield 66, 3, [8, 4, 0, 1057], []) :: (.putfield 104, 3, [8, 16, 0, 1069, 0], []) :: (.iconst 0, 1, [], []) :: (.istore_n 3, 1, [], []) :: hgr143_41
def hgr143_9 : List hgRow := (.aload_n 0, 1, [], []) :: (.invokevirtual 80, 3, [138, 1, 0, 1137, 0, 0, 8], []) :: (.invokestatic 101, 3, [140, 1, 0, 1158, 0, 0, 99], []) :: (.ifCond .ne 15, 3, [31], []) :: (.aload_n 0, 1, [], []) :: (.bipush (-2), 2, [], []) :: (.aload_n 0, 1, [], []) :: (.getfield 66, 3, [8, 4, 0, 1057], []) :: (.invokevirtual 97, 3, [137, 3, 1, 1150, 0, 0, 8], []) :: (.iconst 0, 1, [], []) :: (.ireturn, 1, [1], []) :: []
def hgr143_0 : List hgRow := (.aload_n 0, 1, [], []) :: (.invokevirtual 76, 3, [136, 1, 0, 1133, 0, 0, 8], []) :: (.ifCond .ne 5, 3, [9], []) :: (.iconst 0, 1, [], []) :: (.ireturn, 1, [1], []) :: []
def hgb143 : List (Nat × List Bool × List hgRow) := [(0, [true, true, true, false], hgr143_0), (9, [true, true, true, false], hgr143_9), (31, [true, true, true, false], hgr143_31), (41, [true, true, true, true], hgr143_41), (90, [true, true, true, true], hgr143_90), (109, [false, false, false, true], hgr143_109)]
/- HomeGatewayModel.once(II)V -/
def hgr144_19 : List hgRow := (.aload_n 0, 1, [], []) :: (.dup, 1, [], []) :: (.getfield 111, 3, [8, 17, 0, 1070], []) :: (.iconst 1, 1, [], []) :: (.iload_n 1, 1, [], []) :: (.ishl, 1, [], []) :: (.ior, 1, [], []) :: (.putfield 111, 3, [8, 17, 0, 1070, 0], []) :: (.return_, 1, [], []) :: []
def hgr144_0 : List hgRow := (.aload_n 0, 1, [], []) :: (.getfield 111, 3, [8, 17, 0, 1070], []) :: (.iload_n 1, 1, [], []) :: (.ishr, 1, [], []) :: (.iconst 1, 1, [], []) :: (.iand, 1, [], []) :: (.iconst 1, 1, [], []) :: (.if_icmp .ne 10, 3, [19], []) :: (.aload_n 0, 1, [], []) :: (.bipush (-2), 2, [], []) :: (.iload_n 2, 1, [], []) :: (.invokevirtual 97, 3, [137, 3, 1, 1150, 0, 0, 8], []) :: hgr144_19
def hgb144 : List (Nat × List Bool × List hgRow) := [(0, [true, true, true], hgr144_0), (19, [true, true, false], hgr144_19)]
/- HomeGatewayModel.readGroup()I -/
def hgr145_56 : List hgRow := (.iload_n 1, 1, [], []) :: (.ireturn, 1, [1], []) :: []
def hgr145_40 : List hgRow := (.istore_n 1, 1, [], []) :: (.iload_n 1, 1, [], []) :: (.iconst (-1), 1, [], []) :: (.if_icmp .ne 13, 3, [56], []) :: (.aload_n 0, 1, [], []) :: (.bipush (-2), 2, [], []) :: (.aload_n 0, 1, [], []) :: (.getfield 66, 3, [8, 4, 0, 1057], []) :: (.invokevirtual 97, 3, [137, 3, 1, 1150, 0, 0, 8], []) :: hgr145_56
def hgr145_39 : List hgRow := (.iconst (-1), 1, [], []) :: hgr145_40
def hgr145_26 : List hgRow := (.aload_n 0, 1, [], []) :: (.ldc 122, 2, [2, 1184, 1002], []) :: (.invokevirtual 116, 3, [141, 2, 0, 1129, 0, 0, 8], []) :: (.ifCond .eq 7, 3, [39], []) :: (.iconst 2, 1, [], []) :: (.goto 4, 3, [40], []) :: []
def hgr145_13 : List hgRow := (.aload_n 0, 1, [], []) :: (.ldc 120, 2, [2, 1183, 1001], []) :: (.invokevirtual 116, 3, [141, 2, 0, 1129, 0, 0, 8], []) :: (.ifCond .eq 7, 3, [26], []) :: (.iconst 1, 1, [], []) :: (.goto 17, 3, [40], []) :: []
def hgr145_0 : List hgRow := (.aload_n 0, 1, [], []) :: (.ldc 114, 2, [2, 1182, 1000], []) :: (.invokevirtual 116, 3, [141, 2, 0, 1129, 0, 0, 8], []) :: (.ifCond .eq 7, 3, [13], []) :: (.iconst 0, 1, [], []) :: (.goto 30, 3, [40], []) :: []
def hgb145 : List (Nat × List Bool × List hgRow) := [(0, [true, false], hgr145_0), (13, [true, false], hgr145_13), (26, [true, false], hgr145_26), (39, [true, false], hgr145_39), (40, [true, false], hgr145_40), (56, [false, true], hgr145_56)]
/- HomeGatewayModel.readSelector()I -/
def hgr146_30 : List hgRow := (.ireturn, 1, [1], []) :: []
def hgr146_26 : List hgRow := (.aload_n 0, 1, [], []) :: (.invokevirtual 128, 3, [145, 1, 0, 1178, 0, 0, 8], []) :: hgr146_30
def hgr146_13 : List hgRow := (.aload_n 0, 1, [], []) :: (.ldc 126, 2, [2, 1198, 1004], []) :: (.invokevirtual 116, 3, [141, 2, 0, 1129, 0, 0, 8], []) :: (.ifCond .eq 7, 3, [26], []) :: (.iconst 4, 1, [], []) :: (.goto 7, 3, [30], []) :: []
def hgr146_0 : List hgRow := (.aload_n 0, 1, [], []) :: (.ldc 124, 2, [2, 1197, 1003], []) :: (.invokevirtual 116, 3, [141, 2, 0, 1129, 0, 0, 8], []) :: (.ifCond .eq 7, 3, [13], []) :: (.iconst 3, 1, [], []) :: (.goto 20, 3, [30], []) :: []
def hgb146 : List (Nat × List Bool × List hgRow) := [(0, [true], hgr146_0), (13, [true], hgr146_13), (26, [true], hgr146_26), (30, [false], hgr146_30)]
/- HomeGatewayModel.readDevice(I)V -/
def hgr147_57 : List hgRow := (.aload_n 0, 1, [], []) :: (.getfield 20, 3, [8, 9, 2, 1062], []) :: (.iconst 0, 1, [], []) :: (.iaload, 1, [], []) :: (.invokestatic 50, 3, [128, 1, 0, 1185, 0, 0, 99], []) :: (.istore 6, 2, [], []) :: (.aload_n 0, 1, [], []) :: (.getfield 20, 3, [8, 9, 2, 1062], []) :: (.iload 6, 2, [], []) :: (.iload_n 2, 1, [], []) :: (.iastore, 1, [], []) :: (.aload_n 0, 1, [], []) :: (.getfield 20, 3, [8, 9, 2, 1062], []) :: (.iload 6, 2, [], []) :: (.iconst 1, 1, [], []) :: (.iadd, 1, [], []) :: (.iload_n 3, 1, [], []) :: (.iastore, 1, [], []) :: (.aload_n 0, 1, [], []) :: (.getfield 20, 3, [8, 9, 2, 1062], []) :: (.iload 6, 2, [], []) :: (.iconst 2, 1, [], []) :: (.iadd, 1, [], []) :: (.iload 4, 2, [], []) :: (.iastore, 1, [], []) :: (.aload_n 0, 1, [], []) :: (.getfield 20, 3, [8, 9, 2, 1062], []) :: (.iload 6, 2, [], []) :: (.iconst 3, 1, [], []) :: (.iadd, 1, [], []) :: (.iload 5, 2, [], []) :: (.iastore, 1, [], []) :: (.aload_n 0, 1, [], []) :: (.getfield 20, 3, [8, 9, 2, 1062], []) :: (.iload 6, 2, [], []) :: (.bipush 8, 2, [], []) :: (.iadd, 1, [], []) :: (.iconst (-1), 1, [], []) :: (.iastore, 1, [], []) :: (.aload_n 0, 1, [], []) :: (.getfield 20, 3, [8, 9, 2, 1062], []) :: (.iconst 0, 1, [], []) :: (.dup2, 1, [], []) :: (.iaload, 1, [], []) :: (.iconst 1, 1, [], []) :: (.iadd, 1, [], []) :: (.iastore, 1, [], []) :: (.return_, 1, [], []) :: []
def hgr147_18 : List hgRow := (.aload_n 0, 1, [], []) :: (.invokevirtual 128, 3, [145, 1, 0, 1178, 0, 0, 8], []) :: (.istore_n 2, 1, [], []) :: (.aload_n 0, 1, [], []) :: (.iconst 1, 1, [], []) :: (.bipush 9, 2, [], []) :: (.invokevirtual 131, 3, [143, 3, 0, 1154, 0, 0, 8], []) :: (.istore_n 3, 1, [], []) :: (.aload_n 0, 1, [], []) :: (.iconst 0, 1, [], []) :: (.bipush 9, 2, [], []) :: (.invokevirtual 131, 3, [143, 3, 0, 1154, 0, 0, 8], []) :: (.istore 4, 2, [], []) :: (.aload_n 0, 1, [], []) :: (.iconst 0, 1, [], []) :: (.bipush 99, 2, [], []) :: (.invokevirtual 131, 3, [143, 3, 0, 1154, 0, 0, 8], []) :: (.istore 5, 2, [], []) :: (.aload_n 0, 1, [], []) :: (.invokevirtual 76, 3, [136, 1, 0, 1133, 0, 0, 8], []) :: (.ifCond .ne 4, 3, [57], []) :: (.return_, 1, [], []) :: []
def hgr147_0 : List hgRow := (.aload_n 0, 1, [], []) :: (.getfield 20, 3, [8, 9, 2, 1062], []) :: (.iconst 0, 1, [], []) :: (.iaload, 1, [], []) :: (.bipush 10, 2, [], []) :: (.if_icmp .ne 10, 3, [18], []) :: (.aload_n 0, 1, [], []) :: (.bipush (-4), 2, [], []) :: (.iload_n 1, 1, [], []) :: (.invokevirtual 97, 3, [137, 3, 1, 1150, 0, 0, 8], []) :: hgr147_18
def hgb147 : List (Nat × List Bool × List hgRow) := [(0, [true, true, false, false, false, false, false], hgr147_0), (18, [true, false, false, false, false, false, false], hgr147_18), (57, [true, false, true, true, true, true, false], hgr147_57)]
/- HomeGatewayModel.setRule([IIIIIII)V -/
def hgr148_0 : List hgRow := (.iload_n 1, 1, [], []) :: (.invokestatic 134, 3, [129, 1, 0, 1202, 0, 0, 99], []) :: (.istore 7, 2, [], []) :: (.aload_n 0, 1, [], []) :: (.iload 7, 2, [], []) :: (.iload_n 2, 1, [], []) :: (.iastore, 1, [], []) :: (.aload_n 0, 1, [], []) :: (.iload 7, 2, [], []) :: (.iconst 1, 1, [], []) :: (.iadd, 1, [], []) :: (.iload_n 3, 1, [], []) :: (.iastore, 1, [], []) :: (.aload_n 0, 1, [], []) :: (.iload 7, 2, [], []) :: (.iconst 2, 1, [], []) :: (.iadd, 1, [], []) :: (.iload 4, 2, [], []) :: (.iastore, 1, [], []) :: (.aload_n 0, 1, [], []) :: (.iload 7, 2, [], []) :: (.iconst 3, 1, [], []) :: (.iadd, 1, [], []) :: (.iload 5, 2, [], []) :: (.iastore, 1, [], []) :: (.aload_n 0, 1, [], []) :: (.iload 7, 2, [], []) :: (.iconst 4, 1, [], []) :: (.iadd, 1, [], []) :: (.iload 6, 2, [], []) :: (.iastore, 1, [], []) :: (.return_, 1, [], []) :: []
def hgb148 : List (Nat × List Bool × List hgRow) := [(0, [true, true, true, true, true, true, true, false], hgr148_0)]
/- HomeGatewayModel.readRule(II)V -/
def hgr149_58 : List hgRow := (.aload_n 0, 1, [], []) :: (.getfield 20, 3, [8, 9, 2, 1062], []) :: (.aload_n 0, 1, [], []) :: (.getfield 20, 3, [8, 9, 2, 1062], []) :: (.iconst 1, 1, [], []) :: (.iaload, 1, [], []) :: (.iload_n 2, 1, [], []) :: (.iload_n 3, 1, [], []) :: (.iload 4, 2, [], []) :: (.iload 5, 2, [], []) :: (.iload 6, 2, [], []) :: (.invokestatic 140, 3, [148, 7, 1, 1199, 0, 0, 99], []) :: (.aload_n 0, 1, [], []) :: (.getfield 20, 3, [8, 9, 2, 1062], []) :: (.iconst 1, 1, [], []) :: (.dup2, 1, [], []) :: (.iaload, 1, [], []) :: (.iconst 1, 1, [], []) :: (.iadd, 1, [], []) :: (.iastore, 1, [], []) :: (.return_, 1, [], []) :: []
def hgr149_18 : List hgRow := (.aload_n 0, 1, [], []) :: (.invokevirtual 137, 3, [146, 1, 0, 1193, 0, 0, 8], []) :: (.istore_n 3, 1, [], []) :: (.aload_n 0, 1, [], []) :: (.invokevirtual 137, 3, [146, 1, 0, 1193, 0, 0, 8], []) :: (.istore 4, 2, [], []) :: (.aload_n 0, 1, [], []) :: (.iconst 0, 1, [], []) :: (.sipush 999, 3, [], []) :: (.invokevirtual 131, 3, [143, 3, 0, 1154, 0, 0, 8], []) :: (.istore 5, 2, [], []) :: (.aload_n 0, 1, [], []) :: (.iload 5, 2, [], []) :: (.sipush 999, 3, [], []) :: (.invokevirtual 131, 3, [143, 3, 0, 1154, 0, 0, 8], []) :: (.istore 6, 2, [], []) :: (.aload_n 0, 1, [], []) :: (.invokevirtual 76, 3, [136, 1, 0, 1133, 0, 0, 8], []) :: (.ifCond .ne 4, 3, [58], []) :: (.return_, 1, [], []) :: []
def hgr149_0 : List hgRow := (.aload_n 0, 1, [], []) :: (.getfield 20, 3, [8, 9, 2, 1062], []) :: (.iconst 1, 1, [], []) :: (.iaload, 1, [], []) :: (.bipush 12, 2, [], []) :: (.if_icmp .ne 10, 3, [18], []) :: (.aload_n 0, 1, [], []) :: (.bipush (-4), 2, [], []) :: (.iload_n 1, 1, [], []) :: (.invokevirtual 97, 3, [137, 3, 1, 1150, 0, 0, 8], []) :: hgr149_18
def hgb149 : List (Nat × List Bool × List hgRow) := [(0, [true, true, true, false, false, false, false], hgr149_0), (18, [true, false, true, false, false, false, false], hgr149_18), (58, [true, false, true, true, true, true, true], hgr149_58)]
/- HomeGatewayModel.isWakePort([II)Z -/
def hgr150_27 : List hgRow := (.iconst 0, 1, [], []) :: (.ireturn, 1, [3], []) :: []
def hgr150_21 : List hgRow := (.iinc 2 1, 3, [], []) :: (.goto (-22), 3, [2], []) :: []
def hgr150_2 : List hgRow := (.iload_n 2, 1, [], []) :: (.aload_n 0, 1, [], []) :: (.iconst 2, 1, [], []) :: (.iaload, 1, [], []) :: (.if_icmp .ge 21, 3, [27], []) :: (.aload_n 0, 1, [], []) :: (.bipush 10, 2, [], []) :: (.iload_n 2, 1, [], []) :: (.iadd, 1, [], []) :: (.iaload, 1, [], []) :: (.iload_n 1, 1, [], []) :: (.if_icmp .ne 5, 3, [21], []) :: (.iconst 1, 1, [], []) :: (.ireturn, 1, [3], []) :: []
def hgr150_0 : List hgRow := (.iconst 0, 1, [], []) :: (.istore_n 2, 1, [], []) :: hgr150_2
def hgb150 : List (Nat × List Bool × List hgRow) := [(0, [true, true, false], hgr150_0), (2, [true, true, true], hgr150_2), (21, [true, true, true], hgr150_21), (27, [false, false, false], hgr150_27)]
/- HomeGatewayModel.readWake()V -/
def hgr151_66 : List hgRow := (.aload_n 0, 1, [], []) :: (.getfield 20, 3, [8, 9, 2, 1062], []) :: (.bipush 10, 2, [], []) :: (.aload_n 0, 1, [], []) :: (.getfield 20, 3, [8, 9, 2, 1062], []) :: (.iconst 2, 1, [], []) :: (.iaload, 1, [], []) :: (.iadd, 1, [], []) :: (.iload_n 1, 1, [], []) :: (.iastore, 1, [], []) :: (.aload_n 0, 1, [], []) :: (.getfield 20, 3, [8, 9, 2, 1062], []) :: (.iconst 2, 1, [], []) :: (.dup2, 1, [], []) :: (.iaload, 1, [], []) :: (.iconst 1, 1, [], []) :: (.iadd, 1, [], []) :: (.iastore, 1, [], []) :: (.aload_n 0, 1, [], []) :: (.invokevirtual 80, 3, [138, 1, 0, 1137, 0, 0, 8], []) :: (.invokestatic 101, 3, [140, 1, 0, 1158, 0, 0, 99], []) :: (.ifCond .ne (-98), 3, [0], []) :: (.return_, 1, [], []) :: []
def hgr151_58 : List hgRow := (.aload_n 0, 1, [], []) :: (.invokevirtual 76, 3, [136, 1, 0, 1133, 0, 0, 8], []) :: (.ifCond .ne 4, 3, [66], []) :: (.return_, 1, [], []) :: []
def hgr151_37 : List hgRow := (.aload_n 0, 1, [], []) :: (.getfield 20, 3, [8, 9, 2, 1062], []) :: (.iconst 2, 1, [], []) :: (.iaload, 1, [], []) :: (.bipush 8, 2, [], []) :: (.if_icmp .ne 13, 3, [58], []) :: (.aload_n 0, 1, [], []) :: (.bipush (-4), 2, [], []) :: (.aload_n 0, 1, [], []) :: (.getfield 104, 3, [8, 16, 0, 1069], []) :: (.invokevirtual 97, 3, [137, 3, 1, 1150, 0, 0, 8], []) :: hgr151_58
def hgr151_0 : List hgRow := (.aload_n 0, 1, [], []) :: (.iconst 0, 1, [], []) :: (.sipush 999, 3, [], []) :: (.invokevirtual 131, 3, [143, 3, 0, 1154, 0, 0, 8], []) :: (.istore_n 1, 1, [], []) :: (.aload_n 0, 1, [], []) :: (.invokevirtual 76, 3, [136, 1, 0, 1133, 0, 0, 8], []) :: (.ifCond .eq 24, 3, [37], []) :: (.aload_n 0, 1, [], []) :: (.getfield 20, 3, [8, 9, 2, 1062], []) :: (.iload_n 1, 1, [], []) :: (.invokestatic 144, 3, [150, 2, 0, 1215, 0, 0, 99], []) :: (.ifCond .eq 13, 3, [37], []) :: (.aload_n 0, 1, [], []) :: (.bipush (-3), 2, [], []) :: (.aload_n 0, 1, [], []) :: (.getfield 104, 3, [8, 16, 0, 1069], []) :: (.invokevirtual 97, 3, [137, 3, 1, 1150, 0, 0, 8], []) :: hgr151_37
def hgb151 : List (Nat × List Bool × List hgRow) := [(0, [true, false], hgr151_0), (37, [true, true], hgr151_37), (58, [true, true], hgr151_58), (66, [true, true], hgr151_66)]
/- HomeGatewayModel.readQuiet()V -/
def hgr152_23 : List hgRow := (.aload_n 0, 1, [], []) :: (.iconst 2, 1, [], []) :: (.iload_n 2, 1, [], []) :: (.iadd, 1, [], []) :: (.iload_n 1, 1, [], []) :: (.invokevirtual 148, 3, [144, 3, 1, 1207, 0, 0, 8], []) :: (.aload_n 0, 1, [], []) :: (.iconst 0, 1, [], []) :: (.aload_n 0, 1, [], []) :: (.getfield 20, 3, [8, 9, 2, 1062], []) :: (.iconst 5, 1, [], []) :: (.iaload, 1, [], []) :: (.iconst 1, 1, [], []) :: (.isub, 1, [], []) :: (.invokevirtual 131, 3, [143, 3, 0, 1154, 0, 0, 8], []) :: (.istore_n 3, 1, [], []) :: (.aload_n 0, 1, [], []) :: (.iconst 0, 1, [], []) :: (.aload_n 0, 1, [], []) :: (.getfield 20, 3, [8, 9, 2, 1062], []) :: (.iconst 5, 1, [], []) :: (.iaload, 1, [], []) :: (.iconst 1, 1, [], []) :: (.isub, 1, [], []) :: (.invokevirtual 131, 3, [143, 3, 0, 1154, 0, 0, 8], []) :: (.istore 4, 2, [], []) :: (.aload_n 0, 1, [], []) :: (.getfield 20, 3, [8, 9, 2, 1062], []) :: (.iload_n 2, 1, [], []) :: (.invokestatic 151, 3, [131, 1, 0, 1223, 0, 0, 99], []) :: (.iconst 1, 1, [], []) :: (.iastore, 1, [], []) :: (.aload_n 0, 1, [], []) :: (.getfield 20, 3, [8, 9, 2, 1062], []) :: (.iload_n 2, 1, [], []) :: (.invokestatic 151, 3, [131, 1, 0, 1223, 0, 0, 99], []) :: (.iconst 1, 1, [], []) :: (.iadd, 1, [], []) :: (.iload_n 3, 1, [], []) :: (.iastore, 1, [], []) :: (.aload_n 0, 1, [], []) :: (.getfield 20, 3, [8, 9, 2, 1062], []) :: (.iload_n 2, 1, [], []) :: (.invokestatic 151, 3, [131, 1, 0, 1223, 0, 0, 99], []) :: (.iconst 2, 1, [], []) :: (.iadd, 1, [], []) :: (.iload 4, 2, [], []) :: (.iastore, 1, [], []) :: (.return_, 1, [], []) :: []
def hgr152_0 : List hgRow := (.aload_n 0, 1, [], []) :: (.invokevirtual 80, 3, [138, 1, 0, 1137, 0, 0, 8], []) :: (.pop, 1, [], []) :: (.aload_n 0, 1, [], []) :: (.getfield 66, 3, [8, 4, 0, 1057], []) :: (.istore_n 1, 1, [], []) :: (.aload_n 0, 1, [], []) :: (.invokevirtual 128, 3, [145, 1, 0, 1178, 0, 0, 8], []) :: (.istore_n 2, 1, [], []) :: (.aload_n 0, 1, [], []) :: (.invokevirtual 76, 3, [136, 1, 0, 1133, 0, 0, 8], []) :: (.ifCond .ne 4, 3, [23], []) :: (.return_, 1, [], []) :: []
def hgb152 : List (Nat × List Bool × List hgRow) := [(0, [true, false, false, false, false], hgr152_0), (23, [true, true, true, false, false], hgr152_23)]
/- HomeGatewayModel.statement()V -/
def hgr153_141 : List hgRow := (.aload_n 0, 1, [], []) :: (.bipush 59, 2, [], []) :: (.invokevirtual 177, 3, [142, 2, 1, 1165, 0, 0, 8], []) :: (.return_, 1, [], []) :: []
def hgr153_134 : List hgRow := (.aload_n 0, 1, [], []) :: (.bipush (-2), 2, [], []) :: (.iload_n 1, 1, [], []) :: (.invokevirtual 97, 3, [137, 3, 1, 1150, 0, 0, 8], []) :: hgr153_141
def hgr153_101 : List hgRow := (.aload_n 0, 1, [], []) :: (.ldc 175, 2, [2, 1226, 1011], []) :: (.invokevirtual 116, 3, [141, 2, 0, 1129, 0, 0, 8], []) :: (.ifCond .eq 27, 3, [134], []) :: (.aload_n 0, 1, [], []) :: (.iconst 1, 1, [], []) :: (.iload_n 1, 1, [], []) :: (.invokevirtual 148, 3, [144, 3, 1, 1207, 0, 0, 8], []) :: (.aload_n 0, 1, [], []) :: (.getfield 20, 3, [8, 9, 2, 1062], []) :: (.bipush 6, 2, [], []) :: (.aload_n 0, 1, [], []) :: (.iconst 1, 1, [], []) :: (.sipush 999, 3, [], []) :: (.invokevirtual 131, 3, [143, 3, 0, 1154, 0, 0, 8], []) :: (.iastore, 1, [], []) :: (.goto 10, 3, [141], []) :: []
def hgr153_85 : List hgRow := (.aload_n 0, 1, [], []) :: (.ldc 171, 2, [2, 1218, 1010], []) :: (.invokevirtual 116, 3, [141, 2, 0, 1129, 0, 0, 8], []) :: (.ifCond .eq 10, 3, [101], []) :: (.aload_n 0, 1, [], []) :: (.invokevirtual 172, 3, [152, 1, 1, 1219, 0, 0, 8], []) :: (.goto 43, 3, [141], []) :: []
def hgr153_63 : List hgRow := (.aload_n 0, 1, [], []) :: (.ldc 166, 2, [2, 1206, 1009], []) :: (.invokevirtual 116, 3, [141, 2, 0, 1129, 0, 0, 8], []) :: (.ifCond .eq 16, 3, [85], []) :: (.aload_n 0, 1, [], []) :: (.iconst 0, 1, [], []) :: (.iload_n 1, 1, [], []) :: (.invokevirtual 148, 3, [144, 3, 1, 1207, 0, 0, 8], []) :: (.aload_n 0, 1, [], []) :: (.invokevirtual 168, 3, [151, 1, 1, 1211, 0, 0, 8], []) :: (.goto 59, 3, [141], []) :: []
def hgr153_45 : List hgRow := (.aload_n 0, 1, [], []) :: (.ldc 164, 2, [2, 1205, 1008], []) :: (.invokevirtual 116, 3, [141, 2, 0, 1129, 0, 0, 8], []) :: (.ifCond .eq 12, 3, [63], []) :: (.aload_n 0, 1, [], []) :: (.iload_n 1, 1, [], []) :: (.iconst 0, 1, [], []) :: (.invokevirtual 161, 3, [149, 3, 1, 1189, 0, 0, 8], []) :: (.goto 81, 3, [141], []) :: []
def hgr153_27 : List hgRow := (.aload_n 0, 1, [], []) :: (.ldc 159, 2, [2, 1188, 1007], []) :: (.invokevirtual 116, 3, [141, 2, 0, 1129, 0, 0, 8], []) :: (.ifCond .eq 12, 3, [45], []) :: (.aload_n 0, 1, [], []) :: (.iload_n 1, 1, [], []) :: (.iconst 1, 1, [], []) :: (.invokevirtual 161, 3, [149, 3, 1, 1189, 0, 0, 8], []) :: (.goto 99, 3, [141], []) :: []
def hgr153_0 : List hgRow := (.aload_n 0, 1, [], []) :: (.invokevirtual 80, 3, [138, 1, 0, 1137, 0, 0, 8], []) :: (.pop, 1, [], []) :: (.aload_n 0, 1, [], []) :: (.getfield 66, 3, [8, 4, 0, 1057], []) :: (.istore_n 1, 1, [], []) :: (.aload_n 0, 1, [], []) :: (.ldc 154, 2, [2, 1173, 1006], []) :: (.invokevirtual 116, 3, [141, 2, 0, 1129, 0, 0, 8], []) :: (.ifCond .eq 11, 3, [27], []) :: (.aload_n 0, 1, [], []) :: (.iload_n 1, 1, [], []) :: (.invokevirtual 155, 3, [147, 2, 1, 1174, 0, 0, 8], []) :: (.goto 117, 3, [141], []) :: []
def hgb153 : List (Nat × List Bool × List hgRow) := [(0, [true, false], hgr153_0), (27, [true, true], hgr153_27), (45, [true, true], hgr153_45), (63, [true, true], hgr153_63), (85, [true, true], hgr153_85), (101, [true, true], hgr153_101), (134, [true, true], hgr153_134), (141, [true, false], hgr153_141)]
/- HomeGatewayModel.load(I)I -/
def hgr154_224 : List hgRow := (.aload_n 0, 1, [], []) :: (.getfield 17, 3, [8, 8, 2, 1061], []) :: (.iconst 0, 1, [], []) :: (.iaload, 1, [], []) :: (.ireturn, 1, [1], []) :: []
def hgr154_205 : List hgRow := (.iload_n 2, 1, [], []) :: (.bipush 10, 2, [], []) :: (.if_icmp .ge 16, 3, [224], []) :: (.aload_n 0, 1, [], []) :: (.getfield 31, 3, [8, 12, 2, 1065], []) :: (.iload_n 2, 1, [], []) :: (.lconst 0, 1, [], []) :: (.lastore, 1, [], []) :: (.iinc 2 1, 3, [], []) :: (.goto (-16), 3, [205], []) :: []
def hgr154_188 : List hgRow := (.aload_n 0, 1, [], []) :: (.invokevirtual 189, 3, [190, 1, 1, 1227, 0, 0, 8], []) :: (.aload_n 0, 1, [], []) :: (.getfield 20, 3, [8, 9, 2, 1062], []) :: (.aload_n 0, 1, [], []) :: (.getfield 17, 3, [8, 8, 2, 1061], []) :: (.invokestatic 192, 3, [132, 2, 1, 1231, 0, 0, 99], []) :: (.iconst 0, 1, [], []) :: (.istore_n 2, 1, [], []) :: hgr154_205
def hgr154_168 : List hgRow := (.aload_n 0, 1, [], []) :: (.aload_n 0, 1, [], []) :: (.getfield 63, 3, [8, 6, 0, 1059], []) :: (.putfield 13, 3, [8, 7, 0, 1060, 0], []) :: (.aload_n 0, 1, [], []) :: (.invokevirtual 76, 3, [136, 1, 0, 1133, 0, 0, 8], []) :: (.ifCond .ne 8, 3, [188], []) :: (.aload_n 0, 1, [], []) :: (.getfield 60, 3, [8, 5, 0, 1058], []) :: (.ireturn, 1, [1], []) :: []
def hgr154_146 : List hgRow := (.aload_n 0, 1, [], []) :: (.invokevirtual 76, 3, [136, 1, 0, 1133, 0, 0, 8], []) :: (.ifCond .eq 18, 3, [168], []) :: (.aload_n 0, 1, [], []) :: (.invokevirtual 80, 3, [138, 1, 0, 1137, 0, 0, 8], []) :: (.iconst (-1), 1, [], []) :: (.if_icmp .eq 10, 3, [168], []) :: (.aload_n 0, 1, [], []) :: (.invokevirtual 186, 3, [153, 1, 1, 1169, 0, 0, 8], []) :: (.goto (-19), 3, [146], []) :: []
def hgr154_113 : List hgRow := (.aload_n 0, 1, [], []) :: (.getfield 20, 3, [8, 9, 2, 1062], []) :: (.iconst 4, 1, [], []) :: (.aload_n 0, 1, [], []) :: (.iconst 1, 1, [], []) :: (.sipush 999, 3, [], []) :: (.invokevirtual 131, 3, [143, 3, 0, 1154, 0, 0, 8], []) :: (.iastore, 1, [], []) :: (.aload_n 0, 1, [], []) :: (.getfield 20, 3, [8, 9, 2, 1062], []) :: (.iconst 5, 1, [], []) :: (.aload_n 0, 1, [], []) :: (.iconst 1, 1, [], []) :: (.bipush 100, 2, [], []) :: (.invokevirtual 131, 3, [143, 3, 0, 1154, 0, 0, 8], []) :: (.iastore, 1, [], []) :: (.aload_n 0, 1, [], []) :: (.bipush 59, 2, [], []) :: (.invokevirtual 177, 3, [142, 2, 1, 1165, 0, 0, 8], []) :: hgr154_146
def hgr154_84 : List hgRow := (.aload_n 0, 1, [], []) :: (.getfield 20, 3, [8, 9, 2, 1062], []) :: (.bipush 6, 2, [], []) :: (.sipush 200, 3, [], []) :: (.iastore, 1, [], []) :: (.aload_n 0, 1, [], []) :: (.ldc 184, 2, [2, 1128, 1005], []) :: (.invokevirtual 116, 3, [141, 2, 0, 1129, 0, 0, 8], []) :: (.ifCond .ne 13, 3, [113], []) :: (.aload_n 0, 1, [], []) :: (.bipush (-2), 2, [], []) :: (.aload_n 0, 1, [], []) :: (.getfield 66, 3, [8, 4, 0, 1057], []) :: (.invokevirtual 97, 3, [137, 3, 1, 1150, 0, 0, 8], []) :: hgr154_113
def hgr154_64 : List hgRow := (.iload_n 2, 1, [], []) :: (.sipush 187, 3, [], []) :: (.if_icmp .ge 16, 3, [84], []) :: (.aload_n 0, 1, [], []) :: (.getfield 20, 3, [8, 9, 2, 1062], []) :: (.iload_n 2, 1, [], []) :: (.iconst 0, 1, [], []) :: (.iastore, 1, [], []) :: (.iinc 2 1, 3, [], []) :: (.goto (-17), 3, [64], []) :: []
def hgr154_32 : List hgRow := (.aload_n 0, 1, [], []) :: (.iconst 0, 1, [], []) :: (.putfield 54, 3, [8, 2, 0, 1055, 0], []) :: (.aload_n 0, 1, [], []) :: (.iload_n 1, 1, [], []) :: (.putfield 57, 3, [8, 3, 0, 1056, 0], []) :: (.aload_n 0, 1, [], []) :: (.iconst 0, 1, [], []) :: (.putfield 66, 3, [8, 4, 0, 1057, 0], []) :: (.aload_n 0, 1, [], []) :: (.iconst 0, 1, [], []) :: (.putfield 60, 3, [8, 5, 0, 1058, 0], []) :: (.aload_n 0, 1, [], []) :: (.iconst (-1), 1, [], []) :: (.putfield 63, 3, [8, 6, 0, 1059, 0], []) :: (.aload_n 0, 1, [], []) :: (.iconst 0, 1, [], []) :: (.putfield 111, 3, [8, 17, 0, 1070, 0], []) :: (.iconst 0, 1, [], []) :: (.istore_n 2, 1, [], []) :: hgr154_64
def hgr154_23 : List hgRow := (.iconst 1, 1, [], []) :: (.invokevirtual 180, 3, [124, 3, 0, 1124, 0, 0, 8], []) :: (.ifCond .eq 5, 3, [32], []) :: (.iconst 0, 1, [], []) :: (.ireturn, 1, [1], []) :: []
def hgr154_22 : List hgRow := (.iconst 0, 1, [], []) :: hgr154_23
def hgr154_0 : List hgRow := (.aload_n 0, 1, [], []) :: (.iconst 0, 1, [], []) :: (.putfield 43, 3, [8, 0, 0, 1053, 0], []) :: (.aload_n 0, 1, [], []) :: (.iload_n 1, 1, [], []) :: (.iconst 0, 1, [], []) :: (.aload_n 0, 1, [], []) :: (.getfield 54, 3, [8, 2, 0, 1055], []) :: (.invokestatic 72, 3, [125, 3, 0, 1121, 0, 0, 99], []) :: (.ifCond .ne 7, 3, [22], []) :: (.iconst 1, 1, [], []) :: (.goto 4, 3, [23], []) :: []
def hgb154 : List (Nat × List Bool × List hgRow) := [(0, [true, true, false], hgr154_0), (22, [true, true, false], hgr154_22), (23, [true, true, false], hgr154_23), (32, [true, true, false], hgr154_32), (64, [true, false, true], hgr154_64), (84, [true, false, false], hgr154_84), (113, [true, false, false], hgr154_113), (146, [true, false, false], hgr154_146), (168, [true, false, false], hgr154_168), (188, [true, false, false], hgr154_188), (205, [true, false, true], hgr154_205), (224, [true, false, false], hgr154_224)]
/- HomeGatewayModel.errorOffset()I -/
def hgr155_0 : List hgRow := (.aload_n 0, 1, [], []) :: (.iconst 0, 1, [], []) :: (.putfield 43, 3, [8, 0, 0, 1053, 0], []) :: (.aload_n 0, 1, [], []) :: (.getfield 13, 3, [8, 7, 0, 1060], []) :: (.ireturn, 1, [1], []) :: []
def hgb155 : List (Nat × List Bool × List hgRow) := [(0, [true], hgr155_0)]
/- HomeGatewayModel.matches(IIII)Z -/
def hgr156_89 : List hgRow := (.ireturn, 1, [3], []) :: []
def hgr156_88 : List hgRow := (.iconst 0, 1, [], []) :: hgr156_89
def hgr156_58 : List hgRow := (.iload 4, 2, [], []) :: (.aload_n 0, 1, [], []) :: (.getfield 17, 3, [8, 8, 2, 1061], []) :: (.iload 5, 2, [], []) :: (.iconst 3, 1, [], []) :: (.iadd, 1, [], []) :: (.iaload, 1, [], []) :: (.aload_n 0, 1, [], []) :: (.getfield 17, 3, [8, 8, 2, 1061], []) :: (.iload 5, 2, [], []) :: (.iconst 4, 1, [], []) :: (.iadd, 1, [], []) :: (.iaload, 1, [], []) :: (.invokestatic 72, 3, [125, 3, 0, 1121, 0, 0, 99], []) :: (.ifCond .eq 7, 3, [88], []) :: (.iconst 1, 1, [], []) :: (.goto 4, 3, [89], []) :: []
def hgr156_32 : List hgRow := (.aload_n 0, 1, [], []) :: (.getfield 17, 3, [8, 8, 2, 1061], []) :: (.iload 5, 2, [], []) :: (.iconst 2, 1, [], []) :: (.iadd, 1, [], []) :: (.iaload, 1, [], []) :: (.iconst 4, 1, [], []) :: (.if_icmp .eq 16, 3, [58], []) :: (.aload_n 0, 1, [], []) :: (.getfield 17, 3, [8, 8, 2, 1061], []) :: (.iload 5, 2, [], []) :: (.iconst 2, 1, [], []) :: (.iadd, 1, [], []) :: (.iaload, 1, [], []) :: (.iload_n 3, 1, [], []) :: (.if_icmp .ne 33, 3, [88], []) :: hgr156_58
def hgr156_0 : List hgRow := (.iload_n 1, 1, [], []) :: (.invokestatic 134, 3, [129, 1, 0, 1202, 0, 0, 99], []) :: (.istore 5, 2, [], []) :: (.aload_n 0, 1, [], []) :: (.getfield 17, 3, [8, 8, 2, 1061], []) :: (.iload 5, 2, [], []) :: (.iconst 1, 1, [], []) :: (.iadd, 1, [], []) :: (.iaload, 1, [], []) :: (.iconst 4, 1, [], []) :: (.if_icmp .eq 16, 3, [32], []) :: (.aload_n 0, 1, [], []) :: (.getfield 17, 3, [8, 8, 2, 1061], []) :: (.iload 5, 2, [], []) :: (.iconst 1, 1, [], []) :: (.iadd, 1, [], []) :: (.iaload, 1, [], []) :: (.iload_n 2, 1, [], []) :: (.if_icmp .ne 59, 3, [88], []) :: hgr156_32
def hgb156 : List (Nat × List Bool × List hgRow) := [(0, [true, true, true, true, true, false], hgr156_0), (32, [true, false, false, true, true, true], hgr156_32), (58, [true, false, false, false, true, true], hgr156_58), (88, [false, false, false, false, false, false], hgr156_88), (89, [false, false, false, false, false, false], hgr156_89)]
/- HomeGatewayModel.firstRule(IIII)I -/
def hgr157_31 : List hgRow := (.iconst (-1), 1, [], []) :: (.ireturn, 1, [1], []) :: []
def hgr157_25 : List hgRow := (.iinc 5 1, 3, [], []) :: (.goto (-25), 3, [3], []) :: []
def hgr157_3 : List hgRow := (.iload 5, 2, [], []) :: (.iload_n 1, 1, [], []) :: (.if_icmp .ge 25, 3, [31], []) :: (.aload_n 0, 1, [], []) :: (.iload 5, 2, [], []) :: (.iload_n 2, 1, [], []) :: (.iload_n 3, 1, [], []) :: (.iload 4, 2, [], []) :: (.invokevirtual 196, 3, [156, 5, 0, 1334, 0, 0, 8], []) :: (.ifCond .eq 6, 3, [25], []) :: (.iload 5, 2, [], []) :: (.ireturn, 1, [1], []) :: []
def hgr157_0 : List hgRow := (.iconst 0, 1, [], []) :: (.istore 5, 2, [], []) :: hgr157_3
def hgb157 : List (Nat × List Bool × List hgRow) := [(0, [true, true, true, true, true, false], hgr157_0), (3, [true, true, true, true, true, true], hgr157_3), (25, [true, true, true, true, true, true], hgr157_25), (31, [false, false, false, false, false, false], hgr157_31)]
/- HomeGatewayModel.groupOf(I)I -/
def hgr158_18 : List hgRow := (.ireturn, 1, [1], []) :: []
def hgr158_9 : List hgRow := (.aload_n 0, 1, [], []) :: (.getfield 17, 3, [8, 8, 2, 1061], []) :: (.iload_n 1, 1, [], []) :: (.invokestatic 50, 3, [128, 1, 0, 1185, 0, 0, 99], []) :: (.iaload, 1, [], []) :: hgr158_18
def hgr158_0 : List hgRow := (.iload_n 1, 1, [], []) :: (.iconst (-1), 1, [], []) :: (.if_icmp .ne 7, 3, [9], []) :: (.iconst 3, 1, [], []) :: (.goto 12, 3, [18], []) :: []
def hgb158 : List (Nat × List Bool × List hgRow) := [(0, [true, true], hgr158_0), (9, [true, true], hgr158_9), (18, [false, false], hgr158_18)]
/- HomeGatewayModel.verdictOf(III)I -/
def hgr159_92 : List hgRow := (.ireturn, 1, [1], []) :: []
def hgr159_91 : List hgRow := (.iconst 1, 1, [], []) :: hgr159_92
def hgr159_73 : List hgRow := (.aload_n 0, 1, [], []) :: (.getfield 17, 3, [8, 8, 2, 1061], []) :: (.iload 6, 2, [], []) :: (.invokestatic 134, 3, [129, 1, 0, 1202, 0, 0, 99], []) :: (.iaload, 1, [], []) :: (.iconst 1, 1, [], []) :: (.if_icmp .ne 7, 3, [91], []) :: (.iconst 0, 1, [], []) :: (.goto 4, 3, [92], []) :: []
def hgr159_72 : List hgRow := (.ireturn, 1, [1], []) :: []
def hgr159_71 : List hgRow := (.iconst 0, 1, [], []) :: hgr159_72
def hgr159_38 : List hgRow := (.aload_n 0, 1, [], []) :: (.aload_n 0, 1, [], []) :: (.getfield 17, 3, [8, 8, 2, 1061], []) :: (.iconst 1, 1, [], []) :: (.iaload, 1, [], []) :: (.iload 4, 2, [], []) :: (.iload 5, 2, [], []) :: (.iload_n 3, 1, [], []) :: (.invokevirtual 203, 3, [157, 5, 0, 1330, 0, 0, 8], []) :: (.istore 6, 2, [], []) :: (.iload 6, 2, [], []) :: (.iconst (-1), 1, [], []) :: (.if_icmp .ne 15, 3, [73], []) :: (.iload 4, 2, [], []) :: (.iconst 3, 1, [], []) :: (.if_icmp .ne 7, 3, [71], []) :: (.iconst 1, 1, [], []) :: (.goto 4, 3, [72], []) :: []
def hgr159_36 : List hgRow := (.iconst 2, 1, [], []) :: (.ireturn, 1, [1], []) :: []
def hgr159_0 : List hgRow := (.aload_n 0, 1, [], []) :: (.iload_n 1, 1, [], []) :: (.invokevirtual 200, 3, [158, 2, 0, 1326, 0, 0, 8], []) :: (.istore 4, 2, [], []) :: (.aload_n 0, 1, [], []) :: (.iload_n 2, 1, [], []) :: (.invokevirtual 200, 3, [158, 2, 0, 1326, 0, 0, 8], []) :: (.istore 5, 2, [], []) :: (.iload 4, 2, [], []) :: (.iconst 1, 1, [], []) :: (.if_icmp .ne 21, 3, [38], []) :: (.iload 5, 2, [], []) :: (.ifCond .eq 14, 3, [36], []) :: (.iload 5, 2, [], []) :: (.iconst 1, 1, [], []) :: (.if_icmp .ne 10, 3, [38], []) :: (.iload_n 1, 1, [], []) :: (.iload_n 2, 1, [], []) :: (.if_icmp .eq 5, 3, [38], []) :: hgr159_36
def hgb159 : List (Nat × List Bool × List hgRow) := [(0, [true, true, true, true, false, false, false], hgr159_0), (36, [false, false, false, false, false, false, false], hgr159_36), (38, [true, false, false, true, true, true, false], hgr159_38), (71, [false, false, false, false, false, false, false], hgr159_71), (72, [false, false, false, false, false, false, false], hgr159_72), (73, [true, false, false, false, false, false, true], hgr159_73), (91, [false, false, false, false, false, false, false], hgr159_91), (92, [false, false, false, false, false, false, false], hgr159_92)]
/- HomeGatewayModel.isPort(I)Z -/
def hgr160_0 : List hgRow := (.iload_n 0, 1, [], []) :: (.iconst 0, 1, [], []) :: (.sipush 999, 3, [], []) :: (.invokestatic 72, 3, [125, 3, 0, 1121, 0, 0, 99], []) :: (.ireturn, 1, [3], []) :: []
def hgb160 : List (Nat × List Bool × List hgRow) := [(0, [true], hgr160_0)]
/- HomeGatewayModel.isQuietFor([II)Z -/
def hgr161_79 : List hgRow := (.ireturn, 1, [3], []) :: []
def hgr161_78 : List hgRow := (.iconst 0, 1, [], []) :: hgr161_79
def hgr161_62 : List hgRow := (.iload 4, 2, [], []) :: (.iload_n 3, 1, [], []) :: (.if_icmp .gt 13, 3, [78], []) :: (.iload_n 3, 1, [], []) :: (.iload 5, 2, [], []) :: (.if_icmp .ge 7, 3, [78], []) :: (.iconst 1, 1, [], []) :: (.goto 4, 3, [79], []) :: []
def hgr161_58 : List hgRow := (.iconst 0, 1, [], []) :: (.goto 20, 3, [79], []) :: []
def hgr161_54 : List hgRow := (.iconst 1, 1, [], []) :: (.goto 24, 3, [79], []) :: []
def hgr161_13 : List hgRow := (.aload_n 0, 1, [], []) :: (.iconst 3, 1, [], []) :: (.iaload, 1, [], []) :: (.aload_n 0, 1, [], []) :: (.iconst 5, 1, [], []) :: (.iaload, 1, [], []) :: (.irem, 1, [], []) :: (.istore_n 3, 1, [], []) :: (.aload_n 0, 1, [], []) :: (.iload_n 2, 1, [], []) :: (.iconst 1, 1, [], []) :: (.iadd, 1, [], []) :: (.iaload, 1, [], []) :: (.istore 4, 2, [], []) :: (.aload_n 0, 1, [], []) :: (.iload_n 2, 1, [], []) :: (.iconst 2, 1, [], []) :: (.iadd, 1, [], []) :: (.iaload, 1, [], []) :: (.istore 5, 2, [], []) :: (.iload 5, 2, [], []) :: (.iload 4, 2, [], []) :: (.if_icmp .ge 23, 3, [62], []) :: (.iload_n 3, 1, [], []) :: (.iload 4, 2, [], []) :: (.if_icmp .ge 9, 3, [54], []) :: (.iload_n 3, 1, [], []) :: (.iload 5, 2, [], []) :: (.if_icmp .ge 7, 3, [58], []) :: hgr161_54
def hgr161_0 : List hgRow := (.iload_n 1, 1, [], []) :: (.invokestatic 151, 3, [131, 1, 0, 1223, 0, 0, 99], []) :: (.istore_n 2, 1, [], []) :: (.aload_n 0, 1, [], []) :: (.iload_n 2, 1, [], []) :: (.iaload, 1, [], []) :: (.ifCond .ne 5, 3, [13], []) :: (.iconst 0, 1, [], []) :: (.ireturn, 1, [3], []) :: []
def hgb161 : List (Nat × List Bool × List hgRow) := [(0, [true, true, false, false, false, false], hgr161_0), (13, [true, false, true, false, false, false], hgr161_13), (54, [false, false, false, false, false, false], hgr161_54), (58, [false, false, false, false, false, false], hgr161_58), (62, [false, false, false, true, true, true], hgr161_62), (78, [false, false, false, false, false, false], hgr161_78), (79, [false, false, false, false, false, false], hgr161_79)]
/- HomeGatewayModel.canBeServed([II)Z -/
def hgr162_41 : List hgRow := (.ireturn, 1, [3], []) :: []
def hgr162_40 : List hgRow := (.iconst 0, 1, [], []) :: hgr162_41
def hgr162_0 : List hgRow := (.aload_n 0, 1, [], []) :: (.iload_n 1, 1, [], []) :: (.invokestatic 50, 3, [128, 1, 0, 1185, 0, 0, 99], []) :: (.iconst 4, 1, [], []) :: (.iadd, 1, [], []) :: (.iaload, 1, [], []) :: (.ifCond .ne 32, 3, [40], []) :: (.aload_n 0, 1, [], []) :: (.iload_n 1, 1, [], []) :: (.invokestatic 50, 3, [128, 1, 0, 1185, 0, 0, 99], []) :: (.bipush 9, 2, [], []) :: (.iadd, 1, [], []) :: (.iaload, 1, [], []) :: (.ifCond .le 20, 3, [40], []) :: (.aload_n 0, 1, [], []) :: (.aload_n 0, 1, [], []) :: (.iload_n 1, 1, [], []) :: (.invokestatic 50, 3, [128, 1, 0, 1185, 0, 0, 99], []) :: (.iaload, 1, [], []) :: (.invokestatic 207, 3, [161, 2, 0, 1308, 0, 0, 99], []) :: (.ifCond .ne 7, 3, [40], []) :: (.iconst 1, 1, [], []) :: (.goto 4, 3, [41], []) :: []
def hgb162 : List (Nat × List Bool × List hgRow) := [(0, [true, true], hgr162_0), (40, [false, false], hgr162_40), (41, [false, false], hgr162_41)]
/- HomeGatewayModel.deliver([I[JI)V -/
def hgr163_90 : List hgRow := (.aload_n 1, 1, [], []) :: (.iload_n 2, 1, [], []) :: (.dup2, 1, [], []) :: (.laload, 1, [], []) :: (.sipush 2520, 3, [], []) :: (.iload 4, 2, [], []) :: (.imul, 1, [], []) :: (.aload_n 0, 1, [], []) :: (.iload_n 3, 1, [], []) :: (.iconst 1, 1, [], []) :: (.iadd, 1, [], []) :: (.iaload, 1, [], []) :: (.idiv, 1, [], []) :: (.i2l, 1, [], []) :: (.ladd, 1, [], []) :: (.lastore, 1, [], []) :: (.aload_n 0, 1, [], []) :: (.iload_n 3, 1, [], []) :: (.bipush 7, 2, [], []) :: (.iadd, 1, [], []) :: (.dup2, 1, [], []) :: (.iaload, 1, [], []) :: (.iload 4, 2, [], []) :: (.iadd, 1, [], []) :: (.iastore, 1, [], []) :: (.return_, 1, [], []) :: []
def hgr163_59 : List hgRow := (.iload 5, 2, [], []) :: (.iload_n 2, 1, [], []) :: (.aload_n 0, 1, [], []) :: (.iload_n 3, 1, [], []) :: (.bipush 9, 2, [], []) :: (.iadd, 1, [], []) :: (.iaload, 1, [], []) :: (.invokestatic 46, 3, [130, 2, 0, 1234, 0, 0, 99], []) :: (.if_icmp .ge 19, 3, [90], []) :: (.aload_n 0, 1, [], []) :: (.iload 5, 2, [], []) :: (.aload_n 0, 1, [], []) :: (.iload 5, 2, [], []) :: (.iconst 2, 1, [], []) :: (.iadd, 1, [], []) :: (.iaload, 1, [], []) :: (.iastore, 1, [], []) :: (.iinc 5 1, 3, [], []) :: (.goto (-28), 3, [59], []) :: []
def hgr163_0 : List hgRow := (.iload_n 2, 1, [], []) :: (.invokestatic 50, 3, [128, 1, 0, 1185, 0, 0, 99], []) :: (.istore_n 3, 1, [], []) :: (.aload_n 0, 1, [], []) :: (.iload_n 2, 1, [], []) :: (.iconst 0, 1, [], []) :: (.invokestatic 46, 3, [130, 2, 0, 1234, 0, 0, 99], []) :: (.iaload, 1, [], []) :: (.istore 4, 2, [], []) :: (.aload_n 0, 1, [], []) :: (.iload_n 3, 1, [], []) :: (.bipush 8, 2, [], []) :: (.iadd, 1, [], []) :: (.aload_n 0, 1, [], []) :: (.iload_n 3, 1, [], []) :: (.bipush 8, 2, [], []) :: (.iadd, 1, [], []) :: (.iaload, 1, [], []) :: (.aload_n 0, 1, [], []) :: (.iconst 3, 1, [], []) :: (.iaload, 1, [], []) :: (.aload_n 0, 1, [], []) :: (.iload_n 2, 1, [], []) :: (.iconst 0, 1, [], []) :: (.invokestatic 46, 3, [130, 2, 0, 1234, 0, 0, 99], []) :: (.iconst 1, 1, [], []) :: (.iadd, 1, [], []) :: (.iaload, 1, [], []) :: (.isub, 1, [], []) :: (.invokestatic 210, 3, [126, 2, 0, 1375, 0, 0, 99], []) :: (.iastore, 1, [], []) :: (.aload_n 0, 1, [], []) :: (.iload_n 3, 1, [], []) :: (.bipush 9, 2, [], []) :: (.iadd, 1, [], []) :: (.dup2, 1, [], []) :: (.iaload, 1, [], []) :: (.iconst 1, 1, [], []) :: (.isub, 1, [], []) :: (.iastore, 1, [], []) :: (.iload_n 2, 1, [], []) :: (.iconst 0, 1, [], []) :: (.invokestatic 46, 3, [130, 2, 0, 1234, 0, 0, 99], []) :: (.istore 5, 2, [], []) :: hgr163_59
def hgb163 : List (Nat × List Bool × List hgRow) := [(0, [true, true, true, false, false, false], hgr163_0), (59, [true, true, true, true, true, true], hgr163_59), (90, [true, true, true, true, true, false], hgr163_90)]
/- HomeGatewayModel.step([I[J)I -/
def hgr164_290 : List hgRow := (.aload_n 0, 1, [], []) :: (.iconst 3, 1, [], []) :: (.dup2, 1, [], []) :: (.iaload, 1, [], []) :: (.iconst 1, 1, [], []) :: (.iadd, 1, [], []) :: (.iastore, 1, [], []) :: (.iload_n 3, 1, [], []) :: (.ireturn, 1, [1], []) :: []
def hgr164_284 : List hgRow := (.iinc 5 1, 3, [], []) :: (.goto (-96), 3, [191], []) :: []
def hgr164_250 : List hgRow := (.aload_n 0, 1, [], []) :: (.iload 6, 2, [], []) :: (.bipush 6, 2, [], []) :: (.iadd, 1, [], []) :: (.dup2, 1, [], []) :: (.iaload, 1, [], []) :: (.iconst 1, 1, [], []) :: (.iadd, 1, [], []) :: (.iastore, 1, [], []) :: (.aload_n 0, 1, [], []) :: (.iload 6, 2, [], []) :: (.bipush 6, 2, [], []) :: (.iadd, 1, [], []) :: (.iaload, 1, [], []) :: (.aload_n 0, 1, [], []) :: (.iload 6, 2, [], []) :: (.iconst 3, 1, [], []) :: (.iadd, 1, [], []) :: (.iaload, 1, [], []) :: (.if_icmp .ne 10, 3, [284], []) :: (.aload_n 0, 1, [], []) :: (.iload 6, 2, [], []) :: (.iconst 4, 1, [], []) :: (.iadd, 1, [], []) :: (.iconst 2, 1, [], []) :: (.iastore, 1, [], []) :: hgr164_284
def hgr164_239 : List hgRow := (.aload_n 0, 1, [], []) :: (.iload 6, 2, [], []) :: (.bipush 6, 2, [], []) :: (.iadd, 1, [], []) :: (.iconst 0, 1, [], []) :: (.iastore, 1, [], []) :: (.goto 37, 3, [284], []) :: []
def hgr164_218 : List hgRow := (.iload 4, 2, [], []) :: (.iload 5, 2, [], []) :: (.ishr, 1, [], []) :: (.iconst 1, 1, [], []) :: (.iand, 1, [], []) :: (.iconst 1, 1, [], []) :: (.if_icmp .eq 13, 3, [239], []) :: (.aload_n 0, 1, [], []) :: (.iload 6, 2, [], []) :: (.bipush 9, 2, [], []) :: (.iadd, 1, [], []) :: (.iaload, 1, [], []) :: (.ifCond .le 14, 3, [250], []) :: hgr164_239
def hgr164_191 : List hgRow := (.iload 5, 2, [], []) :: (.aload_n 0, 1, [], []) :: (.iconst 0, 1, [], []) :: (.iaload, 1, [], []) :: (.if_icmp .ge 94, 3, [290], []) :: (.iload 5, 2, [], []) :: (.invokestatic 50, 3, [128, 1, 0, 1185, 0, 0, 99], []) :: (.istore 6, 2, [], []) :: (.aload_n 0, 1, [], []) :: (.iload 6, 2, [], []) :: (.iconst 4, 1, [], []) :: (.iadd, 1, [], []) :: (.iaload, 1, [], []) :: (.ifCond .eq 6, 3, [218], []) :: (.goto 69, 3, [284], []) :: []
def hgr164_188 : List hgRow := (.iconst 0, 1, [], []) :: (.istore 5, 2, [], []) :: hgr164_191
def hgr164_155 : List hgRow := (.iload_n 2, 1, [], []) :: (.aload_n 0, 1, [], []) :: (.iload 5, 2, [], []) :: (.iconst 0, 1, [], []) :: (.invokestatic 46, 3, [130, 2, 0, 1234, 0, 0, 99], []) :: (.iaload, 1, [], []) :: (.isub, 1, [], []) :: (.istore_n 2, 1, [], []) :: (.aload_n 0, 1, [], []) :: (.aload_n 1, 1, [], []) :: (.iload 5, 2, [], []) :: (.invokestatic 216, 3, [163, 3, 1, 1372, 0, 0, 99], []) :: (.iload 4, 2, [], []) :: (.iconst 1, 1, [], []) :: (.iload 5, 2, [], []) :: (.ishl, 1, [], []) :: (.ior, 1, [], []) :: (.istore 4, 2, [], []) :: (.iinc 3 1, 3, [], []) :: (.goto (-102), 3, [83], []) :: []
def hgr164_134 : List hgRow := (.iload 5, 2, [], []) :: (.iconst (-1), 1, [], []) :: (.if_icmp .eq 51, 3, [188], []) :: (.aload_n 0, 1, [], []) :: (.iload 5, 2, [], []) :: (.iconst 0, 1, [], []) :: (.invokestatic 46, 3, [130, 2, 0, 1234, 0, 0, 99], []) :: (.iaload, 1, [], []) :: (.iload_n 2, 1, [], []) :: (.if_icmp .le 6, 3, [155], []) :: (.goto 36, 3, [188], []) :: []
def hgr164_128 : List hgRow := (.iinc 6 1, 3, [], []) :: (.goto (-42), 3, [89], []) :: []
def hgr164_124 : List hgRow := (.iload 6, 2, [], []) :: (.istore 5, 2, [], []) :: hgr164_128
def hgr164_89 : List hgRow := (.iload 6, 2, [], []) :: (.aload_n 0, 1, [], []) :: (.iconst 0, 1, [], []) :: (.iaload, 1, [], []) :: (.if_icmp .ge 40, 3, [134], []) :: (.aload_n 0, 1, [], []) :: (.iload 6, 2, [], []) :: (.invokestatic 213, 3, [162, 2, 0, 1369, 0, 0, 99], []) :: (.ifCond .eq 25, 3, [128], []) :: (.iload 5, 2, [], []) :: (.iconst (-1), 1, [], []) :: (.if_icmp .eq 15, 3, [124], []) :: (.aload_n 1, 1, [], []) :: (.iload 6, 2, [], []) :: (.laload, 1, [], []) :: (.aload_n 1, 1, [], []) :: (.iload 5, 2, [], []) :: (.laload, 1, [], []) :: (.lcmp, 1, [], []) :: (.ifCond .ge 7, 3, [128], []) :: hgr164_124
def hgr164_83 : List hgRow := (.iconst (-1), 1, [], []) :: (.istore 5, 2, [], []) :: (.iconst 0, 1, [], []) :: (.istore 6, 2, [], []) :: hgr164_89
def hgr164_77 : List hgRow := (.iinc 5 1, 3, [], []) :: (.goto (-68), 3, [12], []) :: []
def hgr164_62 : List hgRow := (.aload_n 0, 1, [], []) :: (.iload 6, 2, [], []) :: (.iconst 4, 1, [], []) :: (.iadd, 1, [], []) :: (.iconst 0, 1, [], []) :: (.iastore, 1, [], []) :: (.aload_n 0, 1, [], []) :: (.iload 6, 2, [], []) :: (.bipush 6, 2, [], []) :: (.iadd, 1, [], []) :: (.iconst 0, 1, [], []) :: (.iastore, 1, [], []) :: hgr164_77
def hgr164_40 : List hgRow := (.aload_n 0, 1, [], []) :: (.iload 6, 2, [], []) :: (.iconst 5, 1, [], []) :: (.iadd, 1, [], []) :: (.iaload, 1, [], []) :: (.ifCond .le 16, 3, [62], []) :: (.aload_n 0, 1, [], []) :: (.iload 6, 2, [], []) :: (.iconst 5, 1, [], []) :: (.iadd, 1, [], []) :: (.dup2, 1, [], []) :: (.iaload, 1, [], []) :: (.iconst 1, 1, [], []) :: (.isub, 1, [], []) :: (.iastore, 1, [], []) :: (.goto 18, 3, [77], []) :: []
def hgr164_12 : List hgRow := (.iload 5, 2, [], []) :: (.aload_n 0, 1, [], []) :: (.iconst 0, 1, [], []) :: (.iaload, 1, [], []) :: (.if_icmp .ge 66, 3, [83], []) :: (.iload 5, 2, [], []) :: (.invokestatic 50, 3, [128, 1, 0, 1185, 0, 0, 99], []) :: (.istore 6, 2, [], []) :: (.aload_n 0, 1, [], []) :: (.iload 6, 2, [], []) :: (.iconst 4, 1, [], []) :: (.iadd, 1, [], []) :: (.iaload, 1, [], []) :: (.iconst 1, 1, [], []) :: (.if_icmp .eq 6, 3, [40], []) :: (.goto 40, 3, [77], []) :: []
def hgr164_0 : List hgRow := (.aload_n 0, 1, [], []) :: (.iconst 4, 1, [], []) :: (.iaload, 1, [], []) :: (.istore_n 2, 1, [], []) :: (.iconst 0, 1, [], []) :: (.istore_n 3, 1, [], []) :: (.iconst 0, 1, [], []) :: (.istore 4, 2, [], []) :: (.iconst 0, 1, [], []) :: (.istore 5, 2, [], []) :: hgr164_12
def hgb164 : List (Nat × List Bool × List hgRow) := [(0, [true, true, false, false, false, false, false], hgr164_0), (12, [true, true, true, true, true, true, false], hgr164_12), (40, [true, true, true, true, true, true, true], hgr164_40), (62, [true, true, true, true, true, true, true], hgr164_62), (77, [true, true, true, true, true, true, false], hgr164_77), (83, [true, true, true, true, true, false, false], hgr164_83), (89, [true, true, true, true, true, true, true], hgr164_89), (124, [true, true, true, true, true, false, true], hgr164_124), (128, [true, true, true, true, true, true, true], hgr164_128), (134, [true, true, true, true, true, true, false], hgr164_134), (155, [true, true, true, true, true, true, false], hgr164_155), (188, [true, false, false, true, true, false, false], hgr164_188), (191, [true, false, false, true, true, true, false], hgr164_191), (218, [true, false, false, true, true, true, true], hgr164_218), (239, [true, false, false, true, true, true, true], hgr164_239), (250, [true, false, false, true, true, true, true], hgr164_250), (284, [true, false, false, true, true, true, false], hgr164_284), (290, [true, false, false, true, false, false, false], hgr164_290)]
/- HomeGatewayModel.noDevice(I)Z -/
def hgr165_22 : List hgRow := (.iconst 1, 1, [], []) :: (.invokevirtual 180, 3, [124, 3, 0, 1124, 0, 0, 8], []) :: (.ireturn, 1, [3], []) :: []
def hgr165_21 : List hgRow := (.iconst 0, 1, [], []) :: hgr165_22
def hgr165_0 : List hgRow := (.aload_n 0, 1, [], []) :: (.iload_n 1, 1, [], []) :: (.iconst 0, 1, [], []) :: (.aload_n 0, 1, [], []) :: (.getfield 17, 3, [8, 8, 2, 1061], []) :: (.iconst 0, 1, [], []) :: (.iaload, 1, [], []) :: (.iconst 1, 1, [], []) :: (.isub, 1, [], []) :: (.invokestatic 72, 3, [125, 3, 0, 1121, 0, 0, 99], []) :: (.ifCond .ne 7, 3, [21], []) :: (.iconst 1, 1, [], []) :: (.goto 4, 3, [22], []) :: []
def hgb165 : List (Nat × List Bool × List hgRow) := [(0, [true, true], hgr165_0), (21, [false, false], hgr165_21), (22, [false, false], hgr165_22)]
/- HomeGatewayModel.noSender(I)Z -/
def hgr166_22 : List hgRow := (.iconst 1, 1, [], []) :: (.invokevirtual 180, 3, [124, 3, 0, 1124, 0, 0, 8], []) :: (.ireturn, 1, [3], []) :: []
def hgr166_21 : List hgRow := (.iconst 0, 1, [], []) :: hgr166_22
def hgr166_0 : List hgRow := (.aload_n 0, 1, [], []) :: (.iload_n 1, 1, [], []) :: (.iconst (-1), 1, [], []) :: (.aload_n 0, 1, [], []) :: (.getfield 17, 3, [8, 8, 2, 1061], []) :: (.iconst 0, 1, [], []) :: (.iaload, 1, [], []) :: (.iconst 1, 1, [], []) :: (.isub, 1, [], []) :: (.invokestatic 72, 3, [125, 3, 0, 1121, 0, 0, 99], []) :: (.ifCond .ne 7, 3, [21], []) :: (.iconst 1, 1, [], []) :: (.goto 4, 3, [22], []) :: []
def hgb166 : List (Nat × List Bool × List hgRow) := [(0, [true, true], hgr166_0), (21, [false, false], hgr166_21), (22, [false, false], hgr166_22)]
/- HomeGatewayModel.noRule(I)Z -/
def hgr167_22 : List hgRow := (.iconst 1, 1, [], []) :: (.invokevirtual 180, 3, [124, 3, 0, 1124, 0, 0, 8], []) :: (.ireturn, 1, [3], []) :: []
def hgr167_21 : List hgRow := (.iconst 0, 1, [], []) :: hgr167_22
def hgr167_0 : List hgRow := (.aload_n 0, 1, [], []) :: (.iload_n 1, 1, [], []) :: (.iconst 0, 1, [], []) :: (.aload_n 0, 1, [], []) :: (.getfield 17, 3, [8, 8, 2, 1061], []) :: (.iconst 1, 1, [], []) :: (.iaload, 1, [], []) :: (.iconst 1, 1, [], []) :: (.isub, 1, [], []) :: (.invokestatic 72, 3, [125, 3, 0, 1121, 0, 0, 99], []) :: (.ifCond .ne 7, 3, [21], []) :: (.iconst 1, 1, [], []) :: (.goto 4, 3, [22], []) :: []
def hgb167 : List (Nat × List Bool × List hgRow) := [(0, [true, true], hgr167_0), (21, [false, false], hgr167_21), (22, [false, false], hgr167_22)]
/- HomeGatewayModel.deviceCount()I -/
def hgr168_0 : List hgRow := (.aload_n 0, 1, [], []) :: (.iconst 0, 1, [], []) :: (.putfield 43, 3, [8, 0, 0, 1053, 0], []) :: (.aload_n 0, 1, [], []) :: (.getfield 17, 3, [8, 8, 2, 1061], []) :: (.iconst 0, 1, [], []) :: (.iaload, 1, [], []) :: (.ireturn, 1, [1], []) :: []
def hgb168 : List (Nat × List Bool × List hgRow) := [(0, [true], hgr168_0)]
/- HomeGatewayModel.ruleCount()I -/
def hgr169_0 : List hgRow := (.aload_n 0, 1, [], []) :: (.iconst 0, 1, [], []) :: (.putfield 43, 3, [8, 0, 0, 1053, 0], []) :: (.aload_n 0, 1, [], []) :: (.getfield 17, 3, [8, 8, 2, 1061], []) :: (.iconst 1, 1, [], []) :: (.iaload, 1, [], []) :: (.ireturn, 1, [1], []) :: []
def hgb169 : List (Nat × List Bool × List hgRow) := [(0, [true], hgr169_0)]
/- HomeGatewayModel.clock()I -/
def hgr170_0 : List hgRow := (.aload_n 0, 1, [], []) :: (.iconst 0, 1, [], []) :: (.putfield 43, 3, [8, 0, 0, 1053, 0], []) :: (.aload_n 0, 1, [], []) :: (.getfield 17, 3, [8, 8, 2, 1061], []) :: (.iconst 3, 1, [], []) :: (.iaload, 1, [], []) :: (.ireturn, 1, [1], []) :: []
def hgb170 : List (Nat × List Bool × List hgRow) := [(0, [true], hgr170_0)]
/- HomeGatewayModel.state(I)I -/
def hgr171_28 : List hgRow := (.ireturn, 1, [1], []) :: []
def hgr171_17 : List hgRow := (.aload_n 0, 1, [], []) :: (.getfield 17, 3, [8, 8, 2, 1061], []) :: (.iload_n 1, 1, [], []) :: (.invokestatic 50, 3, [128, 1, 0, 1185, 0, 0, 99], []) :: (.iconst 4, 1, [], []) :: (.iadd, 1, [], []) :: (.iaload, 1, [], []) :: hgr171_28
def hgr171_0 : List hgRow := (.aload_n 0, 1, [], []) :: (.iconst 0, 1, [], []) :: (.putfield 43, 3, [8, 0, 0, 1053, 0], []) :: (.aload_n 0, 1, [], []) :: (.iload_n 1, 1, [], []) :: (.invokevirtual 220, 3, [165, 2, 0, 1260, 0, 0, 8], []) :: (.ifCond .eq 7, 3, [17], []) :: (.iconst 0, 1, [], []) :: (.goto 14, 3, [28], []) :: []
def hgb171 : List (Nat × List Bool × List hgRow) := [(0, [true, true], hgr171_0), (17, [true, true], hgr171_17), (28, [false, false], hgr171_28)]
/- HomeGatewayModel.weight(I)I -/
def hgr172_28 : List hgRow := (.ireturn, 1, [1], []) :: []
def hgr172_17 : List hgRow := (.aload_n 0, 1, [], []) :: (.getfield 17, 3, [8, 8, 2, 1061], []) :: (.iload_n 1, 1, [], []) :: (.invokestatic 50, 3, [128, 1, 0, 1185, 0, 0, 99], []) :: (.iconst 1, 1, [], []) :: (.iadd, 1, [], []) :: (.iaload, 1, [], []) :: hgr172_28
def hgr172_0 : List hgRow := (.aload_n 0, 1, [], []) :: (.iconst 0, 1, [], []) :: (.putfield 43, 3, [8, 0, 0, 1053, 0], []) :: (.aload_n 0, 1, [], []) :: (.iload_n 1, 1, [], []) :: (.invokevirtual 220, 3, [165, 2, 0, 1260, 0, 0, 8], []) :: (.ifCond .eq 7, 3, [17], []) :: (.iconst 0, 1, [], []) :: (.goto 14, 3, [28], []) :: []
def hgb172 : List (Nat × List Bool × List hgRow) := [(0, [true, true], hgr172_0), (17, [true, true], hgr172_17), (28, [false, false], hgr172_28)]
/- HomeGatewayModel.queueLength(I)I -/
def hgr173_29 : List hgRow := (.ireturn, 1, [1], []) :: []
def hgr173_17 : List hgRow := (.aload_n 0, 1, [], []) :: (.getfield 17, 3, [8, 8, 2, 1061], []) :: (.iload_n 1, 1, [], []) :: (.invokestatic 50, 3, [128, 1, 0, 1185, 0, 0, 99], []) :: (.bipush 9, 2, [], []) :: (.iadd, 1, [], []) :: (.iaload, 1, [], []) :: hgr173_29
def hgr173_0 : List hgRow := (.aload_n 0, 1, [], []) :: (.iconst 0, 1, [], []) :: (.putfield 43, 3, [8, 0, 0, 1053, 0], []) :: (.aload_n 0, 1, [], []) :: (.iload_n 1, 1, [], []) :: (.invokevirtual 220, 3, [165, 2, 0, 1260, 0, 0, 8], []) :: (.ifCond .eq 7, 3, [17], []) :: (.iconst 0, 1, [], []) :: (.goto 15, 3, [29], []) :: []
def hgb173 : List (Nat × List Bool × List hgRow) := [(0, [true, true], hgr173_0), (17, [true, true], hgr173_17), (29, [false, false], hgr173_29)]
/- HomeGatewayModel.backlogOf(I)I -/
def hgr174_39 : List hgRow := (.iload_n 2, 1, [], []) :: (.ireturn, 1, [1], []) :: []
def hgr174_4 : List hgRow := (.iload_n 3, 1, [], []) :: (.aload_n 0, 1, [], []) :: (.getfield 17, 3, [8, 8, 2, 1061], []) :: (.iload_n 1, 1, [], []) :: (.invokestatic 50, 3, [128, 1, 0, 1185, 0, 0, 99], []) :: (.bipush 9, 2, [], []) :: (.iadd, 1, [], []) :: (.iaload, 1, [], []) :: (.if_icmp .ge 22, 3, [39], []) :: (.iload_n 2, 1, [], []) :: (.aload_n 0, 1, [], []) :: (.getfield 17, 3, [8, 8, 2, 1061], []) :: (.iload_n 1, 1, [], []) :: (.iload_n 3, 1, [], []) :: (.invokestatic 46, 3, [130, 2, 0, 1234, 0, 0, 99], []) :: (.iaload, 1, [], []) :: (.iadd, 1, [], []) :: (.istore_n 2, 1, [], []) :: (.iinc 3 1, 3, [], []) :: (.goto (-32), 3, [4], []) :: []
def hgr174_0 : List hgRow := (.iconst 0, 1, [], []) :: (.istore_n 2, 1, [], []) :: (.iconst 0, 1, [], []) :: (.istore_n 3, 1, [], []) :: hgr174_4
def hgb174 : List (Nat × List Bool × List hgRow) := [(0, [true, true, false, false], hgr174_0), (4, [true, true, true, true], hgr174_4), (39, [false, false, true, false], hgr174_39)]
/- HomeGatewayModel.backlog(I)I -/
def hgr175_22 : List hgRow := (.ireturn, 1, [1], []) :: []
def hgr175_17 : List hgRow := (.aload_n 0, 1, [], []) :: (.iload_n 1, 1, [], []) :: (.invokevirtual 223, 3, [174, 2, 0, 1276, 0, 0, 8], []) :: hgr175_22
def hgr175_0 : List hgRow := (.aload_n 0, 1, [], []) :: (.iconst 0, 1, [], []) :: (.putfield 43, 3, [8, 0, 0, 1053, 0], []) :: (.aload_n 0, 1, [], []) :: (.iload_n 1, 1, [], []) :: (.invokevirtual 220, 3, [165, 2, 0, 1260, 0, 0, 8], []) :: (.ifCond .eq 7, 3, [17], []) :: (.iconst 0, 1, [], []) :: (.goto 8, 3, [22], []) :: []
def hgb175 : List (Nat × List Bool × List hgRow) := [(0, [true, true], hgr175_0), (17, [true, true], hgr175_17), (22, [false, false], hgr175_22)]
/- HomeGatewayModel.virtualTime(I)J -/
def hgr176_23 : List hgRow := (.lreturn, 1, [], []) :: []
def hgr176_17 : List hgRow := (.aload_n 0, 1, [], []) :: (.getfield 31, 3, [8, 12, 2, 1065], []) :: (.iload_n 1, 1, [], []) :: (.laload, 1, [], []) :: hgr176_23
def hgr176_0 : List hgRow := (.aload_n 0, 1, [], []) :: (.iconst 0, 1, [], []) :: (.putfield 43, 3, [8, 0, 0, 1053, 0], []) :: (.aload_n 0, 1, [], []) :: (.iload_n 1, 1, [], []) :: (.invokevirtual 220, 3, [165, 2, 0, 1260, 0, 0, 8], []) :: (.ifCond .eq 7, 3, [17], []) :: (.lconst 0, 1, [], []) :: (.goto 9, 3, [23], []) :: []
def hgb176 : List (Nat × List Bool × List hgRow) := [(0, [true, true], hgr176_0), (17, [true, true], hgr176_17), (23, [false, false], hgr176_23)]
/- HomeGatewayModel.delivered(I)I -/
def hgr177_29 : List hgRow := (.ireturn, 1, [1], []) :: []
def hgr177_17 : List hgRow := (.aload_n 0, 1, [], []) :: (.getfield 17, 3, [8, 8, 2, 1061], []) :: (.iload_n 1, 1, [], []) :: (.invokestatic 50, 3, [128, 1, 0, 1185, 0, 0, 99], []) :: (.bipush 7, 2, [], []) :: (.iadd, 1, [], []) :: (.iaload, 1, [], []) :: hgr177_29
def hgr177_0 : List hgRow := (.aload_n 0, 1, [], []) :: (.iconst 0, 1, [], []) :: (.putfield 43, 3, [8, 0, 0, 1053, 0], []) :: (.aload_n 0, 1, [], []) :: (.iload_n 1, 1, [], []) :: (.invokevirtual 220, 3, [165, 2, 0, 1260, 0, 0, 8], []) :: (.ifCond .eq 7, 3, [17], []) :: (.iconst 0, 1, [], []) :: (.goto 15, 3, [29], []) :: []
def hgb177 : List (Nat × List Bool × List hgRow) := [(0, [true, true], hgr177_0), (17, [true, true], hgr177_17), (29, [false, false], hgr177_29)]
/- HomeGatewayModel.longestDelay(I)I -/
def hgr178_29 : List hgRow := (.ireturn, 1, [1], []) :: []
def hgr178_17 : List hgRow := (.aload_n 0, 1, [], []) :: (.getfield 17, 3, [8, 8, 2, 1061], []) :: (.iload_n 1, 1, [], []) :: (.invokestatic 50, 3, [128, 1, 0, 1185, 0, 0, 99], []) :: (.bipush 8, 2, [], []) :: (.iadd, 1, [], []) :: (.iaload, 1, [], []) :: hgr178_29
def hgr178_0 : List hgRow := (.aload_n 0, 1, [], []) :: (.iconst 0, 1, [], []) :: (.putfield 43, 3, [8, 0, 0, 1053, 0], []) :: (.aload_n 0, 1, [], []) :: (.iload_n 1, 1, [], []) :: (.invokevirtual 220, 3, [165, 2, 0, 1260, 0, 0, 8], []) :: (.ifCond .eq 7, 3, [17], []) :: (.iconst 0, 1, [], []) :: (.goto 15, 3, [29], []) :: []
def hgb178 : List (Nat × List Bool × List hgRow) := [(0, [true, true], hgr178_0), (17, [true, true], hgr178_17), (29, [false, false], hgr178_29)]
/- HomeGatewayModel.rejected()I -/
def hgr179_0 : List hgRow := (.aload_n 0, 1, [], []) :: (.iconst 0, 1, [], []) :: (.putfield 43, 3, [8, 0, 0, 1053, 0], []) :: (.aload_n 0, 1, [], []) :: (.getfield 17, 3, [8, 8, 2, 1061], []) :: (.bipush 7, 2, [], []) :: (.iaload, 1, [], []) :: (.ireturn, 1, [1], []) :: []
def hgb179 : List (Nat × List Bool × List hgRow) := [(0, [true], hgr179_0)]
/- HomeGatewayModel.proxied()I -/
def hgr180_0 : List hgRow := (.aload_n 0, 1, [], []) :: (.iconst 0, 1, [], []) :: (.putfield 43, 3, [8, 0, 0, 1053, 0], []) :: (.aload_n 0, 1, [], []) :: (.getfield 17, 3, [8, 8, 2, 1061], []) :: (.bipush 8, 2, [], []) :: (.iaload, 1, [], []) :: (.ireturn, 1, [1], []) :: []
def hgb180 : List (Nat × List Bool × List hgRow) := [(0, [true], hgr180_0)]
/- HomeGatewayModel.dropped()I -/
def hgr181_0 : List hgRow := (.aload_n 0, 1, [], []) :: (.iconst 0, 1, [], []) :: (.putfield 43, 3, [8, 0, 0, 1053, 0], []) :: (.aload_n 0, 1, [], []) :: (.getfield 17, 3, [8, 8, 2, 1061], []) :: (.bipush 9, 2, [], []) :: (.iaload, 1, [], []) :: (.ireturn, 1, [1], []) :: []
def hgb181 : List (Nat × List Bool × List hgRow) := [(0, [true], hgr181_0)]
/- HomeGatewayModel.isQuiet(I)Z -/
def hgr182_43 : List hgRow := (.ireturn, 1, [3], []) :: []
def hgr182_42 : List hgRow := (.iconst 0, 1, [], []) :: hgr182_43
def hgr182_20 : List hgRow := (.iconst 1, 1, [], []) :: (.invokevirtual 180, 3, [124, 3, 0, 1124, 0, 0, 8], []) :: (.ifCond .ne 18, 3, [42], []) :: (.aload_n 0, 1, [], []) :: (.getfield 17, 3, [8, 8, 2, 1061], []) :: (.iload_n 1, 1, [], []) :: (.invokestatic 207, 3, [161, 2, 0, 1308, 0, 0, 99], []) :: (.ifCond .eq 7, 3, [42], []) :: (.iconst 1, 1, [], []) :: (.goto 4, 3, [43], []) :: []
def hgr182_19 : List hgRow := (.iconst 0, 1, [], []) :: hgr182_20
def hgr182_0 : List hgRow := (.aload_n 0, 1, [], []) :: (.iconst 0, 1, [], []) :: (.putfield 43, 3, [8, 0, 0, 1053, 0], []) :: (.aload_n 0, 1, [], []) :: (.iload_n 1, 1, [], []) :: (.iconst 0, 1, [], []) :: (.iconst 2, 1, [], []) :: (.invokestatic 72, 3, [125, 3, 0, 1121, 0, 0, 99], []) :: (.ifCond .ne 7, 3, [19], []) :: (.iconst 1, 1, [], []) :: (.goto 4, 3, [20], []) :: []
def hgb182 : List (Nat × List Bool × List hgRow) := [(0, [true, true], hgr182_0), (19, [true, true], hgr182_19), (20, [true, true], hgr182_20), (42, [false, false], hgr182_42), (43, [false, false], hgr182_43)]
/- HomeGatewayModel.verdict(III)I -/
def hgr183_52 : List hgRow := (.ireturn, 1, [1], []) :: []
def hgr183_45 : List hgRow := (.aload_n 0, 1, [], []) :: (.iload_n 1, 1, [], []) :: (.iload_n 2, 1, [], []) :: (.iload_n 3, 1, [], []) :: (.invokevirtual 232, 3, [159, 4, 0, 1322, 0, 0, 8], []) :: hgr183_52
def hgr183_41 : List hgRow := (.iconst 0, 1, [], []) :: (.goto 10, 3, [52], []) :: []
def hgr183_34 : List hgRow := (.iconst 2, 1, [], []) :: (.invokevirtual 180, 3, [124, 3, 0, 1124, 0, 0, 8], []) :: (.ifCond .eq 7, 3, [45], []) :: hgr183_41
def hgr183_33 : List hgRow := (.iconst 0, 1, [], []) :: hgr183_34
def hgr183_0 : List hgRow := (.aload_n 0, 1, [], []) :: (.iconst 0, 1, [], []) :: (.putfield 43, 3, [8, 0, 0, 1053, 0], []) :: (.aload_n 0, 1, [], []) :: (.iload_n 1, 1, [], []) :: (.invokevirtual 226, 3, [166, 2, 0, 1315, 0, 0, 8], []) :: (.ifCond .ne 31, 3, [41], []) :: (.aload_n 0, 1, [], []) :: (.iload_n 2, 1, [], []) :: (.invokevirtual 220, 3, [165, 2, 0, 1260, 0, 0, 8], []) :: (.ifCond .ne 23, 3, [41], []) :: (.aload_n 0, 1, [], []) :: (.iload_n 3, 1, [], []) :: (.invokestatic 229, 3, [160, 1, 0, 1319, 0, 0, 99], []) :: (.ifCond .ne 7, 3, [33], []) :: (.iconst 1, 1, [], []) :: (.goto 4, 3, [34], []) :: []
def hgb183 : List (Nat × List Bool × List hgRow) := [(0, [true, true, true, true], hgr183_0), (33, [true, true, true, true], hgr183_33), (34, [true, true, true, true], hgr183_34), (41, [false, false, false, false], hgr183_41), (45, [true, true, true, true], hgr183_45), (52, [false, false, false, false], hgr183_52)]
/- HomeGatewayModel.matching(III)I -/
def hgr184_60 : List hgRow := (.ireturn, 1, [1], []) :: []
def hgr184_47 : List hgRow := (.aload_n 0, 1, [], []) :: (.aload_n 0, 1, [], []) :: (.getfield 17, 3, [8, 8, 2, 1061], []) :: (.iconst 1, 1, [], []) :: (.iaload, 1, [], []) :: (.iload_n 1, 1, [], []) :: (.iload_n 2, 1, [], []) :: (.iload_n 3, 1, [], []) :: (.invokevirtual 203, 3, [157, 5, 0, 1330, 0, 0, 8], []) :: hgr184_60
def hgr184_36 : List hgRow := (.iconst 1, 1, [], []) :: (.invokevirtual 180, 3, [124, 3, 0, 1124, 0, 0, 8], []) :: (.ifCond .eq 7, 3, [47], []) :: (.iconst 0, 1, [], []) :: (.goto 16, 3, [60], []) :: []
def hgr184_35 : List hgRow := (.iconst 0, 1, [], []) :: hgr184_36
def hgr184_31 : List hgRow := (.iconst 1, 1, [], []) :: (.goto 4, 3, [36], []) :: []
def hgr184_0 : List hgRow := (.aload_n 0, 1, [], []) :: (.iconst 0, 1, [], []) :: (.putfield 43, 3, [8, 0, 0, 1053, 0], []) :: (.aload_n 0, 1, [], []) :: (.iload_n 1, 1, [], []) :: (.iconst 0, 1, [], []) :: (.iconst 3, 1, [], []) :: (.invokestatic 72, 3, [125, 3, 0, 1121, 0, 0, 99], []) :: (.ifCond .eq 19, 3, [31], []) :: (.iload_n 2, 1, [], []) :: (.iconst 0, 1, [], []) :: (.iconst 2, 1, [], []) :: (.invokestatic 72, 3, [125, 3, 0, 1121, 0, 0, 99], []) :: (.ifCond .eq 10, 3, [31], []) :: (.iload_n 3, 1, [], []) :: (.invokestatic 229, 3, [160, 1, 0, 1319, 0, 0, 99], []) :: (.ifCond .ne 7, 3, [35], []) :: hgr184_31
def hgb184 : List (Nat × List Bool × List hgRow) := [(0, [true, true, true, true], hgr184_0), (31, [true, true, true, true], hgr184_31), (35, [true, true, true, true], hgr184_35), (36, [true, true, true, true], hgr184_36), (47, [true, true, true, true], hgr184_47), (60, [false, false, false, false], hgr184_60)]
/- HomeGatewayModel.isUseless(I)Z -/
def hgr185_85 : List hgRow := (.iconst 1, 1, [], []) :: (.ireturn, 1, [3], []) :: []
def hgr185_79 : List hgRow := (.iinc 2 1, 3, [], []) :: (.goto (-65), 3, [17], []) :: []
def hgr185_73 : List hgRow := (.iinc 3 1, 3, [], []) :: (.goto (-52), 3, [24], []) :: []
def hgr185_67 : List hgRow := (.iinc 4 1, 3, [], []) :: (.goto (-38), 3, [32], []) :: []
def hgr185_32 : List hgRow := (.iload 4, 2, [], []) :: (.sipush 999, 3, [], []) :: (.if_icmp .gt 36, 3, [73], []) :: (.aload_n 0, 1, [], []) :: (.iload_n 1, 1, [], []) :: (.iload_n 2, 1, [], []) :: (.iload_n 3, 1, [], []) :: (.iload 4, 2, [], []) :: (.invokevirtual 196, 3, [156, 5, 0, 1334, 0, 0, 8], []) :: (.ifCond .eq 18, 3, [67], []) :: (.aload_n 0, 1, [], []) :: (.iload_n 1, 1, [], []) :: (.iload_n 2, 1, [], []) :: (.iload_n 3, 1, [], []) :: (.iload 4, 2, [], []) :: (.invokevirtual 203, 3, [157, 5, 0, 1330, 0, 0, 8], []) :: (.iconst (-1), 1, [], []) :: (.if_icmp .ne 5, 3, [67], []) :: (.iconst 0, 1, [], []) :: (.ireturn, 1, [3], []) :: []
def hgr185_24 : List hgRow := (.iload_n 3, 1, [], []) :: (.iconst 3, 1, [], []) :: (.if_icmp .ge 53, 3, [79], []) :: (.iconst 0, 1, [], []) :: (.istore 4, 2, [], []) :: hgr185_32
def hgr185_17 : List hgRow := (.iload_n 2, 1, [], []) :: (.iconst 3, 1, [], []) :: (.if_icmp .gt 66, 3, [85], []) :: (.iconst 0, 1, [], []) :: (.istore_n 3, 1, [], []) :: hgr185_24
def hgr185_15 : List hgRow := (.iconst 0, 1, [], []) :: (.istore_n 2, 1, [], []) :: hgr185_17
def hgr185_0 : List hgRow := (.aload_n 0, 1, [], []) :: (.iconst 0, 1, [], []) :: (.putfield 43, 3, [8, 0, 0, 1053, 0], []) :: (.aload_n 0, 1, [], []) :: (.iload_n 1, 1, [], []) :: (.invokevirtual 236, 3, [167, 2, 0, 1346, 0, 0, 8], []) :: (.ifCond .eq 5, 3, [15], []) :: (.iconst 0, 1, [], []) :: (.ireturn, 1, [3], []) :: []
def hgb185 : List (Nat × List Bool × List hgRow) := [(0, [true, true, false, false, false], hgr185_0), (15, [true, true, false, false, false], hgr185_15), (17, [true, true, true, false, false], hgr185_17), (24, [true, true, true, true, false], hgr185_24), (32, [true, true, true, true, true], hgr185_32), (67, [true, true, true, true, true], hgr185_67), (73, [true, true, true, true, false], hgr185_73), (79, [true, true, true, false, false], hgr185_79), (85, [false, false, false, false, false], hgr185_85)]
/- HomeGatewayModel.openPorts(II)I -/
def hgr186_61 : List hgRow := (.iload_n 3, 1, [], []) :: (.ireturn, 1, [1], []) :: []
def hgr186_53 : List hgRow := (.iadd, 1, [], []) :: (.istore_n 3, 1, [], []) :: (.iinc 4 1, 3, [], []) :: (.goto (-30), 3, [28], []) :: []
def hgr186_52 : List hgRow := (.iconst 0, 1, [], []) :: hgr186_53
def hgr186_28 : List hgRow := (.iload 4, 2, [], []) :: (.sipush 999, 3, [], []) :: (.if_icmp .gt 28, 3, [61], []) :: (.iload_n 3, 1, [], []) :: (.aload_n 0, 1, [], []) :: (.iload_n 1, 1, [], []) :: (.iload_n 2, 1, [], []) :: (.iload 4, 2, [], []) :: (.invokevirtual 232, 3, [159, 4, 0, 1322, 0, 0, 8], []) :: (.ifCond .ne 7, 3, [52], []) :: (.iconst 1, 1, [], []) :: (.goto 4, 3, [53], []) :: []
def hgr186_23 : List hgRow := (.iconst 0, 1, [], []) :: (.istore_n 3, 1, [], []) :: (.iconst 0, 1, [], []) :: (.istore 4, 2, [], []) :: hgr186_28
def hgr186_21 : List hgRow := (.iconst 0, 1, [], []) :: (.ireturn, 1, [1], []) :: []
def hgr186_0 : List hgRow := (.aload_n 0, 1, [], []) :: (.iconst 0, 1, [], []) :: (.putfield 43, 3, [8, 0, 0, 1053, 0], []) :: (.aload_n 0, 1, [], []) :: (.iload_n 1, 1, [], []) :: (.invokevirtual 226, 3, [166, 2, 0, 1315, 0, 0, 8], []) :: (.ifCond .ne 11, 3, [21], []) :: (.aload_n 0, 1, [], []) :: (.iload_n 2, 1, [], []) :: (.invokevirtual 220, 3, [165, 2, 0, 1260, 0, 0, 8], []) :: (.ifCond .eq 5, 3, [23], []) :: hgr186_21
def hgb186 : List (Nat × List Bool × List hgRow) := [(0, [true, true, true, false, false], hgr186_0), (21, [false, false, false, false, false], hgr186_21), (23, [true, true, true, false, false], hgr186_23), (28, [true, true, true, true, true], hgr186_28), (52, [true, true, true, false, true], hgr186_52), (53, [true, true, true, false, true], hgr186_53), (61, [false, false, false, true, false], hgr186_61)]
/- HomeGatewayModel.fairness()I -/
def hgr187_99 : List hgRow := (.ireturn, 1, [1], []) :: []
def hgr187_82 : List hgRow := (.ldc 239, 2, [1, 1358, 1148846080], []) :: (.fload_n 1, 1, [], []) :: (.fmul, 1, [], []) :: (.fload_n 1, 1, [], []) :: (.fmul, 1, [], []) :: (.aload_n 0, 1, [], []) :: (.getfield 17, 3, [8, 8, 2, 1061], []) :: (.iconst 0, 1, [], []) :: (.iaload, 1, [], []) :: (.i2f, 1, [], []) :: (.fload_n 2, 1, [], []) :: (.fmul, 1, [], []) :: (.fdiv, 1, [], []) :: (.f2i, 1, [], []) :: hgr187_99
def hgr187_70 : List hgRow := (.fload_n 2, 1, [], []) :: (.fconst 0, 1, [], []) :: (.fcmp .l, 1, [], []) :: (.ifCond .ne 9, 3, [82], []) :: (.sipush 1000, 3, [], []) :: (.goto 20, 3, [99], []) :: []
def hgr187_11 : List hgRow := (.iload_n 3, 1, [], []) :: (.aload_n 0, 1, [], []) :: (.getfield 17, 3, [8, 8, 2, 1061], []) :: (.iconst 0, 1, [], []) :: (.iaload, 1, [], []) :: (.if_icmp .ge 52, 3, [70], []) :: (.fconst 1, 1, [], []) :: (.aload_n 0, 1, [], []) :: (.getfield 17, 3, [8, 8, 2, 1061], []) :: (.iload_n 3, 1, [], []) :: (.invokestatic 50, 3, [128, 1, 0, 1185, 0, 0, 99], []) :: (.bipush 7, 2, [], []) :: (.iadd, 1, [], []) :: (.iaload, 1, [], []) :: (.i2f, 1, [], []) :: (.fmul, 1, [], []) :: (.aload_n 0, 1, [], []) :: (.getfield 17, 3, [8, 8, 2, 1061], []) :: (.iload_n 3, 1, [], []) :: (.invokestatic 50, 3, [128, 1, 0, 1185, 0, 0, 99], []) :: (.iconst 1, 1, [], []) :: (.iadd, 1, [], []) :: (.iaload, 1, [], []) :: (.i2f, 1, [], []) :: (.fdiv, 1, [], []) :: (.fstore 4, 2, [], []) :: (.fload_n 1, 1, [], []) :: (.fload 4, 2, [], []) :: (.fadd, 1, [], []) :: (.fstore_n 1, 1, [], []) :: (.fload_n 2, 1, [], []) :: (.fload 4, 2, [], []) :: (.fload 4, 2, [], []) :: (.fmul, 1, [], []) :: (.fadd, 1, [], []) :: (.fstore_n 2, 1, [], []) :: (.iinc 3 1, 3, [], []) :: (.goto (-56), 3, [11], []) :: []
def hgr187_0 : List hgRow := (.aload_n 0, 1, [], []) :: (.iconst 0, 1, [], []) :: (.putfield 43, 3, [8, 0, 0, 1053, 0], []) :: (.fconst 0, 1, [], []) :: (.fstore_n 1, 1, [], []) :: (.fconst 0, 1, [], []) :: (.fstore_n 2, 1, [], []) :: (.iconst 0, 1, [], []) :: (.istore_n 3, 1, [], []) :: hgr187_11
def hgb187 : List (Nat × List Bool × List hgRow) := [(0, [true, false, false, false, false], hgr187_0), (11, [true, true, true, true, false], hgr187_11), (70, [true, true, true, false, false], hgr187_70), (82, [true, true, true, false, false], hgr187_82), (99, [false, false, false, false, false], hgr187_99)]
/- HomeGatewayModel.isEmpty([I)Z -/
def hgr188_29 : List hgRow := (.iconst 1, 1, [], []) :: (.ireturn, 1, [3], []) :: []
def hgr188_23 : List hgRow := (.iinc 1 1, 3, [], []) :: (.goto (-24), 3, [2], []) :: []
def hgr188_2 : List hgRow := (.iload_n 1, 1, [], []) :: (.aload_n 0, 1, [], []) :: (.iconst 0, 1, [], []) :: (.iaload, 1, [], []) :: (.if_icmp .ge 23, 3, [29], []) :: (.aload_n 0, 1, [], []) :: (.iload_n 1, 1, [], []) :: (.invokestatic 50, 3, [128, 1, 0, 1185, 0, 0, 99], []) :: (.bipush 9, 2, [], []) :: (.iadd, 1, [], []) :: (.iaload, 1, [], []) :: (.ifCond .le 5, 3, [23], []) :: (.iconst 0, 1, [], []) :: (.ireturn, 1, [3], []) :: []
def hgr188_0 : List hgRow := (.iconst 0, 1, [], []) :: (.istore_n 1, 1, [], []) :: hgr188_2
def hgb188 : List (Nat × List Bool × List hgRow) := [(0, [true, false], hgr188_0), (2, [true, true], hgr188_2), (23, [true, true], hgr188_23), (29, [false, false], hgr188_29)]
/- HomeGatewayModel.drainTime(I)I -/
def hgr189_90 : List hgRow := (.iconst (-1), 1, [], []) :: (.ireturn, 1, [1], []) :: []
def hgr189_72 : List hgRow := (.aload_n 0, 1, [], []) :: (.getfield 23, 3, [8, 10, 2, 1063], []) :: (.aload_n 0, 1, [], []) :: (.getfield 35, 3, [8, 13, 2, 1066], []) :: (.invokestatic 248, 3, [164, 2, 0, 1366, 0, 0, 99], []) :: (.pop, 1, [], []) :: (.iinc 2 1, 3, [], []) :: (.goto (-32), 3, [55], []) :: []
def hgr189_55 : List hgRow := (.iload_n 2, 1, [], []) :: (.iload_n 1, 1, [], []) :: (.if_icmp .gt 33, 3, [90], []) :: (.aload_n 0, 1, [], []) :: (.getfield 23, 3, [8, 10, 2, 1063], []) :: (.invokestatic 244, 3, [188, 1, 0, 1363, 0, 0, 99], []) :: (.ifCond .eq 5, 3, [72], []) :: (.iload_n 2, 1, [], []) :: (.ireturn, 1, [1], []) :: []
def hgr189_31 : List hgRow := (.aload_n 0, 1, [], []) :: (.getfield 17, 3, [8, 8, 2, 1061], []) :: (.aload_n 0, 1, [], []) :: (.getfield 23, 3, [8, 10, 2, 1063], []) :: (.invokestatic 192, 3, [132, 2, 1, 1231, 0, 0, 99], []) :: (.aload_n 0, 1, [], []) :: (.getfield 31, 3, [8, 12, 2, 1065], []) :: (.aload_n 0, 1, [], []) :: (.getfield 35, 3, [8, 13, 2, 1066], []) :: (.invokestatic 240, 3, [133, 2, 1, 1237, 0, 0, 99], []) :: (.iconst 0, 1, [], []) :: (.istore_n 2, 1, [], []) :: hgr189_55
def hgr189_22 : List hgRow := (.iconst 1, 1, [], []) :: (.invokevirtual 180, 3, [124, 3, 0, 1124, 0, 0, 8], []) :: (.ifCond .eq 5, 3, [31], []) :: (.iconst 0, 1, [], []) :: (.ireturn, 1, [1], []) :: []
def hgr189_21 : List hgRow := (.iconst 0, 1, [], []) :: hgr189_22
def hgr189_0 : List hgRow := (.aload_n 0, 1, [], []) :: (.iconst 0, 1, [], []) :: (.putfield 43, 3, [8, 0, 0, 1053, 0], []) :: (.aload_n 0, 1, [], []) :: (.iload_n 1, 1, [], []) :: (.iconst 0, 1, [], []) :: (.sipush 300, 3, [], []) :: (.invokestatic 72, 3, [125, 3, 0, 1121, 0, 0, 99], []) :: (.ifCond .ne 7, 3, [21], []) :: (.iconst 1, 1, [], []) :: (.goto 4, 3, [22], []) :: []
def hgb189 : List (Nat × List Bool × List hgRow) := [(0, [true, true, false], hgr189_0), (21, [true, true, false], hgr189_21), (22, [true, true, false], hgr189_22), (31, [true, true, false], hgr189_31), (55, [true, true, true], hgr189_55), (72, [true, true, true], hgr189_72), (90, [false, false, false], hgr189_90)]
/- HomeGatewayModel.remember()V -/
def hgr190_67 : List hgRow := (.aload_n 0, 1, [], []) :: (.getfield 17, 3, [8, 8, 2, 1061], []) :: (.aload_n 0, 1, [], []) :: (.getfield 28, 3, [8, 11, 2, 1064], []) :: (.aload_n 0, 1, [], []) :: (.getfield 252, 3, [8, 15, 0, 1068], []) :: (.aaload, 1, [], []) :: (.invokestatic 192, 3, [132, 2, 1, 1231, 0, 0, 99], []) :: (.aload_n 0, 1, [], []) :: (.getfield 31, 3, [8, 12, 2, 1065], []) :: (.aload_n 0, 1, [], []) :: (.getfield 40, 3, [8, 14, 2, 1067], []) :: (.aload_n 0, 1, [], []) :: (.getfield 252, 3, [8, 15, 0, 1068], []) :: (.aaload, 1, [], []) :: (.invokestatic 240, 3, [133, 2, 1, 1237, 0, 0, 99], []) :: (.aload_n 0, 1, [], []) :: (.dup, 1, [], []) :: (.getfield 252, 3, [8, 15, 0, 1068], []) :: (.iconst 1, 1, [], []) :: (.iadd, 1, [], []) :: (.putfield 252, 3, [8, 15, 0, 1068, 0], []) :: (.return_, 1, [], []) :: []
def hgr190_57 : List hgRow := (.aload_n 0, 1, [], []) :: (.dup, 1, [], []) :: (.getfield 252, 3, [8, 15, 0, 1068], []) :: (.iconst 1, 1, [], []) :: (.isub, 1, [], []) :: (.putfield 252, 3, [8, 15, 0, 1068, 0], []) :: hgr190_67
def hgr190_11 : List hgRow := (.iload_n 1, 1, [], []) :: (.bipush 8, 2, [], []) :: (.if_icmp .ge 43, 3, [57], []) :: (.aload_n 0, 1, [], []) :: (.getfield 28, 3, [8, 11, 2, 1064], []) :: (.iload_n 1, 1, [], []) :: (.aaload, 1, [], []) :: (.aload_n 0, 1, [], []) :: (.getfield 28, 3, [8, 11, 2, 1064], []) :: (.iload_n 1, 1, [], []) :: (.iconst 1, 1, [], []) :: (.isub, 1, [], []) :: (.aaload, 1, [], []) :: (.invokestatic 192, 3, [132, 2, 1, 1231, 0, 0, 99], []) :: (.aload_n 0, 1, [], []) :: (.getfield 40, 3, [8, 14, 2, 1067], []) :: (.iload_n 1, 1, [], []) :: (.aaload, 1, [], []) :: (.aload_n 0, 1, [], []) :: (.getfield 40, 3, [8, 14, 2, 1067], []) :: (.iload_n 1, 1, [], []) :: (.iconst 1, 1, [], []) :: (.isub, 1, [], []) :: (.aaload, 1, [], []) :: (.invokestatic 240, 3, [133, 2, 1, 1237, 0, 0, 99], []) :: (.iinc 1 1, 3, [], []) :: (.goto (-43), 3, [11], []) :: []
def hgr190_0 : List hgRow := (.aload_n 0, 1, [], []) :: (.getfield 252, 3, [8, 15, 0, 1068], []) :: (.bipush 8, 2, [], []) :: (.if_icmp .ne 61, 3, [67], []) :: (.iconst 1, 1, [], []) :: (.istore_n 1, 1, [], []) :: hgr190_11
def hgb190 : List (Nat × List Bool × List hgRow) := [(0, [true, false], hgr190_0), (11, [true, true], hgr190_11), (57, [true, false], hgr190_57), (67, [true, false], hgr190_67)]
/- HomeGatewayModel.receive(IIII)I -/
def hgr191_262 : List hgRow := (.iconst 0, 1, [], []) :: (.ireturn, 1, [1], []) :: []
def hgr191_182 : List hgRow := (.aload_n 0, 1, [], []) :: (.getfield 17, 3, [8, 8, 2, 1061], []) :: (.iload_n 2, 1, [], []) :: (.aload_n 0, 1, [], []) :: (.getfield 17, 3, [8, 8, 2, 1061], []) :: (.iload 5, 2, [], []) :: (.bipush 9, 2, [], []) :: (.iadd, 1, [], []) :: (.iaload, 1, [], []) :: (.invokestatic 46, 3, [130, 2, 0, 1234, 0, 0, 99], []) :: (.iload 4, 2, [], []) :: (.iastore, 1, [], []) :: (.aload_n 0, 1, [], []) :: (.getfield 17, 3, [8, 8, 2, 1061], []) :: (.iload_n 2, 1, [], []) :: (.aload_n 0, 1, [], []) :: (.getfield 17, 3, [8, 8, 2, 1061], []) :: (.iload 5, 2, [], []) :: (.bipush 9, 2, [], []) :: (.iadd, 1, [], []) :: (.iaload, 1, [], []) :: (.invokestatic 46, 3, [130, 2, 0, 1234, 0, 0, 99], []) :: (.iconst 1, 1, [], []) :: (.iadd, 1, [], []) :: (.aload_n 0, 1, [], []) :: (.getfield 17, 3, [8, 8, 2, 1061], []) :: (.iconst 3, 1, [], []) :: (.iaload, 1, [], []) :: (.iastore, 1, [], []) :: (.aload_n 0, 1, [], []) :: (.getfield 17, 3, [8, 8, 2, 1061], []) :: (.iload 5, 2, [], []) :: (.bipush 9, 2, [], []) :: (.iadd, 1, [], []) :: (.dup2, 1, [], []) :: (.iaload, 1, [], []) :: (.iconst 1, 1, [], []) :: (.iadd, 1, [], []) :: (.iastore, 1, [], []) :: (.aload_n 0, 1, [], []) :: (.getfield 17, 3, [8, 8, 2, 1061], []) :: (.iload 5, 2, [], []) :: (.iconst 4, 1, [], []) :: (.iadd, 1, [], []) :: (.iaload, 1, [], []) :: (.iconst 2, 1, [], []) :: (.if_icmp .ne 8, 3, [262], []) :: (.aload_n 0, 1, [], []) :: (.iload_n 2, 1, [], []) :: (.invokevirtual 257, 3, [192, 2, 1, 1387, 0, 0, 8], []) :: hgr191_262
def hgr191_181 : List hgRow := (.lastore, 1, [], []) :: hgr191_182
def hgr191_179 : List hgRow := (.lload 6, 2, [], []) :: hgr191_181
def hgr191_153 : List hgRow := (.aload_n 0, 1, [], []) :: (.getfield 31, 3, [8, 12, 2, 1065], []) :: (.iload_n 2, 1, [], []) :: (.aload_n 0, 1, [], []) :: (.getfield 31, 3, [8, 12, 2, 1065], []) :: (.iload_n 2, 1, [], []) :: (.laload, 1, [], []) :: (.lload 6, 2, [], []) :: (.lcmp, 1, [], []) :: (.ifCond .le 12, 3, [179], []) :: (.aload_n 0, 1, [], []) :: (.getfield 31, 3, [8, 12, 2, 1065], []) :: (.iload_n 2, 1, [], []) :: (.laload, 1, [], []) :: (.goto 5, 3, [181], []) :: []
def hgr191_147 : List hgRow := (.iinc 8 1, 3, [], []) :: (.goto (-65), 3, [85], []) :: []
def hgr191_138 : List hgRow := (.aload_n 0, 1, [], []) :: (.getfield 31, 3, [8, 12, 2, 1065], []) :: (.iload 8, 2, [], []) :: (.laload, 1, [], []) :: (.lstore 6, 2, [], []) :: hgr191_147
def hgr191_85 : List hgRow := (.iload 8, 2, [], []) :: (.aload_n 0, 1, [], []) :: (.getfield 17, 3, [8, 8, 2, 1061], []) :: (.iconst 0, 1, [], []) :: (.iaload, 1, [], []) :: (.if_icmp .ge 60, 3, [153], []) :: (.iload 8, 2, [], []) :: (.iload_n 2, 1, [], []) :: (.if_icmp .eq 48, 3, [147], []) :: (.aload_n 0, 1, [], []) :: (.getfield 17, 3, [8, 8, 2, 1061], []) :: (.iload 8, 2, [], []) :: (.invokestatic 50, 3, [128, 1, 0, 1185, 0, 0, 99], []) :: (.bipush 9, 2, [], []) :: (.iadd, 1, [], []) :: (.iaload, 1, [], []) :: (.ifCond .le 32, 3, [147], []) :: (.lload 6, 2, [], []) :: (.lconst 0, 1, [], []) :: (.lcmp, 1, [], []) :: (.ifCond .lt 16, 3, [138], []) :: (.aload_n 0, 1, [], []) :: (.getfield 31, 3, [8, 12, 2, 1065], []) :: (.iload 8, 2, [], []) :: (.laload, 1, [], []) :: (.lload 6, 2, [], []) :: (.lcmp, 1, [], []) :: (.ifCond .ge 12, 3, [147], []) :: hgr191_138
def hgr191_64 : List hgRow := (.aload_n 0, 1, [], []) :: (.getfield 17, 3, [8, 8, 2, 1061], []) :: (.iload 5, 2, [], []) :: (.bipush 9, 2, [], []) :: (.iadd, 1, [], []) :: (.iaload, 1, [], []) :: (.ifCond .ne 108, 3, [182], []) :: (.ldc2_w 255, 3, [1, 1386, 1], []) :: (.lstore 6, 2, [], []) :: (.iconst 0, 1, [], []) :: (.istore 8, 2, [], []) :: hgr191_85
def hgr191_44 : List hgRow := (.aload_n 0, 1, [], []) :: (.iload_n 2, 1, [], []) :: (.invokevirtual 223, 3, [174, 2, 0, 1276, 0, 0, 8], []) :: (.iload 4, 2, [], []) :: (.iadd, 1, [], []) :: (.aload_n 0, 1, [], []) :: (.getfield 17, 3, [8, 8, 2, 1061], []) :: (.bipush 6, 2, [], []) :: (.iaload, 1, [], []) :: (.if_icmp .le 5, 3, [64], []) :: (.iconst 3, 1, [], []) :: (.ireturn, 1, [1], []) :: []
def hgr191_18 : List hgRow := (.aload_n 0, 1, [], []) :: (.getfield 17, 3, [8, 8, 2, 1061], []) :: (.iload 5, 2, [], []) :: (.iconst 4, 1, [], []) :: (.iadd, 1, [], []) :: (.iaload, 1, [], []) :: (.iconst 2, 1, [], []) :: (.if_icmp .ne 16, 3, [44], []) :: (.aload_n 0, 1, [], []) :: (.getfield 17, 3, [8, 8, 2, 1061], []) :: (.iload_n 3, 1, [], []) :: (.invokestatic 144, 3, [150, 2, 0, 1215, 0, 0, 99], []) :: (.ifCond .ne 5, 3, [44], []) :: (.iconst 2, 1, [], []) :: (.ireturn, 1, [1], []) :: []
def hgr191_0 : List hgRow := (.iload_n 2, 1, [], []) :: (.invokestatic 50, 3, [128, 1, 0, 1185, 0, 0, 99], []) :: (.istore 5, 2, [], []) :: (.aload_n 0, 1, [], []) :: (.iload_n 1, 1, [], []) :: (.iload_n 2, 1, [], []) :: (.iload_n 3, 1, [], []) :: (.invokevirtual 232, 3, [159, 4, 0, 1322, 0, 0, 8], []) :: (.ifCond .eq 5, 3, [18], []) :: (.iconst 1, 1, [], []) :: (.ireturn, 1, [1], []) :: []
def hgb191 : List (Nat × List Bool × List hgRow) := [(0, [true, true, true, true, true, false, false, false, false], hgr191_0), (18, [true, false, true, true, true, true, false, false, false], hgr191_18), (44, [true, false, true, false, true, true, false, false, false], hgr191_44), (64, [true, false, true, false, true, true, false, false, false], hgr191_64), (85, [true, false, true, false, true, true, true, false, true], hgr191_85), (138, [true, false, true, false, true, true, false, false, true], hgr191_138), (147, [true, false, true, false, true, true, true, false, true], hgr191_147), (153, [true, false, true, false, true, true, true, false, false], hgr191_153), (179, [true, false, true, false, true, true, true, false, false], hgr191_179), (181, [true, false, true, false, true, true, false, false, false], hgr191_181), (182, [true, false, true, false, true, true, false, false, false], hgr191_182), (262, [false, false, false, false, false, false, false, false, false], hgr191_262)]
/- HomeGatewayModel.wakeUp(I)V -/
def hgr192_0 : List hgRow := (.aload_n 0, 1, [], []) :: (.getfield 17, 3, [8, 8, 2, 1061], []) :: (.iload_n 1, 1, [], []) :: (.invokestatic 50, 3, [128, 1, 0, 1185, 0, 0, 99], []) :: (.iconst 4, 1, [], []) :: (.iadd, 1, [], []) :: (.iconst 1, 1, [], []) :: (.iastore, 1, [], []) :: (.aload_n 0, 1, [], []) :: (.getfield 17, 3, [8, 8, 2, 1061], []) :: (.iload_n 1, 1, [], []) :: (.invokestatic 50, 3, [128, 1, 0, 1185, 0, 0, 99], []) :: (.iconst 5, 1, [], []) :: (.iadd, 1, [], []) :: (.aload_n 0, 1, [], []) :: (.getfield 17, 3, [8, 8, 2, 1061], []) :: (.iload_n 1, 1, [], []) :: (.invokestatic 50, 3, [128, 1, 0, 1185, 0, 0, 99], []) :: (.iconst 2, 1, [], []) :: (.iadd, 1, [], []) :: (.iaload, 1, [], []) :: (.iastore, 1, [], []) :: (.return_, 1, [], []) :: []
def hgb192 : List (Nat × List Bool × List hgRow) := [(0, [true, true], hgr192_0)]
/- HomeGatewayModel.arrive(IIII)I -/
def hgr193_90 : List hgRow := (.iload 5, 2, [], []) :: (.ireturn, 1, [1], []) :: []
def hgr193_54 : List hgRow := (.aload_n 0, 1, [], []) :: (.invokevirtual 189, 3, [190, 1, 1, 1227, 0, 0, 8], []) :: (.aload_n 0, 1, [], []) :: (.iload_n 1, 1, [], []) :: (.iload_n 2, 1, [], []) :: (.iload_n 3, 1, [], []) :: (.iload 4, 2, [], []) :: (.invokevirtual 260, 3, [191, 5, 0, 1382, 0, 0, 8], []) :: (.istore 5, 2, [], []) :: (.iload 5, 2, [], []) :: (.ifCond .le 19, 3, [90], []) :: (.aload_n 0, 1, [], []) :: (.getfield 17, 3, [8, 8, 2, 1061], []) :: (.bipush 7, 2, [], []) :: (.iload 5, 2, [], []) :: (.iadd, 1, [], []) :: (.iconst 1, 1, [], []) :: (.isub, 1, [], []) :: (.dup2, 1, [], []) :: (.iaload, 1, [], []) :: (.iconst 1, 1, [], []) :: (.iadd, 1, [], []) :: (.iastore, 1, [], []) :: hgr193_90
def hgr193_52 : List hgRow := (.iconst 0, 1, [], []) :: (.ireturn, 1, [1], []) :: []
def hgr193_45 : List hgRow := (.iconst 2, 1, [], []) :: (.invokevirtual 180, 3, [124, 3, 0, 1124, 0, 0, 8], []) :: (.ifCond .eq 5, 3, [54], []) :: hgr193_52
def hgr193_44 : List hgRow := (.iconst 0, 1, [], []) :: hgr193_45
def hgr193_40 : List hgRow := (.iconst 1, 1, [], []) :: (.goto 4, 3, [45], []) :: []
def hgr193_0 : List hgRow := (.aload_n 0, 1, [], []) :: (.iconst 0, 1, [], []) :: (.putfield 43, 3, [8, 0, 0, 1053, 0], []) :: (.aload_n 0, 1, [], []) :: (.iload_n 1, 1, [], []) :: (.invokevirtual 226, 3, [166, 2, 0, 1315, 0, 0, 8], []) :: (.ifCond .ne 42, 3, [52], []) :: (.aload_n 0, 1, [], []) :: (.iload_n 2, 1, [], []) :: (.invokevirtual 220, 3, [165, 2, 0, 1260, 0, 0, 8], []) :: (.ifCond .ne 34, 3, [52], []) :: (.aload_n 0, 1, [], []) :: (.iload_n 3, 1, [], []) :: (.invokestatic 229, 3, [160, 1, 0, 1319, 0, 0, 99], []) :: (.ifCond .eq 14, 3, [40], []) :: (.iload 4, 2, [], []) :: (.iconst 1, 1, [], []) :: (.bipush 99, 2, [], []) :: (.invokestatic 72, 3, [125, 3, 0, 1121, 0, 0, 99], []) :: (.ifCond .ne 7, 3, [44], []) :: hgr193_40
def hgb193 : List (Nat × List Bool × List hgRow) := [(0, [true, true, true, true, true, false], hgr193_0), (40, [true, true, true, true, true, false], hgr193_40), (44, [true, true, true, true, true, false], hgr193_44), (45, [true, true, true, true, true, false], hgr193_45), (52, [false, false, false, false, false, false], hgr193_52), (54, [true, true, true, true, true, false], hgr193_54), (90, [false, false, false, false, false, true], hgr193_90)]
/- HomeGatewayModel.tick(I)I -/
def hgr194_99 : List hgRow := (.iload_n 2, 1, [], []) :: (.ireturn, 1, [1], []) :: []
def hgr194_74 : List hgRow := (.iload_n 3, 1, [], []) :: (.iload_n 1, 1, [], []) :: (.if_icmp .ge 23, 3, [99], []) :: (.iload_n 2, 1, [], []) :: (.aload_n 0, 1, [], []) :: (.getfield 17, 3, [8, 8, 2, 1061], []) :: (.aload_n 0, 1, [], []) :: (.getfield 31, 3, [8, 12, 2, 1065], []) :: (.invokestatic 248, 3, [164, 2, 0, 1366, 0, 0, 99], []) :: (.iadd, 1, [], []) :: (.istore_n 2, 1, [], []) :: (.iinc 3 1, 3, [], []) :: (.goto (-22), 3, [74], []) :: []
def hgr194_66 : List hgRow := (.aload_n 0, 1, [], []) :: (.invokevirtual 189, 3, [190, 1, 1, 1227, 0, 0, 8], []) :: (.iconst 0, 1, [], []) :: (.istore_n 2, 1, [], []) :: (.iconst 0, 1, [], []) :: (.istore_n 3, 1, [], []) :: hgr194_74
def hgr194_64 : List hgRow := (.iconst 0, 1, [], []) :: (.ireturn, 1, [1], []) :: []
def hgr194_57 : List hgRow := (.iconst 2, 1, [], []) :: (.invokevirtual 180, 3, [124, 3, 0, 1124, 0, 0, 8], []) :: (.ifCond .eq 5, 3, [66], []) :: hgr194_64
def hgr194_56 : List hgRow := (.iconst 0, 1, [], []) :: hgr194_57
def hgr194_52 : List hgRow := (.iconst 1, 1, [], []) :: (.goto 4, 3, [57], []) :: []
def hgr194_21 : List hgRow := (.iconst 1, 1, [], []) :: (.invokevirtual 180, 3, [124, 3, 0, 1124, 0, 0, 8], []) :: (.ifCond .ne 39, 3, [64], []) :: (.aload_n 0, 1, [], []) :: (.aload_n 0, 1, [], []) :: (.getfield 17, 3, [8, 8, 2, 1061], []) :: (.iconst 4, 1, [], []) :: (.iaload, 1, [], []) :: (.ifCond .eq 17, 3, [52], []) :: (.aload_n 0, 1, [], []) :: (.getfield 17, 3, [8, 8, 2, 1061], []) :: (.iconst 3, 1, [], []) :: (.iaload, 1, [], []) :: (.iload_n 1, 1, [], []) :: (.iadd, 1, [], []) :: (.ldc_w 263, 3, [0, 1395, 100000], []) :: (.if_icmp .le 7, 3, [56], []) :: hgr194_52
def hgr194_20 : List hgRow := (.iconst 0, 1, [], []) :: hgr194_21
def hgr194_0 : List hgRow := (.aload_n 0, 1, [], []) :: (.iconst 0, 1, [], []) :: (.putfield 43, 3, [8, 0, 0, 1053, 0], []) :: (.aload_n 0, 1, [], []) :: (.iload_n 1, 1, [], []) :: (.iconst 1, 1, [], []) :: (.bipush 100, 2, [], []) :: (.invokestatic 72, 3, [125, 3, 0, 1121, 0, 0, 99], []) :: (.ifCond .ne 7, 3, [20], []) :: (.iconst 1, 1, [], []) :: (.goto 4, 3, [21], []) :: []
def hgb194 : List (Nat × List Bool × List hgRow) := [(0, [true, true, false, false], hgr194_0), (20, [true, true, false, false], hgr194_20), (21, [true, true, false, false], hgr194_21), (52, [true, true, false, false], hgr194_52), (56, [true, true, false, false], hgr194_56), (57, [true, true, false, false], hgr194_57), (64, [false, false, false, false], hgr194_64), (66, [true, true, false, false], hgr194_66), (74, [true, true, true, true], hgr194_74), (99, [false, false, true, false], hgr194_99)]
/- HomeGatewayModel.sleep(I)I -/
def hgr195_47 : List hgRow := (.aload_n 0, 1, [], []) :: (.invokevirtual 189, 3, [190, 1, 1, 1227, 0, 0, 8], []) :: (.aload_n 0, 1, [], []) :: (.getfield 17, 3, [8, 8, 2, 1061], []) :: (.iload_n 1, 1, [], []) :: (.invokestatic 50, 3, [128, 1, 0, 1185, 0, 0, 99], []) :: (.iconst 4, 1, [], []) :: (.iadd, 1, [], []) :: (.iconst 2, 1, [], []) :: (.iastore, 1, [], []) :: (.iload_n 2, 1, [], []) :: (.ireturn, 1, [1], []) :: []
def hgr195_38 : List hgRow := (.iconst 2, 1, [], []) :: (.invokevirtual 180, 3, [124, 3, 0, 1124, 0, 0, 8], []) :: (.ifCond .eq 5, 3, [47], []) :: (.iconst 0, 1, [], []) :: (.ireturn, 1, [1], []) :: []
def hgr195_37 : List hgRow := (.iconst 0, 1, [], []) :: hgr195_38
def hgr195_15 : List hgRow := (.aload_n 0, 1, [], []) :: (.getfield 17, 3, [8, 8, 2, 1061], []) :: (.iload_n 1, 1, [], []) :: (.invokestatic 50, 3, [128, 1, 0, 1185, 0, 0, 99], []) :: (.iconst 4, 1, [], []) :: (.iadd, 1, [], []) :: (.iaload, 1, [], []) :: (.istore_n 2, 1, [], []) :: (.aload_n 0, 1, [], []) :: (.iload_n 2, 1, [], []) :: (.iconst 2, 1, [], []) :: (.if_icmp .ne 7, 3, [37], []) :: (.iconst 1, 1, [], []) :: (.goto 4, 3, [38], []) :: []
def hgr195_0 : List hgRow := (.aload_n 0, 1, [], []) :: (.iconst 0, 1, [], []) :: (.putfield 43, 3, [8, 0, 0, 1053, 0], []) :: (.aload_n 0, 1, [], []) :: (.iload_n 1, 1, [], []) :: (.invokevirtual 220, 3, [165, 2, 0, 1260, 0, 0, 8], []) :: (.ifCond .eq 5, 3, [15], []) :: (.iconst 0, 1, [], []) :: (.ireturn, 1, [1], []) :: []
def hgb195 : List (Nat × List Bool × List hgRow) := [(0, [true, true, false], hgr195_0), (15, [true, true, false], hgr195_15), (37, [true, true, true], hgr195_37), (38, [true, true, true], hgr195_38), (47, [true, true, true], hgr195_47)]
/- HomeGatewayModel.wake(I)I -/
def hgr196_43 : List hgRow := (.aload_n 0, 1, [], []) :: (.invokevirtual 189, 3, [190, 1, 1, 1227, 0, 0, 8], []) :: (.aload_n 0, 1, [], []) :: (.iload_n 1, 1, [], []) :: (.invokevirtual 257, 3, [192, 2, 1, 1387, 0, 0, 8], []) :: (.aload_n 0, 1, [], []) :: (.getfield 17, 3, [8, 8, 2, 1061], []) :: (.iload_n 1, 1, [], []) :: (.invokestatic 50, 3, [128, 1, 0, 1185, 0, 0, 99], []) :: (.iconst 2, 1, [], []) :: (.iadd, 1, [], []) :: (.iaload, 1, [], []) :: (.ireturn, 1, [1], []) :: []
def hgr196_41 : List hgRow := (.iconst 0, 1, [], []) :: (.ireturn, 1, [1], []) :: []
def hgr196_34 : List hgRow := (.iconst 2, 1, [], []) :: (.invokevirtual 180, 3, [124, 3, 0, 1124, 0, 0, 8], []) :: (.ifCond .eq 5, 3, [43], []) :: hgr196_41
def hgr196_33 : List hgRow := (.iconst 0, 1, [], []) :: hgr196_34
def hgr196_0 : List hgRow := (.aload_n 0, 1, [], []) :: (.iconst 0, 1, [], []) :: (.putfield 43, 3, [8, 0, 0, 1053, 0], []) :: (.aload_n 0, 1, [], []) :: (.iload_n 1, 1, [], []) :: (.invokevirtual 220, 3, [165, 2, 0, 1260, 0, 0, 8], []) :: (.ifCond .ne 31, 3, [41], []) :: (.aload_n 0, 1, [], []) :: (.aload_n 0, 1, [], []) :: (.getfield 17, 3, [8, 8, 2, 1061], []) :: (.iload_n 1, 1, [], []) :: (.invokestatic 50, 3, [128, 1, 0, 1185, 0, 0, 99], []) :: (.iconst 4, 1, [], []) :: (.iadd, 1, [], []) :: (.iaload, 1, [], []) :: (.iconst 2, 1, [], []) :: (.if_icmp .eq 7, 3, [33], []) :: (.iconst 1, 1, [], []) :: (.goto 4, 3, [34], []) :: []
def hgb196 : List (Nat × List Bool × List hgRow) := [(0, [true, true], hgr196_0), (33, [true, true], hgr196_33), (34, [true, true], hgr196_34), (41, [false, false], hgr196_41), (43, [true, true], hgr196_43)]
/- HomeGatewayModel.setWeight(II)I -/
def hgr197_38 : List hgRow := (.aload_n 0, 1, [], []) :: (.invokevirtual 189, 3, [190, 1, 1, 1227, 0, 0, 8], []) :: (.aload_n 0, 1, [], []) :: (.getfield 17, 3, [8, 8, 2, 1061], []) :: (.iload_n 1, 1, [], []) :: (.invokestatic 50, 3, [128, 1, 0, 1185, 0, 0, 99], []) :: (.iconst 1, 1, [], []) :: (.iadd, 1, [], []) :: (.iaload, 1, [], []) :: (.istore_n 3, 1, [], []) :: (.aload_n 0, 1, [], []) :: (.getfield 17, 3, [8, 8, 2, 1061], []) :: (.iload_n 1, 1, [], []) :: (.invokestatic 50, 3, [128, 1, 0, 1185, 0, 0, 99], []) :: (.iconst 1, 1, [], []) :: (.iadd, 1, [], []) :: (.iload_n 2, 1, [], []) :: (.iastore, 1, [], []) :: (.iload_n 3, 1, [], []) :: (.ireturn, 1, [1], []) :: []
def hgr197_36 : List hgRow := (.iconst 0, 1, [], []) :: (.ireturn, 1, [1], []) :: []
def hgr197_29 : List hgRow := (.iconst 2, 1, [], []) :: (.invokevirtual 180, 3, [124, 3, 0, 1124, 0, 0, 8], []) :: (.ifCond .eq 5, 3, [38], []) :: hgr197_36
def hgr197_28 : List hgRow := (.iconst 0, 1, [], []) :: hgr197_29
def hgr197_0 : List hgRow := (.aload_n 0, 1, [], []) :: (.iconst 0, 1, [], []) :: (.putfield 43, 3, [8, 0, 0, 1053, 0], []) :: (.aload_n 0, 1, [], []) :: (.iload_n 1, 1, [], []) :: (.invokevirtual 220, 3, [165, 2, 0, 1260, 0, 0, 8], []) :: (.ifCond .ne 26, 3, [36], []) :: (.aload_n 0, 1, [], []) :: (.iload_n 2, 1, [], []) :: (.iconst 1, 1, [], []) :: (.bipush 9, 2, [], []) :: (.invokestatic 72, 3, [125, 3, 0, 1121, 0, 0, 99], []) :: (.ifCond .ne 7, 3, [28], []) :: (.iconst 1, 1, [], []) :: (.goto 4, 3, [29], []) :: []
def hgb197 : List (Nat × List Bool × List hgRow) := [(0, [true, true, true, false], hgr197_0), (28, [true, true, true, false], hgr197_28), (29, [true, true, true, false], hgr197_29), (36, [false, false, false, false], hgr197_36), (38, [true, true, true, false], hgr197_38)]
/- HomeGatewayModel.addRule(ZIIII)I -/
def hgr198_117 : List hgRow := (.iload_n 2, 1, [], []) :: (.iload_n 3, 1, [], []) :: (.iload 4, 2, [], []) :: (.iload 5, 2, [], []) :: (.invokestatic 140, 3, [148, 7, 1, 1199, 0, 0, 99], []) :: (.aload_n 0, 1, [], []) :: (.getfield 17, 3, [8, 8, 2, 1061], []) :: (.iconst 1, 1, [], []) :: (.dup2, 1, [], []) :: (.iaload, 1, [], []) :: (.iconst 1, 1, [], []) :: (.iadd, 1, [], []) :: (.iastore, 1, [], []) :: (.aload_n 0, 1, [], []) :: (.getfield 17, 3, [8, 8, 2, 1061], []) :: (.iconst 1, 1, [], []) :: (.iaload, 1, [], []) :: (.iconst 1, 1, [], []) :: (.isub, 1, [], []) :: (.ireturn, 1, [1], []) :: []
def hgr198_116 : List hgRow := (.iconst 0, 1, [], []) :: hgr198_117
def hgr198_94 : List hgRow := (.aload_n 0, 1, [], []) :: (.invokevirtual 189, 3, [190, 1, 1, 1227, 0, 0, 8], []) :: (.aload_n 0, 1, [], []) :: (.getfield 17, 3, [8, 8, 2, 1061], []) :: (.aload_n 0, 1, [], []) :: (.getfield 17, 3, [8, 8, 2, 1061], []) :: (.iconst 1, 1, [], []) :: (.iaload, 1, [], []) :: (.iload_n 1, 1, [], []) :: (.ifCond .eq 7, 3, [116], []) :: (.iconst 1, 1, [], []) :: (.goto 4, 3, [117], []) :: []
def hgr198_92 : List hgRow := (.iconst 0, 1, [], []) :: (.ireturn, 1, [1], []) :: []
def hgr198_85 : List hgRow := (.iconst 2, 1, [], []) :: (.invokevirtual 180, 3, [124, 3, 0, 1124, 0, 0, 8], []) :: (.ifCond .eq 5, 3, [94], []) :: hgr198_92
def hgr198_84 : List hgRow := (.iconst 0, 1, [], []) :: hgr198_85
def hgr198_80 : List hgRow := (.iconst 1, 1, [], []) :: (.goto 4, 3, [85], []) :: []
def hgr198_52 : List hgRow := (.iconst 1, 1, [], []) :: (.invokevirtual 180, 3, [124, 3, 0, 1124, 0, 0, 8], []) :: (.ifCond .ne 36, 3, [92], []) :: (.aload_n 0, 1, [], []) :: (.aload_n 0, 1, [], []) :: (.getfield 17, 3, [8, 8, 2, 1061], []) :: (.iconst 4, 1, [], []) :: (.iaload, 1, [], []) :: (.ifCond .eq 14, 3, [80], []) :: (.aload_n 0, 1, [], []) :: (.getfield 17, 3, [8, 8, 2, 1061], []) :: (.iconst 1, 1, [], []) :: (.iaload, 1, [], []) :: (.bipush 12, 2, [], []) :: (.if_icmp .ne 7, 3, [84], []) :: hgr198_80
def hgr198_51 : List hgRow := (.iconst 0, 1, [], []) :: hgr198_52
def hgr198_47 : List hgRow := (.iconst 1, 1, [], []) :: (.goto 4, 3, [52], []) :: []
def hgr198_0 : List hgRow := (.aload_n 0, 1, [], []) :: (.iconst 0, 1, [], []) :: (.putfield 43, 3, [8, 0, 0, 1053, 0], []) :: (.aload_n 0, 1, [], []) :: (.iload_n 2, 1, [], []) :: (.iconst 0, 1, [], []) :: (.iconst 4, 1, [], []) :: (.invokestatic 72, 3, [125, 3, 0, 1121, 0, 0, 99], []) :: (.ifCond .eq 35, 3, [47], []) :: (.iload_n 3, 1, [], []) :: (.iconst 0, 1, [], []) :: (.iconst 4, 1, [], []) :: (.invokestatic 72, 3, [125, 3, 0, 1121, 0, 0, 99], []) :: (.ifCond .eq 26, 3, [47], []) :: (.iload 4, 2, [], []) :: (.invokestatic 229, 3, [160, 1, 0, 1319, 0, 0, 99], []) :: (.ifCond .eq 18, 3, [47], []) :: (.iload 5, 2, [], []) :: (.invokestatic 229, 3, [160, 1, 0, 1319, 0, 0, 99], []) :: (.ifCond .eq 10, 3, [47], []) :: (.iload 5, 2, [], []) :: (.iload 4, 2, [], []) :: (.if_icmp .ge 7, 3, [51], []) :: hgr198_47
def hgb198 : List (Nat × List Bool × List hgRow) := [(0, [true, true, true, true, true, true], hgr198_0), (47, [true, true, true, true, true, true], hgr198_47), (51, [true, true, true, true, true, true], hgr198_51), (52, [true, true, true, true, true, true], hgr198_52), (80, [true, true, true, true, true, true], hgr198_80), (84, [true, true, true, true, true, true], hgr198_84), (85, [true, true, true, true, true, true], hgr198_85), (92, [false, false, false, false, false, false], hgr198_92), (94, [true, true, true, true, true, true], hgr198_94), (116, [true, false, true, true, true, true], hgr198_116), (117, [true, false, true, true, true, true], hgr198_117)]
/- HomeGatewayModel.swap(II)V -/
def hgr199_61 : List hgRow := (.return_, 1, [], []) :: []
def hgr199_2 : List hgRow := (.iload_n 3, 1, [], []) :: (.iconst 5, 1, [], []) :: (.if_icmp .ge 57, 3, [61], []) :: (.aload_n 0, 1, [], []) :: (.getfield 17, 3, [8, 8, 2, 1061], []) :: (.iload_n 1, 1, [], []) :: (.invokestatic 134, 3, [129, 1, 0, 1202, 0, 0, 99], []) :: (.iload_n 3, 1, [], []) :: (.iadd, 1, [], []) :: (.iaload, 1, [], []) :: (.istore 4, 2, [], []) :: (.aload_n 0, 1, [], []) :: (.getfield 17, 3, [8, 8, 2, 1061], []) :: (.iload_n 1, 1, [], []) :: (.invokestatic 134, 3, [129, 1, 0, 1202, 0, 0, 99], []) :: (.iload_n 3, 1, [], []) :: (.iadd, 1, [], []) :: (.aload_n 0, 1, [], []) :: (.getfield 17, 3, [8, 8, 2, 1061], []) :: (.iload_n 2, 1, [], []) :: (.invokestatic 134, 3, [129, 1, 0, 1202, 0, 0, 99], []) :: (.iload_n 3, 1, [], []) :: (.iadd, 1, [], []) :: (.iaload, 1, [], []) :: (.iastore, 1, [], []) :: (.aload_n 0, 1, [], []) :: (.getfield 17, 3, [8, 8, 2, 1061], []) :: (.iload_n 2, 1, [], []) :: (.invokestatic 134, 3, [129, 1, 0, 1202, 0, 0, 99], []) :: (.iload_n 3, 1, [], []) :: (.iadd, 1, [], []) :: (.iload 4, 2, [], []) :: (.iastore, 1, [], []) :: (.iinc 3 1, 3, [], []) :: (.goto (-56), 3, [2], []) :: []
def hgr199_0 : List hgRow := (.iconst 0, 1, [], []) :: (.istore_n 3, 1, [], []) :: hgr199_2
def hgb199 : List (Nat × List Bool × List hgRow) := [(0, [true, true, true, false, false], hgr199_0), (2, [true, true, true, true, false], hgr199_2), (61, [false, false, false, false, false], hgr199_61)]
/- HomeGatewayModel.shift(II)V -/
def hgr200_42 : List hgRow := (.return_, 1, [], []) :: []
def hgr200_23 : List hgRow := (.iload_n 3, 1, [], []) :: (.iload_n 2, 1, [], []) :: (.if_icmp .le 17, 3, [42], []) :: (.aload_n 0, 1, [], []) :: (.iload_n 3, 1, [], []) :: (.iload_n 3, 1, [], []) :: (.iconst 1, 1, [], []) :: (.isub, 1, [], []) :: (.invokevirtual 264, 3, [199, 3, 1, 1420, 0, 0, 8], []) :: (.iinc 3 (-1), 3, [], []) :: (.goto (-16), 3, [23], []) :: []
def hgr200_21 : List hgRow := (.iload_n 1, 1, [], []) :: (.istore_n 3, 1, [], []) :: hgr200_23
def hgr200_2 : List hgRow := (.iload_n 3, 1, [], []) :: (.iload_n 2, 1, [], []) :: (.if_icmp .ge 17, 3, [21], []) :: (.aload_n 0, 1, [], []) :: (.iload_n 3, 1, [], []) :: (.iload_n 3, 1, [], []) :: (.iconst 1, 1, [], []) :: (.iadd, 1, [], []) :: (.invokevirtual 264, 3, [199, 3, 1, 1420, 0, 0, 8], []) :: (.iinc 3 1, 3, [], []) :: (.goto (-16), 3, [2], []) :: []
def hgr200_0 : List hgRow := (.iload_n 1, 1, [], []) :: (.istore_n 3, 1, [], []) :: hgr200_2
def hgb200 : List (Nat × List Bool × List hgRow) := [(0, [true, true, true, false], hgr200_0), (2, [true, true, true, true], hgr200_2), (21, [true, true, true, false], hgr200_21), (23, [true, false, true, true], hgr200_23), (42, [false, false, false, false], hgr200_42)]
/- HomeGatewayModel.removeRule(I)I -/
def hgr201_15 : List hgRow := (.aload_n 0, 1, [], []) :: (.invokevirtual 189, 3, [190, 1, 1, 1227, 0, 0, 8], []) :: (.aload_n 0, 1, [], []) :: (.iload_n 1, 1, [], []) :: (.aload_n 0, 1, [], []) :: (.getfield 17, 3, [8, 8, 2, 1061], []) :: (.iconst 1, 1, [], []) :: (.iaload, 1, [], []) :: (.iconst 1, 1, [], []) :: (.isub, 1, [], []) :: (.invokevirtual 267, 3, [200, 3, 1, 1416, 0, 0, 8], []) :: (.aload_n 0, 1, [], []) :: (.getfield 17, 3, [8, 8, 2, 1061], []) :: (.iconst 1, 1, [], []) :: (.dup2, 1, [], []) :: (.iaload, 1, [], []) :: (.iconst 1, 1, [], []) :: (.isub, 1, [], []) :: (.iastore, 1, [], []) :: (.aload_n 0, 1, [], []) :: (.getfield 17, 3, [8, 8, 2, 1061], []) :: (.iconst 1, 1, [], []) :: (.iaload, 1, [], []) :: (.ireturn, 1, [1], []) :: []
def hgr201_0 : List hgRow := (.aload_n 0, 1, [], []) :: (.iconst 0, 1, [], []) :: (.putfield 43, 3, [8, 0, 0, 1053, 0], []) :: (.aload_n 0, 1, [], []) :: (.iload_n 1, 1, [], []) :: (.invokevirtual 236, 3, [167, 2, 0, 1346, 0, 0, 8], []) :: (.ifCond .eq 5, 3, [15], []) :: (.iconst 0, 1, [], []) :: (.ireturn, 1, [1], []) :: []
def hgb201 : List (Nat × List Bool × List hgRow) := [(0, [true, true], hgr201_0), (15, [true, true], hgr201_15)]
/- HomeGatewayModel.moveRule(II)I -/
def hgr202_23 : List hgRow := (.aload_n 0, 1, [], []) :: (.invokevirtual 189, 3, [190, 1, 1, 1227, 0, 0, 8], []) :: (.aload_n 0, 1, [], []) :: (.iload_n 1, 1, [], []) :: (.iload_n 2, 1, [], []) :: (.invokevirtual 267, 3, [200, 3, 1, 1416, 0, 0, 8], []) :: (.aload_n 0, 1, [], []) :: (.getfield 17, 3, [8, 8, 2, 1061], []) :: (.iconst 1, 1, [], []) :: (.iaload, 1, [], []) :: (.ireturn, 1, [1], []) :: []
def hgr202_21 : List hgRow := (.iconst 0, 1, [], []) :: (.ireturn, 1, [1], []) :: []
def hgr202_0 : List hgRow := (.aload_n 0, 1, [], []) :: (.iconst 0, 1, [], []) :: (.putfield 43, 3, [8, 0, 0, 1053, 0], []) :: (.aload_n 0, 1, [], []) :: (.iload_n 1, 1, [], []) :: (.invokevirtual 236, 3, [167, 2, 0, 1346, 0, 0, 8], []) :: (.ifCond .ne 11, 3, [21], []) :: (.aload_n 0, 1, [], []) :: (.iload_n 2, 1, [], []) :: (.invokevirtual 236, 3, [167, 2, 0, 1346, 0, 0, 8], []) :: (.ifCond .eq 5, 3, [23], []) :: hgr202_21
def hgb202 : List (Nat × List Bool × List hgRow) := [(0, [true, true, true], hgr202_0), (21, [false, false, false], hgr202_21), (23, [true, true, true], hgr202_23)]
/- HomeGatewayModel.undo()I -/
def hgr203_14 : List hgRow := (.aload_n 0, 1, [], []) :: (.dup, 1, [], []) :: (.getfield 252, 3, [8, 15, 0, 1068], []) :: (.iconst 1, 1, [], []) :: (.isub, 1, [], []) :: (.putfield 252, 3, [8, 15, 0, 1068, 0], []) :: (.aload_n 0, 1, [], []) :: (.getfield 28, 3, [8, 11, 2, 1064], []) :: (.aload_n 0, 1, [], []) :: (.getfield 252, 3, [8, 15, 0, 1068], []) :: (.aaload, 1, [], []) :: (.aload_n 0, 1, [], []) :: (.getfield 17, 3, [8, 8, 2, 1061], []) :: (.invokestatic 192, 3, [132, 2, 1, 1231, 0, 0, 99], []) :: (.aload_n 0, 1, [], []) :: (.getfield 40, 3, [8, 14, 2, 1067], []) :: (.aload_n 0, 1, [], []) :: (.getfield 252, 3, [8, 15, 0, 1068], []) :: (.aaload, 1, [], []) :: (.aload_n 0, 1, [], []) :: (.getfield 31, 3, [8, 12, 2, 1065], []) :: (.invokestatic 240, 3, [133, 2, 1, 1237, 0, 0, 99], []) :: (.aload_n 0, 1, [], []) :: (.getfield 252, 3, [8, 15, 0, 1068], []) :: (.ireturn, 1, [1], []) :: []
def hgr203_0 : List hgRow := (.aload_n 0, 1, [], []) :: (.iconst 0, 1, [], []) :: (.putfield 43, 3, [8, 0, 0, 1053, 0], []) :: (.aload_n 0, 1, [], []) :: (.getfield 252, 3, [8, 15, 0, 1068], []) :: (.ifCond .ne 5, 3, [14], []) :: (.iconst (-1), 1, [], []) :: (.ireturn, 1, [1], []) :: []
def hgb203 : List (Nat × List Bool × List hgRow) := [(0, [true], hgr203_0), (14, [true], hgr203_14)]
/- HomeGatewayModel.checksum()J -/
def hgr204_180 : List hgRow := (.lload_n 1, 1, [], []) :: (.lreturn, 1, [], []) :: []
def hgr204_147 : List hgRow := (.iload_n 3, 1, [], []) :: (.aload_n 0, 1, [], []) :: (.getfield 17, 3, [8, 8, 2, 1061], []) :: (.iconst 1, 1, [], []) :: (.iaload, 1, [], []) :: (.invokestatic 134, 3, [129, 1, 0, 1202, 0, 0, 99], []) :: (.if_icmp .ge 23, 3, [180], []) :: (.ldc2_w 270, 3, [0, 1436, 31], []) :: (.lload_n 1, 1, [], []) :: (.lmul, 1, [], []) :: (.aload_n 0, 1, [], []) :: (.getfield 17, 3, [8, 8, 2, 1061], []) :: (.iload_n 3, 1, [], []) :: (.iaload, 1, [], []) :: (.i2l, 1, [], []) :: (.ladd, 1, [], []) :: (.lstore_n 1, 1, [], []) :: (.iinc 3 1, 3, [], []) :: (.goto (-30), 3, [147], []) :: []
def hgr204_144 : List hgRow := (.bipush 127, 2, [], []) :: (.istore_n 3, 1, [], []) :: hgr204_147
def hgr204_44 : List hgRow := (.iload_n 3, 1, [], []) :: (.aload_n 0, 1, [], []) :: (.getfield 17, 3, [8, 8, 2, 1061], []) :: (.iconst 0, 1, [], []) :: (.iaload, 1, [], []) :: (.if_icmp .ge 93, 3, [144], []) :: (.ldc2_w 270, 3, [0, 1436, 31], []) :: (.lload_n 1, 1, [], []) :: (.lmul, 1, [], []) :: (.aload_n 0, 1, [], []) :: (.getfield 17, 3, [8, 8, 2, 1061], []) :: (.iload_n 3, 1, [], []) :: (.invokestatic 50, 3, [128, 1, 0, 1185, 0, 0, 99], []) :: (.iconst 4, 1, [], []) :: (.iadd, 1, [], []) :: (.iaload, 1, [], []) :: (.i2l, 1, [], []) :: (.ladd, 1, [], []) :: (.lstore_n 1, 1, [], []) :: (.ldc2_w 270, 3, [0, 1436, 31], []) :: (.lload_n 1, 1, [], []) :: (.lmul, 1, [], []) :: (.aload_n 0, 1, [], []) :: (.getfield 17, 3, [8, 8, 2, 1061], []) :: (.iload_n 3, 1, [], []) :: (.invokestatic 50, 3, [128, 1, 0, 1185, 0, 0, 99], []) :: (.iconst 1, 1, [], []) :: (.iadd, 1, [], []) :: (.iaload, 1, [], []) :: (.i2l, 1, [], []) :: (.ladd, 1, [], []) :: (.lstore_n 1, 1, [], []) :: (.ldc2_w 270, 3, [0, 1436, 31], []) :: (.lload_n 1, 1, [], []) :: (.lmul, 1, [], []) :: (.aload_n 0, 1, [], []) :: (.iload_n 3, 1, [], []) :: (.invokevirtual 223, 3, [174, 2, 0, 1276, 0, 0, 8], []) :: (.i2l, 1, [], []) :: (.ladd, 1, [], []) :: (.lstore_n 1, 1, [], []) :: (.ldc2_w 270, 3, [0, 1436, 31], []) :: (.lload_n 1, 1, [], []) :: (.lmul, 1, [], []) :: (.aload_n 0, 1, [], []) :: (.getfield 31, 3, [8, 12, 2, 1065], []) :: (.iload_n 3, 1, [], []) :: (.laload, 1, [], []) :: (.ladd, 1, [], []) :: (.lstore_n 1, 1, [], []) :: (.ldc2_w 270, 3, [0, 1436, 31], []) :: (.lload_n 1, 1, [], []) :: (.lmul, 1, [], []) :: (.aload_n 0, 1, [], []) :: (.getfield 17, 3, [8, 8, 2, 1061], []) :: (.iload_n 3, 1, [], []) :: (.invokestatic 50, 3, [128, 1, 0, 1185, 0, 0, 99], []) :: (.bipush 7, 2, [], []) :: (.iadd, 1, [], []) :: (.iaload, 1, [], []) :: (.i2l, 1, [], []) :: (.ladd, 1, [], []) :: (.lstore_n 1, 1, [], []) :: (.iinc 3 1, 3, [], []) :: (.goto (-97), 3, [44], []) :: []
def hgr204_42 : List hgRow := (.iconst 0, 1, [], []) :: (.istore_n 3, 1, [], []) :: hgr204_44
def hgr204_16 : List hgRow := (.iload_n 3, 1, [], []) :: (.bipush 9, 2, [], []) :: (.if_icmp .gt 23, 3, [42], []) :: (.ldc2_w 270, 3, [0, 1436, 31], []) :: (.lload_n 1, 1, [], []) :: (.lmul, 1, [], []) :: (.aload_n 0, 1, [], []) :: (.getfield 17, 3, [8, 8, 2, 1061], []) :: (.iload_n 3, 1, [], []) :: (.iaload, 1, [], []) :: (.i2l, 1, [], []) :: (.ladd, 1, [], []) :: (.lstore_n 1, 1, [], []) :: (.iinc 3 1, 3, [], []) :: (.goto (-23), 3, [16], []) :: []
def hgr204_0 : List hgRow := (.aload_n 0, 1, [], []) :: (.iconst 0, 1, [], []) :: (.putfield 43, 3, [8, 0, 0, 1053, 0], []) :: (.aload_n 0, 1, [], []) :: (.getfield 17, 3, [8, 8, 2, 1061], []) :: (.iconst 3, 1, [], []) :: (.iaload, 1, [], []) :: (.i2l, 1, [], []) :: (.lstore_n 1, 1, [], []) :: (.bipush 7, 2, [], []) :: (.istore_n 3, 1, [], []) :: hgr204_16
def hgb204 : List (Nat × List Bool × List hgRow) := [(0, [true, false, false, false], hgr204_0), (16, [true, true, false, true], hgr204_16), (42, [true, true, false, false], hgr204_42), (44, [true, true, false, true], hgr204_44), (144, [true, true, false, false], hgr204_144), (147, [true, true, false, true], hgr204_147), (180, [false, true, false, false], hgr204_180)]
/- HomeGatewayLaw.load(LHomeGateway;I[J)I -/
def hgr205_15 : List hgRow := (.iconst 0, 1, [], []) :: (.ireturn, 1, [1], []) :: []
def hgr205_13 : List hgRow := (.iconst 1, 1, [], []) :: (.ireturn, 1, [1], []) :: []
def hgr205_0 : List hgRow := (.aload_n 2, 1, [], []) :: (.iconst 0, 1, [], []) :: (.aload_n 0, 1, [], []) :: (.iload_n 1, 1, [], []) :: (.invokevirtual 7, 3, [84, 2, 0, 406, 1, 6, 7], [(0, 13, 3)]) :: (.i2l, 1, [], []) :: (.lastore, 1, [], []) :: (.goto 6, 3, [15], []) :: []
def hgb205 : List (Nat × List Bool × List hgRow) := [(0, [true, true, true, false], hgr205_0), (13, [false, false, false, false], hgr205_13), (15, [false, false, false, false], hgr205_15)]
/- HomeGatewayLaw.state(LHomeGateway;I[J)I -/
def hgr206_15 : List hgRow := (.iconst 0, 1, [], []) :: (.ireturn, 1, [1], []) :: []
def hgr206_13 : List hgRow := (.iconst 1, 1, [], []) :: (.ireturn, 1, [1], []) :: []
def hgr206_0 : List hgRow := (.aload_n 2, 1, [], []) :: (.iconst 0, 1, [], []) :: (.aload_n 0, 1, [], []) :: (.iload_n 1, 1, [], []) :: (.invokevirtual 15, 3, [89, 2, 0, 668, 1, 6, 7], [(2, 13, 3)]) :: (.i2l, 1, [], []) :: (.lastore, 1, [], []) :: (.goto 6, 3, [15], []) :: []
def hgb206 : List (Nat × List Bool × List hgRow) := [(0, [true, true, true, false], hgr206_0), (13, [false, false, false, false], hgr206_13), (15, [false, false, false, false], hgr206_15)]
/- HomeGatewayLaw.weight(LHomeGateway;I[J)I -/
def hgr207_15 : List hgRow := (.iconst 0, 1, [], []) :: (.ireturn, 1, [1], []) :: []
def hgr207_13 : List hgRow := (.iconst 1, 1, [], []) :: (.ireturn, 1, [1], []) :: []
def hgr207_0 : List hgRow := (.aload_n 2, 1, [], []) :: (.iconst 0, 1, [], []) :: (.aload_n 0, 1, [], []) :: (.iload_n 1, 1, [], []) :: (.invokevirtual 20, 3, [90, 2, 0, 695, 1, 6, 7], [(2, 13, 3)]) :: (.i2l, 1, [], []) :: (.lastore, 1, [], []) :: (.goto 6, 3, [15], []) :: []
def hgb207 : List (Nat × List Bool × List hgRow) := [(0, [true, true, true, false], hgr207_0), (13, [false, false, false, false], hgr207_13), (15, [false, false, false, false], hgr207_15)]
/- HomeGatewayLaw.queueLength(LHomeGateway;I[J)I -/
def hgr208_15 : List hgRow := (.iconst 0, 1, [], []) :: (.ireturn, 1, [1], []) :: []
def hgr208_13 : List hgRow := (.iconst 1, 1, [], []) :: (.ireturn, 1, [1], []) :: []
def hgr208_0 : List hgRow := (.aload_n 2, 1, [], []) :: (.iconst 0, 1, [], []) :: (.aload_n 0, 1, [], []) :: (.iload_n 1, 1, [], []) :: (.invokevirtual 23, 3, [91, 2, 0, 702, 1, 6, 7], [(2, 13, 3)]) :: (.i2l, 1, [], []) :: (.lastore, 1, [], []) :: (.goto 6, 3, [15], []) :: []
def hgb208 : List (Nat × List Bool × List hgRow) := [(0, [true, true, true, false], hgr208_0), (13, [false, false, false, false], hgr208_13), (15, [false, false, false, false], hgr208_15)]
/- HomeGatewayLaw.backlog(LHomeGateway;I[J)I -/
def hgr209_15 : List hgRow := (.iconst 0, 1, [], []) :: (.ireturn, 1, [1], []) :: []
def hgr209_13 : List hgRow := (.iconst 1, 1, [], []) :: (.ireturn, 1, [1], []) :: []
def hgr209_0 : List hgRow := (.aload_n 2, 1, [], []) :: (.iconst 0, 1, [], []) :: (.aload_n 0, 1, [], []) :: (.iload_n 1, 1, [], []) :: (.invokevirtual 26, 3, [92, 2, 0, 709, 1, 6, 7], [(2, 13, 3)]) :: (.i2l, 1, [], []) :: (.lastore, 1, [], []) :: (.goto 6, 3, [15], []) :: []
def hgb209 : List (Nat × List Bool × List hgRow) := [(0, [true, true, true, false], hgr209_0), (13, [false, false, false, false], hgr209_13), (15, [false, false, false, false], hgr209_15)]
/- HomeGatewayLaw.virtualTime(LHomeGateway;I[J)I -/
def hgr210_14 : List hgRow := (.iconst 0, 1, [], []) :: (.ireturn, 1, [1], []) :: []
def hgr210_12 : List hgRow := (.iconst 1, 1, [], []) :: (.ireturn, 1, [1], []) :: []
def hgr210_0 : List hgRow := (.aload_n 2, 1, [], []) :: (.iconst 0, 1, [], []) :: (.aload_n 0, 1, [], []) :: (.iload_n 1, 1, [], []) :: (.invokevirtual 29, 3, [93, 2, 0, 716, 1, 6, 7], [(2, 12, 3)]) :: (.lastore, 1, [], []) :: (.goto 6, 3, [14], []) :: []
def hgb210 : List (Nat × List Bool × List hgRow) := [(0, [true, true, true, false], hgr210_0), (12, [false, false, false, false], hgr210_12), (14, [false, false, false, false], hgr210_14)]
/- HomeGatewayLaw.delivered(LHomeGateway;I[J)I -/
def hgr211_15 : List hgRow := (.iconst 0, 1, [], []) :: (.ireturn, 1, [1], []) :: []
def hgr211_13 : List hgRow := (.iconst 1, 1, [], []) :: (.ireturn, 1, [1], []) :: []
def hgr211_0 : List hgRow := (.aload_n 2, 1, [], []) :: (.iconst 0, 1, [], []) :: (.aload_n 0, 1, [], []) :: (.iload_n 1, 1, [], []) :: (.invokevirtual 33, 3, [94, 2, 0, 723, 1, 6, 7], [(2, 13, 3)]) :: (.i2l, 1, [], []) :: (.lastore, 1, [], []) :: (.goto 6, 3, [15], []) :: []
def hgb211 : List (Nat × List Bool × List hgRow) := [(0, [true, true, true, false], hgr211_0), (13, [false, false, false, false], hgr211_13), (15, [false, false, false, false], hgr211_15)]
/- HomeGatewayLaw.longestDelay(LHomeGateway;I[J)I -/
def hgr212_15 : List hgRow := (.iconst 0, 1, [], []) :: (.ireturn, 1, [1], []) :: []
def hgr212_13 : List hgRow := (.iconst 1, 1, [], []) :: (.ireturn, 1, [1], []) :: []
def hgr212_0 : List hgRow := (.aload_n 2, 1, [], []) :: (.iconst 0, 1, [], []) :: (.aload_n 0, 1, [], []) :: (.iload_n 1, 1, [], []) :: (.invokevirtual 36, 3, [95, 2, 0, 730, 1, 6, 7], [(2, 13, 3)]) :: (.i2l, 1, [], []) :: (.lastore, 1, [], []) :: (.goto 6, 3, [15], []) :: []
def hgb212 : List (Nat × List Bool × List hgRow) := [(0, [true, true, true, false], hgr212_0), (13, [false, false, false, false], hgr212_13), (15, [false, false, false, false], hgr212_15)]
/- HomeGatewayLaw.isQuiet(LHomeGateway;I[J)I -/
def hgr213_22 : List hgRow := (.iconst 0, 1, [], []) :: (.ireturn, 1, [1], []) :: []
def hgr213_20 : List hgRow := (.iconst 1, 1, [], []) :: (.ireturn, 1, [1], []) :: []
def hgr213_15 : List hgRow := (.lastore, 1, [], []) :: (.goto 6, 3, [22], []) :: []
def hgr213_14 : List hgRow := (.lconst 0, 1, [], []) :: hgr213_15
def hgr213_0 : List hgRow := (.aload_n 2, 1, [], []) :: (.iconst 0, 1, [], []) :: (.aload_n 0, 1, [], []) :: (.iload_n 1, 1, [], []) :: (.invokevirtual 39, 3, [99, 2, 0, 737, 1, 6, 7], [(0, 20, 3)]) :: (.ifCond .eq 7, 3, [14], []) :: (.lconst 1, 1, [], []) :: (.goto 4, 3, [15], []) :: []
def hgb213 : List (Nat × List Bool × List hgRow) := [(0, [true, true, true, false], hgr213_0), (14, [false, false, false, false], hgr213_14), (15, [false, false, false, false], hgr213_15), (20, [false, false, false, false], hgr213_20), (22, [false, false, false, false], hgr213_22)]
/- HomeGatewayLaw.verdict(LHomeGateway;III[J)I -/
def hgr214_23 : List hgRow := (.iconst 0, 1, [], []) :: (.ireturn, 1, [1], []) :: []
def hgr214_21 : List hgRow := (.iconst 2, 1, [], []) :: (.ireturn, 1, [1], []) :: []
def hgr214_17 : List hgRow := (.iconst 1, 1, [], []) :: (.ireturn, 1, [1], []) :: []
def hgr214_0 : List hgRow := (.aload 4, 2, [], []) :: (.iconst 0, 1, [], []) :: (.aload_n 0, 1, [], []) :: (.iload_n 1, 1, [], []) :: (.iload_n 2, 1, [], []) :: (.iload_n 3, 1, [], []) :: (.invokevirtual 43, 3, [100, 4, 0, 749, 3, 18, 7], [(2, 17, 5), (0, 21, 5)]) :: (.i2l, 1, [], []) :: (.lastore, 1, [], []) :: (.goto 11, 3, [23], []) :: []
def hgb214 : List (Nat × List Bool × List hgRow) := [(0, [true, true, true, true, true, false], hgr214_0), (17, [false, false, false, false, false, false], hgr214_17), (21, [false, false, false, false, false, false], hgr214_21), (23, [false, false, false, false, false, false], hgr214_23)]
/- HomeGatewayLaw.matching(LHomeGateway;III[J)I -/
def hgr215_19 : List hgRow := (.iconst 0, 1, [], []) :: (.ireturn, 1, [1], []) :: []
def hgr215_17 : List hgRow := (.iconst 1, 1, [], []) :: (.ireturn, 1, [1], []) :: []
def hgr215_0 : List hgRow := (.aload 4, 2, [], []) :: (.iconst 0, 1, [], []) :: (.aload_n 0, 1, [], []) :: (.iload_n 1, 1, [], []) :: (.iload_n 2, 1, [], []) :: (.iload_n 3, 1, [], []) :: (.invokevirtual 47, 3, [101, 4, 0, 801, 2, 12, 7], [(0, 17, 5)]) :: (.i2l, 1, [], []) :: (.lastore, 1, [], []) :: (.goto 7, 3, [19], []) :: []
def hgb215 : List (Nat × List Bool × List hgRow) := [(0, [true, true, true, true, true, false], hgr215_0), (17, [false, false, false, false, false, false], hgr215_17), (19, [false, false, false, false, false, false], hgr215_19)]
/- HomeGatewayLaw.isUseless(LHomeGateway;I[J)I -/
def hgr216_22 : List hgRow := (.iconst 0, 1, [], []) :: (.ireturn, 1, [1], []) :: []
def hgr216_20 : List hgRow := (.iconst 1, 1, [], []) :: (.ireturn, 1, [1], []) :: []
def hgr216_15 : List hgRow := (.lastore, 1, [], []) :: (.goto 6, 3, [22], []) :: []
def hgr216_14 : List hgRow := (.lconst 0, 1, [], []) :: hgr216_15
def hgr216_0 : List hgRow := (.aload_n 2, 1, [], []) :: (.iconst 0, 1, [], []) :: (.aload_n 0, 1, [], []) :: (.iload_n 1, 1, [], []) :: (.invokevirtual 50, 3, [102, 2, 0, 810, 1, 6, 7], [(2, 20, 3)]) :: (.ifCond .eq 7, 3, [14], []) :: (.lconst 1, 1, [], []) :: (.goto 4, 3, [15], []) :: []
def hgb216 : List (Nat × List Bool × List hgRow) := [(0, [true, true, true, false], hgr216_0), (14, [false, false, false, false], hgr216_14), (15, [false, false, false, false], hgr216_15), (20, [false, false, false, false], hgr216_20), (22, [false, false, false, false], hgr216_22)]
/- HomeGatewayLaw.openPorts(LHomeGateway;II[J)I -/
def hgr217_17 : List hgRow := (.iconst 0, 1, [], []) :: (.ireturn, 1, [1], []) :: []
def hgr217_15 : List hgRow := (.iconst 1, 1, [], []) :: (.ireturn, 1, [1], []) :: []
def hgr217_0 : List hgRow := (.aload_n 3, 1, [], []) :: (.iconst 0, 1, [], []) :: (.aload_n 0, 1, [], []) :: (.iload_n 1, 1, [], []) :: (.iload_n 2, 1, [], []) :: (.invokevirtual 53, 3, [103, 3, 0, 836, 2, 12, 7], [(2, 15, 4)]) :: (.i2l, 1, [], []) :: (.lastore, 1, [], []) :: (.goto 7, 3, [17], []) :: []
def hgb217 : List (Nat × List Bool × List hgRow) := [(0, [true, true, true, true, false], hgr217_0), (15, [false, false, false, false, false], hgr217_15), (17, [false, false, false, false, false], hgr217_17)]
/- HomeGatewayLaw.drainTime(LHomeGateway;I[J)I -/
def hgr218_15 : List hgRow := (.iconst 0, 1, [], []) :: (.ireturn, 1, [1], []) :: []
def hgr218_13 : List hgRow := (.iconst 1, 1, [], []) :: (.ireturn, 1, [1], []) :: []
def hgr218_0 : List hgRow := (.aload_n 2, 1, [], []) :: (.iconst 0, 1, [], []) :: (.aload_n 0, 1, [], []) :: (.iload_n 1, 1, [], []) :: (.invokevirtual 57, 3, [105, 2, 0, 852, 1, 6, 7], [(0, 13, 3)]) :: (.i2l, 1, [], []) :: (.lastore, 1, [], []) :: (.goto 6, 3, [15], []) :: []
def hgb218 : List (Nat × List Bool × List hgRow) := [(0, [true, true, true, false], hgr218_0), (13, [false, false, false, false], hgr218_13), (15, [false, false, false, false], hgr218_15)]
/- HomeGatewayLaw.arrive(LHomeGateway;IIII[J)I -/
def hgr219_25 : List hgRow := (.iconst 0, 1, [], []) :: (.ireturn, 1, [1], []) :: []
def hgr219_23 : List hgRow := (.iconst 2, 1, [], []) :: (.ireturn, 1, [1], []) :: []
def hgr219_19 : List hgRow := (.iconst 1, 1, [], []) :: (.ireturn, 1, [1], []) :: []
def hgr219_0 : List hgRow := (.aload 5, 2, [], []) :: (.iconst 0, 1, [], []) :: (.aload_n 0, 1, [], []) :: (.iload_n 1, 1, [], []) :: (.iload_n 2, 1, [], []) :: (.iload_n 3, 1, [], []) :: (.iload 4, 2, [], []) :: (.invokevirtual 60, 3, [106, 5, 0, 913, 4, 24, 7], [(2, 19, 6), (0, 23, 6)]) :: (.i2l, 1, [], []) :: (.lastore, 1, [], []) :: (.goto 11, 3, [25], []) :: []
def hgb219 : List (Nat × List Bool × List hgRow) := [(0, [true, true, true, true, true, true, false], hgr219_0), (19, [false, false, false, false, false, false, false], hgr219_19), (23, [false, false, false, false, false, false, false], hgr219_23), (25, [false, false, false, false, false, false, false], hgr219_25)]
/- HomeGatewayLaw.tick(LHomeGateway;I[J)I -/
def hgr220_18 : List hgRow := (.iconst 0, 1, [], []) :: (.ireturn, 1, [1], []) :: []
def hgr220_16 : List hgRow := (.iconst 2, 1, [], []) :: (.ireturn, 1, [1], []) :: []
def hgr220_13 : List hgRow := (.iconst 1, 1, [], []) :: (.ireturn, 1, [1], []) :: []
def hgr220_0 : List hgRow := (.aload_n 2, 1, [], []) :: (.iconst 0, 1, [], []) :: (.aload_n 0, 1, [], []) :: (.iload_n 1, 1, [], []) :: (.invokevirtual 64, 3, [107, 2, 0, 956, 2, 12, 7], [(0, 13, 3), (1, 16, 3)]) :: (.i2l, 1, [], []) :: (.lastore, 1, [], []) :: (.goto 9, 3, [18], []) :: []
def hgb220 : List (Nat × List Bool × List hgRow) := [(0, [true, true, true, false], hgr220_0), (13, [false, false, false, false], hgr220_13), (16, [false, false, false, false], hgr220_16), (18, [false, false, false, false], hgr220_18)]
/- HomeGatewayLaw.sleep(LHomeGateway;I[J)I -/
def hgr221_18 : List hgRow := (.iconst 0, 1, [], []) :: (.ireturn, 1, [1], []) :: []
def hgr221_16 : List hgRow := (.iconst 2, 1, [], []) :: (.ireturn, 1, [1], []) :: []
def hgr221_13 : List hgRow := (.iconst 1, 1, [], []) :: (.ireturn, 1, [1], []) :: []
def hgr221_0 : List hgRow := (.aload_n 2, 1, [], []) :: (.iconst 0, 1, [], []) :: (.aload_n 0, 1, [], []) :: (.iload_n 1, 1, [], []) :: (.invokevirtual 69, 3, [108, 2, 0, 986, 2, 12, 7], [(2, 13, 3), (1, 16, 3)]) :: (.i2l, 1, [], []) :: (.lastore, 1, [], []) :: (.goto 9, 3, [18], []) :: []
def hgb221 : List (Nat × List Bool × List hgRow) := [(0, [true, true, true, false], hgr221_0), (13, [false, false, false, false], hgr221_13), (16, [false, false, false, false], hgr221_16), (18, [false, false, false, false], hgr221_18)]
/- HomeGatewayLaw.wake(LHomeGateway;I[J)I -/
def hgr222_18 : List hgRow := (.iconst 0, 1, [], []) :: (.ireturn, 1, [1], []) :: []
def hgr222_16 : List hgRow := (.iconst 2, 1, [], []) :: (.ireturn, 1, [1], []) :: []
def hgr222_13 : List hgRow := (.iconst 1, 1, [], []) :: (.ireturn, 1, [1], []) :: []
def hgr222_0 : List hgRow := (.aload_n 2, 1, [], []) :: (.iconst 0, 1, [], []) :: (.aload_n 0, 1, [], []) :: (.iload_n 1, 1, [], []) :: (.invokevirtual 72, 3, [109, 2, 0, 994, 2, 12, 7], [(2, 13, 3), (1, 16, 3)]) :: (.i2l, 1, [], []) :: (.lastore, 1, [], []) :: (.goto 9, 3, [18], []) :: []
def hgb222 : List (Nat × List Bool × List hgRow) := [(0, [true, true, true, false], hgr222_0), (13, [false, false, false, false], hgr222_13), (16, [false, false, false, false], hgr222_16), (18, [false, false, false, false], hgr222_18)]
/- HomeGatewayLaw.setWeight(LHomeGateway;II[J)I -/
def hgr223_21 : List hgRow := (.iconst 0, 1, [], []) :: (.ireturn, 1, [1], []) :: []
def hgr223_19 : List hgRow := (.iconst 2, 1, [], []) :: (.ireturn, 1, [1], []) :: []
def hgr223_15 : List hgRow := (.iconst 1, 1, [], []) :: (.ireturn, 1, [1], []) :: []
def hgr223_0 : List hgRow := (.aload_n 3, 1, [], []) :: (.iconst 0, 1, [], []) :: (.aload_n 0, 1, [], []) :: (.iload_n 1, 1, [], []) :: (.iload_n 2, 1, [], []) :: (.invokevirtual 75, 3, [110, 3, 0, 1003, 2, 12, 7], [(2, 15, 4), (0, 19, 4)]) :: (.i2l, 1, [], []) :: (.lastore, 1, [], []) :: (.goto 11, 3, [21], []) :: []
def hgb223 : List (Nat × List Bool × List hgRow) := [(0, [true, true, true, true, false], hgr223_0), (15, [false, false, false, false, false], hgr223_15), (19, [false, false, false, false, false], hgr223_19), (21, [false, false, false, false, false], hgr223_21)]
/- HomeGatewayLaw.addRule(LHomeGateway;ZIIII[J)I -/
def hgr224_27 : List hgRow := (.iconst 0, 1, [], []) :: (.ireturn, 1, [1], []) :: []
def hgr224_25 : List hgRow := (.iconst 2, 1, [], []) :: (.ireturn, 1, [1], []) :: []
def hgr224_21 : List hgRow := (.iconst 1, 1, [], []) :: (.ireturn, 1, [1], []) :: []
def hgr224_0 : List hgRow := (.aload 6, 2, [], []) :: (.iconst 0, 1, [], []) :: (.aload_n 0, 1, [], []) :: (.iload_n 1, 1, [], []) :: (.iload_n 2, 1, [], []) :: (.iload_n 3, 1, [], []) :: (.iload 4, 2, [], []) :: (.iload 5, 2, [], []) :: (.invokevirtual 78, 3, [111, 6, 0, 1011, 2, 12, 7], [(0, 21, 7), (1, 25, 7)]) :: (.i2l, 1, [], []) :: (.lastore, 1, [], []) :: (.goto 11, 3, [27], []) :: []
def hgb224 : List (Nat × List Bool × List hgRow) := [(0, [true, true, true, true, true, true, true, false], hgr224_0), (21, [false, false, false, false, false, false, false, false], hgr224_21), (25, [false, false, false, false, false, false, false, false], hgr224_25), (27, [false, false, false, false, false, false, false, false], hgr224_27)]
/- HomeGatewayLaw.removeRule(LHomeGateway;I[J)I -/
def hgr225_15 : List hgRow := (.iconst 0, 1, [], []) :: (.ireturn, 1, [1], []) :: []
def hgr225_13 : List hgRow := (.iconst 1, 1, [], []) :: (.ireturn, 1, [1], []) :: []
def hgr225_0 : List hgRow := (.aload_n 2, 1, [], []) :: (.iconst 0, 1, [], []) :: (.aload_n 0, 1, [], []) :: (.iload_n 1, 1, [], []) :: (.invokevirtual 82, 3, [112, 2, 0, 1023, 1, 6, 7], [(2, 13, 3)]) :: (.i2l, 1, [], []) :: (.lastore, 1, [], []) :: (.goto 6, 3, [15], []) :: []
def hgb225 : List (Nat × List Bool × List hgRow) := [(0, [true, true, true, false], hgr225_0), (13, [false, false, false, false], hgr225_13), (15, [false, false, false, false], hgr225_15)]
/- HomeGatewayLaw.moveRule(LHomeGateway;II[J)I -/
def hgr226_17 : List hgRow := (.iconst 0, 1, [], []) :: (.ireturn, 1, [1], []) :: []
def hgr226_15 : List hgRow := (.iconst 1, 1, [], []) :: (.ireturn, 1, [1], []) :: []
def hgr226_0 : List hgRow := (.aload_n 3, 1, [], []) :: (.iconst 0, 1, [], []) :: (.aload_n 0, 1, [], []) :: (.iload_n 1, 1, [], []) :: (.iload_n 2, 1, [], []) :: (.invokevirtual 85, 3, [113, 3, 0, 1038, 2, 12, 7], [(2, 15, 4)]) :: (.i2l, 1, [], []) :: (.lastore, 1, [], []) :: (.goto 7, 3, [17], []) :: []
def hgb226 : List (Nat × List Bool × List hgRow) := [(0, [true, true, true, true, false], hgr226_0), (15, [false, false, false, false, false], hgr226_15), (17, [false, false, false, false, false], hgr226_17)]
/- HomeGatewayLaw.law([I)Z -/
def hgr227_1827 : List hgRow := (.iconst 1, 1, [], []) :: (.ireturn, 1, [3], []) :: []
def hgr227_1821 : List hgRow := (.iinc 4 6, 3, [], []) :: (.goto (-1801), 3, [23], []) :: []
def hgr227_1807 : List hgRow := (.aload_n 1, 1, [], []) :: (.invokevirtual 210, 3, [115, 1, 0, 388, 0, 0, 7], []) :: (.aload_n 2, 1, [], []) :: (.invokevirtual 214, 3, [204, 1, 0, 1432, 0, 0, 8], []) :: (.lcmp, 1, [], []) :: (.ifCond .eq 5, 3, [1821], []) :: (.iconst 0, 1, [], []) :: (.ireturn, 1, [3], []) :: []
def hgr227_1794 : List hgRow := (.aload_n 1, 1, [], []) :: (.invokevirtual 206, 3, [114, 1, 0, 360, 0, 0, 7], []) :: (.aload_n 2, 1, [], []) :: (.invokevirtual 209, 3, [203, 1, 0, 1428, 0, 0, 8], []) :: (.if_icmp .eq 19, 3, [1821], []) :: (.iconst 0, 1, [], []) :: (.ireturn, 1, [3], []) :: []
def hgr227_1791 : List hgRow := (.goto 30, 3, [1821], []) :: []
def hgr227_1774 : List hgRow := (.iload 5, 2, [], []) :: (.ifCond .ne 15, 3, [1791], []) :: (.aload_n 3, 1, [], []) :: (.iconst 0, 1, [], []) :: (.laload, 1, [], []) :: (.iload 6, 2, [], []) :: (.i2l, 1, [], []) :: (.lcmp, 1, [], []) :: (.ifCond .eq 5, 3, [1791], []) :: (.iconst 0, 1, [], []) :: (.ireturn, 1, [3], []) :: []
def hgr227_1726 : List hgRow := (.aload_n 1, 1, [], []) :: (.aload_n 0, 1, [], []) :: (.iload 4, 2, [], []) :: (.iconst 1, 1, [], []) :: (.iadd, 1, [], []) :: (.iaload, 1, [], []) :: (.aload_n 0, 1, [], []) :: (.iload 4, 2, [], []) :: (.iconst 2, 1, [], []) :: (.iadd, 1, [], []) :: (.iaload, 1, [], []) :: (.aload_n 3, 1, [], []) :: (.invokestatic 203, 3, [226, 4, 0, 1035, 2, 12, 99], []) :: (.istore 5, 2, [], []) :: (.aload_n 2, 1, [], []) :: (.aload_n 0, 1, [], []) :: (.iload 4, 2, [], []) :: (.iconst 1, 1, [], []) :: (.iadd, 1, [], []) :: (.iaload, 1, [], []) :: (.aload_n 0, 1, [], []) :: (.iload 4, 2, [], []) :: (.iconst 2, 1, [], []) :: (.iadd, 1, [], []) :: (.iaload, 1, [], []) :: (.invokevirtual 205, 3, [202, 3, 0, 1424, 0, 0, 8], []) :: (.istore 6, 2, [], []) :: (.aload_n 2, 1, [], []) :: (.invokevirtual 103, 3, [123, 1, 0, 1109, 0, 0, 8], []) :: (.iload 5, 2, [], []) :: (.if_icmp .eq 5, 3, [1774], []) :: (.iconst 0, 1, [], []) :: (.ireturn, 1, [3], []) :: []
def hgr227_1723 : List hgRow := (.goto 98, 3, [1821], []) :: []
def hgr227_1706 : List hgRow := (.iload 5, 2, [], []) :: (.ifCond .ne 15, 3, [1723], []) :: (.aload_n 3, 1, [], []) :: (.iconst 0, 1, [], []) :: (.laload, 1, [], []) :: (.iload 6, 2, [], []) :: (.i2l, 1, [], []) :: (.lcmp, 1, [], []) :: (.ifCond .eq 5, 3, [1723], []) :: (.iconst 0, 1, [], []) :: (.ireturn, 1, [3], []) :: []
def hgr227_1670 : List hgRow := (.aload_n 1, 1, [], []) :: (.aload_n 0, 1, [], []) :: (.iload 4, 2, [], []) :: (.iconst 1, 1, [], []) :: (.iadd, 1, [], []) :: (.iaload, 1, [], []) :: (.aload_n 3, 1, [], []) :: (.invokestatic 200, 3, [225, 3, 0, 1020, 1, 6, 99], []) :: (.istore 5, 2, [], []) :: (.aload_n 2, 1, [], []) :: (.aload_n 0, 1, [], []) :: (.iload 4, 2, [], []) :: (.iconst 1, 1, [], []) :: (.iadd, 1, [], []) :: (.iaload, 1, [], []) :: (.invokevirtual 202, 3, [201, 2, 0, 1412, 0, 0, 8], []) :: (.istore 6, 2, [], []) :: (.aload_n 2, 1, [], []) :: (.invokevirtual 103, 3, [123, 1, 0, 1109, 0, 0, 8], []) :: (.iload 5, 2, [], []) :: (.if_icmp .eq 5, 3, [1706], []) :: (.iconst 0, 1, [], []) :: (.ireturn, 1, [3], []) :: []
def hgr227_1667 : List hgRow := (.goto 154, 3, [1821], []) :: []
def hgr227_1650 : List hgRow := (.iload 5, 2, [], []) :: (.ifCond .ne 15, 3, [1667], []) :: (.aload_n 3, 1, [], []) :: (.iconst 0, 1, [], []) :: (.laload, 1, [], []) :: (.iload 6, 2, [], []) :: (.i2l, 1, [], []) :: (.lcmp, 1, [], []) :: (.ifCond .eq 5, 3, [1667], []) :: (.iconst 0, 1, [], []) :: (.ireturn, 1, [3], []) :: []
def hgr227_1610 : List hgRow := (.aload_n 0, 1, [], []) :: (.iload 4, 2, [], []) :: (.iconst 2, 1, [], []) :: (.iadd, 1, [], []) :: (.iaload, 1, [], []) :: (.aload_n 0, 1, [], []) :: (.iload 4, 2, [], []) :: (.iconst 3, 1, [], []) :: (.iadd, 1, [], []) :: (.iaload, 1, [], []) :: (.aload_n 0, 1, [], []) :: (.iload 4, 2, [], []) :: (.iconst 4, 1, [], []) :: (.iadd, 1, [], []) :: (.iaload, 1, [], []) :: (.aload_n 0, 1, [], []) :: (.iload 4, 2, [], []) :: (.iconst 5, 1, [], []) :: (.iadd, 1, [], []) :: (.iaload, 1, [], []) :: (.invokevirtual 199, 3, [198, 6, 0, 1408, 0, 0, 8], []) :: (.istore 6, 2, [], []) :: (.aload_n 2, 1, [], []) :: (.invokevirtual 103, 3, [123, 1, 0, 1109, 0, 0, 8], []) :: (.iload 5, 2, [], []) :: (.if_icmp .eq 5, 3, [1650], []) :: (.iconst 0, 1, [], []) :: (.ireturn, 1, [3], []) :: []
def hgr227_1609 : List hgRow := (.iconst 0, 1, [], []) :: hgr227_1610
def hgr227_1565 : List hgRow := (.aload_n 0, 1, [], []) :: (.iload 4, 2, [], []) :: (.iconst 2, 1, [], []) :: (.iadd, 1, [], []) :: (.iaload, 1, [], []) :: (.aload_n 0, 1, [], []) :: (.iload 4, 2, [], []) :: (.iconst 3, 1, [], []) :: (.iadd, 1, [], []) :: (.iaload, 1, [], []) :: (.aload_n 0, 1, [], []) :: (.iload 4, 2, [], []) :: (.iconst 4, 1, [], []) :: (.iadd, 1, [], []) :: (.iaload, 1, [], []) :: (.aload_n 0, 1, [], []) :: (.iload 4, 2, [], []) :: (.iconst 5, 1, [], []) :: (.iadd, 1, [], []) :: (.iaload, 1, [], []) :: (.aload_n 3, 1, [], []) :: (.invokestatic 196, 3, [224, 7, 0, 1008, 2, 12, 99], []) :: (.istore 5, 2, [], []) :: (.aload_n 2, 1, [], []) :: (.aload_n 0, 1, [], []) :: (.iload 4, 2, [], []) :: (.iconst 1, 1, [], []) :: (.iadd, 1, [], []) :: (.iaload, 1, [], []) :: (.ifCond .eq 7, 3, [1609], []) :: (.iconst 1, 1, [], []) :: (.goto 4, 3, [1610], []) :: []
def hgr227_1564 : List hgRow := (.iconst 0, 1, [], []) :: hgr227_1565
def hgr227_1550 : List hgRow := (.aload_n 1, 1, [], []) :: (.aload_n 0, 1, [], []) :: (.iload 4, 2, [], []) :: (.iconst 1, 1, [], []) :: (.iadd, 1, [], []) :: (.iaload, 1, [], []) :: (.ifCond .eq 7, 3, [1564], []) :: (.iconst 1, 1, [], []) :: (.goto 4, 3, [1565], []) :: []
def hgr227_1547 : List hgRow := (.goto 274, 3, [1821], []) :: []
def hgr227_1530 : List hgRow := (.iload 5, 2, [], []) :: (.ifCond .ne 15, 3, [1547], []) :: (.aload_n 3, 1, [], []) :: (.iconst 0, 1, [], []) :: (.laload, 1, [], []) :: (.iload 6, 2, [], []) :: (.i2l, 1, [], []) :: (.lcmp, 1, [], []) :: (.ifCond .eq 5, 3, [1547], []) :: (.iconst 0, 1, [], []) :: (.ireturn, 1, [3], []) :: []
def hgr227_1482 : List hgRow := (.aload_n 1, 1, [], []) :: (.aload_n 0, 1, [], []) :: (.iload 4, 2, [], []) :: (.iconst 1, 1, [], []) :: (.iadd, 1, [], []) :: (.iaload, 1, [], []) :: (.aload_n 0, 1, [], []) :: (.iload 4, 2, [], []) :: (.iconst 2, 1, [], []) :: (.iadd, 1, [], []) :: (.iaload, 1, [], []) :: (.aload_n 3, 1, [], []) :: (.invokestatic 193, 3, [223, 4, 0, 1000, 2, 12, 99], []) :: (.istore 5, 2, [], []) :: (.aload_n 2, 1, [], []) :: (.aload_n 0, 1, [], []) :: (.iload 4, 2, [], []) :: (.iconst 1, 1, [], []) :: (.iadd, 1, [], []) :: (.iaload, 1, [], []) :: (.aload_n 0, 1, [], []) :: (.iload 4, 2, [], []) :: (.iconst 2, 1, [], []) :: (.iadd, 1, [], []) :: (.iaload, 1, [], []) :: (.invokevirtual 195, 3, [197, 3, 0, 1404, 0, 0, 8], []) :: (.istore 6, 2, [], []) :: (.aload_n 2, 1, [], []) :: (.invokevirtual 103, 3, [123, 1, 0, 1109, 0, 0, 8], []) :: (.iload 5, 2, [], []) :: (.if_icmp .eq 5, 3, [1530], []) :: (.iconst 0, 1, [], []) :: (.ireturn, 1, [3], []) :: []
def hgr227_1479 : List hgRow := (.goto 342, 3, [1821], []) :: []
def hgr227_1462 : List hgRow := (.iload 5, 2, [], []) :: (.ifCond .ne 15, 3, [1479], []) :: (.aload_n 3, 1, [], []) :: (.iconst 0, 1, [], []) :: (.laload, 1, [], []) :: (.iload 6, 2, [], []) :: (.i2l, 1, [], []) :: (.lcmp, 1, [], []) :: (.ifCond .eq 5, 3, [1479], []) :: (.iconst 0, 1, [], []) :: (.ireturn, 1, [3], []) :: []
def hgr227_1426 : List hgRow := (.aload_n 1, 1, [], []) :: (.aload_n 0, 1, [], []) :: (.iload 4, 2, [], []) :: (.iconst 1, 1, [], []) :: (.iadd, 1, [], []) :: (.iaload, 1, [], []) :: (.aload_n 3, 1, [], []) :: (.invokestatic 190, 3, [222, 3, 0, 991, 2, 12, 99], []) :: (.istore 5, 2, [], []) :: (.aload_n 2, 1, [], []) :: (.aload_n 0, 1, [], []) :: (.iload 4, 2, [], []) :: (.iconst 1, 1, [], []) :: (.iadd, 1, [], []) :: (.iaload, 1, [], []) :: (.invokevirtual 192, 3, [196, 2, 0, 1400, 0, 0, 8], []) :: (.istore 6, 2, [], []) :: (.aload_n 2, 1, [], []) :: (.invokevirtual 103, 3, [123, 1, 0, 1109, 0, 0, 8], []) :: (.iload 5, 2, [], []) :: (.if_icmp .eq 5, 3, [1462], []) :: (.iconst 0, 1, [], []) :: (.ireturn, 1, [3], []) :: []
def hgr227_1423 : List hgRow := (.goto 398, 3, [1821], []) :: []
def hgr227_1406 : List hgRow := (.iload 5, 2, [], []) :: (.ifCond .ne 15, 3, [1423], []) :: (.aload_n 3, 1, [], []) :: (.iconst 0, 1, [], []) :: (.laload, 1, [], []) :: (.iload 6, 2, [], []) :: (.i2l, 1, [], []) :: (.lcmp, 1, [], []) :: (.ifCond .eq 5, 3, [1423], []) :: (.iconst 0, 1, [], []) :: (.ireturn, 1, [3], []) :: []
def hgr227_1370 : List hgRow := (.aload_n 1, 1, [], []) :: (.aload_n 0, 1, [], []) :: (.iload 4, 2, [], []) :: (.iconst 1, 1, [], []) :: (.iadd, 1, [], []) :: (.iaload, 1, [], []) :: (.aload_n 3, 1, [], []) :: (.invokestatic 187, 3, [221, 3, 0, 983, 2, 12, 99], []) :: (.istore 5, 2, [], []) :: (.aload_n 2, 1, [], []) :: (.aload_n 0, 1, [], []) :: (.iload 4, 2, [], []) :: (.iconst 1, 1, [], []) :: (.iadd, 1, [], []) :: (.iaload, 1, [], []) :: (.invokevirtual 189, 3, [195, 2, 0, 1396, 0, 0, 8], []) :: (.istore 6, 2, [], []) :: (.aload_n 2, 1, [], []) :: (.invokevirtual 103, 3, [123, 1, 0, 1109, 0, 0, 8], []) :: (.iload 5, 2, [], []) :: (.if_icmp .eq 5, 3, [1406], []) :: (.iconst 0, 1, [], []) :: (.ireturn, 1, [3], []) :: []
def hgr227_1367 : List hgRow := (.goto 454, 3, [1821], []) :: []
def hgr227_1350 : List hgRow := (.iload 5, 2, [], []) :: (.ifCond .ne 15, 3, [1367], []) :: (.aload_n 3, 1, [], []) :: (.iconst 0, 1, [], []) :: (.laload, 1, [], []) :: (.iload 6, 2, [], []) :: (.i2l, 1, [], []) :: (.lcmp, 1, [], []) :: (.ifCond .eq 5, 3, [1367], []) :: (.iconst 0, 1, [], []) :: (.ireturn, 1, [3], []) :: []
def hgr227_1314 : List hgRow := (.aload_n 1, 1, [], []) :: (.aload_n 0, 1, [], []) :: (.iload 4, 2, [], []) :: (.iconst 1, 1, [], []) :: (.iadd, 1, [], []) :: (.iaload, 1, [], []) :: (.aload_n 3, 1, [], []) :: (.invokestatic 184, 3, [220, 3, 0, 952, 2, 12, 99], []) :: (.istore 5, 2, [], []) :: (.aload_n 2, 1, [], []) :: (.aload_n 0, 1, [], []) :: (.iload 4, 2, [], []) :: (.iconst 1, 1, [], []) :: (.iadd, 1, [], []) :: (.iaload, 1, [], []) :: (.invokevirtual 186, 3, [194, 2, 0, 1391, 0, 0, 8], []) :: (.istore 6, 2, [], []) :: (.aload_n 2, 1, [], []) :: (.invokevirtual 103, 3, [123, 1, 0, 1109, 0, 0, 8], []) :: (.iload 5, 2, [], []) :: (.if_icmp .eq 5, 3, [1350], []) :: (.iconst 0, 1, [], []) :: (.ireturn, 1, [3], []) :: []
def hgr227_1311 : List hgRow := (.goto 510, 3, [1821], []) :: []
def hgr227_1294 : List hgRow := (.iload 5, 2, [], []) :: (.ifCond .ne 15, 3, [1311], []) :: (.aload_n 3, 1, [], []) :: (.iconst 0, 1, [], []) :: (.laload, 1, [], []) :: (.iload 6, 2, [], []) :: (.i2l, 1, [], []) :: (.lcmp, 1, [], []) :: (.ifCond .eq 5, 3, [1311], []) :: (.iconst 0, 1, [], []) :: (.ireturn, 1, [3], []) :: []
def hgr227_1222 : List hgRow := (.aload_n 1, 1, [], []) :: (.aload_n 0, 1, [], []) :: (.iload 4, 2, [], []) :: (.iconst 1, 1, [], []) :: (.iadd, 1, [], []) :: (.iaload, 1, [], []) :: (.aload_n 0, 1, [], []) :: (.iload 4, 2, [], []) :: (.iconst 2, 1, [], []) :: (.iadd, 1, [], []) :: (.iaload, 1, [], []) :: (.aload_n 0, 1, [], []) :: (.iload 4, 2, [], []) :: (.iconst 3, 1, [], []) :: (.iadd, 1, [], []) :: (.iaload, 1, [], []) :: (.aload_n 0, 1, [], []) :: (.iload 4, 2, [], []) :: (.iconst 4, 1, [], []) :: (.iadd, 1, [], []) :: (.iaload, 1, [], []) :: (.aload_n 3, 1, [], []) :: (.invokestatic 180, 3, [219, 6, 0, 910, 4, 24, 99], []) :: (.istore 5, 2, [], []) :: (.aload_n 2, 1, [], []) :: (.aload_n 0, 1, [], []) :: (.iload 4, 2, [], []) :: (.iconst 1, 1, [], []) :: (.iadd, 1, [], []) :: (.iaload, 1, [], []) :: (.aload_n 0, 1, [], []) :: (.iload 4, 2, [], []) :: (.iconst 2, 1, [], []) :: (.iadd, 1, [], []) :: (.iaload, 1, [], []) :: (.aload_n 0, 1, [], []) :: (.iload 4, 2, [], []) :: (.iconst 3, 1, [], []) :: (.iadd, 1, [], []) :: (.iaload, 1, [], []) :: (.aload_n 0, 1, [], []) :: (.iload 4, 2, [], []) :: (.iconst 4, 1, [], []) :: (.iadd, 1, [], []) :: (.iaload, 1, [], []) :: (.invokevirtual 183, 3, [193, 5, 0, 1378, 0, 0, 8], []) :: (.istore 6, 2, [], []) :: (.aload_n 2, 1, [], []) :: (.invokevirtual 103, 3, [123, 1, 0, 1109, 0, 0, 8], []) :: (.iload 5, 2, [], []) :: (.if_icmp .eq 5, 3, [1294], []) :: (.iconst 0, 1, [], []) :: (.ireturn, 1, [3], []) :: []
def hgr227_1219 : List hgRow := (.goto 602, 3, [1821], []) :: []
def hgr227_1202 : List hgRow := (.iload 5, 2, [], []) :: (.ifCond .ne 15, 3, [1219], []) :: (.aload_n 3, 1, [], []) :: (.iconst 0, 1, [], []) :: (.laload, 1, [], []) :: (.iload 6, 2, [], []) :: (.i2l, 1, [], []) :: (.lcmp, 1, [], []) :: (.ifCond .eq 5, 3, [1219], []) :: (.iconst 0, 1, [], []) :: (.ireturn, 1, [3], []) :: []
def hgr227_1166 : List hgRow := (.aload_n 1, 1, [], []) :: (.aload_n 0, 1, [], []) :: (.iload 4, 2, [], []) :: (.iconst 1, 1, [], []) :: (.iadd, 1, [], []) :: (.iaload, 1, [], []) :: (.aload_n 3, 1, [], []) :: (.invokestatic 177, 3, [218, 3, 0, 849, 1, 6, 99], []) :: (.istore 5, 2, [], []) :: (.aload_n 2, 1, [], []) :: (.aload_n 0, 1, [], []) :: (.iload 4, 2, [], []) :: (.iconst 1, 1, [], []) :: (.iadd, 1, [], []) :: (.iaload, 1, [], []) :: (.invokevirtual 179, 3, [189, 2, 0, 1359, 0, 0, 8], []) :: (.istore 6, 2, [], []) :: (.aload_n 2, 1, [], []) :: (.invokevirtual 103, 3, [123, 1, 0, 1109, 0, 0, 8], []) :: (.iload 5, 2, [], []) :: (.if_icmp .eq 5, 3, [1202], []) :: (.iconst 0, 1, [], []) :: (.ireturn, 1, [3], []) :: []
def hgr227_1153 : List hgRow := (.aload_n 1, 1, [], []) :: (.invokevirtual 173, 3, [104, 1, 0, 351, 0, 0, 7], []) :: (.aload_n 2, 1, [], []) :: (.invokevirtual 176, 3, [187, 1, 0, 1354, 0, 0, 8], []) :: (.if_icmp .eq 660, 3, [1821], []) :: (.iconst 0, 1, [], []) :: (.ireturn, 1, [3], []) :: []
def hgr227_1150 : List hgRow := (.goto 671, 3, [1821], []) :: []
def hgr227_1133 : List hgRow := (.iload 5, 2, [], []) :: (.ifCond .ne 15, 3, [1150], []) :: (.aload_n 3, 1, [], []) :: (.iconst 0, 1, [], []) :: (.laload, 1, [], []) :: (.iload 6, 2, [], []) :: (.i2l, 1, [], []) :: (.lcmp, 1, [], []) :: (.ifCond .eq 5, 3, [1150], []) :: (.iconst 0, 1, [], []) :: (.ireturn, 1, [3], []) :: []
def hgr227_1085 : List hgRow := (.aload_n 1, 1, [], []) :: (.aload_n 0, 1, [], []) :: (.iload 4, 2, [], []) :: (.iconst 1, 1, [], []) :: (.iadd, 1, [], []) :: (.iaload, 1, [], []) :: (.aload_n 0, 1, [], []) :: (.iload 4, 2, [], []) :: (.iconst 2, 1, [], []) :: (.iadd, 1, [], []) :: (.iaload, 1, [], []) :: (.aload_n 3, 1, [], []) :: (.invokestatic 169, 3, [217, 4, 0, 833, 2, 12, 99], []) :: (.istore 5, 2, [], []) :: (.aload_n 2, 1, [], []) :: (.aload_n 0, 1, [], []) :: (.iload 4, 2, [], []) :: (.iconst 1, 1, [], []) :: (.iadd, 1, [], []) :: (.iaload, 1, [], []) :: (.aload_n 0, 1, [], []) :: (.iload 4, 2, [], []) :: (.iconst 2, 1, [], []) :: (.iadd, 1, [], []) :: (.iaload, 1, [], []) :: (.invokevirtual 172, 3, [186, 3, 0, 1350, 0, 0, 8], []) :: (.istore 6, 2, [], []) :: (.aload_n 2, 1, [], []) :: (.invokevirtual 103, 3, [123, 1, 0, 1109, 0, 0, 8], []) :: (.iload 5, 2, [], []) :: (.if_icmp .eq 5, 3, [1133], []) :: (.iconst 0, 1, [], []) :: (.ireturn, 1, [3], []) :: []
def hgr227_1082 : List hgRow := (.goto 739, 3, [1821], []) :: []
def hgr227_1076 : List hgRow := (.lcmp, 1, [], []) :: (.ifCond .eq 5, 3, [1082], []) :: (.iconst 0, 1, [], []) :: (.ireturn, 1, [3], []) :: []
def hgr227_1075 : List hgRow := (.lconst 0, 1, [], []) :: hgr227_1076
def hgr227_1058 : List hgRow := (.iload 5, 2, [], []) :: (.ifCond .ne 22, 3, [1082], []) :: (.aload_n 3, 1, [], []) :: (.iconst 0, 1, [], []) :: (.laload, 1, [], []) :: (.iload 6, 2, [], []) :: (.ifCond .eq 7, 3, [1075], []) :: (.lconst 1, 1, [], []) :: (.goto 4, 3, [1076], []) :: []
def hgr227_1022 : List hgRow := (.aload_n 1, 1, [], []) :: (.aload_n 0, 1, [], []) :: (.iload 4, 2, [], []) :: (.iconst 1, 1, [], []) :: (.iadd, 1, [], []) :: (.iaload, 1, [], []) :: (.aload_n 3, 1, [], []) :: (.invokestatic 166, 3, [216, 3, 0, 807, 1, 6, 99], []) :: (.istore 5, 2, [], []) :: (.aload_n 2, 1, [], []) :: (.aload_n 0, 1, [], []) :: (.iload 4, 2, [], []) :: (.iconst 1, 1, [], []) :: (.iadd, 1, [], []) :: (.iaload, 1, [], []) :: (.invokevirtual 168, 3, [185, 2, 0, 1342, 0, 0, 8], []) :: (.istore 6, 2, [], []) :: (.aload_n 2, 1, [], []) :: (.invokevirtual 103, 3, [123, 1, 0, 1109, 0, 0, 8], []) :: (.iload 5, 2, [], []) :: (.if_icmp .eq 5, 3, [1058], []) :: (.iconst 0, 1, [], []) :: (.ireturn, 1, [3], []) :: []
def hgr227_1019 : List hgRow := (.goto 802, 3, [1821], []) :: []
def hgr227_1002 : List hgRow := (.iload 5, 2, [], []) :: (.ifCond .ne 15, 3, [1019], []) :: (.aload_n 3, 1, [], []) :: (.iconst 0, 1, [], []) :: (.laload, 1, [], []) :: (.iload 6, 2, [], []) :: (.i2l, 1, [], []) :: (.lcmp, 1, [], []) :: (.ifCond .eq 5, 3, [1019], []) :: (.iconst 0, 1, [], []) :: (.ireturn, 1, [3], []) :: []
def hgr227_942 : List hgRow := (.aload_n 1, 1, [], []) :: (.aload_n 0, 1, [], []) :: (.iload 4, 2, [], []) :: (.iconst 1, 1, [], []) :: (.iadd, 1, [], []) :: (.iaload, 1, [], []) :: (.aload_n 0, 1, [], []) :: (.iload 4, 2, [], []) :: (.iconst 2, 1, [], []) :: (.iadd, 1, [], []) :: (.iaload, 1, [], []) :: (.aload_n 0, 1, [], []) :: (.iload 4, 2, [], []) :: (.iconst 3, 1, [], []) :: (.iadd, 1, [], []) :: (.iaload, 1, [], []) :: (.aload_n 3, 1, [], []) :: (.invokestatic 163, 3, [215, 5, 0, 798, 2, 12, 99], []) :: (.istore 5, 2, [], []) :: (.aload_n 2, 1, [], []) :: (.aload_n 0, 1, [], []) :: (.iload 4, 2, [], []) :: (.iconst 1, 1, [], []) :: (.iadd, 1, [], []) :: (.iaload, 1, [], []) :: (.aload_n 0, 1, [], []) :: (.iload 4, 2, [], []) :: (.iconst 2, 1, [], []) :: (.iadd, 1, [], []) :: (.iaload, 1, [], []) :: (.aload_n 0, 1, [], []) :: (.iload 4, 2, [], []) :: (.iconst 3, 1, [], []) :: (.iadd, 1, [], []) :: (.iaload, 1, [], []) :: (.invokevirtual 165, 3, [184, 4, 0, 1338, 0, 0, 8], []) :: (.istore 6, 2, [], []) :: (.aload_n 2, 1, [], []) :: (.invokevirtual 103, 3, [123, 1, 0, 1109, 0, 0, 8], []) :: (.iload 5, 2, [], []) :: (.if_icmp .eq 5, 3, [1002], []) :: (.iconst 0, 1, [], []) :: (.ireturn, 1, [3], []) :: []
def hgr227_939 : List hgRow := (.goto 882, 3, [1821], []) :: []
def hgr227_922 : List hgRow := (.iload 5, 2, [], []) :: (.ifCond .ne 15, 3, [939], []) :: (.aload_n 3, 1, [], []) :: (.iconst 0, 1, [], []) :: (.laload, 1, [], []) :: (.iload 6, 2, [], []) :: (.i2l, 1, [], []) :: (.lcmp, 1, [], []) :: (.ifCond .eq 5, 3, [939], []) :: (.iconst 0, 1, [], []) :: (.ireturn, 1, [3], []) :: []
def hgr227_862 : List hgRow := (.aload_n 1, 1, [], []) :: (.aload_n 0, 1, [], []) :: (.iload 4, 2, [], []) :: (.iconst 1, 1, [], []) :: (.iadd, 1, [], []) :: (.iaload, 1, [], []) :: (.aload_n 0, 1, [], []) :: (.iload 4, 2, [], []) :: (.iconst 2, 1, [], []) :: (.iadd, 1, [], []) :: (.iaload, 1, [], []) :: (.aload_n 0, 1, [], []) :: (.iload 4, 2, [], []) :: (.iconst 3, 1, [], []) :: (.iadd, 1, [], []) :: (.iaload, 1, [], []) :: (.aload_n 3, 1, [], []) :: (.invokestatic 159, 3, [214, 5, 0, 746, 3, 18, 99], []) :: (.istore 5, 2, [], []) :: (.aload_n 2, 1, [], []) :: (.aload_n 0, 1, [], []) :: (.iload 4, 2, [], []) :: (.iconst 1, 1, [], []) :: (.iadd, 1, [], []) :: (.iaload, 1, [], []) :: (.aload_n 0, 1, [], []) :: (.iload 4, 2, [], []) :: (.iconst 2, 1, [], []) :: (.iadd, 1, [], []) :: (.iaload, 1, [], []) :: (.aload_n 0, 1, [], []) :: (.iload 4, 2, [], []) :: (.iconst 3, 1, [], []) :: (.iadd, 1, [], []) :: (.iaload, 1, [], []) :: (.invokevirtual 162, 3, [183, 4, 0, 1311, 0, 0, 8], []) :: (.istore 6, 2, [], []) :: (.aload_n 2, 1, [], []) :: (.invokevirtual 103, 3, [123, 1, 0, 1109, 0, 0, 8], []) :: (.iload 5, 2, [], []) :: (.if_icmp .eq 5, 3, [922], []) :: (.iconst 0, 1, [], []) :: (.ireturn, 1, [3], []) :: []
def hgr227_859 : List hgRow := (.goto 962, 3, [1821], []) :: []
def hgr227_853 : List hgRow := (.lcmp, 1, [], []) :: (.ifCond .eq 5, 3, [859], []) :: (.iconst 0, 1, [], []) :: (.ireturn, 1, [3], []) :: []
def hgr227_852 : List hgRow := (.lconst 0, 1, [], []) :: hgr227_853
def hgr227_835 : List hgRow := (.iload 5, 2, [], []) :: (.ifCond .ne 22, 3, [859], []) :: (.aload_n 3, 1, [], []) :: (.iconst 0, 1, [], []) :: (.laload, 1, [], []) :: (.iload 6, 2, [], []) :: (.ifCond .eq 7, 3, [852], []) :: (.lconst 1, 1, [], []) :: (.goto 4, 3, [853], []) :: []
def hgr227_799 : List hgRow := (.aload_n 1, 1, [], []) :: (.aload_n 0, 1, [], []) :: (.iload 4, 2, [], []) :: (.iconst 1, 1, [], []) :: (.iadd, 1, [], []) :: (.iaload, 1, [], []) :: (.aload_n 3, 1, [], []) :: (.invokestatic 156, 3, [213, 3, 0, 734, 1, 6, 99], []) :: (.istore 5, 2, [], []) :: (.aload_n 2, 1, [], []) :: (.aload_n 0, 1, [], []) :: (.iload 4, 2, [], []) :: (.iconst 1, 1, [], []) :: (.iadd, 1, [], []) :: (.iaload, 1, [], []) :: (.invokevirtual 158, 3, [182, 2, 0, 1304, 0, 0, 8], []) :: (.istore 6, 2, [], []) :: (.aload_n 2, 1, [], []) :: (.invokevirtual 103, 3, [123, 1, 0, 1109, 0, 0, 8], []) :: (.iload 5, 2, [], []) :: (.if_icmp .eq 5, 3, [835], []) :: (.iconst 0, 1, [], []) :: (.ireturn, 1, [3], []) :: []
def hgr227_786 : List hgRow := (.aload_n 1, 1, [], []) :: (.invokevirtual 152, 3, [98, 1, 0, 347, 0, 0, 7], []) :: (.aload_n 2, 1, [], []) :: (.invokevirtual 155, 3, [181, 1, 0, 1300, 0, 0, 8], []) :: (.if_icmp .eq 1027, 3, [1821], []) :: (.iconst 0, 1, [], []) :: (.ireturn, 1, [3], []) :: []
def hgr227_773 : List hgRow := (.aload_n 1, 1, [], []) :: (.invokevirtual 148, 3, [97, 1, 0, 343, 0, 0, 7], []) :: (.aload_n 2, 1, [], []) :: (.invokevirtual 151, 3, [180, 1, 0, 1296, 0, 0, 8], []) :: (.if_icmp .eq 1040, 3, [1821], []) :: (.iconst 0, 1, [], []) :: (.ireturn, 1, [3], []) :: []
def hgr227_760 : List hgRow := (.aload_n 1, 1, [], []) :: (.invokevirtual 144, 3, [96, 1, 0, 339, 0, 0, 7], []) :: (.aload_n 2, 1, [], []) :: (.invokevirtual 147, 3, [179, 1, 0, 1292, 0, 0, 8], []) :: (.if_icmp .eq 1053, 3, [1821], []) :: (.iconst 0, 1, [], []) :: (.ireturn, 1, [3], []) :: []
def hgr227_757 : List hgRow := (.goto 1064, 3, [1821], []) :: []
def hgr227_740 : List hgRow := (.iload 5, 2, [], []) :: (.ifCond .ne 15, 3, [757], []) :: (.aload_n 3, 1, [], []) :: (.iconst 0, 1, [], []) :: (.laload, 1, [], []) :: (.iload 6, 2, [], []) :: (.i2l, 1, [], []) :: (.lcmp, 1, [], []) :: (.ifCond .eq 5, 3, [757], []) :: (.iconst 0, 1, [], []) :: (.ireturn, 1, [3], []) :: []
def hgr227_704 : List hgRow := (.aload_n 1, 1, [], []) :: (.aload_n 0, 1, [], []) :: (.iload 4, 2, [], []) :: (.iconst 1, 1, [], []) :: (.iadd, 1, [], []) :: (.iaload, 1, [], []) :: (.aload_n 3, 1, [], []) :: (.invokestatic 141, 3, [212, 3, 0, 727, 1, 6, 99], []) :: (.istore 5, 2, [], []) :: (.aload_n 2, 1, [], []) :: (.aload_n 0, 1, [], []) :: (.iload 4, 2, [], []) :: (.iconst 1, 1, [], []) :: (.iadd, 1, [], []) :: (.iaload, 1, [], []) :: (.invokevirtual 143, 3, [178, 2, 0, 1288, 0, 0, 8], []) :: (.istore 6, 2, [], []) :: (.aload_n 2, 1, [], []) :: (.invokevirtual 103, 3, [123, 1, 0, 1109, 0, 0, 8], []) :: (.iload 5, 2, [], []) :: (.if_icmp .eq 5, 3, [740], []) :: (.iconst 0, 1, [], []) :: (.ireturn, 1, [3], []) :: []
def hgr227_701 : List hgRow := (.goto 1120, 3, [1821], []) :: []
def hgr227_684 : List hgRow := (.iload 5, 2, [], []) :: (.ifCond .ne 15, 3, [701], []) :: (.aload_n 3, 1, [], []) :: (.iconst 0, 1, [], []) :: (.laload, 1, [], []) :: (.iload 6, 2, [], []) :: (.i2l, 1, [], []) :: (.lcmp, 1, [], []) :: (.ifCond .eq 5, 3, [701], []) :: (.iconst 0, 1, [], []) :: (.ireturn, 1, [3], []) :: []
def hgr227_648 : List hgRow := (.aload_n 1, 1, [], []) :: (.aload_n 0, 1, [], []) :: (.iload 4, 2, [], []) :: (.iconst 1, 1, [], []) :: (.iadd, 1, [], []) :: (.iaload, 1, [], []) :: (.aload_n 3, 1, [], []) :: (.invokestatic 138, 3, [211, 3, 0, 720, 1, 6, 99], []) :: (.istore 5, 2, [], []) :: (.aload_n 2, 1, [], []) :: (.aload_n 0, 1, [], []) :: (.iload 4, 2, [], []) :: (.iconst 1, 1, [], []) :: (.iadd, 1, [], []) :: (.iaload, 1, [], []) :: (.invokevirtual 140, 3, [177, 2, 0, 1284, 0, 0, 8], []) :: (.istore 6, 2, [], []) :: (.aload_n 2, 1, [], []) :: (.invokevirtual 103, 3, [123, 1, 0, 1109, 0, 0, 8], []) :: (.iload 5, 2, [], []) :: (.if_icmp .eq 5, 3, [684], []) :: (.iconst 0, 1, [], []) :: (.ireturn, 1, [3], []) :: []
def hgr227_645 : List hgRow := (.goto 1176, 3, [1821], []) :: []
def hgr227_629 : List hgRow := (.iload 5, 2, [], []) :: (.ifCond .ne 14, 3, [645], []) :: (.aload_n 3, 1, [], []) :: (.iconst 0, 1, [], []) :: (.laload, 1, [], []) :: (.lload 6, 2, [], []) :: (.lcmp, 1, [], []) :: (.ifCond .eq 5, 3, [645], []) :: (.iconst 0, 1, [], []) :: (.ireturn, 1, [3], []) :: []
def hgr227_593 : List hgRow := (.aload_n 1, 1, [], []) :: (.aload_n 0, 1, [], []) :: (.iload 4, 2, [], []) :: (.iconst 1, 1, [], []) :: (.iadd, 1, [], []) :: (.iaload, 1, [], []) :: (.aload_n 3, 1, [], []) :: (.invokestatic 135, 3, [210, 3, 0, 713, 1, 6, 99], []) :: (.istore 5, 2, [], []) :: (.aload_n 2, 1, [], []) :: (.aload_n 0, 1, [], []) :: (.iload 4, 2, [], []) :: (.iconst 1, 1, [], []) :: (.iadd, 1, [], []) :: (.iaload, 1, [], []) :: (.invokevirtual 137, 3, [176, 2, 0, 1280, 0, 0, 8], []) :: (.lstore 6, 2, [], []) :: (.aload_n 2, 1, [], []) :: (.invokevirtual 103, 3, [123, 1, 0, 1109, 0, 0, 8], []) :: (.iload 5, 2, [], []) :: (.if_icmp .eq 5, 3, [629], []) :: (.iconst 0, 1, [], []) :: (.ireturn, 1, [3], []) :: []
def hgr227_590 : List hgRow := (.goto 1231, 3, [1821], []) :: []
def hgr227_573 : List hgRow := (.iload 5, 2, [], []) :: (.ifCond .ne 15, 3, [590], []) :: (.aload_n 3, 1, [], []) :: (.iconst 0, 1, [], []) :: (.laload, 1, [], []) :: (.iload 6, 2, [], []) :: (.i2l, 1, [], []) :: (.lcmp, 1, [], []) :: (.ifCond .eq 5, 3, [590], []) :: (.iconst 0, 1, [], []) :: (.ireturn, 1, [3], []) :: []
def hgr227_537 : List hgRow := (.aload_n 1, 1, [], []) :: (.aload_n 0, 1, [], []) :: (.iload 4, 2, [], []) :: (.iconst 1, 1, [], []) :: (.iadd, 1, [], []) :: (.iaload, 1, [], []) :: (.aload_n 3, 1, [], []) :: (.invokestatic 132, 3, [209, 3, 0, 706, 1, 6, 99], []) :: (.istore 5, 2, [], []) :: (.aload_n 2, 1, [], []) :: (.aload_n 0, 1, [], []) :: (.iload 4, 2, [], []) :: (.iconst 1, 1, [], []) :: (.iadd, 1, [], []) :: (.iaload, 1, [], []) :: (.invokevirtual 134, 3, [175, 2, 0, 1272, 0, 0, 8], []) :: (.istore 6, 2, [], []) :: (.aload_n 2, 1, [], []) :: (.invokevirtual 103, 3, [123, 1, 0, 1109, 0, 0, 8], []) :: (.iload 5, 2, [], []) :: (.if_icmp .eq 5, 3, [573], []) :: (.iconst 0, 1, [], []) :: (.ireturn, 1, [3], []) :: []
def hgr227_534 : List hgRow := (.goto 1287, 3, [1821], []) :: []
def hgr227_517 : List hgRow := (.iload 5, 2, [], []) :: (.ifCond .ne 15, 3, [534], []) :: (.aload_n 3, 1, [], []) :: (.iconst 0, 1, [], []) :: (.laload, 1, [], []) :: (.iload 6, 2, [], []) :: (.i2l, 1, [], []) :: (.lcmp, 1, [], []) :: (.ifCond .eq 5, 3, [534], []) :: (.iconst 0, 1, [], []) :: (.ireturn, 1, [3], []) :: []
def hgr227_481 : List hgRow := (.aload_n 1, 1, [], []) :: (.aload_n 0, 1, [], []) :: (.iload 4, 2, [], []) :: (.iconst 1, 1, [], []) :: (.iadd, 1, [], []) :: (.iaload, 1, [], []) :: (.aload_n 3, 1, [], []) :: (.invokestatic 129, 3, [208, 3, 0, 699, 1, 6, 99], []) :: (.istore 5, 2, [], []) :: (.aload_n 2, 1, [], []) :: (.aload_n 0, 1, [], []) :: (.iload 4, 2, [], []) :: (.iconst 1, 1, [], []) :: (.iadd, 1, [], []) :: (.iaload, 1, [], []) :: (.invokevirtual 131, 3, [173, 2, 0, 1268, 0, 0, 8], []) :: (.istore 6, 2, [], []) :: (.aload_n 2, 1, [], []) :: (.invokevirtual 103, 3, [123, 1, 0, 1109, 0, 0, 8], []) :: (.iload 5, 2, [], []) :: (.if_icmp .eq 5, 3, [517], []) :: (.iconst 0, 1, [], []) :: (.ireturn, 1, [3], []) :: []
def hgr227_478 : List hgRow := (.goto 1343, 3, [1821], []) :: []
def hgr227_461 : List hgRow := (.iload 5, 2, [], []) :: (.ifCond .ne 15, 3, [478], []) :: (.aload_n 3, 1, [], []) :: (.iconst 0, 1, [], []) :: (.laload, 1, [], []) :: (.iload 6, 2, [], []) :: (.i2l, 1, [], []) :: (.lcmp, 1, [], []) :: (.ifCond .eq 5, 3, [478], []) :: (.iconst 0, 1, [], []) :: (.ireturn, 1, [3], []) :: []
def hgr227_425 : List hgRow := (.aload_n 1, 1, [], []) :: (.aload_n 0, 1, [], []) :: (.iload 4, 2, [], []) :: (.iconst 1, 1, [], []) :: (.iadd, 1, [], []) :: (.iaload, 1, [], []) :: (.aload_n 3, 1, [], []) :: (.invokestatic 126, 3, [207, 3, 0, 692, 1, 6, 99], []) :: (.istore 5, 2, [], []) :: (.aload_n 2, 1, [], []) :: (.aload_n 0, 1, [], []) :: (.iload 4, 2, [], []) :: (.iconst 1, 1, [], []) :: (.iadd, 1, [], []) :: (.iaload, 1, [], []) :: (.invokevirtual 128, 3, [172, 2, 0, 1264, 0, 0, 8], []) :: (.istore 6, 2, [], []) :: (.aload_n 2, 1, [], []) :: (.invokevirtual 103, 3, [123, 1, 0, 1109, 0, 0, 8], []) :: (.iload 5, 2, [], []) :: (.if_icmp .eq 5, 3, [461], []) :: (.iconst 0, 1, [], []) :: (.ireturn, 1, [3], []) :: []
def hgr227_422 : List hgRow := (.goto 1399, 3, [1821], []) :: []
def hgr227_405 : List hgRow := (.iload 5, 2, [], []) :: (.ifCond .ne 15, 3, [422], []) :: (.aload_n 3, 1, [], []) :: (.iconst 0, 1, [], []) :: (.laload, 1, [], []) :: (.iload 6, 2, [], []) :: (.i2l, 1, [], []) :: (.lcmp, 1, [], []) :: (.ifCond .eq 5, 3, [422], []) :: (.iconst 0, 1, [], []) :: (.ireturn, 1, [3], []) :: []
def hgr227_369 : List hgRow := (.aload_n 1, 1, [], []) :: (.aload_n 0, 1, [], []) :: (.iload 4, 2, [], []) :: (.iconst 1, 1, [], []) :: (.iadd, 1, [], []) :: (.iaload, 1, [], []) :: (.aload_n 3, 1, [], []) :: (.invokestatic 123, 3, [206, 3, 0, 664, 1, 6, 99], []) :: (.istore 5, 2, [], []) :: (.aload_n 2, 1, [], []) :: (.aload_n 0, 1, [], []) :: (.iload 4, 2, [], []) :: (.iconst 1, 1, [], []) :: (.iadd, 1, [], []) :: (.iaload, 1, [], []) :: (.invokevirtual 125, 3, [171, 2, 0, 1256, 0, 0, 8], []) :: (.istore 6, 2, [], []) :: (.aload_n 2, 1, [], []) :: (.invokevirtual 103, 3, [123, 1, 0, 1109, 0, 0, 8], []) :: (.iload 5, 2, [], []) :: (.if_icmp .eq 5, 3, [405], []) :: (.iconst 0, 1, [], []) :: (.ireturn, 1, [3], []) :: []
def hgr227_356 : List hgRow := (.aload_n 1, 1, [], []) :: (.invokevirtual 119, 3, [88, 1, 0, 335, 0, 0, 7], []) :: (.aload_n 2, 1, [], []) :: (.invokevirtual 122, 3, [170, 1, 0, 1252, 0, 0, 8], []) :: (.if_icmp .eq 1457, 3, [1821], []) :: (.iconst 0, 1, [], []) :: (.ireturn, 1, [3], []) :: []
def hgr227_343 : List hgRow := (.aload_n 1, 1, [], []) :: (.invokevirtual 115, 3, [87, 1, 0, 331, 0, 0, 7], []) :: (.aload_n 2, 1, [], []) :: (.invokevirtual 118, 3, [169, 1, 0, 1248, 0, 0, 8], []) :: (.if_icmp .eq 1470, 3, [1821], []) :: (.iconst 0, 1, [], []) :: (.ireturn, 1, [3], []) :: []
def hgr227_330 : List hgRow := (.aload_n 1, 1, [], []) :: (.invokevirtual 111, 3, [86, 1, 0, 327, 0, 0, 7], []) :: (.aload_n 2, 1, [], []) :: (.invokevirtual 114, 3, [168, 1, 0, 1244, 0, 0, 8], []) :: (.if_icmp .eq 1483, 3, [1821], []) :: (.iconst 0, 1, [], []) :: (.ireturn, 1, [3], []) :: []
def hgr227_317 : List hgRow := (.aload_n 1, 1, [], []) :: (.invokevirtual 107, 3, [85, 1, 0, 323, 0, 0, 7], []) :: (.aload_n 2, 1, [], []) :: (.invokevirtual 110, 3, [155, 1, 0, 1240, 0, 0, 8], []) :: (.if_icmp .eq 1496, 3, [1821], []) :: (.iconst 0, 1, [], []) :: (.ireturn, 1, [3], []) :: []
def hgr227_314 : List hgRow := (.goto 1507, 3, [1821], []) :: []
def hgr227_297 : List hgRow := (.iload 5, 2, [], []) :: (.ifCond .ne 15, 3, [314], []) :: (.aload_n 3, 1, [], []) :: (.iconst 0, 1, [], []) :: (.laload, 1, [], []) :: (.iload 6, 2, [], []) :: (.i2l, 1, [], []) :: (.lcmp, 1, [], []) :: (.ifCond .eq 5, 3, [314], []) :: (.iconst 0, 1, [], []) :: (.ireturn, 1, [3], []) :: []
def hgr227_261 : List hgRow := (.aload_n 1, 1, [], []) :: (.aload_n 0, 1, [], []) :: (.iload 4, 2, [], []) :: (.iconst 1, 1, [], []) :: (.iadd, 1, [], []) :: (.iaload, 1, [], []) :: (.aload_n 3, 1, [], []) :: (.invokestatic 97, 3, [205, 3, 0, 402, 1, 6, 99], []) :: (.istore 5, 2, [], []) :: (.aload_n 2, 1, [], []) :: (.aload_n 0, 1, [], []) :: (.iload 4, 2, [], []) :: (.iconst 1, 1, [], []) :: (.iadd, 1, [], []) :: (.iaload, 1, [], []) :: (.invokevirtual 102, 3, [154, 2, 0, 1117, 0, 0, 8], []) :: (.istore 6, 2, [], []) :: (.aload_n 2, 1, [], []) :: (.invokevirtual 103, 3, [123, 1, 0, 1109, 0, 0, 8], []) :: (.iload 5, 2, [], []) :: (.if_icmp .eq 5, 3, [297], []) :: (.iconst 0, 1, [], []) :: (.ireturn, 1, [3], []) :: []
def hgr227_188 : List hgRow := (.aload_n 1, 1, [], []) :: (.aload_n 0, 1, [], []) :: (.iload 4, 2, [], []) :: (.iconst 1, 1, [], []) :: (.iadd, 1, [], []) :: (.iaload, 1, [], []) :: (.aload_n 0, 1, [], []) :: (.iload 4, 2, [], []) :: (.iconst 2, 1, [], []) :: (.iadd, 1, [], []) :: (.iaload, 1, [], []) :: (.aload_n 0, 1, [], []) :: (.iload 4, 2, [], []) :: (.iconst 3, 1, [], []) :: (.iadd, 1, [], []) :: (.iaload, 1, [], []) :: (.aload_n 0, 1, [], []) :: (.iload 4, 2, [], []) :: (.iconst 4, 1, [], []) :: (.iadd, 1, [], []) :: (.iaload, 1, [], []) :: (.aload_n 0, 1, [], []) :: (.iload 4, 2, [], []) :: (.iconst 5, 1, [], []) :: (.iadd, 1, [], []) :: (.iaload, 1, [], []) :: (.invokevirtual 92, 3, [83, 6, 0, 315, 0, 0, 7], []) :: (.aload_n 2, 1, [], []) :: (.aload_n 0, 1, [], []) :: (.iload 4, 2, [], []) :: (.iconst 1, 1, [], []) :: (.iadd, 1, [], []) :: (.iaload, 1, [], []) :: (.aload_n 0, 1, [], []) :: (.iload 4, 2, [], []) :: (.iconst 2, 1, [], []) :: (.iadd, 1, [], []) :: (.iaload, 1, [], []) :: (.aload_n 0, 1, [], []) :: (.iload 4, 2, [], []) :: (.iconst 3, 1, [], []) :: (.iadd, 1, [], []) :: (.iaload, 1, [], []) :: (.aload_n 0, 1, [], []) :: (.iload 4, 2, [], []) :: (.iconst 4, 1, [], []) :: (.iadd, 1, [], []) :: (.iaload, 1, [], []) :: (.aload_n 0, 1, [], []) :: (.iload 4, 2, [], []) :: (.iconst 5, 1, [], []) :: (.iadd, 1, [], []) :: (.iaload, 1, [], []) :: (.invokevirtual 96, 3, [134, 6, 0, 1113, 0, 0, 8], []) :: (.if_icmp .eq 1565, 3, [1821], []) :: (.iconst 0, 1, [], []) :: (.ireturn, 1, [3], []) :: []
def hgr227_23 : List hgRow := (.iload 4, 2, [], []) :: (.aload_n 0, 1, [], []) :: (.arraylength, 1, [], []) :: (.bipush 6, 2, [], []) :: (.isub, 1, [], []) :: (.if_icmp .gt 1797, 3, [1827], []) :: (.aload_n 0, 1, [], []) :: (.iload 4, 2, [], []) :: (.iaload, 1, [], []) :: (.bipush 63, 2, [], []) :: (.iand, 1, [], []) :: (.tableswitch 1781 0 32 #[148, 221, 277, 290, 303, 316, 329, 385, 441, 497, 553, 608, 664, 720, 733, 746, 759, 822, 902, 982, 1045, 1113, 1126, 1182, 1274, 1330, 1386, 1442, 1510, 1630, 1686, 1754, 1767], 148, [1821], [(188, 0, 0), (261, 0, 0), (317, 0, 0), (330, 0, 0), (343, 0, 0), (356, 0, 0), (369, 0, 0), (425, 0, 0), (481, 0, 0), (537, 0, 0), (593, 0, 0), (648, 0, 0), (704, 0, 0), (760, 0, 0), (773, 0, 0), (786, 0, 0), (799, 0, 0), (862, 0, 0), (942, 0, 0), (1022, 0, 0), (1085, 0, 0), (1153, 0, 0), (1166, 0, 0), (1222, 0, 0), (1314, 0, 0), (1370, 0, 0), (1426, 0, 0), (1482, 0, 0), (1550, 0, 0), (1670, 0, 0), (1726, 0, 0), (1794, 0, 0), (1807, 0, 0)]) :: []
def hgr227_0 : List hgRow := (.new 8, 3, [1, 7, 7, 21], []) :: (.dup, 1, [], []) :: (.invokespecial 88, 3, [82, 1, 1, 23, 299, 5105, 7], []) :: (.astore_n 1, 1, [], []) :: (.new 89, 3, [1, 8, 18, 1043], []) :: (.dup, 1, [], []) :: (.invokespecial 91, 3, [122, 1, 1, 1045, 24, 223073, 8], []) :: (.astore_n 2, 1, [], []) :: (.iconst 1, 1, [], []) :: (.newarray .long, 2, [21], []) :: (.astore_n 3, 1, [], []) :: (.iconst 0, 1, [], []) :: (.istore 4, 2, [], []) :: hgr227_23
def hgb227 : List (Nat × List Bool × List hgRow) := [(0, [true, false, false, false, false, false, false, false], hgr227_0), (23, [true, true, true, true, true, false, false, false], hgr227_23), (188, [true, true, true, true, true, false, false, false], hgr227_188), (261, [true, true, true, true, true, false, false, false], hgr227_261), (297, [true, true, true, true, true, true, true, false], hgr227_297), (314, [true, true, true, true, true, false, false, false], hgr227_314), (317, [true, true, true, true, true, false, false, false], hgr227_317), (330, [true, true, true, true, true, false, false, false], hgr227_330), (343, [true, true, true, true, true, false, false, false], hgr227_343), (356, [true, true, true, true, true, false, false, false], hgr227_356), (369, [true, true, true, true, true, false, false, false], hgr227_369), (405, [true, true, true, true, true, true, true, false], hgr227_405), (422, [true, true, true, true, true, false, false, false], hgr227_422), (425, [true, true, true, true, true, false, false, false], hgr227_425), (461, [true, true, true, true, true, true, true, false], hgr227_461), (478, [true, true, true, true, true, false, false, false], hgr227_478), (481, [true, true, true, true, true, false, false, false], hgr227_481), (517, [true, true, true, true, true, true, true, false], hgr227_517), (534, [true, true, true, true, true, false, false, false], hgr227_534), (537, [true, true, true, true, true, false, false, false], hgr227_537), (573, [true, true, true, true, true, true, true, false], hgr227_573), (590, [true, true, true, true, true, false, false, false], hgr227_590), (593, [true, true, true, true, true, false, false, false], hgr227_593), (629, [true, true, true, true, true, true, true, false], hgr227_629), (645, [true, true, true, true, true, false, false, false], hgr227_645), (648, [true, true, true, true, true, false, false, false], hgr227_648), (684, [true, true, true, true, true, true, true, false], hgr227_684), (701, [true, true, true, true, true, false, false, false], hgr227_701), (704, [true, true, true, true, true, false, false, false], hgr227_704), (740, [true, true, true, true, true, true, true, false], hgr227_740), (757, [true, true, true, true, true, false, false, false], hgr227_757), (760, [true, true, true, true, true, false, false, false], hgr227_760), (773, [true, true, true, true, true, false, false, false], hgr227_773), (786, [true, true, true, true, true, false, false, false], hgr227_786), (799, [true, true, true, true, true, false, false, false], hgr227_799), (835, [true, true, true, true, true, true, true, false], hgr227_835), (852, [true, true, true, true, true, false, false, false], hgr227_852), (853, [true, true, true, true, true, false, false, false], hgr227_853), (859, [true, true, true, true, true, false, false, false], hgr227_859), (862, [true, true, true, true, true, false, false, false], hgr227_862), (922, [true, true, true, true, true, true, true, false], hgr227_922), (939, [true, true, true, true, true, false, false, false], hgr227_939), (942, [true, true, true, true, true, false, false, false], hgr227_942), (1002, [true, true, true, true, true, true, true, false], hgr227_1002), (1019, [true, true, true, true, true, false, false, false], hgr227_1019), (1022, [true, true, true, true, true, false, false, false], hgr227_1022), (1058, [true, true, true, true, true, true, true, false], hgr227_1058), (1075, [true, true, true, true, true, false, false, false], hgr227_1075), (1076, [true, true, true, true, true, false, false, false], hgr227_1076), (1082, [true, true, true, true, true, false, false, false], hgr227_1082), (1085, [true, true, true, true, true, false, false, false], hgr227_1085), (1133, [true, true, true, true, true, true, true, false], hgr227_1133), (1150, [true, true, true, true, true, false, false, false], hgr227_1150), (1153, [true, true, true, true, true, false, false, false], hgr227_1153), (1166, [true, true, true, true, true, false, false, false], hgr227_1166), (1202, [true, true, true, true, true, true, true, false], hgr227_1202), (1219, [true, true, true, true, true, false, false, false], hgr227_1219), (1222, [true, true, true, true, true, false, false, false], hgr227_1222), (1294, [true, true, true, true, true, true, true, false], hgr227_1294), (1311, [true, true, true, true, true, false, false, false], hgr227_1311), (1314, [true, true, true, true, true, false, false, false], hgr227_1314), (1350, [true, true, true, true, true, true, true, false], hgr227_1350), (1367, [true, true, true, true, true, false, false, false], hgr227_1367), (1370, [true, true, true, true, true, false, false, false], hgr227_1370), (1406, [true, true, true, true, true, true, true, false], hgr227_1406), (1423, [true, true, true, true, true, false, false, false], hgr227_1423), (1426, [true, true, true, true, true, false, false, false], hgr227_1426), (1462, [true, true, true, true, true, true, true, false], hgr227_1462), (1479, [true, true, true, true, true, false, false, false], hgr227_1479), (1482, [true, true, true, true, true, false, false, false], hgr227_1482), (1530, [true, true, true, true, true, true, true, false], hgr227_1530), (1547, [true, true, true, true, true, false, false, false], hgr227_1547), (1550, [true, true, true, true, true, false, false, false], hgr227_1550), (1564, [true, true, true, true, true, false, false, false], hgr227_1564), (1565, [true, true, true, true, true, false, false, false], hgr227_1565), (1609, [true, true, true, true, true, true, false, false], hgr227_1609), (1610, [true, true, true, true, true, true, false, false], hgr227_1610), (1650, [true, true, true, true, true, true, true, false], hgr227_1650), (1667, [true, true, true, true, true, false, false, false], hgr227_1667), (1670, [true, true, true, true, true, false, false, false], hgr227_1670), (1706, [true, true, true, true, true, true, true, false], hgr227_1706), (1723, [true, true, true, true, true, false, false, false], hgr227_1723), (1726, [true, true, true, true, true, false, false, false], hgr227_1726), (1774, [true, true, true, true, true, true, true, false], hgr227_1774), (1791, [true, true, true, true, true, false, false, false], hgr227_1791), (1794, [true, true, true, true, true, false, false, false], hgr227_1794), (1807, [true, true, true, true, true, false, false, false], hgr227_1807), (1821, [true, true, true, true, true, false, false, false], hgr227_1821), (1827, [false, false, false, false, false, false, false, false], hgr227_1827)]
def hgBs (m : Nat) : List (Nat × List Bool × List hgRow) := (if m < 114 then (if m < 57 then (if m < 28 then (if m < 14 then (if m < 7 then (if m < 3 then (if m < 1 then hgb0 else (if m < 2 then hgb1 else hgb2)) else (if m < 5 then (if m < 4 then hgb3 else hgb4) else (if m < 6 then hgb5 else hgb6))) else (if m < 10 then (if m < 8 then hgb7 else (if m < 9 then hgb8 else hgb9)) else (if m < 12 then (if m < 11 then hgb10 else hgb11) else (if m < 13 then hgb12 else hgb13)))) else (if m < 21 then (if m < 17 then (if m < 15 then hgb14 else (if m < 16 then hgb15 else hgb16)) else (if m < 19 then (if m < 18 then hgb17 else hgb18) else (if m < 20 then hgb19 else hgb20))) else (if m < 24 then (if m < 22 then hgb21 else (if m < 23 then hgb22 else hgb23)) else (if m < 26 then (if m < 25 then hgb24 else hgb25) else (if m < 27 then hgb26 else hgb27))))) else (if m < 42 then (if m < 35 then (if m < 31 then (if m < 29 then hgb28 else (if m < 30 then hgb29 else hgb30)) else (if m < 33 then (if m < 32 then hgb31 else hgb32) else (if m < 34 then hgb33 else hgb34))) else (if m < 38 then (if m < 36 then hgb35 else (if m < 37 then hgb36 else hgb37)) else (if m < 40 then (if m < 39 then hgb38 else hgb39) else (if m < 41 then hgb40 else hgb41)))) else (if m < 49 then (if m < 45 then (if m < 43 then hgb42 else (if m < 44 then hgb43 else hgb44)) else (if m < 47 then (if m < 46 then hgb45 else hgb46) else (if m < 48 then hgb47 else hgb48))) else (if m < 53 then (if m < 51 then (if m < 50 then hgb49 else hgb50) else (if m < 52 then hgb51 else hgb52)) else (if m < 55 then (if m < 54 then hgb53 else hgb54) else (if m < 56 then hgb55 else hgb56)))))) else (if m < 85 then (if m < 71 then (if m < 64 then (if m < 60 then (if m < 58 then hgb57 else (if m < 59 then hgb58 else hgb59)) else (if m < 62 then (if m < 61 then hgb60 else hgb61) else (if m < 63 then hgb62 else hgb63))) else (if m < 67 then (if m < 65 then hgb64 else (if m < 66 then hgb65 else hgb66)) else (if m < 69 then (if m < 68 then hgb67 else hgb68) else (if m < 70 then hgb69 else hgb70)))) else (if m < 78 then (if m < 74 then (if m < 72 then hgb71 else (if m < 73 then hgb72 else hgb73)) else (if m < 76 then (if m < 75 then hgb74 else hgb75) else (if m < 77 then hgb76 else hgb77))) else (if m < 81 then (if m < 79 then hgb78 else (if m < 80 then hgb79 else hgb80)) else (if m < 83 then (if m < 82 then hgb81 else hgb82) else (if m < 84 then hgb83 else hgb84))))) else (if m < 99 then (if m < 92 then (if m < 88 then (if m < 86 then hgb85 else (if m < 87 then hgb86 else hgb87)) else (if m < 90 then (if m < 89 then hgb88 else hgb89) else (if m < 91 then hgb90 else hgb91))) else (if m < 95 then (if m < 93 then hgb92 else (if m < 94 then hgb93 else hgb94)) else (if m < 97 then (if m < 96 then hgb95 else hgb96) else (if m < 98 then hgb97 else hgb98)))) else (if m < 106 then (if m < 102 then (if m < 100 then hgb99 else (if m < 101 then hgb100 else hgb101)) else (if m < 104 then (if m < 103 then hgb102 else hgb103) else (if m < 105 then hgb104 else hgb105))) else (if m < 110 then (if m < 108 then (if m < 107 then hgb106 else hgb107) else (if m < 109 then hgb108 else hgb109)) else (if m < 112 then (if m < 111 then hgb110 else hgb111) else (if m < 113 then hgb112 else hgb113))))))) else (if m < 171 then (if m < 142 then (if m < 128 then (if m < 121 then (if m < 117 then (if m < 115 then hgb114 else (if m < 116 then hgb115 else hgb116)) else (if m < 119 then (if m < 118 then hgb117 else hgb118) else (if m < 120 then hgb119 else hgb120))) else (if m < 124 then (if m < 122 then hgb121 else (if m < 123 then hgb122 else hgb123)) else (if m < 126 then (if m < 125 then hgb124 else hgb125) else (if m < 127 then hgb126 else hgb127)))) else (if m < 135 then (if m < 131 then (if m < 129 then hgb128 else (if m < 130 then hgb129 else hgb130)) else (if m < 133 then (if m < 132 then hgb131 else hgb132) else (if m < 134 then hgb133 else hgb134))) else (if m < 138 then (if m < 136 then hgb135 else (if m < 137 then hgb136 else hgb137)) else (if m < 140 then (if m < 139 then hgb138 else hgb139) else (if m < 141 then hgb140 else hgb141))))) else (if m < 156 then (if m < 149 then (if m < 145 then (if m < 143 then hgb142 else (if m < 144 then hgb143 else hgb144)) else (if m < 147 then (if m < 146 then hgb145 else hgb146) else (if m < 148 then hgb147 else hgb148))) else (if m < 152 then (if m < 150 then hgb149 else (if m < 151 then hgb150 else hgb151)) else (if m < 154 then (if m < 153 then hgb152 else hgb153) else (if m < 155 then hgb154 else hgb155)))) else (if m < 163 then (if m < 159 then (if m < 157 then hgb156 else (if m < 158 then hgb157 else hgb158)) else (if m < 161 then (if m < 160 then hgb159 else hgb160) else (if m < 162 then hgb161 else hgb162))) else (if m < 167 then (if m < 165 then (if m < 164 then hgb163 else hgb164) else (if m < 166 then hgb165 else hgb166)) else (if m < 169 then (if m < 168 then hgb167 else hgb168) else (if m < 170 then hgb169 else hgb170)))))) else (if m < 199 then (if m < 185 then (if m < 178 then (if m < 174 then (if m < 172 then hgb171 else (if m < 173 then hgb172 else hgb173)) else (if m < 176 then (if m < 175 then hgb174 else hgb175) else (if m < 177 then hgb176 else hgb177))) else (if m < 181 then (if m < 179 then hgb178 else (if m < 180 then hgb179 else hgb180)) else (if m < 183 then (if m < 182 then hgb181 else hgb182) else (if m < 184 then hgb183 else hgb184)))) else (if m < 192 then (if m < 188 then (if m < 186 then hgb185 else (if m < 187 then hgb186 else hgb187)) else (if m < 190 then (if m < 189 then hgb188 else hgb189) else (if m < 191 then hgb190 else hgb191))) else (if m < 195 then (if m < 193 then hgb192 else (if m < 194 then hgb193 else hgb194)) else (if m < 197 then (if m < 196 then hgb195 else hgb196) else (if m < 198 then hgb197 else hgb198))))) else (if m < 213 then (if m < 206 then (if m < 202 then (if m < 200 then hgb199 else (if m < 201 then hgb200 else hgb201)) else (if m < 204 then (if m < 203 then hgb202 else hgb203) else (if m < 205 then hgb204 else hgb205))) else (if m < 209 then (if m < 207 then hgb206 else (if m < 208 then hgb207 else hgb208)) else (if m < 211 then (if m < 210 then hgb209 else hgb210) else (if m < 212 then hgb211 else hgb212)))) else (if m < 220 then (if m < 216 then (if m < 214 then hgb213 else (if m < 215 then hgb214 else hgb215)) else (if m < 218 then (if m < 217 then hgb216 else hgb217) else (if m < 219 then hgb218 else hgb219))) else (if m < 224 then (if m < 222 then (if m < 221 then hgb220 else hgb221) else (if m < 223 then hgb222 else hgb223)) else (if m < 226 then (if m < 225 then hgb224 else hgb225) else (if m < 227 then hgb226 else hgb227))))))))
def hgMl (m : Nat) : Nat := (if m < 114 then (if m < 57 then (if m < 28 then (if m < 14 then (if m < 7 then (if m < 3 then (if m < 1 then 1 else (if m < 2 then 5 else 2)) else (if m < 5 then (if m < 4 then 1 else 1) else (if m < 6 then 1 else 3))) else (if m < 10 then (if m < 8 then 4 else (if m < 9 then 3 else 3)) else (if m < 12 then (if m < 11 then 2 else 5) else (if m < 13 then 2 else 3)))) else (if m < 21 then (if m < 17 then (if m < 15 then 4 else (if m < 16 then 5 else 2)) else (if m < 19 then (if m < 18 then 2 else 4) else (if m < 20 then 5 else 4))) else (if m < 24 then (if m < 22 then 7 else (if m < 23 then 5 else 6)) else (if m < 26 then (if m < 25 then 5 else 2) else (if m < 27 then 3 else 5))))) else (if m < 42 then (if m < 35 then (if m < 31 then (if m < 29 then 3 else (if m < 30 then 2 else 5)) else (if m < 33 then (if m < 32 then 3 else 2) else (if m < 34 then 3 else 1))) else (if m < 38 then (if m < 36 then 1 else (if m < 37 then 2 else 3)) else (if m < 40 then (if m < 39 then 3 else 2) else (if m < 41 then 2 else 2)))) else (if m < 49 then (if m < 45 then (if m < 43 then 1 else (if m < 44 then 6 else 2)) else (if m < 47 then (if m < 46 then 3 else 4) else (if m < 48 then 2 else 3))) else (if m < 53 then (if m < 51 then (if m < 50 then 1 else 6) else (if m < 52 then 2 else 5)) else (if m < 55 then (if m < 54 then 5 else 2) else (if m < 56 then 4 else 4)))))) else (if m < 85 then (if m < 71 then (if m < 64 then (if m < 60 then (if m < 58 then 8 else (if m < 59 then 6 else 7)) else (if m < 62 then (if m < 61 then 3 else 4) else (if m < 63 then 2 else 2))) else (if m < 67 then (if m < 65 then 2 else (if m < 66 then 2 else 1)) else (if m < 69 then (if m < 68 then 1 else 1) else (if m < 70 then 1 else 3)))) else (if m < 78 then (if m < 74 then (if m < 72 then 3 else (if m < 73 then 1 else 1)) else (if m < 76 then (if m < 75 then 1 else 4) else (if m < 77 then 5 else 3))) else (if m < 81 then (if m < 79 then 1 else (if m < 80 then 1 else 3)) else (if m < 83 then (if m < 82 then 1 else 2) else (if m < 84 then 6 else 3))))) else (if m < 99 then (if m < 92 then (if m < 88 then (if m < 86 then 1 else (if m < 87 then 1 else 1)) else (if m < 90 then (if m < 89 then 1 else 2) else (if m < 91 then 2 else 2))) else (if m < 95 then (if m < 93 then 2 else (if m < 94 then 2 else 2)) else (if m < 97 then (if m < 96 then 2 else 1) else (if m < 98 then 1 else 1)))) else (if m < 106 then (if m < 102 then (if m < 100 then 2 else (if m < 101 then 4 else 4)) else (if m < 104 then (if m < 103 then 2 else 3) else (if m < 105 then 1 else 3))) else (if m < 110 then (if m < 108 then (if m < 107 then 5 else 4) else (if m < 109 then 3 else 2)) else (if m < 112 then (if m < 111 then 4 else 6) else (if m < 113 then 2 else 3))))))) else (if m < 171 then (if m < 142 then (if m < 128 then (if m < 121 then (if m < 117 then (if m < 115 then 1 else (if m < 116 then 1 else 3)) else (if m < 119 then (if m < 118 then 2 else 2) else (if m < 120 then 2 else 1))) else (if m < 124 then (if m < 122 then 1 else (if m < 123 then 1 else 1)) else (if m < 126 then (if m < 125 then 3 else 3) else (if m < 127 then 2 else 2)))) else (if m < 135 then (if m < 131 then (if m < 129 then 1 else (if m < 130 then 1 else 2)) else (if m < 133 then (if m < 132 then 1 else 4) else (if m < 134 then 3 else 8))) else (if m < 138 then (if m < 136 then 2 else (if m < 137 then 1 else 3)) else (if m < 140 then (if m < 139 then 1 else 1) else (if m < 141 then 1 else 3))))) else (if m < 156 then (if m < 149 then (if m < 145 then (if m < 143 then 2 else (if m < 144 then 4 else 3)) else (if m < 147 then (if m < 146 then 2 else 1) else (if m < 148 then 7 else 8))) else (if m < 152 then (if m < 150 then 7 else (if m < 151 then 3 else 2)) else (if m < 154 then (if m < 153 then 5 else 2) else (if m < 155 then 3 else 1)))) else (if m < 163 then (if m < 159 then (if m < 157 then 6 else (if m < 158 then 6 else 2)) else (if m < 161 then (if m < 160 then 7 else 1) else (if m < 162 then 6 else 2))) else (if m < 167 then (if m < 165 then (if m < 164 then 6 else 7) else (if m < 166 then 2 else 2)) else (if m < 169 then (if m < 168 then 2 else 1) else (if m < 170 then 1 else 1)))))) else (if m < 199 then (if m < 185 then (if m < 178 then (if m < 174 then (if m < 172 then 2 else (if m < 173 then 2 else 2)) else (if m < 176 then (if m < 175 then 4 else 2) else (if m < 177 then 2 else 2))) else (if m < 181 then (if m < 179 then 2 else (if m < 180 then 1 else 1)) else (if m < 183 then (if m < 182 then 1 else 2) else (if m < 184 then 4 else 4)))) else (if m < 192 then (if m < 188 then (if m < 186 then 5 else (if m < 187 then 5 else 5)) else (if m < 190 then (if m < 189 then 2 else 3) else (if m < 191 then 2 else 9))) else (if m < 195 then (if m < 193 then 2 else (if m < 194 then 6 else 4)) else (if m < 197 then (if m < 196 then 3 else 2) else (if m < 198 then 4 else 6))))) else (if m < 213 then (if m < 206 then (if m < 202 then (if m < 200 then 5 else (if m < 201 then 4 else 2)) else (if m < 204 then (if m < 203 then 3 else 1) else (if m < 205 then 4 else 4))) else (if m < 209 then (if m < 207 then 4 else (if m < 208 then 4 else 4)) else (if m < 211 then (if m < 210 then 4 else 4) else (if m < 212 then 4 else 4)))) else (if m < 220 then (if m < 216 then (if m < 214 then 4 else (if m < 215 then 6 else 6)) else (if m < 218 then (if m < 217 then 4 else 5) else (if m < 219 then 4 else 7))) else (if m < 224 then (if m < 222 then (if m < 221 then 4 else 4) else (if m < 223 then 4 else 5)) else (if m < 226 then (if m < 225 then 8 else 4) else (if m < 227 then 5 else 8))))))))
def hgRm (m : Nat) : hgK := (if m < 114 then (if m < 57 then (if m < 28 then (if m < 14 then (if m < 7 then (if m < 3 then (if m < 1 then (0, 0) else (if m < 2 then (0, 0) else (0, 0))) else (if m < 5 then (if m < 4 then (0, 0) else (0, 0)) else (if m < 6 then (0, 0) else (0, 0)))) else (if m < 10 then (if m < 8 then (0, 0) else (if m < 9 then (28, 248) else (0, 0))) else (if m < 12 then (if m < 11 then (0, 0) else (0, 0)) else (if m < 13 then (0, 0) else (0, 0))))) else (if m < 21 then (if m < 17 then (if m < 15 then (0, 0) else (if m < 16 then (0, 0) else (0, 0))) else (if m < 19 then (if m < 18 then (0, 0) else (0, 0)) else (if m < 20 then (0, 0) else (0, 0)))) else (if m < 24 then (if m < 22 then (0, 0) else (if m < 23 then (0, 0) else (0, 0))) else (if m < 26 then (if m < 25 then (0, 0) else (0, 0)) else (if m < 27 then (0, 0) else (0, 0)))))) else (if m < 42 then (if m < 35 then (if m < 31 then (if m < 29 then (0, 0) else (if m < 30 then (0, 0) else (0, 0))) else (if m < 33 then (if m < 32 then (233, 2120) else (0, 0)) else (if m < 34 then (0, 0) else (3, 1536)))) else (if m < 38 then (if m < 36 then (0, 0) else (if m < 37 then (0, 0) else (0, 0))) else (if m < 40 then (if m < 39 then (0, 0) else (0, 0)) else (if m < 41 then (0, 0) else (0, 0))))) else (if m < 49 then (if m < 45 then (if m < 43 then (0, 0) else (if m < 44 then (0, 0) else (0, 0))) else (if m < 47 then (if m < 46 then (0, 0) else (0, 0)) else (if m < 48 then (13, 72) else (0, 0)))) else (if m < 53 then (if m < 51 then (if m < 50 then (0, 0) else (0, 0)) else (if m < 52 then (0, 0) else (0, 0))) else (if m < 55 then (if m < 54 then (0, 0) else (0, 0)) else (if m < 56 then (0, 0) else (0, 0))))))) else (if m < 85 then (if m < 71 then (if m < 64 then (if m < 60 then (if m < 58 then (0, 0) else (if m < 59 then (0, 0) else (0, 0))) else (if m < 62 then (if m < 61 then (1, 3) else (0, 0)) else (if m < 63 then (0, 0) else (0, 0)))) else (if m < 67 then (if m < 65 then (0, 0) else (if m < 66 then (0, 0) else (0, 0))) else (if m < 69 then (if m < 68 then (0, 0) else (0, 0)) else (if m < 70 then (0, 0) else (0, 0))))) else (if m < 78 then (if m < 74 then (if m < 72 then (0, 0) else (if m < 73 then (0, 0) else (0, 0))) else (if m < 76 then (if m < 75 then (0, 0) else (0, 0)) else (if m < 77 then (0, 0) else (0, 0)))) else (if m < 81 then (if m < 79 then (0, 0) else (if m < 80 then (0, 0) else (0, 0))) else (if m < 83 then (if m < 82 then (0, 0) else (299, 5105)) else (if m < 84 then (0, 0) else (1, 6)))))) else (if m < 99 then (if m < 92 then (if m < 88 then (if m < 86 then (0, 0) else (if m < 87 then (0, 0) else (0, 0))) else (if m < 90 then (if m < 89 then (0, 0) else (1, 6)) else (if m < 91 then (1, 6) else (1, 6)))) else (if m < 95 then (if m < 93 then (1, 6) else (if m < 94 then (1, 6) else (1, 6))) else (if m < 97 then (if m < 96 then (1, 6) else (0, 0)) else (if m < 98 then (0, 0) else (0, 0))))) else (if m < 106 then (if m < 102 then (if m < 100 then (1, 6) else (if m < 101 then (3, 18) else (2, 12))) else (if m < 104 then (if m < 103 then (1, 6) else (2, 12)) else (if m < 105 then (0, 0) else (1, 6)))) else (if m < 110 then (if m < 108 then (if m < 107 then (4, 24) else (2, 12)) else (if m < 109 then (2, 12) else (2, 12))) else (if m < 112 then (if m < 111 then (2, 12) else (2, 12)) else (if m < 113 then (1, 6) else (2, 12)))))))) else (if m < 171 then (if m < 142 then (if m < 128 then (if m < 121 then (if m < 117 then (if m < 115 then (0, 0) else (if m < 116 then (0, 0) else (0, 0))) else (if m < 119 then (if m < 118 then (1, 6) else (1, 6)) else (if m < 120 then (1, 6) else (1, 6)))) else (if m < 124 then (if m < 122 then (1, 6) else (if m < 123 then (24, 223073) else (0, 0))) else (if m < 126 then (if m < 125 then (0, 0) else (0, 0)) else (if m < 127 then (0, 0) else (0, 0))))) else (if m < 135 then (if m < 131 then (if m < 129 then (0, 0) else (if m < 130 then (0, 0) else (0, 0))) else (if m < 133 then (if m < 132 then (0, 0) else (0, 0)) else (if m < 134 then (0, 0) else (0, 0)))) else (if m < 138 then (if m < 136 then (0, 0) else (if m < 137 then (0, 0) else (0, 0))) else (if m < 140 then (if m < 139 then (0, 0) else (0, 0)) else (if m < 141 then (0, 0) else (0, 0)))))) else (if m < 156 then (if m < 149 then (if m < 145 then (if m < 143 then (0, 0) else (if m < 144 then (0, 0) else (0, 0))) else (if m < 147 then (if m < 146 then (0, 0) else (0, 0)) else (if m < 148 then (0, 0) else (0, 0)))) else (if m < 152 then (if m < 150 then (0, 0) else (if m < 151 then (0, 0) else (0, 0))) else (if m < 154 then (if m < 153 then (0, 0) else (0, 0)) else (if m < 155 then (0, 0) else (0, 0))))) else (if m < 163 then (if m < 159 then (if m < 157 then (0, 0) else (if m < 158 then (0, 0) else (0, 0))) else (if m < 161 then (if m < 160 then (0, 0) else (0, 0)) else (if m < 162 then (0, 0) else (0, 0)))) else (if m < 167 then (if m < 165 then (if m < 164 then (0, 0) else (0, 0)) else (if m < 166 then (0, 0) else (0, 0))) else (if m < 169 then (if m < 168 then (0, 0) else (0, 0)) else (if m < 170 then (0, 0) else (0, 0))))))) else (if m < 199 then (if m < 185 then (if m < 178 then (if m < 174 then (if m < 172 then (0, 0) else (if m < 173 then (0, 0) else (0, 0))) else (if m < 176 then (if m < 175 then (0, 0) else (0, 0)) else (if m < 177 then (0, 0) else (0, 0)))) else (if m < 181 then (if m < 179 then (0, 0) else (if m < 180 then (0, 0) else (0, 0))) else (if m < 183 then (if m < 182 then (0, 0) else (0, 0)) else (if m < 184 then (0, 0) else (0, 0))))) else (if m < 192 then (if m < 188 then (if m < 186 then (0, 0) else (if m < 187 then (0, 0) else (0, 0))) else (if m < 190 then (if m < 189 then (0, 0) else (0, 0)) else (if m < 191 then (0, 0) else (0, 0)))) else (if m < 195 then (if m < 193 then (0, 0) else (if m < 194 then (0, 0) else (0, 0))) else (if m < 197 then (if m < 196 then (0, 0) else (0, 0)) else (if m < 198 then (0, 0) else (0, 0)))))) else (if m < 213 then (if m < 206 then (if m < 202 then (if m < 200 then (0, 0) else (if m < 201 then (0, 0) else (0, 0))) else (if m < 204 then (if m < 203 then (0, 0) else (0, 0)) else (if m < 205 then (0, 0) else (1, 6)))) else (if m < 209 then (if m < 207 then (1, 6) else (if m < 208 then (1, 6) else (1, 6))) else (if m < 211 then (if m < 210 then (1, 6) else (1, 6)) else (if m < 212 then (1, 6) else (1, 6))))) else (if m < 220 then (if m < 216 then (if m < 214 then (1, 6) else (if m < 215 then (3, 18) else (2, 12))) else (if m < 218 then (if m < 217 then (1, 6) else (2, 12)) else (if m < 219 then (1, 6) else (4, 24)))) else (if m < 224 then (if m < 222 then (if m < 221 then (2, 12) else (2, 12)) else (if m < 223 then (2, 12) else (2, 12))) else (if m < 226 then (if m < 225 then (2, 12) else (1, 6)) else (if m < 227 then (2, 12) else (601024, 7293034)))))))))
def hgLk (pc : Nat) : List (Nat × List Bool × List hgRow) → List Bool × List hgRow
  | [] => ([], [])
  | (q, b, r) :: t => if q = pc then (b, r) else hgLk pc t
def hgRun (X : hgX) : Nat → Nat → Nat → hgL → List Value → hgK → hgMem → Option hgOut
  | 0, _, _, _, _, _, _ => none
  | n + 1, m, pc, L, S, K, M => hgEx X (hgRm m) (fun q as M1 => if (hgEnt as).length ≤ hgMl q then hgRun X n q 0 (hgPad (hgMl q) (hgEnt as)) [] (0, 0) M1 else none) (fun t L1 S1 K1 M1 => hgRun X n m t (hgMask (hgLk t (hgBs m)).1 L1) S1 K1 M1) (hgLk pc (hgBs m)).2 L S K M
/-- a call, and a jump, with the fuel that is left -/
def hgC (X : hgX) (n q : Nat) (as : List Value) (M : hgMem) : Option hgOut := if (hgEnt as).length ≤ hgMl q then hgRun X n q 0 (hgPad (hgMl q) (hgEnt as)) [] (0, 0) M else none
def hgJp (X : hgX) (n m t : Nat) (L : hgL) (S : List Value) (K : hgK) (M : hgMem) : Option hgOut := hgRun X n m t (hgMask (hgLk t (hgBs m)).1 L) S K M
theorem hgRun_succ (X : hgX) (n m pc : Nat) (L : hgL) (S : List Value) (K : hgK) (M : hgMem) : hgRun X (n + 1) m pc L S K M = hgEx X (hgRm m) (hgC X n) (hgJp X n m) (hgLk pc (hgBs m)).2 L S K M := rfl
end
section
def hgFk (ci k : Nat) : Nat := (if ci = 0 then (if k = 7 then 1 else (if k = 14 then 3 else 0)) else (if ci = 1 then (if k = 0 then 2 else (if k = 1 then 3 else (if k = 5 then 2 else (if k = 7 then 2 else (if k = 8 then 2 else (if k = 10 then 2 else (if k = 11 then 2 else 0))))))) else (if ci = 2 then (if k = 0 then 2 else 0) else (if ci = 3 then (if k = 0 then 2 else (if k = 1 then 2 else (if k = 2 then 2 else 0))) else (if ci = 4 then (if k = 0 then 3 else 0) else (if ci = 5 then (if k = 0 then 2 else 0) else (if ci = 6 then (if k = 0 then 2 else (if k = 5 then 2 else (if k = 6 then 3 else (if k = 7 then 3 else (if k = 8 then 2 else 0))))) else (if ci = 7 then (if k = 0 then 2 else (if k = 3 then 2 else (if k = 4 then 2 else (if k = 5 then 2 else (if k = 6 then 2 else 0))))) else (if ci = 8 then (if k = 1 then 2 else (if k = 8 then 2 else (if k = 9 then 2 else (if k = 10 then 2 else (if k = 11 then 2 else (if k = 12 then 2 else (if k = 13 then 2 else (if k = 14 then 2 else 0)))))))) else 0)))))))))
def hgY (m : Nat) : MethodName := (if m < 114 then (if m < 57 then (if m < 28 then (if m < 14 then (if m < 7 then (if m < 3 then (if m < 1 then yX0_init else (if m < 2 then yX0_setUp else yX0_copyFrom)) else (if m < 5 then (if m < 4 then yX0_startWaking else yX0_beginTick) else (if m < 6 then yX0_endTick else yX0_enqueue))) else (if m < 10 then (if m < 8 then yX0_serveFirst else (if m < 9 then yX1_init else yX1_copyFrom)) else (if m < 12 then (if m < 11 then yX1_startAnew else yX1_addDevice) else (if m < 13 then yX1_addWakePort else yX1_isWakePort)))) else (if m < 21 then (if m < 17 then (if m < 15 then yX1_setQuiet else (if m < 16 then yX1_isQuietHour else yX1_hasDevice)) else (if m < 19 then (if m < 18 then yX1_groupOf else yX1_isIsolated) else (if m < 20 then yX1_isOpen else yX1_judge))) else (if m < 24 then (if m < 22 then yX1_countOpenPorts else (if m < 23 then yX1_measureFairness else yX1_take)) else (if m < 26 then (if m < 25 then yX1_leastVirtualTime else yX1_isDrained) else (if m < 27 then yX1_passTick else yX1_serveLine))))) else (if m < 42 then (if m < 35 then (if m < 31 then (if m < 29 then yX1_nextToServe else (if m < 30 then yX1_canBeServed else yX1_sumUp)) else (if m < 33 then (if m < 32 then yX2_init else yX2_save) else (if m < 34 then yX2_bringBack else yX3_init))) else (if m < 38 then (if m < 36 then yX3_isFull else (if m < 37 then yX3_holds else yX3_put)) else (if m < 40 then (if m < 39 then yX3_link else yX3_sizeOf) else (if m < 41 then yX3_arrivalOf else yX3_followerOf)))) else (if m < 49 then (if m < 45 then (if m < 43 then yX4_init else (if m < 44 then yX4_setUp else yX4_copyFrom)) else (if m < 47 then (if m < 46 then yX4_matchesGroups else yX4_matches) else (if m < 48 then yX5_init else yX5_copyFrom))) else (if m < 53 then (if m < 51 then (if m < 50 then yX5_isFull else yX5_putLast) else (if m < 52 then yX5_takeOut else yX5_shift)) else (if m < 55 then (if m < 54 then yX5_firstMatch else yX5_allows) else (if m < 56 then yX5_nextEdge else yX5_isCovered)))))) else (if m < 85 then (if m < 71 then (if m < 64 then (if m < 60 then (if m < 58 then yX5_isCoveredFor else (if m < 59 then yX5_matchesEarlier else yX5_addTo)) else (if m < 62 then (if m < 61 then yX6_init else yX6_readDraft) else (if m < 63 then yX6_fail else yX6_byteAt))) else (if m < 67 then (if m < 65 then yX6_isLetterAt else (if m < 66 then yX6_isDigitAt else yX6_startToken)) else (if m < 69 then (if m < 68 then yX6_isAtEnd else yX6_readSemicolon) else (if m < 70 then yX6_readWord else yX6_isWord)))) else (if m < 78 then (if m < 74 then (if m < 72 then yX6_readNumber else (if m < 73 then yX6_readSelector else yX6_readHead)) else (if m < 76 then (if m < 75 then yX6_readStatement else yX6_readDevice) else (if m < 77 then yX6_readRule else yX6_readWakePorts))) else (if m < 81 then (if m < 79 then yX6_isNumberNext else (if m < 80 then yX6_readWakePort else yX6_readQuiet)) else (if m < 83 then (if m < 82 then yX6_readLimit else yX7_init) else (if m < 84 then yX7_append else yX7_load))))) else (if m < 99 then (if m < 92 then (if m < 88 then (if m < 86 then yX7_errorOffset else (if m < 87 then yX7_deviceCount else yX7_ruleCount)) else (if m < 90 then (if m < 89 then yX7_clock else yX7_state) else (if m < 91 then yX7_weight else yX7_queueLength))) else (if m < 95 then (if m < 93 then yX7_backlog else (if m < 94 then yX7_virtualTime else yX7_delivered)) else (if m < 97 then (if m < 96 then yX7_longestDelay else yX7_rejected) else (if m < 98 then yX7_proxied else yX7_dropped)))) else (if m < 106 then (if m < 102 then (if m < 100 then yX7_isQuiet else (if m < 101 then yX7_verdict else yX7_matching)) else (if m < 104 then (if m < 103 then yX7_isUseless else yX7_openPorts) else (if m < 105 then yX7_fairness else yX7_drainTime))) else (if m < 110 then (if m < 108 then (if m < 107 then yX7_arrive else yX7_tick) else (if m < 109 then yX7_sleep else yX7_wake)) else (if m < 112 then (if m < 111 then yX7_setWeight else yX7_addRule) else (if m < 113 then yX7_removeRule else yX7_moveRule))))))) else (if m < 171 then (if m < 142 then (if m < 128 then (if m < 121 then (if m < 117 then (if m < 115 then yX7_undo else (if m < 116 then yX7_checksum else yX7_appendWord)) else (if m < 119 then (if m < 118 then yX7_checkDevice else yX7_checkSender) else (if m < 120 then yX7_checkRule else yX7_checkPort))) else (if m < 124 then (if m < 122 then yX7_checkGateway else (if m < 123 then yX8_init else yX8_thrown)) else (if m < 126 then (if m < 125 then yX8_fails else yX8_in) else (if m < 127 then yX8_max else yX8_min)))) else (if m < 135 then (if m < 131 then (if m < 129 then yX8_device else (if m < 130 then yX8_rule else yX8_packet)) else (if m < 133 then (if m < 132 then yX8_quiet else yX8_copy) else (if m < 134 then yX8_copyTimes else yX8_append))) else (if m < 138 then (if m < 136 then yX8_byteAt else (if m < 137 then yX8_isGood else yX8_report)) else (if m < 140 then (if m < 139 then yX8_next else yX8_isLetter) else (if m < 141 then yX8_isDigit else yX8_takeWord))))) else (if m < 156 then (if m < 149 then (if m < 145 then (if m < 143 then yX8_expect else (if m < 144 then yX8_number else yX8_once)) else (if m < 147 then (if m < 146 then yX8_readGroup else yX8_readSelector) else (if m < 148 then yX8_readDevice else yX8_setRule))) else (if m < 152 then (if m < 150 then yX8_readRule else (if m < 151 then yX8_isWakePort else yX8_readWake)) else (if m < 154 then (if m < 153 then yX8_readQuiet else yX8_statement) else (if m < 155 then yX8_load else yX8_errorOffset)))) else (if m < 163 then (if m < 159 then (if m < 157 then yX8_matches else (if m < 158 then yX8_firstRule else yX8_groupOf)) else (if m < 161 then (if m < 160 then yX8_verdictOf else yX8_isPort) else (if m < 162 then yX8_isQuietFor else yX8_canBeServed))) else (if m < 167 then (if m < 165 then (if m < 164 then yX8_deliver else yX8_step) else (if m < 166 then yX8_noDevice else yX8_noSender)) else (if m < 169 then (if m < 168 then yX8_noRule else yX8_deviceCount) else (if m < 170 then yX8_ruleCount else yX8_clock)))))) else (if m < 199 then (if m < 185 then (if m < 178 then (if m < 174 then (if m < 172 then yX8_state else (if m < 173 then yX8_weight else yX8_queueLength)) else (if m < 176 then (if m < 175 then yX8_backlogOf else yX8_backlog) else (if m < 177 then yX8_virtualTime else yX8_delivered))) else (if m < 181 then (if m < 179 then yX8_longestDelay else (if m < 180 then yX8_rejected else yX8_proxied)) else (if m < 183 then (if m < 182 then yX8_dropped else yX8_isQuiet) else (if m < 184 then yX8_verdict else yX8_matching)))) else (if m < 192 then (if m < 188 then (if m < 186 then yX8_isUseless else (if m < 187 then yX8_openPorts else yX8_fairness)) else (if m < 190 then (if m < 189 then yX8_isEmpty else yX8_drainTime) else (if m < 191 then yX8_remember else yX8_receive))) else (if m < 195 then (if m < 193 then yX8_wakeUp else (if m < 194 then yX8_arrive else yX8_tick)) else (if m < 197 then (if m < 196 then yX8_sleep else yX8_wake) else (if m < 198 then yX8_setWeight else yX8_addRule))))) else (if m < 213 then (if m < 206 then (if m < 202 then (if m < 200 then yX8_swap else (if m < 201 then yX8_shift else yX8_removeRule)) else (if m < 204 then (if m < 203 then yX8_moveRule else yX8_undo) else (if m < 205 then yX8_checksum else yL_load))) else (if m < 209 then (if m < 207 then yL_state else (if m < 208 then yL_weight else yL_queueLength)) else (if m < 211 then (if m < 210 then yL_backlog else yL_virtualTime) else (if m < 212 then yL_delivered else yL_longestDelay)))) else (if m < 220 then (if m < 216 then (if m < 214 then yL_isQuiet else (if m < 215 then yL_verdict else yL_matching)) else (if m < 218 then (if m < 217 then yL_isUseless else yL_openPorts) else (if m < 219 then yL_drainTime else yL_arrive))) else (if m < 224 then (if m < 222 then (if m < 221 then yL_tick else yL_sleep) else (if m < 223 then yL_wake else yL_setWeight)) else (if m < 226 then (if m < 225 then yL_addRule else yL_removeRule) else (if m < 227 then yL_moveRule else yL_law))))))))
def hgCode (m : Nat) : ByteArray := (if m < 114 then (if m < 57 then (if m < 28 then (if m < 14 then (if m < 7 then (if m < 3 then (if m < 1 then cX0_init else (if m < 2 then cX0_setUp else cX0_copyFrom)) else (if m < 5 then (if m < 4 then cX0_startWaking else cX0_beginTick) else (if m < 6 then cX0_endTick else cX0_enqueue))) else (if m < 10 then (if m < 8 then cX0_serveFirst else (if m < 9 then cX1_init else cX1_copyFrom)) else (if m < 12 then (if m < 11 then cX1_startAnew else cX1_addDevice) else (if m < 13 then cX1_addWakePort else cX1_isWakePort)))) else (if m < 21 then (if m < 17 then (if m < 15 then cX1_setQuiet else (if m < 16 then cX1_isQuietHour else cX1_hasDevice)) else (if m < 19 then (if m < 18 then cX1_groupOf else cX1_isIsolated) else (if m < 20 then cX1_isOpen else cX1_judge))) else (if m < 24 then (if m < 22 then cX1_countOpenPorts else (if m < 23 then cX1_measureFairness else cX1_take)) else (if m < 26 then (if m < 25 then cX1_leastVirtualTime else cX1_isDrained) else (if m < 27 then cX1_passTick else cX1_serveLine))))) else (if m < 42 then (if m < 35 then (if m < 31 then (if m < 29 then cX1_nextToServe else (if m < 30 then cX1_canBeServed else cX1_sumUp)) else (if m < 33 then (if m < 32 then cX2_init else cX2_save) else (if m < 34 then cX2_bringBack else cX3_init))) else (if m < 38 then (if m < 36 then cX3_isFull else (if m < 37 then cX3_holds else cX3_put)) else (if m < 40 then (if m < 39 then cX3_link else cX3_sizeOf) else (if m < 41 then cX3_arrivalOf else cX3_followerOf)))) else (if m < 49 then (if m < 45 then (if m < 43 then cX4_init else (if m < 44 then cX4_setUp else cX4_copyFrom)) else (if m < 47 then (if m < 46 then cX4_matchesGroups else cX4_matches) else (if m < 48 then cX5_init else cX5_copyFrom))) else (if m < 53 then (if m < 51 then (if m < 50 then cX5_isFull else cX5_putLast) else (if m < 52 then cX5_takeOut else cX5_shift)) else (if m < 55 then (if m < 54 then cX5_firstMatch else cX5_allows) else (if m < 56 then cX5_nextEdge else cX5_isCovered)))))) else (if m < 85 then (if m < 71 then (if m < 64 then (if m < 60 then (if m < 58 then cX5_isCoveredFor else (if m < 59 then cX5_matchesEarlier else cX5_addTo)) else (if m < 62 then (if m < 61 then cX6_init else cX6_readDraft) else (if m < 63 then cX6_fail else cX6_byteAt))) else (if m < 67 then (if m < 65 then cX6_isLetterAt else (if m < 66 then cX6_isDigitAt else cX6_startToken)) else (if m < 69 then (if m < 68 then cX6_isAtEnd else cX6_readSemicolon) else (if m < 70 then cX6_readWord else cX6_isWord)))) else (if m < 78 then (if m < 74 then (if m < 72 then cX6_readNumber else (if m < 73 then cX6_readSelector else cX6_readHead)) else (if m < 76 then (if m < 75 then cX6_readStatement else cX6_readDevice) else (if m < 77 then cX6_readRule else cX6_readWakePorts))) else (if m < 81 then (if m < 79 then cX6_isNumberNext else (if m < 80 then cX6_readWakePort else cX6_readQuiet)) else (if m < 83 then (if m < 82 then cX6_readLimit else cX7_init) else (if m < 84 then cX7_append else cX7_load))))) else (if m < 99 then (if m < 92 then (if m < 88 then (if m < 86 then cX7_errorOffset else (if m < 87 then cX7_deviceCount else cX7_ruleCount)) else (if m < 90 then (if m < 89 then cX7_clock else cX7_state) else (if m < 91 then cX7_weight else cX7_queueLength))) else (if m < 95 then (if m < 93 then cX7_backlog else (if m < 94 then cX7_virtualTime else cX7_delivered)) else (if m < 97 then (if m < 96 then cX7_longestDelay else cX7_rejected) else (if m < 98 then cX7_proxied else cX7_dropped)))) else (if m < 106 then (if m < 102 then (if m < 100 then cX7_isQuiet else (if m < 101 then cX7_verdict else cX7_matching)) else (if m < 104 then (if m < 103 then cX7_isUseless else cX7_openPorts) else (if m < 105 then cX7_fairness else cX7_drainTime))) else (if m < 110 then (if m < 108 then (if m < 107 then cX7_arrive else cX7_tick) else (if m < 109 then cX7_sleep else cX7_wake)) else (if m < 112 then (if m < 111 then cX7_setWeight else cX7_addRule) else (if m < 113 then cX7_removeRule else cX7_moveRule))))))) else (if m < 171 then (if m < 142 then (if m < 128 then (if m < 121 then (if m < 117 then (if m < 115 then cX7_undo else (if m < 116 then cX7_checksum else cX7_appendWord)) else (if m < 119 then (if m < 118 then cX7_checkDevice else cX7_checkSender) else (if m < 120 then cX7_checkRule else cX7_checkPort))) else (if m < 124 then (if m < 122 then cX7_checkGateway else (if m < 123 then cX8_init else cX8_thrown)) else (if m < 126 then (if m < 125 then cX8_fails else cX8_in) else (if m < 127 then cX8_max else cX8_min)))) else (if m < 135 then (if m < 131 then (if m < 129 then cX8_device else (if m < 130 then cX8_rule else cX8_packet)) else (if m < 133 then (if m < 132 then cX8_quiet else cX8_copy) else (if m < 134 then cX8_copyTimes else cX8_append))) else (if m < 138 then (if m < 136 then cX8_byteAt else (if m < 137 then cX8_isGood else cX8_report)) else (if m < 140 then (if m < 139 then cX8_next else cX8_isLetter) else (if m < 141 then cX8_isDigit else cX8_takeWord))))) else (if m < 156 then (if m < 149 then (if m < 145 then (if m < 143 then cX8_expect else (if m < 144 then cX8_number else cX8_once)) else (if m < 147 then (if m < 146 then cX8_readGroup else cX8_readSelector) else (if m < 148 then cX8_readDevice else cX8_setRule))) else (if m < 152 then (if m < 150 then cX8_readRule else (if m < 151 then cX8_isWakePort else cX8_readWake)) else (if m < 154 then (if m < 153 then cX8_readQuiet else cX8_statement) else (if m < 155 then cX8_load else cX8_errorOffset)))) else (if m < 163 then (if m < 159 then (if m < 157 then cX8_matches else (if m < 158 then cX8_firstRule else cX8_groupOf)) else (if m < 161 then (if m < 160 then cX8_verdictOf else cX8_isPort) else (if m < 162 then cX8_isQuietFor else cX8_canBeServed))) else (if m < 167 then (if m < 165 then (if m < 164 then cX8_deliver else cX8_step) else (if m < 166 then cX8_noDevice else cX8_noSender)) else (if m < 169 then (if m < 168 then cX8_noRule else cX8_deviceCount) else (if m < 170 then cX8_ruleCount else cX8_clock)))))) else (if m < 199 then (if m < 185 then (if m < 178 then (if m < 174 then (if m < 172 then cX8_state else (if m < 173 then cX8_weight else cX8_queueLength)) else (if m < 176 then (if m < 175 then cX8_backlogOf else cX8_backlog) else (if m < 177 then cX8_virtualTime else cX8_delivered))) else (if m < 181 then (if m < 179 then cX8_longestDelay else (if m < 180 then cX8_rejected else cX8_proxied)) else (if m < 183 then (if m < 182 then cX8_dropped else cX8_isQuiet) else (if m < 184 then cX8_verdict else cX8_matching)))) else (if m < 192 then (if m < 188 then (if m < 186 then cX8_isUseless else (if m < 187 then cX8_openPorts else cX8_fairness)) else (if m < 190 then (if m < 189 then cX8_isEmpty else cX8_drainTime) else (if m < 191 then cX8_remember else cX8_receive))) else (if m < 195 then (if m < 193 then cX8_wakeUp else (if m < 194 then cX8_arrive else cX8_tick)) else (if m < 197 then (if m < 196 then cX8_sleep else cX8_wake) else (if m < 198 then cX8_setWeight else cX8_addRule))))) else (if m < 213 then (if m < 206 then (if m < 202 then (if m < 200 then cX8_swap else (if m < 201 then cX8_shift else cX8_removeRule)) else (if m < 204 then (if m < 203 then cX8_moveRule else cX8_undo) else (if m < 205 then cX8_checksum else cL_load))) else (if m < 209 then (if m < 207 then cL_state else (if m < 208 then cL_weight else cL_queueLength)) else (if m < 211 then (if m < 210 then cL_backlog else cL_virtualTime) else (if m < 212 then cL_delivered else cL_longestDelay)))) else (if m < 220 then (if m < 216 then (if m < 214 then cL_isQuiet else (if m < 215 then cL_verdict else cL_matching)) else (if m < 218 then (if m < 217 then cL_isUseless else cL_openPorts) else (if m < 219 then cL_drainTime else cL_arrive))) else (if m < 224 then (if m < 222 then (if m < 221 then cL_tick else cL_sleep) else (if m < 223 then cL_wake else cL_setWeight)) else (if m < 226 then (if m < 225 then cL_addRule else cL_removeRule) else (if m < 227 then cL_moveRule else cL_law))))))))
def hgOwn (m : Nat) : String := (if m < 114 then (if m < 57 then (if m < 28 then (if m < 14 then (if m < 7 then (if m < 3 then (if m < 1 then RX0 else (if m < 2 then RX0 else RX0)) else (if m < 5 then (if m < 4 then RX0 else RX0) else (if m < 6 then RX0 else RX0))) else (if m < 10 then (if m < 8 then RX0 else (if m < 9 then RX1 else RX1)) else (if m < 12 then (if m < 11 then RX1 else RX1) else (if m < 13 then RX1 else RX1)))) else (if m < 21 then (if m < 17 then (if m < 15 then RX1 else (if m < 16 then RX1 else RX1)) else (if m < 19 then (if m < 18 then RX1 else RX1) else (if m < 20 then RX1 else RX1))) else (if m < 24 then (if m < 22 then RX1 else (if m < 23 then RX1 else RX1)) else (if m < 26 then (if m < 25 then RX1 else RX1) else (if m < 27 then RX1 else RX1))))) else (if m < 42 then (if m < 35 then (if m < 31 then (if m < 29 then RX1 else (if m < 30 then RX1 else RX1)) else (if m < 33 then (if m < 32 then RX2 else RX2) else (if m < 34 then RX2 else RX3))) else (if m < 38 then (if m < 36 then RX3 else (if m < 37 then RX3 else RX3)) else (if m < 40 then (if m < 39 then RX3 else RX3) else (if m < 41 then RX3 else RX3)))) else (if m < 49 then (if m < 45 then (if m < 43 then RX4 else (if m < 44 then RX4 else RX4)) else (if m < 47 then (if m < 46 then RX4 else RX4) else (if m < 48 then RX5 else RX5))) else (if m < 53 then (if m < 51 then (if m < 50 then RX5 else RX5) else (if m < 52 then RX5 else RX5)) else (if m < 55 then (if m < 54 then RX5 else RX5) else (if m < 56 then RX5 else RX5)))))) else (if m < 85 then (if m < 71 then (if m < 64 then (if m < 60 then (if m < 58 then RX5 else (if m < 59 then RX5 else RX5)) else (if m < 62 then (if m < 61 then RX6 else RX6) else (if m < 63 then RX6 else RX6))) else (if m < 67 then (if m < 65 then RX6 else (if m < 66 then RX6 else RX6)) else (if m < 69 then (if m < 68 then RX6 else RX6) else (if m < 70 then RX6 else RX6)))) else (if m < 78 then (if m < 74 then (if m < 72 then RX6 else (if m < 73 then RX6 else RX6)) else (if m < 76 then (if m < 75 then RX6 else RX6) else (if m < 77 then RX6 else RX6))) else (if m < 81 then (if m < 79 then RX6 else (if m < 80 then RX6 else RX6)) else (if m < 83 then (if m < 82 then RX6 else RX7) else (if m < 84 then RX7 else RX7))))) else (if m < 99 then (if m < 92 then (if m < 88 then (if m < 86 then RX7 else (if m < 87 then RX7 else RX7)) else (if m < 90 then (if m < 89 then RX7 else RX7) else (if m < 91 then RX7 else RX7))) else (if m < 95 then (if m < 93 then RX7 else (if m < 94 then RX7 else RX7)) else (if m < 97 then (if m < 96 then RX7 else RX7) else (if m < 98 then RX7 else RX7)))) else (if m < 106 then (if m < 102 then (if m < 100 then RX7 else (if m < 101 then RX7 else RX7)) else (if m < 104 then (if m < 103 then RX7 else RX7) else (if m < 105 then RX7 else RX7))) else (if m < 110 then (if m < 108 then (if m < 107 then RX7 else RX7) else (if m < 109 then RX7 else RX7)) else (if m < 112 then (if m < 111 then RX7 else RX7) else (if m < 113 then RX7 else RX7))))))) else (if m < 171 then (if m < 142 then (if m < 128 then (if m < 121 then (if m < 117 then (if m < 115 then RX7 else (if m < 116 then RX7 else RX7)) else (if m < 119 then (if m < 118 then RX7 else RX7) else (if m < 120 then RX7 else RX7))) else (if m < 124 then (if m < 122 then RX7 else (if m < 123 then RX8 else RX8)) else (if m < 126 then (if m < 125 then RX8 else RX8) else (if m < 127 then RX8 else RX8)))) else (if m < 135 then (if m < 131 then (if m < 129 then RX8 else (if m < 130 then RX8 else RX8)) else (if m < 133 then (if m < 132 then RX8 else RX8) else (if m < 134 then RX8 else RX8))) else (if m < 138 then (if m < 136 then RX8 else (if m < 137 then RX8 else RX8)) else (if m < 140 then (if m < 139 then RX8 else RX8) else (if m < 141 then RX8 else RX8))))) else (if m < 156 then (if m < 149 then (if m < 145 then (if m < 143 then RX8 else (if m < 144 then RX8 else RX8)) else (if m < 147 then (if m < 146 then RX8 else RX8) else (if m < 148 then RX8 else RX8))) else (if m < 152 then (if m < 150 then RX8 else (if m < 151 then RX8 else RX8)) else (if m < 154 then (if m < 153 then RX8 else RX8) else (if m < 155 then RX8 else RX8)))) else (if m < 163 then (if m < 159 then (if m < 157 then RX8 else (if m < 158 then RX8 else RX8)) else (if m < 161 then (if m < 160 then RX8 else RX8) else (if m < 162 then RX8 else RX8))) else (if m < 167 then (if m < 165 then (if m < 164 then RX8 else RX8) else (if m < 166 then RX8 else RX8)) else (if m < 169 then (if m < 168 then RX8 else RX8) else (if m < 170 then RX8 else RX8)))))) else (if m < 199 then (if m < 185 then (if m < 178 then (if m < 174 then (if m < 172 then RX8 else (if m < 173 then RX8 else RX8)) else (if m < 176 then (if m < 175 then RX8 else RX8) else (if m < 177 then RX8 else RX8))) else (if m < 181 then (if m < 179 then RX8 else (if m < 180 then RX8 else RX8)) else (if m < 183 then (if m < 182 then RX8 else RX8) else (if m < 184 then RX8 else RX8)))) else (if m < 192 then (if m < 188 then (if m < 186 then RX8 else (if m < 187 then RX8 else RX8)) else (if m < 190 then (if m < 189 then RX8 else RX8) else (if m < 191 then RX8 else RX8))) else (if m < 195 then (if m < 193 then RX8 else (if m < 194 then RX8 else RX8)) else (if m < 197 then (if m < 196 then RX8 else RX8) else (if m < 198 then RX8 else RX8))))) else (if m < 213 then (if m < 206 then (if m < 202 then (if m < 200 then RX8 else (if m < 201 then RX8 else RX8)) else (if m < 204 then (if m < 203 then RX8 else RX8) else (if m < 205 then RX8 else RL))) else (if m < 209 then (if m < 207 then RL else (if m < 208 then RL else RL)) else (if m < 211 then (if m < 210 then RL else RL) else (if m < 212 then RL else RL)))) else (if m < 220 then (if m < 216 then (if m < 214 then RL else (if m < 215 then RL else RL)) else (if m < 218 then (if m < 217 then RL else RL) else (if m < 219 then RL else RL))) else (if m < 224 then (if m < 222 then (if m < 221 then RL else RL) else (if m < 223 then RL else RL)) else (if m < 226 then (if m < 225 then RL else RL) else (if m < 227 then RL else RL))))))))
def hgRet (m : Nat) : Option FieldType := (if m < 114 then (if m < 57 then (if m < 28 then (if m < 14 then (if m < 7 then (if m < 3 then (if m < 1 then none else (if m < 2 then none else none)) else (if m < 5 then (if m < 4 then none else none) else (if m < 6 then none else none))) else (if m < 10 then (if m < 8 then none else (if m < 9 then none else none)) else (if m < 12 then (if m < 11 then none else none) else (if m < 13 then none else some .boolean)))) else (if m < 21 then (if m < 17 then (if m < 15 then none else (if m < 16 then some .boolean else some .boolean)) else (if m < 19 then (if m < 18 then some .int else some .boolean) else (if m < 20 then some .boolean else some .int))) else (if m < 24 then (if m < 22 then some .int else (if m < 23 then some .int else some .int)) else (if m < 26 then (if m < 25 then some .long else some .boolean) else (if m < 27 then some .int else some .int))))) else (if m < 42 then (if m < 35 then (if m < 31 then (if m < 29 then some .int else (if m < 30 then some .boolean else some .long)) else (if m < 33 then (if m < 32 then none else none) else (if m < 34 then none else none))) else (if m < 38 then (if m < 36 then some .boolean else (if m < 37 then some .boolean else some .int)) else (if m < 40 then (if m < 39 then none else some .int) else (if m < 41 then some .int else some .int)))) else (if m < 49 then (if m < 45 then (if m < 43 then none else (if m < 44 then none else none)) else (if m < 47 then (if m < 46 then some .boolean else some .boolean) else (if m < 48 then none else none))) else (if m < 53 then (if m < 51 then (if m < 50 then some .boolean else none) else (if m < 52 then none else none)) else (if m < 55 then (if m < 54 then some .int else some .boolean) else (if m < 56 then some .int else some .boolean)))))) else (if m < 85 then (if m < 71 then (if m < 64 then (if m < 60 then (if m < 58 then some .boolean else (if m < 59 then some .boolean else some .long)) else (if m < 62 then (if m < 61 then none else some .int) else (if m < 63 then some .boolean else some .int))) else (if m < 67 then (if m < 65 then some .boolean else (if m < 66 then some .boolean else none)) else (if m < 69 then (if m < 68 then some .boolean else some .boolean) else (if m < 70 then none else some .boolean)))) else (if m < 78 then (if m < 74 then (if m < 72 then some .boolean else (if m < 73 then some .int else some .boolean)) else (if m < 76 then (if m < 75 then some .boolean else some .boolean) else (if m < 77 then some .boolean else some .boolean))) else (if m < 81 then (if m < 79 then some .boolean else (if m < 80 then some .boolean else some .boolean)) else (if m < 83 then (if m < 82 then some .boolean else none) else (if m < 84 then some .int else some .int))))) else (if m < 99 then (if m < 92 then (if m < 88 then (if m < 86 then some .int else (if m < 87 then some .int else some .int)) else (if m < 90 then (if m < 89 then some .int else some .int) else (if m < 91 then some .int else some .int))) else (if m < 95 then (if m < 93 then some .int else (if m < 94 then some .long else some .int)) else (if m < 97 then (if m < 96 then some .int else some .int) else (if m < 98 then some .int else some .int)))) else (if m < 106 then (if m < 102 then (if m < 100 then some .boolean else (if m < 101 then some .int else some .int)) else (if m < 104 then (if m < 103 then some .boolean else some .int) else (if m < 105 then some .int else some .int))) else (if m < 110 then (if m < 108 then (if m < 107 then some .int else some .int) else (if m < 109 then some .int else some .int)) else (if m < 112 then (if m < 111 then some .int else some .int) else (if m < 113 then some .int else some .int))))))) else (if m < 171 then (if m < 142 then (if m < 128 then (if m < 121 then (if m < 117 then (if m < 115 then some .int else (if m < 116 then some .long else none)) else (if m < 119 then (if m < 118 then none else none) else (if m < 120 then none else none))) else (if m < 124 then (if m < 122 then none else (if m < 123 then none else some .int)) else (if m < 126 then (if m < 125 then some .boolean else some .boolean) else (if m < 127 then some .int else some .int)))) else (if m < 135 then (if m < 131 then (if m < 129 then some .int else (if m < 130 then some .int else some .int)) else (if m < 133 then (if m < 132 then some .int else none) else (if m < 134 then none else some .int))) else (if m < 138 then (if m < 136 then some .int else (if m < 137 then some .boolean else none)) else (if m < 140 then (if m < 139 then some .int else some .boolean) else (if m < 141 then some .boolean else some .boolean))))) else (if m < 156 then (if m < 149 then (if m < 145 then (if m < 143 then none else (if m < 144 then some .int else none)) else (if m < 147 then (if m < 146 then some .int else some .int) else (if m < 148 then none else none))) else (if m < 152 then (if m < 150 then none else (if m < 151 then some .boolean else none)) else (if m < 154 then (if m < 153 then none else none) else (if m < 155 then some .int else some .int)))) else (if m < 163 then (if m < 159 then (if m < 157 then some .boolean else (if m < 158 then some .int else some .int)) else (if m < 161 then (if m < 160 then some .int else some .boolean) else (if m < 162 then some .boolean else some .boolean))) else (if m < 167 then (if m < 165 then (if m < 164 then none else some .int) else (if m < 166 then some .boolean else some .boolean)) else (if m < 169 then (if m < 168 then some .boolean else some .int) else (if m < 170 then some .int else some .int)))))) else (if m < 199 then (if m < 185 then (if m < 178 then (if m < 174 then (if m < 172 then some .int else (if m < 173 then some .int else some .int)) else (if m < 176 then (if m < 175 then some .int else some .int) else (if m < 177 then some .long else some .int))) else (if m < 181 then (if m < 179 then some .int else (if m < 180 then some .int else some .int)) else (if m < 183 then (if m < 182 then some .int else some .boolean) else (if m < 184 then some .int else some .int)))) else (if m < 192 then (if m < 188 then (if m < 186 then some .boolean else (if m < 187 then some .int else some .int)) else (if m < 190 then (if m < 189 then some .boolean else some .int) else (if m < 191 then none else some .int))) else (if m < 195 then (if m < 193 then none else (if m < 194 then some .int else some .int)) else (if m < 197 then (if m < 196 then some .int else some .int) else (if m < 198 then some .int else some .int))))) else (if m < 213 then (if m < 206 then (if m < 202 then (if m < 200 then none else (if m < 201 then none else some .int)) else (if m < 204 then (if m < 203 then some .int else some .int) else (if m < 205 then some .long else some .int))) else (if m < 209 then (if m < 207 then some .int else (if m < 208 then some .int else some .int)) else (if m < 211 then (if m < 210 then some .int else some .int) else (if m < 212 then some .int else some .int)))) else (if m < 220 then (if m < 216 then (if m < 214 then some .int else (if m < 215 then some .int else some .int)) else (if m < 218 then (if m < 217 then some .int else some .int) else (if m < 219 then some .int else some .int))) else (if m < 224 then (if m < 222 then (if m < 221 then some .int else some .int) else (if m < 223 then some .int else some .int)) else (if m < 226 then (if m < 225 then some .int else some .int) else (if m < 227 then some .int else some .boolean))))))))
def hgFr (m : Nat) : Nat := (if m < 114 then (if m < 57 then (if m < 28 then (if m < 14 then (if m < 7 then (if m < 3 then (if m < 1 then 1 else (if m < 2 then 1 else 1)) else (if m < 5 then (if m < 4 then 1 else 1) else (if m < 6 then 1 else 3))) else (if m < 10 then (if m < 8 then 3 else (if m < 9 then 3 else 4)) else (if m < 12 then (if m < 11 then 2 else 2) else (if m < 13 then 1 else 1)))) else (if m < 21 then (if m < 17 then (if m < 15 then 1 else (if m < 16 then 1 else 1)) else (if m < 19 then (if m < 18 then 2 else 3) else (if m < 20 then 4 else 5))) else (if m < 24 then (if m < 22 then 5 else (if m < 23 then 1 else 6)) else (if m < 26 then (if m < 25 then 1 else 1) else (if m < 27 then 5 else 4))))) else (if m < 42 then (if m < 35 then (if m < 31 then (if m < 29 then 3 else (if m < 30 then 2 else 2)) else (if m < 33 then (if m < 32 then 4 else 5) else (if m < 34 then 5 else 1))) else (if m < 38 then (if m < 36 then 1 else (if m < 37 then 1 else 2)) else (if m < 40 then (if m < 39 then 2 else 2) else (if m < 41 then 2 else 2)))) else (if m < 49 then (if m < 45 then (if m < 43 then 1 else (if m < 44 then 1 else 2)) else (if m < 47 then (if m < 46 then 1 else 2) else (if m < 48 then 2 else 3))) else (if m < 53 then (if m < 51 then (if m < 50 then 1 else 2) else (if m < 52 then 2 else 1)) else (if m < 55 then (if m < 54 then 3 else 1) else (if m < 56 then 1 else 6)))))) else (if m < 85 then (if m < 71 then (if m < 64 then (if m < 60 then (if m < 58 then 5 else (if m < 59 then 4 else 1)) else (if m < 62 then (if m < 61 then 1 else 10) else (if m < 63 then 1 else 1))) else (if m < 67 then (if m < 65 then 2 else (if m < 66 then 2 else 2)) else (if m < 69 then (if m < 68 then 3 else 3) else (if m < 70 then 3 else 6)))) else (if m < 78 then (if m < 74 then (if m < 72 then 3 else (if m < 73 then 7 else 7)) else (if m < 76 then (if m < 75 then 9 else 8) else (if m < 77 then 8 else 5))) else (if m < 81 then (if m < 79 then 3 else (if m < 80 then 4 else 8)) else (if m < 83 then (if m < 82 then 4 else 5) else (if m < 84 then 2 else 11))))) else (if m < 99 then (if m < 92 then (if m < 88 then (if m < 86 then 1 else (if m < 87 then 1 else 1)) else (if m < 90 then (if m < 89 then 1 else 7) else (if m < 91 then 7 else 7))) else (if m < 95 then (if m < 93 then 7 else (if m < 94 then 7 else 7)) else (if m < 97 then (if m < 96 then 7 else 1) else (if m < 98 then 1 else 1)))) else (if m < 106 then (if m < 102 then (if m < 100 then 6 else (if m < 101 then 7 else 7)) else (if m < 104 then (if m < 103 then 7 else 7) else (if m < 105 then 2 else 6))) else (if m < 110 then (if m < 108 then (if m < 107 then 7 else 7) else (if m < 109 then 7 else 7)) else (if m < 112 then (if m < 111 then 7 else 7) else (if m < 113 then 7 else 7))))))) else (if m < 171 then (if m < 142 then (if m < 128 then (if m < 121 then (if m < 117 then (if m < 115 then 6 else (if m < 116 then 3 else 1)) else (if m < 119 then (if m < 118 then 6 else 6) else (if m < 120 then 6 else 6))) else (if m < 124 then (if m < 122 then 6 else (if m < 123 then 1 else 1)) else (if m < 126 then (if m < 125 then 1 else 1) else (if m < 127 then 1 else 1)))) else (if m < 135 then (if m < 131 then (if m < 129 then 1 else (if m < 130 then 1 else 1)) else (if m < 133 then (if m < 132 then 1 else 2) else (if m < 134 then 1 else 1))) else (if m < 138 then (if m < 136 then 1 else (if m < 137 then 1 else 1)) else (if m < 140 then (if m < 139 then 2 else 2) else (if m < 141 then 2 else 6))))) else (if m < 156 then (if m < 149 then (if m < 145 then (if m < 143 then 3 else (if m < 144 then 3 else 2)) else (if m < 147 then (if m < 146 then 7 else 8) else (if m < 148 then 8 else 2))) else (if m < 152 then (if m < 150 then 9 else (if m < 151 then 1 else 4)) else (if m < 154 then (if m < 153 then 8 else 10) else (if m < 155 then 11 else 1)))) else (if m < 163 then (if m < 159 then (if m < 157 then 2 else (if m < 158 then 3 else 2)) else (if m < 161 then (if m < 160 then 4 else 2) else (if m < 162 then 2 else 3))) else (if m < 167 then (if m < 165 then (if m < 164 then 2 else 4) else (if m < 166 then 2 else 2)) else (if m < 169 then (if m < 168 then 2 else 1) else (if m < 170 then 1 else 1)))))) else (if m < 199 then (if m < 185 then (if m < 178 then (if m < 174 then (if m < 172 then 3 else (if m < 173 then 3 else 3)) else (if m < 176 then (if m < 175 then 2 else 3) else (if m < 177 then 3 else 3))) else (if m < 181 then (if m < 179 then 3 else (if m < 180 then 1 else 1)) else (if m < 183 then (if m < 182 then 1 else 3) else (if m < 184 then 5 else 4)))) else (if m < 192 then (if m < 188 then (if m < 186 then 4 else (if m < 187 then 5 else 2)) else (if m < 190 then (if m < 189 then 2 else 5) else (if m < 191 then 3 else 5))) else (if m < 195 then (if m < 193 then 2 else (if m < 194 then 6 else 5)) else (if m < 197 then (if m < 196 then 4 else 4) else (if m < 198 then 4 else 4))))) else (if m < 213 then (if m < 206 then (if m < 202 then (if m < 200 then 2 else (if m < 201 then 3 else 4)) else (if m < 204 then (if m < 203 then 4 else 3) else (if m < 205 then 3 else 12))) else (if m < 209 then (if m < 207 then 8 else (if m < 208 then 8 else 8)) else (if m < 211 then (if m < 210 then 8 else 8) else (if m < 212 then 8 else 8)))) else (if m < 220 then (if m < 216 then (if m < 214 then 7 else (if m < 215 then 8 else 8)) else (if m < 218 then (if m < 217 then 8 else 8) else (if m < 219 then 7 else 8))) else (if m < 224 then (if m < 222 then (if m < 221 then 8 else 8) else (if m < 223 then 8 else 8)) else (if m < 226 then (if m < 225 then 8 else 8) else (if m < 227 then 8 else 13))))))))
def hgLo (m : Nat) : Nat := (if m < 114 then (if m < 57 then (if m < 28 then (if m < 14 then (if m < 7 then (if m < 3 then (if m < 1 then 40 else (if m < 2 then 40 else 40)) else (if m < 5 then (if m < 4 then 40 else 40) else (if m < 6 then 40 else 83))) else (if m < 10 then (if m < 8 then 82 else (if m < 9 then 81 else 108)) else (if m < 12 then (if m < 11 then 63 else 64) else (if m < 13 then 40 else 40)))) else (if m < 21 then (if m < 17 then (if m < 15 then 40 else (if m < 16 then 40 else 40)) else (if m < 19 then (if m < 18 then 61 else 82) else (if m < 20 then 109 else 133))) else (if m < 24 then (if m < 22 then 133 else (if m < 23 then 40 else 156)) else (if m < 26 then (if m < 25 then 40 else 40) else (if m < 27 then 131 else 107))))) else (if m < 42 then (if m < 35 then (if m < 31 then (if m < 29 then 85 else (if m < 30 then 64 else 66)) else (if m < 33 then (if m < 32 then 103 else 130) else (if m < 34 then 130 else 40))) else (if m < 38 then (if m < 36 then 40 else (if m < 37 then 40 else 60)) else (if m < 40 then (if m < 39 then 61 else 61) else (if m < 41 then 61 else 61)))) else (if m < 49 then (if m < 45 then (if m < 43 then 40 else (if m < 44 then 40 else 65)) else (if m < 47 then (if m < 46 then 40 else 62) else (if m < 48 then 60 else 86))) else (if m < 53 then (if m < 51 then (if m < 50 then 40 else 65) else (if m < 52 then 64 else 40)) else (if m < 55 then (if m < 54 then 85 else 40) else (if m < 56 then 40 else 161)))))) else (if m < 85 then (if m < 71 then (if m < 64 then (if m < 60 then (if m < 58 then 134 else (if m < 59 then 109 else 40)) else (if m < 62 then (if m < 61 then 40 else 286) else (if m < 63 then 40 else 40))) else (if m < 67 then (if m < 65 then 61 else (if m < 66 then 61 else 61)) else (if m < 69 then (if m < 68 then 81 else 81) else (if m < 70 then 82 else 200)))) else (if m < 78 then (if m < 74 then (if m < 72 then 82 else (if m < 73 then 222 else 222)) else (if m < 76 then (if m < 75 then 266 else 242) else (if m < 77 then 242 else 124))) else (if m < 81 then (if m < 79 then 82 else (if m < 80 then 104 else 242)) else (if m < 83 then (if m < 82 then 104 else 125) else (if m < 84 then 62 else 309))))) else (if m < 99 then (if m < 92 then (if m < 88 then (if m < 86 then 40 else (if m < 87 then 40 else 40)) else (if m < 90 then (if m < 89 then 40 else 111) else (if m < 91 then 111 else 111))) else (if m < 95 then (if m < 93 then 111 else (if m < 94 then 111 else 111)) else (if m < 97 then (if m < 96 then 111 else 40) else (if m < 98 then 40 else 40)))) else (if m < 106 then (if m < 102 then (if m < 100 then 90 else (if m < 101 then 156 else 110)) else (if m < 104 then (if m < 103 then 184 else 159) else (if m < 105 then 64 else 153))) else (if m < 110 then (if m < 108 then (if m < 107 then 181 else 153) else (if m < 109 then 151 else 151)) else (if m < 112 then (if m < 111 then 151 else 151) else (if m < 113 then 151 else 151))))))) else (if m < 171 then (if m < 142 then (if m < 128 then (if m < 121 then (if m < 117 then (if m < 115 then 152 else (if m < 116 then 90 else 40)) else (if m < 119 then (if m < 118 then 90 else 90) else (if m < 120 then 90 else 90))) else (if m < 124 then (if m < 122 then 90 else (if m < 123 then 40 else 40)) else (if m < 126 then (if m < 125 then 40 else 40) else (if m < 127 then 40 else 40)))) else (if m < 135 then (if m < 131 then (if m < 129 then 40 else (if m < 130 then 40 else 40)) else (if m < 133 then (if m < 132 then 40 else 61) else (if m < 134 then 40 else 40))) else (if m < 138 then (if m < 136 then 40 else (if m < 137 then 40 else 40)) else (if m < 140 then (if m < 139 then 61 else 62) else (if m < 141 then 62 else 200))))) else (if m < 156 then (if m < 149 then (if m < 145 then (if m < 143 then 81 else (if m < 144 then 82 else 62)) else (if m < 147 then (if m < 146 then 222 else 243) else (if m < 148 then 243 else 60))) else (if m < 152 then (if m < 150 then 263 else (if m < 151 then 40 else 105)) else (if m < 154 then (if m < 153 then 243 else 289) else (if m < 155 then 310 else 40)))) else (if m < 163 then (if m < 159 then (if m < 157 then 62 else (if m < 158 then 87 else 60)) else (if m < 161 then (if m < 160 then 112 else 62) else (if m < 162 then 60 else 85))) else (if m < 167 then (if m < 165 then (if m < 164 then 61 else 106) else (if m < 166 then 62 else 62)) else (if m < 169 then (if m < 168 then 62 else 40) else (if m < 170 then 40 else 40)))))) else (if m < 199 then (if m < 185 then (if m < 178 then (if m < 174 then (if m < 172 then 83 else (if m < 173 then 83 else 83)) else (if m < 176 then (if m < 175 then 61 else 84) else (if m < 177 then 83 else 83))) else (if m < 181 then (if m < 179 then 83 else (if m < 180 then 40 else 40)) else (if m < 183 then (if m < 182 then 40 else 85) else (if m < 184 then 138 else 112)))) else (if m < 192 then (if m < 188 then (if m < 186 then 112 else (if m < 187 then 138 else 60)) else (if m < 190 then (if m < 189 then 60 else 132) else (if m < 191 then 84 else 138))) else (if m < 195 then (if m < 193 then 60 else (if m < 194 then 166 else 132)) else (if m < 197 then (if m < 196 then 105 else 105) else (if m < 198 then 105 else 105))))) else (if m < 213 then (if m < 206 then (if m < 202 then (if m < 200 then 60 else (if m < 201 then 84 else 107)) else (if m < 204 then (if m < 203 then 107 else 84) else (if m < 205 then 84 else 331))) else (if m < 209 then (if m < 207 then 132 else (if m < 208 then 132 else 132)) else (if m < 211 then (if m < 210 then 132 else 132) else (if m < 212 then 132 else 132)))) else (if m < 220 then (if m < 216 then (if m < 214 then 111 else (if m < 215 then 179 else 133)) else (if m < 218 then (if m < 217 then 205 else 181) else (if m < 219 then 175 else 205))) else (if m < 224 then (if m < 222 then (if m < 221 then 176 else 173) else (if m < 223 then 172 else 174)) else (if m < 226 then (if m < 225 then 176 else 172) else (if m < 227 then 173 else 354))))))))
def hgHh (m : Nat) : List (Nat × Nat × Nat × Nat) := (if m < 114 then (if m < 57 then (if m < 28 then (if m < 14 then (if m < 7 then (if m < 3 then (if m < 1 then [] else (if m < 2 then [] else [])) else (if m < 5 then (if m < 4 then [] else []) else (if m < 6 then [] else []))) else (if m < 10 then (if m < 8 then [] else (if m < 9 then [] else [])) else (if m < 12 then (if m < 11 then [] else []) else (if m < 13 then [] else [])))) else (if m < 21 then (if m < 17 then (if m < 15 then [] else (if m < 16 then [] else [])) else (if m < 19 then (if m < 18 then [] else []) else (if m < 20 then [] else []))) else (if m < 24 then (if m < 22 then [] else (if m < 23 then [] else [])) else (if m < 26 then (if m < 25 then [] else []) else (if m < 27 then [] else []))))) else (if m < 42 then (if m < 35 then (if m < 31 then (if m < 29 then [] else (if m < 30 then [] else [])) else (if m < 33 then (if m < 32 then [] else []) else (if m < 34 then [] else []))) else (if m < 38 then (if m < 36 then [] else (if m < 37 then [] else [])) else (if m < 40 then (if m < 39 then [] else []) else (if m < 41 then [] else [])))) else (if m < 49 then (if m < 45 then (if m < 43 then [] else (if m < 44 then [] else [])) else (if m < 47 then (if m < 46 then [] else []) else (if m < 48 then [] else []))) else (if m < 53 then (if m < 51 then (if m < 50 then [] else []) else (if m < 52 then [] else [])) else (if m < 55 then (if m < 54 then [] else []) else (if m < 56 then [] else [])))))) else (if m < 85 then (if m < 71 then (if m < 64 then (if m < 60 then (if m < 58 then [] else (if m < 59 then [] else [])) else (if m < 62 then (if m < 61 then [] else []) else (if m < 63 then [] else []))) else (if m < 67 then (if m < 65 then [] else (if m < 66 then [] else [])) else (if m < 69 then (if m < 68 then [] else []) else (if m < 70 then [] else [])))) else (if m < 78 then (if m < 74 then (if m < 72 then [] else (if m < 73 then [] else [])) else (if m < 76 then (if m < 75 then [] else []) else (if m < 77 then [] else []))) else (if m < 81 then (if m < 79 then [] else (if m < 80 then [] else [])) else (if m < 83 then (if m < 82 then [] else []) else (if m < 84 then [] else []))))) else (if m < 99 then (if m < 92 then (if m < 88 then (if m < 86 then [] else (if m < 87 then [] else [])) else (if m < 90 then (if m < 89 then [] else []) else (if m < 91 then [] else []))) else (if m < 95 then (if m < 93 then [] else (if m < 94 then [] else [])) else (if m < 97 then (if m < 96 then [] else []) else (if m < 98 then [] else [])))) else (if m < 106 then (if m < 102 then (if m < 100 then [] else (if m < 101 then [] else [])) else (if m < 104 then (if m < 103 then [] else []) else (if m < 105 then [] else []))) else (if m < 110 then (if m < 108 then (if m < 107 then [] else []) else (if m < 109 then [] else [])) else (if m < 112 then (if m < 111 then [] else []) else (if m < 113 then [] else []))))))) else (if m < 171 then (if m < 142 then (if m < 128 then (if m < 121 then (if m < 117 then (if m < 115 then [] else (if m < 116 then [] else [])) else (if m < 119 then (if m < 118 then [] else []) else (if m < 120 then [] else []))) else (if m < 124 then (if m < 122 then [] else (if m < 123 then [] else [])) else (if m < 126 then (if m < 125 then [] else []) else (if m < 127 then [] else [])))) else (if m < 135 then (if m < 131 then (if m < 129 then [] else (if m < 130 then [] else [])) else (if m < 133 then (if m < 132 then [] else []) else (if m < 134 then [] else []))) else (if m < 138 then (if m < 136 then [] else (if m < 137 then [] else [])) else (if m < 140 then (if m < 139 then [] else []) else (if m < 141 then [] else []))))) else (if m < 156 then (if m < 149 then (if m < 145 then (if m < 143 then [] else (if m < 144 then [] else [])) else (if m < 147 then (if m < 146 then [] else []) else (if m < 148 then [] else []))) else (if m < 152 then (if m < 150 then [] else (if m < 151 then [] else [])) else (if m < 154 then (if m < 153 then [] else []) else (if m < 155 then [] else [])))) else (if m < 163 then (if m < 159 then (if m < 157 then [] else (if m < 158 then [] else [])) else (if m < 161 then (if m < 160 then [] else []) else (if m < 162 then [] else []))) else (if m < 167 then (if m < 165 then (if m < 164 then [] else []) else (if m < 166 then [] else [])) else (if m < 169 then (if m < 168 then [] else []) else (if m < 170 then [] else [])))))) else (if m < 199 then (if m < 185 then (if m < 178 then (if m < 174 then (if m < 172 then [] else (if m < 173 then [] else [])) else (if m < 176 then (if m < 175 then [] else []) else (if m < 177 then [] else []))) else (if m < 181 then (if m < 179 then [] else (if m < 180 then [] else [])) else (if m < 183 then (if m < 182 then [] else []) else (if m < 184 then [] else [])))) else (if m < 192 then (if m < 188 then (if m < 186 then [] else (if m < 187 then [] else [])) else (if m < 190 then (if m < 189 then [] else []) else (if m < 191 then [] else []))) else (if m < 195 then (if m < 193 then [] else (if m < 194 then [] else [])) else (if m < 197 then (if m < 196 then [] else []) else (if m < 198 then [] else []))))) else (if m < 213 then (if m < 206 then (if m < 202 then (if m < 200 then [] else (if m < 201 then [] else [])) else (if m < 204 then (if m < 203 then [] else []) else (if m < 205 then [] else [(0, 9, 12, 13)]))) else (if m < 209 then (if m < 207 then [(0, 9, 12, 18)] else (if m < 208 then [(0, 9, 12, 18)] else [(0, 9, 12, 18)])) else (if m < 211 then (if m < 210 then [(0, 9, 12, 18)] else [(0, 8, 11, 18)]) else (if m < 212 then [(0, 9, 12, 18)] else [(0, 9, 12, 18)])))) else (if m < 220 then (if m < 216 then (if m < 214 then [(0, 16, 19, 13)] else (if m < 215 then [(0, 12, 15, 18), (0, 12, 19, 13)] else [(0, 12, 15, 13)])) else (if m < 218 then (if m < 217 then [(0, 16, 19, 18)] else [(0, 10, 13, 18)]) else (if m < 219 then [(0, 9, 12, 13)] else [(0, 14, 17, 18), (0, 14, 21, 13)]))) else (if m < 224 then (if m < 222 then (if m < 221 then [(0, 9, 12, 13), (0, 9, 15, 67)] else [(0, 9, 12, 18), (0, 9, 15, 67)]) else (if m < 223 then [(0, 9, 12, 18), (0, 9, 15, 67)] else [(0, 10, 13, 18), (0, 10, 17, 13)])) else (if m < 226 then (if m < 225 then [(0, 16, 19, 13), (0, 16, 23, 67)] else [(0, 9, 12, 18)]) else (if m < 227 then [(0, 10, 13, 18)] else []))))))))
def hgKd (m : Nat) : Nat := (if m < 114 then (if m < 57 then (if m < 28 then (if m < 14 then (if m < 7 then (if m < 3 then (if m < 1 then 2 else (if m < 2 then 0 else 0)) else (if m < 5 then (if m < 4 then 0 else 0) else (if m < 6 then 0 else 0))) else (if m < 10 then (if m < 8 then 0 else (if m < 9 then 2 else 0)) else (if m < 12 then (if m < 11 then 0 else 0) else (if m < 13 then 0 else 0)))) else (if m < 21 then (if m < 17 then (if m < 15 then 0 else (if m < 16 then 0 else 0)) else (if m < 19 then (if m < 18 then 0 else 0) else (if m < 20 then 0 else 0))) else (if m < 24 then (if m < 22 then 0 else (if m < 23 then 0 else 0)) else (if m < 26 then (if m < 25 then 0 else 0) else (if m < 27 then 0 else 0))))) else (if m < 42 then (if m < 35 then (if m < 31 then (if m < 29 then 0 else (if m < 30 then 0 else 0)) else (if m < 33 then (if m < 32 then 2 else 0) else (if m < 34 then 0 else 2))) else (if m < 38 then (if m < 36 then 0 else (if m < 37 then 0 else 0)) else (if m < 40 then (if m < 39 then 0 else 0) else (if m < 41 then 0 else 0)))) else (if m < 49 then (if m < 45 then (if m < 43 then 2 else (if m < 44 then 0 else 0)) else (if m < 47 then (if m < 46 then 0 else 0) else (if m < 48 then 2 else 0))) else (if m < 53 then (if m < 51 then (if m < 50 then 0 else 0) else (if m < 52 then 0 else 0)) else (if m < 55 then (if m < 54 then 0 else 0) else (if m < 56 then 0 else 0)))))) else (if m < 85 then (if m < 71 then (if m < 64 then (if m < 60 then (if m < 58 then 0 else (if m < 59 then 0 else 0)) else (if m < 62 then (if m < 61 then 2 else 0) else (if m < 63 then 0 else 0))) else (if m < 67 then (if m < 65 then 0 else (if m < 66 then 0 else 0)) else (if m < 69 then (if m < 68 then 0 else 0) else (if m < 70 then 0 else 0)))) else (if m < 78 then (if m < 74 then (if m < 72 then 0 else (if m < 73 then 0 else 0)) else (if m < 76 then (if m < 75 then 0 else 0) else (if m < 77 then 0 else 0))) else (if m < 81 then (if m < 79 then 0 else (if m < 80 then 0 else 0)) else (if m < 83 then (if m < 82 then 0 else 2) else (if m < 84 then 0 else 0))))) else (if m < 99 then (if m < 92 then (if m < 88 then (if m < 86 then 0 else (if m < 87 then 0 else 0)) else (if m < 90 then (if m < 89 then 0 else 0) else (if m < 91 then 0 else 0))) else (if m < 95 then (if m < 93 then 0 else (if m < 94 then 0 else 0)) else (if m < 97 then (if m < 96 then 0 else 0) else (if m < 98 then 0 else 0)))) else (if m < 106 then (if m < 102 then (if m < 100 then 0 else (if m < 101 then 0 else 0)) else (if m < 104 then (if m < 103 then 0 else 0) else (if m < 105 then 0 else 0))) else (if m < 110 then (if m < 108 then (if m < 107 then 0 else 0) else (if m < 109 then 0 else 0)) else (if m < 112 then (if m < 111 then 0 else 0) else (if m < 113 then 0 else 0))))))) else (if m < 171 then (if m < 142 then (if m < 128 then (if m < 121 then (if m < 117 then (if m < 115 then 0 else (if m < 116 then 0 else 0)) else (if m < 119 then (if m < 118 then 0 else 0) else (if m < 120 then 0 else 1))) else (if m < 124 then (if m < 122 then 0 else (if m < 123 then 2 else 0)) else (if m < 126 then (if m < 125 then 0 else 1) else (if m < 127 then 1 else 1)))) else (if m < 135 then (if m < 131 then (if m < 129 then 1 else (if m < 130 then 1 else 1)) else (if m < 133 then (if m < 132 then 1 else 1) else (if m < 134 then 1 else 0))) else (if m < 138 then (if m < 136 then 0 else (if m < 137 then 0 else 0)) else (if m < 140 then (if m < 139 then 0 else 1) else (if m < 141 then 1 else 0))))) else (if m < 156 then (if m < 149 then (if m < 145 then (if m < 143 then 0 else (if m < 144 then 0 else 0)) else (if m < 147 then (if m < 146 then 0 else 0) else (if m < 148 then 0 else 1))) else (if m < 152 then (if m < 150 then 0 else (if m < 151 then 1 else 0)) else (if m < 154 then (if m < 153 then 0 else 0) else (if m < 155 then 0 else 0)))) else (if m < 163 then (if m < 159 then (if m < 157 then 0 else (if m < 158 then 0 else 0)) else (if m < 161 then (if m < 160 then 0 else 1) else (if m < 162 then 1 else 1))) else (if m < 167 then (if m < 165 then (if m < 164 then 1 else 1) else (if m < 166 then 0 else 0)) else (if m < 169 then (if m < 168 then 0 else 0) else (if m < 170 then 0 else 0)))))) else (if m < 199 then (if m < 185 then (if m < 178 then (if m < 174 then (if m < 172 then 0 else (if m < 173 then 0 else 0)) else (if m < 176 then (if m < 175 then 0 else 0) else (if m < 177 then 0 else 0))) else (if m < 181 then (if m < 179 then 0 else (if m < 180 then 0 else 0)) else (if m < 183 then (if m < 182 then 0 else 0) else (if m < 184 then 0 else 0)))) else (if m < 192 then (if m < 188 then (if m < 186 then 0 else (if m < 187 then 0 else 0)) else (if m < 190 then (if m < 189 then 1 else 0) else (if m < 191 then 0 else 0))) else (if m < 195 then (if m < 193 then 0 else (if m < 194 then 0 else 0)) else (if m < 197 then (if m < 196 then 0 else 0) else (if m < 198 then 0 else 0))))) else (if m < 213 then (if m < 206 then (if m < 202 then (if m < 200 then 0 else (if m < 201 then 0 else 0)) else (if m < 204 then (if m < 203 then 0 else 0) else (if m < 205 then 0 else 1))) else (if m < 209 then (if m < 207 then 1 else (if m < 208 then 1 else 1)) else (if m < 211 then (if m < 210 then 1 else 1) else (if m < 212 then 1 else 1)))) else (if m < 220 then (if m < 216 then (if m < 214 then 1 else (if m < 215 then 1 else 1)) else (if m < 218 then (if m < 217 then 1 else 1) else (if m < 219 then 1 else 1))) else (if m < 224 then (if m < 222 then (if m < 221 then 1 else 1) else (if m < 223 then 1 else 1)) else (if m < 226 then (if m < 225 then 1 else 1) else (if m < 227 then 1 else 1))))))))
def hgMx (m : Nat) : List Nat := (if m < 114 then (if m < 57 then (if m < 28 then (if m < 14 then (if m < 7 then (if m < 3 then (if m < 1 then [126, 70, 125, 0] else (if m < 2 then [676, 70, 674, 675] else [441, 70, 439, 440])) else (if m < 5 then (if m < 4 then [1017, 70, 1015, 1016] else [934, 70, 932, 933]) else (if m < 6 then [975, 70, 973, 974] else [1009, 70, 1007, 1008]))) else (if m < 10 then (if m < 8 then [959, 70, 957, 958] else (if m < 9 then [119, 69, 118, 0] else [437, 69, 435, 436])) else (if m < 12 then (if m < 11 then [550, 69, 548, 549] else [672, 69, 670, 671]) else (if m < 13 then [708, 69, 706, 707] else [704, 69, 702, 703])))) else (if m < 21 then (if m < 17 then (if m < 15 then [554, 69, 552, 553] else (if m < 16 then [811, 69, 809, 810] else [843, 69, 842, 26])) else (if m < 19 then (if m < 18 then [839, 69, 838, 25] else [835, 69, 834, 24]) else (if m < 20 then [847, 69, 846, 27] else [831, 69, 829, 830]))) else (if m < 24 then (if m < 22 then [909, 69, 907, 908] else (if m < 23 then [424, 69, 422, 423] else [987, 69, 985, 986])) else (if m < 26 then (if m < 25 then [997, 69, 996, 35] else [926, 69, 924, 925]) else (if m < 27 then [930, 69, 928, 929] else [938, 69, 937, 31]))))) else (if m < 42 then (if m < 35 then (if m < 31 then (if m < 29 then [942, 69, 941, 32] else (if m < 30 then [946, 69, 945, 33] else [461, 69, 459, 460])) else (if m < 33 then (if m < 32 then [301, 73, 300, 0] else [727, 73, 725, 726]) else (if m < 34 then [433, 73, 431, 432] else [99, 68, 98, 0]))) else (if m < 38 then (if m < 36 then [993, 68, 991, 992] else (if m < 37 then [955, 68, 954, 34] else [1004, 68, 1002, 1003])) else (if m < 40 then (if m < 39 then [1013, 68, 1011, 1012] else [951, 68, 949, 950]) else (if m < 41 then [964, 68, 962, 963] else [971, 68, 969, 970])))) else (if m < 49 then (if m < 45 then (if m < 43 then [202, 72, 201, 0] else (if m < 44 then [453, 72, 451, 452] else [449, 72, 447, 448])) else (if m < 47 then (if m < 46 then [859, 72, 857, 858] else [855, 72, 853, 854]) else (if m < 48 then [195, 71, 194, 0] else [445, 71, 443, 444]))) else (if m < 53 then (if m < 51 then (if m < 50 then [685, 71, 683, 684] else [689, 71, 687, 688]) else (if m < 52 then [1096, 71, 1094, 1095] else [1100, 71, 1098, 1099])) else (if m < 55 then (if m < 54 then [851, 71, 849, 850] else [863, 71, 861, 862]) else (if m < 56 then [913, 71, 911, 912] else [888, 71, 886, 887])))))) else (if m < 85 then (if m < 71 then (if m < 64 then (if m < 60 then (if m < 58 then [893, 71, 892, 29] else (if m < 59 then [897, 71, 896, 30] else [466, 71, 464, 465])) else (if m < 62 then (if m < 61 then [321, 74, 320, 0] else [546, 74, 544, 545]) else (if m < 63 then [634, 74, 633, 8] else [573, 74, 572, 5]))) else (if m < 67 then (if m < 65 then [577, 74, 576, 6] else (if m < 66 then [642, 74, 641, 10] else [569, 74, 568, 4])) else (if m < 69 then (if m < 68 then [650, 74, 649, 12] else [646, 74, 645, 11]) else (if m < 70 then [565, 74, 564, 3] else [582, 74, 581, 7])))) else (if m < 78 then (if m < 74 then (if m < 72 then [638, 74, 637, 9] else (if m < 73 then [663, 74, 662, 15] else [561, 74, 560, 2])) else (if m < 76 then (if m < 75 then [654, 74, 653, 13] else [659, 74, 658, 14]) else (if m < 77 then [681, 74, 680, 16] else [696, 74, 695, 17]))) else (if m < 81 then (if m < 79 then [712, 74, 711, 19] else (if m < 80 then [700, 74, 699, 18] else [717, 74, 716, 20])) else (if m < 83 then (if m < 82 then [723, 74, 722, 21] else [91, 67, 90, 0]) else (if m < 84 then [384, 67, 382, 383] else [475, 67, 473, 474]))))) else (if m < 99 then (if m < 92 then (if m < 88 then (if m < 86 then [392, 67, 390, 391] else (if m < 87 then [396, 67, 394, 395] else [400, 67, 398, 399])) else (if m < 90 then (if m < 89 then [404, 67, 402, 403] else [737, 67, 735, 736]) else (if m < 91 then [764, 67, 762, 763] else [771, 67, 769, 770]))) else (if m < 95 then (if m < 93 then [778, 67, 776, 777] else (if m < 94 then [785, 67, 783, 784] else [792, 67, 790, 791])) else (if m < 97 then (if m < 96 then [799, 67, 797, 798] else [408, 67, 406, 407]) else (if m < 98 then [412, 67, 410, 411] else [416, 67, 414, 415])))) else (if m < 106 then (if m < 102 then (if m < 100 then [806, 67, 804, 805] else (if m < 101 then [818, 67, 816, 817] else [870, 67, 868, 869])) else (if m < 104 then (if m < 103 then [879, 67, 877, 878] else [905, 67, 903, 904]) else (if m < 105 then [420, 67, 418, 419] else [921, 67, 919, 920]))) else (if m < 110 then (if m < 108 then (if m < 107 then [982, 67, 980, 981] else [1025, 67, 1023, 1024]) else (if m < 109 then [1055, 67, 1053, 1054] else [1063, 67, 1061, 1062])) else (if m < 112 then (if m < 111 then [1072, 67, 1070, 1071] else [1080, 67, 1078, 1079]) else (if m < 113 then [1092, 67, 1090, 1091] else [1107, 67, 1105, 1106]))))))) else (if m < 171 then (if m < 142 then (if m < 128 then (if m < 121 then (if m < 117 then (if m < 115 then [429, 67, 427, 428] else (if m < 116 then [457, 67, 455, 456] else [388, 67, 387, 0])) else (if m < 119 then (if m < 118 then [741, 67, 740, 22] else [822, 67, 821, 23]) else (if m < 120 then [883, 67, 882, 28] else [826, 67, 825, 0]))) else (if m < 124 then (if m < 122 then [1030, 67, 1029, 36] else (if m < 123 then [1113, 75, 1112, 0] else [1178, 75, 1176, 1177])) else (if m < 126 then (if m < 125 then [1193, 75, 1192, 37] else [1189, 75, 1188, 0]) else (if m < 127 then [1443, 75, 1442, 0] else [1230, 75, 1229, 0])))) else (if m < 135 then (if m < 131 then (if m < 129 then [1253, 75, 1252, 0] else (if m < 130 then [1270, 75, 1269, 0] else [1302, 75, 1301, 0])) else (if m < 133 then (if m < 132 then [1291, 75, 1290, 0] else [1299, 75, 1298, 0]) else (if m < 134 then [1305, 75, 1304, 0] else [1182, 75, 1180, 1181]))) else (if m < 138 then (if m < 136 then [1210, 75, 1209, 41] else (if m < 137 then [1202, 75, 1201, 39] else [1219, 75, 1218, 42])) else (if m < 140 then (if m < 139 then [1206, 75, 1205, 40] else [1215, 75, 1214, 0]) else (if m < 141 then [1226, 75, 1225, 0] else [1198, 75, 1197, 38]))))) else (if m < 156 then (if m < 149 then (if m < 145 then (if m < 143 then [1234, 75, 1233, 44] else (if m < 144 then [1223, 75, 1222, 43] else [1276, 75, 1275, 50])) else (if m < 147 then (if m < 146 then [1247, 75, 1246, 47] else [1262, 75, 1261, 49]) else (if m < 148 then [1243, 75, 1242, 46] else [1267, 75, 1266, 0]))) else (if m < 152 then (if m < 150 then [1258, 75, 1257, 48] else (if m < 151 then [1283, 75, 1282, 0] else [1280, 75, 1279, 51])) else (if m < 154 then (if m < 153 then [1288, 75, 1287, 52] else [1238, 75, 1237, 45]) else (if m < 155 then [1186, 75, 1184, 1185] else [1309, 75, 1307, 1308])))) else (if m < 163 then (if m < 159 then (if m < 157 then [1403, 75, 1402, 60] else (if m < 158 then [1399, 75, 1398, 59] else [1395, 75, 1394, 58])) else (if m < 161 then (if m < 160 then [1391, 75, 1390, 57] else [1387, 75, 1386, 0]) else (if m < 162 then [1376, 75, 1375, 0] else [1437, 75, 1436, 0]))) else (if m < 167 then (if m < 165 then (if m < 164 then [1440, 75, 1439, 0] else [1434, 75, 1433, 0]) else (if m < 166 then [1329, 75, 1328, 54] else [1384, 75, 1383, 56])) else (if m < 169 then (if m < 168 then [1415, 75, 1414, 61] else [1313, 75, 1311, 1312]) else (if m < 170 then [1317, 75, 1315, 1316] else [1321, 75, 1319, 1320])))))) else (if m < 199 then (if m < 185 then (if m < 178 then (if m < 174 then (if m < 172 then [1325, 75, 1323, 1324] else (if m < 173 then [1333, 75, 1331, 1332] else [1337, 75, 1335, 1336])) else (if m < 176 then (if m < 175 then [1345, 75, 1344, 55] else [1341, 75, 1339, 1340]) else (if m < 177 then [1349, 75, 1347, 1348] else [1353, 75, 1351, 1352]))) else (if m < 181 then (if m < 179 then [1357, 75, 1355, 1356] else (if m < 180 then [1361, 75, 1359, 1360] else [1365, 75, 1363, 1364])) else (if m < 183 then (if m < 182 then [1369, 75, 1367, 1368] else [1373, 75, 1371, 1372]) else (if m < 184 then [1380, 75, 1378, 1379] else [1407, 75, 1405, 1406])))) else (if m < 192 then (if m < 188 then (if m < 186 then [1411, 75, 1409, 1410] else (if m < 187 then [1419, 75, 1417, 1418] else [1423, 75, 1421, 1422])) else (if m < 190 then (if m < 189 then [1431, 75, 1430, 0] else [1428, 75, 1426, 1427]) else (if m < 191 then [1296, 75, 1295, 53] else [1451, 75, 1450, 62]))) else (if m < 195 then (if m < 193 then [1456, 75, 1455, 63] else (if m < 194 then [1447, 75, 1445, 1446] else [1460, 75, 1458, 1459])) else (if m < 197 then (if m < 196 then [1465, 75, 1463, 1464] else [1469, 75, 1467, 1468]) else (if m < 198 then [1473, 75, 1471, 1472] else [1477, 75, 1475, 1476]))))) else (if m < 213 then (if m < 206 then (if m < 202 then (if m < 200 then [1489, 75, 1488, 65] else (if m < 201 then [1485, 75, 1484, 64] else [1481, 75, 1479, 1480])) else (if m < 204 then (if m < 203 then [1493, 75, 1491, 1492] else [1497, 75, 1495, 1496]) else (if m < 205 then [1501, 75, 1499, 1500] else [470, 66, 469, 0]))) else (if m < 209 then (if m < 207 then [732, 66, 731, 0] else (if m < 208 then [760, 66, 759, 0] else [767, 66, 766, 0])) else (if m < 211 then (if m < 210 then [774, 66, 773, 0] else [781, 66, 780, 0]) else (if m < 212 then [788, 66, 787, 0] else [795, 66, 794, 0])))) else (if m < 220 then (if m < 216 then (if m < 214 then [802, 66, 801, 0] else (if m < 215 then [814, 66, 813, 0] else [866, 66, 865, 0])) else (if m < 218 then (if m < 217 then [875, 66, 874, 0] else [901, 66, 900, 0]) else (if m < 219 then [917, 66, 916, 0] else [978, 66, 977, 0]))) else (if m < 224 then (if m < 222 then (if m < 221 then [1020, 66, 1019, 0] else [1051, 66, 1050, 0]) else (if m < 223 then [1059, 66, 1058, 0] else [1068, 66, 1067, 0])) else (if m < 226 then (if m < 225 then [1076, 66, 1075, 0] else [1088, 66, 1087, 0]) else (if m < 227 then [1103, 66, 1102, 0] else [0, 0, 0, 0]))))))))
def hgRoom (m : Nat) : Room := { frames := hgFr m, cells := (hgRm m).1, slots := (hgRm m).2, locals := hgLo m }
end
section
/-! THE WORLD: which heap cells the abstract memory stands for. ad: the address of each numbered cell (below 1000 the memory's own, from 1000 on the texts, 2000 the script). cy: the class of each kind of array. -/
def hgPh (ad : Nat → Nat) (v : Value) : Value := match v with
  | .ref a => .ref (ad a)
  | v => v
theorem hgPh_cat (ad : Nat → Nat) (v : Value) : (hgPh ad v).category = v.category := by cases v <;> rfl
def hgFv (ad : Nat → Nat) (M : hgMem) (a ci k : Nat) : Value := if hgFk ci k = 1 then .long (hgJ M a k) else if hgFk ci k = 2 then va_rf ((hgR M a k).map ad) else .int (hgI M a k)
def hgEn (cy : Nat → ClassId) (ad : Nat → Nat) (M : hgMem) (a : Nat) : va_E :=
  if (hgSh a).1 < 20 then .inr ((hgSh a).1, (List.range (hgSh a).2).map (fun k => hgFv ad M a (hgSh a).1 k))
  else if (hgSh a).1 = 21 then .inl (cy 21, (hgSh a).2, .inr (.inl (hgJ M a)))
  else if 24 ≤ (hgSh a).1 then .inl (cy (hgSh a).1, (hgSh a).2, .inr (.inr (.inr (.inr (fun i => (hgR M a i).map ad)))))
  else .inl (cy (hgSh a).1, (hgSh a).2, .inl (hgI M a))
def hgWs (cy : Nat → ClassId) (ad : Nat → Nat) (M : hgMem) : va_W := (List.range M.1).map (fun a => (ad a, hgEn cy ad M a))
theorem hgWs_at (cy : Nat → ClassId) (ad : Nat → Nat) (M : hgMem) {a : Nat} (h : a < M.1) : (hgWs cy ad M)[a]? = some (ad a, hgEn cy ad M a) := by
  simp [hgWs, h]
theorem hgWs_lt (cy : Nat → ClassId) (ad : Nat → Nat) (M : hgMem) {a : Nat} {q : Nat × va_E} (h : (hgWs cy ad M)[a]? = some q) : a < M.1 ∧ q = (ad a, hgEn cy ad M a) := by
  rcases Nat.lt_or_ge a M.1 with g | g
  · rw [hgWs_at cy ad M g] at h
    exact ⟨g, (Option.some.inj h).symm⟩
  · rw [List.getElem?_eq_none (by simp [hgWs]; exact g)] at h
    cases h
theorem hgWs_set (cy : Nat → ClassId) (ad : Nat → Nat) (M M1 : hgMem) {a : Nat} {e : va_E} (hN : M1.1 = M.1) (he : hgEn cy ad M1 a = e) (ho : ∀ b, b ≠ a → hgEn cy ad M1 b = hgEn cy ad M b) : (hgWs cy ad M).set a (ad a, e) = hgWs cy ad M1 := by
  apply List.ext_getElem?
  intro b
  rw [List.getElem?_set]
  by_cases hb : a = b
  · subst hb
    rw [if_pos rfl]
    split
    · next h =>
      have h : a < M.1 := by simpa [hgWs] using h
      rw [hgWs_at cy ad M1 (by rw [hN]; exact h), he]
    · next h =>
      have h : ¬ a < M.1 := by simpa [hgWs] using h
      rw [List.getElem?_eq_none (by simp [hgWs]; omega)]
  · rw [if_neg hb]
    rcases Nat.lt_or_ge b M.1 with g | g
    · rw [hgWs_at cy ad M g, hgWs_at cy ad M1 (by rw [hN]; exact g), ho b (fun q => hb q.symm)]
    · rw [List.getElem?_eq_none (by simp [hgWs]; omega), List.getElem?_eq_none (by simp [hgWs]; omega)]
theorem hgU_ne {α : Type} (f : Nat → Nat → α) (a k : Nat) (x : α) {b : Nat} (h : b ≠ a) : hgU f a k x b = f b := by
  funext j
  simp [hgU, h]
theorem hgU_at {α : Type} (f : Nat → Nat → α) (a k : Nat) (x : α) : hgU f a k x a = va_up (f a) k x := by
  funext j
  simp [hgU, va_up]
theorem hgEn_SI_ne (cy : Nat → ClassId) (ad : Nat → Nat) (M : hgMem) (a k : Nat) (x : Int32) {b : Nat} (h : b ≠ a) : hgEn cy ad (hgSI M a k x) b = hgEn cy ad M b := by
  have e1 : hgI (hgSI M a k x) b = hgI M b := hgU_ne _ _ _ _ h
  have e2 : hgJ (hgSI M a k x) b = hgJ M b := rfl
  have e3 : hgR (hgSI M a k x) b = hgR M b := rfl
  simp only [hgEn, hgFv, e1, e2, e3]
theorem hgEn_SJ_ne (cy : Nat → ClassId) (ad : Nat → Nat) (M : hgMem) (a k : Nat) (x : Int64) {b : Nat} (h : b ≠ a) : hgEn cy ad (hgSJ M a k x) b = hgEn cy ad M b := by
  have e1 : hgI (hgSJ M a k x) b = hgI M b := rfl
  have e2 : hgJ (hgSJ M a k x) b = hgJ M b := hgU_ne _ _ _ _ h
  have e3 : hgR (hgSJ M a k x) b = hgR M b := rfl
  simp only [hgEn, hgFv, e1, e2, e3]
theorem hgEn_SR_ne (cy : Nat → ClassId) (ad : Nat → Nat) (M : hgMem) (a k x : Nat) {b : Nat} (h : b ≠ a) : hgEn cy ad (hgSR M a k x) b = hgEn cy ad M b := by
  have e1 : hgI (hgSR M a k x) b = hgI M b := rfl
  have e2 : hgJ (hgSR M a k x) b = hgJ M b := rfl
  have e3 : hgR (hgSR M a k x) b = hgR M b := hgU_ne _ _ _ _ h
  simp only [hgEn, hgFv, e1, e2, e3]
/-- an object's fields, one of them set -/
theorem hgFs_set (ad : Nat → Nat) (M M1 : hgMem) (a ci n k : Nat) {v : Value} (hv : hgFv ad M1 a ci k = v) (ho : ∀ j, j ≠ k → hgFv ad M1 a ci j = hgFv ad M a ci j) : ((List.range n).map (fun j => hgFv ad M a ci j)).set k v = (List.range n).map (fun j => hgFv ad M1 a ci j) := by
  apply List.ext_getElem?
  intro b
  rw [List.getElem?_set]
  by_cases hb : k = b
  · subst hb
    rw [if_pos rfl]
    split
    · next h =>
      have h : k < n := by simpa using h
      simp [h, hv]
    · next h =>
      have h : ¬ k < n := by simpa using h
      simp [h]
  · rw [if_neg hb]
    rcases Nat.lt_or_ge b n with g | g
    · simp [g, ho b (fun q => hb q.symm)]
    · simp [Nat.not_lt.mpr g]
theorem hgEn_obj (cy : Nat → ClassId) (ad : Nat → Nat) (M : hgMem) {a ci : Nat} (h : (hgSh a).1 = ci) (hc : ci < 20) : hgEn cy ad M a = .inr (ci, (List.range (hgSh a).2).map (fun k => hgFv ad M a ci k)) := by
  subst h
  simp [hgEn, hc]
theorem hgEn_int (cy : Nat → ClassId) (ad : Nat → Nat) (M : hgMem) {a kd : Nat} (h : (hgSh a).1 = kd) (hc : kd = 20 ∨ kd = 22 ∨ kd = 23) : hgEn cy ad M a = .inl (cy kd, (hgSh a).2, .inl (hgI M a)) := by
  subst h
  rcases hc with h | h | h <;> simp [hgEn, h]
theorem hgEn_long (cy : Nat → ClassId) (ad : Nat → Nat) (M : hgMem) {a : Nat} (h : (hgSh a).1 = 21) : hgEn cy ad M a = .inl (cy 21, (hgSh a).2, .inr (.inl (hgJ M a))) := by
  simp [hgEn, h]
theorem hgEn_ref (cy : Nat → ClassId) (ad : Nat → Nat) (M : hgMem) {a kd : Nat} (h : (hgSh a).1 = kd) (hc : 24 ≤ kd) : hgEn cy ad M a = .inl (cy kd, (hgSh a).2, .inr (.inr (.inr (.inr (fun i => (hgR M a i).map ad))))) := by
  subst h
  have h1 : ¬ (hgSh a).1 < 20 := by omega
  have h2 : ¬ (hgSh a).1 = 21 := by omega
  simp [hgEn, h1, h2, hc]
/-- references of the memory point into it -/
def hgRok (M : hgMem) : Prop := ∀ a k r, hgR M a k = some r → r < M.1
theorem hgRok_SI {M : hgMem} (h : hgRok M) (a k : Nat) (x : Int32) : hgRok (hgSI M a k x) := h
theorem hgRok_SJ {M : hgMem} (h : hgRok M) (a k : Nat) (x : Int64) : hgRok (hgSJ M a k x) := h
theorem hgRok_SR {M : hgMem} (h : hgRok M) (a k : Nat) {x : Nat} (hx : x < M.1) : hgRok (hgSR M a k x) := by
  intro b j r hr
  have hr : hgU (hgR M) a k (some x) b j = some r := hr
  unfold hgU at hr
  split at hr
  · split at hr
    · cases hr; exact hx
    · exact h b j r hr
  · exact h b j r hr
/-- ad' names the old cells, the texts and the script as ad does -/
def hgExt (N : Nat) (ad ad1 : Nat → Nat) : Prop := ∀ a, a < N ∨ 1000 ≤ a → ad1 a = ad a
theorem hgExt.rf {N : Nat} {ad : Nat → Nat} : hgExt N ad ad := fun _ _ => rfl
theorem hgExt.tr {N N1 : Nat} {ad ad1 ad2 : Nat → Nat} (h : hgExt N ad ad1) (hN : N ≤ N1) (h1 : hgExt N1 ad1 ad2) : hgExt N ad ad2 := fun a ha => (h1 a (by omega)).trans (h a ha)
/-- what the locals hold -/
def hgAs (ad : Nat → Nat) : Nat → hgL → List (Nat × Value)
  | _, [] => []
  | i, none :: L => hgAs ad (i + 1) L
  | i, some v :: L => (i, hgPh ad v) :: hgAs ad (i + 1) L
theorem hgAs_mem {ad : Nat → Nat} : ∀ {L : hgL} {i j : Nat} {w : Value}, (j, w) ∈ hgAs ad i L ↔ ∃ (d : Nat) (v : Value), j = i + d ∧ hgG L d = some v ∧ w = hgPh ad v
  | [], i, j, w => by simp [hgAs, hgG]
  | none :: L, i, j, w => by
    rw [hgAs, hgAs_mem]
    constructor
    · rintro ⟨d, v, h1, h2, h3⟩
      exact ⟨d + 1, v, by omega, h2, h3⟩
    · rintro ⟨d, v, h1, h2, h3⟩
      cases d with
      | zero => simp [hgG] at h2
      | succ d => exact ⟨d, v, by omega, h2, h3⟩
  | some v0 :: L, i, j, w => by
    rw [hgAs, List.mem_cons, hgAs_mem]
    constructor
    · rintro (h | ⟨d, v, h1, h2, h3⟩)
      · cases h
        exact ⟨0, v0, rfl, rfl, rfl⟩
      · exact ⟨d + 1, v, by omega, h2, h3⟩
    · rintro ⟨d, v, h1, h2, h3⟩
      cases d with
      | zero =>
        left
        have h2 : some v0 = some v := h2
        cases h2
        rw [h1, h3]; rfl
      | succ d => exact Or.inr ⟨d, v, by omega, h2, h3⟩
def hgLH (ls : Array Slot) (nL : Nat) (ad : Nat → Nat) (L : hgL) : Prop := lv_has ls nL (hgAs ad 0 L)
theorem hgLH_get {ls : Array Slot} {nL : Nat} {ad : Nat → Nat} {L : hgL} (h : hgLH ls nL ad L) {i : Nat} {v : Value} (hv : hgG L i = some v) : ls[i]? = some (.val (hgPh ad v)) :=
  h.2.2 (i, hgPh ad v) (hgAs_mem.mpr ⟨i, v, (Nat.zero_add i).symm, hv, rfl⟩)
theorem hgLH_mono {ls : Array Slot} {nL : Nat} {ad : Nat → Nat} {L : hgL} {l : List (Nat × Value)} (h : lv_has ls nL l) (hs : ∀ i v, hgG L i = some v → (i, hgPh ad v) ∈ l) : hgLH ls nL ad L := by
  refine ⟨h.1, h.2.1, fun q hq => h.2.2 q ?_⟩
  obtain ⟨j, w⟩ := q
  obtain ⟨d, v, h1, h2, h3⟩ := hgAs_mem.mp hq
  rw [h3, h1, Nat.zero_add]
  exact hs d v h2
theorem hgG_put : ∀ {L : hgL} {i j : Nat} {v : Option Value} {w : Value}, hgG (hgPut L i v) j = some w → (j = i ∧ v = some w) ∨ (j ≠ i ∧ hgG L j = some w)
  | [], i, j, v, w, h => by simp [hgPut, hgG] at h
  | a :: L, 0, 0, v, w, h => Or.inl ⟨rfl, h⟩
  | a :: L, 0, j + 1, v, w, h => Or.inr ⟨by omega, h⟩
  | a :: L, i + 1, 0, v, w, h => Or.inr ⟨by omega, h⟩
  | a :: L, i + 1, j + 1, v, w, h => by
    rcases hgG_put (L := L) (i := i) (j := j) h with ⟨h1, h2⟩ | ⟨h1, h2⟩
    · exact Or.inl ⟨by omega, h2⟩
    · exact Or.inr ⟨by omega, h2⟩
theorem hgWide_of {v : Value} (h : v.category = 2) : hgWide (some v) = true := by
  cases v <;> first | rfl | (simp [Value.category] at h)
theorem hgG_S1 {L : hgL} {i j : Nat} {v : Option Value} {w : Value} (h : hgG (hgS1 L i v) j = some w) : (j = i ∧ v = some w) ∨ (j ≠ i ∧ hgG L j = some w ∧ ¬ (j + 1 = i ∧ w.category = 2)) := by
  cases i with
  | zero =>
    rcases hgG_put h with g | ⟨g1, g2⟩
    · exact Or.inl g
    · exact Or.inr ⟨g1, g2, fun q => by omega⟩
  | succ i =>
    unfold hgS1 at h
    dsimp only at h
    split at h
    · rcases hgG_put h with g | ⟨g1, g2⟩
      · exact Or.inl g
      · rcases hgG_put g2 with ⟨_, g4⟩ | ⟨g3, g4⟩
        · cases g4
        · exact Or.inr ⟨g1, g4, fun q => g3 (by omega)⟩
    · next hw =>
      rcases hgG_put h with g | ⟨g1, g2⟩
      · exact Or.inl g
      · refine Or.inr ⟨g1, g2, fun q => hw ?_⟩
        have e : j = i := by omega
        rw [← e, g2]
        exact hgWide_of q.2
theorem hgLH_st1 {ls ls1 : Array Slot} {nL : Nat} {ad : Nat → Nat} {L : hgL} {i : Nat} {v : Value} (h1 : lv_has ls1 nL ((i, hgPh ad v) :: (hgAs ad 0 L).filter (fun q => !(q.1 == i) && !(q.1 + 1 == i && q.2.category == 2)))) : hgLH ls1 nL ad (hgS1 L i (some v)) := by
  refine hgLH_mono h1 (fun j w hw => ?_)
  rcases hgG_S1 hw with ⟨g1, g2⟩ | ⟨g1, g2, g3⟩
  · cases g2
    rw [g1]
    exact List.mem_cons_self
  · refine List.mem_cons_of_mem _ (List.mem_filter.mpr ⟨hgAs_mem.mpr ⟨j, w, (Nat.zero_add j).symm, g2, rfl⟩, ?_⟩)
    simp only [Bool.and_eq_true, Bool.not_eq_true', beq_eq_false_iff_ne, ne_eq, Bool.and_eq_false_iff, hgPh_cat]
    refine ⟨g1, ?_⟩
    by_cases e : j + 1 = i
    · exact Or.inr (fun q => g3 ⟨e, q⟩)
    · exact Or.inl e
theorem hgLH_st2 {ls ls1 : Array Slot} {nL : Nat} {ad : Nat → Nat} {L : hgL} {i : Nat} {v : Value} (h1 : lv_has ls1 nL ((i, hgPh ad v) :: (hgAs ad 0 L).filter (fun q => !(q.1 == i) && (!(q.1 == i + 1) && !(q.1 + 1 == i && q.2.category == 2))))) : hgLH ls1 nL ad (hgS2 L i (some v)) := by
  refine hgLH_mono h1 (fun j w hw => ?_)
  rcases hgG_put hw with ⟨_, g2⟩ | ⟨g0, g2⟩
  · cases g2
  · rcases hgG_S1 g2 with ⟨g1, g2⟩ | ⟨g1, g2, g3⟩
    · cases g2
      rw [g1]
      exact List.mem_cons_self
    · refine List.mem_cons_of_mem _ (List.mem_filter.mpr ⟨hgAs_mem.mpr ⟨j, w, (Nat.zero_add j).symm, g2, rfl⟩, ?_⟩)
      simp only [Bool.and_eq_true, Bool.not_eq_true', beq_eq_false_iff_ne, ne_eq, Bool.and_eq_false_iff, hgPh_cat]
      refine ⟨g1, g0, ?_⟩
      by_cases e : j + 1 = i
      · exact Or.inr (fun q => g3 ⟨e, q⟩)
      · exact Or.inl e
theorem hgG_mask : ∀ {b : List Bool} {L : hgL} {j : Nat} {w : Value}, hgG (hgMask b L) j = some w → hgG L j = some w
  | [], L, j, w, h => by rw [hgMask] at h; exact h
  | true :: b, [], j, w, h => by simp [hgMask, hgG] at h
  | false :: b, [], j, w, h => by simp [hgMask, hgG] at h
  | true :: b, v :: L, 0, w, h => h
  | true :: b, v :: L, j + 1, w, h => hgG_mask (b := b) (L := L) (j := j) h
  | false :: b, v :: L, 0, w, h => by cases h
  | false :: b, v :: L, j + 1, w, h => hgG_mask (b := b) (L := L) (j := j) h
theorem hgLH_mask {ls : Array Slot} {nL : Nat} {ad : Nat → Nat} {L : hgL} (b : List Bool) (h : hgLH ls nL ad L) : hgLH ls nL ad (hgMask b L) :=
  hgLH_mono h (fun i v hv => hgAs_mem.mpr ⟨i, v, (Nat.zero_add i).symm, hgG_mask hv, rfl⟩)
theorem hgPh_ext {N : Nat} {ad ad1 : Nat → Nat} (h : hgExt N ad ad1) {v : Value} (hv : ∀ a, v = .ref a → a < N ∨ 1000 ≤ a) : hgPh ad1 v = hgPh ad v := by
  cases v <;> first | rfl | skip
  next a => exact congrArg Value.ref (h a (hv a rfl))
end
section
def hgTx : List String := ["home", "guest", "iot", "net", "any", "gateway", "device", "allow", "deny", "wake", "quiet", "limit"]
/-! CONTRACTS over the abstract memory: what a call finds and leaves. -/
def hgA (B0 : Nat) : Nat → Prop := fun q => B0 ≤ q
def hgTys (cy : Nat → ClassId) : List (ClassId × FieldType) := [(cy 20, .int), (cy 21, .long), (cy 22, .byte), (cy 23, .boolean), (cy 24, .object RX0), (cy 25, .object RX4), (cy 26, .object RX1), (cy 27, .array .int), (cy 28, .array .long)]
def hgTexts (B0 : Nat) (ad : Nat → Nat) (U : State) (H : Heap) : Prop := ∀ i, i < 12 → ∃ av : Nat, va_O "java/lang/String" (ad (1000 + i)) (hgA B0) U H ∧ va_OF "java/lang/String" "coder" "B" (.int 0) (ad (1000 + i)) (hgA B0) U H ∧ va_OF "java/lang/String" "value" "[B" (.ref av) (ad (1000 + i)) (hgA B0) U H ∧ va_T .byte av (hgStr.getD i []).length (fun j => .int (nI ((hgStr.getD i []).getD j 0))) (hgA B0) U H
def hgXn (e : Nat) : String := if e = 0 then "java/lang/IllegalArgumentException" else if e = 1 then "java/lang/IllegalStateException" else "java/lang/IndexOutOfBoundsException"
def hgNc (U : State) : Prop := ∀ E1 E2, E1 ≤ 2 → E2 ≤ 2 → E1 ≠ E2 → va_Nc (hgXn E1) (hgXn E2) U
theorem va_AOA.moved {t : FieldType} {u U : State} (hvm : u.vm.Alike U.vm) (h : va_AOA t u) : va_AOA t U := by
  have h1 : (Cond.arrayOver (.array t)).before #[] (u.setVm U.vm) = true := by rw [Cond.arrayOver_setVmC hvm]; exact h
  exact h1
/-- two kinds of words that stay, though the kit's list of those that stay hasn't them -/
def hgDc (w : Cond) : Bool := match w with
  | .declares _ => true
  | .castable _ _ => true
  | _ => false
theorem hgDc_on {w : Cond} (h : hgDc w = true) : w.onTables = true := by
  cases w <;> first | rfl | cases h
theorem hgDc_moved {w : Cond} (h : hgDc w = true) {u U : State} (hvm : u.vm.Alike U.vm) (hz : va_Nw w u) : va_Nw w U := by
  cases w with
  | declares x => exact va_tabs rfl (rfl : (u.setVm U.vm).vm = U.vm) (show (Cond.declares x).before #[] (u.setVm U.vm) = true by rw [Cond.declares_setVm hvm]; exact hz)
  | castable a b => exact va_tabs rfl (rfl : (u.setVm U.vm).vm = U.vm) (show (Cond.castable a b).before #[] (u.setVm U.vm) = true by rw [Cond.castable_setVm hvm]; exact hz)
  | _ => cases h
def hgDcs (U : State) : Prop := ∀ w ∈ lw_tbl, hgDc w = true → va_Nw w U
def hgAov (U : State) : Prop := va_AO RX0 U ∧ va_AO RX4 U ∧ va_AO RX1 U ∧ va_AOA .int U ∧ va_AOA .long U ∧ hgNc U ∧ hgDcs U
theorem hgAov.moved {u U : State} (hvm : u.vm.Alike U.vm) (h : hgAov u) : hgAov U := ⟨va_AO.moved hvm h.1, va_AO.moved hvm h.2.1, va_AO.moved hvm h.2.2.1, va_AOA.moved hvm h.2.2.2.1, va_AOA.moved hvm h.2.2.2.2.1, fun a b h1 h2 h3 => (h.2.2.2.2.2.1 a b h1 h2 h3).moved hvm, fun w hw hd => hgDc_moved hd hvm (h.2.2.2.2.2.2 w hw hd)⟩
def hgRefs (ad : Nat → Nat) (U : State) : Prop := (∀ own k tx, Cond.stringRef own k tx ∈ tables_1 → ∃ sa : Nat, vk_R own k tx sa U ∧ ∀ i, hgTx[i]? = some tx → sa = ad (1000 + i)) ∧ hgAov U
def hgStat (B0 : Nat) (X : hgX) (ad : Nat → Nat) (U : State) (H : Heap) : Prop :=
  vx_Zq Bundle.tN "UNASSIGNED_STACK" Bundle.steD (hgA B0) U H ∧ vx_Zq Bundle.tN "SUPPRESSED_SENTINEL" Bundle.listD (hgA B0) U H ∧ hgTexts B0 ad U H ∧ hgRefs ad U ∧ va_Z "java/lang/String" "COMPACT_STRINGS" "Z" (.int 1) (hgA B0) U H ∧ va_Zq "jdk/internal/util/Preconditions" "SIOOBE_FORMATTER" "Ljava/util/function/BiFunction;" (hgA B0) U H ∧ va_X (ad 2000) X.1 X.2 U H ∧ ad 2000 < B0
theorem hgStat.kept {B0 : Nat} {X : hgX} {ad : Nat → Nat} {U : State} {H H1 : Heap} (h : hgStat B0 X ad U H) (hq : ∀ a : Nat, a < H.size → ¬ hgA B0 a → H1[a]? = H[a]?) : hgStat B0 X ad U H1 := by
  obtain ⟨h1, h2, h3, h4, h5, h6, h7, h8⟩ := h
  refine ⟨h1.kept hq, h2.kept hq, fun i hi => ?_, h4, h5.kept hq, h6.kept hq, ?_, h8⟩
  · obtain ⟨av, g1, g2, g3, g4⟩ := h3 i hi
    exact ⟨av, g1.kept hq, g2.kept hq, g3.kept hq, g4.kept hq⟩
  · obtain ⟨scr, g1, g2⟩ := id h7
    exact h7.kept (hq _ (Array.getElem?_eq_some_iff.mp g1).1 (Nat.not_le.mpr h8))
theorem hgStat.warm {B0 : Nat} {X : hgX} {ad : Nat → Nat} {s U : State} {H : Heap} (hW : s.WarmedH U.vm) (h : hgStat B0 X ad s H) : hgStat B0 X ad U H := by
  obtain ⟨h1, h2, h3, h4, h5, h6, h7, h8⟩ := h
  have hA := hW.alike
  refine ⟨h1.moved hA, h2.moved hA, fun i hi => ?_, ⟨fun own k tx hm => ?_, h4.2.moved hA⟩, h5.moved hA, h6.moved hA, h7.moved hA, h8⟩
  · obtain ⟨av, g1, g2, g3, g4⟩ := h3 i hi
    exact ⟨av, va_O.moved hA g1, va_OF.moved hA g2, va_OF.moved hA g3, va_T.moved hA g4⟩
  · obtain ⟨sa, g1, g2⟩ := h4.1 own k tx hm
    exact ⟨sa, g1.warm hW, g2⟩
theorem hgStat.ext {B0 N : Nat} {X : hgX} {ad ad1 : Nat → Nat} {U : State} {H : Heap} (he : hgExt N ad ad1) (h : hgStat B0 X ad U H) : hgStat B0 X ad1 U H := by
  obtain ⟨h1, h2, h3, h4, h5, h6, h7, h8⟩ := h
  have e : ∀ i, ad1 (1000 + i) = ad (1000 + i) := fun i => he _ (Or.inr (by omega))
  refine ⟨h1, h2, fun i hi => ?_, ⟨fun own k tx hm => ?_, h4.2⟩, h5, h6, ?_, ?_⟩
  · rw [e i]; exact h3 i hi
  · obtain ⟨sa, g1, g2⟩ := h4.1 own k tx hm
    exact ⟨sa, g1, fun i hi => by rw [e i]; exact g2 i hi⟩
  · rw [show ad1 2000 = ad 2000 from e 1000]; exact h7
  · rw [show ad1 2000 = ad 2000 from e 1000]; exact h8
def hgPre (B0 : Nat) (D : va_G) (cy : Nat → ClassId) (X : hgX) (ad : Nat → Nat) (M : hgMem) (U : State) : Prop := B0 ≤ U.heap.size ∧ va_P D vwCl (hgWs cy ad M) U.heap ∧ va_D (hgA B0) (hgWs cy ad M) ∧ va_K D vwCl (hgTys cy) U ∧ hgStat B0 X ad U U.heap ∧ hgRok M
def hgPost (B0 : Nat) (D : va_G) (cy : Nat → ClassId) (ad : Nat → Nat) (M : hgMem) (ad1 : Nat → Nat) (M1 : hgMem) (t : State) : Prop := va_P D vwCl (hgWs cy ad1 M1) t.heap ∧ va_D (hgA B0) (hgWs cy ad1 M1) ∧ hgRok M1 ∧ M.1 ≤ M1.1 ∧ hgExt M.1 ad ad1
/-- an answer: none, or a number -/
def hgRv (v : Value) : Option Value := match v with
  | .null => none
  | v => some v
def hgNum (v : Value) : Prop := ∀ a, v ≠ .ref a
def hgQc (B0 : Nat) (D : va_G) (cy : Nat → ClassId) (ad : Nat → Nat) (M : hgMem) (out : hgOut) : Array Value → State → Outcome → State → Prop := fun _ st oc t => ∃ (v : Value) (M1 : hgMem) (ad1 : Nat → Nat), out = (.inl v, M1) ∧ hgNum v ∧ oc = .returned (hgRv v) ∧ hgPost B0 D cy ad M ad1 M1 t ∧ va_F (hgA B0) st t
def hgXc (B0 : Nat) (D : va_G) (cy : Nat → ClassId) (ad : Nat → Nat) (M : hgMem) (out : hgOut) : String → State → State → Prop := fun E st t => ∃ (x : Nat) (M1 : hgMem) (ad1 : Nat → Nat), out = (.inr x, M1) ∧ E = hgXn x ∧ hgPost B0 D cy ad M ad1 M1 t ∧ va_F (hgA B0) st t
/-- the words: all of the tables that stay -/
def hgTb : List Cond := lw_tbl.filter goodWord
def hgHead (q : Nat) : Cond := if hgHh q = [] then .code (hgY q) (hgCode q) (hgMl q) (hgRet q) else .codeWith (hgY q) (hgCode q) (hgMl q) (hgRet q) (hgHh q)
def hgWd (q : Nat) : List Cond := hgHead q :: hgTb
def hgCt (l : Launch) (B0 : Nat) (D : va_G) (cy : Nat → ClassId) (X : hgX) (q : Nat) (as : List Value) (ad : Nat → Nat) (M : hgMem) (out : hgOut) : Prop :=
  vx_Met l (hgY q) (hgWd q) (hgRoom q) (va_Pc (as.map (hgPh ad)) (hgPre B0 D cy X ad M)) (hgQc B0 D cy ad M out) (hgXc B0 D cy ad M out) (hgRm q).1 (hgRm q).2 (hgA B0)
/-- values that name cells that are there -/
def hgVk (N : Nat) (v : Value) : Prop := ∀ a, v = .ref a → a < N ∨ 1000 ≤ a
def hgSk (N : Nat) (S : List Value) : Prop := ∀ v ∈ S, hgVk N v
theorem hgVk_i {N : Nat} {x : Int32} : hgVk N (.int x) := fun a h => by cases h
theorem hgVk_l {N : Nat} {x : Int64} : hgVk N (.long x) := fun a h => by cases h
theorem hgVk_f {N : Nat} {x : UInt32} : hgVk N (.float x) := fun a h => by cases h
theorem hgVk_r {N a : Nat} (h : a < N) : hgVk N (.ref a) := fun b e => by cases e; exact Or.inl h
theorem hgVk_t {N a : Nat} (h : 1000 ≤ a) : hgVk N (.ref a) := fun b e => by cases e; exact Or.inr h
theorem hgSk_n {N : Nat} : hgSk N [] := fun v h => by cases h
theorem hgSk_c {N : Nat} {v : Value} {r : List Value} (h : hgVk N v) (hr : hgSk N r) : hgSk N (v :: r) := fun w hw => by
  rcases List.mem_cons.mp hw with e | e
  · rw [e]; exact h
  · exact hr w e
theorem hgSk_t {N : Nat} {v : Value} {r : List Value} (h : hgSk N (v :: r)) : hgSk N r := fun w hw => h w (List.mem_cons_of_mem _ hw)
theorem hgSk_h {N : Nat} {v : Value} {r : List Value} (h : hgSk N (v :: r)) : hgVk N v := h v List.mem_cons_self
theorem hgVk_m {N N1 : Nat} {v : Value} (h : hgVk N v) (hN : N ≤ N1) : hgVk N1 v := fun a e => by
  rcases h a e with g | g
  · exact Or.inl (Nat.lt_of_lt_of_le g hN)
  · exact Or.inr g
theorem hgVk_num {N : Nat} {v : Value} (h : hgNum v) : hgVk N v := fun a e => absurd e (h a)
/-- the machine inside a method, as the abstract one has it -/
def hgNow (B0 : Nat) (D : va_G) (cy : Nat → ClassId) (s : State) (nL N0 : Nat) (ad0 ad : Nat → Nat) (L : hgL) (S : List Value) (M : hgMem) (H : Heap) (locs : List Loc) (ls : Array Slot) : Prop :=
  va_P D vwCl (hgWs cy ad M) H ∧ va_D (hgA B0) (hgWs cy ad M) ∧ va_S (hgA B0) s.heap H locs ∧ hgLH ls nL ad L ∧ (∀ i v, hgG L i = some v → hgVk M.1 v) ∧ hgSk M.1 S ∧ hgRok M ∧ N0 ≤ M.1 ∧ hgExt N0 ad0 ad
theorem hgNow.sk {B0 : Nat} {D : va_G} {cy : Nat → ClassId} {s : State} {nL N0 : Nat} {ad0 ad : Nat → Nat} {L : hgL} {S : List Value} {M : hgMem} {H : Heap} {locs : List Loc} {ls : Array Slot} (h : hgNow B0 D cy s nL N0 ad0 ad L S M H locs ls) : hgSk M.1 S := h.2.2.2.2.2.1
theorem hgNow.to {B0 : Nat} {D : va_G} {cy : Nat → ClassId} {s : State} {nL N0 : Nat} {ad0 ad : Nat → Nat} {L : hgL} {S S1 : List Value} {M : hgMem} {H : Heap} {locs : List Loc} {ls : Array Slot} (h : hgNow B0 D cy s nL N0 ad0 ad L S M H locs ls) (h1 : hgSk M.1 S1) : hgNow B0 D cy s nL N0 ad0 ad L S1 M H locs ls :=
  ⟨h.1, h.2.1, h.2.2.1, h.2.2.2.1, h.2.2.2.2.1, h1, h.2.2.2.2.2.2⟩
end
section
/-! WHAT A PROGRAM CHECKS of each row: the code has it, the tables have its words, its numbers fit. -/
def hgWt (w : Nat) : Option Cond := tables_1[w]?
def hgIl (i : Instr) : Nat := match i with
  | .bipush _ => 2 | .ldc _ => 2 | .iload _ => 2 | .lload _ => 2 | .fload _ => 2 | .aload _ => 2 | .istore _ => 2 | .lstore _ => 2 | .fstore _ => 2 | .astore _ => 2 | .newarray _ => 2
  | .sipush _ => 3 | .ldc_w _ => 3 | .ldc2_w _ => 3 | .iinc _ _ => 3 | .goto _ => 3 | .ifCond _ _ => 3 | .if_icmp _ _ => 3 | .getfield _ => 3 | .putfield _ => 3 | .new _ => 3 | .anewarray _ => 3 | .invokevirtual _ => 3 | .invokestatic _ => 3 | .invokespecial _ => 3
  | .multianewarray _ _ => 4
  | _ => 1
def hgFld (q idx ci f kd w : Nat) : Bool := match vwCl[ci]? with
  | some (C, T, N) => decide (f < N) && decide (hgFk ci f = kd) && decide ((T f).1 = C) && decide (hgWt w = some (.fieldLink (hgOwn q) idx C (T f).2.1 (T f).2.2.1))
  | none => false
def hgFin (ci f : Nat) : Option (String × Bool) := match vwCl[ci]? with
  | some (C, T, _) => some (C, (T f).2.2.2)
  | none => none
def hgPrm (p : Nat) : Option MethodName := if p = 1000 then some Lib.Math.max.name else if p = 1001 then some Lib.Math.min.name else if p = 1002 then some Lib.MathLoose.max_long.x else if p = 1003 then some yJ0_length_8abf5 else if p = 1004 then some yJ0_charAt_5068e else if p = 1005 then some objectInit else none
def hgPrmRoom (p : Nat) : Nat × Nat := if p = 1003 then (3, 120) else if p = 1004 then (6, 200) else (1, 40)
def hgArity (y : MethodName) : Nat := match parseMethodDescriptor y.desc with
  | some d => d.parameters.length
  | none => 99
def hgNames : List String := ["java/lang/RuntimeException", "java/lang/Exception"]
def hgIt (w : Cond) : Bool := decide (w ∈ lw_tbl) && goodWord w
/-- of each method, once -/
def hgIx (i : Nat) (w : Cond) : Bool := decide (lw_tbl[i]? = some w) && goodWord w
def hgMok (p : Nat) : Bool := match hgMx p with
  | [i0, i1, i2, i3] => hgIx i0 (hgHead p) && hgIx i1 (Cond.initialized (hgOwn p)) && decide ((hgY p).cls = hgOwn p) && decide (plainName (hgY p).cls = true) && decide ((hgY p).cls ≠ "java/lang/invoke/MethodHandle" ∧ (hgY p).cls ≠ "java/lang/invoke/VarHandle") && decide (parseMethodDescriptor (hgY p).desc ≠ none) &&
    (if hgKd p = 0 then hgIx i2 (Cond.instanceMethod (hgY p)) && hgIx i3 (Cond.selects (hgOwn p) (hgY p) (hgY p)) && decide (hgHh p = []) && decide ((hgY p).name ≠ "<init>") else if hgKd p = 1 then hgIx i2 (Cond.static (hgY p)) && decide ((hgY p).name ≠ "<init>") else hgIx i2 (Cond.instanceMethod (hgY p)) && decide ((hgY p).name = "<init>") && decide (hgHh p = []) && decide (hgRet p = none))
  | _ => false
def hgNcOk (E1 E2 : Nat) : Bool := decide (E1 ≤ 2) && decide (E2 ≤ 2) && decide (E1 ≠ E2)
/-- the row's handlers are the table's: they cover pc, their classes, where they go on -/
def hgHOk (q pc : Nat) : List (Nat × Nat × Nat) → List (Nat × Nat × Nat × Nat) → Bool
  | [], [] => true
  | (E, t, loc) :: r, (st, en, hp, ct) :: r2 => decide (st ≤ pc) && decide (pc < en) && decide (E ≤ 2) && decide (ct ≠ 0) && decide (loc < hgMl q) && ((decide (loc = 3) && decide (t = hp + 1) && decide (decode (hgCode q) hp = .ok (.astore_n 3, 1))) || (decide (t = hp + 2) && decide (decode (hgCode q) hp = .ok (.astore loc, 2)))) && hgIt (Cond.classLink (hgOwn q) ct (hgXn E)) && decide (Cond.castable (hgXn E) (hgXn E) ∈ lw_tbl) && r.all (fun z => hgNcOk z.1 E) && hgHOk q pc r r2
  | _, _ => false
def hgCallOk (q pc idx : Nat) (kind : Nat) (ps : List Nat) (hs : List (Nat × Nat × Nat)) : Bool := match ps with
  | [p, n, v, w, mc, ms, ci] =>
    if 1000 ≤ p then (match hgPrm p with
      | some y => decide (hgWt w = some (.methodLink (hgOwn q) idx y)) && decide ((hgPrmRoom p).1 ≤ hgFr q) && decide ((hgPrmRoom p).2 ≤ hgLo q) && decide (kind = if p = 1005 then 2 else if p < 1003 then 1 else 0)
      | none => false)
    else decide (p < 227) && decide (hgWt w = some (.methodLink (hgOwn q) idx (hgY p))) && decide (mc = (hgRm p).1) && decide (ms = (hgRm p).2) && decide (hgFr p + 1 ≤ hgFr q) && decide (8 + (hgMl p + 11) + hgLo p ≤ hgLo q) && decide (n = hgArity (hgY p) + if kind = 1 then 0 else 1) && decide (hgKd p = kind) && decide (v = if hgRet p = none then 1 else 0) && (if kind = 1 then decide (ci = 99) else (match vwCl[ci]? with
        | some (C, _, _) => decide (C = hgOwn p)
        | none => false)) && (match hs with
        | [] => (hgHh q).all (fun h => !(decide (h.1 ≤ pc) && decide (pc < h.2.1)))
        | _ => hgHOk q pc hs (hgHh q))
  | _ => false
/-- 'throw new E("text")' -/
def hgThr (q pc idx E w1 w2 is ic : Nat) : Bool := decide (E ≤ 2) && decide (hgWt w1 = some (.classLink (hgOwn q) idx (hgXn E))) && decide (6 ≤ hgFr q) && decide (90 ≤ hgLo q) && decide (decode (hgCode q) (pc + 3) = .ok (.dup, 1)) && decide (decode (hgCode q) (pc + 4) = .ok (.ldc is, 2)) && decide (decode (hgCode q) (pc + 6) = .ok (.invokespecial ic, 3)) && decide (decode (hgCode q) (pc + 9) = .ok (.athrow, 1)) && decide (hgHh q = []) && (match hgWt w2 with
      | some (.stringRef own k _) => decide (own = hgOwn q) && decide (k = is)
      | _ => false) && Bundle.fit (hgXn E) && hgNames.all (fun n => Bundle.fit n) && (Cond.classLink (hgOwn q) idx (hgXn E) :: Cond.initialized (hgXn E) :: vx_atS (hgOwn q) ic (hgXn E) hgNames).all (fun w => decide (w ∈ lw_tbl) && (goodWord w || hgDc w) && vx_ot w)
def hgChk (q pc : Nat) (i : Instr) (len : Nat) (ps : List Nat) (hs : List (Nat × Nat × Nat)) : Bool := match i with
  | .tableswitch d lo hi offs => match ps with
    | [t] => decide ((pc : Int) + d = (t : Int)) && decide (lo = 0) && decide (hi + 1 = (hs.length : Int)) && decide (hs.length < 1000) && (List.range hs.length).all (fun j => match offs[j]? with
      | some o => decide ((pc : Int) + o = ((hs.getD j (0, 0, 0)).1 : Int))
      | none => false)
    | _ => false
  | .goto off => decide (len = 3) && match ps with
    | [t] => decide ((pc : Int) + off = (t : Int))
    | _ => false
  | .ifCond _ off => decide (len = 3) && match ps with
    | [t] => decide ((pc : Int) + off = (t : Int))
    | _ => false
  | .if_icmp _ off => decide (len = 3) && match ps with
    | [t] => decide ((pc : Int) + off = (t : Int))
    | _ => false
  | .ldc idx => decide (len = 2) && match ps with
    | [0, w, v] => decide (hgWt w = some (.constant (hgOwn q) idx (nI v)))
    | [1, w, v] => decide (hgWt w = some (.constantFloat (hgOwn q) idx (UInt32.ofNat v)))
    | [2, w, v] => decide (1000 ≤ v) && (match hgTx[v - 1000]? with
      | some tx => decide (hgWt w = some (.stringRef (hgOwn q) idx tx))
      | none => false)
    | _ => false
  | .ldc_w idx => decide (len = 3) && match ps with
    | [0, w, v] => decide (hgWt w = some (.constant (hgOwn q) idx (nI v)))
    | _ => false
  | .ldc2_w idx => decide (len = 3) && match ps with
    | [0, w, v] => decide (hgWt w = some (.constantLong (hgOwn q) idx (lN v)))
    | [1, w, v] => decide (hgWt w = some (.constantLong (hgOwn q) idx (-lN v)))
    | _ => false
  | .getfield idx => decide (len = 3) && match ps with
    | [ci, f, kd, w] => hgFld q idx ci f kd w
    | _ => false
  | .putfield idx => decide (len = 3) && match ps with
    | [ci, f, kd, w, fin] => hgFld q idx ci f kd w && (match hgFin ci f with
      | some (C, b) => if fin = 1 then b && decide (C = hgOwn q) && decide ((hgY q).name = "<init>") else !b
      | none => false)
    | _ => false
  | .new idx => decide (len = 3) && match ps with
    | [1, ci, n, w] => (match vwCl[ci]? with
      | some (C, _, N) => decide (n = N) && decide (hgWt w = some (.classLink (hgOwn q) idx C))
      | none => false)
    | [2, E, w1, w2, is, ic] => hgThr q pc idx E w1 w2 is ic
    | _ => false
  | .newarray ty => decide (len = 2) && match ps with
    | [20] => decide (ty = .int)
    | [21] => decide (ty = .long)
    | [22] => decide (ty = .byte)
    | [23] => decide (ty = .boolean)
    | _ => false
  | .anewarray idx => decide (len = 3) && match ps with
    | [24, w] => decide (hgWt w = some (.classLink (hgOwn q) idx RX0))
    | [25, w] => decide (hgWt w = some (.classLink (hgOwn q) idx RX4))
    | [26, w] => decide (hgWt w = some (.classLink (hgOwn q) idx RX1))
    | _ => false
  | .multianewarray idx dim => decide (len = 4) && decide (dim = 2) && match ps with
    | [27, 20, n, k, w] => decide (hgWt w = some (.classLink (hgOwn q) idx "[[I")) && decide (n < 1000) && decide (k < 1000000)
    | [28, 21, n, k, w] => decide (hgWt w = some (.classLink (hgOwn q) idx "[[J")) && decide (n < 1000) && decide (k < 1000000)
    | _ => false
  | .invokevirtual idx => decide (len = 3) && hgCallOk q pc idx 0 ps hs
  | .invokestatic idx => decide (len = 3) && hgCallOk q pc idx 1 ps hs
  | .invokespecial idx => decide (len = 3) && hgCallOk q pc idx 2 ps hs
  | .ireturn => decide (len = 1) && match ps with
    | [3] => decide (hgRet q = some .boolean)
    | [1] => decide (hgRet q = some .int)
    | _ => false
  | .lreturn => decide (len = 1) && decide (hgRet q = some .long)
  | .return_ => decide (len = 1) && decide (hgRet q = none)
  | .istore n => decide (len = 2) && decide (n < hgMl q)
  | .fstore n => decide (len = 2) && decide (n < hgMl q)
  | .astore n => decide (len = 2) && decide (n < hgMl q)
  | .lstore n => decide (len = 2) && decide (n + 1 < hgMl q)
  | .istore_n n => decide (len = 1) && decide (n.val < hgMl q)
  | .fstore_n n => decide (len = 1) && decide (n.val < hgMl q)
  | .astore_n n => decide (len = 1) && decide (n.val < hgMl q)
  | .lstore_n n => decide (len = 1) && decide (n.val + 1 < hgMl q)
  | i => decide (len = hgIl i)
def hgOkB (q : Nat) : Nat → List hgRow → Bool
  | _, [] => true
  | pc, (i, len, ps, hs) :: rs => decide (decode (hgCode q) pc = .ok (i, len)) && hgChk q pc i len ps hs && hgOkB q (pc + len) rs
end
section
/-! THE CHECKS of all rows, by the kernel. -/
def hgOkM (z : Nat) : Bool := (hgBs z).all (fun b => hgOkB z b.1 b.2.2)
theorem hg_chunk {f : Nat → Bool} {a n : Nat} (h : (List.range' a n).all f = true) : ∀ z, a ≤ z → z < a + n → f z = true := fun z h1 h2 => List.all_eq_true.mp h z (List.mem_range'_1.mpr ⟨h1, h2⟩)
set_option maxRecDepth 100000 in
theorem hgm_0 : (List.range' 0 8).all hgMok = true := by decide +kernel
set_option maxRecDepth 100000 in
theorem hgm_8 : (List.range' 8 8).all hgMok = true := by decide +kernel
set_option maxRecDepth 100000 in
theorem hgm_16 : (List.range' 16 8).all hgMok = true := by decide +kernel
set_option maxRecDepth 100000 in
theorem hgm_24 : (List.range' 24 8).all hgMok = true := by decide +kernel
set_option maxRecDepth 100000 in
theorem hgm_32 : (List.range' 32 8).all hgMok = true := by decide +kernel
set_option maxRecDepth 100000 in
theorem hgm_40 : (List.range' 40 8).all hgMok = true := by decide +kernel
set_option maxRecDepth 100000 in
theorem hgm_48 : (List.range' 48 8).all hgMok = true := by decide +kernel
set_option maxRecDepth 100000 in
theorem hgm_56 : (List.range' 56 8).all hgMok = true := by decide +kernel
set_option maxRecDepth 100000 in
theorem hgm_64 : (List.range' 64 8).all hgMok = true := by decide +kernel
set_option maxRecDepth 100000 in
theorem hgm_72 : (List.range' 72 8).all hgMok = true := by decide +kernel
set_option maxRecDepth 100000 in
theorem hgm_80 : (List.range' 80 8).all hgMok = true := by decide +kernel
set_option maxRecDepth 100000 in
theorem hgm_88 : (List.range' 88 8).all hgMok = true := by decide +kernel
set_option maxRecDepth 100000 in
theorem hgm_96 : (List.range' 96 8).all hgMok = true := by decide +kernel
set_option maxRecDepth 100000 in
theorem hgm_104 : (List.range' 104 8).all hgMok = true := by decide +kernel
set_option maxRecDepth 100000 in
theorem hgm_112 : (List.range' 112 8).all hgMok = true := by decide +kernel
set_option maxRecDepth 100000 in
theorem hgm_120 : (List.range' 120 8).all hgMok = true := by decide +kernel
set_option maxRecDepth 100000 in
theorem hgm_128 : (List.range' 128 8).all hgMok = true := by decide +kernel
set_option maxRecDepth 100000 in
theorem hgm_136 : (List.range' 136 8).all hgMok = true := by decide +kernel
set_option maxRecDepth 100000 in
theorem hgm_144 : (List.range' 144 8).all hgMok = true := by decide +kernel
set_option maxRecDepth 100000 in
theorem hgm_152 : (List.range' 152 8).all hgMok = true := by decide +kernel
set_option maxRecDepth 100000 in
theorem hgm_160 : (List.range' 160 8).all hgMok = true := by decide +kernel
set_option maxRecDepth 100000 in
theorem hgm_168 : (List.range' 168 8).all hgMok = true := by decide +kernel
set_option maxRecDepth 100000 in
theorem hgm_176 : (List.range' 176 8).all hgMok = true := by decide +kernel
set_option maxRecDepth 100000 in
theorem hgm_184 : (List.range' 184 8).all hgMok = true := by decide +kernel
set_option maxRecDepth 100000 in
theorem hgm_192 : (List.range' 192 8).all hgMok = true := by decide +kernel
set_option maxRecDepth 100000 in
theorem hgm_200 : (List.range' 200 8).all hgMok = true := by decide +kernel
set_option maxRecDepth 100000 in
theorem hgm_208 : (List.range' 208 8).all hgMok = true := by decide +kernel
set_option maxRecDepth 100000 in
theorem hgm_216 : (List.range' 216 8).all hgMok = true := by decide +kernel
set_option maxRecDepth 100000 in
theorem hgm_224 : (List.range' 224 3).all hgMok = true := by decide +kernel
end
section
set_option maxRecDepth 100000 in
theorem hgo_0 : (List.range' 0 8).all hgOkM = true := by decide +kernel
set_option maxRecDepth 100000 in
theorem hgo_8 : (List.range' 8 8).all hgOkM = true := by decide +kernel
set_option maxRecDepth 100000 in
theorem hgo_16 : (List.range' 16 8).all hgOkM = true := by decide +kernel
set_option maxRecDepth 100000 in
theorem hgo_24 : (List.range' 24 8).all hgOkM = true := by decide +kernel
set_option maxRecDepth 100000 in
theorem hgo_32 : (List.range' 32 8).all hgOkM = true := by decide +kernel
set_option maxRecDepth 100000 in
theorem hgo_40 : (List.range' 40 8).all hgOkM = true := by decide +kernel
set_option maxRecDepth 100000 in
theorem hgo_48 : (List.range' 48 8).all hgOkM = true := by decide +kernel
set_option maxRecDepth 100000 in
theorem hgo_56 : (List.range' 56 8).all hgOkM = true := by decide +kernel
set_option maxRecDepth 100000 in
theorem hgo_64 : (List.range' 64 8).all hgOkM = true := by decide +kernel
set_option maxRecDepth 100000 in
theorem hgo_72 : (List.range' 72 8).all hgOkM = true := by decide +kernel
set_option maxRecDepth 100000 in
theorem hgo_80 : (List.range' 80 8).all hgOkM = true := by decide +kernel
set_option maxRecDepth 100000 in
theorem hgo_88 : (List.range' 88 8).all hgOkM = true := by decide +kernel
set_option maxRecDepth 100000 in
theorem hgo_96 : (List.range' 96 8).all hgOkM = true := by decide +kernel
set_option maxRecDepth 100000 in
theorem hgo_104 : (List.range' 104 8).all hgOkM = true := by decide +kernel
set_option maxRecDepth 100000 in
theorem hgo_112 : (List.range' 112 8).all hgOkM = true := by decide +kernel
set_option maxRecDepth 100000 in
theorem hgo_120 : (List.range' 120 8).all hgOkM = true := by decide +kernel
set_option maxRecDepth 100000 in
theorem hgo_128 : (List.range' 128 8).all hgOkM = true := by decide +kernel
set_option maxRecDepth 100000 in
theorem hgo_136 : (List.range' 136 8).all hgOkM = true := by decide +kernel
set_option maxRecDepth 100000 in
theorem hgo_144 : (List.range' 144 8).all hgOkM = true := by decide +kernel
set_option maxRecDepth 100000 in
theorem hgo_152 : (List.range' 152 8).all hgOkM = true := by decide +kernel
set_option maxRecDepth 100000 in
theorem hgo_160 : (List.range' 160 8).all hgOkM = true := by decide +kernel
set_option maxRecDepth 100000 in
theorem hgo_168 : (List.range' 168 8).all hgOkM = true := by decide +kernel
set_option maxRecDepth 100000 in
theorem hgo_176 : (List.range' 176 8).all hgOkM = true := by decide +kernel
set_option maxRecDepth 100000 in
theorem hgo_184 : (List.range' 184 8).all hgOkM = true := by decide +kernel
set_option maxRecDepth 100000 in
theorem hgo_192 : (List.range' 192 8).all hgOkM = true := by decide +kernel
set_option maxRecDepth 100000 in
theorem hgo_200 : (List.range' 200 8).all hgOkM = true := by decide +kernel
set_option maxRecDepth 100000 in
theorem hgo_208 : (List.range' 208 8).all hgOkM = true := by decide +kernel
set_option maxRecDepth 100000 in
theorem hgo_216 : (List.range' 216 8).all hgOkM = true := by decide +kernel
set_option maxRecDepth 100000 in
theorem hgo_224 : (List.range' 224 3).all hgOkM = true := by decide +kernel
end
section
theorem hg_chunks {l : List (Nat × List Bool × List hgRow)} {f : Nat × List Bool × List hgRow → Bool} (c n : Nat) (hc : 0 < c) (hn : l.length ≤ c * n) (h : ∀ k, k < n → ((l.drop (c * k)).take c).all f = true) : l.all f = true := by
  rw [List.all_eq_true]
  intro x hx
  obtain ⟨i, hi, rfl⟩ := List.getElem_of_mem hx
  have h1 : i / c < n := Nat.div_lt_of_lt_mul (by omega)
  refine List.all_eq_true.mp (h (i / c) h1) _ (List.mem_of_getElem? (i := i % c) ?_)
  rw [List.getElem?_take, if_pos (Nat.mod_lt _ hc), List.getElem?_drop, Nat.div_add_mod]
  exact List.getElem?_eq_getElem hi
set_option maxRecDepth 100000 in
theorem hgol_0 : (((hgBs 227).drop (9 * 0)).take 9).all (fun b => hgOkB 227 b.1 b.2.2) = true := by decide +kernel
set_option maxRecDepth 100000 in
theorem hgol_1 : (((hgBs 227).drop (9 * 1)).take 9).all (fun b => hgOkB 227 b.1 b.2.2) = true := by decide +kernel
set_option maxRecDepth 100000 in
theorem hgol_2 : (((hgBs 227).drop (9 * 2)).take 9).all (fun b => hgOkB 227 b.1 b.2.2) = true := by decide +kernel
set_option maxRecDepth 100000 in
theorem hgol_3 : (((hgBs 227).drop (9 * 3)).take 9).all (fun b => hgOkB 227 b.1 b.2.2) = true := by decide +kernel
set_option maxRecDepth 100000 in
theorem hgol_4 : (((hgBs 227).drop (9 * 4)).take 9).all (fun b => hgOkB 227 b.1 b.2.2) = true := by decide +kernel
end
section
set_option maxRecDepth 100000 in
theorem hgol_5 : (((hgBs 227).drop (9 * 5)).take 9).all (fun b => hgOkB 227 b.1 b.2.2) = true := by decide +kernel
set_option maxRecDepth 100000 in
theorem hgol_6 : (((hgBs 227).drop (9 * 6)).take 9).all (fun b => hgOkB 227 b.1 b.2.2) = true := by decide +kernel
set_option maxRecDepth 100000 in
theorem hgol_7 : (((hgBs 227).drop (9 * 7)).take 9).all (fun b => hgOkB 227 b.1 b.2.2) = true := by decide +kernel
end
section
set_option maxRecDepth 100000 in
theorem hgol_8_0 : (((((hgBs 227).drop (9 * 8)).take 9).drop (3 * 0)).take 3).all (fun b => hgOkB 227 b.1 b.2.2) = true := by decide +kernel
set_option maxRecDepth 100000 in
theorem hgol_8_1 : (((((hgBs 227).drop (9 * 8)).take 9).drop (3 * 1)).take 3).all (fun b => hgOkB 227 b.1 b.2.2) = true := by decide +kernel
set_option maxRecDepth 100000 in
theorem hgol_8_2 : (((((hgBs 227).drop (9 * 8)).take 9).drop (3 * 2)).take 3).all (fun b => hgOkB 227 b.1 b.2.2) = true := by decide +kernel
end
section
set_option maxRecDepth 100000 in
theorem hgol_9_0 : (((((hgBs 227).drop (9 * 9)).take 9).drop (3 * 0)).take 3).all (fun b => hgOkB 227 b.1 b.2.2) = true := by decide +kernel
set_option maxRecDepth 100000 in
theorem hgol_9_1 : (((((hgBs 227).drop (9 * 9)).take 9).drop (3 * 1)).take 3).all (fun b => hgOkB 227 b.1 b.2.2) = true := by decide +kernel
set_option maxRecDepth 100000 in
theorem hgol_9_2 : (((((hgBs 227).drop (9 * 9)).take 9).drop (3 * 2)).take 3).all (fun b => hgOkB 227 b.1 b.2.2) = true := by decide +kernel
set_option maxRecDepth 100000 in
theorem hgol_8 : (((hgBs 227).drop (9 * 8)).take 9).all (fun b => hgOkB 227 b.1 b.2.2) = true := by
  refine hg_chunks 3 3 (by omega) (by decide +kernel) (fun k hk => ?_)
  match k, hk with
  | 0, _ => exact hgol_8_0
  | 1, _ => exact hgol_8_1
  | 2, _ => exact hgol_8_2
  | k + 3, hk => omega
set_option maxRecDepth 100000 in
theorem hgol_9 : (((hgBs 227).drop (9 * 9)).take 9).all (fun b => hgOkB 227 b.1 b.2.2) = true := by
  refine hg_chunks 3 3 (by omega) (by decide +kernel) (fun k hk => ?_)
  match k, hk with
  | 0, _ => exact hgol_9_0
  | 1, _ => exact hgol_9_1
  | 2, _ => exact hgol_9_2
  | k + 3, hk => omega
set_option maxRecDepth 100000 in
theorem hgo_law : hgOkM 227 = true := by
  refine hg_chunks 9 10 (by omega) (by decide +kernel) (fun k hk => ?_)
  match k, hk with
  | 0, _ => exact hgol_0
  | 1, _ => exact hgol_1
  | 2, _ => exact hgol_2
  | 3, _ => exact hgol_3
  | 4, _ => exact hgol_4
  | 5, _ => exact hgol_5
  | 6, _ => exact hgol_6
  | 7, _ => exact hgol_7
  | 8, _ => exact hgol_8
  | 9, _ => exact hgol_9
  | k + 10, hk => omega
end
section
/-! THE ROWS: what the abstract machine does, the machine does. -/
def hgCx (p : Program) (l : Launch) (R : Room) (s : State) (m : MethodId) (args : Array Value) (meth : Method) (c : Code) (q B0 : Nat) (D : va_G) (cy : Nat → ClassId) (X : hgX) (ad0 : Nat → Nat) : Prop :=
  p.tables.exec = Jvm.exec ∧ c.code = hgCode q ∧ c.maxLocals = hgMl q ∧ s.vm.findClass (hgOwn q) = some m.cls ∧ (∀ w ∈ hgTb, w.before args s = true) ∧ B0 ≤ s.heap.size ∧ va_K D vwCl (hgTys cy) s ∧ hgStat B0 X ad0 s s.heap ∧ (hgFr q ≤ R.frames ∧ hgLo q ≤ R.locals ∧ R.cells = (hgRm q).1 ∧ R.slots = (hgRm q).2) ∧ (l.stackTraces = false ∧ (hgHh q ≠ [] → c.exceptionTable.toList = tableOf (hgHh q)) ∧ meth.locks = false) ∧ ((hgY q).name = "<init>" → meth.name = "<init>")
/-- the machine goes on from here to Q -/
def hgGo (p : Program) (l : Launch) (e : Env) (R : Room) (s : State) (m : MethodId) (args : Array Value) (below : List Frame) (meth : Method) (c : Code) (Q : State → Prop) (B0 : Nat) (D : va_G) (cy : Nat → ClassId) (nL N0 : Nat) (ad0 : Nat → Nat) (pc : Nat) (L : hgL) (S : List Value) (K : hgK) (M : hgMem) : Prop :=
  ∀ (ad : Nat → Nat) (H : Heap) (locs : List Loc) (ls : Array Slot), hgNow B0 D cy s nL N0 ad0 ad L S M H locs ls → K.1 ≤ R.cells → K.2 ≤ R.slots → W p l e R s m args below meth c H locs K.1 K.2 Q (F0 m pc ls (S.map (hgPh ad)))
theorem hgi1_some {S : List Value} {f : Int32 → List Value → Option hgOut} {o : hgOut} (h : hgi1 S f = some o) : ∃ x r, S = .int x :: r ∧ f x r = some o := by
  unfold hgi1 at h
  split at h
  · exact ⟨_, _, rfl, h⟩
  · cases h
theorem hgi2_some {S : List Value} {f : Int32 → Int32 → List Value → Option hgOut} {o : hgOut} (h : hgi2 S f = some o) : ∃ x y r, S = .int y :: .int x :: r ∧ f x y r = some o := by
  unfold hgi2 at h
  split at h
  · exact ⟨_, _, _, rfl, h⟩
  · cases h
theorem hgj2_some {S : List Value} {f : Int64 → Int64 → List Value → Option hgOut} {o : hgOut} (h : hgj2 S f = some o) : ∃ x y r, S = .long y :: .long x :: r ∧ f x y r = some o := by
  unfold hgj2 at h
  split at h
  · exact ⟨_, _, _, rfl, h⟩
  · cases h
theorem hgf1_some {S : List Value} {f : UInt32 → List Value → Option hgOut} {o : hgOut} (h : hgf1 S f = some o) : ∃ x r, S = .float x :: r ∧ f x r = some o := by
  unfold hgf1 at h
  split at h
  · exact ⟨_, _, rfl, h⟩
  · cases h
theorem hgf2_some {S : List Value} {f : UInt32 → UInt32 → List Value → Option hgOut} {o : hgOut} (h : hgf2 S f = some o) : ∃ x y r, S = .float y :: .float x :: r ∧ f x y r = some o := by
  unfold hgf2 at h
  split at h
  · exact ⟨_, _, _, rfl, h⟩
  · cases h
theorem hgr1_some {S : List Value} {f : Nat → List Value → Option hgOut} {o : hgOut} (h : hgr1 S f = some o) : ∃ a r, S = .ref a :: r ∧ f a r = some o := by
  unfold hgr1 at h
  split at h
  · exact ⟨_, _, rfl, h⟩
  · cases h
theorem hgr2_some {S : List Value} {f : Nat → Int32 → List Value → Option hgOut} {o : hgOut} (h : hgr2 S f = some o) : ∃ a i r, S = .int i :: .ref a :: r ∧ f a i r = some o := by
  unfold hgr2 at h
  split at h
  · exact ⟨_, _, _, rfl, h⟩
  · cases h
theorem hgld0_some {L : hgL} {n : Nat} {f : Value → Option hgOut} {o : hgOut} (h : hgld L n 0 f = some o) : ∃ x, hgG L n = some (.int x) ∧ f (.int x) = some o := by
  unfold hgld at h
  split at h <;> first | (next e => exact ⟨_, e, h⟩) | (next e1 e2 => cases e1) | cases h
theorem hgld1_some {L : hgL} {n : Nat} {f : Value → Option hgOut} {o : hgOut} (h : hgld L n 1 f = some o) : ∃ x, hgG L n = some (.long x) ∧ f (.long x) = some o := by
  unfold hgld at h
  split at h <;> first | (next e => exact ⟨_, e, h⟩) | (next e1 e2 => cases e1) | cases h
theorem hgld2_some {L : hgL} {n : Nat} {f : Value → Option hgOut} {o : hgOut} (h : hgld L n 2 f = some o) : ∃ x, hgG L n = some (.float x) ∧ f (.float x) = some o := by
  unfold hgld at h
  split at h <;> first | (next e => exact ⟨_, e, h⟩) | (next e1 e2 => cases e1) | cases h
theorem hgld3_some {L : hgL} {n : Nat} {f : Value → Option hgOut} {o : hgOut} (h : hgld L n 3 f = some o) : ∃ x, hgG L n = some (.ref x) ∧ f (.ref x) = some o := by
  unfold hgld at h
  split at h <;> first | (next e => exact ⟨_, e, h⟩) | (next e1 e2 => cases e1) | cases h
theorem hgst0_some {S : List Value} {f : Value → List Value → Option hgOut} {o : hgOut} (h : hgst S 0 f = some o) : ∃ x r, S = .int x :: r ∧ f (.int x) r = some o := by
  unfold hgst at h
  split at h <;> first | exact ⟨_, _, rfl, h⟩ | (next e1 e2 => cases e1) | (next e1 => cases e1) | cases h
theorem hgst1_some {S : List Value} {f : Value → List Value → Option hgOut} {o : hgOut} (h : hgst S 1 f = some o) : ∃ x r, S = .long x :: r ∧ f (.long x) r = some o := by
  unfold hgst at h
  split at h <;> first | exact ⟨_, _, rfl, h⟩ | (next e1 e2 => cases e1) | (next e1 => cases e1) | cases h
theorem hgst2_some {S : List Value} {f : Value → List Value → Option hgOut} {o : hgOut} (h : hgst S 2 f = some o) : ∃ x r, S = .float x :: r ∧ f (.float x) r = some o := by
  unfold hgst at h
  split at h <;> first | exact ⟨_, _, rfl, h⟩ | (next e1 e2 => cases e1) | (next e1 => cases e1) | cases h
theorem hgst3_some {S : List Value} {f : Value → List Value → Option hgOut} {o : hgOut} (h : hgst S 3 f = some o) : ∃ x r, S = .ref x :: r ∧ f (.ref x) r = some o := by
  unfold hgst at h
  split at h <;> first | exact ⟨_, _, rfl, h⟩ | (next e1 e2 => cases e1) | (next e1 => cases e1) | cases h
theorem hgdup_some {S : List Value} {f : Value → List Value → Option hgOut} {o : hgOut} (h : hgdup S f = some o) : ∃ v r, S = v :: r ∧ v.category = 1 ∧ f v r = some o := by
  unfold hgdup at h
  split at h <;> first | exact ⟨_, _, rfl, rfl, h⟩ | cases h
theorem hgIn_vp {i : Int32} {n : Nat} (h : hgIn i n = true) : vp_in i n := by
  simp only [hgIn, Bool.and_eq_true, decide_eq_true_eq] at h
  exact vp_in_iff.mpr h
section HGROW
variable {p : Program} {l : Launch} {e : Env} {R : Room} {s : State} {m : MethodId} {args : Array Value} {below : List Frame} {meth : Method} {c : Code} {Q : State → Prop} {q B0 nL N0 : Nat} {D : va_G} {cy : Nat → ClassId} {X : hgX} {ad0 : Nat → Nat}
theorem hgNow.st1 {ad : Nat → Nat} {L : hgL} {S S1 : List Value} {M : hgMem} {H : Heap} {locs : List Loc} {ls ls1 : Array Slot} (h : hgNow B0 D cy s nL N0 ad0 ad L S M H locs ls) {i : Nat} {v : Value} (hv : hgVk M.1 v) (hS : hgSk M.1 S1) (h1 : lv_has ls1 nL ((i, hgPh ad v) :: (hgAs ad 0 L).filter (fun q => !(q.1 == i) && !(q.1 + 1 == i && q.2.category == 2)))) : hgNow B0 D cy s nL N0 ad0 ad (hgS1 L i (some v)) S1 M H locs ls1 := by
  refine ⟨h.1, h.2.1, h.2.2.1, hgLH_st1 (ls := ls) h1, fun j w hw => ?_, hS, h.2.2.2.2.2.2⟩
  rcases hgG_S1 hw with ⟨_, g2⟩ | ⟨_, g2, _⟩
  · cases g2; exact hv
  · exact h.2.2.2.2.1 j w g2
theorem hgNow.st2 {ad : Nat → Nat} {L : hgL} {S S1 : List Value} {M : hgMem} {H : Heap} {locs : List Loc} {ls ls1 : Array Slot} (h : hgNow B0 D cy s nL N0 ad0 ad L S M H locs ls) {i : Nat} {v : Value} (hv : hgVk M.1 v) (hS : hgSk M.1 S1) (h1 : lv_has ls1 nL ((i, hgPh ad v) :: (hgAs ad 0 L).filter (fun q => !(q.1 == i) && (!(q.1 == i + 1) && !(q.1 + 1 == i && q.2.category == 2))))) : hgNow B0 D cy s nL N0 ad0 ad (hgS2 L i (some v)) S1 M H locs ls1 := by
  refine ⟨h.1, h.2.1, h.2.2.1, hgLH_st2 (ls := ls) h1, fun j w hw => ?_, hS, h.2.2.2.2.2.2⟩
  rcases hgG_put hw with ⟨_, g2⟩ | ⟨_, g2⟩
  · cases g2
  · rcases hgG_S1 g2 with ⟨_, g2⟩ | ⟨_, g2, _⟩
    · cases g2; exact hv
    · exact h.2.2.2.2.1 j w g2
/-- a place is written: is it there? (lv_has says the size) -/
theorem hgG_lt {ls : Array Slot} {ad : Nat → Nat} {L : hgL} (h : hgLH ls nL ad L) {i : Nat} {v : Value} (hv : hgG L i = some v) : i < nL := by
  have := hgLH_get h hv
  rw [← h.1]
  exact (Array.getElem?_eq_some_iff.mp this).1
end HGROW
end
section
/-- a word of the tables that stays is among the good ones -/
theorem hgTb_of {w : Nat} {x : Cond} (h : hgWt w = some x) (hg : goodWord x = true) : x ∈ hgTb := List.mem_filter.mpr ⟨List.mem_append_right _ (List.mem_of_getElem? h), hg⟩
def hgHard (i : Instr) : Bool := match i with
  | .ldc _ => true | .ldc_w _ => true | .ldc2_w _ => true | .getfield _ => true | .putfield _ => true
  | .iaload => true | .baload => true | .laload => true | .aaload => true | .iastore => true | .bastore => true | .lastore => true | .aastore => true | .arraylength => true
  | .new _ => true | .newarray _ => true | .anewarray _ => true | .multianewarray _ _ => true | .invokevirtual _ => true | .invokestatic _ => true | .invokespecial _ => true | .ireturn => true | .lreturn => true | .return_ => true
  | _ => false
section HGSTEP
variable {p : Program} {l : Launch} {e : Env} {R : Room} {s : State} {m : MethodId} {args : Array Value} {below : List Frame} {meth : Method} {c : Code} {Q : State → Prop} {q B0 N0 : Nat} {D : va_G} {cy : Nat → ClassId} {X : hgX} {ad0 : Nat → Nat}
set_option maxHeartbeats 4000000 in
set_option maxRecDepth 100000 in
theorem hg_easy (hC : hgCx p l R s m args meth c q B0 D cy X ad0) {call : Nat → List Value → hgMem → Option hgOut} {jump : Nat → hgL → List Value → hgK → hgMem → Option hgOut} {i : Instr} {len : Nat} {ps : List Nat} {hs : List (Nat × Nat × Nat)} {pc : Nat} {out : hgOut} (hd : decode (hgCode q) pc = .ok (i, len)) (hk : hgChk q pc i len ps hs = true)
    {L : hgL} {S : List Value} {K : hgK} {M : hgMem} {k : hgL → List Value → hgK → hgMem → Option hgOut} (h : hgStep X (hgRm q) call jump i ps hs L S K M k = some out)
    (kk : ∀ L S K M, k L S K M = some out → hgGo p l e R s m args below meth c Q B0 D cy (hgMl q) N0 ad0 (pc + len) L S K M)
    (kj : ∀ t L S K M, jump t L S K M = some out → hgGo p l e R s m args below meth c Q B0 D cy (hgMl q) N0 ad0 t L S K M)
    (kh : hgHard i = true → hgGo p l e R s m args below meth c Q B0 D cy (hgMl q) N0 ad0 pc L S K M) : hgGo p l e R s m args below meth c Q B0 D cy (hgMl q) N0 ad0 pc L S K M := by
  have hx := hC.1
  have hb := hC.2.1
  cases i with
  | iconst n =>
    have hl : len = 1 := of_decide_eq_true (show decide (len = 1) = true from hk)
    subst hl
    intro ad H locs ls hn kc ks
    exact lv_iconst hx hb hd rfl (kk _ _ _ _ h ad H locs ls (hn.to (hgSk_c hgVk_i hn.sk)) kc ks)
  | bipush n =>
    have hl : len = 2 := of_decide_eq_true (show decide (len = 2) = true from hk)
    subst hl
    intro ad H locs ls hn kc ks
    exact lv_bipush hx hb hd rfl (kk _ _ _ _ h ad H locs ls (hn.to (hgSk_c hgVk_i hn.sk)) kc ks)
  | sipush n =>
    have hl : len = 3 := of_decide_eq_true (show decide (len = 3) = true from hk)
    subst hl
    intro ad H locs ls hn kc ks
    exact lv_sipush hx hb hd rfl (kk _ _ _ _ h ad H locs ls (hn.to (hgSk_c hgVk_i hn.sk)) kc ks)
  | lconst n =>
    have hl : len = 1 := of_decide_eq_true (show decide (len = 1) = true from hk)
    subst hl
    intro ad H locs ls hn kc ks
    exact lv_lconst hx hb hd rfl (kk _ _ _ _ h ad H locs ls (hn.to (hgSk_c hgVk_l hn.sk)) kc ks)
  | iload n =>
    have hl : len = 2 := of_decide_eq_true (show decide (len = 2) = true from hk)
    subst hl
    have h : (hgld L n 0 fun v => k L (v :: S) K M) = some out := h
    obtain ⟨x, g, h9⟩ := hgld0_some h
    intro ad H locs ls hn kc ks
    exact lv_iload hx hb hd (hgLH_get hn.2.2.2.1 g) (kk _ _ _ _ h9 ad H locs ls (hn.to (hgSk_c hgVk_i hn.sk)) kc ks)
  | iload_n n =>
    have hl : len = 1 := of_decide_eq_true (show decide (len = 1) = true from hk)
    subst hl
    have h : (hgld L n.val 0 fun v => k L (v :: S) K M) = some out := h
    obtain ⟨x, g, h9⟩ := hgld0_some h
    intro ad H locs ls hn kc ks
    exact lv_iload_n hx hb hd rfl (hgLH_get hn.2.2.2.1 g) (kk _ _ _ _ h9 ad H locs ls (hn.to (hgSk_c hgVk_i hn.sk)) kc ks)
  | lload n =>
    have hl : len = 2 := of_decide_eq_true (show decide (len = 2) = true from hk)
    subst hl
    have h : (hgld L n 1 fun v => k L (v :: S) K M) = some out := h
    obtain ⟨x, g, h9⟩ := hgld1_some h
    intro ad H locs ls hn kc ks
    exact lv_lload hx hb hd (hgLH_get hn.2.2.2.1 g) (kk _ _ _ _ h9 ad H locs ls (hn.to (hgSk_c hgVk_l hn.sk)) kc ks)
  | lload_n n =>
    have hl : len = 1 := of_decide_eq_true (show decide (len = 1) = true from hk)
    subst hl
    have h : (hgld L n.val 1 fun v => k L (v :: S) K M) = some out := h
    obtain ⟨x, g, h9⟩ := hgld1_some h
    intro ad H locs ls hn kc ks
    exact lv_lload_n hx hb hd rfl (hgLH_get hn.2.2.2.1 g) (kk _ _ _ _ h9 ad H locs ls (hn.to (hgSk_c hgVk_l hn.sk)) kc ks)
  | fload n =>
    have hl : len = 2 := of_decide_eq_true (show decide (len = 2) = true from hk)
    subst hl
    have h : (hgld L n 2 fun v => k L (v :: S) K M) = some out := h
    obtain ⟨x, g, h9⟩ := hgld2_some h
    intro ad H locs ls hn kc ks
    exact lv_fload hx hb hd (hgLH_get hn.2.2.2.1 g) (kk _ _ _ _ h9 ad H locs ls (hn.to (hgSk_c hgVk_f hn.sk)) kc ks)
  | fload_n n =>
    have hl : len = 1 := of_decide_eq_true (show decide (len = 1) = true from hk)
    subst hl
    have h : (hgld L n.val 2 fun v => k L (v :: S) K M) = some out := h
    obtain ⟨x, g, h9⟩ := hgld2_some h
    intro ad H locs ls hn kc ks
    exact lv_fload_n hx hb hd rfl (hgLH_get hn.2.2.2.1 g) (kk _ _ _ _ h9 ad H locs ls (hn.to (hgSk_c hgVk_f hn.sk)) kc ks)
  | aload n =>
    have hl : len = 2 := of_decide_eq_true (show decide (len = 2) = true from hk)
    subst hl
    have h : (hgld L n 3 fun v => k L (v :: S) K M) = some out := h
    obtain ⟨x, g, h9⟩ := hgld3_some h
    intro ad H locs ls hn kc ks
    exact lv_aload hx hb hd (hgLH_get hn.2.2.2.1 g) (kk _ _ _ _ h9 ad H locs ls (hn.to (hgSk_c (hn.2.2.2.2.1 _ _ g) hn.sk)) kc ks)
  | aload_n n =>
    have hl : len = 1 := of_decide_eq_true (show decide (len = 1) = true from hk)
    subst hl
    have h : (hgld L n.val 3 fun v => k L (v :: S) K M) = some out := h
    obtain ⟨x, g, h9⟩ := hgld3_some h
    intro ad H locs ls hn kc ks
    exact lv_aload_n hx hb hd rfl (hgLH_get hn.2.2.2.1 g) (kk _ _ _ _ h9 ad H locs ls (hn.to (hgSk_c (hn.2.2.2.2.1 _ _ g) hn.sk)) kc ks)
  | istore n =>
    have hl : len = 2 ∧ n < hgMl q := by
      have hk : (decide (len = 2) && decide (n < hgMl q)) = true := hk
      simpa using hk
    obtain ⟨hl, hlt⟩ := hl
    subst hl
    have h : (hgst S 0 fun v r => k (hgS1 L n (some v)) r K M) = some out := h
    obtain ⟨x, r, rfl, h9⟩ := hgst0_some h
    intro ad H locs ls hn kc ks
    exact lv_istore hx hb hd hn.2.2.2.1 hlt rfl (fun ls1 hl1 => kk _ _ _ _ h9 ad H locs ls1 (hn.st1 hgVk_i (hgSk_t hn.sk) hl1) kc ks)
  | istore_n n =>
    have hl : len = 1 ∧ n.val < hgMl q := by
      have hk : (decide (len = 1) && decide (n.val < hgMl q)) = true := hk
      simpa using hk
    obtain ⟨hl, hlt⟩ := hl
    subst hl
    have h : (hgst S 0 fun v r => k (hgS1 L n.val (some v)) r K M) = some out := h
    obtain ⟨x, r, rfl, h9⟩ := hgst0_some h
    intro ad H locs ls hn kc ks
    exact lv_istore_n hx hb hd rfl hn.2.2.2.1 hlt rfl (fun ls1 hl1 => kk _ _ _ _ h9 ad H locs ls1 (hn.st1 hgVk_i (hgSk_t hn.sk) hl1) kc ks)
  | fstore n =>
    have hl : len = 2 ∧ n < hgMl q := by
      have hk : (decide (len = 2) && decide (n < hgMl q)) = true := hk
      simpa using hk
    obtain ⟨hl, hlt⟩ := hl
    subst hl
    have h : (hgst S 2 fun v r => k (hgS1 L n (some v)) r K M) = some out := h
    obtain ⟨x, r, rfl, h9⟩ := hgst2_some h
    intro ad H locs ls hn kc ks
    exact lv_fstore hx hb hd hn.2.2.2.1 hlt rfl (fun ls1 hl1 => kk _ _ _ _ h9 ad H locs ls1 (hn.st1 hgVk_f (hgSk_t hn.sk) hl1) kc ks)
  | fstore_n n =>
    have hl : len = 1 ∧ n.val < hgMl q := by
      have hk : (decide (len = 1) && decide (n.val < hgMl q)) = true := hk
      simpa using hk
    obtain ⟨hl, hlt⟩ := hl
    subst hl
    have h : (hgst S 2 fun v r => k (hgS1 L n.val (some v)) r K M) = some out := h
    obtain ⟨x, r, rfl, h9⟩ := hgst2_some h
    intro ad H locs ls hn kc ks
    exact lv_fstore_n hx hb hd rfl hn.2.2.2.1 hlt rfl (fun ls1 hl1 => kk _ _ _ _ h9 ad H locs ls1 (hn.st1 hgVk_f (hgSk_t hn.sk) hl1) kc ks)
  | astore n =>
    have hl : len = 2 ∧ n < hgMl q := by
      have hk : (decide (len = 2) && decide (n < hgMl q)) = true := hk
      simpa using hk
    obtain ⟨hl, hlt⟩ := hl
    subst hl
    have h : (hgst S 3 fun v r => k (hgS1 L n (some v)) r K M) = some out := h
    obtain ⟨x, r, rfl, h9⟩ := hgst3_some h
    intro ad H locs ls hn kc ks
    exact lv_astore hx hb hd hn.2.2.2.1 hlt rfl (fun ls1 hl1 => kk _ _ _ _ h9 ad H locs ls1 (hn.st1 (hgSk_h hn.sk) (hgSk_t hn.sk) hl1) kc ks)
  | astore_n n =>
    have hl : len = 1 ∧ n.val < hgMl q := by
      have hk : (decide (len = 1) && decide (n.val < hgMl q)) = true := hk
      simpa using hk
    obtain ⟨hl, hlt⟩ := hl
    subst hl
    have h : (hgst S 3 fun v r => k (hgS1 L n.val (some v)) r K M) = some out := h
    obtain ⟨x, r, rfl, h9⟩ := hgst3_some h
    intro ad H locs ls hn kc ks
    exact lv_astore_n hx hb hd rfl hn.2.2.2.1 hlt rfl (fun ls1 hl1 => kk _ _ _ _ h9 ad H locs ls1 (hn.st1 (hgSk_h hn.sk) (hgSk_t hn.sk) hl1) kc ks)
  | lstore n =>
    have hl : len = 2 ∧ n + 1 < hgMl q := by
      have hk : (decide (len = 2) && decide (n + 1 < hgMl q)) = true := hk
      simpa using hk
    obtain ⟨hl, hlt⟩ := hl
    subst hl
    have h : (hgst S 1 fun v r => k (hgS2 L n (some v)) r K M) = some out := h
    obtain ⟨x, r, rfl, h9⟩ := hgst1_some h
    intro ad H locs ls hn kc ks
    exact lv_lstore hx hb hd hn.2.2.2.1 hlt rfl (fun ls1 hl1 => kk _ _ _ _ h9 ad H locs ls1 (hn.st2 hgVk_l (hgSk_t hn.sk) hl1) kc ks)
  | lstore_n n =>
    have hl : len = 1 ∧ n.val + 1 < hgMl q := by
      have hk : (decide (len = 1) && decide (n.val + 1 < hgMl q)) = true := hk
      simpa using hk
    obtain ⟨hl, hlt⟩ := hl
    subst hl
    have h : (hgst S 1 fun v r => k (hgS2 L n.val (some v)) r K M) = some out := h
    obtain ⟨x, r, rfl, h9⟩ := hgst1_some h
    intro ad H locs ls hn kc ks
    exact lv_lstore_n hx hb hd rfl hn.2.2.2.1 hlt rfl (fun ls1 hl1 => kk _ _ _ _ h9 ad H locs ls1 (hn.st2 hgVk_l (hgSk_t hn.sk) hl1) kc ks)
  | iinc n d =>
    have hl : len = 3 := of_decide_eq_true (show decide (len = 3) = true from hk)
    subst hl
    have h : (match hgG L n with
      | some (.int x) => k (hgPut L n (some (.int (x + Int32.ofInt d)))) S K M
      | _ => none) = some out := h
    split at h
    · next x g =>
      intro ad H locs ls hn kc ks
      obtain ⟨j, hj⟩ := List.getElem?_of_mem (hgAs_mem.mpr ⟨n, .int x, (Nat.zero_add n).symm, g, rfl⟩ : (n, hgPh ad (.int x)) ∈ hgAs ad 0 L)
      refine lv_iinc hx hb hd hn.2.2.2.1 hj rfl (hgG_lt hn.2.2.2.1 g) rfl (fun ls1 hl1 => kk _ _ _ _ h ad H locs ls1 ?_ kc ks)
      refine ⟨hn.1, hn.2.1, hn.2.2.1, hgLH_mono hl1 (fun i v hv => ?_), fun i v hv => ?_, hn.sk, hn.2.2.2.2.2.2⟩
      · rcases hgG_put hv with ⟨g1, g2⟩ | ⟨g1, g2⟩
        · cases g2
          rw [g1]
          exact List.mem_cons_self
        · refine List.mem_cons_of_mem _ (List.mem_filter.mpr ⟨hgAs_mem.mpr ⟨i, v, (Nat.zero_add i).symm, g2, rfl⟩, ?_⟩)
          simp only [Bool.and_eq_true, Bool.not_eq_true', beq_eq_false_iff_ne, ne_eq, Bool.and_eq_false_iff, hgPh_cat]
          refine ⟨g1, ?_⟩
          by_cases e9 : i + 1 = n
          · refine Or.inr (fun h9 => ?_)
            have f1 := hgLH_get hn.2.2.2.1 g2
            have f2 := hn.2.2.2.1.2.1.1 i _ f1 (by rw [hgPh_cat]; exact h9)
            rw [e9, hgLH_get hn.2.2.2.1 g] at f2
            cases f2
          · exact Or.inl e9
      · rcases hgG_put hv with ⟨_, g2⟩ | ⟨_, g2⟩
        · cases g2; exact hgVk_i
        · exact hn.2.2.2.2.1 i v g2
    · cases h
  | iadd =>
    have hl : len = 1 := of_decide_eq_true (show decide (len = 1) = true from hk)
    subst hl
    have h : (hgi2 S fun x y r => k L (.int (x + y) :: r) K M) = some out := h
    obtain ⟨x, y, r, rfl, h9⟩ := hgi2_some h
    intro ad H locs ls hn kc ks
    exact lv_iadd hx hb hd (kk _ _ _ _ h9 ad H locs ls (hn.to (hgSk_c hgVk_i (hgSk_t (hgSk_t hn.sk)))) kc ks)
  | isub =>
    have hl : len = 1 := of_decide_eq_true (show decide (len = 1) = true from hk)
    subst hl
    have h : (hgi2 S fun x y r => k L (.int (x - y) :: r) K M) = some out := h
    obtain ⟨x, y, r, rfl, h9⟩ := hgi2_some h
    intro ad H locs ls hn kc ks
    exact lv_isub hx hb hd (kk _ _ _ _ h9 ad H locs ls (hn.to (hgSk_c hgVk_i (hgSk_t (hgSk_t hn.sk)))) kc ks)
  | imul =>
    have hl : len = 1 := of_decide_eq_true (show decide (len = 1) = true from hk)
    subst hl
    have h : (hgi2 S fun x y r => k L (.int (x * y) :: r) K M) = some out := h
    obtain ⟨x, y, r, rfl, h9⟩ := hgi2_some h
    intro ad H locs ls hn kc ks
    exact lv_imul hx hb hd (kk _ _ _ _ h9 ad H locs ls (hn.to (hgSk_c hgVk_i (hgSk_t (hgSk_t hn.sk)))) kc ks)
  | iand =>
    have hl : len = 1 := of_decide_eq_true (show decide (len = 1) = true from hk)
    subst hl
    have h : (hgi2 S fun x y r => k L (.int (x &&& y) :: r) K M) = some out := h
    obtain ⟨x, y, r, rfl, h9⟩ := hgi2_some h
    intro ad H locs ls hn kc ks
    exact lv_iand hx hb hd (kk _ _ _ _ h9 ad H locs ls (hn.to (hgSk_c hgVk_i (hgSk_t (hgSk_t hn.sk)))) kc ks)
  | ior =>
    have hl : len = 1 := of_decide_eq_true (show decide (len = 1) = true from hk)
    subst hl
    have h : (hgi2 S fun x y r => k L (.int (x ||| y) :: r) K M) = some out := h
    obtain ⟨x, y, r, rfl, h9⟩ := hgi2_some h
    intro ad H locs ls hn kc ks
    exact lv_ior hx hb hd (kk _ _ _ _ h9 ad H locs ls (hn.to (hgSk_c hgVk_i (hgSk_t (hgSk_t hn.sk)))) kc ks)
  | ishl =>
    have hl : len = 1 := of_decide_eq_true (show decide (len = 1) = true from hk)
    subst hl
    have h : (hgi2 S fun x y r => k L (.int (x <<< (y &&& 31)) :: r) K M) = some out := h
    obtain ⟨x, y, r, rfl, h9⟩ := hgi2_some h
    intro ad H locs ls hn kc ks
    exact lv_ishl hx hb hd (kk _ _ _ _ h9 ad H locs ls (hn.to (hgSk_c hgVk_i (hgSk_t (hgSk_t hn.sk)))) kc ks)
  | ishr =>
    have hl : len = 1 := of_decide_eq_true (show decide (len = 1) = true from hk)
    subst hl
    have h : (hgi2 S fun x y r => k L (.int (x >>> (y &&& 31)) :: r) K M) = some out := h
    obtain ⟨x, y, r, rfl, h9⟩ := hgi2_some h
    intro ad H locs ls hn kc ks
    exact lv_ishr hx hb hd (kk _ _ _ _ h9 ad H locs ls (hn.to (hgSk_c hgVk_i (hgSk_t (hgSk_t hn.sk)))) kc ks)
  | iushr =>
    have hl : len = 1 := of_decide_eq_true (show decide (len = 1) = true from hk)
    subst hl
    have h : (hgi2 S fun x y r => k L (.int (x.toUInt32 >>> (y.toUInt32 &&& Int32.toUInt32 31)).toInt32 :: r) K M) = some out := h
    obtain ⟨x, y, r, rfl, h9⟩ := hgi2_some h
    intro ad H locs ls hn kc ks
    exact lv_iushr hx hb hd rfl (kk _ _ _ _ h9 ad H locs ls (hn.to (hgSk_c hgVk_i (hgSk_t (hgSk_t hn.sk)))) kc ks)
  | idiv =>
    have hl : len = 1 := of_decide_eq_true (show decide (len = 1) = true from hk)
    subst hl
    have h : (hgi2 S fun x y r => if y = 0 then none else k L (.int (x / y) :: r) K M) = some out := h
    obtain ⟨x, y, r, rfl, h9⟩ := hgi2_some h
    split at h9
    · cases h9
    · next hy =>
      intro ad H locs ls hn kc ks
      exact lv_idiv hx hb hd hy (kk _ _ _ _ h9 ad H locs ls (hn.to (hgSk_c hgVk_i (hgSk_t (hgSk_t hn.sk)))) kc ks)
  | irem =>
    have hl : len = 1 := of_decide_eq_true (show decide (len = 1) = true from hk)
    subst hl
    have h : (hgi2 S fun x y r => if y = 0 then none else k L (.int (x - x / y * y) :: r) K M) = some out := h
    obtain ⟨x, y, r, rfl, h9⟩ := hgi2_some h
    split at h9
    · cases h9
    · next hy =>
      intro ad H locs ls hn kc ks
      exact lv_irem hx hb hd hy (kk _ _ _ _ h9 ad H locs ls (hn.to (hgSk_c hgVk_i (hgSk_t (hgSk_t hn.sk)))) kc ks)
  | i2l =>
    have hl : len = 1 := of_decide_eq_true (show decide (len = 1) = true from hk)
    subst hl
    have h : (hgi1 S fun x r => k L (.long x.toInt64 :: r) K M) = some out := h
    obtain ⟨x, r, rfl, h9⟩ := hgi1_some h
    intro ad H locs ls hn kc ks
    exact lv_i2l hx hb hd rfl (kk _ _ _ _ h9 ad H locs ls (hn.to (hgSk_c hgVk_l (hgSk_t hn.sk))) kc ks)
  | i2b =>
    have hl : len = 1 := of_decide_eq_true (show decide (len = 1) = true from hk)
    subst hl
    have h : (hgi1 S fun x r => k L (.int x.toInt8.toInt32 :: r) K M) = some out := h
    obtain ⟨x, r, rfl, h9⟩ := hgi1_some h
    intro ad H locs ls hn kc ks
    exact lv_i2b hx hb hd rfl (kk _ _ _ _ h9 ad H locs ls (hn.to (hgSk_c hgVk_i (hgSk_t hn.sk))) kc ks)
  | i2f =>
    have hl : len = 1 := of_decide_eq_true (show decide (len = 1) = true from hk)
    subst hl
    have h : (hgi1 S fun x r => k L (.float (FP.i2f x) :: r) K M) = some out := h
    obtain ⟨x, r, rfl, h9⟩ := hgi1_some h
    intro ad H locs ls hn kc ks
    exact lv_i2f hx hb hd (kk _ _ _ _ h9 ad H locs ls (hn.to (hgSk_c hgVk_f (hgSk_t hn.sk))) kc ks)
  | f2i =>
    have hl : len = 1 := of_decide_eq_true (show decide (len = 1) = true from hk)
    subst hl
    have h : (hgf1 S fun x r => k L (.int (FP.f2i x) :: r) K M) = some out := h
    obtain ⟨x, r, rfl, h9⟩ := hgf1_some h
    intro ad H locs ls hn kc ks
    exact lv_f2i hx hb hd (kk _ _ _ _ h9 ad H locs ls (hn.to (hgSk_c hgVk_i (hgSk_t hn.sk))) kc ks)
  | ladd =>
    have hl : len = 1 := of_decide_eq_true (show decide (len = 1) = true from hk)
    subst hl
    have h : (hgj2 S fun x y r => k L (.long (x + y) :: r) K M) = some out := h
    obtain ⟨x, y, r, rfl, h9⟩ := hgj2_some h
    intro ad H locs ls hn kc ks
    exact lv_ladd hx hb hd (kk _ _ _ _ h9 ad H locs ls (hn.to (hgSk_c hgVk_l (hgSk_t (hgSk_t hn.sk)))) kc ks)
  | lmul =>
    have hl : len = 1 := of_decide_eq_true (show decide (len = 1) = true from hk)
    subst hl
    have h : (hgj2 S fun x y r => k L (.long (x * y) :: r) K M) = some out := h
    obtain ⟨x, y, r, rfl, h9⟩ := hgj2_some h
    intro ad H locs ls hn kc ks
    exact lv_lmul hx hb hd (kk _ _ _ _ h9 ad H locs ls (hn.to (hgSk_c hgVk_l (hgSk_t (hgSk_t hn.sk)))) kc ks)
  | lcmp =>
    have hl : len = 1 := of_decide_eq_true (show decide (len = 1) = true from hk)
    subst hl
    have h : (hgj2 S fun x y r => k L (.int (lg_cmp x y) :: r) K M) = some out := h
    obtain ⟨x, y, r, rfl, h9⟩ := hgj2_some h
    intro ad H locs ls hn kc ks
    exact W.lcmp hx hb hd (kk _ _ _ _ h9 ad H locs ls (hn.to (hgSk_c hgVk_i (hgSk_t (hgSk_t hn.sk)))) kc ks)
  | fadd =>
    have hl : len = 1 := of_decide_eq_true (show decide (len = 1) = true from hk)
    subst hl
    have h : (hgf2 S fun x y r => if (FP.fadd x y) &&& 0x7fffffff ≤ 0x7f800000 then k L (.float (FP.fadd x y) :: r) K M else none) = some out := h
    obtain ⟨x, y, r, rfl, h9⟩ := hgf2_some h
    split at h9
    · next hy =>
      intro ad H locs ls hn kc ks
      exact lv_fadd hx hb hd hy (kk _ _ _ _ h9 ad H locs ls (hn.to (hgSk_c hgVk_f (hgSk_t (hgSk_t hn.sk)))) kc ks)
    · cases h9
  | fmul =>
    have hl : len = 1 := of_decide_eq_true (show decide (len = 1) = true from hk)
    subst hl
    have h : (hgf2 S fun x y r => if (FP.fmul x y) &&& 0x7fffffff ≤ 0x7f800000 then k L (.float (FP.fmul x y) :: r) K M else none) = some out := h
    obtain ⟨x, y, r, rfl, h9⟩ := hgf2_some h
    split at h9
    · next hy =>
      intro ad H locs ls hn kc ks
      exact lv_fmul hx hb hd hy (kk _ _ _ _ h9 ad H locs ls (hn.to (hgSk_c hgVk_f (hgSk_t (hgSk_t hn.sk)))) kc ks)
    · cases h9
  | fdiv =>
    have hl : len = 1 := of_decide_eq_true (show decide (len = 1) = true from hk)
    subst hl
    have h : (hgf2 S fun x y r => if (FP.fdiv x y) &&& 0x7fffffff ≤ 0x7f800000 then k L (.float (FP.fdiv x y) :: r) K M else none) = some out := h
    obtain ⟨x, y, r, rfl, h9⟩ := hgf2_some h
    split at h9
    · next hy =>
      intro ad H locs ls hn kc ks
      exact lv_fdiv hx hb hd hy (kk _ _ _ _ h9 ad H locs ls (hn.to (hgSk_c hgVk_f (hgSk_t (hgSk_t hn.sk)))) kc ks)
    · cases h9
  | fcmp op =>
    have hl : len = 1 := of_decide_eq_true (show decide (len = 1) = true from hk)
    subst hl
    have h : (hgf2 S fun x y r => k L (.int (Op.cmpValue (FP.fcmp x y) op) :: r) K M) = some out := h
    obtain ⟨x, y, r, rfl, h9⟩ := hgf2_some h
    intro ad H locs ls hn kc ks
    exact lv_fcmp hx hb hd (kk _ _ _ _ h9 ad H locs ls (hn.to (hgSk_c hgVk_i (hgSk_t (hgSk_t hn.sk)))) kc ks)
  | dup =>
    have hl : len = 1 := of_decide_eq_true (show decide (len = 1) = true from hk)
    subst hl
    have h : (hgdup S fun v r => k L (v :: v :: r) K M) = some out := h
    obtain ⟨v, r, rfl, hc, h9⟩ := hgdup_some h
    intro ad H locs ls hn kc ks
    exact lv_dup hx hb hd (by rw [hgPh_cat]; exact hc) (kk _ _ _ _ h9 ad H locs ls (hn.to (hgSk_c (hgSk_h hn.sk) hn.sk)) kc ks)
  | pop =>
    have hl : len = 1 := of_decide_eq_true (show decide (len = 1) = true from hk)
    subst hl
    have h : (hgdup S fun _ r => k L r K M) = some out := h
    obtain ⟨v, r, rfl, hc, h9⟩ := hgdup_some h
    intro ad H locs ls hn kc ks
    exact lv_pop hx hb hd (by rw [hgPh_cat]; exact hc) (kk _ _ _ _ h9 ad H locs ls (hn.to (hgSk_t hn.sk)) kc ks)
  | dup2 =>
    have hl : len = 1 := of_decide_eq_true (show decide (len = 1) = true from hk)
    subst hl
    have h : (hgr2 S fun a i r => k L (.int i :: .ref a :: .int i :: .ref a :: r) K M) = some out := h
    obtain ⟨a, i, r, rfl, h9⟩ := hgr2_some h
    intro ad H locs ls hn kc ks
    exact lv_dup2_11 hx hb hd rfl rfl (kk _ _ _ _ h9 ad H locs ls (hn.to (hgSk_c hgVk_i (hgSk_c (hgSk_h (hgSk_t hn.sk)) hn.sk))) kc ks)
  | fconst n =>
    have hl : len = 1 := of_decide_eq_true (show decide (len = 1) = true from hk)
    subst hl
    have h : (if n.val = 0 then k L (.float FP.fconst0 :: S) K M else if n.val = 1 then k L (.float FP.fconst1 :: S) K M else none) = some out := h
    intro ad H locs ls hn kc ks
    split at h
    · next g =>
      have g : n = 0 := Fin.ext g
      subst g
      exact lv_fconst0 hx hb hd (kk _ _ _ _ h ad H locs ls (hn.to (hgSk_c hgVk_f hn.sk)) kc ks)
    · split at h
      · next g =>
        have g : n = 1 := Fin.ext g
        subst g
        exact lv_fconst1 hx hb hd (kk _ _ _ _ h ad H locs ls (hn.to (hgSk_c hgVk_f hn.sk)) kc ks)
      · cases h
  | ifCond cd off =>
    have hl : len = 3 := by
      simp only [hgChk, Bool.and_eq_true, decide_eq_true_eq] at hk
      exact hk.1
    subst hl
    match ps, hk, h with
    | [t], hk, h =>
      have ht : (pc : Int) + off = (t : Int) := by
        have hk : (decide (3 = 3) && decide ((pc : Int) + off = (t : Int))) = true := hk
        simpa using hk
      cases cd with
      | eq =>
        have h : (hgi1 S fun x r => if x = 0 then jump t L r K M else k L r K M) = some out := h
        obtain ⟨x, r, rfl, h9⟩ := hgi1_some h
        intro ad H locs ls hn kc ks
        exact lv_if_eq hx hb hd ht (fun g => kj _ _ _ _ _ (by rw [if_pos g] at h9; exact h9) ad H locs ls (hn.to (hgSk_t hn.sk)) kc ks) (fun g => kk _ _ _ _ (by rw [if_neg g] at h9; exact h9) ad H locs ls (hn.to (hgSk_t hn.sk)) kc ks)
      | ne =>
        have h : (hgi1 S fun x r => if x = 0 then k L r K M else jump t L r K M) = some out := h
        obtain ⟨x, r, rfl, h9⟩ := hgi1_some h
        intro ad H locs ls hn kc ks
        exact lv_if_ne hx hb hd ht (fun g => kj _ _ _ _ _ (by rw [if_neg g] at h9; exact h9) ad H locs ls (hn.to (hgSk_t hn.sk)) kc ks) (fun g => kk _ _ _ _ (by rw [if_pos g] at h9; exact h9) ad H locs ls (hn.to (hgSk_t hn.sk)) kc ks)
      | lt =>
        have h : (hgi1 S fun x r => if x < 0 then jump t L r K M else k L r K M) = some out := h
        obtain ⟨x, r, rfl, h9⟩ := hgi1_some h
        intro ad H locs ls hn kc ks
        exact lv_if_lt hx hb hd ht (fun g => kj _ _ _ _ _ (by rw [if_pos g] at h9; exact h9) ad H locs ls (hn.to (hgSk_t hn.sk)) kc ks) (fun g => kk _ _ _ _ (by rw [if_neg g] at h9; exact h9) ad H locs ls (hn.to (hgSk_t hn.sk)) kc ks)
      | ge =>
        have h : (hgi1 S fun x r => if 0 ≤ x then jump t L r K M else k L r K M) = some out := h
        obtain ⟨x, r, rfl, h9⟩ := hgi1_some h
        intro ad H locs ls hn kc ks
        exact lv_if_ge hx hb hd ht (fun g => kj _ _ _ _ _ (by rw [if_pos g] at h9; exact h9) ad H locs ls (hn.to (hgSk_t hn.sk)) kc ks) (fun g => kk _ _ _ _ (by rw [if_neg g] at h9; exact h9) ad H locs ls (hn.to (hgSk_t hn.sk)) kc ks)
      | gt =>
        have h : (hgi1 S fun x r => if 0 < x then jump t L r K M else k L r K M) = some out := h
        obtain ⟨x, r, rfl, h9⟩ := hgi1_some h
        intro ad H locs ls hn kc ks
        exact lv_if_gt hx hb hd ht (fun g => kj _ _ _ _ _ (by rw [if_pos g] at h9; exact h9) ad H locs ls (hn.to (hgSk_t hn.sk)) kc ks) (fun g => kk _ _ _ _ (by rw [if_neg g] at h9; exact h9) ad H locs ls (hn.to (hgSk_t hn.sk)) kc ks)
      | le =>
        have h : (hgi1 S fun x r => if x ≤ 0 then jump t L r K M else k L r K M) = some out := h
        obtain ⟨x, r, rfl, h9⟩ := hgi1_some h
        intro ad H locs ls hn kc ks
        exact lv_if_le hx hb hd ht (fun g => kj _ _ _ _ _ (by rw [if_pos g] at h9; exact h9) ad H locs ls (hn.to (hgSk_t hn.sk)) kc ks) (fun g => kk _ _ _ _ (by rw [if_neg g] at h9; exact h9) ad H locs ls (hn.to (hgSk_t hn.sk)) kc ks)
    | [], hk, h => cases h
    | _ :: _ :: _, hk, h => cases h
  | if_icmp cd off =>
    have hl : len = 3 := by
      simp only [hgChk, Bool.and_eq_true, decide_eq_true_eq] at hk
      exact hk.1
    subst hl
    match ps, hk, h with
    | [t], hk, h =>
      have ht : (pc : Int) + off = (t : Int) := by
        have hk : (decide (3 = 3) && decide ((pc : Int) + off = (t : Int))) = true := hk
        simpa using hk
      cases cd with
      | eq =>
        have h : (hgi2 S fun x y r => if x = y then jump t L r K M else k L r K M) = some out := h
        obtain ⟨x, y, r, rfl, h9⟩ := hgi2_some h
        intro ad H locs ls hn kc ks
        exact lv_icmp_eq hx hb hd ht (fun g => kj _ _ _ _ _ (by rw [if_pos g] at h9; exact h9) ad H locs ls (hn.to (hgSk_t (hgSk_t hn.sk))) kc ks) (fun g => kk _ _ _ _ (by rw [if_neg g] at h9; exact h9) ad H locs ls (hn.to (hgSk_t (hgSk_t hn.sk))) kc ks)
      | ne =>
        have h : (hgi2 S fun x y r => if x = y then k L r K M else jump t L r K M) = some out := h
        obtain ⟨x, y, r, rfl, h9⟩ := hgi2_some h
        intro ad H locs ls hn kc ks
        exact lv_icmp_ne hx hb hd ht (fun g => kj _ _ _ _ _ (by rw [if_neg g] at h9; exact h9) ad H locs ls (hn.to (hgSk_t (hgSk_t hn.sk))) kc ks) (fun g => kk _ _ _ _ (by rw [if_pos g] at h9; exact h9) ad H locs ls (hn.to (hgSk_t (hgSk_t hn.sk))) kc ks)
      | lt =>
        have h : (hgi2 S fun x y r => if x < y then jump t L r K M else k L r K M) = some out := h
        obtain ⟨x, y, r, rfl, h9⟩ := hgi2_some h
        intro ad H locs ls hn kc ks
        exact lv_icmp_lt hx hb hd ht (fun g => kj _ _ _ _ _ (by rw [if_pos g] at h9; exact h9) ad H locs ls (hn.to (hgSk_t (hgSk_t hn.sk))) kc ks) (fun g => kk _ _ _ _ (by rw [if_neg g] at h9; exact h9) ad H locs ls (hn.to (hgSk_t (hgSk_t hn.sk))) kc ks)
      | ge =>
        have h : (hgi2 S fun x y r => if y ≤ x then jump t L r K M else k L r K M) = some out := h
        obtain ⟨x, y, r, rfl, h9⟩ := hgi2_some h
        intro ad H locs ls hn kc ks
        exact lv_icmp_ge hx hb hd ht (fun g => kj _ _ _ _ _ (by rw [if_pos g] at h9; exact h9) ad H locs ls (hn.to (hgSk_t (hgSk_t hn.sk))) kc ks) (fun g => kk _ _ _ _ (by rw [if_neg g] at h9; exact h9) ad H locs ls (hn.to (hgSk_t (hgSk_t hn.sk))) kc ks)
      | gt =>
        have h : (hgi2 S fun x y r => if y < x then jump t L r K M else k L r K M) = some out := h
        obtain ⟨x, y, r, rfl, h9⟩ := hgi2_some h
        intro ad H locs ls hn kc ks
        exact lv_icmp_gt hx hb hd ht (fun g => kj _ _ _ _ _ (by rw [if_pos g] at h9; exact h9) ad H locs ls (hn.to (hgSk_t (hgSk_t hn.sk))) kc ks) (fun g => kk _ _ _ _ (by rw [if_neg g] at h9; exact h9) ad H locs ls (hn.to (hgSk_t (hgSk_t hn.sk))) kc ks)
      | le =>
        have h : (hgi2 S fun x y r => if x ≤ y then jump t L r K M else k L r K M) = some out := h
        obtain ⟨x, y, r, rfl, h9⟩ := hgi2_some h
        intro ad H locs ls hn kc ks
        exact lv_icmp_le hx hb hd ht (fun g => kj _ _ _ _ _ (by rw [if_pos g] at h9; exact h9) ad H locs ls (hn.to (hgSk_t (hgSk_t hn.sk))) kc ks) (fun g => kk _ _ _ _ (by rw [if_neg g] at h9; exact h9) ad H locs ls (hn.to (hgSk_t (hgSk_t hn.sk))) kc ks)
    | [], hk, h => cases h
    | _ :: _ :: _, hk, h => cases h
  | goto off =>
    have hl : len = 3 := by
      simp only [hgChk, Bool.and_eq_true, decide_eq_true_eq] at hk
      exact hk.1
    subst hl
    match ps, hk, h with
    | [t], hk, h =>
      have ht : (pc : Int) + off = (t : Int) := by
        have hk : (decide (3 = 3) && decide ((pc : Int) + off = (t : Int))) = true := hk
        simpa using hk
      intro ad H locs ls hn kc ks
      exact lv_goto hx hb hd ht (kj _ _ _ _ _ h ad H locs ls hn kc ks)
    | [], hk, h => cases h
    | _ :: _ :: _, hk, h => cases h
  | tableswitch d lo hi offs =>
    match ps, hk, h with
    | [t], hk, h =>
      simp only [hgChk, Bool.and_eq_true, decide_eq_true_eq] at hk
      obtain ⟨⟨⟨⟨ht, hlo⟩, hhi⟩, hsz⟩, hall⟩ := hk
      have h : (hgi1 S fun x r => if hgIn x hs.length = true then jump (hs.getD x.toNatClampNeg (0, 0, 0)).1 L r K M else jump t L r K M) = some out := h
      obtain ⟨x, r, rfl, h9⟩ := hgi1_some h
      intro ad H locs ls hn kc ks
      split at h9
      · next g =>
        simp only [hgIn, Bool.and_eq_true, decide_eq_true_eq] at g
        have hj : x.toInt.toNat < hs.length := by omega
        have hcl : x.toNatClampNeg = x.toInt.toNat := rfl
        have h1 := List.all_eq_true.mp hall x.toInt.toNat (List.mem_range.mpr hj)
        split at h1
        · next o9 ho =>
          simp only [decide_eq_true_eq] at h1
          refine lv_tableIn hx hb hd (by omega) (by omega) (off := o9) (by rw [hlo, Int.sub_zero]; exact ho) h1 ?_
          exact kj _ _ _ _ _ h9 ad H locs ls (hn.to (hgSk_t hn.sk)) kc ks
        · cases h1
      · next g =>
        have hout : x.toInt < lo ∨ hi < x.toInt := by
          simp only [hgIn, Bool.and_eq_true, decide_eq_true_eq] at g
          omega
        exact lv_tableOut hx hb hd hout ht (kj _ _ _ _ _ h9 ad H locs ls (hn.to (hgSk_t hn.sk)) kc ks)
    | [], hk, h => cases h
    | _ :: _ :: _, hk, h => cases h
  | _ => first | exact kh rfl | cases h
end HGSTEP
end
section
/-! THE ROWS that read and write cells. -/
def hgNf (ci : Nat) : Nat := [15, 16, 3, 4, 5, 2, 11, 7, 18].getD ci 0
set_option maxRecDepth 100000 in
theorem hgSh_n : ∀ a, a < 326 → (hgSh a).1 < 9 → (hgSh a).2 = hgNf (hgSh a).1 := by decide +kernel
theorem hgSh_big {a : Nat} (h : 326 ≤ a) : hgSh a = (99, 0) := by
  unfold hgSh
  repeat rw [if_neg (by omega)]
theorem hgSh_lt {a : Nat} (h : (hgSh a).1 ≠ 99) : a < 326 := by
  rcases Nat.lt_or_ge a 326 with g | g
  · exact g
  · rw [hgSh_big g] at h
    exact absurd rfl h
theorem hgSh_nf {a ci : Nat} (h : (hgSh a).1 = ci) (hc : ci < 9) : (hgSh a).2 = hgNf ci := by
  have := hgSh_n a (hgSh_lt (by omega)) (by omega)
  rw [h] at this
  exact this
def hgTyOk (kd : Nat) (ty : FieldType) : Bool := match kd, ty with
  | 0, .int => true
  | 1, .long => true
  | 2, .object _ => true
  | 2, .array _ => true
  | 3, .boolean => true
  | _, _ => false
/-- what holds of a class: its words stay, its fields' types, its size -/
def hgClsOk (ci : Nat) (C : String) (T : u_T) (N : Nat) : Prop := (∀ w ∈ u_ws C T N, w ∈ hgTb) ∧ (∃ ty : Nat → FieldType, (∀ k, k < N → parseFieldDescriptor (T k).2.2.1 = some (ty k)) ∧ ∀ k, k < N → hgTyOk (hgFk ci k) (ty k) = true) ∧ (∀ a, a < N → ∀ b, b < N → a ≠ b → (T a).2.1 ≠ (T b).2.1) ∧ hgNf ci = N ∧ ci < 9 ∧ Cond.instantiable C N ∈ hgTb ∧ Cond.initialized C ∈ hgTb
theorem hgIt_mem {w : Cond} (h : hgIt w = true) : w ∈ hgTb := by
  simp only [hgIt, Bool.and_eq_true, decide_eq_true_eq] at h
  exact List.mem_filter.mpr h
theorem hgAll_mem {ws : List Cond} (h : ws.all hgIt = true) : ∀ w ∈ ws, w ∈ hgTb := fun w hw => hgIt_mem (List.all_eq_true.mp h w hw)
set_option maxRecDepth 100000 in
theorem hgCls : ∀ {ci : Nat} {C : String} {T : u_T} {N : Nat}, vwCl[ci]? = some (C, T, N) → hgClsOk ci C T N := by
  intro ci C T N h
  match ci, h with
  | 0, h => cases h; exact ⟨hgAll_mem (by decide +kernel), ⟨tyX0, tyX0_ok, by decide +kernel⟩, nmX0, rfl, by decide, hgIt_mem (by decide +kernel), hgIt_mem (by decide +kernel)⟩
  | 1, h => cases h; exact ⟨hgAll_mem (by decide +kernel), ⟨tyX1, tyX1_ok, by decide +kernel⟩, nmX1, rfl, by decide, hgIt_mem (by decide +kernel), hgIt_mem (by decide +kernel)⟩
  | 2, h => cases h; exact ⟨hgAll_mem (by decide +kernel), ⟨tyX2, tyX2_ok, by decide +kernel⟩, nmX2, rfl, by decide, hgIt_mem (by decide +kernel), hgIt_mem (by decide +kernel)⟩
  | 3, h => cases h; exact ⟨hgAll_mem (by decide +kernel), ⟨tyX3, tyX3_ok, by decide +kernel⟩, nmX3, rfl, by decide, hgIt_mem (by decide +kernel), hgIt_mem (by decide +kernel)⟩
  | 4, h => cases h; exact ⟨hgAll_mem (by decide +kernel), ⟨tyX4, tyX4_ok, by decide +kernel⟩, nmX4, rfl, by decide, hgIt_mem (by decide +kernel), hgIt_mem (by decide +kernel)⟩
  | 5, h => cases h; exact ⟨hgAll_mem (by decide +kernel), ⟨tyX5, tyX5_ok, by decide +kernel⟩, nmX5, rfl, by decide, hgIt_mem (by decide +kernel), hgIt_mem (by decide +kernel)⟩
  | 6, h => cases h; exact ⟨hgAll_mem (by decide +kernel), ⟨tyX6, tyX6_ok, by decide +kernel⟩, nmX6, rfl, by decide, hgIt_mem (by decide +kernel), hgIt_mem (by decide +kernel)⟩
  | 7, h => cases h; exact ⟨hgAll_mem (by decide +kernel), ⟨tyX7, tyX7_ok, by decide +kernel⟩, nmX7, rfl, by decide, hgIt_mem (by decide +kernel), hgIt_mem (by decide +kernel)⟩
  | 8, h => cases h; exact ⟨hgAll_mem (by decide +kernel), ⟨tyX8, tyX8_ok, by decide +kernel⟩, nmX8, rfl, by decide, hgIt_mem (by decide +kernel), hgIt_mem (by decide +kernel)⟩
  | n + 9, h => simp at h
theorem hgFld_spec {q idx ci f kd w : Nat} (h : hgFld q idx ci f kd w = true) : ∃ C T N, vwCl[ci]? = some (C, T, N) ∧ f < N ∧ hgFk ci f = kd ∧ (T f).1 = C ∧ hgWt w = some (.fieldLink (hgOwn q) idx C (T f).2.1 (T f).2.2.1) := by
  unfold hgFld at h
  split at h
  · next C T N hc =>
    simp only [Bool.and_eq_true, decide_eq_true_eq] at h
    exact ⟨C, T, N, hc, h.1.1.1, h.1.1.2, h.1.2, h.2⟩
  · cases h
section HGMEM
variable {p : Program} {l : Launch} {e : Env} {R : Room} {s : State} {m : MethodId} {args : Array Value} {below : List Frame} {meth : Method} {c : Code} {Q : State → Prop} {q B0 nL N0 : Nat} {D : va_G} {cy : Nat → ClassId} {X : hgX} {ad0 : Nat → Nat}
theorem hgNow.mem {ad : Nat → Nat} {L : hgL} {S S1 : List Value} {M M1 : hgMem} {H H1 : Heap} {locs locs1 : List Loc} {ls : Array Slot} (h : hgNow B0 D cy s nL N0 ad0 ad L S M H locs ls) (hN : M1.1 = M.1) (hP : va_P D vwCl (hgWs cy ad M1) H1) (hD : va_D (hgA B0) (hgWs cy ad M1)) (hS : va_S (hgA B0) s.heap H1 locs1) (hR : hgRok M1) (hk : hgSk M.1 S1) : hgNow B0 D cy s nL N0 ad0 ad L S1 M1 H1 locs1 ls :=
  ⟨hP, hD, hS, h.2.2.2.1, fun i v hv => by rw [hN]; exact h.2.2.2.2.1 i v hv, by rw [hN]; exact hk, hR, by rw [hN]; exact h.2.2.2.2.2.2.2.1, h.2.2.2.2.2.2.2.2⟩
theorem hgFs_at (ad : Nat → Nat) (M : hgMem) (a ci n : Nat) {f : Nat} (h : f < n) : ((List.range n).map (fun k => hgFv ad M a ci k))[f]? = some (hgFv ad M a ci f) := by simp [h]
variable {call : Nat → List Value → hgMem → Option hgOut} {jump : Nat → hgL → List Value → hgK → hgMem → Option hgOut} {len : Nat} {ps : List Nat} {hs : List (Nat × Nat × Nat)} {pc : Nat} {out : hgOut} {L : hgL} {S : List Value} {K : hgK} {M : hgMem} {k : hgL → List Value → hgK → hgMem → Option hgOut}
set_option maxHeartbeats 4000000 in
theorem hg_getfield (hC : hgCx p l R s m args meth c q B0 D cy X ad0) {idx : Nat} (hd : decode (hgCode q) pc = .ok (.getfield idx, len)) (hk : hgChk q pc (.getfield idx) len ps hs = true) (h : hgStep X (hgRm q) call jump (.getfield idx) ps hs L S K M k = some out)
    (kk : ∀ L S K M, k L S K M = some out → hgGo p l e R s m args below meth c Q B0 D cy (hgMl q) N0 ad0 (pc + len) L S K M) : hgGo p l e R s m args below meth c Q B0 D cy (hgMl q) N0 ad0 pc L S K M := by
  obtain ⟨hx, hb, -, hown, hts, -, hK, -⟩ := hC
  match ps, hk, h with
  | [ci, f, kd, w], hk, h =>
    have hk : (decide (len = 3) && hgFld q idx ci f kd w) = true := hk
    simp only [Bool.and_eq_true, decide_eq_true_eq] at hk
    obtain ⟨hl, hk⟩ := hk
    subst hl
    obtain ⟨C, T, N, hc, hf, hkd, hT, hw⟩ := hgFld_spec hk
    obtain ⟨g1, -, -, g4, g5, -⟩ := hgCls hc
    have h : (hgr1 S fun a r => hgget M a ci f kd fun v => k L (v :: r) K M) = some out := h
    obtain ⟨a, r, rfl, h9⟩ := hgr1_some h
    unfold hgget at h9
    split at h9
    · next ha =>
      intro ad H locs ls hn kc ks
      have hn2 : (hgSh a).2 = N := by rw [hgSh_nf ha.2 g5, g4]
      have he : (hgWs cy ad M)[a]? = some (ad a, .inr (ci, (List.range (hgSh a).2).map (fun k => hgFv ad M a ci k))) := by rw [hgWs_at cy ad M ha.1, hgEn_obj cy ad M ha.2 (by omega)]
      refine va_get hx hb hts g1 hown hK hn.1 a he hc f hf (hts _ (hgTb_of hw rfl)) (fun x hx9 => by rw [hT] at hx9; exact hx9) (hgFs_at ad M a ci _ (by omega)) hd ?_
      unfold hgFv
      rw [hkd]
      split at h9
      · exact kk _ _ _ _ h9 ad H locs ls (hn.to (hgSk_c hgVk_l (hgSk_t hn.sk))) kc ks
      · split at h9
        · next r9 hr9 =>
          rw [hr9]
          exact kk _ _ _ _ h9 ad H locs ls (hn.to (hgSk_c (hgVk_r (hn.2.2.2.2.2.2.1 _ _ _ hr9)) (hgSk_t hn.sk))) kc ks
        · cases h9
      · next n1 n2 =>
        rw [if_neg (fun z => n1 z), if_neg (fun z => n2 z)]
        exact kk _ _ _ _ h9 ad H locs ls (hn.to (hgSk_c hgVk_i (hgSk_t hn.sk))) kc ks
    · cases h9
  | [], hk, h => cases h
  | [_], hk, h => cases h
  | [_, _], hk, h => cases h
  | [_, _, _], hk, h => cases h
  | _ :: _ :: _ :: _ :: _ :: _, hk, h => cases h
end HGMEM
end
section
/-! Writes to fields, arrays, constants. -/
section HGM2
variable {p : Program} {l : Launch} {e : Env} {R : Room} {s : State} {m : MethodId} {args : Array Value} {below : List Frame} {meth : Method} {c : Code} {Q : State → Prop} {q B0 nL N0 : Nat} {D : va_G} {cy : Nat → ClassId} {X : hgX} {ad0 : Nat → Nat}
variable {call : Nat → List Value → hgMem → Option hgOut} {jump : Nat → hgL → List Value → hgK → hgMem → Option hgOut} {len : Nat} {ps : List Nat} {hs : List (Nat × Nat × Nat)} {pc : Nat} {out : hgOut} {L : hgL} {S : List Value} {K : hgK} {M : hgMem} {k : hgL → List Value → hgK → hgMem → Option hgOut}
theorem hgFv_SI (ad : Nat → Nat) (M : hgMem) (a ci f : Nat) (x : Int32) (h1 : ¬ hgFk ci f = 1) (h2 : ¬ hgFk ci f = 2) : hgFv ad (hgSI M a f x) a ci f = .int x := by
  unfold hgFv
  rw [if_neg h1, if_neg h2]
  show Value.int (hgU M.2.1 a f x a f) = _
  simp [hgU]
theorem hgFv_SI_ne (ad : Nat → Nat) (M : hgMem) (a ci f : Nat) (x : Int32) {j : Nat} (h : j ≠ f) : hgFv ad (hgSI M a f x) a ci j = hgFv ad M a ci j := by
  have e1 : hgI (hgSI M a f x) a j = hgI M a j := by show hgU M.2.1 a f x a j = _; simp [hgU, h, hgI]
  unfold hgFv
  rw [e1]
  rfl
theorem hgFv_SJ (ad : Nat → Nat) (M : hgMem) (a ci f : Nat) (x : Int64) (h1 : hgFk ci f = 1) : hgFv ad (hgSJ M a f x) a ci f = .long x := by
  unfold hgFv
  rw [if_pos h1]
  show Value.long (hgU M.2.2.1 a f x a f) = _
  simp [hgU]
theorem hgFv_SJ_ne (ad : Nat → Nat) (M : hgMem) (a ci f : Nat) (x : Int64) {j : Nat} (h : j ≠ f) : hgFv ad (hgSJ M a f x) a ci j = hgFv ad M a ci j := by
  have e1 : hgJ (hgSJ M a f x) a j = hgJ M a j := by show hgU M.2.2.1 a f x a j = _; simp [hgU, h, hgJ]
  unfold hgFv
  rw [e1]
  rfl
theorem hgFv_SR (ad : Nat → Nat) (M : hgMem) (a ci f x : Nat) (h1 : hgFk ci f = 2) : hgFv ad (hgSR M a f x) a ci f = .ref (ad x) := by
  unfold hgFv
  rw [if_neg (by omega), if_pos h1]
  show va_rf ((hgU M.2.2.2 a f (some x) a f).map ad) = _
  simp [hgU, va_rf]
theorem hgFv_SR_ne (ad : Nat → Nat) (M : hgMem) (a ci f x : Nat) {j : Nat} (h : j ≠ f) : hgFv ad (hgSR M a f x) a ci j = hgFv ad M a ci j := by
  have e1 : hgR (hgSR M a f x) a j = hgR M a j := by show hgU M.2.2.2 a f (some x) a j = _; simp [hgU, h, hgR]
  unfold hgFv
  rw [e1]
  rfl
set_option maxHeartbeats 4000000 in
/-- the machine's part of a putfield, for any value -/
theorem hg_putW (hC : hgCx p l R s m args meth c q B0 D cy X ad0) {idx ci f kd w fin : Nat} (hd : decode (hgCode q) pc = .ok (.putfield idx, 3)) (hk : hgFld q idx ci f kd w = true) (hfn : (match hgFin ci f with
      | some (C, b) => if fin = 1 then b && decide (C = hgOwn q) && decide ((hgY q).name = "<init>") else !b
      | none => false) = true)
    {ad : Nat → Nat} {H : Heap} {locs : List Loc} {ls : Array Slot} {a : Nat} {r : List Value} {M1 : hgMem} (hn : hgNow B0 D cy s (hgMl q) N0 ad0 ad L S M H locs ls) (ha : a < M.1) (hci : (hgSh a).1 = ci) {v : Value}
    (hv : ∀ ty, hgTyOk kd ty = true → narrow ty v = v ∧ fits ty v = true) (hN : M1.1 = M.1) (he1 : hgFv ad M1 a ci f = v) (he2 : ∀ j, j ≠ f → hgFv ad M1 a ci j = hgFv ad M a ci j) (ho : ∀ b, b ≠ a → hgEn cy ad M1 b = hgEn cy ad M b) (hR : hgRok M1) (hr : hgSk M.1 r)
    (kk : ∀ H1 locs1, hgNow B0 D cy s (hgMl q) N0 ad0 ad L r M1 H1 locs1 ls → W p l e R s m args below meth c H1 locs1 K.1 K.2 Q (F0 m (pc + 3) ls (r.map (hgPh ad)))) :
    W p l e R s m args below meth c H locs K.1 K.2 Q (F0 m pc ls (v :: .ref (ad a) :: r.map (hgPh ad))) := by
  obtain ⟨hx, hb, -, hown, hts, -, hK, -, -, -, hini⟩ := hC
  obtain ⟨C, T, N, hc, hf, hkd, hT, hw⟩ := hgFld_spec hk
  obtain ⟨g1, ⟨ty, t1, t2⟩, g3, g4, g5, -⟩ := hgCls hc
  have hn2 : (hgSh a).2 = N := by rw [hgSh_nf hci g5, g4]
  have he : (hgWs cy ad M)[a]? = some (ad a, .inr (ci, (List.range (hgSh a).2).map (fun k => hgFv ad M a ci k))) := by rw [hgWs_at cy ad M ha, hgEn_obj cy ad M hci (by omega)]
  have hty := t2 f hf
  rw [hkd] at hty
  obtain ⟨v1, v2⟩ := hv (ty f) hty
  have hset : (hgWs cy ad M).set a (ad a, .inr (ci, ((List.range (hgSh a).2).map (fun k => hgFv ad M a ci k)).set f v)) = hgWs cy ad M1 := by
    refine hgWs_set cy ad M M1 hN ?_ ho
    rw [hgEn_obj cy ad M1 hci (by omega), hgFs_set ad M M1 a ci _ f he1 he2]
  have hfl : f < ((List.range (hgSh a).2).map (fun k => hgFv ad M a ci k)).length := by simp; omega
  unfold hgFin at hfn
  rw [hc] at hfn
  dsimp only at hfn
  by_cases hf1 : fin = 1
  · rw [if_pos hf1] at hfn
    simp only [Bool.and_eq_true, decide_eq_true_eq] at hfn
    refine va_putF hx hb hts g1 ty t1 g3 hown hK hn.1 hn.2.1 hn.2.2.1 a he hc f hf (hts _ (hgTb_of hw rfl)) (fun x hx9 => by rw [hT] at hx9; exact hx9) hfn.1.1 (hini hfn.2) (by rw [hT]; exact hfn.1.2) (t1 f hf) v1 v2 hfl hd (fun H1 locs1 hP hD hS => ?_)
    rw [hset] at hP hD
    exact kk H1 locs1 (hn.mem hN hP hD hS hR hr)
  · rw [if_neg hf1] at hfn
    refine va_put hx hb hts g1 ty t1 g3 hown hK hn.1 hn.2.1 hn.2.2.1 a he hc f hf (hts _ (hgTb_of hw rfl)) (fun x hx9 => by rw [hT] at hx9; exact hx9) (by simpa using hfn) (t1 f hf) v1 v2 hfl hd (fun H1 locs1 hP hD hS => ?_)
    rw [hset] at hP hD
    exact kk H1 locs1 (hn.mem hN hP hD hS hR hr)
theorem hgTy0 {x : Int32} {ty : FieldType} (h : hgTyOk 0 ty = true) : narrow ty (.int x) = .int x ∧ fits ty (.int x) = true := by
  cases ty <;> first | exact ⟨rfl, rfl⟩ | cases h
theorem hgTy1 {x : Int64} {ty : FieldType} (h : hgTyOk 1 ty = true) : narrow ty (.long x) = .long x ∧ fits ty (.long x) = true := by
  cases ty <;> first | exact ⟨rfl, rfl⟩ | cases h
theorem hgTy2 {x : Nat} {ty : FieldType} (h : hgTyOk 2 ty = true) : narrow ty (.ref x) = .ref x ∧ fits ty (.ref x) = true := by
  cases ty <;> first | exact ⟨rfl, rfl⟩ | cases h
theorem hgTy3 {x : Int32} {ty : FieldType} (hx : x = 0 ∨ x = 1) (h : hgTyOk 3 ty = true) : narrow ty (.int x) = .int x ∧ fits ty (.int x) = true := by
  cases ty <;> first | (rcases hx with rfl | rfl <;> exact ⟨by decide, by decide⟩) | cases h
theorem hgput_some {ci f kd : Nat} {g : List Value → hgMem → Option hgOut} (h : hgput M S ci f kd g = some out) : ∃ (a : Nat) (r : List Value), a < M.1 ∧ (hgSh a).1 = ci ∧ ((kd = 0 ∧ ∃ x, S = .int x :: .ref a :: r ∧ g r (hgSI M a f x) = some out) ∨ (kd = 1 ∧ ∃ x, S = .long x :: .ref a :: r ∧ g r (hgSJ M a f x) = some out) ∨ (kd = 2 ∧ ∃ x, x < M.1 ∧ S = .ref x :: .ref a :: r ∧ g r (hgSR M a f x) = some out) ∨ (kd = 3 ∧ ∃ x, (x = 0 ∨ x = 1) ∧ S = .int x :: .ref a :: r ∧ g r (hgSI M a f x) = some out)) := by
  unfold hgput at h
  split at h
  · split at h
    · next ha => exact ⟨_, _, ha.1, ha.2, Or.inl ⟨rfl, _, rfl, h⟩⟩
    · cases h
  · split at h
    · next ha => exact ⟨_, _, ha.1, ha.2, Or.inr (Or.inl ⟨rfl, _, rfl, h⟩)⟩
    · cases h
  · split at h
    · next ha => exact ⟨_, _, ha.1, ha.2.2, Or.inr (Or.inr (Or.inl ⟨rfl, _, ha.2.1, rfl, h⟩))⟩
    · cases h
  · split at h
    · next ha => exact ⟨_, _, ha.1, ha.2.1, Or.inr (Or.inr (Or.inr ⟨rfl, _, ha.2.2, rfl, h⟩))⟩
    · cases h
  · cases h
set_option maxHeartbeats 4000000 in
theorem hg_putfield (hC : hgCx p l R s m args meth c q B0 D cy X ad0) {idx : Nat} (hd : decode (hgCode q) pc = .ok (.putfield idx, len)) (hk : hgChk q pc (.putfield idx) len ps hs = true) (h : hgStep X (hgRm q) call jump (.putfield idx) ps hs L S K M k = some out)
    (kk : ∀ L S K M, k L S K M = some out → hgGo p l e R s m args below meth c Q B0 D cy (hgMl q) N0 ad0 (pc + len) L S K M) : hgGo p l e R s m args below meth c Q B0 D cy (hgMl q) N0 ad0 pc L S K M := by
  match ps, hk, h with
  | [ci, f, kd, w, fin], hk, h =>
    have hk2 : (decide (len = 3) && (hgFld q idx ci f kd w && (match hgFin ci f with
      | some (C, b) => if fin = 1 then b && decide (C = hgOwn q) && decide ((hgY q).name = "<init>") else !b
      | none => false))) = true := hk
    rw [Bool.and_eq_true, Bool.and_eq_true, decide_eq_true_eq] at hk2
    obtain ⟨hl, hk3, hfn⟩ := hk2
    subst hl
    obtain ⟨C, T, N, hc, hf, hkd, hT, hw⟩ := hgFld_spec hk3
    have h2 : (hgput M S ci f kd fun r M1 => k L r K M1) = some out := h
    obtain ⟨a, r, ha, hci, g⟩ := hgput_some h2
    intro ad H locs ls hn kc ks
    have hr := hn.2.2.2.2.2.2.1
    rcases g with ⟨rfl, x, rfl, h9⟩ | ⟨rfl, x, rfl, h9⟩ | ⟨rfl, x, hx9, rfl, h9⟩ | ⟨rfl, x, hx9, rfl, h9⟩
    · exact hg_putW (M1 := hgSI M a f x) (v := .int x) hC hd hk3 hfn hn ha hci (fun ty => hgTy0) rfl (hgFv_SI ad M a ci f x (by omega) (by omega)) (fun j hj => hgFv_SI_ne ad M a ci f x hj) (fun b hb => hgEn_SI_ne cy ad M a f x hb) (hgRok_SI hr a f x) (hgSk_t (hgSk_t hn.sk)) (fun H1 locs1 hn1 => kk _ _ _ _ h9 ad H1 locs1 ls hn1 kc ks)
    · exact hg_putW (M1 := hgSJ M a f x) (v := .long x) hC hd hk3 hfn hn ha hci (fun ty => hgTy1) rfl (hgFv_SJ ad M a ci f x (by omega)) (fun j hj => hgFv_SJ_ne ad M a ci f x hj) (fun b hb => hgEn_SJ_ne cy ad M a f x hb) (hgRok_SJ hr a f x) (hgSk_t (hgSk_t hn.sk)) (fun H1 locs1 hn1 => kk _ _ _ _ h9 ad H1 locs1 ls hn1 kc ks)
    · exact hg_putW (M1 := hgSR M a f x) (v := .ref (ad x)) hC hd hk3 hfn hn ha hci (fun ty => hgTy2) rfl (hgFv_SR ad M a ci f x (by omega)) (fun j hj => hgFv_SR_ne ad M a ci f x hj) (fun b hb => hgEn_SR_ne cy ad M a f x hb) (hgRok_SR hr a f hx9) (hgSk_t (hgSk_t hn.sk)) (fun H1 locs1 hn1 => kk _ _ _ _ h9 ad H1 locs1 ls hn1 kc ks)
    · exact hg_putW (M1 := hgSI M a f x) (v := .int x) hC hd hk3 hfn hn ha hci (fun ty => hgTy3 hx9) rfl (hgFv_SI ad M a ci f x (by omega) (by omega)) (fun j hj => hgFv_SI_ne ad M a ci f x hj) (fun b hb => hgEn_SI_ne cy ad M a f x hb) (hgRok_SI hr a f x) (hgSk_t (hgSk_t hn.sk)) (fun H1 locs1 hn1 => kk _ _ _ _ h9 ad H1 locs1 ls hn1 kc ks)
  | [], hk, h => cases h
  | [_], hk, h => cases h
  | [_, _], hk, h => cases h
  | [_, _, _], hk, h => cases h
  | [_, _, _, _], hk, h => cases h
  | _ :: _ :: _ :: _ :: _ :: _ :: _, hk, h => cases h
end HGM2
end
section
/-! Arrays and constants. -/
section HGARR
variable {p : Program} {l : Launch} {e : Env} {R : Room} {s : State} {m : MethodId} {args : Array Value} {below : List Frame} {meth : Method} {c : Code} {Q : State → Prop} {q B0 nL N0 : Nat} {D : va_G} {cy : Nat → ClassId} {X : hgX} {ad0 : Nat → Nat}
variable {call : Nat → List Value → hgMem → Option hgOut} {jump : Nat → hgL → List Value → hgK → hgMem → Option hgOut} {len : Nat} {ps : List Nat} {hs : List (Nat × Nat × Nat)} {pc : Nat} {out : hgOut} {L : hgL} {S : List Value} {K : hgK} {M : hgMem} {k : hgL → List Value → hgK → hgMem → Option hgOut}
theorem hgEn_SI_at (cy : Nat → ClassId) (ad : Nat → Nat) (M : hgMem) {a kd : Nat} (i : Nat) (x : Int32) (h : (hgSh a).1 = kd) (hc : kd = 20 ∨ kd = 22 ∨ kd = 23) : hgEn cy ad (hgSI M a i x) a = .inl (cy kd, (hgSh a).2, .inl (upd (hgI M a) i x)) := by
  rw [hgEn_int cy ad _ h hc]
  have : hgI (hgSI M a i x) a = upd (hgI M a) i x := by
    show hgU M.2.1 a i x a = _
    rw [hgU_at]
    rfl
  rw [this]
theorem hgEn_SJ_at (cy : Nat → ClassId) (ad : Nat → Nat) (M : hgMem) {a : Nat} (i : Nat) (x : Int64) (h : (hgSh a).1 = 21) : hgEn cy ad (hgSJ M a i x) a = .inl (cy 21, (hgSh a).2, .inr (.inl (vp_updL (hgJ M a) i x))) := by
  rw [hgEn_long cy ad _ h]
  have : hgJ (hgSJ M a i x) a = vp_updL (hgJ M a) i x := by
    show hgU M.2.2.1 a i x a = _
    rw [hgU_at]
    rfl
  rw [this]
theorem hgEn_SR_at (cy : Nat → ClassId) (ad : Nat → Nat) (M : hgMem) {a kd : Nat} (i x : Nat) (h : (hgSh a).1 = kd) (hc : 24 ≤ kd) : hgEn cy ad (hgSR M a i x) a = .inl (cy kd, (hgSh a).2, .inr (.inr (.inr (.inr (va_up (fun i => (hgR M a i).map ad) i (some (ad x))))))) := by
  rw [hgEn_ref cy ad _ h hc]
  have : (fun j => (hgR (hgSR M a i x) a j).map ad) = va_up (fun i => (hgR M a i).map ad) i (some (ad x)) := by
    funext j
    show (hgU M.2.2.2 a i (some x) a j).map ad = _
    by_cases hj : j = i <;> simp [hgU, va_up, hj, hgR]
  rw [this]
/-- the script's own address -/
theorem hg_scr (hC : hgCx p l R s m args meth c q B0 D cy X ad0) {ad : Nat → Nat} {H : Heap} {locs : List Loc} {ls : Array Slot} (hn : hgNow B0 D cy s nL N0 ad0 ad L S M H locs ls) : va_X (ad 2000) X.1 X.2 s s.heap ∧ ad 2000 < s.heap.size ∧ ¬ hgA B0 (ad 2000) := by
  obtain ⟨-, -, -, -, -, hB, -, hst, -⟩ := hC
  obtain ⟨-, -, -, -, -, -, hX, hlt⟩ := hst
  have e9 : ad 2000 = ad0 2000 := hn.2.2.2.2.2.2.2.2 2000 (Or.inr (by omega))
  rw [e9]
  exact ⟨hX, by omega, Nat.not_le.mpr hlt⟩
set_option maxHeartbeats 4000000 in
theorem hg_iaload (hC : hgCx p l R s m args meth c q B0 D cy X ad0) (hd : decode (hgCode q) pc = .ok (.iaload, len)) (hk : hgChk q pc .iaload len ps hs = true) (h : hgStep X (hgRm q) call jump .iaload ps hs L S K M k = some out)
    (kk : ∀ L S K M, k L S K M = some out → hgGo p l e R s m args below meth c Q B0 D cy (hgMl q) N0 ad0 (pc + len) L S K M) : hgGo p l e R s m args below meth c Q B0 D cy (hgMl q) N0 ad0 pc L S K M := by
  have hl : len = 1 := of_decide_eq_true (show decide (len = 1) = true from hk)
  subst hl
  have h2 : (hgr2 S fun a i r => if a = 2000 then (if hgIn i X.1 = true then k L (.int (X.2 i.toNatClampNeg) :: r) K M else none) else if a < M.1 ∧ (hgSh a).1 = 20 ∧ hgIn i (hgSh a).2 = true then k L (.int (hgI M a i.toNatClampNeg) :: r) K M else none) = some out := h
  obtain ⟨a, i, r, hS, h9⟩ := hgr2_some h2
  clear h h2
  subst hS
  intro ad H locs ls hn kc ks
  have hsk := hgSk_c (v := .int (0 : Int32)) hgVk_i (hgSk_t (hgSk_t hn.sk))
  split at h9
  · next ha =>
    subst ha
    split at h9
    · next hi =>
      obtain ⟨g1, g2, g3⟩ := hg_scr hC hn
      exact va_sld hC.1 hC.2.1 g1 g2 g3 hn.2.2.1 (hgIn_vp hi) hd (kk _ _ _ _ h9 ad H locs ls (hn.to (hgSk_c hgVk_i (hgSk_t (hgSk_t hn.sk)))) kc ks)
    · cases h9
  · split at h9
    · next ha =>
      exact va_iald hC.1 hC.2.1 hC.2.2.2.2.2.2.1 hn.1 a 0 (by rw [hgWs_at cy ad M ha.1, hgEn_int cy ad M ha.2.1 (Or.inl rfl)]) rfl (hgIn_vp ha.2.2) hd (kk _ _ _ _ h9 ad H locs ls (hn.to (hgSk_c hgVk_i (hgSk_t (hgSk_t hn.sk)))) kc ks)
    · cases h9
set_option maxHeartbeats 4000000 in
theorem hg_baload (hC : hgCx p l R s m args meth c q B0 D cy X ad0) (hd : decode (hgCode q) pc = .ok (.baload, len)) (hk : hgChk q pc .baload len ps hs = true) (h : hgStep X (hgRm q) call jump .baload ps hs L S K M k = some out)
    (kk : ∀ L S K M, k L S K M = some out → hgGo p l e R s m args below meth c Q B0 D cy (hgMl q) N0 ad0 (pc + len) L S K M) : hgGo p l e R s m args below meth c Q B0 D cy (hgMl q) N0 ad0 pc L S K M := by
  have hl : len = 1 := of_decide_eq_true (show decide (len = 1) = true from hk)
  subst hl
  have h2 : (hgr2 S fun a i r => if a < M.1 ∧ ((hgSh a).1 = 22 ∨ (hgSh a).1 = 23) ∧ hgIn i (hgSh a).2 = true then k L (.int (hgI M a i.toNatClampNeg) :: r) K M else none) = some out := h
  obtain ⟨a, i, r, hS, h9⟩ := hgr2_some h2
  clear h h2
  subst hS
  intro ad H locs ls hn kc ks
  split at h9
  · next ha =>
    rcases ha.2.1 with hb | hb
    · exact va_bald hC.1 hC.2.1 hC.2.2.2.2.2.2.1 hn.1 a 2 (by rw [hgWs_at cy ad M ha.1, hgEn_int cy ad M hb (Or.inr (Or.inl rfl))]) rfl (hgIn_vp ha.2.2) hd (kk _ _ _ _ h9 ad H locs ls (hn.to (hgSk_c hgVk_i (hgSk_t (hgSk_t hn.sk)))) kc ks)
    · exact va_zald hC.1 hC.2.1 hC.2.2.2.2.2.2.1 hn.1 a 3 (by rw [hgWs_at cy ad M ha.1, hgEn_int cy ad M hb (Or.inr (Or.inr rfl))]) rfl (hgIn_vp ha.2.2) hd (kk _ _ _ _ h9 ad H locs ls (hn.to (hgSk_c hgVk_i (hgSk_t (hgSk_t hn.sk)))) kc ks)
  · cases h9
set_option maxHeartbeats 4000000 in
theorem hg_laload (hC : hgCx p l R s m args meth c q B0 D cy X ad0) (hd : decode (hgCode q) pc = .ok (.laload, len)) (hk : hgChk q pc .laload len ps hs = true) (h : hgStep X (hgRm q) call jump .laload ps hs L S K M k = some out)
    (kk : ∀ L S K M, k L S K M = some out → hgGo p l e R s m args below meth c Q B0 D cy (hgMl q) N0 ad0 (pc + len) L S K M) : hgGo p l e R s m args below meth c Q B0 D cy (hgMl q) N0 ad0 pc L S K M := by
  have hl : len = 1 := of_decide_eq_true (show decide (len = 1) = true from hk)
  subst hl
  have h2 : (hgr2 S fun a i r => if a < M.1 ∧ (hgSh a).1 = 21 ∧ hgIn i (hgSh a).2 = true then k L (.long (hgJ M a i.toNatClampNeg) :: r) K M else none) = some out := h
  obtain ⟨a, i, r, hS, h9⟩ := hgr2_some h2
  clear h h2
  subst hS
  intro ad H locs ls hn kc ks
  split at h9
  · next ha =>
    exact va_lald hC.1 hC.2.1 hC.2.2.2.2.2.2.1 hn.1 a 1 (by rw [hgWs_at cy ad M ha.1, hgEn_long cy ad M ha.2.1]) rfl (hgIn_vp ha.2.2) hd (kk _ _ _ _ h9 ad H locs ls (hn.to (hgSk_c hgVk_l (hgSk_t (hgSk_t hn.sk)))) kc ks)
  · cases h9
/-- aaload, of any reference type -/
theorem hg_aald {cc : ByteArray} {H : Heap} {locs : List Loc} {cells slots : Nat} {ls : Array Slot} {rest : List Value} {cl : List vw_C} {tys : List (ClassId × FieldType)} {ws : va_W} {a : Nat} (hexec : p.tables.exec = Jvm.exec) (hb : c.code = cc) (hK : va_K D cl tys s) (hP : va_P D cl ws H) (q0 t0 : Nat) {cA : ClassId} {ty : FieldType} (hty : ty.isReference = true) {n : Nat} {f : Nat → Option Nat} (ha : ws[q0]? = some (a, .inl (cA, n, .inr (.inr (.inr (.inr f)))))) (ht : tys[t0]? = some (cA, ty)) {i : Int32} (hin : vp_in i n) (hdg : decode cc pc = .ok (.aaload, 1))
    (kk : W p l e R s m args below meth c H locs cells slots Q (F0 m (pc + 1) ls (va_rf (f i.toNatClampNeg) :: rest))) : W p l e R s m args below meth c H locs cells slots Q (F0 m pc ls (.int i :: .ref a :: rest)) := by
  have hlt : i.toNatClampNeg < n := Nat.not_le.mp fun q => hin (Or.inr q)
  exact W.aald (v := va_rf (f i.toNatClampNeg)) (ty := ty) hexec hb (hP q0 _ ha) ((hK.2 t0 _ ht).1 n (fun j => va_rf (f j))) hty (fun q => by cases q) (by show ¬ (i < 0 ∨ (arrV _ _ _).slots.size ≤ _); rw [arrV_size]; exact hin) (by show (arrV _ _ _).slots[_]? = _; rw [arrV_read _ _ hlt]) rfl rfl hdg kk
theorem hg_kd5 {kd : Nat} (h1 : 24 ≤ kd) (h2 : kd ≤ 28) : ∃ (t0 : Nat) (ty : FieldType), (hgTys cy)[t0]? = some (cy kd, ty) ∧ FieldType.isReference ty = true := by
  have : kd = 24 ∨ kd = 25 ∨ kd = 26 ∨ kd = 27 ∨ kd = 28 := by omega
  rcases this with rfl | rfl | rfl | rfl | rfl
  · exact ⟨4, _, rfl, rfl⟩
  · exact ⟨5, _, rfl, rfl⟩
  · exact ⟨6, _, rfl, rfl⟩
  · exact ⟨7, _, rfl, rfl⟩
  · exact ⟨8, _, rfl, rfl⟩
set_option maxHeartbeats 4000000 in
theorem hg_aaload (hC : hgCx p l R s m args meth c q B0 D cy X ad0) (hd : decode (hgCode q) pc = .ok (.aaload, len)) (hk : hgChk q pc .aaload len ps hs = true) (h : hgStep X (hgRm q) call jump .aaload ps hs L S K M k = some out)
    (kk : ∀ L S K M, k L S K M = some out → hgGo p l e R s m args below meth c Q B0 D cy (hgMl q) N0 ad0 (pc + len) L S K M) : hgGo p l e R s m args below meth c Q B0 D cy (hgMl q) N0 ad0 pc L S K M := by
  have hl : len = 1 := of_decide_eq_true (show decide (len = 1) = true from hk)
  subst hl
  have h2 : (hgr2 S fun a i r => if a < M.1 ∧ 24 ≤ (hgSh a).1 ∧ (hgSh a).1 ≤ 28 ∧ hgIn i (hgSh a).2 = true then (match hgR M a i.toNatClampNeg with
      | some q => k L (.ref q :: r) K M
      | none => none) else none) = some out := h
  obtain ⟨a, i, r, hS, h9⟩ := hgr2_some h2
  clear h h2
  subst hS
  intro ad H locs ls hn kc ks
  split at h9
  · next ha =>
    obtain ⟨t0, ty, ht, hty⟩ := hg_kd5 (cy := cy) ha.2.1 ha.2.2.1
    split at h9
    · next b hb =>
      refine hg_aald hC.1 hC.2.1 hC.2.2.2.2.2.2.1 hn.1 a t0 hty (by rw [hgWs_at cy ad M ha.1, hgEn_ref cy ad M rfl ha.2.1]) ht (hgIn_vp ha.2.2.2) hd ?_
      rw [hb]
      exact kk _ _ _ _ h9 ad H locs ls (hn.to (hgSk_c (hgVk_r (hn.2.2.2.2.2.2.1 _ _ _ hb)) (hgSk_t (hgSk_t hn.sk)))) kc ks
    · cases h9
  · cases h9
end HGARR
end
section
/-! Stores into arrays, lengths, constants. -/
section HGAR2
variable {p : Program} {l : Launch} {e : Env} {R : Room} {s : State} {m : MethodId} {args : Array Value} {below : List Frame} {meth : Method} {c : Code} {Q : State → Prop} {q B0 nL N0 : Nat} {D : va_G} {cy : Nat → ClassId} {X : hgX} {ad0 : Nat → Nat}
variable {call : Nat → List Value → hgMem → Option hgOut} {jump : Nat → hgL → List Value → hgK → hgMem → Option hgOut} {len : Nat} {ps : List Nat} {hs : List (Nat × Nat × Nat)} {pc : Nat} {out : hgOut} {L : hgL} {S : List Value} {K : hgK} {M : hgMem} {k : hgL → List Value → hgK → hgMem → Option hgOut}
theorem hgias_some {f : Int32 → Int32 → Nat → List Value → Option hgOut} (h : (match S with
    | .int x :: .int i :: .ref a :: r => f x i a r
    | _ => none) = some out) : ∃ x i a r, S = .int x :: .int i :: .ref a :: r ∧ f x i a r = some out := by
  split at h
  · exact ⟨_, _, _, _, rfl, h⟩
  · cases h
theorem hglas_some {f : Int64 → Int32 → Nat → List Value → Option hgOut} (h : (match S with
    | .long x :: .int i :: .ref a :: r => f x i a r
    | _ => none) = some out) : ∃ x i a r, S = .long x :: .int i :: .ref a :: r ∧ f x i a r = some out := by
  split at h
  · exact ⟨_, _, _, _, rfl, h⟩
  · cases h
theorem hgaas_some {f : Nat → Int32 → Nat → List Value → Option hgOut} (h : (match S with
    | .ref x :: .int i :: .ref a :: r => f x i a r
    | _ => none) = some out) : ∃ x i a r, S = .ref x :: .int i :: .ref a :: r ∧ f x i a r = some out := by
  split at h
  · exact ⟨_, _, _, _, rfl, h⟩
  · cases h
set_option maxHeartbeats 4000000 in
theorem hg_iastore (hC : hgCx p l R s m args meth c q B0 D cy X ad0) (hd : decode (hgCode q) pc = .ok (.iastore, len)) (hk : hgChk q pc .iastore len ps hs = true) (h : hgStep X (hgRm q) call jump .iastore ps hs L S K M k = some out)
    (kk : ∀ L S K M, k L S K M = some out → hgGo p l e R s m args below meth c Q B0 D cy (hgMl q) N0 ad0 (pc + len) L S K M) : hgGo p l e R s m args below meth c Q B0 D cy (hgMl q) N0 ad0 pc L S K M := by
  have hl : len = 1 := of_decide_eq_true (show decide (len = 1) = true from hk)
  subst hl
  obtain ⟨x, i, a, r, hS, h9⟩ := hgias_some (f := fun x i a r => if a < M.1 ∧ (hgSh a).1 = 20 ∧ hgIn i (hgSh a).2 = true then k L r K (hgSI M a i.toNatClampNeg x) else none) h
  clear h
  subst hS
  intro ad H locs ls hn kc ks
  split at h9
  · next ha =>
    refine va_iast hC.1 hC.2.1 hC.2.2.2.2.2.2.1 hn.1 hn.2.1 hn.2.2.1 a 0 (by rw [hgWs_at cy ad M ha.1, hgEn_int cy ad M ha.2.1 (Or.inl rfl)]) rfl (hgIn_vp ha.2.2) hd (fun H1 locs1 hP hD hS => ?_)
    rw [hgWs_set cy ad M (hgSI M a i.toNatClampNeg x) rfl (hgEn_SI_at cy ad M _ x ha.2.1 (Or.inl rfl)) (fun b hb => hgEn_SI_ne cy ad M a _ x hb)] at hP hD
    exact kk _ _ _ _ h9 ad H1 locs1 ls (hn.mem (M1 := hgSI M a i.toNatClampNeg x) rfl hP hD hS (hgRok_SI hn.2.2.2.2.2.2.1 a _ x) (hgSk_t (hgSk_t (hgSk_t hn.sk)))) kc ks
  · cases h9
set_option maxHeartbeats 4000000 in
theorem hg_lastore (hC : hgCx p l R s m args meth c q B0 D cy X ad0) (hd : decode (hgCode q) pc = .ok (.lastore, len)) (hk : hgChk q pc .lastore len ps hs = true) (h : hgStep X (hgRm q) call jump .lastore ps hs L S K M k = some out)
    (kk : ∀ L S K M, k L S K M = some out → hgGo p l e R s m args below meth c Q B0 D cy (hgMl q) N0 ad0 (pc + len) L S K M) : hgGo p l e R s m args below meth c Q B0 D cy (hgMl q) N0 ad0 pc L S K M := by
  have hl : len = 1 := of_decide_eq_true (show decide (len = 1) = true from hk)
  subst hl
  obtain ⟨x, i, a, r, hS, h9⟩ := hglas_some (f := fun x i a r => if a < M.1 ∧ (hgSh a).1 = 21 ∧ hgIn i (hgSh a).2 = true then k L r K (hgSJ M a i.toNatClampNeg x) else none) h
  clear h
  subst hS
  intro ad H locs ls hn kc ks
  split at h9
  · next ha =>
    refine va_last hC.1 hC.2.1 hC.2.2.2.2.2.2.1 hn.1 hn.2.1 hn.2.2.1 a 1 (by rw [hgWs_at cy ad M ha.1, hgEn_long cy ad M ha.2.1]) rfl (hgIn_vp ha.2.2) hd (fun H1 locs1 hP hD hS => ?_)
    rw [hgWs_set cy ad M (hgSJ M a i.toNatClampNeg x) rfl (hgEn_SJ_at cy ad M _ x ha.2.1) (fun b hb => hgEn_SJ_ne cy ad M a _ x hb)] at hP hD
    exact kk _ _ _ _ h9 ad H1 locs1 ls (hn.mem (M1 := hgSJ M a i.toNatClampNeg x) rfl hP hD hS (hgRok_SJ hn.2.2.2.2.2.2.1 a _ x) (hgSk_t (hgSk_t (hgSk_t hn.sk)))) kc ks
  · cases h9
set_option maxHeartbeats 4000000 in
theorem hg_bastore (hC : hgCx p l R s m args meth c q B0 D cy X ad0) (hd : decode (hgCode q) pc = .ok (.bastore, len)) (hk : hgChk q pc .bastore len ps hs = true) (h : hgStep X (hgRm q) call jump .bastore ps hs L S K M k = some out)
    (kk : ∀ L S K M, k L S K M = some out → hgGo p l e R s m args below meth c Q B0 D cy (hgMl q) N0 ad0 (pc + len) L S K M) : hgGo p l e R s m args below meth c Q B0 D cy (hgMl q) N0 ad0 pc L S K M := by
  have hl : len = 1 := of_decide_eq_true (show decide (len = 1) = true from hk)
  subst hl
  obtain ⟨x, i, a, r, hS, h9⟩ := hgias_some (f := fun x i a r => if a < M.1 ∧ (hgSh a).1 = 22 ∧ hgIn i (hgSh a).2 = true then k L r K (hgSI M a i.toNatClampNeg (vp_nar .byte x)) else if a < M.1 ∧ (hgSh a).1 = 23 ∧ hgIn i (hgSh a).2 = true then k L r K (hgSI M a i.toNatClampNeg (vp_nar .boolean x)) else none) h
  clear h
  subst hS
  intro ad H locs ls hn kc ks
  split at h9
  · next ha =>
    refine va_bast hC.1 hC.2.1 hC.2.2.2.2.2.2.1 hn.1 hn.2.1 hn.2.2.1 a 2 (by rw [hgWs_at cy ad M ha.1, hgEn_int cy ad M ha.2.1 (Or.inr (Or.inl rfl))]) rfl (hgIn_vp ha.2.2) hd (fun H1 locs1 hP hD hS => ?_)
    rw [hgWs_set cy ad M (hgSI M a i.toNatClampNeg (vp_nar .byte x)) rfl (hgEn_SI_at cy ad M _ _ ha.2.1 (Or.inr (Or.inl rfl))) (fun b hb => hgEn_SI_ne cy ad M a _ _ hb)] at hP hD
    exact kk _ _ _ _ h9 ad H1 locs1 ls (hn.mem (M1 := hgSI M a i.toNatClampNeg (vp_nar .byte x)) rfl hP hD hS (hgRok_SI hn.2.2.2.2.2.2.1 a _ _) (hgSk_t (hgSk_t (hgSk_t hn.sk)))) kc ks
  · split at h9
    · next ha =>
      refine va_zast hC.1 hC.2.1 hC.2.2.2.2.2.2.1 hn.1 hn.2.1 hn.2.2.1 a 3 (by rw [hgWs_at cy ad M ha.1, hgEn_int cy ad M ha.2.1 (Or.inr (Or.inr rfl))]) rfl (hgIn_vp ha.2.2) hd (fun H1 locs1 hP hD hS => ?_)
      rw [hgWs_set cy ad M (hgSI M a i.toNatClampNeg (vp_nar .boolean x)) rfl (hgEn_SI_at cy ad M _ _ ha.2.1 (Or.inr (Or.inr rfl))) (fun b hb => hgEn_SI_ne cy ad M a _ _ hb)] at hP hD
      exact kk _ _ _ _ h9 ad H1 locs1 ls (hn.mem (M1 := hgSI M a i.toNatClampNeg (vp_nar .boolean x)) rfl hP hD hS (hgRok_SI hn.2.2.2.2.2.2.1 a _ _) (hgSk_t (hgSk_t (hgSk_t hn.sk)))) kc ks
    · cases h9
set_option maxHeartbeats 4000000 in
theorem hg_aastore (hC : hgCx p l R s m args meth c q B0 D cy X ad0) (hd : decode (hgCode q) pc = .ok (.aastore, len)) (hk : hgChk q pc .aastore len ps hs = true) (h : hgStep X (hgRm q) call jump .aastore ps hs L S K M k = some out)
    (kk : ∀ L S K M, k L S K M = some out → hgGo p l e R s m args below meth c Q B0 D cy (hgMl q) N0 ad0 (pc + len) L S K M) : hgGo p l e R s m args below meth c Q B0 D cy (hgMl q) N0 ad0 pc L S K M := by
  have hl : len = 1 := of_decide_eq_true (show decide (len = 1) = true from hk)
  subst hl
  obtain ⟨x, i, a, r, hS, h9⟩ := hgaas_some (f := fun q i a r => if a < M.1 ∧ q < M.1 ∧ 24 ≤ (hgSh a).1 ∧ (hgSh a).1 ≤ 26 ∧ (hgSh q).1 = [0, 4, 1].getD ((hgSh a).1 - 24) 99 ∧ hgIn i (hgSh a).2 = true then k L r K (hgSR M a i.toNatClampNeg q) else none) h
  clear h
  subst hS
  intro ad H locs ls hn kc ks
  split at h9
  · next ha =>
    obtain ⟨h1, h2, h3, h4, h5, h6⟩ := ha
    have hset := hgWs_set cy ad M (hgSR M a i.toNatClampNeg x) rfl (hgEn_SR_at cy ad M i.toNatClampNeg x rfl h3) (fun b hb => hgEn_SR_ne cy ad M a _ x hb)
    have fin : ∀ (H1 : Heap) (locs1 : List Loc), va_P D vwCl ((hgWs cy ad M).set a (ad a, .inl (cy (hgSh a).1, (hgSh a).2, .inr (.inr (.inr (.inr (va_up (fun i => (hgR M a i).map ad) i.toNatClampNeg (some (ad x))))))))) H1 → va_D (hgA B0) ((hgWs cy ad M).set a (ad a, .inl (cy (hgSh a).1, (hgSh a).2, .inr (.inr (.inr (.inr (va_up (fun i => (hgR M a i).map ad) i.toNatClampNeg (some (ad x))))))))) → va_S (hgA B0) s.heap H1 locs1 → W p l e R s m args below meth c H1 locs1 K.1 K.2 Q (F0 m (pc + 1) ls (r.map (hgPh ad))) := by
      intro H1 locs1 hP hD hS
      rw [hset] at hP hD
      exact kk _ _ _ _ h9 ad H1 locs1 ls (hn.mem (M1 := hgSR M a i.toNatClampNeg x) rfl hP hD hS (hgRok_SR hn.2.2.2.2.2.2.1 a _ h2) (hgSk_t (hgSk_t (hgSk_t hn.sk)))) kc ks
    have hat : (hgWs cy ad M)[a]? = some (ad a, .inl (cy (hgSh a).1, (hgSh a).2, .inr (.inr (.inr (.inr (fun i => (hgR M a i).map ad)))))) := by rw [hgWs_at cy ad M h1, hgEn_ref cy ad M rfl h3]
    have hK := hC.2.2.2.2.2.2.1
    have h3 : (hgSh a).1 = 24 ∨ (hgSh a).1 = 25 ∨ (hgSh a).1 = 26 := by omega
    rcases h3 with g | g | g
    · have hq : (hgSh x).1 = 0 := by rw [h5, g]; rfl
      exact va_astq hC.1 hC.2.1 hK hn.1 hn.2.1 hn.2.2.1 a 4 x 0 (r := (RX0, TX0, 15)) hat (by rw [g]; rfl) (by rw [hgWs_at cy ad M h2, hgEn_obj cy ad M hq (by omega)]) rfl (hgIn_vp h6) hd fin
    · have hq : (hgSh x).1 = 4 := by rw [h5, g]; rfl
      exact va_astq hC.1 hC.2.1 hK hn.1 hn.2.1 hn.2.2.1 a 5 x 4 (r := (RX4, TX4, 5)) hat (by rw [g]; rfl) (by rw [hgWs_at cy ad M h2, hgEn_obj cy ad M hq (by omega)]) rfl (hgIn_vp h6) hd fin
    · have hq : (hgSh x).1 = 1 := by rw [h5, g]; rfl
      exact va_astq hC.1 hC.2.1 hK hn.1 hn.2.1 hn.2.2.1 a 6 x 1 (r := (RX1, TX1, 16)) hat (by rw [g]; rfl) (by rw [hgWs_at cy ad M h2, hgEn_obj cy ad M hq (by omega)]) rfl (hgIn_vp h6) hd fin
  · cases h9
set_option maxHeartbeats 4000000 in
theorem hg_alen (hC : hgCx p l R s m args meth c q B0 D cy X ad0) (hd : decode (hgCode q) pc = .ok (.arraylength, len)) (hk : hgChk q pc .arraylength len ps hs = true) (h : hgStep X (hgRm q) call jump .arraylength ps hs L S K M k = some out)
    (kk : ∀ L S K M, k L S K M = some out → hgGo p l e R s m args below meth c Q B0 D cy (hgMl q) N0 ad0 (pc + len) L S K M) : hgGo p l e R s m args below meth c Q B0 D cy (hgMl q) N0 ad0 pc L S K M := by
  have hl : len = 1 := of_decide_eq_true (show decide (len = 1) = true from hk)
  subst hl
  have h2 : (hgr1 S fun a r => if a = 2000 then k L (.int (nI X.1) :: r) K M else if a < M.1 ∧ 20 ≤ (hgSh a).1 ∧ (hgSh a).1 ≤ 23 then k L (.int (nI (hgSh a).2) :: r) K M else none) = some out := h
  obtain ⟨a, r, hS, h9⟩ := hgr1_some h2
  clear h h2
  subst hS
  intro ad H locs ls hn kc ks
  split at h9
  · next ha =>
    subst ha
    obtain ⟨g1, g2, g3⟩ := hg_scr hC hn
    exact va_slen hC.1 hC.2.1 g1 g2 g3 hn.2.2.1 hd (kk _ _ _ _ h9 ad H locs ls (hn.to (hgSk_c hgVk_i (hgSk_t hn.sk))) kc ks)
  · split at h9
    · next ha =>
      have hK := hC.2.2.2.2.2.2.1
      have h3 : (hgSh a).1 = 20 ∨ (hgSh a).1 = 21 ∨ (hgSh a).1 = 22 ∨ (hgSh a).1 = 23 := by omega
      have go := kk _ _ _ _ h9 ad H locs ls (hn.to (hgSk_c hgVk_i (hgSk_t hn.sk))) kc ks
      rcases h3 with g | g | g | g
      · exact va_alen (x := ((hgSh a).2, .inl (hgI M a))) hC.1 hC.2.1 hK hn.1 a 0 (by rw [hgWs_at cy ad M ha.1, hgEn_int cy ad M g (Or.inl rfl)]) rfl rfl hd go
      · exact va_alen (x := ((hgSh a).2, .inr (.inl (hgJ M a)))) hC.1 hC.2.1 hK hn.1 a 1 (by rw [hgWs_at cy ad M ha.1, hgEn_long cy ad M g]) rfl rfl hd go
      · exact va_alen (x := ((hgSh a).2, .inl (hgI M a))) hC.1 hC.2.1 hK hn.1 a 2 (by rw [hgWs_at cy ad M ha.1, hgEn_int cy ad M g (Or.inr (Or.inl rfl))]) rfl rfl hd go
      · exact va_alen (x := ((hgSh a).2, .inl (hgI M a))) hC.1 hC.2.1 hK hn.1 a 3 (by rw [hgWs_at cy ad M ha.1, hgEn_int cy ad M g (Or.inr (Or.inr rfl))]) rfl rfl hd go
    · cases h9
end HGAR2
end
section
/-! Constants, new cells. -/
section HGCST
variable {p : Program} {l : Launch} {e : Env} {R : Room} {s : State} {m : MethodId} {args : Array Value} {below : List Frame} {meth : Method} {c : Code} {Q : State → Prop} {q B0 nL N0 : Nat} {D : va_G} {cy : Nat → ClassId} {X : hgX} {ad0 : Nat → Nat}
variable {call : Nat → List Value → hgMem → Option hgOut} {jump : Nat → hgL → List Value → hgK → hgMem → Option hgOut} {len : Nat} {ps : List Nat} {hs : List (Nat × Nat × Nat)} {pc : Nat} {out : hgOut} {L : hgL} {S : List Value} {K : hgK} {M : hgMem} {k : hgL → List Value → hgK → hgMem → Option hgOut}
theorem hgldc_some {f0 f1 f2 : Nat → Nat → Option hgOut} (h : (match ps with
    | [0, w, v] => f0 w v
    | [1, w, v] => f1 w v
    | [2, w, v] => f2 w v
    | _ => none) = some out) : ∃ w v, (ps = [0, w, v] ∧ f0 w v = some out) ∨ (ps = [1, w, v] ∧ f1 w v = some out) ∨ (ps = [2, w, v] ∧ f2 w v = some out) := by
  split at h
  · exact ⟨_, _, Or.inl ⟨rfl, h⟩⟩
  · exact ⟨_, _, Or.inr (Or.inl ⟨rfl, h⟩)⟩
  · exact ⟨_, _, Or.inr (Or.inr ⟨rfl, h⟩)⟩
  · cases h
set_option maxRecDepth 100000 in
set_option maxHeartbeats 4000000 in
theorem hg_ldc (hC : hgCx p l R s m args meth c q B0 D cy X ad0) {idx : Nat} (hd : decode (hgCode q) pc = .ok (.ldc idx, len)) (hk : hgChk q pc (.ldc idx) len ps hs = true) (h : hgStep X (hgRm q) call jump (.ldc idx) ps hs L S K M k = some out)
    (kk : ∀ L S K M, k L S K M = some out → hgGo p l e R s m args below meth c Q B0 D cy (hgMl q) N0 ad0 (pc + len) L S K M) : hgGo p l e R s m args below meth c Q B0 D cy (hgMl q) N0 ad0 pc L S K M := by
  obtain ⟨hx, hb, -, hown, hts, -, -, hst, -⟩ := hC
  obtain ⟨w, v, g⟩ := hgldc_some (f0 := fun _ v => k L (.int (nI v) :: S) K M) (f1 := fun _ v => k L (.float (UInt32.ofNat v) :: S) K M) (f2 := fun _ v => k L (.ref v :: S) K M) h
  clear h
  rcases g with ⟨rfl, h9⟩ | ⟨rfl, h9⟩ | ⟨rfl, h9⟩
  · have hk2 : (decide (len = 2) && decide (hgWt w = some (.constant (hgOwn q) idx (nI v)))) = true := hk
    rw [Bool.and_eq_true, decide_eq_true_eq, decide_eq_true_eq] at hk2
    obtain ⟨hl, hw⟩ := hk2
    subst hl
    intro ad H locs ls hn kc ks
    exact lv_ldc hx hb hown (hts _ (hgTb_of hw rfl)) hd (kk _ _ _ _ h9 ad H locs ls (hn.to (hgSk_c hgVk_i hn.sk)) kc ks)
  · have hk2 : (decide (len = 2) && decide (hgWt w = some (.constantFloat (hgOwn q) idx (UInt32.ofNat v)))) = true := hk
    rw [Bool.and_eq_true, decide_eq_true_eq, decide_eq_true_eq] at hk2
    obtain ⟨hl, hw⟩ := hk2
    subst hl
    intro ad H locs ls hn kc ks
    exact lv_ldcf hx hb hown (hts _ (hgTb_of hw rfl)) hd (kk _ _ _ _ h9 ad H locs ls (hn.to (hgSk_c hgVk_f hn.sk)) kc ks)
  · have hk2 : (decide (len = 2) && (decide (1000 ≤ v) && (match hgTx[v - 1000]? with
      | some tx => decide (hgWt w = some (.stringRef (hgOwn q) idx tx))
      | none => false))) = true := hk
    rw [Bool.and_eq_true, Bool.and_eq_true, decide_eq_true_eq, decide_eq_true_eq] at hk2
    obtain ⟨hl, hv, hm⟩ := hk2
    subst hl
    cases ht : hgTx[v - 1000]? with
    | none => rw [ht] at hm; cases hm
    | some tx =>
      rw [ht] at hm
      have hw : hgWt w = some (.stringRef (hgOwn q) idx tx) := of_decide_eq_true hm
      obtain ⟨sa, g1, g2⟩ := hst.2.2.2.1.1 (hgOwn q) idx tx (List.mem_of_getElem? hw)
      intro ad H locs ls hn kc ks
      have e9 : ad v = sa := by
        rw [hn.2.2.2.2.2.2.2.2 v (Or.inr hv), g2 _ ht]
        congr 1
        omega
      refine va_ldcS hx hb hown g1 hd ?_
      rw [← e9]
      exact kk _ _ _ _ h9 ad H locs ls (hn.to (hgSk_c (hgVk_t hv) hn.sk)) kc ks
theorem hgldw_some {f0 : Nat → Nat → Option hgOut} (h : (match ps with
    | [0, w, v] => f0 w v
    | _ => none) = some out) : ∃ w v, ps = [0, w, v] ∧ f0 w v = some out := by
  split at h
  · exact ⟨_, _, rfl, h⟩
  · cases h
theorem hgld2w_some {f0 f1 : Nat → Nat → Option hgOut} (h : (match ps with
    | [0, w, v] => f0 w v
    | [1, w, v] => f1 w v
    | _ => none) = some out) : ∃ w v, (ps = [0, w, v] ∧ f0 w v = some out) ∨ (ps = [1, w, v] ∧ f1 w v = some out) := by
  split at h
  · exact ⟨_, _, Or.inl ⟨rfl, h⟩⟩
  · exact ⟨_, _, Or.inr ⟨rfl, h⟩⟩
  · cases h
set_option maxHeartbeats 4000000 in
theorem hg_ldcw (hC : hgCx p l R s m args meth c q B0 D cy X ad0) {idx : Nat} (hd : decode (hgCode q) pc = .ok (.ldc_w idx, len)) (hk : hgChk q pc (.ldc_w idx) len ps hs = true) (h : hgStep X (hgRm q) call jump (.ldc_w idx) ps hs L S K M k = some out)
    (kk : ∀ L S K M, k L S K M = some out → hgGo p l e R s m args below meth c Q B0 D cy (hgMl q) N0 ad0 (pc + len) L S K M) : hgGo p l e R s m args below meth c Q B0 D cy (hgMl q) N0 ad0 pc L S K M := by
  obtain ⟨hx, hb, -, hown, hts, -⟩ := hC
  obtain ⟨w, v, rfl, h9⟩ := hgldw_some (f0 := fun _ v => k L (.int (nI v) :: S) K M) h
  have hk2 : (decide (len = 3) && decide (hgWt w = some (.constant (hgOwn q) idx (nI v)))) = true := hk
  rw [Bool.and_eq_true, decide_eq_true_eq, decide_eq_true_eq] at hk2
  obtain ⟨hl, hw⟩ := hk2
  subst hl
  intro ad H locs ls hn kc ks
  exact lv_ldcw hx hb hown (hts _ (hgTb_of hw rfl)) hd (kk _ _ _ _ h9 ad H locs ls (hn.to (hgSk_c hgVk_i hn.sk)) kc ks)
set_option maxHeartbeats 4000000 in
theorem hg_ldc2 (hC : hgCx p l R s m args meth c q B0 D cy X ad0) {idx : Nat} (hd : decode (hgCode q) pc = .ok (.ldc2_w idx, len)) (hk : hgChk q pc (.ldc2_w idx) len ps hs = true) (h : hgStep X (hgRm q) call jump (.ldc2_w idx) ps hs L S K M k = some out)
    (kk : ∀ L S K M, k L S K M = some out → hgGo p l e R s m args below meth c Q B0 D cy (hgMl q) N0 ad0 (pc + len) L S K M) : hgGo p l e R s m args below meth c Q B0 D cy (hgMl q) N0 ad0 pc L S K M := by
  obtain ⟨hx, hb, -, hown, hts, -⟩ := hC
  obtain ⟨w, v, g⟩ := hgld2w_some (f0 := fun _ v => k L (.long (lN v) :: S) K M) (f1 := fun _ v => k L (.long (-lN v) :: S) K M) h
  clear h
  rcases g with ⟨rfl, h9⟩ | ⟨rfl, h9⟩
  · have hk2 : (decide (len = 3) && decide (hgWt w = some (.constantLong (hgOwn q) idx (lN v)))) = true := hk
    rw [Bool.and_eq_true, decide_eq_true_eq, decide_eq_true_eq] at hk2
    obtain ⟨hl, hw⟩ := hk2
    subst hl
    intro ad H locs ls hn kc ks
    exact lv_ldc2 hx hb hown (hts _ (hgTb_of hw rfl)) hd (kk _ _ _ _ h9 ad H locs ls (hn.to (hgSk_c hgVk_l hn.sk)) kc ks)
  · have hk2 : (decide (len = 3) && decide (hgWt w = some (.constantLong (hgOwn q) idx (-lN v)))) = true := hk
    rw [Bool.and_eq_true, decide_eq_true_eq, decide_eq_true_eq] at hk2
    obtain ⟨hl, hw⟩ := hk2
    subst hl
    intro ad H locs ls hn kc ks
    exact lv_ldc2 hx hb hown (hts _ (hgTb_of hw rfl)) hd (kk _ _ _ _ h9 ad H locs ls (hn.to (hgSk_c hgVk_l hn.sk)) kc ks)
/-! a cell more -/
theorem hgRok_new (h : hgRok M) : hgRok (hgNew M) := by
  intro a j r hr
  have hr : (if a = M.1 then none else hgR M a j) = some r := hr
  split at hr
  · cases hr
  · exact Nat.lt_succ_of_lt (h a j r hr)
theorem hgI_new (M : hgMem) {a : Nat} (h : a ≠ M.1) : hgI (hgNew M) a = hgI M a := by
  funext j
  show (if a = M.1 then 0 else hgI M a j) = _
  rw [if_neg h]
theorem hgJ_new (M : hgMem) {a : Nat} (h : a ≠ M.1) : hgJ (hgNew M) a = hgJ M a := by
  funext j
  show (if a = M.1 then 0 else hgJ M a j) = _
  rw [if_neg h]
theorem hgR_new (M : hgMem) {a : Nat} (h : a ≠ M.1) : hgR (hgNew M) a = hgR M a := by
  funext j
  show (if a = M.1 then none else hgR M a j) = _
  rw [if_neg h]
theorem hgI_new_at (M : hgMem) : hgI (hgNew M) M.1 = fun _ => 0 := by
  funext j
  show (if M.1 = M.1 then 0 else hgI M M.1 j) = _
  rw [if_pos rfl]
theorem hgJ_new_at (M : hgMem) : hgJ (hgNew M) M.1 = fun _ => 0 := by
  funext j
  show (if M.1 = M.1 then 0 else hgJ M M.1 j) = _
  rw [if_pos rfl]
theorem hgR_new_at (M : hgMem) : hgR (hgNew M) M.1 = fun _ => none := by
  funext j
  show (if M.1 = M.1 then none else hgR M M.1 j) = _
  rw [if_pos rfl]
/-- an entry's references are named alike by both -/
theorem hgEn_ad (cy : Nat → ClassId) {ad ad1 : Nat → Nat} {M M1 : hgMem} {a : Nat} (hI : hgI M1 a = hgI M a) (hJ : hgJ M1 a = hgJ M a) (hR : hgR M1 a = hgR M a) (hr : ∀ j r, hgR M a j = some r → ad1 r = ad r) : hgEn cy ad1 M1 a = hgEn cy ad M a := by
  have e1 : ∀ j, (hgR M a j).map ad1 = (hgR M a j).map ad := fun j => by
    cases h : hgR M a j with
    | none => rfl
    | some r => exact congrArg some (hr j r h)
  have e2 : ∀ ci k, hgFv ad1 M1 a ci k = hgFv ad M a ci k := fun ci k => by
    unfold hgFv
    rw [hI, hJ, hR, e1]
  unfold hgEn
  simp only [hI, hJ, hR, e1, e2]
theorem hgWs_new (cy : Nat → ClassId) (ad : Nat → Nat) (M : hgMem) (b : Nat) {e : va_E} (hr : hgRok M) (he : hgEn cy (va_up ad M.1 b) (hgNew M) M.1 = e) : hgWs cy ad M ++ [(b, e)] = hgWs cy (va_up ad M.1 b) (hgNew M) := by
  show _ = (List.range (M.1 + 1)).map (fun a => (va_up ad M.1 b a, hgEn cy (va_up ad M.1 b) (hgNew M) a))
  rw [List.range_succ, List.map_append]
  congr 1
  · refine List.map_congr_left (fun a ha => ?_)
    have ha : a < M.1 := List.mem_range.mp ha
    have hne : a ≠ M.1 := by omega
    refine Prod.ext_iff.mpr ⟨?_, ?_⟩
    · simp [va_up, hne]
    · refine (hgEn_ad cy (hgI_new M hne) (hgJ_new M hne) (hgR_new M hne) (fun j r h => ?_)).symm
      have := hr a j r h
      simp [va_up, show r ≠ M.1 by omega]
  · simp [va_up, he]
theorem hgNow.new {ad : Nat → Nat} {S1 : List Value} {H H1 : Heap} {locs : List Loc} {ls : Array Slot} {b : Nat} (h : hgNow B0 D cy s nL N0 ad0 ad L S M H locs ls) (hM : M.1 < 1000) (hP : va_P D vwCl (hgWs cy (va_up ad M.1 b) (hgNew M)) H1) (hD : va_D (hgA B0) (hgWs cy (va_up ad M.1 b) (hgNew M))) (hS : va_S (hgA B0) s.heap H1 locs) (hk : hgSk M.1 S1) : hgNow B0 D cy s nL N0 ad0 (va_up ad M.1 b) L (.ref M.1 :: S1) (hgNew M) H1 locs ls ∧ (S1.map (hgPh (va_up ad M.1 b)) = S1.map (hgPh ad)) := by
  have hx : hgExt M.1 ad (va_up ad M.1 b) := fun a ha => by
    show (if a = M.1 then b else ad a) = ad a
    rw [if_neg (by omega)]
  obtain ⟨h1, h2, h3, h4, h5, h6, h7, h8, h9⟩ := h
  refine ⟨⟨hP, hD, hS, hgLH_mono h4 (fun i v hv => ?_), fun i v hv => hgVk_m (h5 i v hv) (Nat.le_succ _), hgSk_c (hgVk_r (Nat.lt_succ_self _)) (fun v hv => hgVk_m (hk v hv) (Nat.le_succ _)), hgRok_new h7, Nat.le_succ_of_le h8, h9.tr h8 hx⟩, ?_⟩
  · rw [hgPh_ext hx (h5 i v hv)]
    exact hgAs_mem.mpr ⟨i, v, (Nat.zero_add i).symm, hv, rfl⟩
  · exact List.map_congr_left (fun v hv => hgPh_ext hx (hk v hv))
end HGCST
end
section
/-! New objects and arrays. -/
section HGNEW
variable {p : Program} {l : Launch} {e : Env} {R : Room} {s : State} {m : MethodId} {args : Array Value} {below : List Frame} {meth : Method} {c : Code} {Q : State → Prop} {q B0 nL N0 : Nat} {D : va_G} {cy : Nat → ClassId} {X : hgX} {ad0 : Nat → Nat}
variable {call : Nat → List Value → hgMem → Option hgOut} {jump : Nat → hgL → List Value → hgK → hgMem → Option hgOut} {len : Nat} {ps : List Nat} {hs : List (Nat × Nat × Nat)} {pc : Nat} {out : hgOut} {L : hgL} {S : List Value} {K : hgK} {M : hgMem} {k : hgL → List Value → hgK → hgMem → Option hgOut}
theorem hgDef0 {ty : FieldType} {kd : Nat} (h : hgTyOk kd ty = true) : defaultValue ty = if kd = 1 then .long 0 else if kd = 2 then va_rf none else .int 0 := by
  unfold hgTyOk at h
  split at h <;> first | rfl | cases h
theorem hg_hA (hC : hgCx p l R s m args meth c q B0 D cy X ad0) : ∀ z, s.heap.size ≤ z → hgA B0 z := fun z hz => Nat.le_trans hC.2.2.2.2.2.1 hz
set_option maxHeartbeats 4000000 in
/-- new C, one of the classes of the memory -/
theorem hg_new1 (hC : hgCx p l R s m args meth c q B0 D cy X ad0) {idx ci n w : Nat} (hd : decode (hgCode q) pc = .ok (.new idx, 3)) (hk : (match vwCl[ci]? with
      | some (C, _, N) => decide (n = N) && decide (hgWt w = some (.classLink (hgOwn q) idx C))
      | none => false) = true) (hsh : hgSh M.1 = (ci, n)) (hc1 : K.1 + 1 ≤ (hgRm q).1) (hc2 : K.2 + n ≤ (hgRm q).2) (h : k L (.ref M.1 :: S) (K.1 + 1, K.2 + n) (hgNew M) = some out)
    (kk : ∀ L S K M, k L S K M = some out → hgGo p l e R s m args below meth c Q B0 D cy (hgMl q) N0 ad0 (pc + 3) L S K M) : hgGo p l e R s m args below meth c Q B0 D cy (hgMl q) N0 ad0 pc L S K M := by
  have hA := hg_hA hC
  obtain ⟨hx, hb, -, hown, hts, -, hK, -, ⟨-, -, hr1, hr2⟩, -⟩ := hC
  cases hcl : vwCl[ci]? with
  | none => rw [hcl] at hk; cases hk
  | some v =>
    obtain ⟨C, T, N⟩ := v
    rw [hcl] at hk
    have hk : (decide (n = N) && decide (hgWt w = some (.classLink (hgOwn q) idx C))) = true := hk
    rw [Bool.and_eq_true, decide_eq_true_eq, decide_eq_true_eq] at hk
    obtain ⟨hN, hw⟩ := hk
    subst hN
    obtain ⟨g1, ⟨ty, t1, t2⟩, g3, g4, g5, g6, g7⟩ := hgCls hcl
    intro ad H locs ls hn kc ks
    have hM : M.1 < 326 := hgSh_lt (by rw [hsh]; show ci ≠ 99; omega)
    have hfs : ∀ j, j < n → defaultValue (ty j) = vp_V ((List.range n).map (fun j => hgFv ad (hgNew M) M.1 ci j)) j := by
      intro j hj
      have e1 : vp_V ((List.range n).map (fun j => hgFv ad (hgNew M) M.1 ci j)) j = hgFv ad (hgNew M) M.1 ci j := by simp [vp_V, hj]
      rw [e1, hgDef0 (t2 j hj)]
      unfold hgFv
      rw [hgI_new_at, hgJ_new_at, hgR_new_at]
      rfl
    refine va_new (fs := (List.range n).map (fun j => hgFv ad (hgNew M) M.1 ci j)) hx hb hts g1 ty t1 hown (hts _ (hgTb_of hw rfl)) (hts _ g6) (hts _ g7) hK hn.1 hn.2.1 hn.2.2.1 hA hcl hfs (by omega) (by omega) hd (fun b H1 hP hD hS => ?_)
    have he : hgEn cy (va_up ad M.1 b) (hgNew M) M.1 = .inr (ci, (List.range n).map (fun j => hgFv ad (hgNew M) M.1 ci j)) := by
      rw [hgEn_obj cy _ _ (by rw [hsh]) (show ci < 20 by omega), hsh]
      have e2 : ∀ j, hgFv (va_up ad M.1 b) (hgNew M) M.1 ci j = hgFv ad (hgNew M) M.1 ci j := fun j => by
        unfold hgFv
        rw [hgR_new_at]
        rfl
      simp only [e2]
    rw [hgWs_new cy ad M b hn.2.2.2.2.2.2.1 he] at hP hD
    obtain ⟨hn1, e3⟩ := hn.new (by omega) hP hD hS hn.sk
    have e4 : (F0 m (pc + 3) ls (.ref b :: S.map (hgPh ad))) = F0 m (pc + 3) ls ((.ref M.1 :: S).map (hgPh (va_up ad M.1 b))) := by
      rw [List.map_cons, e3]
      show _ = F0 m (pc + 3) ls (.ref (va_up ad M.1 b M.1) :: _)
      rw [show va_up ad M.1 b M.1 = b from if_pos rfl]
    rw [e4]
    exact kk _ _ _ _ h (va_up ad M.1 b) H1 locs ls hn1 (by show K.1 + 1 ≤ _; omega) (by show K.2 + n ≤ _; omega)
/-- the array's class is the one of its kind -/
theorem hg_cA {t0 kd : Nat} {ty : FieldType} {cA : ClassId} (hK : va_K D vwCl (hgTys cy) s) (ht : (hgTys cy)[t0]? = some (cy kd, ty)) (h1 : va_K D vwCl (hgTys cy ++ [(cA, ty)]) s) : cA = cy kd := by
  have a := (hK.2 t0 _ ht).2
  have b := (h1.2 9 (cA, ty) (by simp [hgTys])).2
  cases ty with
  | object C =>
    obtain ⟨_, _, _, _, _, a4⟩ := a
    obtain ⟨_, _, _, _, _, b4⟩ := b
    exact Option.some.inj (b4.symm.trans a4)
  | _ => exact Option.some.inj ((show s.vm.findClass _ = some cA from b).symm.trans (show s.vm.findClass _ = some (cy kd) from a))
/-- behind the making of an array -/
theorem hg_made (hR : R.cells = (hgRm q).1 ∧ R.slots = (hgRm q).2) {ad : Nat → Nat} {H H1 : Heap} {locs : List Loc} {ls : Array Slot} {b n pc2 : Nat} {en : va_E} {x : Int32} {r : List Value} (hn : hgNow B0 D cy s (hgMl q) N0 ad0 ad L (.int x :: r) M H locs ls) (hM : M.1 < 1000) (he : hgEn cy (va_up ad M.1 b) (hgNew M) M.1 = en) (hP : va_P D vwCl (hgWs cy ad M ++ [(b, en)]) H1) (hD : va_D (hgA B0) (hgWs cy ad M ++ [(b, en)])) (hS : va_S (hgA B0) s.heap H1 locs) (k1 : K.1 + 1 ≤ (hgRm q).1) (k2 : K.2 + n ≤ (hgRm q).2)
    (go : hgGo p l e R s m args below meth c Q B0 D cy (hgMl q) N0 ad0 pc2 L (.ref M.1 :: r) (K.1 + 1, K.2 + n) (hgNew M)) : W p l e R s m args below meth c H1 locs (K.1 + 1) (K.2 + n) Q (F0 m pc2 ls (.ref b :: r.map (hgPh ad))) := by
  rw [hgWs_new cy ad M b hn.2.2.2.2.2.2.1 he] at hP hD
  obtain ⟨hn1, e3⟩ := hn.new hM hP hD hS (hgSk_t hn.sk)
  have e4 : (F0 m pc2 ls (.ref b :: r.map (hgPh ad))) = F0 m pc2 ls ((.ref M.1 :: r).map (hgPh (va_up ad M.1 b))) := by
    rw [List.map_cons, e3]
    show _ = F0 m pc2 ls (.ref (va_up ad M.1 b M.1) :: _)
    rw [show va_up ad M.1 b M.1 = b from if_pos rfl]
  rw [e4]
  exact go (va_up ad M.1 b) H1 locs ls hn1 (by show K.1 + 1 ≤ _; omega) (by show K.2 + n ≤ _; omega)
set_option maxRecDepth 100000 in
theorem hgSh_max : ∀ a, a < 326 → (hgSh a).2 ≤ 20187 := by decide +kernel
set_option maxRecDepth 100000 in
theorem hgAc : [Cond.arrayClass .int, Cond.arrayClass .long, Cond.arrayClass .byte, Cond.arrayClass .boolean].all hgIt = true := by decide +kernel
theorem hgna_some {f : Nat → Int32 → List Value → Option hgOut} (h : (match ps with
    | [kd] => hgi1 S fun x r => f kd x r
    | _ => none) = some out) : ∃ kd x r, ps = [kd] ∧ S = .int x :: r ∧ f kd x r = some out := by
  split at h
  · obtain ⟨x, r, hS, h9⟩ := hgi1_some h
    exact ⟨_, x, r, rfl, hS, h9⟩
  · cases h
theorem hgaa_some {f : Nat → Nat → Int32 → List Value → Option hgOut} (h : (match ps with
    | [kd, w] => hgi1 S fun x r => f kd w x r
    | _ => none) = some out) : ∃ kd w x r, ps = [kd, w] ∧ S = .int x :: r ∧ f kd w x r = some out := by
  split at h
  · obtain ⟨x, r, hS, h9⟩ := hgi1_some h
    exact ⟨_, _, x, r, rfl, hS, h9⟩
  · cases h
set_option maxHeartbeats 4000000 in
theorem hg_newarray (hC : hgCx p l R s m args meth c q B0 D cy X ad0) {at9 : ArrayType} (hd : decode (hgCode q) pc = .ok (.newarray at9, len)) (hk : hgChk q pc (.newarray at9) len ps hs = true) (h : hgStep X (hgRm q) call jump (.newarray at9) ps hs L S K M k = some out)
    (kk : ∀ L S K M, k L S K M = some out → hgGo p l e R s m args below meth c Q B0 D cy (hgMl q) N0 ad0 (pc + len) L S K M) : hgGo p l e R s m args below meth c Q B0 D cy (hgMl q) N0 ad0 pc L S K M := by
  have hA := hg_hA hC
  obtain ⟨hx, hb, -, hown, hts, -, hK, -, ⟨-, -, hr1, hr2⟩, -⟩ := hC
  obtain ⟨kd, x, r, rfl, rfl, h9⟩ := hgna_some (f := fun kd x r => if hgSh M.1 = (kd, x.toNatClampNeg) ∧ ¬ x < 0 ∧ K.1 + 1 ≤ (hgRm q).1 ∧ K.2 + x.toNatClampNeg ≤ (hgRm q).2 then k L (.ref M.1 :: r) (K.1 + 1, K.2 + x.toNatClampNeg) (hgNew M) else none) h
  clear h
  split at h9
  · next hc =>
    obtain ⟨hsh, h0, k1, k2⟩ := hc
    have hac := hgAll_mem hgAc
    have go : ∀ (hl : len = 2), hgGo p l e R s m args below meth c Q B0 D cy (hgMl q) N0 ad0 (pc + 2) L (.ref M.1 :: r) (K.1 + 1, K.2 + x.toNatClampNeg) (hgNew M) := fun hl => by subst hl; exact kk _ _ _ _ h9
    intro ad H locs ls hn kc ks
    have big : ∀ kd, kd ≠ 99 → hgSh M.1 = (kd, x.toNatClampNeg) → M.1 < 326 ∧ x.toNatClampNeg ≤ 20187 := fun kd h1 h2 => by
      have hM : M.1 < 326 := hgSh_lt (by rw [h2]; exact h1)
      have := hgSh_max M.1 hM
      rw [h2] at this
      exact ⟨hM, this⟩
    have hk2 : (decide (len = 2) && (match [kd] with
      | [20] => decide (at9 = .int)
      | [21] => decide (at9 = .long)
      | [22] => decide (at9 = .byte)
      | [23] => decide (at9 = .boolean)
      | _ => false)) = true := hk
    clear hk
    rw [Bool.and_eq_true, decide_eq_true_eq] at hk2
    obtain ⟨hl, hk3⟩ := hk2
    have go2 := go hl
    clear go kk
    subst hl
    split at hk3
    · next e9 =>
      injection e9 with e1 _
      subst e1
      have e2 : at9 = .int := of_decide_eq_true hk3
      subst e2
      obtain ⟨hM, hmx⟩ := big 20 (by omega) hsh
      refine va_newa (atype := .int) (ty := .int) (N' := x.toNatClampNeg) (a0 := (x.toNatClampNeg, .inl (fun _ => 0))) hx hb (hts (.arrayClass .int) (hac _ (by simp))) rfl hK hn.1 hn.2.1 hn.2.2.1 hA (fun cA => rfl) h0 rfl (by show _ * 4 ≤ _; omega) (by omega) (by omega) hd (fun b cA H1 hK1 hP hD hS => ?_)
      have ec := hg_cA hK (t0 := 0) rfl hK1
      subst ec
      exact hg_made ⟨hr1, hr2⟩ hn (by omega) (by rw [hgEn_int cy _ _ (by rw [hsh]) (Or.inl rfl), hsh, hgI_new_at]) hP hD hS k1 k2 go2
    · next e9 =>
      injection e9 with e1 _
      subst e1
      have e2 : at9 = .long := of_decide_eq_true hk3
      subst e2
      obtain ⟨hM, hmx⟩ := big 21 (by omega) hsh
      refine va_newa (atype := .long) (ty := .long) (N' := x.toNatClampNeg) (a0 := (x.toNatClampNeg, .inr (.inl (fun _ => 0)))) hx hb (hts (.arrayClass .long) (hac _ (by simp))) rfl hK hn.1 hn.2.1 hn.2.2.1 hA (fun cA => rfl) h0 rfl (by show _ * 8 ≤ _; omega) (by omega) (by omega) hd (fun b cA H1 hK1 hP hD hS => ?_)
      have ec := hg_cA hK (t0 := 1) rfl hK1
      subst ec
      exact hg_made ⟨hr1, hr2⟩ hn (by omega) (by rw [hgEn_long cy _ _ (by rw [hsh]), hsh, hgJ_new_at]) hP hD hS k1 k2 go2
    · next e9 =>
      injection e9 with e1 _
      subst e1
      have e2 : at9 = .byte := of_decide_eq_true hk3
      subst e2
      obtain ⟨hM, hmx⟩ := big 22 (by omega) hsh
      refine va_newa (atype := .byte) (ty := .byte) (N' := x.toNatClampNeg) (a0 := (x.toNatClampNeg, .inl (fun _ => 0))) hx hb (hts (.arrayClass .byte) (hac _ (by simp))) rfl hK hn.1 hn.2.1 hn.2.2.1 hA (fun cA => rfl) h0 rfl (by show _ * 1 ≤ _; omega) (by omega) (by omega) hd (fun b cA H1 hK1 hP hD hS => ?_)
      have ec := hg_cA hK (t0 := 2) rfl hK1
      subst ec
      exact hg_made ⟨hr1, hr2⟩ hn (by omega) (by rw [hgEn_int cy _ _ (by rw [hsh]) (Or.inr (Or.inl rfl)), hsh, hgI_new_at]) hP hD hS k1 k2 go2
    · next e9 =>
      injection e9 with e1 _
      subst e1
      have e2 : at9 = .boolean := of_decide_eq_true hk3
      subst e2
      obtain ⟨hM, hmx⟩ := big 23 (by omega) hsh
      refine va_newa (atype := .boolean) (ty := .boolean) (N' := x.toNatClampNeg) (a0 := (x.toNatClampNeg, .inl (fun _ => 0))) hx hb (hts (.arrayClass .boolean) (hac _ (by simp))) rfl hK hn.1 hn.2.1 hn.2.2.1 hA (fun cA => rfl) h0 rfl (by show _ * 1 ≤ _; omega) (by omega) (by omega) hd (fun b cA H1 hK1 hP hD hS => ?_)
      have ec := hg_cA hK (t0 := 3) rfl hK1
      subst ec
      exact hg_made ⟨hr1, hr2⟩ hn (by omega) (by rw [hgEn_int cy _ _ (by rw [hsh]) (Or.inr (Or.inr rfl)), hsh, hgI_new_at]) hP hD hS k1 k2 go2
    · cases hk3
  · cases h9
set_option maxHeartbeats 4000000 in
theorem hg_anewarray (hC : hgCx p l R s m args meth c q B0 D cy X ad0) {idx : Nat} (hd : decode (hgCode q) pc = .ok (.anewarray idx, len)) (hk : hgChk q pc (.anewarray idx) len ps hs = true) (h : hgStep X (hgRm q) call jump (.anewarray idx) ps hs L S K M k = some out)
    (kk : ∀ L S K M, k L S K M = some out → hgGo p l e R s m args below meth c Q B0 D cy (hgMl q) N0 ad0 (pc + len) L S K M) : hgGo p l e R s m args below meth c Q B0 D cy (hgMl q) N0 ad0 pc L S K M := by
  have hA := hg_hA hC
  obtain ⟨hx, hb, -, hown, hts, -, hK, hst, ⟨-, -, hr1, hr2⟩, -⟩ := hC
  obtain ⟨kd, w, x, r, rfl, rfl, h9⟩ := hgaa_some (f := fun kd w x r => if hgSh M.1 = (kd, x.toNatClampNeg) ∧ ¬ x < 0 ∧ K.1 + 1 ≤ (hgRm q).1 ∧ K.2 + x.toNatClampNeg ≤ (hgRm q).2 then k L (.ref M.1 :: r) (K.1 + 1, K.2 + x.toNatClampNeg) (hgNew M) else none) h
  clear h
  split at h9
  · next hc =>
    obtain ⟨hsh, h0, k1, k2⟩ := hc
    have hao := hst.2.2.2.1.2
    intro ad H locs ls hn kc ks
    have key : ∀ (C : String) (t0 : Nat), len = 3 → 24 ≤ kd → kd ≠ 99 → hgWt w = some (.classLink (hgOwn q) idx C) → va_AO C s → (hgTys cy)[t0]? = some (cy kd, .object C) → W p l e R s m args below meth c H locs K.1 K.2 Q (F0 m pc ls ((.int x :: r).map (hgPh ad))) := by
      intro C t0 hl h24 h99 hw hov ht
      subst hl
      have hM : M.1 < 326 := hgSh_lt (by rw [hsh]; exact h99)
      have hmx := hgSh_max M.1 hM
      rw [hsh] at hmx
      have hmx : x.toNatClampNeg ≤ 20187 := hmx
      refine va_newq (C := C) hx hb hown (hts _ (hgTb_of hw rfl)) hov hK hn.1 hn.2.1 hn.2.2.1 hA h0 rfl (by omega) (by omega) (by omega) hd (fun b cA H1 hK1 hP hD hS => ?_)
      have ec := hg_cA hK ht hK1
      subst ec
      exact hg_made ⟨hr1, hr2⟩ hn (by omega) (by rw [hgEn_ref cy _ _ (by rw [hsh]) h24, hsh, hgR_new_at]; rfl) hP hD hS k1 k2 (kk _ _ _ _ h9)
    have hk2 : (decide (len = 3) && (match [kd, w] with
      | [24, w] => decide (hgWt w = some (.classLink (hgOwn q) idx RX0))
      | [25, w] => decide (hgWt w = some (.classLink (hgOwn q) idx RX4))
      | [26, w] => decide (hgWt w = some (.classLink (hgOwn q) idx RX1))
      | _ => false)) = true := hk
    rw [Bool.and_eq_true, decide_eq_true_eq] at hk2
    obtain ⟨hl, hk3⟩ := hk2
    split at hk3
    · next e9 =>
      injection e9 with e1 e2
      injection e2 with e2 _
      subst e1; subst e2
      exact key RX0 4 hl (by omega) (by omega) (of_decide_eq_true hk3) hao.1 rfl
    · next e9 =>
      injection e9 with e1 e2
      injection e2 with e2 _
      subst e1; subst e2
      exact key RX4 5 hl (by omega) (by omega) (of_decide_eq_true hk3) hao.2.1 rfl
    · next e9 =>
      injection e9 with e1 e2
      injection e2 with e2 _
      subst e1; subst e2
      exact key RX1 6 hl (by omega) (by omega) (of_decide_eq_true hk3) hao.2.2.1 rfl
    · cases hk3
  · cases h9
end HGNEW
end
section
/-! Arrays of arrays. -/
theorem hgNews_N : ∀ (n : Nat) (M : hgMem), (hgNews n M).1 = M.1 + n
  | 0, M => rfl
  | n + 1, M => by rw [hgNews, hgNews_N n]; show M.1 + 1 + n = _; omega
theorem hgNews_I : ∀ (n : Nat) (M : hgMem) (a : Nat), hgI (hgNews n M) a = if M.1 ≤ a ∧ a < M.1 + n then (fun _ => 0) else hgI M a
  | 0, M, a => by rw [if_neg (by omega)]; rfl
  | n + 1, M, a => by
    rw [hgNews, hgNews_I n]
    by_cases h : a = M.1
    · subst h
      rw [if_neg (show ¬ ((hgNew M).1 ≤ M.1 ∧ M.1 < (hgNew M).1 + n) from fun q => by have : M.1 + 1 ≤ M.1 := q.1; omega), if_pos (by omega), hgI_new_at]
    · rw [hgI_new M h]
      show (if M.1 + 1 ≤ a ∧ a < M.1 + 1 + n then _ else _) = _
      by_cases h2 : M.1 + 1 ≤ a ∧ a < M.1 + 1 + n
      · rw [if_pos h2, if_pos (by omega)]
      · rw [if_neg h2, if_neg (by omega)]
theorem hgNews_J : ∀ (n : Nat) (M : hgMem) (a : Nat), hgJ (hgNews n M) a = if M.1 ≤ a ∧ a < M.1 + n then (fun _ => 0) else hgJ M a
  | 0, M, a => by rw [if_neg (by omega)]; rfl
  | n + 1, M, a => by
    rw [hgNews, hgNews_J n]
    by_cases h : a = M.1
    · subst h
      rw [if_neg (show ¬ ((hgNew M).1 ≤ M.1 ∧ M.1 < (hgNew M).1 + n) from fun q => by have : M.1 + 1 ≤ M.1 := q.1; omega), if_pos (by omega), hgJ_new_at]
    · rw [hgJ_new M h]
      show (if M.1 + 1 ≤ a ∧ a < M.1 + 1 + n then _ else _) = _
      by_cases h2 : M.1 + 1 ≤ a ∧ a < M.1 + 1 + n
      · rw [if_pos h2, if_pos (by omega)]
      · rw [if_neg h2, if_neg (by omega)]
theorem hgNews_R : ∀ (n : Nat) (M : hgMem) (a : Nat), hgR (hgNews n M) a = if M.1 ≤ a ∧ a < M.1 + n then (fun _ => none) else hgR M a
  | 0, M, a => by rw [if_neg (by omega)]; rfl
  | n + 1, M, a => by
    rw [hgNews, hgNews_R n]
    by_cases h : a = M.1
    · subst h
      rw [if_neg (show ¬ ((hgNew M).1 ≤ M.1 ∧ M.1 < (hgNew M).1 + n) from fun q => by have : M.1 + 1 ≤ M.1 := q.1; omega), if_pos (by omega), hgR_new_at]
    · rw [hgR_new M h]
      show (if M.1 + 1 ≤ a ∧ a < M.1 + 1 + n then _ else _) = _
      by_cases h2 : M.1 + 1 ≤ a ∧ a < M.1 + 1 + n
      · rw [if_pos h2, if_pos (by omega)]
      · rw [if_neg h2, if_neg (by omega)]
theorem hgGrid_N (a : Nat) : ∀ (n : Nat) (M : hgMem), (hgGrid a n M).1 = M.1
  | 0, M => rfl
  | n + 1, M => hgGrid_N a n M
theorem hgGrid_I (a : Nat) : ∀ (n : Nat) (M : hgMem), hgI (hgGrid a n M) = hgI M
  | 0, M => rfl
  | n + 1, M => hgGrid_I a n M
theorem hgGrid_J (a : Nat) : ∀ (n : Nat) (M : hgMem), hgJ (hgGrid a n M) = hgJ M
  | 0, M => rfl
  | n + 1, M => hgGrid_J a n M
theorem hgGrid_R (a : Nat) : ∀ (n : Nat) (M : hgMem) (b j : Nat), hgR (hgGrid a n M) b j = if b = a ∧ j < n then some (a + 1 + j) else hgR M b j
  | 0, M, b, j => by rw [if_neg (by omega)]; rfl
  | n + 1, M, b, j => by
    show hgU (hgR (hgGrid a n M)) a n (some (a + 1 + n)) b j = _
    unfold hgU
    by_cases h : b = a
    · rw [if_pos h]
      by_cases h2 : j = n
      · rw [if_pos h2, if_pos (by omega), h2]
      · rw [if_neg h2, hgGrid_R a n]
        by_cases h3 : b = a ∧ j < n
        · rw [if_pos h3, if_pos (by omega)]
        · rw [if_neg h3, if_neg (by omega)]
    · rw [if_neg h, hgGrid_R a n, if_neg (by omega), if_neg (by omega)]
def hgAdG (ad : Nat → Nat) (N b n : Nat) (r : Nat → Nat) : Nat → Nat := fun a => if a = N then b else if N < a ∧ a < N + 1 + n then r (a - N - 1) else ad a
section HGGRID
variable {p : Program} {l : Launch} {e : Env} {R : Room} {s : State} {m : MethodId} {args : Array Value} {below : List Frame} {meth : Method} {c : Code} {Q : State → Prop} {q B0 nL N0 : Nat} {D : va_G} {cy : Nat → ClassId} {X : hgX} {ad0 : Nat → Nat}
variable {call : Nat → List Value → hgMem → Option hgOut} {jump : Nat → hgL → List Value → hgK → hgMem → Option hgOut} {len : Nat} {ps : List Nat} {hs : List (Nat × Nat × Nat)} {pc : Nat} {out : hgOut} {L : hgL} {S : List Value} {K : hgK} {M : hgMem} {k : hgL → List Value → hgK → hgMem → Option hgOut}
theorem hgRok_grid (h : hgRok M) (n : Nat) : hgRok (hgGrid M.1 n (hgNews (1 + n) M)) := by
  intro a j r hr
  rw [hgGrid_N, hgNews_N]
  rw [hgGrid_R] at hr
  split at hr
  · next g =>
    cases hr
    omega
  · rw [hgNews_R] at hr
    split at hr
    · cases hr
    · have := h a j r hr
      omega
theorem hgWs_grid (ad : Nat → Nat) (M : hgMem) (b n kd kr w : Nat) (r : Nat → Nat) (hr : hgRok M) (hk : hgSh M.1 = (kd, n)) (h24 : 24 ≤ kd) (hrow : ∀ j, j < n → hgSh (M.1 + 1 + j) = (kr, w)) (hkr : kr = 20 ∨ kr = 21) :
    hgWs cy (hgAdG ad M.1 b n r) (hgGrid M.1 n (hgNews (1 + n) M)) = (hgWs cy ad M ++ [(b, .inl (cy kd, n, .inr (.inr (.inr (.inr (fun i => if i < n then some (r i) else none))))))]) ++ (List.range n).map (fun j => (r j, .inl (cy kr, w, if kr = 21 then .inr (.inl (fun _ => 0)) else .inl (fun _ => 0)))) := by
  show (List.range (hgGrid M.1 n (hgNews (1 + n) M)).1).map _ = _
  rw [hgGrid_N, hgNews_N, show M.1 + (1 + n) = (M.1 + 1) + n by omega, List.range_add, List.range_succ, List.map_append, List.map_append]
  congr 1
  · congr 1
    · refine List.map_congr_left (fun a ha => ?_)
      have ha : a < M.1 := List.mem_range.mp ha
      refine Prod.ext_iff.mpr ⟨?_, ?_⟩
      · show hgAdG ad M.1 b n r a = ad a
        unfold hgAdG
        rw [if_neg (by omega), if_neg (by omega)]
      · have g1 : ¬ (M.1 ≤ a ∧ a < M.1 + (1 + n)) := by omega
        refine hgEn_ad cy ?_ ?_ ?_ (fun j x h => ?_)
        · rw [hgGrid_I, hgNews_I, if_neg g1]
        · rw [hgGrid_J, hgNews_J, if_neg g1]
        · funext j
          rw [hgGrid_R, if_neg (by omega), hgNews_R, if_neg g1]
        · have := hr a j x h
          unfold hgAdG
          rw [if_neg (by omega), if_neg (by omega)]
    · show [(hgAdG ad M.1 b n r M.1, _)] = _
      have e1 : hgAdG ad M.1 b n r M.1 = b := if_pos rfl
      have e2 : (fun i => (hgR (hgGrid M.1 n (hgNews (1 + n) M)) M.1 i).map (hgAdG ad M.1 b n r)) = fun i => if i < n then some (r i) else none := by
        funext i
        rw [hgGrid_R]
        by_cases hi : i < n
        · rw [if_pos ⟨rfl, hi⟩, if_pos hi]
          show some (hgAdG ad M.1 b n r (M.1 + 1 + i)) = _
          unfold hgAdG
          rw [if_neg (by omega), if_pos (by omega), show M.1 + 1 + i - M.1 - 1 = i by omega]
        · rw [if_neg (by omega), if_neg hi, hgNews_R, if_pos (by omega)]
          rfl
      rw [hgEn_ref cy _ _ (by rw [hk]) h24, hk, e2, e1]
  · rw [List.map_map]
    refine List.map_congr_left (fun j hj => ?_)
    have hj : j < n := List.mem_range.mp hj
    have g1 : M.1 ≤ M.1 + 1 + j ∧ M.1 + 1 + j < M.1 + (1 + n) := by omega
    refine Prod.ext_iff.mpr ⟨?_, ?_⟩
    · show hgAdG ad M.1 b n r (M.1 + 1 + j) = r j
      unfold hgAdG
      rw [if_neg (by omega), if_pos (by omega), show M.1 + 1 + j - M.1 - 1 = j by omega]
    · show hgEn cy _ _ (M.1 + 1 + j) = _
      rcases hkr with h | h
      · subst h
        rw [hgEn_int cy _ _ (by rw [hrow j hj]) (Or.inl rfl), hrow j hj, hgGrid_I, hgNews_I, if_pos g1]
        rfl
      · subst h
        rw [hgEn_long cy _ _ (by rw [hrow j hj]), hrow j hj, hgGrid_J, hgNews_J, if_pos g1]
        rfl
theorem hgmn_some {f : Nat → Nat → Nat → Nat → Nat → Int32 → Int32 → List Value → Option hgOut} (h : (match ps with
    | [kd, kr, n, w, z] => match S with
      | .int y :: .int x :: r => f kd kr n w z x y r
      | _ => none
    | _ => none) = some out) : ∃ kd kr n w z x y r, ps = [kd, kr, n, w, z] ∧ S = .int y :: .int x :: r ∧ f kd kr n w z x y r = some out := by
  split at h
  · split at h
    · exact ⟨_, _, _, _, _, _, _, _, rfl, rfl, h⟩
    · cases h
  · cases h
set_option maxHeartbeats 4000000 in
set_option maxRecDepth 100000 in
theorem hg_multi (hC : hgCx p l R s m args meth c q B0 D cy X ad0) {idx dim : Nat} (hd : decode (hgCode q) pc = .ok (.multianewarray idx dim, len)) (hk : hgChk q pc (.multianewarray idx dim) len ps hs = true) (h : hgStep X (hgRm q) call jump (.multianewarray idx dim) ps hs L S K M k = some out)
    (kk : ∀ L S K M, k L S K M = some out → hgGo p l e R s m args below meth c Q B0 D cy (hgMl q) N0 ad0 (pc + len) L S K M) : hgGo p l e R s m args below meth c Q B0 D cy (hgMl q) N0 ad0 pc L S K M := by
  have hA := hg_hA hC
  obtain ⟨hx, hb, -, hown, hts, -, hK, hst, ⟨-, -, hr1, hr2⟩, -⟩ := hC
  obtain ⟨kd, kr, n, w, z, x, y, r, rfl, rfl, h9⟩ := hgmn_some (f := fun kd kr n w z x y r => if x = nI n ∧ y = nI w ∧ hgSh M.1 = (kd, n) ∧ (List.range n).all (fun j => decide (hgSh (M.1 + 1 + j) = (kr, w))) = true ∧ K.1 + (1 + n) ≤ (hgRm q).1 ∧ K.2 + (n + n * w) ≤ (hgRm q).2 then k L (.ref M.1 :: r) (K.1 + (1 + n), K.2 + (n + n * w)) (hgGrid M.1 n (hgNews (1 + n) M)) else none) h
  clear h
  split at h9
  · next hc =>
    obtain ⟨rfl, rfl, hsh, hrow, k1, k2⟩ := hc
    have hrow : ∀ j, j < n → hgSh (M.1 + 1 + j) = (kr, w) := fun j hj => of_decide_eq_true (List.all_eq_true.mp hrow j (List.mem_range.mpr hj))
    have hao := hst.2.2.2.1.2
    have hac := hgAll_mem hgAc
    intro ad H locs ls hn kc ks
    have key : ∀ (ty : FieldType) (t0 : Nat), len = 4 → dim = 2 → 24 ≤ kd → kd ≠ 99 → n < 1000 → w < 1000000 → kr = 20 ∨ kr = 21 → (Cond.classLink (hgOwn q) idx ("[" ++ (FieldType.array ty).toString)).before args s = true → va_AOA ty s → (Cond.arrayClass ty).before args s = true → s.vm.findClass (FieldType.array ty).toString = some (cy kr) → (hgTys cy)[t0]? = some (cy kd, .array ty) → componentBytes ty ≤ 8 → fits ty (defaultValue ty) = true → (defaultValue ty).isDefault = true → (∀ c : ClassId, Jvm.Free.Multi.innerC c w (defaultValue ty) = vp_cell c (w, if kr = 21 then .inr (.inl (fun _ => 0)) else .inl (fun _ => 0))) → W p l e R s m args below meth c H locs K.1 K.2 Q (F0 m pc ls ((.int (nI w) :: .int (nI n) :: r).map (hgPh ad))) := by
      intro ty t0 hl hdim h24 h99 hn1 hw1 hkr hlink hov harr hcy ht hcb hf1 hf2 hin
      subst hl
      subst hdim
      have hM : M.1 < 326 := hgSh_lt (by rw [hsh]; exact h99)
      have c1 : (nI n).toNatClampNeg = n := nI_clamp (by omega)
      have c2 : (nI w).toNatClampNeg = w := nI_clamp (by omega)
      have hP0 : va_P D vwCl (hgWs cy ad M ++ va_pl [] (fun _ => .inr (0, []))) H := by simpa [va_pl] using hn.1
      have hD0 : va_D (hgA B0) (hgWs cy ad M ++ va_pl [] (fun _ => .inr (0, []))) := by simpa [va_pl] using hn.2.1
      have hb2 : w * componentBytes ty ≤ 536870912 := Nat.le_trans (Nat.mul_le_mul_left w hcb) (by omega)
      refine va_mna (N' := n) (K' := w) hx hb hown hlink hov harr hcy hK hP0 hD0 hn.2.2.1 hA (nI_pos (by omega)) (nI_pos (by omega)) c1 c2 (by omega) hb2 (by omega) hf1 hf2 (by omega) (by omega) hin hd (fun b rr cA H1 _ _ hK1 hP hD hS => ?_)
      have ec := hg_cA hK ht hK1
      subst ec
      have eL : (hgWs cy ad M ++ [(b, Sum.inl (cy kd, n, Sum.inr (Sum.inr (Sum.inr (Sum.inr (fun i => if i < n then some (rr i) else none))))))]) ++ va_pl ([] ++ (List.range n).map rr) (vr_up (fun _ => Sum.inr (0, [])) ((List.range n).map rr) (Sum.inl (cy kr, w, if kr = 21 then .inr (.inl (fun _ => 0)) else .inl (fun _ => 0)))) = hgWs cy (hgAdG ad M.1 b n rr) (hgGrid M.1 n (hgNews (1 + n) M)) := by
        rw [hgWs_grid ad M b n kd kr w rr hn.2.2.2.2.2.2.1 hsh h24 hrow hkr]
        congr 1
        unfold va_pl
        rw [List.nil_append, List.map_map]
        refine List.map_congr_left (fun j hj => ?_)
        show (rr j, vr_up _ _ _ (rr j)) = _
        rw [vr_up_in (List.mem_map_of_mem hj)]
      rw [eL] at hP hD
      have hxt : hgExt M.1 ad (hgAdG ad M.1 b n rr) := fun a ha => by
        show (if a = M.1 then b else if M.1 < a ∧ a < M.1 + 1 + n then rr (a - M.1 - 1) else ad a) = ad a
        have : M.1 + n < 1000 := by
          rcases Nat.eq_zero_or_pos n with g | g
          · omega
          · have := hgSh_lt (a := M.1 + 1 + (n - 1)) (by rw [hrow (n - 1) (by omega)]; rcases hkr with h | h <;> rw [h] <;> (show (_ : Nat) ≠ 99) <;> omega)
            omega
        rw [if_neg (by omega), if_neg (by omega)]
      have hN1 : (hgGrid M.1 n (hgNews (1 + n) M)).1 = M.1 + (1 + n) := by rw [hgGrid_N, hgNews_N]
      obtain ⟨h1, h2, h3, h4, h5, h6, h7, h8, h10⟩ := hn
      have hsk := hgSk_t (hgSk_t h6)
      have hn2 : hgNow B0 D cy s (hgMl q) N0 ad0 (hgAdG ad M.1 b n rr) L (.ref M.1 :: r) (hgGrid M.1 n (hgNews (1 + n) M)) H1 locs ls := by
        refine ⟨hP, hD, hS, hgLH_mono h4 (fun i v hv => ?_), fun i v hv => hgVk_m (h5 i v hv) (by omega), hgSk_c (hgVk_r (by omega)) (fun v hv => hgVk_m (hsk v hv) (by omega)), hgRok_grid h7 n, by omega, h10.tr h8 hxt⟩
        rw [hgPh_ext hxt (h5 i v hv)]
        exact hgAs_mem.mpr ⟨i, v, (Nat.zero_add i).symm, hv, rfl⟩
      have e3 : r.map (hgPh (hgAdG ad M.1 b n rr)) = r.map (hgPh ad) := List.map_congr_left (fun v hv => hgPh_ext hxt (hsk v hv))
      have e4 : (F0 m (pc + 4) ls (.ref b :: r.map (hgPh ad))) = F0 m (pc + 4) ls ((.ref M.1 :: r).map (hgPh (hgAdG ad M.1 b n rr))) := by
        rw [List.map_cons, e3]
        show _ = F0 m (pc + 4) ls (.ref (hgAdG ad M.1 b n rr M.1) :: _)
        rw [show hgAdG ad M.1 b n rr M.1 = b from if_pos rfl]
      have go := kk _ _ _ _ h9 (hgAdG ad M.1 b n rr) H1 locs ls hn2 (by show K.1 + (1 + n) ≤ _; omega) (by show K.2 + (n + n * w) ≤ _; omega)
      rw [← e4] at go
      exact W.cs (by show K.1 + 1 + n = K.1 + (1 + n); omega) (by show K.2 + n + n * w = K.2 + (n + n * w); omega) go
    have hk2 : (decide (len = 4) && decide (dim = 2) && (match [kd, kr, n, w, z] with
      | [27, 20, n, k, w] => decide (hgWt w = some (.classLink (hgOwn q) idx "[[I")) && decide (n < 1000) && decide (k < 1000000)
      | [28, 21, n, k, w] => decide (hgWt w = some (.classLink (hgOwn q) idx "[[J")) && decide (n < 1000) && decide (k < 1000000)
      | _ => false)) = true := hk
    rw [Bool.and_eq_true, Bool.and_eq_true, decide_eq_true_eq, decide_eq_true_eq] at hk2
    obtain ⟨⟨hl, hdim⟩, hk3⟩ := hk2
    split at hk3
    · next e9 =>
      cases e9
      rw [Bool.and_eq_true, Bool.and_eq_true, decide_eq_true_eq, decide_eq_true_eq, decide_eq_true_eq] at hk3
      exact key .int 7 hl hdim (by omega) (by omega) hk3.1.2 hk3.2 (Or.inl rfl) (hts _ (hgTb_of (x := .classLink (hgOwn q) idx "[[I") hk3.1.1 rfl)) hao.2.2.2.1 (hts _ (hac _ (by simp))) (hK.2 0 _ rfl).2 rfl (by decide) rfl rfl (fun c => by show _ = arrV c w (fun _ => .int 0); first | (rw [arrV_new]; rfl) | (rw [← arrV_new]; rfl))
    · next e9 =>
      cases e9
      rw [Bool.and_eq_true, Bool.and_eq_true, decide_eq_true_eq, decide_eq_true_eq, decide_eq_true_eq] at hk3
      exact key .long 8 hl hdim (by omega) (by omega) hk3.1.2 hk3.2 (Or.inr rfl) (hts _ (hgTb_of (x := .classLink (hgOwn q) idx "[[J") hk3.1.1 rfl)) hao.2.2.2.2.1 (hts _ (hac _ (by simp))) (hK.2 1 _ rfl).2 rfl (by decide) rfl rfl (fun c => by show _ = arrV c w (fun _ => .long 0); first | (rw [arrV_new]; rfl) | (rw [← arrV_new]; rfl))
    · cases hk3
  · cases h9
end HGGRID
end
section
/-! CALLS of the program's own methods, by their contracts. -/
theorem hgTake_spec : ∀ {n : Nat} {acc S as r : List Value}, hgTake n acc S = some (as, r) → ∃ xs, as = xs ++ acc ∧ S = xs.reverse ++ r ∧ xs.length = n
  | 0, acc, S, as, r, h => by
    cases h
    exact ⟨[], rfl, rfl, rfl⟩
  | n + 1, acc, [], as, r, h => by cases h
  | n + 1, acc, v :: S, as, r, h => by
    obtain ⟨xs, h1, h2, h3⟩ := hgTake_spec (n := n) (acc := v :: acc) (S := S) h
    refine ⟨xs ++ [v], ?_, ?_, by simp [h3]⟩
    · rw [h1]; simp
    · rw [h2]; simp
theorem hgIx_mem {i : Nat} {w : Cond} (h : hgIx i w = true) : w ∈ hgTb := by
  simp only [hgIx, Bool.and_eq_true, decide_eq_true_eq] at h
  exact List.mem_filter.mpr ⟨List.mem_of_getElem? h.1, h.2⟩
def hgMfact (p : Nat) : Prop := hgHead p ∈ hgTb ∧ Cond.initialized (hgOwn p) ∈ hgTb ∧ (hgY p).cls = hgOwn p ∧ plainName (hgY p).cls = true ∧ ((hgY p).cls ≠ "java/lang/invoke/MethodHandle" ∧ (hgY p).cls ≠ "java/lang/invoke/VarHandle") ∧ parseMethodDescriptor (hgY p).desc ≠ none ∧ (hgKd p = 0 → Cond.instanceMethod (hgY p) ∈ hgTb ∧ Cond.selects (hgOwn p) (hgY p) (hgY p) ∈ hgTb ∧ hgHh p = [] ∧ (hgY p).name ≠ "<init>") ∧ (hgKd p = 1 → Cond.static (hgY p) ∈ hgTb ∧ (hgY p).name ≠ "<init>") ∧ (hgKd p ≠ 0 → hgKd p ≠ 1 → Cond.instanceMethod (hgY p) ∈ hgTb ∧ (hgY p).name = "<init>" ∧ hgHh p = [] ∧ hgRet p = none)
theorem hgMok_spec {p : Nat} (h : hgMok p = true) : hgMfact p := by
  unfold hgMok at h
  split at h
  · simp only [Bool.and_eq_true] at h
    obtain ⟨⟨⟨⟨⟨⟨h1, h2⟩, h3⟩, h4⟩, h5⟩, h6⟩, h7⟩ := h
    refine ⟨hgIx_mem h1, hgIx_mem h2, of_decide_eq_true h3, of_decide_eq_true h4, of_decide_eq_true h5, of_decide_eq_true h6, fun k => ?_, fun k => ?_, fun k1 k2 => ?_⟩
    · rw [if_pos k] at h7
      simp only [Bool.and_eq_true] at h7
      exact ⟨hgIx_mem h7.1.1.1, hgIx_mem h7.1.1.2, of_decide_eq_true h7.1.2, of_decide_eq_true h7.2⟩
    · rw [if_neg (by omega), if_pos k] at h7
      simp only [Bool.and_eq_true] at h7
      exact ⟨hgIx_mem h7.1, of_decide_eq_true h7.2⟩
    · rw [if_neg k1, if_neg k2] at h7
      simp only [Bool.and_eq_true] at h7
      exact ⟨hgIx_mem h7.1.1.1, of_decide_eq_true h7.1.1.2, of_decide_eq_true h7.1.2, of_decide_eq_true h7.2⟩
  · cases h
section HGCALL
variable {p : Program} {l : Launch} {e : Env} {R : Room} {s : State} {m : MethodId} {args : Array Value} {below : List Frame} {meth : Method} {c : Code} {Q : State → Prop} {q B0 nL N0 : Nat} {D : va_G} {cy : Nat → ClassId} {X : hgX} {ad0 : Nat → Nat}
theorem hg_blind {av : List Value} {ad : Nat → Nat} {M : hgMem} : FrameBlind (va_Pc av (hgPre B0 D cy X ad M)) := fun a U g mk h => by
  obtain ⟨q0, q1, qP, qD, qK, qS, qR⟩ := h
  exact ⟨q0, q1, qP, qD, va_K.moved (u := U) (U := U.calling g mk a) (Vm.Alike.refl U.vm) qK, hgStat.warm (s := U) (U := U.calling g mk a) (State.WarmedH.refl U) qS, qR⟩
theorem hg_pre (hC : hgCx p l R s m args meth c q B0 D cy X ad0) {ad : Nat → Nat} {L : hgL} {S : List Value} {M : hgMem} {H : Heap} {locs : List Loc} {ls : Array Slot} (hn : hgNow B0 D cy s nL N0 ad0 ad L S M H locs ls) {U : State} (hU : U.heap = H) (hW : s.WarmedH U.vm) : hgPre B0 D cy X ad M U := by
  obtain ⟨-, -, -, -, -, hB, hK, hst, -⟩ := hC
  obtain ⟨h1, h2, h3, h4, h5, h6, h7, h8, h9⟩ := hn
  refine ⟨by rw [hU]; exact Nat.le_trans hB h3.1, by rw [hU]; exact h1, h2, va_K.moved hW.alike hK, ?_, h7⟩
  rw [hU]
  exact ((hst.kept h3.2.1).ext h9).warm hW
theorem hg_words (hts : ∀ w ∈ hgTb, w.before args s = true) {z : Nat} (hm : hgMfact z) : ∀ w ∈ hgWd z, ∀ (a' : Array Value) (U : State), s.WarmedH U.vm → w.before a' U = true := by
  intro w hw a' U hW
  have hin : w ∈ hgTb := by
    rcases List.mem_cons.mp hw with h | h
    · rw [h]; exact hm.1
    · exact h
  exact word_at hW (good_of_word (List.mem_filter.mp hin).2) (hts w hin)
theorem hg_arity {y : MethodName} (h : parseMethodDescriptor y.desc ≠ none) : ∀ sig, parseMethodDescriptor y.desc = some sig → hgArity y = sig.parameters.length := by
  intro sig hs
  unfold hgArity
  rw [hs]
theorem hgHead_code {z : Nat} (h : hgHh z = []) : hgHead z = .code (hgY z) (hgCode z) (hgMl z) (hgRet z) := if_pos h
theorem hgHead_with {z : Nat} (h : hgHh z ≠ []) : hgHead z = .codeWith (hgY z) (hgCode z) (hgMl z) (hgRet z) (hgHh z) := if_neg h
theorem hg_callB (hts : ∀ w ∈ hgTb, w.before args s = true) {z idx w : Nat} (hm : hgMfact z) (hh : hgHh z = []) (hw : hgWt w = some (.methodLink (hgOwn q) idx (hgY z))) (hf : hgFr z + 1 ≤ R.frames) (hl : 8 + (hgMl z + 11) + hgLo z ≤ R.locals) :
    CallB R s args (hgOwn q) idx (hgY z) (hgCode z) (hgMl z) (hgRet z) (hgWd z) (hgRoom z) (hgRm z).1 (hgRm z).2 (hgArity (hgY z)) := by
  have hd := hm.1
  rw [hgHead_code hh] at hd
  refine ⟨rfl, rfl, hf, hl, hg_words hts hm, ?_, hts _ hd, ?_, hm.2.2.2.2.1, hg_arity hm.2.2.2.2.2.1, hts _ (hgTb_of hw rfl)⟩
  · rw [← hgHead_code hh]; exact List.mem_cons_self
  · rw [hm.2.2.1]; exact hts _ hm.2.1
set_option maxHeartbeats 4000000 in
/-- the call itself -/
theorem hg_run (hC : hgCx p l R s m args meth c q B0 D cy X ad0) {z idx w kind ci : Nat} {len : Nat} {pc : Nat} {L : hgL} {as r : List Value} {K : hgK} {M : hgMem} {ad : Nat → Nat} {H : Heap} {locs : List Loc} {ls : Array Slot} {out1 : hgOut}
    (hn : hgNow B0 D cy s (hgMl q) N0 ad0 ad L (as.reverse ++ r) M H locs ls) (hm : hgMfact z) (hct : hgCt l B0 D cy X z as ad M out1) (hw : hgWt w = some (.methodLink (hgOwn q) idx (hgY z))) (hf : hgFr z + 1 ≤ hgFr q) (hl : 8 + (hgMl z + 11) + hgLo z ≤ hgLo q) (hkd : hgKd z = kind) (hna : as.length = hgArity (hgY z) + if kind = 1 then 0 else 1)
    (hci : kind ≠ 1 → ∃ T N, vwCl[ci]? = some (hgOwn z, T, N)) (hrecv : kind ≠ 1 → ∃ b as1, as = .ref b :: as1 ∧ b < M.1 ∧ (hgSh b).1 = ci) (hd : (kind = 0 ∧ decode (hgCode q) pc = .ok (.invokevirtual idx, 3)) ∨ (kind = 1 ∧ decode (hgCode q) pc = .ok (.invokestatic idx, 3)) ∨ (kind = 2 ∧ decode (hgCode q) pc = .ok (.invokespecial idx, 3)))
    (hr4 : r.length ≤ 4) (k1 : K.1 + (hgRm z).1 ≤ (hgRm q).1) (k2 : K.2 + (hgRm z).2 ≤ (hgRm q).2) :
    vx_Run p l e R s m args below meth c H locs K.1 K.2 (hgRm z).1 (hgRm z).2 (F0 m pc ls ((as.reverse ++ r).map (hgPh ad))) (r.map (hgPh ad)) (hgQc B0 D cy ad M out1 (as.map (hgPh ad)).toArray) (hgXc B0 D cy ad M out1) (hgA B0) := by
  have hpre : ∀ U : State, U.heap = H → s.WarmedH U.vm → va_Pc (as.map (hgPh ad)) (hgPre B0 D cy X ad M) (as.map (hgPh ad)).toArray U := fun U hU hW => ⟨rfl, hg_pre hC hn hU hW⟩
  obtain ⟨hx, hb, hml, hown, hts, -, hK, -, ⟨r1, r2, r3, r4⟩, -⟩ := hC
  have hf1 : hgFr z + 1 ≤ R.frames := by omega
  have hl1 : 8 + (hgMl z + 11) + hgLo z ≤ R.locals := by omega
  have hsz : ls.size = hgMl q := hn.2.2.2.1.1
  have hcat : ((r.map (hgPh ad)).map fun v => v.category).sum ≤ 8 := by
    have : ∀ (t : List Value), (t.map fun v => v.category).sum ≤ 2 * t.length := by
      intro t
      induction t with
      | nil => simp
      | cons v t ih =>
        have : v.category ≤ 2 := by cases v <;> simp [Value.category]
        simp only [List.map_cons, List.sum_cons, List.length_cons]
        omega
    have h9 := this (r.map (hgPh ad))
    rw [List.length_map] at h9
    omega
  have hcd : K.1 + (hgRm z).1 ≤ R.cells ∧ K.2 + (hgRm z).2 ≤ R.slots := by omega
  have hstk : (as.reverse ++ r).map (hgPh ad) = (as.map (hgPh ad)).reverse ++ r.map (hgPh ad) := by simp
  rcases hd with ⟨hk0, hd⟩ | ⟨hk1, hd⟩ | ⟨hk2, hd⟩
  · obtain ⟨b, as1, rfl, hb1, hb2⟩ := hrecv (by omega)
    obtain ⟨T, N, hcl⟩ := hci (by omega)
    obtain ⟨g1, g2, g3, -⟩ := hm.2.2.2.2.2.2.1 (by omega)
    have hre := va_recv hK hn.1 hcl (show (hgWs cy ad M)[b]? = some (ad b, .inr (ci, _)) by rw [hgWs_at cy ad M hb1, hgEn_obj cy ad M hb2 (by have := (hgCls hcl).2.2.2.2.1; omega)])
    refine vx_runV (cc := hgCode q) (nL := hgMl q) (Ts := hgTb) (b := ad b) (As := as1.map (hgPh ad)) ⟨hx, hb, hml, hown, hts⟩ hct ⟨hg_callB hts hm g3 hw hf1 hl1, hts _ g1, hts _ g2⟩ ⟨hg_blind, hre, hpre⟩ rfl ?_ hsz ?_ (lv_room hcat) hd hcd
    · rw [List.length_map]
      rw [List.length_cons, if_neg (by omega)] at hna
      omega
    · show List.map (hgPh ad) ((.ref b :: as1).reverse ++ r) = _
      rw [hstk, List.map_cons, List.reverse_cons, List.append_assoc]
      rfl
  · have hst := (hm.2.2.2.2.2.2.2.1 (by omega)).1
    rw [if_pos hk1, Nat.add_zero] at hna
    by_cases hh : hgHh z = []
    · refine vx_runS (cc := hgCode q) (nL := hgMl q) (Ts := hgTb) (As := as.map (hgPh ad)) ⟨hx, hb, hml, hown, hts⟩ hct ⟨hg_callB hts hm hh hw hf1 hl1, hts _ hst⟩ ⟨hg_blind, hpre⟩ rfl (by rw [List.length_map]; exact hna) hsz hstk (lv_room hcat) hd hcd
    · have hhd := hm.1
      rw [hgHead_with hh] at hhd
      refine vx_runSX (cc := hgCode q) (nL := hgMl q) (Ts := hgTb) (As := as.map (hgPh ad)) (hh := hgHh z) (bytes := hgCode z) (maxL := hgMl z) (ret := hgRet z) ⟨hx, hb, hml, hown, hts⟩ hct ⟨⟨rfl, rfl, hf1, hl1, hg_words hts hm, by rw [← hgHead_with hh]; exact List.mem_cons_self⟩, hts _ hhd, by rw [hm.2.2.1]; exact hts _ hm.2.1, hm.2.2.2.2.1, hg_arity hm.2.2.2.2.2.1, hts _ (hgTb_of hw rfl), hts _ hst⟩ ⟨hg_blind, hpre⟩ rfl (by rw [List.length_map]; exact hna) hsz hstk (lv_room hcat) hd hcd
  · obtain ⟨b, as1, rfl, hb1, hb2⟩ := hrecv (by omega)
    obtain ⟨g1, g2, g3, g4⟩ := hm.2.2.2.2.2.2.2.2 (by omega) (by omega)
    have hcb := hg_callB (R := R) hts hm g3 hw hf1 hl1
    rw [g4] at hcb
    refine vx_runI (cc := hgCode q) (nL := hgMl q) (Ts := hgTb) (b := ad b) (As := as1.map (hgPh ad)) ⟨hx, hb, hml, hown, hts⟩ hct ⟨hcb, g2, hts _ g1⟩ ⟨hg_blind, hpre⟩ rfl ?_ hsz ?_ (lv_room hcat) hd hcd
    · rw [List.length_map]
      rw [List.length_cons, if_neg (by omega)] at hna
      omega
    · show List.map (hgPh ad) ((.ref b :: as1).reverse ++ r) = _
      rw [hstk, List.map_cons, List.reverse_cons, List.append_assoc]
      rfl
/-- behind the call: it has returned, or thrown -/
theorem hg_after {pc mc ms : Nat} {K : hgK} {M : hgMem} {ad : Nat → Nat} {H : Heap} {locs : List Loc} {ls : Array Slot} {st0 rest : List Value} {out1 : hgOut} {a : Array Value}
    (hr : vx_Run p l e R s m args below meth c H locs K.1 K.2 mc ms (F0 m pc ls st0) rest (hgQc B0 D cy ad M out1 a) (hgXc B0 D cy ad M out1) (hgA B0)) (hS : va_S (hgA B0) s.heap H locs)
    (kk : ∀ (v : Value) (M1 : hgMem) (ad1 : Nat → Nat) (H1 : Heap) (locs1 : List Loc), out1 = (.inl v, M1) → hgNum v → va_P D vwCl (hgWs cy ad1 M1) H1 → va_D (hgA B0) (hgWs cy ad1 M1) → hgRok M1 → M.1 ≤ M1.1 → hgExt M.1 ad ad1 → va_S (hgA B0) s.heap H1 locs1 → W p l e R s m args below meth c H1 locs1 (K.1 + mc) (K.2 + ms) Q (F0 m (pc + 3) ls ((hgRv v).toList ++ rest)))
    (kx : ∀ (x : Nat) (M1 : hgMem) (ad1 : Nat → Nat) (H1 : Heap) (locs1 : List Loc) (ce : Cell) (q9 : Addr), out1 = (.inr x, M1) → va_P D vwCl (hgWs cy ad1 M1) H1 → va_D (hgA B0) (hgWs cy ad1 M1) → hgRok M1 → M.1 ≤ M1.1 → hgExt M.1 ad ad1 → va_S (hgA B0) s.heap H1 locs1 → H1[q9]? = some ce → ce.vm = .none → s.vm.findClass (hgXn x) = some ce.cls → vx_W p l e R s m args below meth c H1 locs1 (K.1 + mc) (K.2 + ms) Q (F0 m pc ls rest) q9) :
    W p l e R s m args below meth c H locs K.1 K.2 Q (F0 m pc ls st0) := by
  intro T hT Xs
  rcases hr T hT Xs with ⟨v, st₀, t, T', Lc, h0, X', hL, e1, e2, ⟨v9, M1, ad1, ho, hnum, hv, ⟨b1, b2, b3, b4, b5⟩, hF⟩, st⟩ | ⟨q9, st₀, t, T', Lc, E, ce, h0, X', hL, e1, e2, ⟨x, M1, ad1, ho, hE, ⟨b1, b2, b3, b4, b5⟩, hF⟩, hce, hcv, hcl, st⟩
  · cases hv
    obtain ⟨k1, k2, k3⟩ := vx_keep h0 e1 hS (fun z _ hz => hz) (fun z hz => hz) hL hF
    obtain ⟨t2, a1, c1⟩ := kk v9 M1 ad1 T'.heap (locs ++ Lc) ho hnum (by rw [e1]; exact b1) b2 b3 b4 b5 k3 T' rfl X'
    exact ⟨t2, st t2 a1, c1⟩
  · subst hE
    obtain ⟨k1, k2, k3⟩ := vx_keep h0 e1 hS (fun z _ hz => hz) (fun z hz => hz) hL hF
    obtain ⟨t2, a1, c1⟩ := kx x M1 ad1 T'.heap (locs ++ Lc) ce q9 ho (by rw [e1]; exact b1) b2 b3 b4 b5 k3 (by rw [e1]; exact hce) hcv hcl T' rfl X'
    exact ⟨t2, st.trans a1, c1⟩
/-- what the caller's own things are, behind the call -/
theorem hgNow.back {ad ad1 : Nat → Nat} {L : hgL} {S r : List Value} {M M1 : hgMem} {H H1 : Heap} {locs locs1 : List Loc} {ls : Array Slot} (h : hgNow B0 D cy s nL N0 ad0 ad L S M H locs ls) (hr : hgSk M.1 r) (hP : va_P D vwCl (hgWs cy ad1 M1) H1) (hD : va_D (hgA B0) (hgWs cy ad1 M1)) (hR : hgRok M1) (hN : M.1 ≤ M1.1) (hx : hgExt M.1 ad ad1) (hS : va_S (hgA B0) s.heap H1 locs1) : hgNow B0 D cy s nL N0 ad0 ad1 L r M1 H1 locs1 ls ∧ r.map (hgPh ad1) = r.map (hgPh ad) := by
  obtain ⟨h1, h2, h3, h4, h5, h6, h7, h8, h9⟩ := h
  refine ⟨⟨hP, hD, hS, hgLH_mono h4 (fun i v hv => ?_), fun i v hv => hgVk_m (h5 i v hv) hN, fun v hv => hgVk_m (hr v hv) hN, hR, Nat.le_trans h8 hN, h9.tr h8 hx⟩, List.map_congr_left (fun v hv => hgPh_ext hx (hr v hv))⟩
  rw [hgPh_ext hx (h5 i v hv)]
  exact hgAs_mem.mpr ⟨i, v, (Nat.zero_add i).symm, hv, rfl⟩
end HGCALL
end
section
/-! CALLS of the JDK's own small methods, and all calls. -/
set_option maxRecDepth 100000 in
theorem hgPrimW : [Cond.static Lib.Math.max.name, Cond.static Lib.Math.min.name, Cond.static Lib.MathLoose.max_long.x, Cond.initialized "java/lang/Math", Cond.code Lib.Math.max.name Lib.Math.max.code 2 (some .int), Cond.code Lib.Math.min.name Lib.Math.min.code 2 (some .int), Cond.code Lib.MathLoose.max_long.x Lib.MathLoose.max_long.code 4 (some .long), Cond.instanceMethod Lib.objectInit, Cond.code Lib.objectInit ⟨#[0xb1]⟩ 1 none].all hgIt = true := by decide +kernel
theorem hgCat (ad : Nat → Nat) (r : List Value) : ((r.map (hgPh ad)).map fun v => v.category).sum ≤ 2 * r.length := by
  induction r with
  | nil => simp
  | cons v t ih =>
    have : (hgPh ad v).category ≤ 2 := by rw [hgPh_cat]; cases v <;> simp [Value.category]
    simp only [List.map_cons, List.sum_cons, List.length_cons]
    omega
section HGPRIM
variable {p : Program} {l : Launch} {e : Env} {R : Room} {s : State} {m : MethodId} {args : Array Value} {below : List Frame} {meth : Method} {c : Code} {Q : State → Prop} {q B0 nL N0 : Nat} {D : va_G} {cy : Nat → ClassId} {X : hgX} {ad0 : Nat → Nat}
variable {call : Nat → List Value → hgMem → Option hgOut} {jump : Nat → hgL → List Value → hgK → hgMem → Option hgOut} {len : Nat} {ps : List Nat} {hs : List (Nat × Nat × Nat)} {pc : Nat} {out : hgOut} {L : hgL} {S : List Value} {K : hgK} {M : hgMem} {k : hgL → List Value → hgK → hgMem → Option hgOut}
theorem hgPrim_some {z : Nat} {f : List Value → Option hgOut} (h : hgPrim z S M f = some out) :
    (z = 1000 ∧ ∃ x y r, S = .int y :: .int x :: r ∧ f (.int (if x < y then y else x) :: r) = some out) ∨ (z = 1001 ∧ ∃ x y r, S = .int y :: .int x :: r ∧ f (.int (if y < x then y else x) :: r) = some out) ∨ (z = 1002 ∧ ∃ x y r, S = .long y :: .long x :: r ∧ f (.long (if y < x then x else y) :: r) = some out) ∨
    (z = 1003 ∧ ∃ (a : Nat) (r : List Value), S = .ref a :: r ∧ (1000 ≤ a ∧ a < 1000 + hgStr.length) ∧ f (.int (nI (hgStr.getD (a - 1000) []).length) :: r) = some out) ∨ (z = 1004 ∧ ∃ (a : Nat) (i : Int32) (r : List Value), S = .int i :: .ref a :: r ∧ (1000 ≤ a ∧ a < 1000 + hgStr.length ∧ hgIn i (hgStr.getD (a - 1000) []).length = true) ∧ f (.int (nI ((hgStr.getD (a - 1000) []).getD i.toNatClampNeg 0)) :: r) = some out) ∨ (z = 1005 ∧ ∃ (a : Nat) (r : List Value), S = .ref a :: r ∧ a < M.1 ∧ f r = some out) := by
  unfold hgPrim at h
  split at h
  · exact Or.inl ⟨rfl, _, _, _, rfl, h⟩
  · exact Or.inr (Or.inl ⟨rfl, _, _, _, rfl, h⟩)
  · exact Or.inr (Or.inr (Or.inl ⟨rfl, _, _, _, rfl, h⟩))
  · split at h
    · next g => exact Or.inr (Or.inr (Or.inr (Or.inl ⟨rfl, _, _, rfl, g, h⟩)))
    · cases h
  · split at h
    · next g => exact Or.inr (Or.inr (Or.inr (Or.inr (Or.inl ⟨rfl, _, _, _, rfl, g, h⟩))))
    · cases h
  · split at h
    · next g => exact Or.inr (Or.inr (Or.inr (Or.inr (Or.inr ⟨rfl, _, _, rfl, g, h⟩))))
    · cases h
  · cases h
theorem hgIf5 {r : List Value} {f : Option hgOut} (h : (if r.length ≤ 5 then f else none) = some out) : r.length ≤ 5 ∧ f = some out := by
  by_cases hr : r.length ≤ 5
  · rw [if_pos hr] at h
    exact ⟨hr, h⟩
  · rw [if_neg hr] at h
    cases h
/-- String.length() of a text -/
def hgLenOk (l : Launch) : Prop := ∀ (p : Program) (e : Env) (R : Room) (s : State) (m : MethodId) (args : Array Value) (below : List Frame) (meth : Method) (c : Code) (Q : State → Prop) (q B0 N0 : Nat) (D : va_G) (cy : Nat → ClassId) (X : hgX) (ad0 ad : Nat → Nat) (L : hgL) (S r : List Value) (K : hgK) (M : hgMem) (H : Heap) (locs : List Loc) (ls : Array Slot) (pc idx w a : Nat), hgCx p l R s m args meth c q B0 D cy X ad0 → hgNow B0 D cy s (hgMl q) N0 ad0 ad L S M H locs ls → hgWt w = some (.methodLink (hgOwn q) idx yJ0_length_8abf5) → 3 ≤ R.frames → 120 ≤ R.locals → K.1 ≤ R.cells → K.2 ≤ R.slots → r.length ≤ 4 → decode (hgCode q) pc = .ok (.invokevirtual idx, 3) → a < 12 →
  W p l e R s m args below meth c H locs K.1 K.2 Q (F0 m (pc + 3) ls (.int (nI (hgStr.getD a []).length) :: r.map (hgPh ad))) → W p l e R s m args below meth c H locs K.1 K.2 Q (F0 m pc ls (.ref (ad (1000 + a)) :: r.map (hgPh ad)))
def hgChrOk (l : Launch) : Prop := ∀ (p : Program) (e : Env) (R : Room) (s : State) (m : MethodId) (args : Array Value) (below : List Frame) (meth : Method) (c : Code) (Q : State → Prop) (q B0 N0 : Nat) (D : va_G) (cy : Nat → ClassId) (X : hgX) (ad0 ad : Nat → Nat) (L : hgL) (S r : List Value) (K : hgK) (M : hgMem) (H : Heap) (locs : List Loc) (ls : Array Slot) (pc idx w a : Nat) (i : Int32), hgCx p l R s m args meth c q B0 D cy X ad0 → hgNow B0 D cy s (hgMl q) N0 ad0 ad L S M H locs ls → hgWt w = some (.methodLink (hgOwn q) idx yJ0_charAt_5068e) → 6 ≤ R.frames → 200 ≤ R.locals → K.1 ≤ R.cells → K.2 ≤ R.slots → r.length ≤ 4 → decode (hgCode q) pc = .ok (.invokevirtual idx, 3) → a < 12 → hgIn i (hgStr.getD a []).length = true →
  W p l e R s m args below meth c H locs K.1 K.2 Q (F0 m (pc + 3) ls (.int (nI ((hgStr.getD a []).getD i.toNatClampNeg 0)) :: r.map (hgPh ad))) → W p l e R s m args below meth c H locs K.1 K.2 Q (F0 m pc ls (.int i :: .ref (ad (1000 + a)) :: r.map (hgPh ad)))
set_option maxHeartbeats 4000000 in
set_option maxRecDepth 100000 in
theorem hg_prim (hLen : hgLenOk l) (hChr : hgChrOk l) (hC : hgCx p l R s m args meth c q B0 D cy X ad0) {z idx w kind : Nat} {y : MethodName} (hy : hgPrm z = some y) (hw : hgWt w = some (.methodLink (hgOwn q) idx y)) (hf : (hgPrmRoom z).1 ≤ hgFr q) (hl : (hgPrmRoom z).2 ≤ hgLo q) (hkind : kind = if z = 1005 then 2 else if z < 1003 then 1 else 0)
    (hd : (kind = 0 ∧ decode (hgCode q) pc = .ok (.invokevirtual idx, 3)) ∨ (kind = 1 ∧ decode (hgCode q) pc = .ok (.invokestatic idx, 3)) ∨ (kind = 2 ∧ decode (hgCode q) pc = .ok (.invokespecial idx, 3))) (h : hgPrim z S M (fun r => if r.length ≤ 5 then k L r K M else none) = some out)
    (kk : ∀ L S K M, k L S K M = some out → hgGo p l e R s m args below meth c Q B0 D cy (hgMl q) N0 ad0 (pc + 3) L S K M) : hgGo p l e R s m args below meth c Q B0 D cy (hgMl q) N0 ad0 pc L S K M := by
  have hC0 := hC
  obtain ⟨hx, hb, hml, hown, hts, -, hK, -, ⟨r1, r2, r3, r4⟩, -⟩ := hC
  have hpw := hgAll_mem hgPrimW
  have len : hgStr.length = 12 := rfl
  intro ad H locs ls hn kc ks
  have hsz : c.maxLocals = ls.size := by rw [hml, hn.2.2.2.1.1]
  rcases hgPrim_some h with ⟨rfl, x, y9, r, rfl, h9⟩ | ⟨rfl, x, y9, r, rfl, h9⟩ | ⟨rfl, x, y9, r, rfl, h9⟩ | ⟨rfl, a, r, rfl, ha, h9⟩ | ⟨rfl, a, i, r, rfl, ha, h9⟩ | ⟨rfl, a, r, rfl, ha, h9⟩
  · have hy : some Lib.Math.max.name = some y := hy
    cases hy
    have hk : kind = 1 := hkind
    have hd : decode (hgCode q) pc = .ok (.invokestatic idx, 3) := by rcases hd with h | h | h <;> first | exact h.2 | omega
    obtain ⟨hr, h9⟩ := hgIf5 h9
    have hcat := hgCat ad r
    have hr : r.length + 1 ≤ 5 := hr
    have hf : 1 ≤ hgFr q := hf
    have hl : 40 ≤ hgLo q := hl
    exact va_mmax hx hb hsz hown (hts _ (hgTb_of hw rfl)) (hts _ (hpw _ (by simp))) (hts _ (hpw _ (by simp))) (hts _ (hpw _ (by simp))) (by omega) (by omega) kc ks hd (kk _ _ _ _ h9 ad H locs ls (hn.to (hgSk_c hgVk_i (hgSk_t (hgSk_t hn.sk)))) kc ks)
  · have hy : some Lib.Math.min.name = some y := hy
    cases hy
    have hk : kind = 1 := hkind
    have hd : decode (hgCode q) pc = .ok (.invokestatic idx, 3) := by rcases hd with h | h | h <;> first | exact h.2 | omega
    obtain ⟨hr, h9⟩ := hgIf5 h9
    have hcat := hgCat ad r
    have hr : r.length + 1 ≤ 5 := hr
    have hf : 1 ≤ hgFr q := hf
    have hl : 40 ≤ hgLo q := hl
    exact va_mmin hx hb hsz hown (hts _ (hgTb_of hw rfl)) (hts _ (hpw _ (by simp))) (hts _ (hpw _ (by simp))) (hts _ (hpw _ (by simp))) (by omega) (by omega) kc ks hd (kk _ _ _ _ h9 ad H locs ls (hn.to (hgSk_c hgVk_i (hgSk_t (hgSk_t hn.sk)))) kc ks)
  · have hy : some Lib.MathLoose.max_long.x = some y := hy
    cases hy
    have hk : kind = 1 := hkind
    have hd : decode (hgCode q) pc = .ok (.invokestatic idx, 3) := by rcases hd with h | h | h <;> first | exact h.2 | omega
    obtain ⟨hr, h9⟩ := hgIf5 h9
    have hcat := hgCat ad r
    have hr : r.length + 1 ≤ 5 := hr
    have hf : 1 ≤ hgFr q := hf
    have hl : 40 ≤ hgLo q := hl
    exact va_mmax_long hx hb hsz hown (hts _ (hgTb_of hw rfl)) (hts _ (hpw _ (by simp))) (hts _ (hpw _ (by simp))) (hts _ (hpw _ (by simp))) (by omega) (by omega) kc ks hd (kk _ _ _ _ h9 ad H locs ls (hn.to (hgSk_c hgVk_l (hgSk_t (hgSk_t hn.sk)))) kc ks)
  · have hy : some yJ0_length_8abf5 = some y := hy
    cases hy
    have hk : kind = 0 := hkind
    have hd : decode (hgCode q) pc = .ok (.invokevirtual idx, 3) := by rcases hd with h | h | h <;> first | exact h.2 | omega
    obtain ⟨hr, h9⟩ := hgIf5 h9
    have hr : r.length + 1 ≤ 5 := hr
    have hf : 3 ≤ hgFr q := hf
    have ha1 := ha.1
    have ha2 : a < 1012 := ha.2
    have hl : 120 ≤ hgLo q := hl
    have e9 : a = 1000 + (a - 1000) := by omega
    have go := hLen p e R s m args below meth c Q q B0 N0 D cy X ad0 ad L _ r K M H locs ls pc idx w (a - 1000) hC0 hn hw (by omega) (by omega) kc ks (by omega) hd (by omega) (kk _ _ _ _ h9 ad H locs ls (hn.to (hgSk_c hgVk_i (hgSk_t hn.sk))) kc ks)
    rw [← e9] at go
    exact go
  · have hy : some yJ0_charAt_5068e = some y := hy
    cases hy
    have hk : kind = 0 := hkind
    have hd : decode (hgCode q) pc = .ok (.invokevirtual idx, 3) := by rcases hd with h | h | h <;> first | exact h.2 | omega
    obtain ⟨hr, h9⟩ := hgIf5 h9
    have hr : r.length + 1 ≤ 5 := hr
    have hf : 6 ≤ hgFr q := hf
    have ha1 := ha.1
    have ha2 : a < 1012 := ha.2.1
    have hl : 200 ≤ hgLo q := hl
    have e9 : a = 1000 + (a - 1000) := by omega
    have go := hChr p e R s m args below meth c Q q B0 N0 D cy X ad0 ad L _ r K M H locs ls pc idx w (a - 1000) i hC0 hn hw (by omega) (by omega) kc ks (by omega) hd (by omega) ha.2.2 (kk _ _ _ _ h9 ad H locs ls (hn.to (hgSk_c hgVk_i (hgSk_t (hgSk_t hn.sk)))) kc ks)
    rw [← e9] at go
    exact go
  · have hy : some Lib.objectInit = some y := hy
    cases hy
    have hk : kind = 2 := hkind
    have hd : decode (hgCode q) pc = .ok (.invokespecial idx, 3) := by rcases hd with h | h | h <;> first | exact h.2 | omega
    obtain ⟨hr, h9⟩ := hgIf5 h9
    have hcat := hgCat ad r
    have hf : 1 ≤ hgFr q := hf
    have hl : 40 ≤ hgLo q := hl
    refine W.objInit hx hb hown (hts _ (hgTb_of hw rfl)) (hts _ (hpw _ (by simp))) (hts _ (hpw _ (by simp))) rfl hsz.symm rfl hd (by omega) (by show 2 * 0 + _ + 12 ≤ _; omega) ?_
    exact kk _ _ _ _ h9 ad H locs ls (hn.to (hgSk_t hn.sk)) kc ks
end HGPRIM
end
section
/-! A BLOCK of rows. -/
section HGBLK
variable {p : Program} {l : Launch} {e : Env} {R : Room} {s : State} {m : MethodId} {args : Array Value} {below : List Frame} {meth : Method} {c : Code} {Q : State → Prop} {q B0 nL N0 : Nat} {D : va_G} {cy : Nat → ClassId} {X : hgX} {ad0 : Nat → Nat}
variable {call : Nat → List Value → hgMem → Option hgOut} {jump : Nat → hgL → List Value → hgK → hgMem → Option hgOut} {len : Nat} {ps : List Nat} {hs : List (Nat × Nat × Nat)} {pc : Nat} {out : hgOut} {L : hgL} {S : List Value} {K : hgK} {M : hgMem} {k : hgL → List Value → hgK → hgMem → Option hgOut}
theorem hgLH_st1n {ls1 : Array Slot} {ad : Nat → Nat} {i : Nat} {w : Value} (h1 : lv_has ls1 nL ((i, w) :: (hgAs ad 0 L).filter (fun q => !(q.1 == i) && !(q.1 + 1 == i && q.2.category == 2)))) : hgLH ls1 nL ad (hgS1 L i none) := by
  refine hgLH_mono h1 (fun j w hw => ?_)
  rcases hgG_S1 hw with ⟨g1, g2⟩ | ⟨g1, g2, g3⟩
  · cases g2
  · refine List.mem_cons_of_mem _ (List.mem_filter.mpr ⟨hgAs_mem.mpr ⟨j, w, (Nat.zero_add j).symm, g2, rfl⟩, ?_⟩)
    simp only [Bool.and_eq_true, Bool.not_eq_true', beq_eq_false_iff_ne, ne_eq, Bool.and_eq_false_iff, hgPh_cat]
    refine ⟨g1, ?_⟩
    by_cases e : j + 1 = i
    · exact Or.inr (fun q => g3 ⟨e, q⟩)
    · exact Or.inl e
theorem hgNow.st1n {ad : Nat → Nat} {H : Heap} {locs : List Loc} {ls ls1 : Array Slot} (h : hgNow B0 D cy s nL N0 ad0 ad L S M H locs ls) {i : Nat} {w : Value} (h1 : lv_has ls1 nL ((i, w) :: (hgAs ad 0 L).filter (fun q => !(q.1 == i) && !(q.1 + 1 == i && q.2.category == 2)))) : hgNow B0 D cy s nL N0 ad0 ad (hgS1 L i none) [] M H locs ls1 := by
  refine ⟨h.1, h.2.1, h.2.2.1, hgLH_st1n h1, fun j w hw => ?_, hgSk_n, h.2.2.2.2.2.2⟩
  rcases hgG_S1 hw with ⟨_, g2⟩ | ⟨_, g2, _⟩
  · cases g2
  · exact h.2.2.2.2.1 j w g2
theorem hgHd_le : ∀ {E : Nat} {hs : List (Nat × Nat × Nat)} {hh : List (Nat × Nat × Nat × Nat)} {t loc : Nat}, hgHOk q pc hs hh = true → hgHd E hs = some (t, loc) → E ≤ 2
  | E, [], hh, t, loc, _, h => by cases h
  | E, (e1, t1, l1) :: r, [], t, loc, h0, h => by cases h0
  | E, (e1, t1, l1) :: r, (st, en, hp, ct) :: r2, t, loc, h0, h => by
    unfold hgHOk at h0
    simp only [Bool.and_eq_true, decide_eq_true_eq] at h0
    obtain ⟨⟨⟨⟨⟨⟨⟨⟨⟨a1, a2⟩, a3⟩, a4⟩, a5⟩, a6⟩, a7⟩, a8⟩, a9⟩, a10⟩ := h0
    unfold hgHd at h
    split at h
    · next g => omega
    · exact hgHd_le a10 h
set_option maxHeartbeats 4000000 in
/-- an exception that one of the rows takes -/
theorem hg_catch (hC : hgCx p l R s m args meth c q B0 D cy X ad0) {E : Nat} {ce : Cell} {q9 : Addr} {ad : Nat → Nat} {H : Heap} {locs : List Loc} {ls : Array Slot} {rest : List Value} (hn : hgNow B0 D cy s (hgMl q) N0 ad0 ad L [] M H locs ls) (kc : K.1 ≤ R.cells) (ks : K.2 ≤ R.slots) (hcell : H[q9]? = some ce) (hv : ce.vm = .none) (hcl : s.vm.findClass (hgXn E) = some ce.cls) (hE : E ≤ 2) :
    ∀ (hs : List (Nat × Nat × Nat)) (hh pre : List (Nat × Nat × Nat × Nat)) (t loc : Nat), hgHOk q pc hs hh = true → hgHd E hs = some (t, loc) → hgHh q = pre ++ hh → (∀ z ∈ tableOf pre, covers z pc = false ∨ (z.catchType ≠ 0 ∧ ∃ nm : String, (Cond.classLink (hgOwn q) z.catchType nm).before args s = true ∧ va_Nc (hgXn E) nm s)) →
    hgGo p l e R s m args below meth c Q B0 D cy (hgMl q) N0 ad0 t (hgS1 L loc none) [] K M → vx_W p l e R s m args below meth c H locs K.1 K.2 Q (F0 m pc ls rest) q9 := by
  intro hs
  induction hs with
  | nil => intro hh pre t loc _ h; cases h
  | cons hd9 r ih =>
    obtain ⟨e1, t1, l1⟩ := hd9
    intro hh pre t loc h0 h hsp hpass go
    obtain ⟨hx, hb, hml, hown, hts, -, hK, hst, -, ⟨-, htab, -⟩, -⟩ := id hC
    cases hh with
    | nil => cases h0
    | cons z9 r2 =>
      obtain ⟨st, en, hp, ct⟩ := z9
      unfold hgHOk at h0
      simp only [Bool.and_eq_true, Bool.or_eq_true, decide_eq_true_eq] at h0
      obtain ⟨⟨⟨⟨⟨⟨⟨⟨⟨a1, a2⟩, a3⟩, a4⟩, a5⟩, a6⟩, a7⟩, a8⟩, a9⟩, a10⟩ := h0
      have hlink := hts _ (hgIt_mem a7)
      unfold hgHd at h
      split at h
      · next g =>
        subst g
        cases h
        refine vx_catch hown (tableOf pre) ⟨st, en, hp, ct⟩ (tableOf r2) (by rw [htab (by rw [hsp]; simp), hsp]; simp [tableOf]) hpass (by simp [covers, a1, a2]) a4 hlink (va_Nw.use rfl (hst.2.2.2.1.2.2.2.2.2.2.2 _ a8 rfl)) hcell hv hcl ?_
        rcases a6 with ⟨⟨b1, b2⟩, b3⟩ | ⟨b1, b2⟩
        · subst b1; subst b2
          exact lv_astore_n hx hb b3 rfl hn.2.2.2.1 a5 rfl (fun ls1 hl1 => go ad H locs ls1 (hn.st1n hl1) kc ks)
        · subst b1
          exact lv_astore hx hb b2 hn.2.2.2.1 a5 rfl (fun ls1 hl1 => go ad H locs ls1 (hn.st1n hl1) kc ks)
      · next g =>
        refine ih r2 (pre ++ [(st, en, hp, ct)]) t loc a10 h (by rw [hsp]; simp) (fun z hz => ?_) go
        unfold tableOf at hz
        rw [List.map_append] at hz
        rcases List.mem_append.mp hz with hz | hz
        · exact hpass z hz
        · rw [List.mem_singleton.mp hz]
          exact Or.inr ⟨a4, hgXn e1, hlink, hst.2.2.2.1.2.2.2.2.2.2.1 E e1 hE a3 (fun z => g z.symm)⟩
/-- how the block ends: it returns, throws, lets an exception pass -/
def hgRetOk (q : Nat) (i : Instr) (v : Value) : Prop := (i = .ireturn ∧ ∃ x, v = .int x ∧ (hgRet q = some .int ∨ (hgRet q = some .boolean ∧ (x = 0 ∨ x = 1)))) ∨ (i = .lreturn ∧ ∃ x, v = .long x ∧ hgRet q = some .long) ∨ (i = .return_ ∧ v = .null ∧ hgRet q = none)
def hgEndR (p : Program) (l : Launch) (e : Env) (R : Room) (s : State) (m : MethodId) (args : Array Value) (below : List Frame) (meth : Method) (c : Code) (Q : State → Prop) (q B0 N0 : Nat) (D : va_G) (cy : Nat → ClassId) (ad0 : Nat → Nat) (out : hgOut) : Prop := ∀ (v : Value) (L : hgL) (S : List Value) (K : hgK) (M : hgMem) (ad : Nat → Nat) (H : Heap) (locs : List Loc) (ls : Array Slot) (pc : Nat) (i : Instr), out = (.inl v, M) → decode (hgCode q) pc = .ok (i, 1) → hgRetOk q i v → hgNow B0 D cy s (hgMl q) N0 ad0 ad L S M H locs ls → K.1 ≤ R.cells → K.2 ≤ R.slots → W p l e R s m args below meth c H locs K.1 K.2 Q (F0 m pc ls (hgRv v).toList)
def hgEndT (p : Program) (l : Launch) (e : Env) (R : Room) (s : State) (m : MethodId) (args : Array Value) (below : List Frame) (meth : Method) (c : Code) (Q : State → Prop) (q B0 N0 : Nat) (D : va_G) (cy : Nat → ClassId) (ad0 : Nat → Nat) (out : hgOut) : Prop := ∀ (E : Nat) (L : hgL) (S : List Value) (K : hgK) (M : hgMem) (ad : Nat → Nat) (H : Heap) (locs : List Loc) (ls : Array Slot) (pc idx w1 w2 w3 w4 : Nat) (hs : List (Nat × Nat × Nat)), out = (.inr E, M) → decode (hgCode q) pc = .ok (.new idx, 3) → hgChk q pc (.new idx) 3 [2, E, w1, w2, w3, w4] hs = true → S.length ≤ 4 → hgNow B0 D cy s (hgMl q) N0 ad0 ad L S M H locs ls → K.1 + 1 ≤ R.cells → K.2 + 6 ≤ R.slots → W p l e R s m args below meth c H locs K.1 K.2 Q (F0 m pc ls (S.map (hgPh ad)))
def hgEndO (p : Program) (l : Launch) (e : Env) (R : Room) (s : State) (m : MethodId) (args : Array Value) (below : List Frame) (meth : Method) (c : Code) (Q : State → Prop) (q B0 N0 : Nat) (D : va_G) (cy : Nat → ClassId) (ad0 : Nat → Nat) (out : hgOut) : Prop := ∀ (E : Nat) (L : hgL) (S : List Value) (K : hgK) (M : hgMem) (ad : Nat → Nat) (H : Heap) (locs : List Loc) (ls : Array Slot) (pc : Nat) (rest : List Value) (ce : Cell) (q9 : Addr), out = (.inr E, M) → (∀ z ∈ tableOf (hgHh q), covers z pc = false) → hgNow B0 D cy s (hgMl q) N0 ad0 ad L S M H locs ls → K.1 ≤ R.cells → K.2 ≤ R.slots → H[q9]? = some ce → ce.vm = .none → s.vm.findClass (hgXn E) = some ce.cls → vx_W p l e R s m args below meth c H locs K.1 K.2 Q (F0 m pc ls rest) q9
theorem hgRecv_spec {ci N : Nat} {as : List Value} (h : hgRecv ci N as = true) (hc : ci ≠ 99) : ∃ b as1, as = .ref b :: as1 ∧ b < N ∧ (hgSh b).1 = ci := by
  unfold hgRecv at h
  split at h
  · simp only [Bool.or_eq_true, Bool.and_eq_true, decide_eq_true_eq] at h
    rcases h with h | h
    · exact absurd h hc
    · exact ⟨_, _, rfl, h.1, h.2⟩
  · exact absurd (of_decide_eq_true h) hc
theorem hgcall_some {rm : hgK} (h : hgcall rm call jump ps hs L S K M k = some out) : ∃ z n v w mc ms ci, ps = [z, n, v, w, mc, ms, ci] ∧ ((1000 ≤ z ∧ hgPrim z S M (fun r => if r.length ≤ 5 then k L r K M else none) = some out) ∨ (¬ 1000 ≤ z ∧ ∃ as r o1, hgTake n [] S = some (as, r) ∧ r.length ≤ 4 ∧ K.1 + mc ≤ rm.1 ∧ K.2 + ms ≤ rm.2 ∧ hgRecv ci M.1 as = true ∧ call z as M = some o1 ∧ ((∃ x M1, o1 = (.inl x, M1) ∧ k L (hgPush x r) (K.1 + mc, K.2 + ms) M1 = some out) ∨ (∃ E M1, o1 = (.inr E, M1) ∧ ((hs = [] ∧ out = (.inr E, M1)) ∨ (hs ≠ [] ∧ ∃ t loc, hgHd E hs = some (t, loc) ∧ jump t (hgS1 L loc none) [] (K.1 + mc, K.2 + ms) M1 = some out)))))) := by
  unfold hgcall at h
  split at h
  · next z n v w mc ms ci =>
    refine ⟨z, n, v, w, mc, ms, ci, rfl, ?_⟩
    split at h
    · next g => exact Or.inl ⟨g, h⟩
    · next g =>
      refine Or.inr ⟨g, ?_⟩
      split at h
      · cases h
      · next as r ht =>
        split at h
        · next hc =>
          split at h
          · cases h
          · next x M1 ho => exact ⟨as, r, _, ht, hc.1, hc.2.1, hc.2.2.1, hc.2.2.2, ho, Or.inl ⟨x, M1, rfl, h⟩⟩
          · next E M1 ho =>
            refine ⟨as, r, _, ht, hc.1, hc.2.1, hc.2.2.1, hc.2.2.2, ho, Or.inr ⟨E, M1, rfl, ?_⟩⟩
            split at h
            · cases h
              exact Or.inl ⟨rfl, rfl⟩
            · next hne =>
              split at h
              · cases h
              · next t loc hh => exact Or.inr ⟨fun z => hne z, t, loc, hh, h⟩
        · cases h
  · cases h
end HGBLK
end
section
/-! SOUNDNESS: what the abstract machine answers, the machine does. -/
section HGSND
variable {p : Program} {l : Launch} {e : Env} {R : Room} {s : State} {m : MethodId} {args : Array Value} {below : List Frame} {meth : Method} {c : Code} {Q : State → Prop} {q B0 nL N0 : Nat} {D : va_G} {cy : Nat → ClassId} {X : hgX} {ad0 : Nat → Nat}
variable {call : Nat → List Value → hgMem → Option hgOut} {jump : Nat → hgL → List Value → hgK → hgMem → Option hgOut} {len : Nat} {ps : List Nat} {hs : List (Nat × Nat × Nat)} {pc : Nat} {out : hgOut} {L : hgL} {S : List Value} {K : hgK} {M : hgMem} {k : hgL → List Value → hgK → hgMem → Option hgOut}
set_option maxHeartbeats 4000000 in
set_option maxRecDepth 100000 in
theorem hg_callrow (hLen : hgLenOk l) (hChr : hgChrOk l) (hM : ∀ z, z < 227 → hgMfact z) (hC : hgCx p l R s m args meth c q B0 D cy X ad0) {idx kind : Nat} (hk : hgCallOk q pc idx kind ps hs = true)
    (hd : (kind = 0 ∧ decode (hgCode q) pc = .ok (.invokevirtual idx, 3)) ∨ (kind = 1 ∧ decode (hgCode q) pc = .ok (.invokestatic idx, 3)) ∨ (kind = 2 ∧ decode (hgCode q) pc = .ok (.invokespecial idx, 3))) (h : hgcall (hgRm q) call jump ps hs L S K M k = some out)
    (IHc : ∀ z as M o ad, call z as M = some o → z < 227 → hgSk M.1 as → hgCt l B0 D cy X z as ad M o)
    (kk : ∀ L S K M, k L S K M = some out → hgGo p l e R s m args below meth c Q B0 D cy (hgMl q) N0 ad0 (pc + 3) L S K M)
    (kj : ∀ t L S K M, jump t L S K M = some out → hgGo p l e R s m args below meth c Q B0 D cy (hgMl q) N0 ad0 t L S K M)
    (hO : hgEndO p l e R s m args below meth c Q q B0 N0 D cy ad0 out) : hgGo p l e R s m args below meth c Q B0 D cy (hgMl q) N0 ad0 pc L S K M := by
  obtain ⟨z, n, v, w, mc, ms, ci, rfl, hcs⟩ := hgcall_some h
  clear h
  unfold hgCallOk at hk
  dsimp only at hk
  rcases hcs with ⟨hz, hp⟩ | ⟨hz, as, r, o1, ht, hr4, k1, k2, hrecv, hcall, hcs⟩
  · rw [if_pos hz] at hk
    split at hk
    · next y hy =>
      simp only [Bool.and_eq_true, decide_eq_true_eq] at hk
      exact hg_prim hLen hChr hC hy hk.1.1.1 hk.1.1.2 hk.1.2 hk.2 hd hp kk
    · cases hk
  · rw [if_neg hz] at hk
    simp only [Bool.and_eq_true, decide_eq_true_eq] at hk
    obtain ⟨⟨⟨⟨⟨⟨⟨⟨⟨⟨a1, a2⟩, a3⟩, a4⟩, a5⟩, a6⟩, a7⟩, a8⟩, a9⟩, a10⟩, a11⟩ := hk
    subst a3; subst a4
    obtain ⟨xs, e1, e2, e3⟩ := hgTake_spec ht
    rw [List.append_nil] at e1
    subst e1
    subst e2
    intro ad H locs ls hn kc ks
    have hsk : hgSk M.1 as := fun x hx9 => hn.sk x (List.mem_append_left _ (List.mem_reverse.mpr hx9))
    have hskr : hgSk M.1 r := fun x hx9 => hn.sk x (List.mem_append_right _ hx9)
    have hct := IHc z as M o1 ad hcall a1 hsk
    have hRm : R.cells = (hgRm q).1 ∧ R.slots = (hgRm q).2 := hC.2.2.2.2.2.2.2.2.1.2.2
    have hci : kind ≠ 1 → ∃ T N, vwCl[ci]? = some (hgOwn z, T, N) := fun hk1 => by
      rw [if_neg hk1] at a10
      cases hcl : vwCl[ci]? with
      | none => rw [hcl] at a10; cases a10
      | some C9 =>
        obtain ⟨C, T, N⟩ := C9
        rw [hcl] at a10
        have : C = hgOwn z := of_decide_eq_true a10
        subst this
        exact ⟨T, N, rfl⟩
    have hrv : kind ≠ 1 → ∃ b as1, as = .ref b :: as1 ∧ b < M.1 ∧ (hgSh b).1 = ci := fun hk1 => by
      obtain ⟨T, N, hcl⟩ := hci hk1
      exact hgRecv_spec hrecv (by have := (hgCls hcl).2.2.2.2.1; omega)
    have hrun := hg_run (len := 0) (e := e) (below := below) (K := K) hC hn (hM z a1) hct a2 a5 a6 a8 (by rw [e3, a7]) hci hrv hd hr4 k1 k2
    refine hg_after hrun hn.2.2.1 (fun v9 M1 ad1 H1 locs1 ho hnum hP hD hR hN hx9 hS => ?_) (fun x9 M1 ad1 H1 locs1 ce q9 ho hP hD hR hN hx9 hS hce hcv hcl => ?_)
    · obtain ⟨hn1, em⟩ := hn.back hskr hP hD hR hN hx9 hS
      rcases hcs with ⟨x, M2, ho2, hk9⟩ | ⟨E, M2, ho2, _⟩
      · rw [ho] at ho2
        cases ho2
        have go := kk _ _ _ _ hk9 ad1 H1 locs1 ls
        have es : (hgRv v9).toList ++ r.map (hgPh ad) = (hgPush v9 r).map (hgPh ad1) := by
          rw [← em]
          cases v9 <;> first | rfl | exact absurd rfl (hnum _)
        have hk0 : hgSk M1.1 (hgPush v9 r) := by
          cases v9 <;> first | exact hn1.sk | exact hgSk_c (hgVk_num hnum) hn1.sk
        rw [es]
        exact go (hn1.to hk0) (by show K.1 + _ ≤ _; omega) (by show K.2 + _ ≤ _; omega)
      · rw [ho] at ho2
        cases ho2
    · obtain ⟨hn1, em⟩ := hn.back hgSk_n hP hD hR hN hx9 hS
      rcases hcs with ⟨x, M2, ho2, _⟩ | ⟨E, M2, ho2, hcs⟩
      · rw [ho] at ho2
        cases ho2
      · rw [ho] at ho2
        cases ho2
        rcases hcs with ⟨hs0, hout⟩ | ⟨hs0, t, loc, hh, hj⟩
        · subst hs0
          refine hO x9 L [] (K.1 + (hgRm z).1, K.2 + (hgRm z).2) M1 ad1 H1 locs1 ls pc _ ce q9 hout (fun z9 hz9 => ?_) hn1 (by show K.1 + _ ≤ _; omega) (by show K.2 + _ ≤ _; omega) hce hcv hcl
          have a11 : (hgHh q).all (fun h => !(decide (h.1 ≤ pc) && decide (pc < h.2.1))) = true := a11
          obtain ⟨h9, g1, g2⟩ := List.mem_map.mp hz9
          have := List.all_eq_true.mp a11 h9 g1
          rw [← g2]
          show (decide (h9.1 ≤ pc) && decide (pc < h9.2.1)) = false
          cases hb9 : (decide (h9.1 ≤ pc) && decide (pc < h9.2.1)) with
          | false => rfl
          | true =>
            have this : (!(decide (h9.1 ≤ pc) && decide (pc < h9.2.1))) = true := this
            rw [hb9] at this
            cases this
        · have a12 : hgHOk q pc hs (hgHh q) = true := by
            cases hs with
            | nil => exact absurd rfl hs0
            | cons _ _ => exact a11
          exact hg_catch (K := (K.1 + (hgRm z).1, K.2 + (hgRm z).2)) hC hn1 (by show K.1 + _ ≤ _; omega) (by show K.2 + _ ≤ _; omega) hce hcv hcl (hgHd_le a12 hh) hs (hgHh q) [] t loc a12 hh rfl (fun z9 hz9 => by cases hz9) (kj _ _ _ _ _ hj)
theorem hgir_some (h : (match ps, S with
    | [3], [.int x] => if x = 0 ∨ x = 1 then some (.inl (.int x), M) else none
    | [1], [.int x] => some (.inl (.int x), M)
    | _, _ => none) = some out) : ∃ x, S = [.int x] ∧ out = (.inl (.int x), M) ∧ ((ps = [3] ∧ (x = 0 ∨ x = 1)) ∨ ps = [1]) := by
  split at h
  · split at h
    · next hx => cases h; exact ⟨_, rfl, rfl, Or.inl ⟨rfl, hx⟩⟩
    · cases h
  · cases h; exact ⟨_, rfl, rfl, Or.inr rfl⟩
  · cases h
theorem hglr_some (h : (match S with
    | [.long x] => some (.inl (.long x), M)
    | _ => none) = some out) : ∃ x, S = [.long x] ∧ out = (.inl (.long x), M) := by
  split at h
  · cases h; exact ⟨_, rfl, rfl⟩
  · cases h
theorem hgvr_some (h : (match S with
    | [] => some (.inl .null, M)
    | _ => none) = some out) : S = [] ∧ out = (.inl .null, M) := by
  split at h
  · cases h; exact ⟨rfl, rfl⟩
  · cases h
theorem hgnw_some {rm : hgK} (h : (match ps with
    | [1, ci, n, _] => if hgSh M.1 = (ci, n) ∧ K.1 + 1 ≤ rm.1 ∧ K.2 + n ≤ rm.2 then k L (.ref M.1 :: S) (K.1 + 1, K.2 + n) (hgNew M) else none
    | [2, E, _, _, _, _] => if S.length ≤ 4 ∧ K.1 + 1 ≤ rm.1 ∧ K.2 + 6 ≤ rm.2 then some (.inr E, M) else none
    | _ => none) = some out) : (∃ ci n w, ps = [1, ci, n, w] ∧ hgSh M.1 = (ci, n) ∧ K.1 + 1 ≤ rm.1 ∧ K.2 + n ≤ rm.2 ∧ k L (.ref M.1 :: S) (K.1 + 1, K.2 + n) (hgNew M) = some out) ∨ (∃ E w1 w2 w3 w4, ps = [2, E, w1, w2, w3, w4] ∧ S.length ≤ 4 ∧ K.1 + 1 ≤ rm.1 ∧ K.2 + 6 ≤ rm.2 ∧ out = (.inr E, M)) := by
  split at h
  · split at h
    · next g => exact Or.inl ⟨_, _, _, rfl, g.1, g.2.1, g.2.2, h⟩
    · cases h
  · split at h
    · next g => cases h; exact Or.inr ⟨_, _, _, _, _, rfl, g.1, g.2.1, g.2.2, rfl⟩
    · cases h
  · cases h
set_option maxHeartbeats 4000000 in
set_option maxRecDepth 100000 in
theorem hg_block (hLen : hgLenOk l) (hChr : hgChrOk l) (hM : ∀ z, z < 227 → hgMfact z) (hC : hgCx p l R s m args meth c q B0 D cy X ad0)
    (IHc : ∀ z as M o ad, call z as M = some o → z < 227 → hgSk M.1 as → hgCt l B0 D cy X z as ad M o)
    (kj : ∀ t L S K M, jump t L S K M = some out → hgGo p l e R s m args below meth c Q B0 D cy (hgMl q) N0 ad0 t L S K M)
    (hR : hgEndR p l e R s m args below meth c Q q B0 N0 D cy ad0 out) (hT : hgEndT p l e R s m args below meth c Q q B0 N0 D cy ad0 out) (hO : hgEndO p l e R s m args below meth c Q q B0 N0 D cy ad0 out) :
    ∀ (rows : List hgRow) (pc : Nat), hgOkB q pc rows = true → ∀ (L : hgL) (S : List Value) (K : hgK) (M : hgMem), hgEx X (hgRm q) call jump rows L S K M = some out → hgGo p l e R s m args below meth c Q B0 D cy (hgMl q) N0 ad0 pc L S K M := by
  intro rows
  induction rows with
  | nil => intro pc _ L S K M h; cases h
  | cons row rs ih =>
    obtain ⟨i, len, ps, hs⟩ := row
    intro pc hok L S K M h
    unfold hgOkB at hok
    simp only [Bool.and_eq_true, decide_eq_true_eq] at hok
    obtain ⟨⟨hd, hk⟩, hok2⟩ := hok
    have h : hgStep X (hgRm q) call jump i ps hs L S K M (fun L S K M => hgEx X (hgRm q) call jump rs L S K M) = some out := h
    have kk : ∀ L S K M, hgEx X (hgRm q) call jump rs L S K M = some out → hgGo p l e R s m args below meth c Q B0 D cy (hgMl q) N0 ad0 (pc + len) L S K M := fun L S K M h => ih (pc + len) hok2 L S K M h
    have hRm : R.cells = (hgRm q).1 ∧ R.slots = (hgRm q).2 := hC.2.2.2.2.2.2.2.2.1.2.2
    refine hg_easy hC hd hk h kk kj (fun hhard => ?_)
    cases i with
    | ldc idx => exact hg_ldc hC hd hk h kk
    | ldc_w idx => exact hg_ldcw hC hd hk h kk
    | ldc2_w idx => exact hg_ldc2 hC hd hk h kk
    | getfield idx => exact hg_getfield hC hd hk h kk
    | putfield idx => exact hg_putfield hC hd hk h kk
    | iaload => exact hg_iaload hC hd hk h kk
    | baload => exact hg_baload hC hd hk h kk
    | laload => exact hg_laload hC hd hk h kk
    | aaload => exact hg_aaload hC hd hk h kk
    | iastore => exact hg_iastore hC hd hk h kk
    | bastore => exact hg_bastore hC hd hk h kk
    | lastore => exact hg_lastore hC hd hk h kk
    | aastore => exact hg_aastore hC hd hk h kk
    | arraylength => exact hg_alen hC hd hk h kk
    | newarray t => exact hg_newarray hC hd hk h kk
    | anewarray idx => exact hg_anewarray hC hd hk h kk
    | multianewarray idx dim => exact hg_multi hC hd hk h kk
    | new idx =>
      have hl : len = 3 := by
        simp only [hgChk, Bool.and_eq_true, decide_eq_true_eq] at hk
        exact hk.1
      subst hl
      rcases hgnw_some (rm := hgRm q) h with ⟨ci, n, w, rfl, g1, g2, g3, g4⟩ | ⟨E, w1, w2, w3, w4, rfl, g1, g2, g3, g4⟩
      · have hk2 : (decide (3 = 3) && (match vwCl[ci]? with
          | some (C, _, N) => decide (n = N) && decide (hgWt w = some (.classLink (hgOwn q) idx C))
          | none => false)) = true := hk
        rw [Bool.and_eq_true] at hk2
        exact hg_new1 hC hd hk2.2 g1 g2 g3 g4 kk
      · intro ad H locs ls hn kc ks
        exact hT E L S K M ad H locs ls pc idx w1 w2 w3 w4 hs g4 hd hk g1 hn (by omega) (by omega)
    | invokevirtual idx =>
      have hk2 : (decide (len = 3) && hgCallOk q pc idx 0 ps hs) = true := hk
      rw [Bool.and_eq_true, decide_eq_true_eq] at hk2
      obtain ⟨hl, hk3⟩ := hk2
      subst hl
      exact hg_callrow hLen hChr hM hC hk3 (Or.inl ⟨rfl, hd⟩) h IHc kk kj hO
    | invokestatic idx =>
      have hk2 : (decide (len = 3) && hgCallOk q pc idx 1 ps hs) = true := hk
      rw [Bool.and_eq_true, decide_eq_true_eq] at hk2
      obtain ⟨hl, hk3⟩ := hk2
      subst hl
      exact hg_callrow hLen hChr hM hC hk3 (Or.inr (Or.inl ⟨rfl, hd⟩)) h IHc kk kj hO
    | invokespecial idx =>
      have hk2 : (decide (len = 3) && hgCallOk q pc idx 2 ps hs) = true := hk
      rw [Bool.and_eq_true, decide_eq_true_eq] at hk2
      obtain ⟨hl, hk3⟩ := hk2
      subst hl
      exact hg_callrow hLen hChr hM hC hk3 (Or.inr (Or.inr ⟨rfl, hd⟩)) h IHc kk kj hO
    | ireturn =>
      obtain ⟨x, hS, ho, hps⟩ := hgir_some h
      have hfin : len = 1 ∧ hgRetOk q .ireturn (.int x) := by
        rcases hps with ⟨hp, hx⟩ | hp
        · subst hp
          have hk2 : (decide (len = 1) && decide (hgRet q = some .boolean)) = true := hk
          rw [Bool.and_eq_true, decide_eq_true_eq, decide_eq_true_eq] at hk2
          exact ⟨hk2.1, Or.inl ⟨rfl, x, rfl, Or.inr ⟨hk2.2, hx⟩⟩⟩
        · subst hp
          have hk2 : (decide (len = 1) && decide (hgRet q = some .int)) = true := hk
          rw [Bool.and_eq_true, decide_eq_true_eq, decide_eq_true_eq] at hk2
          exact ⟨hk2.1, Or.inl ⟨rfl, x, rfl, Or.inl hk2.2⟩⟩
      obtain ⟨hl, hok⟩ := hfin
      subst hl
      intro ad H locs ls hn kc ks
      have go := hR (.int x) L S K M ad H locs ls pc _ ho hd hok hn kc ks
      rw [hS]
      exact go
    | lreturn =>
      have hk2 : (decide (len = 1) && decide (hgRet q = some .long)) = true := hk
      rw [Bool.and_eq_true, decide_eq_true_eq, decide_eq_true_eq] at hk2
      obtain ⟨hl, hk3⟩ := hk2
      subst hl
      obtain ⟨x, hS, ho⟩ := hglr_some h
      intro ad H locs ls hn kc ks
      have go := hR (.long x) L S K M ad H locs ls pc _ ho hd (Or.inr (Or.inl ⟨rfl, x, rfl, hk3⟩)) hn kc ks
      rw [hS]
      exact go
    | return_ =>
      have hk2 : (decide (len = 1) && decide (hgRet q = none)) = true := hk
      rw [Bool.and_eq_true, decide_eq_true_eq, decide_eq_true_eq] at hk2
      obtain ⟨hl, hk3⟩ := hk2
      subst hl
      obtain ⟨hS, ho⟩ := hgvr_some h
      intro ad H locs ls hn kc ks
      have go := hR .null L S K M ad H locs ls pc _ ho hd (Or.inr (Or.inr ⟨rfl, rfl, hk3⟩)) hn kc ks
      rw [hS]
      exact go
    | _ => cases hhard
end HGSND
end
section
/-! EVERY METHOD keeps the contract that the abstract machine computes. -/
theorem hgEnt_len : ∀ (as : List Value) (ad : Nat → Nat), (lg_sl (as.map (hgPh ad))).length = (hgEnt as).length
  | [], ad => rfl
  | v :: r, ad => by
    have ih := hgEnt_len r ad
    have e1 : lg_sl ((v :: r).map (hgPh ad)) = (if (hgPh ad v).category = 2 then [.val (hgPh ad v), .second] else [.val (hgPh ad v)]) ++ lg_sl (r.map (hgPh ad)) := by simp [lg_sl]
    rw [e1, List.length_append, ih, hgPh_cat]
    cases v <;> simp [hgEnt, Value.category] <;> omega
theorem hgG_pad : ∀ (n : Nat) (L : hgL) {i : Nat} {v : Value}, hgG (hgPad n L) i = some v → hgG L i = some v
  | 0, L, i, v, h => h
  | n + 1, [], i, v, h => by
    unfold hgPad at h
    dsimp only at h
    cases i with
    | zero => cases h
    | succ i =>
      have := hgG_pad n [] (i := i) h
      cases this
  | n + 1, w :: L, i, v, h => by
    unfold hgPad at h
    dsimp only at h
    cases i with
    | zero => exact h
    | succ i => exact hgG_pad n L (i := i) h
theorem hgG_ent (ad : Nat → Nat) : ∀ (as : List Value) (j : Nat) {i : Nat} {v : Value}, hgG (hgEnt as) i = some v → (j + i, hgPh ad v) ∈ lv_args j (as.map (hgPh ad)) ∧ v ∈ as
  | [], j, i, v, h => by cases i <;> cases h
  | w :: r, j, i, v, h => by
    rw [List.map_cons, lv_args]
    by_cases hw : w.category = 2
    · have e1 : hgEnt (w :: r) = some w :: none :: hgEnt r := by
        cases w <;> first | rfl | (simp [Value.category] at hw)
      rw [e1] at h
      match i, h with
      | 0, h =>
        cases h
        exact ⟨List.mem_cons_self, List.mem_cons_self⟩
      | 1, h => cases h
      | i + 2, h =>
        obtain ⟨g1, g2⟩ := hgG_ent ad r (j + 2) (i := i) h
        rw [if_pos (by rw [hgPh_cat]; exact hw)]
        exact ⟨List.mem_cons_of_mem _ (by rw [show j + (i + 2) = j + 2 + i by omega]; exact g1), List.mem_cons_of_mem _ g2⟩
    · have e1 : hgEnt (w :: r) = some w :: hgEnt r := by
        cases w <;> first | rfl | (simp [Value.category] at hw)
      rw [e1] at h
      match i, h with
      | 0, h =>
        cases h
        exact ⟨List.mem_cons_self, List.mem_cons_self⟩
      | i + 1, h =>
        obtain ⟨g1, g2⟩ := hgG_ent ad r (j + 1) (i := i) h
        rw [if_neg (by rw [hgPh_cat]; exact hw)]
        exact ⟨List.mem_cons_of_mem _ (by rw [show j + (i + 1) = j + 1 + i by omega]; exact g1), List.mem_cons_of_mem _ g2⟩
theorem hgLk_mem : ∀ (pc : Nat) (t : List (Nat × List Bool × List hgRow)), (hgLk pc t).2 = [] ∨ ∃ b ∈ t, b.1 = pc ∧ b.2.2 = (hgLk pc t).2
  | pc, [] => Or.inl rfl
  | pc, (q, b, r) :: t => by
    unfold hgLk
    split
    · next h => exact Or.inr ⟨_, List.mem_cons_self, h, rfl⟩
    · rcases hgLk_mem pc t with h | ⟨b, h1, h2⟩
      · exact Or.inl h
      · exact Or.inr ⟨b, List.mem_cons_of_mem _ h1, h2⟩
section HGMAIN
variable {p : Program} {l : Launch} {e : Env} {R : Room} {s : State} {m : MethodId} {args : Array Value} {below : List Frame} {meth : Method} {c : Code} {q B0 N0 : Nat} {D : va_G} {cy : Nat → ClassId} {X : hgX} {ad0 : Nat → Nat} {M0 : hgMem} {out : hgOut}
theorem hg_post {L : hgL} {S : List Value} {M : hgMem} {ad : Nat → Nat} {H : Heap} {locs : List Loc} {ls : Array Slot} (hn : hgNow B0 D cy s (hgMl q) M0.1 ad0 ad L S M H locs ls) {t : State} (ht : t.heap = H) : hgPost B0 D cy ad0 M0 ad M t ∧ va_F (hgA B0) s t :=
  ⟨⟨by rw [ht]; exact hn.1, hn.2.1, hn.2.2.2.2.2.2.1, hn.2.2.2.2.2.2.2.1, hn.2.2.2.2.2.2.2.2⟩, hn.2.2.1.F ht⟩
set_option maxHeartbeats 4000000 in
theorem hg_endR (hx : p.tables.exec = Jvm.exec) (hb : c.code = hgCode q) (hr : meth.sig.returnType = hgRet q) (hlocks : meth.locks = false) (hRm : R.cells = (hgRm q).1 ∧ R.slots = (hgRm q).2) :
    hgEndR p l e R s m args below meth c (vx_MQ below (hgQc B0 D cy ad0 M0 out) (hgXc B0 D cy ad0 M0 out) args s (hgRm q).1 (hgRm q).2 (hgA B0)) q B0 M0.1 D cy ad0 out := by
  intro v L S K M ad H locs ls pc i ho hd hok hn kc ks
  refine W.widen (k := (hgRm q).1) (n := (hgRm q).2) (by omega) (by omega) (vx_ret ?_)
  have hf : ∀ z ∈ locs, hgA B0 z.base := hn.2.2.1.2.2
  rcases hok with ⟨hi, x, hv, ht⟩ | ⟨hi, x, hv, ht⟩ | ⟨hi, hv, ht⟩
  · subst hi; subst hv
    rcases ht with ht | ⟨ht, hx9⟩
    · refine W.zret (v := x) (ty := .int) hx hb (by rw [hr, ht]) rfl (fun t e1 _ => ?_) hf hd hlocks
      exact ⟨.int x, M, ad, ho, (fun a h => by cases h), rfl, hg_post hn e1⟩
    · refine W.zret (v := x) (ty := .boolean) hx hb (by rw [hr, ht]) (by rcases hx9 with h | h <;> subst h <;> decide) (fun t e1 _ => ?_) hf hd hlocks
      exact ⟨.int x, M, ad, ho, (fun a h => by cases h), rfl, hg_post hn e1⟩
  · subst hi; subst hv
    refine W.lret (v := x) hx hb (by rw [hr, ht]) (fun t e1 _ => ?_) hf hd hlocks
    exact ⟨.long x, M, ad, ho, (fun a h => by cases h), rfl, hg_post hn e1⟩
  · subst hi; subst hv
    refine W.vret hx hb (by rw [hr, ht]) (fun t e1 _ => ?_) hf hd hlocks
    exact ⟨.null, M, ad, ho, (fun a h => by cases h), rfl, hg_post hn e1⟩
set_option maxHeartbeats 4000000 in
theorem hg_endO (hlocks : meth.locks = false) (htab : c.exceptionTable.toList = tableOf (hgHh q)) (hRm : R.cells = (hgRm q).1 ∧ R.slots = (hgRm q).2) :
    hgEndO p l e R s m args below meth c (vx_MQ below (hgQc B0 D cy ad0 M0 out) (hgXc B0 D cy ad0 M0 out) args s (hgRm q).1 (hgRm q).2 (hgA B0)) q B0 M0.1 D cy ad0 out := by
  intro E L S K M ad H locs ls pc rest ce q9 ho hcov hn kc ks hce hcv hcl
  refine vx_out (by rw [htab]; exact hcov) hlocks hce hcv hcl (fun t e1 _ => ?_) hn.2.2.1.2.2 (by omega) (by omega)
  exact ⟨E, M, ad, ho, rfl, hg_post hn e1⟩
set_option maxHeartbeats 4000000 in
set_option maxRecDepth 100000 in
theorem hg_endT (hC : hgCx p l R s m args meth c q B0 D cy X ad0) (htab : c.exceptionTable.toList = tableOf (hgHh q)) :
    hgEndT p l e R s m args below meth c (vx_MQ below (hgQc B0 D cy ad0 M0 out) (hgXc B0 D cy ad0 M0 out) args s (hgRm q).1 (hgRm q).2 (hgA B0)) q B0 M0.1 D cy ad0 out := by
  intro E L S K M ad H locs ls pc idx w1 w2 w3 w4 hs ho hd hk hS4 hn kc ks
  obtain ⟨hx, hb, hml, hown, hts, -, hK, hst, ⟨r1, r2, r3, r4⟩, ⟨htr, -, hlocks⟩, -⟩ := hC
  have hk2 : (decide (3 = 3) && hgThr q pc idx E w1 w2 w3 w4) = true := hk
  rw [Bool.and_eq_true] at hk2
  have hk3 := hk2.2
  unfold hgThr at hk3
  simp only [Bool.and_eq_true, decide_eq_true_eq] at hk3
  obtain ⟨⟨⟨⟨⟨⟨⟨⟨⟨⟨⟨⟨a1, a2⟩, a3⟩, a4⟩, a5⟩, a6⟩, a7⟩, a8⟩, a9⟩, a10⟩, a11⟩, a12⟩, a13⟩ := hk3
  have hall := List.all_eq_true.mp a13
  have hw : ∀ w ∈ (Cond.classLink (hgOwn q) idx (hgXn E) :: Cond.initialized (hgXn E) :: vx_atS (hgOwn q) w4 (hgXn E) hgNames), w.before args s = true ∧ vx_ot w = true := fun w hw9 => by
    have := hall w hw9
    rw [Bool.and_eq_true, Bool.and_eq_true, decide_eq_true_eq, Bool.or_eq_true] at this
    obtain ⟨⟨g1, g2⟩, g3⟩ := this
    refine ⟨?_, g3⟩
    rcases g2 with g2 | g2
    · exact hts _ (List.mem_filter.mpr ⟨g1, g2⟩)
    · exact va_Nw.use (hgDc_on g2) (hst.2.2.2.1.2.2.2.2.2.2.2 w g1 g2)
  obtain ⟨tx, hstr⟩ : ∃ tx, hgWt w2 = some (.stringRef (hgOwn q) w3 tx) := by
    split at a10
    · next own k tx hw2 =>
      rw [Bool.and_eq_true, decide_eq_true_eq, decide_eq_true_eq] at a10
      obtain ⟨g1, g2⟩ := a10
      subst g1; subst g2
      exact ⟨tx, hw2⟩
    · cases a10
  obtain ⟨sa, hsa, -⟩ := hst.2.2.2.1.1 _ _ _ (List.mem_of_getElem? hstr)
  have hcat := hgCat ad S
  have hst9 := hst
  refine vx_throwS (own := hgOwn q) (cls := hgXn E) (text := tx) (names := hgNames) (ik := idx) (is := w3) (ic := w4) (sa := sa) (A := hgA B0) hx hb htr hown a11 (fun n hn9 => List.all_eq_true.mp a12 n hn9) (hw _ List.mem_cons_self).1 (hw _ (List.mem_cons_of_mem _ List.mem_cons_self)).1 hsa (fun w hw9 => (hw w (List.mem_cons_of_mem _ (List.mem_cons_of_mem _ hw9))).1) (fun w hw9 => (hw w hw9).2) hst.1 hst.2.1 hn.2.2.1 (by rw [hml]; exact hn.2.2.2.1.1) hd a5 a6 a7 a8 (by rw [htab, a9]; intro x h9; cases h9) ?_ ?_ (by omega) (by omega) hlocks (fun t e1 e2 e3 => ?_) hn.2.2.1.2.2 (by omega) (by omega)
  · show 2 + 3 < R.frames
    omega
  · show _ + (13 * (2 + 1) + 43) ≤ R.locals
    omega
  · refine ⟨E, M, ad, ho, rfl, ⟨fun k x9 h9 => (hn.1 k x9 h9).kept (e3 _ (hn.1 k x9 h9).lt), hn.2.1, hn.2.2.2.2.2.2.1, hn.2.2.2.2.2.2.2.1, hn.2.2.2.2.2.2.2.2⟩, Nat.le_trans hn.2.2.1.1 e2, fun z h1 h2 => ?_⟩
    rw [e3 z (Nat.lt_of_lt_of_le h1 hn.2.2.1.1)]
    exact hn.2.2.1.2.1 z h1 h2
theorem hgC_some {n z : Nat} {as : List Value} {M : hgMem} {o : hgOut} (h : hgC X n z as M = some o) : (hgEnt as).length ≤ hgMl z ∧ hgRun X n z 0 (hgPad (hgMl z) (hgEnt as)) [] (0, 0) M = some o := by
  unfold hgC at h
  split at h
  · next g => exact ⟨g, h⟩
  · cases h
/-- from the entry, and from every label, within a body: by the fuel -/
theorem hg_labels (hLen : hgLenOk l) (hChr : hgChrOk l) (hM : ∀ z, z < 227 → hgMfact z) (hOk : ∀ b ∈ hgBs q, hgOkB q b.1 b.2.2 = true) (hC : hgCx p l R s m args meth c q B0 D cy X ad0) {Q : State → Prop}
    (hR : hgEndR p l e R s m args below meth c Q q B0 N0 D cy ad0 out) (hT : hgEndT p l e R s m args below meth c Q q B0 N0 D cy ad0 out) (hO : hgEndO p l e R s m args below meth c Q q B0 N0 D cy ad0 out) :
    ∀ (n : Nat), (∀ k, k < n → ∀ z as M o ad, hgC X k z as M = some o → z < 227 → hgSk M.1 as → hgCt l B0 D cy X z as ad M o) → ∀ (pc : Nat) (L : hgL) (S : List Value) (K : hgK) (M : hgMem), hgRun X n q pc L S K M = some out → hgGo p l e R s m args below meth c Q B0 D cy (hgMl q) N0 ad0 pc L S K M := by
  intro n
  induction n with
  | zero => intro _ pc L S K M h; cases h
  | succ n ih =>
    intro hcall pc L S K M h
    rw [hgRun_succ] at h
    have kj : ∀ t L S K M, hgJp X n q t L S K M = some out → hgGo p l e R s m args below meth c Q B0 D cy (hgMl q) N0 ad0 t L S K M := by
      intro t L S K M hj ad H locs ls hn kc ks
      refine ih (fun k hk => hcall k (Nat.lt_succ_of_lt hk)) t _ S K M hj ad H locs ls ?_ kc ks
      exact ⟨hn.1, hn.2.1, hn.2.2.1, hgLH_mask _ hn.2.2.2.1, fun i v hv => hn.2.2.2.2.1 i v (hgG_mask hv), hn.2.2.2.2.2⟩
    rcases hgLk_mem pc (hgBs q) with h0 | ⟨b, h1, h2, h3⟩
    · rw [h0] at h
      cases h
    · have hok := hOk b h1
      rw [h2, h3] at hok
      exact hg_block hLen hChr hM hC (hcall n (Nat.lt_succ_self n)) kj hR hT hO _ pc hok L S K M h
set_option maxHeartbeats 4000000 in
theorem hg_sound (hLen : hgLenOk l) (hChr : hgChrOk l) (hM : ∀ z, z < 227 → hgMfact z) (hOk : ∀ z, z < 227 → ∀ b ∈ hgBs z, hgOkB z b.1 b.2.2 = true) (htr : l.stackTraces = false) :
    ∀ (n : Nat), ∀ z as M o ad, hgC X n z as M = some o → z < 227 → hgSk M.1 as → hgCt l B0 D cy X z as ad M o := by
  intro n
  induction n using Nat.strongRecOn with
  | ind n ih =>
    intro z as M o ad h hz hsk
    obtain ⟨hlen, hrun⟩ := hgC_some h
    have hm := hM z hz
    have body : ∀ (p : Program) (e : Env) (s : State) (m : MethodId) (args : Array Value) (below : List Frame) (meth : Method) (c : Code) (s₁ : State), BodyLoose p l (hgY z) (headSpec (hgWd z) (hgRoom z)) (hgCode z) (hgMl z) (hgRet z) e s m args below meth c s₁ → c.maxLocals = hgMl z → c.exceptionTable.toList = tableOf (hgHh z) → va_Pc (as.map (hgPh ad)) (hgPre B0 D cy X ad M) args s →
        W p l e (headSpec (hgWd z) (hgRoom z)).room s m args below meth c s.heap [] 0 0 (vx_MQ below (hgQc B0 D cy ad M o) (hgXc B0 D cy ad M o) args s (hgRm z).1 (hgRm z).2 (hgA B0)) (entryFrame m args (hgMl z)) := by
      intro p e s m args below meth c s₁ B hml htab hv
      obtain ⟨rfl, hB, hP, hD, hK, hst, hRk⟩ := hv
      have hts0 := atoms_spec (ws := hgWd z) B.pre
      have hown : s.vm.findClass (hgOwn z) = some m.cls := by
        have := findClass_of_methodNamed B.named
        rw [hm.2.2.1] at this
        exact this
      have hC : hgCx p l (hgRoom z) s m (as.map (hgPh ad)).toArray meth c z B0 D cy X ad := ⟨B.exec, B.bytes, hml, hown, fun w hw => hts0 w (List.mem_cons_of_mem _ hw), hB, hK, hst, ⟨Nat.le_refl _, Nat.le_refl _, rfl, rfl⟩, ⟨htr, fun _ => htab, B.notSynchronized⟩, fun hi => by rw [(name_of_methodNamed B.named B.method).1]; exact hi⟩
      have hl := lv_entry (as.map (hgPh ad)) (n := hgMl z) (by rw [hgEnt_len]; exact hlen)
      rw [lg_entry_eq]
      generalize (lg_sl (as.map (hgPh ad)) ++ List.replicate (hgMl z - (lg_sl (as.map (hgPh ad))).length) Slot.unset).toArray = ls at hl ⊢
      have go := hg_labels (e := e) (below := below) (N0 := M.1) hLen hChr hM (hOk z hz) hC (hg_endR B.exec B.bytes B.returns B.notSynchronized ⟨rfl, rfl⟩) (hg_endT hC htab) (hg_endO B.notSynchronized htab ⟨rfl, rfl⟩) n (fun k hk z as M o ad => ih k hk z as M o ad) 0 _ [] (0, 0) M hrun ad s.heap [] ls ?_ (Nat.zero_le _) (Nat.zero_le _)
      · exact go
      · refine ⟨hP, hD, va_S.rf, hgLH_mono hl (fun i v hv => ?_), fun i v hv => ?_, hgSk_n, hRk, Nat.le_refl _, hgExt.rf⟩
        · have := (hgG_ent ad as 0 (hgG_pad _ _ hv)).1
          rw [Nat.zero_add] at this
          exact this
        · exact hsk v (hgG_ent ad as 0 (hgG_pad _ _ hv)).2
    by_cases hh : hgHh z = []
    · refine vx_ofW (cc := hgCode z) (maxL := hgMl z) (ret := hgRet z) (ws' := hgTb) hm.2.2.2.1 (by unfold hgWd; rw [hgHead_code hh]) ?_
      intro p e s m args below meth c s₁ B hml ht hv
      exact body p e s m args below meth c s₁ B hml (by
        rw [hh]
        cases he : c.exceptionTable.toList with
        | nil => rfl
        | cons x r => exact absurd (ht x (by rw [he]; exact List.mem_cons_self)) id) hv
    · refine vx_ofWH (cc := hgCode z) (maxL := hgMl z) (ret := hgRet z) (hh := hgHh z) (ws' := hgTb) hm.2.2.2.1 (by unfold hgWd; rw [hgHead_with hh]) ?_
      intro p e s m args below meth c s₁ B hml hv
      have hts0 := atoms_spec (ws := hgWd z) B.pre
      exact body p e s m args below meth c s₁ B hml (vx_table (x := hgY z) (bytes := hgCode z) (maxL' := hgMl z) (ret' := hgRet z) B (by rw [← hgHead_with hh]; exact hts0 _ List.mem_cons_self)) hv
end HGMAIN
end
section
/-! THE TEXTS: String.length and String.charAt of the program's own words. -/
theorem hgS128 : ∀ l ∈ hgStr, ∀ x ∈ l, x < 128 := by decide +kernel
theorem hgStr_lt (a j : Nat) : (hgStr.getD a []).getD j 0 < 128 := by
  by_cases h : a < hgStr.length
  · have e1 : hgStr.getD a [] = hgStr[a] := by simp [List.getD, h]
    rw [e1]
    by_cases h2 : j < hgStr[a].length
    · have e2 : hgStr[a].getD j 0 = hgStr[a][j] := by simp [List.getD, h2]
      rw [e2]
      exact hgS128 _ (List.getElem_mem h) _ (List.getElem_mem h2)
    · have e2 : hgStr[a].getD j 0 = 0 := by simp [List.getD, h2]
      rw [e2]
      decide
  · have e1 : hgStr.getD a [] = [] := by simp [List.getD, h]
    rw [e1]
    simp [List.getD]
theorem hgByte : ∀ k, k < 128 → ((nI k &&& 255).toUInt32 % 65536).toInt32 = nI k ∧ narrow .char (.int (nI k)) = .int (nI k) := by decide +kernel
set_option maxRecDepth 100000 in
theorem hgJw : [Cond.code yJ3_checkIndex_8e157 cJ3_checkIndex_8e157 3 (some .int), Cond.code yJ0_checkIndex_df160 cJ0_checkIndex_df160 2 none, Cond.code yJ1_charAt_3b067 cJ1_charAt_3b067 2 (some .char), Cond.code yJ0_isLatin1_aae02 cJ0_isLatin1_aae02 1 (some .boolean), Cond.code yJ0_coder_7d493 cJ0_coder_7d493 1 (some .byte), Cond.code yJ0_length_8abf5 cJ0_length_8abf5 1 (some .int), Cond.code yJ0_charAt_5068e cJ0_charAt_5068e 2 (some .char), Cond.initialized RJ0, Cond.initialized RJ1, Cond.initialized RJ3,
  Cond.methodLink RJ0 1059 yJ3_checkIndex_8e157, Cond.static yJ3_checkIndex_8e157, Cond.methodLink RJ1 9 yJ0_checkIndex_df160, Cond.static yJ0_checkIndex_df160, Cond.methodLink RJ0 495 yJ1_charAt_3b067, Cond.static yJ1_charAt_3b067, Cond.methodLink RJ0 492 yJ0_isLatin1_aae02, Cond.instanceMethod yJ0_isLatin1_aae02, Cond.selects RJ0 yJ0_isLatin1_aae02 yJ0_isLatin1_aae02, Cond.methodLink RJ0 335 yJ0_coder_7d493, Cond.instanceMethod yJ0_coder_7d493, Cond.selects RJ0 yJ0_coder_7d493 yJ0_coder_7d493,
  Cond.instanceMethod yJ0_length_8abf5, Cond.selects RJ0 yJ0_length_8abf5 yJ0_length_8abf5, Cond.instanceMethod yJ0_charAt_5068e, Cond.selects RJ0 yJ0_charAt_5068e yJ0_charAt_5068e, Cond.fieldLink RJ0 38 RJ0 "COMPACT_STRINGS" "Z", Cond.fieldLink RJ0 1053 RJ3 "SIOOBE_FORMATTER" "Ljava/util/function/BiFunction;", Cond.fieldLink RJ0 9 RJ0 "value" "[B", Cond.fieldLink RJ0 15 RJ0 "coder" "B"].all hgIt = true := by decide +kernel
/-- what these methods find: the texts -/
def hgPj (B0 : Nat) (X : hgX) (ad : Nat → Nat) (av : List Value) : Array Value → State → Prop := va_Pc av (fun U => hgStat B0 X ad U U.heap)
def hgQv : Array Value → State → Outcome → State → Prop := fun _ st o t => o = .returned none ∧ t.heap = st.heap
section HGSTR
variable {l : Launch} {B0 : Nat} {X : hgX} {ad : Nat → Nat}
theorem hgPj_blind {av : List Value} : FrameBlind (hgPj B0 X ad av) := fun a U g mk h => ⟨h.1, hgStat.warm (s := U) (U := U.calling g mk a) (State.WarmedH.refl U) h.2⟩
theorem hgPj_of {av : List Value} {s U : State} (h : hgStat B0 X ad s s.heap) (hU : U.heap = s.heap) (hW : s.WarmedH U.vm) : hgPj B0 X ad av av.toArray U := ⟨rfl, by show hgStat B0 X ad U U.heap; rw [hU]; exact h.warm hW⟩
theorem hgJb {R : Room} {s : State} {args : Array Value} (hts : ∀ w ∈ hgTb, w.before args s = true) {own : String} {idx : Nat} {y : MethodName} {cc : ByteArray} {n : Nat} {ret : Option FieldType} {f k a : Nat} (h1 : Cond.code y cc n ret ∈ hgTb) (h2 : Cond.initialized y.cls ∈ hgTb) (h3 : Cond.methodLink own idx y ∈ hgTb) (h4 : y.cls ≠ "java/lang/invoke/MethodHandle" ∧ y.cls ≠ "java/lang/invoke/VarHandle") (h5 : ∀ sig, parseMethodDescriptor y.desc = some sig → a = sig.parameters.length) (hf : f + 1 ≤ R.frames) (hl : 8 + (n + 11) + k ≤ R.locals) :
    CallB R s args own idx y cc n ret (Cond.code y cc n ret :: hgTb) (k2_rm f k) 0 0 a := by
  refine ⟨rfl, rfl, hf, hl, fun w hw a' U hW => ?_, List.mem_cons_self, hts _ h1, hts _ h2, h4, h5, hts _ h3⟩
  have hin : w ∈ hgTb := by
    rcases List.mem_cons.mp hw with h | h
    · rw [h]; exact h1
    · exact h
  exact word_at hW (good_of_word (List.mem_filter.mp hin).2) (hts w hin)
theorem hgSig {y : MethodName} {a : Nat} (h : (parseMethodDescriptor y.desc).map (fun d => d.parameters.length) = some a) : ∀ sig, parseMethodDescriptor y.desc = some sig → a = sig.parameters.length := by
  intro sig hs
  rw [hs] at h
  exact (Option.some.inj h).symm
set_option maxHeartbeats 4000000 in
set_option maxRecDepth 100000 in
theorem cj_pre (i n : Int32) (v : Value) (h0 : ¬ i < 0) (h1 : i < n) : Met l yJ3_checkIndex_8e157 (Cond.code yJ3_checkIndex_8e157 cJ3_checkIndex_8e157 3 (some .int) :: hgTb) (k2_rm 1 40) (va_Pc [.int i, .int n, v] (fun _ => v.category = 1)) (QcRead i) 0 0 (fun _ => False) := by
  refine Met.ofW (cc := cJ3_checkIndex_8e157) (maxL := 3) (ret := some .int) (by decide) rfl ?_
  intro p e s m args below meth c s₁ B hml hv
  obtain ⟨rfl, hcat⟩ := hv
  have hx := B.exec
  have hb := B.bytes
  have hr := B.returns
  have hlocks := B.notSynchronized
  have hl := lv_entry ([.int i, .int n, v]) (n := 3) (by cases v <;> first | exact Nat.le_of_ble_eq_true rfl | (simp [Value.category] at hcat))
  rw [lg_entry_eq]
  generalize (lg_sl ([.int i, .int n, v]) ++ List.replicate (3 - (lg_sl ([.int i, .int n, v])).length) Slot.unset).toArray = ls at hl ⊢
  have hl : lv_has ls 3 [(0, .int i), (1, .int n), (2, v)] := hl
  refine lv_iload_n hx hb (show decode cJ3_checkIndex_8e157 0 = .ok (.iload_n 0, 1) by decide +kernel) rfl (lv_at hl 0 rfl) ?_
  refine lv_if_lt (tgt := 9) hx hb (show decode cJ3_checkIndex_8e157 1 = .ok (.ifCond .lt 8, 3) by decide +kernel) (by decide) (fun g => absurd g h0) (fun _ => ?_)
  refine lv_iload_n hx hb (show decode cJ3_checkIndex_8e157 4 = .ok (.iload_n 0, 1) by decide +kernel) rfl (lv_at hl 0 rfl) ?_
  refine lv_iload_n hx hb (show decode cJ3_checkIndex_8e157 5 = .ok (.iload_n 1, 1) by decide +kernel) rfl (lv_at hl 1 rfl) ?_
  refine lv_icmp_lt (tgt := 16) hx hb (show decode cJ3_checkIndex_8e157 6 = .ok (.if_icmp .lt 10, 3) by decide +kernel) (by decide) (fun _ => ?_) (fun g => absurd h1 g)
  refine lv_iload_n hx hb (show decode cJ3_checkIndex_8e157 16 = .ok (.iload_n 0, 1) by decide +kernel) rfl (lv_at hl 0 rfl) ?_
  exact W.iret (v := i) hx hb hr (fun t ht _ => ⟨rfl, ht⟩) (fun q h => by cases h) (show decode cJ3_checkIndex_8e157 17 = .ok (.ireturn, 1) by decide +kernel)
set_option maxHeartbeats 4000000 in
set_option maxRecDepth 100000 in
theorem cj_chk (i n : Int32) (h0 : ¬ i < 0) (h1 : i < n) : Met l yJ0_checkIndex_df160 (Cond.code yJ0_checkIndex_df160 cJ0_checkIndex_df160 2 none :: hgTb) (k2_rm 2 80) (hgPj B0 X ad [.int i, .int n]) hgQv 0 0 (fun _ => False) := by
  refine Met.ofW (cc := cJ0_checkIndex_df160) (maxL := 2) (ret := none) (by decide) rfl ?_
  intro p e s m args below meth c s₁ B hml hv
  obtain ⟨rfl, hst⟩ := hv
  have hst : hgStat B0 X ad s s.heap := hst
  have hx := B.exec
  have hb := B.bytes
  have hr := B.returns
  have hlocks := B.notSynchronized
  have hts0 := atoms_spec (ws := Cond.code yJ0_checkIndex_df160 cJ0_checkIndex_df160 2 none :: hgTb) B.pre
  have hts : ∀ w ∈ hgTb, w.before _ s = true := fun w hw => hts0 w (List.mem_cons_of_mem _ hw)
  have hj := hgAll_mem hgJw
  have hown : s.vm.findClass RJ0 = some m.cls := findClass_of_methodNamed B.named
  have hl := lv_entry ([.int i, .int n]) (n := 2) (Nat.le_of_ble_eq_true rfl)
  rw [lg_entry_eq]
  generalize (lg_sl ([.int i, .int n]) ++ List.replicate (2 - (lg_sl ([.int i, .int n])).length) Slot.unset).toArray = ls at hl ⊢
  have hl : lv_has ls 2 [(0, .int i), (1, .int n)] := hl
  refine lv_iload_n hx hb (show decode cJ0_checkIndex_df160 0 = .ok (.iload_n 0, 1) by decide +kernel) rfl (lv_at hl 0 rfl) ?_
  refine lv_iload_n hx hb (show decode cJ0_checkIndex_df160 1 = .ok (.iload_n 1, 1) by decide +kernel) rfl (lv_at hl 1 rfl) ?_
  have go : ∀ v : Value, v.category = 1 → W p l e (k2_rm 2 80) s m #[.int i, .int n] below meth c s.heap [] 0 0 (MQ below hgQv #[.int i, .int n] s 0 0 (fun _ => False)) (F0 m 5 ls [v, .int n, .int i]) := by
    intro v hv
    refine W.callR (W.runS (cc := cJ0_checkIndex_df160) (nL := 2) (Ts := hgTb) (own := RJ0) (As := [.int i, .int n, v]) (rest := []) ⟨hx, hb, hml, hown, hts⟩ (cj_pre i n v h0 h1) ⟨hgJb hts (hj _ (by simp)) (hj _ (by simp [yJ3_checkIndex_8e157])) (hj (.methodLink RJ0 1059 yJ3_checkIndex_8e157) (by simp)) ⟨by decide, by decide⟩ (hgSig (a := 3) (by decide +kernel)) (by decide) (by decide), hts _ (hj _ (by simp))⟩ ⟨fun a U g mk h => h, fun U hU hW => ⟨rfl, hv⟩⟩ rfl rfl hl.1 rfl (lv_room (Nat.le_of_ble_eq_true rfl)) (show decode cJ0_checkIndex_df160 5 = .ok (.invokestatic 1059, 3) by decide +kernel) ⟨Nat.le_refl _, Nat.le_refl _⟩) ?_
    refine lv_pop hx hb (show decode cJ0_checkIndex_df160 8 = .ok (.pop, 1) by decide +kernel) rfl ?_
    exact W.vret hx hb hr (fun t ht _ => ⟨rfl, ht⟩) (fun q h => by cases h) (show decode cJ0_checkIndex_df160 9 = .ok (.return_, 1) by decide +kernel)
  have hlink := hts _ (hj (.fieldLink RJ0 1053 RJ3 "SIOOBE_FORMATTER" "Ljava/util/function/BiFunction;") (by simp))
  rcases hst.2.2.2.2.2.1 with hz | ⟨t, hz⟩
  · exact va_gets hx hb hz va_S.rf hown hlink (fun _ h => h) (show decode cJ0_checkIndex_df160 2 = .ok (.getstatic 1053, 3) by decide +kernel) (go .null rfl)
  · exact va_gets hx hb hz va_S.rf hown hlink (fun _ h => h) (show decode cJ0_checkIndex_df160 2 = .ok (.getstatic 1053, 3) by decide +kernel) (go (.ref t) rfl)
theorem hgStr_len (a : Nat) : (hgStr.getD a []).length < 2 ^ 31 := by
  have h : ∀ l ∈ hgStr, l.length < 100 := by decide +kernel
  by_cases g : a < hgStr.length
  · have e1 : hgStr.getD a [] = hgStr[a] := by simp [List.getD, g]
    rw [e1]
    have := h _ (List.getElem_mem g)
    omega
  · have e1 : hgStr.getD a [] = [] := by simp [List.getD, g]
    rw [e1]
    decide
/-- a call that answers nothing and changes nothing -/
theorem hg_callQ {p : Program} {e : Env} {R : Room} {s : State} {m : MethodId} {args : Array Value} {below : List Frame} {meth : Method} {c : Code} {H : Heap} {locs : List Loc} {cells slots : Nat} {Q : State → Prop} {g : JFrame} {rest : List Value} {a : Array Value} (hr : CallRun p l e R s m args below meth c H locs cells slots 0 0 g rest (hgQv a) (fun _ => False)) (kk : W p l e R s m args below meth c H locs cells slots Q { g with pc := g.pc + 3, stack := rest }) : W p l e R s m args below meth c H locs cells slots Q g := by
  intro T hT Xs
  obtain ⟨v, st₀, t, T', L, h0, X', hL, e1, ⟨hv, hh⟩, st⟩ := hr T hT Xs
  cases hv
  have hL0 : L = [] := by
    cases L with
    | nil => rfl
    | cons x r => exact absurd (hL x List.mem_cons_self) id
  subst hL0
  rw [List.append_nil] at X'
  obtain ⟨t2, a1, b1⟩ := kk T' (by rw [e1, hh, h0]) X'
  exact ⟨t2, st t2 a1, b1⟩
set_option maxHeartbeats 4000000 in
set_option maxRecDepth 100000 in
theorem cj_cod (a : Nat) (ha : a < 12) : Met l yJ0_coder_7d493 (Cond.code yJ0_coder_7d493 cJ0_coder_7d493 1 (some .byte) :: hgTb) (k2_rm 1 40) (hgPj B0 X ad [.ref (ad (1000 + a))]) (QcRead 0) 0 0 (fun _ => False) := by
  refine Met.ofW (cc := cJ0_coder_7d493) (maxL := 1) (ret := some .byte) (by decide) rfl ?_
  intro p e s m args below meth c s₁ B hml hv
  obtain ⟨rfl, hst⟩ := hv
  have hst : hgStat B0 X ad s s.heap := hst
  have hx := B.exec
  have hb := B.bytes
  have hr := B.returns
  have hlocks := B.notSynchronized
  have hts0 := atoms_spec (ws := Cond.code yJ0_coder_7d493 cJ0_coder_7d493 1 (some .byte) :: hgTb) B.pre
  have hts : ∀ w ∈ hgTb, w.before _ s = true := fun w hw => hts0 w (List.mem_cons_of_mem _ hw)
  have hj := hgAll_mem hgJw
  have hown : s.vm.findClass RJ0 = some m.cls := findClass_of_methodNamed B.named
  have hl := lv_entry ([.ref (ad (1000 + a))]) (n := 1) (Nat.le_of_ble_eq_true rfl)
  rw [lg_entry_eq]
  generalize (lg_sl ([.ref (ad (1000 + a))]) ++ List.replicate (1 - (lg_sl ([.ref (ad (1000 + a))])).length) Slot.unset).toArray = ls at hl ⊢
  have hl : lv_has ls 1 [(0, .ref (ad (1000 + a)))] := hl
  obtain ⟨av, t1, t2, t3, t4⟩ := hst.2.2.1 a ha
  refine va_gets hx hb hst.2.2.2.2.1 va_S.rf hown (hts _ (hj (.fieldLink RJ0 38 RJ0 "COMPACT_STRINGS" "Z") (by simp))) (fun _ h => h) (show decode cJ0_coder_7d493 0 = .ok (.getstatic 38, 3) by decide +kernel) ?_
  refine lv_if_eq (tgt := 13) hx hb (show decode cJ0_coder_7d493 3 = .ok (.ifCond .eq 10, 3) by decide +kernel) (by decide) (fun g => absurd g (by decide)) (fun _ => ?_)
  refine lv_aload_n hx hb (show decode cJ0_coder_7d493 6 = .ok (.aload_n 0, 1) by decide +kernel) rfl (lv_at hl 0 rfl) ?_
  refine vk_getf hx hb t2 va_S.rf hown (hts _ (hj (.fieldLink RJ0 15 RJ0 "coder" "B") (by simp))) (fun _ h => h) (show decode cJ0_coder_7d493 7 = .ok (.getfield 15, 3) by decide +kernel) ?_
  refine lv_goto (tgt := 14) hx hb (show decode cJ0_coder_7d493 10 = .ok (.goto 4, 3) by decide +kernel) (by decide) ?_
  exact W.zret (v := 0) (ty := .byte) hx hb hr (by decide) (fun t ht _ => ⟨rfl, ht⟩) (fun q h => by cases h) (show decode cJ0_coder_7d493 14 = .ok (.ireturn, 1) by decide +kernel)
set_option maxHeartbeats 4000000 in
set_option maxRecDepth 100000 in
theorem cj_lat (a : Nat) (ha : a < 12) : Met l yJ0_isLatin1_aae02 (Cond.code yJ0_isLatin1_aae02 cJ0_isLatin1_aae02 1 (some .boolean) :: hgTb) (k2_rm 1 40) (hgPj B0 X ad [.ref (ad (1000 + a))]) (QcRead 1) 0 0 (fun _ => False) := by
  refine Met.ofW (cc := cJ0_isLatin1_aae02) (maxL := 1) (ret := some .boolean) (by decide) rfl ?_
  intro p e s m args below meth c s₁ B hml hv
  obtain ⟨rfl, hst⟩ := hv
  have hst : hgStat B0 X ad s s.heap := hst
  have hx := B.exec
  have hb := B.bytes
  have hr := B.returns
  have hlocks := B.notSynchronized
  have hts0 := atoms_spec (ws := Cond.code yJ0_isLatin1_aae02 cJ0_isLatin1_aae02 1 (some .boolean) :: hgTb) B.pre
  have hts : ∀ w ∈ hgTb, w.before _ s = true := fun w hw => hts0 w (List.mem_cons_of_mem _ hw)
  have hj := hgAll_mem hgJw
  have hown : s.vm.findClass RJ0 = some m.cls := findClass_of_methodNamed B.named
  have hl := lv_entry ([.ref (ad (1000 + a))]) (n := 1) (Nat.le_of_ble_eq_true rfl)
  rw [lg_entry_eq]
  generalize (lg_sl ([.ref (ad (1000 + a))]) ++ List.replicate (1 - (lg_sl ([.ref (ad (1000 + a))])).length) Slot.unset).toArray = ls at hl ⊢
  have hl : lv_has ls 1 [(0, .ref (ad (1000 + a)))] := hl
  obtain ⟨av, t1, t2, t3, t4⟩ := hst.2.2.1 a ha
  refine va_gets hx hb hst.2.2.2.2.1 va_S.rf hown (hts _ (hj (.fieldLink RJ0 38 RJ0 "COMPACT_STRINGS" "Z") (by simp))) (fun _ h => h) (show decode cJ0_isLatin1_aae02 0 = .ok (.getstatic 38, 3) by decide +kernel) ?_
  refine lv_if_eq (tgt := 17) hx hb (show decode cJ0_isLatin1_aae02 3 = .ok (.ifCond .eq 14, 3) by decide +kernel) (by decide) (fun g => absurd g (by decide)) (fun _ => ?_)
  refine lv_aload_n hx hb (show decode cJ0_isLatin1_aae02 6 = .ok (.aload_n 0, 1) by decide +kernel) rfl (lv_at hl 0 rfl) ?_
  refine vk_getf hx hb t2 va_S.rf hown (hts _ (hj (.fieldLink RJ0 15 RJ0 "coder" "B") (by simp))) (fun _ h => h) (show decode cJ0_isLatin1_aae02 7 = .ok (.getfield 15, 3) by decide +kernel) ?_
  refine lv_if_ne (tgt := 17) hx hb (show decode cJ0_isLatin1_aae02 10 = .ok (.ifCond .ne 7, 3) by decide +kernel) (by decide) (fun g => absurd rfl g) (fun _ => ?_)
  refine lv_iconst (v := 1) hx hb (show decode cJ0_isLatin1_aae02 13 = .ok (.iconst 1, 1) by decide +kernel) (by decide) ?_
  refine lv_goto (tgt := 18) hx hb (show decode cJ0_isLatin1_aae02 14 = .ok (.goto 4, 3) by decide +kernel) (by decide) ?_
  exact W.zret (v := 1) (ty := .boolean) hx hb hr (by decide) (fun t ht _ => ⟨rfl, ht⟩) (fun q h => by cases h) (show decode cJ0_isLatin1_aae02 18 = .ok (.ireturn, 1) by decide +kernel)
set_option maxHeartbeats 4000000 in
set_option maxRecDepth 100000 in
theorem cj_len (a : Nat) (ha : a < 12) : Met l yJ0_length_8abf5 (Cond.code yJ0_length_8abf5 cJ0_length_8abf5 1 (some .int) :: hgTb) (k2_rm 2 80) (hgPj B0 X ad [.ref (ad (1000 + a))]) (QcRead (nI (hgStr.getD a []).length)) 0 0 (fun _ => False) := by
  refine Met.ofW (cc := cJ0_length_8abf5) (maxL := 1) (ret := some .int) (by decide) rfl ?_
  intro p e s m args below meth c s₁ B hml hv
  obtain ⟨rfl, hst⟩ := hv
  have hst : hgStat B0 X ad s s.heap := hst
  have hx := B.exec
  have hb := B.bytes
  have hr := B.returns
  have hlocks := B.notSynchronized
  have hts0 := atoms_spec (ws := Cond.code yJ0_length_8abf5 cJ0_length_8abf5 1 (some .int) :: hgTb) B.pre
  have hts : ∀ w ∈ hgTb, w.before _ s = true := fun w hw => hts0 w (List.mem_cons_of_mem _ hw)
  have hj := hgAll_mem hgJw
  have hown : s.vm.findClass RJ0 = some m.cls := findClass_of_methodNamed B.named
  have hl := lv_entry ([.ref (ad (1000 + a))]) (n := 1) (Nat.le_of_ble_eq_true rfl)
  rw [lg_entry_eq]
  generalize (lg_sl ([.ref (ad (1000 + a))]) ++ List.replicate (1 - (lg_sl ([.ref (ad (1000 + a))])).length) Slot.unset).toArray = ls at hl ⊢
  have hl : lv_has ls 1 [(0, .ref (ad (1000 + a)))] := hl
  obtain ⟨av, t1, t2, t3, t4⟩ := hst.2.2.1 a ha
  have hrec : ∃ cell : Cell, s.heap[ad (1000 + a)]? = some cell ∧ cell.vm.isStatics = false ∧ s.vm.findClass RJ0 = some cell.cls := by
    obtain ⟨cell, q1, q2, q3, -⟩ := t1
    exact ⟨cell, q1, q2, q3⟩
  refine lv_aload_n hx hb (show decode cJ0_length_8abf5 0 = .ok (.aload_n 0, 1) by decide +kernel) rfl (lv_at hl 0 rfl) ?_
  refine vk_getf hx hb t3 va_S.rf hown (hts _ (hj (.fieldLink RJ0 9 RJ0 "value" "[B") (by simp))) (fun _ h => h) (show decode cJ0_length_8abf5 1 = .ok (.getfield 9, 3) by decide +kernel) ?_
  refine va_tlen hx hb t4 va_S.rf rfl (show decode cJ0_length_8abf5 4 = .ok (.arraylength, 1) by decide +kernel) ?_
  refine lv_aload_n hx hb (show decode cJ0_length_8abf5 5 = .ok (.aload_n 0, 1) by decide +kernel) rfl (lv_at hl 0 rfl) ?_
  refine W.callR (W.runV (cc := cJ0_length_8abf5) (nL := 1) (Ts := hgTb) (own := RJ0) (C := RJ0) (b := ad (1000 + a)) (As := []) (rest := [.int (Int32.ofNat (hgStr.getD a []).length)]) ⟨hx, hb, hml, hown, hts⟩ (cj_cod a ha) ⟨hgJb hts (hj _ (by simp)) (hj (.initialized RJ0) (by simp)) (hj (.methodLink RJ0 335 yJ0_coder_7d493) (by simp)) ⟨by decide, by decide⟩ (hgSig (a := 0) (by decide +kernel)) (by decide) (by decide), hts _ (hj _ (by simp)), hts _ (hj _ (by simp))⟩ ⟨hgPj_blind, hrec, fun U hU hW => hgPj_of hst hU hW⟩ rfl rfl hl.1 rfl (lv_room (Nat.le_of_ble_eq_true rfl)) (show decode cJ0_length_8abf5 6 = .ok (.invokevirtual 335, 3) by decide +kernel) ⟨Nat.le_refl _, Nat.le_refl _⟩) ?_
  refine lv_ishr hx hb (show decode cJ0_length_8abf5 9 = .ok (.ishr, 1) by decide +kernel) ?_
  have e9 : Int32.ofNat (hgStr.getD a []).length >>> ((0 : Int32) &&& 31) = nI (hgStr.getD a []).length := sb_shr0 _
  rw [e9]
  exact W.iret (v := nI (hgStr.getD a []).length) hx hb hr (fun t ht _ => ⟨rfl, ht⟩) (fun q h => by cases h) (show decode cJ0_length_8abf5 10 = .ok (.ireturn, 1) by decide +kernel)
set_option maxHeartbeats 4000000 in
set_option maxRecDepth 100000 in
theorem cj_l1 (a av : Nat) (i : Int32) (ha : a < 12) (hi : hgIn i (hgStr.getD a []).length = true) : Met l yJ1_charAt_3b067 (Cond.code yJ1_charAt_3b067 cJ1_charAt_3b067 2 (some .char) :: hgTb) (k2_rm 3 120) (va_Pc [.ref av, .int i] (fun U => hgStat B0 X ad U U.heap ∧ va_T .byte av (hgStr.getD a []).length (fun j => .int (nI ((hgStr.getD a []).getD j 0))) (hgA B0) U U.heap)) (QcRead (nI ((hgStr.getD a []).getD i.toNatClampNeg 0))) 0 0 (fun _ => False) := by
  refine Met.ofW (cc := cJ1_charAt_3b067) (maxL := 2) (ret := some .char) (by decide) rfl ?_
  intro p e s m args below meth c s₁ B hml hv
  obtain ⟨rfl, hst, t4⟩ := hv
  have hx := B.exec
  have hb := B.bytes
  have hr := B.returns
  have hlocks := B.notSynchronized
  have hts0 := atoms_spec (ws := Cond.code yJ1_charAt_3b067 cJ1_charAt_3b067 2 (some .char) :: hgTb) B.pre
  have hts : ∀ w ∈ hgTb, w.before _ s = true := fun w hw => hts0 w (List.mem_cons_of_mem _ hw)
  have hj := hgAll_mem hgJw
  have hown : s.vm.findClass RJ1 = some m.cls := findClass_of_methodNamed B.named
  have hl := lv_entry ([.ref av, .int i]) (n := 2) (Nat.le_of_ble_eq_true rfl)
  rw [lg_entry_eq]
  generalize (lg_sl ([.ref av, .int i]) ++ List.replicate (2 - (lg_sl ([.ref av, .int i])).length) Slot.unset).toArray = ls at hl ⊢
  have hl : lv_has ls 2 [(0, .ref av), (1, .int i)] := hl
  have hlt : (hgStr.getD a []).length < 2 ^ 31 := hgStr_len a
  have hin := hgIn_vp hi
  obtain ⟨j, hj1, hj2⟩ := vp_in_of hin hlt
  have h0 : ¬ i < 0 := fun z => hin (Or.inl z)
  have h1 : i < Int32.ofNat (hgStr.getD a []).length := by rw [hj2]; exact nI_lt hj1 hlt
  refine lv_iload_n hx hb (show decode cJ1_charAt_3b067 0 = .ok (.iload_n 1, 1) by decide +kernel) rfl (lv_at hl 1 rfl) ?_
  refine lv_aload_n hx hb (show decode cJ1_charAt_3b067 1 = .ok (.aload_n 0, 1) by decide +kernel) rfl (lv_at hl 0 rfl) ?_
  refine va_tlen hx hb t4 va_S.rf rfl (show decode cJ1_charAt_3b067 2 = .ok (.arraylength, 1) by decide +kernel) ?_
  refine hg_callQ (W.runS (cc := cJ1_charAt_3b067) (nL := 2) (Ts := hgTb) (own := RJ1) (As := [.int i, .int (Int32.ofNat (hgStr.getD a []).length)]) (rest := []) ⟨hx, hb, hml, hown, hts⟩ (cj_chk (B0 := B0) (X := X) (ad := ad) i _ h0 h1) ⟨hgJb hts (hj _ (by simp)) (hj (.initialized RJ0) (by simp)) (hj (.methodLink RJ1 9 yJ0_checkIndex_df160) (by simp)) ⟨by decide, by decide⟩ (hgSig (a := 2) (by decide +kernel)) (by decide) (by decide), hts _ (hj _ (by simp))⟩ ⟨hgPj_blind, fun U hU hW => hgPj_of hst hU hW⟩ rfl rfl hl.1 rfl (lv_room (Nat.le_of_ble_eq_true rfl)) (show decode cJ1_charAt_3b067 3 = .ok (.invokestatic 9, 3) by decide +kernel) ⟨Nat.le_refl _, Nat.le_refl _⟩) ?_
  refine lv_aload_n hx hb (show decode cJ1_charAt_3b067 6 = .ok (.aload_n 0, 1) by decide +kernel) rfl (lv_at hl 0 rfl) ?_
  refine lv_iload_n hx hb (show decode cJ1_charAt_3b067 7 = .ok (.iload_n 1, 1) by decide +kernel) rfl (lv_at hl 1 rfl) ?_
  refine va_tb hx hb t4 va_S.rf hin rfl (show decode cJ1_charAt_3b067 8 = .ok (.baload, 1) by decide +kernel) ?_
  refine lv_sipush (v := 255) hx hb (show decode cJ1_charAt_3b067 9 = .ok (.sipush 255, 3) by decide +kernel) (by decide) ?_
  refine lv_iand hx hb (show decode cJ1_charAt_3b067 12 = .ok (.iand, 1) by decide +kernel) ?_
  obtain ⟨b1, b2⟩ := hgByte _ (hgStr_lt a i.toNatClampNeg)
  refine lv_i2c hx hb (show decode cJ1_charAt_3b067 13 = .ok (.i2c, 1) by decide +kernel) b1 ?_
  exact W.zret (v := nI ((hgStr.getD a []).getD i.toNatClampNeg 0)) (ty := .char) hx hb hr b2 (fun t ht _ => ⟨rfl, ht⟩) (fun q h => by cases h) (show decode cJ1_charAt_3b067 14 = .ok (.ireturn, 1) by decide +kernel)
set_option maxHeartbeats 4000000 in
set_option maxRecDepth 100000 in
theorem cj_chr (a : Nat) (i : Int32) (ha : a < 12) (hi : hgIn i (hgStr.getD a []).length = true) : Met l yJ0_charAt_5068e (Cond.code yJ0_charAt_5068e cJ0_charAt_5068e 2 (some .char) :: hgTb) (k2_rm 4 160) (hgPj B0 X ad [.ref (ad (1000 + a)), .int i]) (QcRead (nI ((hgStr.getD a []).getD i.toNatClampNeg 0))) 0 0 (fun _ => False) := by
  refine Met.ofW (cc := cJ0_charAt_5068e) (maxL := 2) (ret := some .char) (by decide) rfl ?_
  intro p e s m args below meth c s₁ B hml hv
  obtain ⟨rfl, hst⟩ := hv
  have hst : hgStat B0 X ad s s.heap := hst
  have hx := B.exec
  have hb := B.bytes
  have hr := B.returns
  have hlocks := B.notSynchronized
  have hts0 := atoms_spec (ws := Cond.code yJ0_charAt_5068e cJ0_charAt_5068e 2 (some .char) :: hgTb) B.pre
  have hts : ∀ w ∈ hgTb, w.before _ s = true := fun w hw => hts0 w (List.mem_cons_of_mem _ hw)
  have hj := hgAll_mem hgJw
  have hown : s.vm.findClass RJ0 = some m.cls := findClass_of_methodNamed B.named
  have hl := lv_entry ([.ref (ad (1000 + a)), .int i]) (n := 2) (Nat.le_of_ble_eq_true rfl)
  rw [lg_entry_eq]
  generalize (lg_sl ([.ref (ad (1000 + a)), .int i]) ++ List.replicate (2 - (lg_sl ([.ref (ad (1000 + a)), .int i])).length) Slot.unset).toArray = ls at hl ⊢
  have hl : lv_has ls 2 [(0, .ref (ad (1000 + a))), (1, .int i)] := hl
  obtain ⟨av, t1, t2, t3, t4⟩ := hst.2.2.1 a ha
  have hrec : ∃ cell : Cell, s.heap[ad (1000 + a)]? = some cell ∧ cell.vm.isStatics = false ∧ s.vm.findClass RJ0 = some cell.cls := by
    obtain ⟨cell, q1, q2, q3, -⟩ := t1
    exact ⟨cell, q1, q2, q3⟩
  refine lv_aload_n hx hb (show decode cJ0_charAt_5068e 0 = .ok (.aload_n 0, 1) by decide +kernel) rfl (lv_at hl 0 rfl) ?_
  refine W.callR (W.runV (cc := cJ0_charAt_5068e) (nL := 2) (Ts := hgTb) (own := RJ0) (C := RJ0) (b := ad (1000 + a)) (As := []) (rest := []) ⟨hx, hb, hml, hown, hts⟩ (cj_lat a ha) ⟨hgJb hts (hj _ (by simp)) (hj (.initialized RJ0) (by simp)) (hj (.methodLink RJ0 492 yJ0_isLatin1_aae02) (by simp)) ⟨by decide, by decide⟩ (hgSig (a := 0) (by decide +kernel)) (by decide) (by decide), hts _ (hj _ (by simp)), hts _ (hj _ (by simp))⟩ ⟨hgPj_blind, hrec, fun U hU hW => hgPj_of hst hU hW⟩ rfl rfl hl.1 rfl (lv_room (Nat.le_of_ble_eq_true rfl)) (show decode cJ0_charAt_5068e 1 = .ok (.invokevirtual 492, 3) by decide +kernel) ⟨Nat.le_refl _, Nat.le_refl _⟩) ?_
  refine W.eq (g2 := F0 m 4 ls [.int 1]) rfl ?_
  refine lv_if_eq (tgt := 16) hx hb (show decode cJ0_charAt_5068e 4 = .ok (.ifCond .eq 12, 3) by decide +kernel) (by decide) (fun g => absurd g (by decide)) (fun _ => ?_)
  refine lv_aload_n hx hb (show decode cJ0_charAt_5068e 7 = .ok (.aload_n 0, 1) by decide +kernel) rfl (lv_at hl 0 rfl) ?_
  refine vk_getf hx hb t3 va_S.rf hown (hts _ (hj (.fieldLink RJ0 9 RJ0 "value" "[B") (by simp))) (fun _ h => h) (show decode cJ0_charAt_5068e 8 = .ok (.getfield 9, 3) by decide +kernel) ?_
  refine lv_iload_n hx hb (show decode cJ0_charAt_5068e 11 = .ok (.iload_n 1, 1) by decide +kernel) rfl (lv_at hl 1 rfl) ?_
  refine W.callR (W.runS (cc := cJ0_charAt_5068e) (nL := 2) (Ts := hgTb) (own := RJ0) (As := [.ref av, .int i]) (rest := []) ⟨hx, hb, hml, hown, hts⟩ (cj_l1 (B0 := B0) (X := X) (ad := ad) a av i ha hi) ⟨hgJb hts (hj _ (by simp)) (hj (.initialized RJ1) (by simp)) (hj (.methodLink RJ0 495 yJ1_charAt_3b067) (by simp)) ⟨by decide, by decide⟩ (hgSig (a := 2) (by decide +kernel)) (by decide) (by decide), hts _ (hj _ (by simp))⟩ ⟨fun b U g mk h => ⟨h.1, hgStat.warm (s := U) (U := U.calling g mk b) (State.WarmedH.refl U) h.2.1, va_T.moved (u := U) (U := U.calling g mk b) (Vm.Alike.refl U.vm) h.2.2⟩, fun U hU hW => ⟨rfl, (hgPj_of (av := []) hst hU hW).2, by rw [hU]; exact va_T.moved hW.alike t4⟩⟩ rfl rfl hl.1 rfl (lv_room (Nat.le_of_ble_eq_true rfl)) (show decode cJ0_charAt_5068e 12 = .ok (.invokestatic 495, 3) by decide +kernel) ⟨Nat.le_refl _, Nat.le_refl _⟩) ?_
  exact W.zret (v := nI ((hgStr.getD a []).getD i.toNatClampNeg 0)) (ty := .char) hx hb hr (hgByte _ (hgStr_lt a i.toNatClampNeg)).2 (fun t ht _ => ⟨rfl, ht⟩) (fun q h => by cases h) (show decode cJ0_charAt_5068e 15 = .ok (.ireturn, 1) by decide +kernel)
theorem hgPj_at {av : List Value} {s U : State} {H : Heap} (h : hgStat B0 X ad s H) (hU : U.heap = H) (hW : s.WarmedH U.vm) : hgPj B0 X ad av av.toArray U := ⟨rfl, by show hgStat B0 X ad U U.heap; rw [hU]; exact h.warm hW⟩
set_option maxHeartbeats 4000000 in
set_option maxRecDepth 100000 in
theorem hg_lenOk : hgLenOk l := by
  intro p e R s m args below meth c Q q B0 N0 D cy X ad0 ad L S r K M H locs ls pc idx w a hC hn hw hf hl hc hs hr4 hd ha kk
  obtain ⟨hx, hb, hml, hown, hts, -, hK, hst, -⟩ := hC
  have hj := hgAll_mem hgJw
  have hst9 : hgStat B0 X ad s H := (hst.kept hn.2.2.1.2.1).ext hn.2.2.2.2.2.2.2.2
  have hrec : ∃ cell : Cell, H[ad (1000 + a)]? = some cell ∧ cell.vm.isStatics = false ∧ s.vm.findClass RJ0 = some cell.cls := by
    obtain ⟨av, t1, -⟩ := hst9.2.2.1 a ha
    obtain ⟨cell, q1, q2, q3, -⟩ := t1
    exact ⟨cell, q1, q2, q3⟩
  have hcat := hgCat ad r
  exact W.callR (W.runV (cc := hgCode q) (nL := hgMl q) (Ts := hgTb) (own := hgOwn q) (C := RJ0) (b := ad (1000 + a)) (As := []) (rest := r.map (hgPh ad)) ⟨hx, hb, hml, hown, hts⟩ (cj_len (B0 := B0) (X := X) (ad := ad) a ha) ⟨hgJb hts (hj _ (by simp)) (hj (.initialized RJ0) (by simp)) (hgTb_of hw rfl) ⟨by decide, by decide⟩ (hgSig (a := 0) (by decide +kernel)) hf (by omega), hts _ (hj _ (by simp)), hts _ (hj _ (by simp))⟩ ⟨hgPj_blind, hrec, fun U hU hW => hgPj_at hst9 hU hW⟩ rfl rfl hn.2.2.2.1.1 rfl (lv_room (by omega)) hd ⟨hc, hs⟩) kk
set_option maxHeartbeats 4000000 in
set_option maxRecDepth 100000 in
theorem hg_chrOk : hgChrOk l := by
  intro p e R s m args below meth c Q q B0 N0 D cy X ad0 ad L S r K M H locs ls pc idx w a i hC hn hw hf hl hc hs hr4 hd ha hi kk
  obtain ⟨hx, hb, hml, hown, hts, -, hK, hst, -⟩ := hC
  have hj := hgAll_mem hgJw
  have hst9 : hgStat B0 X ad s H := (hst.kept hn.2.2.1.2.1).ext hn.2.2.2.2.2.2.2.2
  have hrec : ∃ cell : Cell, H[ad (1000 + a)]? = some cell ∧ cell.vm.isStatics = false ∧ s.vm.findClass RJ0 = some cell.cls := by
    obtain ⟨av, t1, -⟩ := hst9.2.2.1 a ha
    obtain ⟨cell, q1, q2, q3, -⟩ := t1
    exact ⟨cell, q1, q2, q3⟩
  have hcat := hgCat ad r
  exact W.callR (W.runV (cc := hgCode q) (nL := hgMl q) (Ts := hgTb) (own := hgOwn q) (C := RJ0) (b := ad (1000 + a)) (As := [.int i]) (rest := r.map (hgPh ad)) ⟨hx, hb, hml, hown, hts⟩ (cj_chr (B0 := B0) (X := X) (ad := ad) a i ha hi) ⟨hgJb hts (hj _ (by simp)) (hj (.initialized RJ0) (by simp)) (hgTb_of hw rfl) ⟨by decide, by decide⟩ (hgSig (a := 1) (by decide +kernel)) (by omega) (by omega), hts _ (hj _ (by simp)), hts _ (hj _ (by simp))⟩ ⟨hgPj_blind, hrec, fun U hU hW => hgPj_at hst9 hU hW⟩ rfl rfl hn.2.2.2.1.1 rfl (lv_room (by omega)) hd ⟨hc, hs⟩) kk
end HGSTR
end
section
theorem hgMall : ∀ z, z < 227 → hgMfact z := by
  intro z hz
  refine hgMok_spec ?_
  rcases Nat.lt_or_ge z 8 with h | h
  · exact hg_chunk hgm_0 z (by omega) (by omega)
  rcases Nat.lt_or_ge z 16 with h | h
  · exact hg_chunk hgm_8 z (by omega) (by omega)
  rcases Nat.lt_or_ge z 24 with h | h
  · exact hg_chunk hgm_16 z (by omega) (by omega)
  rcases Nat.lt_or_ge z 32 with h | h
  · exact hg_chunk hgm_24 z (by omega) (by omega)
  rcases Nat.lt_or_ge z 40 with h | h
  · exact hg_chunk hgm_32 z (by omega) (by omega)
  rcases Nat.lt_or_ge z 48 with h | h
  · exact hg_chunk hgm_40 z (by omega) (by omega)
  rcases Nat.lt_or_ge z 56 with h | h
  · exact hg_chunk hgm_48 z (by omega) (by omega)
  rcases Nat.lt_or_ge z 64 with h | h
  · exact hg_chunk hgm_56 z (by omega) (by omega)
  rcases Nat.lt_or_ge z 72 with h | h
  · exact hg_chunk hgm_64 z (by omega) (by omega)
  rcases Nat.lt_or_ge z 80 with h | h
  · exact hg_chunk hgm_72 z (by omega) (by omega)
  rcases Nat.lt_or_ge z 88 with h | h
  · exact hg_chunk hgm_80 z (by omega) (by omega)
  rcases Nat.lt_or_ge z 96 with h | h
  · exact hg_chunk hgm_88 z (by omega) (by omega)
  rcases Nat.lt_or_ge z 104 with h | h
  · exact hg_chunk hgm_96 z (by omega) (by omega)
  rcases Nat.lt_or_ge z 112 with h | h
  · exact hg_chunk hgm_104 z (by omega) (by omega)
  rcases Nat.lt_or_ge z 120 with h | h
  · exact hg_chunk hgm_112 z (by omega) (by omega)
  rcases Nat.lt_or_ge z 128 with h | h
  · exact hg_chunk hgm_120 z (by omega) (by omega)
  rcases Nat.lt_or_ge z 136 with h | h
  · exact hg_chunk hgm_128 z (by omega) (by omega)
  rcases Nat.lt_or_ge z 144 with h | h
  · exact hg_chunk hgm_136 z (by omega) (by omega)
  rcases Nat.lt_or_ge z 152 with h | h
  · exact hg_chunk hgm_144 z (by omega) (by omega)
  rcases Nat.lt_or_ge z 160 with h | h
  · exact hg_chunk hgm_152 z (by omega) (by omega)
  rcases Nat.lt_or_ge z 168 with h | h
  · exact hg_chunk hgm_160 z (by omega) (by omega)
  rcases Nat.lt_or_ge z 176 with h | h
  · exact hg_chunk hgm_168 z (by omega) (by omega)
  rcases Nat.lt_or_ge z 184 with h | h
  · exact hg_chunk hgm_176 z (by omega) (by omega)
  rcases Nat.lt_or_ge z 192 with h | h
  · exact hg_chunk hgm_184 z (by omega) (by omega)
  rcases Nat.lt_or_ge z 200 with h | h
  · exact hg_chunk hgm_192 z (by omega) (by omega)
  rcases Nat.lt_or_ge z 208 with h | h
  · exact hg_chunk hgm_200 z (by omega) (by omega)
  rcases Nat.lt_or_ge z 216 with h | h
  · exact hg_chunk hgm_208 z (by omega) (by omega)
  rcases Nat.lt_or_ge z 224 with h | h
  · exact hg_chunk hgm_216 z (by omega) (by omega)
  exact hg_chunk hgm_224 z (by omega) (by omega)
theorem hgOall : ∀ z, z < 227 → ∀ b ∈ hgBs z, hgOkB z b.1 b.2.2 = true := by
  intro z hz
  refine List.all_eq_true.mp (show hgOkM z = true from ?_)
  rcases Nat.lt_or_ge z 8 with h | h
  · exact hg_chunk hgo_0 z (by omega) (by omega)
  rcases Nat.lt_or_ge z 16 with h | h
  · exact hg_chunk hgo_8 z (by omega) (by omega)
  rcases Nat.lt_or_ge z 24 with h | h
  · exact hg_chunk hgo_16 z (by omega) (by omega)
  rcases Nat.lt_or_ge z 32 with h | h
  · exact hg_chunk hgo_24 z (by omega) (by omega)
  rcases Nat.lt_or_ge z 40 with h | h
  · exact hg_chunk hgo_32 z (by omega) (by omega)
  rcases Nat.lt_or_ge z 48 with h | h
  · exact hg_chunk hgo_40 z (by omega) (by omega)
  rcases Nat.lt_or_ge z 56 with h | h
  · exact hg_chunk hgo_48 z (by omega) (by omega)
  rcases Nat.lt_or_ge z 64 with h | h
  · exact hg_chunk hgo_56 z (by omega) (by omega)
  rcases Nat.lt_or_ge z 72 with h | h
  · exact hg_chunk hgo_64 z (by omega) (by omega)
  rcases Nat.lt_or_ge z 80 with h | h
  · exact hg_chunk hgo_72 z (by omega) (by omega)
  rcases Nat.lt_or_ge z 88 with h | h
  · exact hg_chunk hgo_80 z (by omega) (by omega)
  rcases Nat.lt_or_ge z 96 with h | h
  · exact hg_chunk hgo_88 z (by omega) (by omega)
  rcases Nat.lt_or_ge z 104 with h | h
  · exact hg_chunk hgo_96 z (by omega) (by omega)
  rcases Nat.lt_or_ge z 112 with h | h
  · exact hg_chunk hgo_104 z (by omega) (by omega)
  rcases Nat.lt_or_ge z 120 with h | h
  · exact hg_chunk hgo_112 z (by omega) (by omega)
  rcases Nat.lt_or_ge z 128 with h | h
  · exact hg_chunk hgo_120 z (by omega) (by omega)
  rcases Nat.lt_or_ge z 136 with h | h
  · exact hg_chunk hgo_128 z (by omega) (by omega)
  rcases Nat.lt_or_ge z 144 with h | h
  · exact hg_chunk hgo_136 z (by omega) (by omega)
  rcases Nat.lt_or_ge z 152 with h | h
  · exact hg_chunk hgo_144 z (by omega) (by omega)
  rcases Nat.lt_or_ge z 160 with h | h
  · exact hg_chunk hgo_152 z (by omega) (by omega)
  rcases Nat.lt_or_ge z 168 with h | h
  · exact hg_chunk hgo_160 z (by omega) (by omega)
  rcases Nat.lt_or_ge z 176 with h | h
  · exact hg_chunk hgo_168 z (by omega) (by omega)
  rcases Nat.lt_or_ge z 184 with h | h
  · exact hg_chunk hgo_176 z (by omega) (by omega)
  rcases Nat.lt_or_ge z 192 with h | h
  · exact hg_chunk hgo_184 z (by omega) (by omega)
  rcases Nat.lt_or_ge z 200 with h | h
  · exact hg_chunk hgo_192 z (by omega) (by omega)
  rcases Nat.lt_or_ge z 208 with h | h
  · exact hg_chunk hgo_200 z (by omega) (by omega)
  rcases Nat.lt_or_ge z 216 with h | h
  · exact hg_chunk hgo_208 z (by omega) (by omega)
  rcases Nat.lt_or_ge z 224 with h | h
  · exact hg_chunk hgo_216 z (by omega) (by omega)
  exact hg_chunk hgo_224 z (by omega) (by omega)
end
section
/-! THE START: what the Statement gives at the law's entry. -/
def hgRep : List (String × Nat) := [("HomeGateway$SetupReader", 102), ("HomeGateway$SetupReader", 108), ("HomeGateway$SetupReader", 110), ("HomeGateway$SetupReader", 112), ("HomeGateway$SetupReader", 114), ("HomeGateway$SetupReader", 116), ("HomeGateway$SetupReader", 128), ("HomeGateway$SetupReader", 133), ("HomeGateway$SetupReader", 139), ("HomeGateway$SetupReader", 141), ("HomeGateway$SetupReader", 146), ("HomeGateway$SetupReader", 151)]
def hgTm (i : Nat) : Term := Term.string (hgRep.getD i ("", 0)).1 (hgRep.getD i ("", 0)).2
def hgFlat : List Cond := flatC (Jvm.Cond.and given_1 narrow_1)
def hgStrOk (i : Nat) : Bool := decide (Cond.exactly (hgTm i) "java/lang/String" ∈ hgFlat) && decide (Cond.eq (.field (hgTm i) "java/lang/String" "coder" "B") (.int 0) ∈ hgFlat) && decide (Cond.arrayOf (.field (hgTm i) "java/lang/String" "value" "[B") .byte ∈ hgFlat) && decide (Cond.eq (.length (.field (hgTm i) "java/lang/String" "value" "[B")) (.int (Int32.ofNat (hgStr.getD i []).length)) ∈ hgFlat) && (List.range (hgStr.getD i []).length).all (fun j => decide (Cond.eq (.elem (.field (hgTm i) "java/lang/String" "value" "[B") (.int (Int32.ofNat j))) (.int (nI ((hgStr.getD i []).getD j 0))) ∈ hgFlat))
set_option maxRecDepth 100000 in
theorem hgStrAll : (List.range 12).all hgStrOk = true := by decide +kernel
/-- of each text of the tables: it is a String; one of the twelve words is the one that stands for it -/
def hgRefOk (w : Cond) : Bool := match w with
  | .stringRef own k tx => decide (Cond.exactly (.string own k) "java/lang/String" ∈ hgFlat) && (List.range 12).all (fun i => if hgTx[i]? = some tx then (decide (Term.string own k = hgTm i) || decide (Cond.eq (.string own k) (hgTm i) ∈ hgFlat) || decide (Cond.eq (hgTm i) (.string own k) ∈ hgFlat)) else true)
  | _ => true
set_option maxRecDepth 100000 in
theorem hgRefAll : tables_1.all hgRefOk = true := by decide +kernel
set_option maxRecDepth 100000 in
theorem hgStW : [Cond.laysStatic Bundle.tN "UNASSIGNED_STACK" Bundle.steD, Cond.laysStatic Bundle.tN "SUPPRESSED_SENTINEL" Bundle.listD, Cond.initialized Bundle.tN, Cond.laysStatic "java/lang/String" "COMPACT_STRINGS" "Z", Cond.initialized "java/lang/String", Cond.laysStatic "jdk/internal/util/Preconditions" "SIOOBE_FORMATTER" "Ljava/util/function/BiFunction;", Cond.initialized "jdk/internal/util/Preconditions", Cond.arrayOver (.object RX0), Cond.arrayOver (.object RX4), Cond.arrayOver (.object RX1), Cond.arrayOver (.array .int), Cond.arrayOver (.array .long), Cond.arrayClass .int, Cond.arrayClass .long, Cond.arrayClass .byte, Cond.arrayClass .boolean].all (fun w => decide (w ∈ lw_tbl)) = true := by decide +kernel
set_option maxRecDepth 100000 in
theorem hgStF : [Cond.isRef (.static Bundle.tN "UNASSIGNED_STACK" Bundle.steD), Cond.isRef (.static Bundle.tN "SUPPRESSED_SENTINEL" Bundle.listD), Cond.isRef (.static "jdk/internal/util/Preconditions" "SIOOBE_FORMATTER" "Ljava/util/function/BiFunction;"), Cond.eq (.static "java/lang/String" "COMPACT_STRINGS" "Z") (.int 1), Cond.not (.castable (hgXn 0) (hgXn 1)), Cond.not (.castable (hgXn 0) (hgXn 2)), Cond.not (.castable (hgXn 1) (hgXn 0)), Cond.not (.castable (hgXn 1) (hgXn 2)), Cond.not (.castable (hgXn 2) (hgXn 0)), Cond.not (.castable (hgXn 2) (hgXn 1))].all (fun w => decide (w ∈ hgFlat)) = true := by decide +kernel
theorem hgDec {ws big : List Cond} (h : ws.all (fun w => decide (w ∈ big)) = true) : ∀ w ∈ ws, w ∈ big := fun w hw => of_decide_eq_true (List.all_eq_true.mp h w hw)
theorem hgEqRef {args : Array Value} {s : State} {t u : Term} {a b : Nat} (h : (Cond.eq t u).before args s = true) (h1 : t.eval args s none [] s = some (.ref a)) (h2 : u.eval args s none [] s = some (.ref b)) : a = b := by
  simp [Cond.before, Cond.holds, Cond.value, h1, h2] at h
  exact h
set_option maxHeartbeats 4000000 in
set_option maxRecDepth 100000 in
theorem hg_stat0 {s : State} {b L : Nat} {xs : Nat → Int32} (hts : ∀ w ∈ lw_tbl, w.before #[Value.ref b] s = true) (hX : va_X b L xs s s.heap) (hbl : b < s.heap.size) (hgv : (Jvm.Cond.and given_1 narrow_1).before #[Value.ref b] s = true) : ∃ ad : Nat → Nat, ad 2000 = b ∧ hgStat s.heap.size (L, xs) ad s s.heap := by
  have hfl : ∀ w ∈ hgFlat, w.before #[Value.ref b] s = true := flat_of_before _ hgv
  have hA : ∀ a : Nat, a < s.heap.size → ¬ hgA s.heap.size a := fun a h1 h2 => Nat.lt_irrefl _ (Nat.lt_of_lt_of_le h1 h2)
  have hw := hgDec hgStW
  have hf := hgDec hgStF
  have h0 : ∀ i : Nat, ∃ a : Nat, i < 12 → (hgTm i).eval #[Value.ref b] s none [] s = some (.ref a) ∧ ∃ av : Nat, va_O "java/lang/String" a (hgA s.heap.size) s s.heap ∧ va_OF "java/lang/String" "coder" "B" (.int 0) a (hgA s.heap.size) s s.heap ∧ va_OF "java/lang/String" "value" "[B" (.ref av) a (hgA s.heap.size) s s.heap ∧ va_T .byte av (hgStr.getD i []).length (fun j => .int (nI ((hgStr.getD i []).getD j 0))) (hgA s.heap.size) s s.heap := by
    intro i
    by_cases hi : i < 12
    · have hok := List.all_eq_true.mp hgStrAll i (List.mem_range.mpr hi)
      unfold hgStrOk at hok
      simp only [Bool.and_eq_true, decide_eq_true_eq] at hok
      obtain ⟨⟨⟨⟨a1, a2⟩, a3⟩, a4⟩, a5⟩ := hok
      obtain ⟨a, c, cA, kA, q1, q2, q3, q4, q5, q6, -⟩ := Cond.exactly_spec (args := #[Value.ref b]) (first := s) (o := none) (s := s) (idx := []) (t := hgTm i) (cls := "java/lang/String") (hfl _ a1)
      obtain ⟨t, ht, hT⟩ := va_Tof (f := fun j => .int (nI ((hgStr.getD i []).getD j 0))) (A := hgA s.heap.size) (hgStr_len i) (hfl _ a3) (va_eqt (hfl _ a4)) (fun j hj => va_eqt (hfl _ (of_decide_eq_true (List.all_eq_true.mp a5 j (List.mem_range.mpr hj))))) hA
      exact ⟨a, fun _ => ⟨q1, t, ⟨cA, q3, q5, by rw [q6]; exact q2, hA a (Array.getElem?_eq_some_iff.mp q3).1⟩, vk_OFof q1 (va_eqt (hfl _ a2)) hA, vk_OFof q1 ht hA, hT⟩⟩
    · exact ⟨0, fun h => absurd h hi⟩
  have hch : ∀ i, i < 12 → (hgTm i).eval #[Value.ref b] s none [] s = some (.ref (Classical.choose (h0 i))) ∧ _ := fun i hi => Classical.choose_spec (h0 i) hi
  refine ⟨fun n => if n = 2000 then b else Classical.choose (h0 (n - 1000)), if_pos rfl, ?_⟩
  have ead : ∀ i, i < 12 → (if 1000 + i = 2000 then b else Classical.choose (h0 (1000 + i - 1000))) = Classical.choose (h0 i) := fun i hi => by
    rw [if_neg (by omega), show 1000 + i - 1000 = i by omega]
  refine ⟨vx_Zqof (hts _ (hw _ (by simp))) (hts _ (hw _ (by simp))) (hfl _ (hf _ (by simp))) hA, vx_Zqof (hts _ (hw _ (by simp))) (hts _ (hw _ (by simp))) (hfl _ (hf _ (by simp))) hA, fun i hi => ?_, ⟨fun own k tx hm => ?_, va_AO.of (hts _ (hw (.arrayOver (.object RX0)) (by simp))), va_AO.of (hts _ (hw (.arrayOver (.object RX4)) (by simp))), va_AO.of (hts _ (hw (.arrayOver (.object RX1)) (by simp))), hts _ (hw (.arrayOver (.array .int)) (by simp)), hts _ (hw (.arrayOver (.array .long)) (by simp)), ?_, fun w h1 h2 => va_Nw.of (hgDc_on h2) (hts w h1)⟩, va_Zof (hts _ (hw _ (by simp))) (hts _ (hw _ (by simp))) (va_eqt (hfl _ (hf _ (by simp)))) hA, va_Zqof (hts _ (hw _ (by simp))) (hts _ (hw _ (by simp))) (hfl _ (hf _ (by simp))) hA, ?_, ?_⟩
  · obtain ⟨g1, av, g2⟩ := hch i hi
    refine ⟨av, ?_⟩
    show va_O "java/lang/String" (if 1000 + i = 2000 then b else Classical.choose (h0 (1000 + i - 1000))) _ _ _ ∧ va_OF "java/lang/String" "coder" "B" (.int 0) (if 1000 + i = 2000 then b else Classical.choose (h0 (1000 + i - 1000))) _ _ _ ∧ va_OF "java/lang/String" "value" "[B" (.ref av) (if 1000 + i = 2000 then b else Classical.choose (h0 (1000 + i - 1000))) _ _ _ ∧ _
    rw [ead i hi]
    exact g2
  · have hok := List.all_eq_true.mp hgRefAll _ hm
    have hok : (decide (Cond.exactly (.string own k) "java/lang/String" ∈ hgFlat) && (List.range 12).all (fun i => if hgTx[i]? = some tx then (decide (Term.string own k = hgTm i) || decide (Cond.eq (.string own k) (hgTm i) ∈ hgFlat) || decide (Cond.eq (hgTm i) (.string own k) ∈ hgFlat)) else true)) = true := hok
    rw [Bool.and_eq_true, decide_eq_true_eq] at hok
    obtain ⟨a, c, cA, kA, q1, -⟩ := Cond.exactly_spec (args := #[Value.ref b]) (first := s) (o := none) (s := s) (idx := []) (t := .string own k) (cls := "java/lang/String") (hfl _ hok.1)
    refine ⟨a, vk_R.of (hts _ (List.mem_append_right _ hm)) q1, fun i hi => ?_⟩
    have hi12 : i < 12 := (List.getElem?_eq_some_iff.mp hi).1
    have := List.all_eq_true.mp hok.2 i (List.mem_range.mpr hi12)
    rw [if_pos hi] at this
    show a = (if 1000 + i = 2000 then b else Classical.choose (h0 (1000 + i - 1000)))
    rw [ead i hi12]
    simp only [Bool.or_eq_true, decide_eq_true_eq] at this
    have ev := (hch i hi12).1
    rcases this with (h | h) | h
    · rw [h, ev] at q1
      cases q1
      rfl
    · exact hgEqRef (hfl _ h) q1 ev
    · exact (hgEqRef (hfl _ h) ev q1).symm
  · intro E1 E2 h1 h2 h3
    have : (E1 = 0 ∧ E2 = 1) ∨ (E1 = 0 ∧ E2 = 2) ∨ (E1 = 1 ∧ E2 = 0) ∨ (E1 = 1 ∧ E2 = 2) ∨ (E1 = 2 ∧ E2 = 0) ∨ (E1 = 2 ∧ E2 = 1) := by omega
    rcases this with ⟨rfl, rfl⟩ | ⟨rfl, rfl⟩ | ⟨rfl, rfl⟩ | ⟨rfl, rfl⟩ | ⟨rfl, rfl⟩ | ⟨rfl, rfl⟩ <;> exact va_Nc.of (hfl _ (hf _ (by simp)))
  · show va_X (if 2000 = 2000 then b else _) L xs s s.heap
    rw [if_pos rfl]
    exact hX
  · show (if 2000 = 2000 then b else _) < s.heap.size
    rw [if_pos rfl]
    exact hbl
theorem hg_arr1 {args : Array Value} {s : State} {t : FieldType} (h : (Cond.arrayClass t).before args s = true) (ho : ∀ C, t ≠ .object C) : ∃ c : ClassId, ArrOfT s c t ∧ va_RA s c t := by
  obtain ⟨c, k, comp, h1, h2, h3⟩ := Cond.arrayClass_spec h
  refine ⟨c, fun N z => ⟨fun q hq => by cases hq, k, h2, comp, h3⟩, ?_⟩
  cases t <;> first | exact h1 | exact absurd rfl (ho _)
theorem hg_arr2 {s : State} {C : String} (h : va_AO C s) : ∃ c : ClassId, ArrOfT s c (.object C) ∧ va_RA s c (.object C) := by
  obtain ⟨comp, c, k, h1, h2, h3, h4, h5⟩ := Cond.arrayOver_spec h
  exact ⟨c, fun N z => ⟨fun q hq => by cases hq, k, h3, comp, h4⟩, k, comp, h3, h4, h1, h5⟩
theorem hg_arr3 {s : State} {t : FieldType} (h : va_AOA t s) : ∃ c : ClassId, ArrOfT s c (.array t) ∧ va_RA s c (.array t) := by
  obtain ⟨comp, c, k, h1, h2, h3, h4, h5⟩ := arrayOverA_spec h
  exact ⟨c, fun N z => ⟨fun q hq => by cases hq, k, h3, comp, h4⟩, h5⟩
set_option maxHeartbeats 4000000 in
set_option maxRecDepth 100000 in
theorem hg_tab0 {s : State} {args : Array Value} (hts : ∀ w ∈ lw_tbl, w.before args s = true) (hao : hgAov s) : ∃ (D : va_G) (cy : Nat → ClassId), va_K D vwCl (hgTys cy) s := by
  have hts2 : ∀ w ∈ hgTb, w.before args s = true := fun w hw => hts w (List.mem_filter.mp hw).1
  have h1 : ∀ ci : Nat, ∃ q : ClassId × (Nat → Nat), ∀ v, vwCl[ci]? = some v → u_Kn s v.1 v.2.1 v.2.2 q.1 q.2 := by
    intro ci
    cases h : vwCl[ci]? with
    | none => exact ⟨(0, fun _ => 0), fun v hv => by cases hv⟩
    | some v =>
      obtain ⟨C, T, N⟩ := v
      obtain ⟨g1, -, -, -, -, g6, -⟩ := hgCls h
      obtain ⟨cC, iS, hk⟩ := u_known (C := C) (T := T) (N := N) (n := N) hts2 g1 (hts2 _ g6)
      exact ⟨(cC, iS), fun v hv => by cases hv; exact hk⟩
  have hw := hgDec hgStW
  obtain ⟨c20, h20⟩ := hg_arr1 (hts (.arrayClass .int) (hw _ (by simp))) (fun C h => by cases h)
  obtain ⟨c21, h21⟩ := hg_arr1 (hts (.arrayClass .long) (hw _ (by simp))) (fun C h => by cases h)
  obtain ⟨c22, h22⟩ := hg_arr1 (hts (.arrayClass .byte) (hw _ (by simp))) (fun C h => by cases h)
  obtain ⟨c23, h23⟩ := hg_arr1 (hts (.arrayClass .boolean) (hw _ (by simp))) (fun C h => by cases h)
  obtain ⟨c24, h24⟩ := hg_arr2 hao.1
  obtain ⟨c25, h25⟩ := hg_arr2 hao.2.1
  obtain ⟨c26, h26⟩ := hg_arr2 hao.2.2.1
  obtain ⟨c27, h27⟩ := hg_arr3 hao.2.2.2.1
  obtain ⟨c28, h28⟩ := hg_arr3 hao.2.2.2.2.1
  refine ⟨(fun ci => (Classical.choose (h1 ci)).1, fun ci => (Classical.choose (h1 ci)).2), fun k => if k = 20 then c20 else if k = 21 then c21 else if k = 22 then c22 else if k = 23 then c23 else if k = 24 then c24 else if k = 25 then c25 else if k = 26 then c26 else if k = 27 then c27 else c28, fun ci v hv => Classical.choose_spec (h1 ci) v hv, fun k q hk => ?_⟩
  match k, hk with
  | 0, hk => cases hk; exact h20
  | 1, hk => cases hk; exact h21
  | 2, hk => cases hk; exact h22
  | 3, hk => cases hk; exact h23
  | 4, hk => cases hk; exact h24
  | 5, hk => cases hk; exact h25
  | 6, hk => cases hk; exact h26
  | 7, hk => cases hk; exact h27
  | 8, hk => cases hk; exact h28
  | k + 9, hk => simp [hgTys] at hk
end
section
/-! THE MACHINE WITHOUT FUEL: hgW is what the machine answers with fuel enough; it keeps the machine's equation. -/
theorem hgEv {f g : Nat → Option hgOut} {o : hgOut} (h : ∃ n, ∀ t, n ≤ t → f t = some o) (e : ∀ t, g t = f t) : ∃ n, ∀ t, n ≤ t → g t = some o := by
  obtain ⟨n, hn⟩ := h
  exact ⟨n, fun t ht => (e t).trans (hn t ht)⟩
theorem hgget_c {M : hgMem} {a ci k kd : Nat} {f : Value → Option hgOut} {o : hgOut} (h : hgget M a ci k kd f = some o) : ∃ v, f v = some o ∧ ∀ g : Value → Option hgOut, hgget M a ci k kd g = g v := by
  unfold hgget at h
  split at h
  · next hc =>
    split at h
    · exact ⟨_, h, fun g => by unfold hgget; rw [if_pos hc]⟩
    · split at h
      · next r hr => exact ⟨_, h, fun g => by unfold hgget; rw [if_pos hc]; dsimp only; rw [hr]⟩
      · cases h
    · next h1 h2 =>
      refine ⟨_, h, fun g => ?_⟩
      unfold hgget
      rw [if_pos hc]
      split
      · exact absurd rfl h1
      · exact absurd rfl h2
      · rfl
  · cases h
theorem hgput_c {M : hgMem} {S : List Value} {ci k kd : Nat} {f : List Value → hgMem → Option hgOut} {o : hgOut} (h : hgput M S ci k kd f = some o) : ∃ r M1, f r M1 = some o ∧ ∀ g : List Value → hgMem → Option hgOut, hgput M S ci k kd g = g r M1 := by
  unfold hgput at h
  split at h
  · split at h
    · next hc => exact ⟨_, _, h, fun g => by unfold hgput; exact if_pos hc⟩
    · cases h
  · split at h
    · next hc => exact ⟨_, _, h, fun g => by unfold hgput; exact if_pos hc⟩
    · cases h
  · split at h
    · next hc => exact ⟨_, _, h, fun g => by unfold hgput; exact if_pos hc⟩
    · cases h
  · split at h
    · next hc => exact ⟨_, _, h, fun g => by unfold hgput; exact if_pos hc⟩
    · cases h
  · cases h
theorem hgPrim_c {p : Nat} {S : List Value} {M : hgMem} {f : List Value → Option hgOut} {o : hgOut} (h : hgPrim p S M f = some o) : ∃ r, f r = some o ∧ ∀ g : List Value → Option hgOut, hgPrim p S M g = g r := by
  unfold hgPrim at h
  split at h
  · exact ⟨_, h, fun g => rfl⟩
  · exact ⟨_, h, fun g => rfl⟩
  · exact ⟨_, h, fun g => rfl⟩
  · split at h
    · next hc => exact ⟨_, h, fun g => by unfold hgPrim; exact if_pos hc⟩
    · cases h
  · split at h
    · next hc => exact ⟨_, h, fun g => by unfold hgPrim; exact if_pos hc⟩
    · cases h
  · split at h
    · next hc => exact ⟨_, h, fun g => by unfold hgPrim; exact if_pos hc⟩
    · cases h
  · cases h
section HGOM
variable {X : hgX} {rm : hgK} {call : Nat → List Value → hgMem → Option hgOut} {jump : Nat → hgL → List Value → hgK → hgMem → Option hgOut} {c : Nat → Nat → List Value → hgMem → Option hgOut} {j : Nat → Nat → hgL → List Value → hgK → hgMem → Option hgOut} {i : Instr} {ps : List Nat} {hs : List (Nat × Nat × Nat)} {L : hgL} {S : List Value} {K : hgK} {M : hgMem} {k : hgL → List Value → hgK → hgMem → Option hgOut} {kk : Nat → hgL → List Value → hgK → hgMem → Option hgOut} {o : hgOut}
theorem hgcall_c (hc : ∀ z as M o, call z as M = some o → ∃ n, ∀ t, n ≤ t → c t z as M = some o) (hj : ∀ u L S K M o, jump u L S K M = some o → ∃ n, ∀ t, n ≤ t → j t u L S K M = some o) (hk : ∀ L S K M, k L S K M = some o → ∃ n, ∀ t, n ≤ t → kk t L S K M = some o) (h : hgcall rm call jump ps hs L S K M k = some o) : ∃ n, ∀ t, n ≤ t → hgcall rm (c t) (j t) ps hs L S K M (kk t) = some o := by
  unfold hgcall at h
  split at h
  · next p n v w mc ms ci =>
    split at h
    · next hp =>
      obtain ⟨r, h1, hg⟩ := hgPrim_c h
      dsimp only at h1
      split at h1
      · next hr => exact hgEv (hk _ _ _ _ h1) (fun t => by unfold hgcall; dsimp only; rw [if_pos hp, hg, if_pos hr])
      · cases h1
    · next hp =>
      split at h
      · cases h
      · next as r ht =>
        split at h
        · next hcd =>
          split at h
          · cases h
          · next x M1 ho =>
            obtain ⟨n1, hn1⟩ := hc _ _ _ _ ho
            obtain ⟨n2, hn2⟩ := hk _ _ _ _ h
            refine ⟨max n1 n2, fun t ht9 => ?_⟩
            unfold hgcall
            dsimp only
            rw [if_neg hp, ht]
            dsimp only
            rw [if_pos hcd, hn1 t (by omega)]
            exact hn2 t (by omega)
          · next E M1 ho =>
            obtain ⟨n1, hn1⟩ := hc _ _ _ _ ho
            split at h
            · refine ⟨n1, fun t ht9 => ?_⟩
              unfold hgcall
              dsimp only
              rw [if_neg hp, ht]
              dsimp only
              rw [if_pos hcd, hn1 t ht9]
              exact h
            · next hne =>
              split at h
              · cases h
              · next u loc hh =>
                obtain ⟨n2, hn2⟩ := hj _ _ _ _ _ _ h
                refine ⟨max n1 n2, fun t ht9 => ?_⟩
                unfold hgcall
                dsimp only
                rw [if_neg hp, ht]
                dsimp only
                rw [if_pos hcd, hn1 t (by omega)]
                dsimp only
                split
                · exact absurd rfl hne
                · rw [hh]
                  exact hn2 t (by omega)
        · cases h
  · cases h
set_option maxHeartbeats 4000000 in
theorem hgStep_c (hc : ∀ z as M o, call z as M = some o → ∃ n, ∀ t, n ≤ t → c t z as M = some o) (hj : ∀ u L S K M o, jump u L S K M = some o → ∃ n, ∀ t, n ≤ t → j t u L S K M = some o) (hk : ∀ L S K M, k L S K M = some o → ∃ n, ∀ t, n ≤ t → kk t L S K M = some o) (h : hgStep X rm call jump i ps hs L S K M k = some o) : ∃ n, ∀ t, n ≤ t → hgStep X rm (c t) (j t) i ps hs L S K M (kk t) = some o := by
  cases i
  case iconst n =>
    exact hk _ _ _ _ h
  case bipush n =>
    exact hk _ _ _ _ h
  case sipush n =>
    exact hk _ _ _ _ h
  case lconst n =>
    exact hk _ _ _ _ h
  case fconst n =>
    unfold hgStep at h
    dsimp only at h
    split at h
    · next e => exact hgEv (hk _ _ _ _ h) (fun t => if_pos e)
    · next e =>
      split at h
      · next e2 => exact hgEv (hk _ _ _ _ h) (fun t => (if_neg e).trans (if_pos e2))
      · cases h
  case iload n =>
    obtain ⟨x, e, h⟩ := hgld0_some h
    exact hgEv (hk _ _ _ _ h) (fun t => by show hgld _ _ _ _ = _; unfold hgld; rw [e])
  case iload_n n =>
    obtain ⟨x, e, h⟩ := hgld0_some h
    exact hgEv (hk _ _ _ _ h) (fun t => by show hgld _ _ _ _ = _; unfold hgld; rw [e])
  case lload n =>
    obtain ⟨x, e, h⟩ := hgld1_some h
    exact hgEv (hk _ _ _ _ h) (fun t => by show hgld _ _ _ _ = _; unfold hgld; rw [e])
  case lload_n n =>
    obtain ⟨x, e, h⟩ := hgld1_some h
    exact hgEv (hk _ _ _ _ h) (fun t => by show hgld _ _ _ _ = _; unfold hgld; rw [e])
  case fload n =>
    obtain ⟨x, e, h⟩ := hgld2_some h
    exact hgEv (hk _ _ _ _ h) (fun t => by show hgld _ _ _ _ = _; unfold hgld; rw [e])
  case fload_n n =>
    obtain ⟨x, e, h⟩ := hgld2_some h
    exact hgEv (hk _ _ _ _ h) (fun t => by show hgld _ _ _ _ = _; unfold hgld; rw [e])
  case aload n =>
    obtain ⟨x, e, h⟩ := hgld3_some h
    exact hgEv (hk _ _ _ _ h) (fun t => by show hgld _ _ _ _ = _; unfold hgld; rw [e])
  case aload_n n =>
    obtain ⟨x, e, h⟩ := hgld3_some h
    exact hgEv (hk _ _ _ _ h) (fun t => by show hgld _ _ _ _ = _; unfold hgld; rw [e])
  case istore n =>
    obtain ⟨x, r, rfl, h⟩ := hgst0_some h
    exact hk _ _ _ _ h
  case istore_n n =>
    obtain ⟨x, r, rfl, h⟩ := hgst0_some h
    exact hk _ _ _ _ h
  case lstore n =>
    obtain ⟨x, r, rfl, h⟩ := hgst1_some h
    exact hk _ _ _ _ h
  case lstore_n n =>
    obtain ⟨x, r, rfl, h⟩ := hgst1_some h
    exact hk _ _ _ _ h
  case fstore n =>
    obtain ⟨x, r, rfl, h⟩ := hgst2_some h
    exact hk _ _ _ _ h
  case fstore_n n =>
    obtain ⟨x, r, rfl, h⟩ := hgst2_some h
    exact hk _ _ _ _ h
  case astore n =>
    obtain ⟨x, r, rfl, h⟩ := hgst3_some h
    exact hk _ _ _ _ h
  case astore_n n =>
    obtain ⟨x, r, rfl, h⟩ := hgst3_some h
    exact hk _ _ _ _ h
  case iinc n d =>
    unfold hgStep at h
    dsimp only at h
    split at h
    · next x e => exact hgEv (hk _ _ _ _ h) (fun t => by unfold hgStep; dsimp only; rw [e])
    · cases h
  case iadd =>
    obtain ⟨x, y, r, rfl, h⟩ := hgi2_some h
    exact hk _ _ _ _ h
  case isub =>
    obtain ⟨x, y, r, rfl, h⟩ := hgi2_some h
    exact hk _ _ _ _ h
  case imul =>
    obtain ⟨x, y, r, rfl, h⟩ := hgi2_some h
    exact hk _ _ _ _ h
  case iand =>
    obtain ⟨x, y, r, rfl, h⟩ := hgi2_some h
    exact hk _ _ _ _ h
  case ior =>
    obtain ⟨x, y, r, rfl, h⟩ := hgi2_some h
    exact hk _ _ _ _ h
  case ishl =>
    obtain ⟨x, y, r, rfl, h⟩ := hgi2_some h
    exact hk _ _ _ _ h
  case ishr =>
    obtain ⟨x, y, r, rfl, h⟩ := hgi2_some h
    exact hk _ _ _ _ h
  case iushr =>
    obtain ⟨x, y, r, rfl, h⟩ := hgi2_some h
    exact hk _ _ _ _ h
  case idiv =>
    obtain ⟨x, y, r, rfl, h⟩ := hgi2_some h
    dsimp only at h
    split at h
    · cases h
    · next e => exact hgEv (hk _ _ _ _ h) (fun t => if_neg e)
  case irem =>
    obtain ⟨x, y, r, rfl, h⟩ := hgi2_some h
    dsimp only at h
    split at h
    · cases h
    · next e => exact hgEv (hk _ _ _ _ h) (fun t => if_neg e)
  case i2l =>
    obtain ⟨x, r, rfl, h⟩ := hgi1_some h
    exact hk _ _ _ _ h
  case i2b =>
    obtain ⟨x, r, rfl, h⟩ := hgi1_some h
    exact hk _ _ _ _ h
  case i2f =>
    obtain ⟨x, r, rfl, h⟩ := hgi1_some h
    exact hk _ _ _ _ h
  case f2i =>
    obtain ⟨x, r, rfl, h⟩ := hgf1_some h
    exact hk _ _ _ _ h
  case ladd =>
    obtain ⟨x, y, r, rfl, h⟩ := hgj2_some h
    exact hk _ _ _ _ h
  case lmul =>
    obtain ⟨x, y, r, rfl, h⟩ := hgj2_some h
    exact hk _ _ _ _ h
  case lcmp =>
    obtain ⟨x, y, r, rfl, h⟩ := hgj2_some h
    exact hk _ _ _ _ h
  case fadd =>
    obtain ⟨x, y, r, rfl, h⟩ := hgf2_some h
    dsimp only at h
    split at h
    · next e => exact hgEv (hk _ _ _ _ h) (fun t => if_pos e)
    · cases h
  case fmul =>
    obtain ⟨x, y, r, rfl, h⟩ := hgf2_some h
    dsimp only at h
    split at h
    · next e => exact hgEv (hk _ _ _ _ h) (fun t => if_pos e)
    · cases h
  case fdiv =>
    obtain ⟨x, y, r, rfl, h⟩ := hgf2_some h
    dsimp only at h
    split at h
    · next e => exact hgEv (hk _ _ _ _ h) (fun t => if_pos e)
    · cases h
  case fcmp op =>
    obtain ⟨x, y, r, rfl, h⟩ := hgf2_some h
    exact hk _ _ _ _ h
  case dup =>
    unfold hgStep hgdup at h
    dsimp only at h
    split at h
    · exact hk _ _ _ _ h
    · exact hk _ _ _ _ h
    · exact hk _ _ _ _ h
    · cases h
  case pop =>
    unfold hgStep hgdup at h
    dsimp only at h
    split at h
    · exact hk _ _ _ _ h
    · exact hk _ _ _ _ h
    · exact hk _ _ _ _ h
    · cases h
  case dup2 =>
    obtain ⟨a, y, r, rfl, h⟩ := hgr2_some h
    exact hk _ _ _ _ h
  case goto f =>
    unfold hgStep at h
    dsimp only at h
    split at h
    · exact hj _ _ _ _ _ _ h
    · cases h
  case ifCond q f =>
    unfold hgStep at h
    dsimp only at h
    split at h
    · obtain ⟨x, r, rfl, h⟩ := hgi1_some h
      cases q with
      | eq =>
        dsimp only at h
        split at h
        · next e => exact hgEv (hj _ _ _ _ _ _ h) (fun t => if_pos e)
        · next e => exact hgEv (hk _ _ _ _ h) (fun t => if_neg e)
      | ne =>
        dsimp only at h
        split at h
        · next e => exact hgEv (hk _ _ _ _ h) (fun t => if_pos e)
        · next e => exact hgEv (hj _ _ _ _ _ _ h) (fun t => if_neg e)
      | lt =>
        dsimp only at h
        split at h
        · next e => exact hgEv (hj _ _ _ _ _ _ h) (fun t => if_pos e)
        · next e => exact hgEv (hk _ _ _ _ h) (fun t => if_neg e)
      | ge =>
        dsimp only at h
        split at h
        · next e => exact hgEv (hj _ _ _ _ _ _ h) (fun t => if_pos e)
        · next e => exact hgEv (hk _ _ _ _ h) (fun t => if_neg e)
      | gt =>
        dsimp only at h
        split at h
        · next e => exact hgEv (hj _ _ _ _ _ _ h) (fun t => if_pos e)
        · next e => exact hgEv (hk _ _ _ _ h) (fun t => if_neg e)
      | le =>
        dsimp only at h
        split at h
        · next e => exact hgEv (hj _ _ _ _ _ _ h) (fun t => if_pos e)
        · next e => exact hgEv (hk _ _ _ _ h) (fun t => if_neg e)
    · cases h
  case if_icmp q f =>
    unfold hgStep at h
    dsimp only at h
    split at h
    · obtain ⟨x, y, r, rfl, h⟩ := hgi2_some h
      cases q with
      | eq =>
        dsimp only at h
        split at h
        · next e => exact hgEv (hj _ _ _ _ _ _ h) (fun t => if_pos e)
        · next e => exact hgEv (hk _ _ _ _ h) (fun t => if_neg e)
      | ne =>
        dsimp only at h
        split at h
        · next e => exact hgEv (hk _ _ _ _ h) (fun t => if_pos e)
        · next e => exact hgEv (hj _ _ _ _ _ _ h) (fun t => if_neg e)
      | lt =>
        dsimp only at h
        split at h
        · next e => exact hgEv (hj _ _ _ _ _ _ h) (fun t => if_pos e)
        · next e => exact hgEv (hk _ _ _ _ h) (fun t => if_neg e)
      | ge =>
        dsimp only at h
        split at h
        · next e => exact hgEv (hj _ _ _ _ _ _ h) (fun t => if_pos e)
        · next e => exact hgEv (hk _ _ _ _ h) (fun t => if_neg e)
      | gt =>
        dsimp only at h
        split at h
        · next e => exact hgEv (hj _ _ _ _ _ _ h) (fun t => if_pos e)
        · next e => exact hgEv (hk _ _ _ _ h) (fun t => if_neg e)
      | le =>
        dsimp only at h
        split at h
        · next e => exact hgEv (hj _ _ _ _ _ _ h) (fun t => if_pos e)
        · next e => exact hgEv (hk _ _ _ _ h) (fun t => if_neg e)
    · cases h
  case tableswitch a b d f =>
    unfold hgStep at h
    dsimp only at h
    split at h
    · obtain ⟨x, r, rfl, h⟩ := hgi1_some h
      dsimp only at h
      split at h
      · next e => exact hgEv (hj _ _ _ _ _ _ h) (fun t => if_pos e)
      · next e => exact hgEv (hj _ _ _ _ _ _ h) (fun t => if_neg e)
    · cases h
  case ldc n =>
    unfold hgStep at h
    dsimp only at h
    split at h
    · exact hk _ _ _ _ h
    · exact hk _ _ _ _ h
    · exact hk _ _ _ _ h
    · cases h
  case ldc_w n =>
    unfold hgStep at h
    dsimp only at h
    split at h
    · exact hk _ _ _ _ h
    · cases h
  case ldc2_w n =>
    unfold hgStep at h
    dsimp only at h
    split at h
    · exact hk _ _ _ _ h
    · exact hk _ _ _ _ h
    · cases h
  case getfield n =>
    unfold hgStep at h
    dsimp only at h
    split at h
    · obtain ⟨a, r, rfl, h⟩ := hgr1_some h
      obtain ⟨v, h1, hg⟩ := hgget_c h
      exact hgEv (hk _ _ _ _ h1) (fun t => hg _)
    · cases h
  case putfield n =>
    unfold hgStep at h
    dsimp only at h
    split at h
    · obtain ⟨r, M1, h1, hg⟩ := hgput_c h
      exact hgEv (hk _ _ _ _ h1) (fun t => hg _)
    · cases h
  case iaload =>
    obtain ⟨a, y, r, rfl, h⟩ := hgr2_some h
    dsimp only at h
    split at h
    · next e =>
      split at h
      · next e2 => exact hgEv (hk _ _ _ _ h) (fun t => (if_pos e).trans (if_pos e2))
      · cases h
    · next e =>
      split at h
      · next e2 => exact hgEv (hk _ _ _ _ h) (fun t => (if_neg e).trans (if_pos e2))
      · cases h
  case baload =>
    obtain ⟨a, y, r, rfl, h⟩ := hgr2_some h
    dsimp only at h
    split at h
    · next e => exact hgEv (hk _ _ _ _ h) (fun t => if_pos e)
    · cases h
  case laload =>
    obtain ⟨a, y, r, rfl, h⟩ := hgr2_some h
    dsimp only at h
    split at h
    · next e => exact hgEv (hk _ _ _ _ h) (fun t => if_pos e)
    · cases h
  case aaload =>
    obtain ⟨a, y, r, rfl, h⟩ := hgr2_some h
    dsimp only at h
    split at h
    · next e =>
      split at h
      · next q e2 => exact hgEv (hk _ _ _ _ h) (fun t => (if_pos e).trans (by rw [e2]))
      · cases h
    · cases h
  case iastore =>
    unfold hgStep at h
    dsimp only at h
    split at h
    · split at h
      · next e => exact hgEv (hk _ _ _ _ h) (fun t => if_pos e)
      · cases h
    · cases h
  case lastore =>
    unfold hgStep at h
    dsimp only at h
    split at h
    · split at h
      · next e => exact hgEv (hk _ _ _ _ h) (fun t => if_pos e)
      · cases h
    · cases h
  case aastore =>
    unfold hgStep at h
    dsimp only at h
    split at h
    · split at h
      · next e => exact hgEv (hk _ _ _ _ h) (fun t => if_pos e)
      · cases h
    · cases h
  case bastore =>
    unfold hgStep at h
    dsimp only at h
    split at h
    · split at h
      · next e => exact hgEv (hk _ _ _ _ h) (fun t => if_pos e)
      · next e =>
        split at h
        · next e2 => exact hgEv (hk _ _ _ _ h) (fun t => (if_neg e).trans (if_pos e2))
        · cases h
    · cases h
  case arraylength =>
    obtain ⟨a, r, rfl, h⟩ := hgr1_some h
    dsimp only at h
    split at h
    · next e => exact hgEv (hk _ _ _ _ h) (fun t => if_pos e)
    · next e =>
      split at h
      · next e2 => exact hgEv (hk _ _ _ _ h) (fun t => (if_neg e).trans (if_pos e2))
      · cases h
  case new n =>
    unfold hgStep at h
    dsimp only at h
    split at h
    · split at h
      · next e => exact hgEv (hk _ _ _ _ h) (fun t => if_pos e)
      · cases h
    · split at h
      · next e => exact ⟨0, fun t _ => (if_pos e).trans h⟩
      · cases h
    · cases h
  case newarray n =>
    unfold hgStep at h
    dsimp only at h
    split at h
    · obtain ⟨x, r, rfl, h⟩ := hgi1_some h
      dsimp only at h
      split at h
      · next e => exact hgEv (hk _ _ _ _ h) (fun t => if_pos e)
      · cases h
    · cases h
  case anewarray n =>
    unfold hgStep at h
    dsimp only at h
    split at h
    · obtain ⟨x, r, rfl, h⟩ := hgi1_some h
      dsimp only at h
      split at h
      · next e => exact hgEv (hk _ _ _ _ h) (fun t => if_pos e)
      · cases h
    · cases h
  case multianewarray n d =>
    unfold hgStep at h
    dsimp only at h
    split at h
    · split at h
      · split at h
        · next e => exact hgEv (hk _ _ _ _ h) (fun t => if_pos e)
        · cases h
      · cases h
    · cases h
  case invokevirtual n =>
    exact hgcall_c hc hj hk h
  case invokestatic n =>
    exact hgcall_c hc hj hk h
  case invokespecial n =>
    exact hgcall_c hc hj hk h
  case ireturn =>
    exact ⟨0, fun t _ => h⟩
  case lreturn =>
    exact ⟨0, fun t _ => h⟩
  case return_ =>
    exact ⟨0, fun t _ => h⟩
  all_goals cases h
theorem hgEx_c (hc : ∀ z as M o, call z as M = some o → ∃ n, ∀ t, n ≤ t → c t z as M = some o) (hj : ∀ u L S K M o, jump u L S K M = some o → ∃ n, ∀ t, n ≤ t → j t u L S K M = some o) : ∀ (rs : List hgRow) (L : hgL) (S : List Value) (K : hgK) (M : hgMem), hgEx X rm call jump rs L S K M = some o → ∃ n, ∀ t, n ≤ t → hgEx X rm (c t) (j t) rs L S K M = some o
  | [], L, S, K, M, h => by cases h
  | (i, l, ps, hs) :: rs, L, S, K, M, h => hgStep_c (k := fun L S K M => hgEx X rm call jump rs L S K M) (kk := fun t L S K M => hgEx X rm (c t) (j t) rs L S K M) hc hj (fun L S K M h => hgEx_c hc hj rs L S K M h) h
end HGOM
theorem hgRun_up (X : hgX) : ∀ (n t : Nat), n ≤ t → ∀ (m pc : Nat) (L : hgL) (S : List Value) (K : hgK) (M : hgMem) (o : hgOut), hgRun X n m pc L S K M = some o → hgRun X t m pc L S K M = some o
  | 0, t, _, m, pc, L, S, K, M, o, h => by cases h
  | n + 1, 0, h0, m, pc, L, S, K, M, o, h => absurd h0 (by omega)
  | n + 1, t + 1, h0, m, pc, L, S, K, M, o, h => by
    rw [hgRun_succ] at h ⊢
    obtain ⟨u, hu⟩ := hgEx_c (c := fun _ => hgC X t) (j := fun _ => hgJp X t m) (fun z as M o h => ⟨0, fun _ _ => by
      unfold hgC at h ⊢
      split at h
      · next hl => rw [if_pos hl]; exact hgRun_up X n t (by omega) _ _ _ _ _ _ _ h
      · cases h⟩) (fun u L S K M o h => ⟨0, fun _ _ => hgRun_up X n t (by omega) _ _ _ _ _ _ _ h⟩) _ L S K M h
    exact hu u (Nat.le_refl u)
/-- what the machine answers from this label, with fuel enough -/
noncomputable def hgW (X : hgX) (m pc : Nat) (L : hgL) (S : List Value) (K : hgK) (M : hgMem) : Option hgOut := @dite _ (∃ o n, hgRun X n m pc L S K M = some o) (Classical.propDecidable _) (fun h => some (Classical.choose h)) (fun _ => none)
noncomputable def hgWC (X : hgX) (q : Nat) (as : List Value) (M : hgMem) : Option hgOut := if (hgEnt as).length ≤ hgMl q then hgW X q 0 (hgPad (hgMl q) (hgEnt as)) [] (0, 0) M else none
noncomputable def hgWJ (X : hgX) (m t : Nat) (L : hgL) (S : List Value) (K : hgK) (M : hgMem) : Option hgOut := hgW X m t (hgMask (hgLk t (hgBs m)).1 L) S K M
theorem hgW_iff {X : hgX} {m pc : Nat} {L : hgL} {S : List Value} {K : hgK} {M : hgMem} {o : hgOut} : hgW X m pc L S K M = some o ↔ ∃ n, hgRun X n m pc L S K M = some o := by
  unfold hgW
  constructor
  · intro h
    split at h
    · next hx =>
      cases h
      exact Classical.choose_spec hx
    · cases h
  · intro h
    have hx : ∃ o n, hgRun X n m pc L S K M = some o := ⟨o, h⟩
    split
    · next hx =>
      obtain ⟨n1, h1⟩ := Classical.choose_spec hx
      obtain ⟨n2, h2⟩ := h
      have e1 := hgRun_up X n1 (max n1 n2) (by omega) _ _ _ _ _ _ _ h1
      have e2 := hgRun_up X n2 (max n1 n2) (by omega) _ _ _ _ _ _ _ h2
      rw [e1] at e2
      exact e2
    · next hn => exact absurd hx hn
theorem hgW_eq (X : hgX) (m pc : Nat) (L : hgL) (S : List Value) (K : hgK) (M : hgMem) : hgW X m pc L S K M = hgEx X (hgRm m) (hgWC X) (hgWJ X m) (hgLk pc (hgBs m)).2 L S K M := by
  refine Option.ext (fun o => ?_)
  rw [hgW_iff]
  constructor
  · rintro ⟨n, h⟩
    cases n with
    | zero => cases h
    | succ n =>
      rw [hgRun_succ] at h
      obtain ⟨u, hu⟩ := hgEx_c (c := fun _ => hgWC X) (j := fun _ => hgWJ X m) (fun z as M o h => ⟨0, fun _ _ => by
        unfold hgC at h
        unfold hgWC
        split at h
        · next hl => rw [if_pos hl]; exact hgW_iff.mpr ⟨n, h⟩
        · cases h⟩) (fun u L S K M o h => ⟨0, fun _ _ => hgW_iff.mpr ⟨n, h⟩⟩) _ L S K M h
      exact hu u (Nat.le_refl u)
  · intro h
    obtain ⟨u, hu⟩ := hgEx_c (c := fun t => hgC X t) (j := fun t => hgJp X t m) (fun z as M o h => by
      unfold hgWC at h
      split at h
      · next hl =>
        obtain ⟨n, hn⟩ := hgW_iff.mp h
        exact ⟨n, fun t ht => by unfold hgC; rw [if_pos hl]; exact hgRun_up X n t ht _ _ _ _ _ _ _ hn⟩
      · cases h) (fun u L S K M o h => by
      obtain ⟨n, hn⟩ := hgW_iff.mp h
      exact ⟨n, fun t ht => hgRun_up X n t ht _ _ _ _ _ _ _ hn⟩) _ L S K M h
    exact ⟨u + 1, by rw [hgRun_succ]; exact hu u (Nat.le_refl u)⟩
end
section
/-! ONE LEMMA AN INSTRUCTION, over the machine without fuel. -/
/-- an object of class ci -/
def hgO (M : hgMem) (a ci : Nat) : Prop := a < M.1 ∧ (hgSh a).1 = ci
/-- an array of kind ci and length n -/
def hgAr (M : hgMem) (a ci n : Nat) : Prop := a < M.1 ∧ hgSh a = (ci, n)
theorem nI_add (a b : Nat) : nI a + nI b = nI (a + b) := (Int32.ofNat_add a b).symm
theorem nI_mul (a b : Nat) : nI a * nI b = nI (a * b) := (Int32.ofNat_mul a b).symm
theorem nI_int {a : Nat} (h : a < 2147483648) : (nI a).toInt = (a : Int) := Int32.toInt_ofNat_of_lt h
theorem nI_lt {a b : Nat} (ha : a < 2147483648) (hb : b < 2147483648) : (nI a < nI b) = (a < b) := by
  rw [Int32.lt_iff_toInt_lt, nI_int ha, nI_int hb]
  exact propext Int.ofNat_lt
theorem nI_le {a b : Nat} (ha : a < 2147483648) (hb : b < 2147483648) : (nI a ≤ nI b) = (a ≤ b) := by
  rw [Int32.le_iff_toInt_le, nI_int ha, nI_int hb]
  exact propext Int.ofNat_le
theorem nI_eq {a b : Nat} (ha : a < 2147483648) (hb : b < 2147483648) : (nI a = nI b) = (a = b) := by
  refine propext ⟨fun h => ?_, fun h => by rw [h]⟩
  have := congrArg Int32.toInt h
  rw [nI_int ha, nI_int hb] at this
  exact Int.ofNat.inj this
theorem nI_sub {a b : Nat} (h : b ≤ a) : nI a - nI b = nI (a - b) := (Int32.ofNat_sub a b h).symm
theorem nI_cl {a : Nat} (h : a < 2147483648) : (nI a).toNatClampNeg = a := by
  rw [Int32.toNatClampNeg, nI_int h]
  rfl
theorem hgIn_nI {a n : Nat} (h : a < n) (hn : n < 2147483648) : hgIn (nI a) n = true := by
  unfold hgIn
  rw [nI_int (by omega)]
  simp
  omega
section HGI
variable {X : hgX} {rm : hgK} {C : Nat → List Value → hgMem → Option hgOut} {J : Nat → hgL → List Value → hgK → hgMem → Option hgOut} {l : Nat} {ps : List Nat} {hs : List (Nat × Nat × Nat)} {rs : List hgRow} {L : hgL} {S : List Value} {K : hgK} {M : hgMem} {a0 a1 a2 a3 a4 a5 a6 a7 a8 : Option Value} {x y z : Int32} {u v : Int64} {f g : UInt32} {a b t k n j w ci idx : Nat}
theorem hgx_iconst_m1 : hgEx X rm C J ((.iconst (-1), l, ps, hs) :: rs) L S K M = hgEx X rm C J rs L (.int (-1) :: S) K M := rfl
theorem hgx_iconst_0 : hgEx X rm C J ((.iconst 0, l, ps, hs) :: rs) L S K M = hgEx X rm C J rs L (.int (nI 0) :: S) K M := rfl
theorem hgx_iconst_1 : hgEx X rm C J ((.iconst 1, l, ps, hs) :: rs) L S K M = hgEx X rm C J rs L (.int (nI 1) :: S) K M := rfl
theorem hgx_iconst_2 : hgEx X rm C J ((.iconst 2, l, ps, hs) :: rs) L S K M = hgEx X rm C J rs L (.int (nI 2) :: S) K M := rfl
theorem hgx_iconst_3 : hgEx X rm C J ((.iconst 3, l, ps, hs) :: rs) L S K M = hgEx X rm C J rs L (.int (nI 3) :: S) K M := rfl
theorem hgx_iconst_4 : hgEx X rm C J ((.iconst 4, l, ps, hs) :: rs) L S K M = hgEx X rm C J rs L (.int (nI 4) :: S) K M := rfl
theorem hgx_iconst_5 : hgEx X rm C J ((.iconst 5, l, ps, hs) :: rs) L S K M = hgEx X rm C J rs L (.int (nI 5) :: S) K M := rfl
theorem hgx_bipush_m2 : hgEx X rm C J ((.bipush (-2), l, ps, hs) :: rs) L S K M = hgEx X rm C J rs L (.int (-2) :: S) K M := rfl
theorem hgx_bipush_m3 : hgEx X rm C J ((.bipush (-3), l, ps, hs) :: rs) L S K M = hgEx X rm C J rs L (.int (-3) :: S) K M := rfl
theorem hgx_bipush_m4 : hgEx X rm C J ((.bipush (-4), l, ps, hs) :: rs) L S K M = hgEx X rm C J rs L (.int (-4) :: S) K M := rfl
theorem hgx_bipush_10 : hgEx X rm C J ((.bipush 10, l, ps, hs) :: rs) L S K M = hgEx X rm C J rs L (.int (nI 10) :: S) K M := rfl
theorem hgx_bipush_100 : hgEx X rm C J ((.bipush 100, l, ps, hs) :: rs) L S K M = hgEx X rm C J rs L (.int (nI 100) :: S) K M := rfl
theorem hgx_bipush_12 : hgEx X rm C J ((.bipush 12, l, ps, hs) :: rs) L S K M = hgEx X rm C J rs L (.int (nI 12) :: S) K M := rfl
theorem hgx_bipush_122 : hgEx X rm C J ((.bipush 122, l, ps, hs) :: rs) L S K M = hgEx X rm C J rs L (.int (nI 122) :: S) K M := rfl
theorem hgx_bipush_127 : hgEx X rm C J ((.bipush 127, l, ps, hs) :: rs) L S K M = hgEx X rm C J rs L (.int (nI 127) :: S) K M := rfl
theorem hgx_bipush_16 : hgEx X rm C J ((.bipush 16, l, ps, hs) :: rs) L S K M = hgEx X rm C J rs L (.int (nI 16) :: S) K M := rfl
theorem hgx_bipush_18 : hgEx X rm C J ((.bipush 18, l, ps, hs) :: rs) L S K M = hgEx X rm C J rs L (.int (nI 18) :: S) K M := rfl
theorem hgx_bipush_20 : hgEx X rm C J ((.bipush 20, l, ps, hs) :: rs) L S K M = hgEx X rm C J rs L (.int (nI 20) :: S) K M := rfl
theorem hgx_bipush_24 : hgEx X rm C J ((.bipush 24, l, ps, hs) :: rs) L S K M = hgEx X rm C J rs L (.int (nI 24) :: S) K M := rfl
theorem hgx_bipush_27 : hgEx X rm C J ((.bipush 27, l, ps, hs) :: rs) L S K M = hgEx X rm C J rs L (.int (nI 27) :: S) K M := rfl
theorem hgx_bipush_32 : hgEx X rm C J ((.bipush 32, l, ps, hs) :: rs) L S K M = hgEx X rm C J rs L (.int (nI 32) :: S) K M := rfl
theorem hgx_bipush_48 : hgEx X rm C J ((.bipush 48, l, ps, hs) :: rs) L S K M = hgEx X rm C J rs L (.int (nI 48) :: S) K M := rfl
theorem hgx_bipush_57 : hgEx X rm C J ((.bipush 57, l, ps, hs) :: rs) L S K M = hgEx X rm C J rs L (.int (nI 57) :: S) K M := rfl
theorem hgx_bipush_59 : hgEx X rm C J ((.bipush 59, l, ps, hs) :: rs) L S K M = hgEx X rm C J rs L (.int (nI 59) :: S) K M := rfl
theorem hgx_bipush_6 : hgEx X rm C J ((.bipush 6, l, ps, hs) :: rs) L S K M = hgEx X rm C J rs L (.int (nI 6) :: S) K M := rfl
theorem hgx_bipush_63 : hgEx X rm C J ((.bipush 63, l, ps, hs) :: rs) L S K M = hgEx X rm C J rs L (.int (nI 63) :: S) K M := rfl
theorem hgx_bipush_7 : hgEx X rm C J ((.bipush 7, l, ps, hs) :: rs) L S K M = hgEx X rm C J rs L (.int (nI 7) :: S) K M := rfl
theorem hgx_bipush_8 : hgEx X rm C J ((.bipush 8, l, ps, hs) :: rs) L S K M = hgEx X rm C J rs L (.int (nI 8) :: S) K M := rfl
theorem hgx_bipush_9 : hgEx X rm C J ((.bipush 9, l, ps, hs) :: rs) L S K M = hgEx X rm C J rs L (.int (nI 9) :: S) K M := rfl
theorem hgx_bipush_97 : hgEx X rm C J ((.bipush 97, l, ps, hs) :: rs) L S K M = hgEx X rm C J rs L (.int (nI 97) :: S) K M := rfl
theorem hgx_bipush_99 : hgEx X rm C J ((.bipush 99, l, ps, hs) :: rs) L S K M = hgEx X rm C J rs L (.int (nI 99) :: S) K M := rfl
theorem hgx_sipush_1000 : hgEx X rm C J ((.sipush 1000, l, ps, hs) :: rs) L S K M = hgEx X rm C J rs L (.int (nI 1000) :: S) K M := rfl
theorem hgx_sipush_10000 : hgEx X rm C J ((.sipush 10000, l, ps, hs) :: rs) L S K M = hgEx X rm C J rs L (.int (nI 10000) :: S) K M := rfl
theorem hgx_sipush_187 : hgEx X rm C J ((.sipush 187, l, ps, hs) :: rs) L S K M = hgEx X rm C J rs L (.int (nI 187) :: S) K M := rfl
theorem hgx_sipush_200 : hgEx X rm C J ((.sipush 200, l, ps, hs) :: rs) L S K M = hgEx X rm C J rs L (.int (nI 200) :: S) K M := rfl
theorem hgx_sipush_20187 : hgEx X rm C J ((.sipush 20187, l, ps, hs) :: rs) L S K M = hgEx X rm C J rs L (.int (nI 20187) :: S) K M := rfl
theorem hgx_sipush_2520 : hgEx X rm C J ((.sipush 2520, l, ps, hs) :: rs) L S K M = hgEx X rm C J rs L (.int (nI 2520) :: S) K M := rfl
theorem hgx_sipush_255 : hgEx X rm C J ((.sipush 255, l, ps, hs) :: rs) L S K M = hgEx X rm C J rs L (.int (nI 255) :: S) K M := rfl
theorem hgx_sipush_300 : hgEx X rm C J ((.sipush 300, l, ps, hs) :: rs) L S K M = hgEx X rm C J rs L (.int (nI 300) :: S) K M := rfl
theorem hgx_sipush_512 : hgEx X rm C J ((.sipush 512, l, ps, hs) :: rs) L S K M = hgEx X rm C J rs L (.int (nI 512) :: S) K M := rfl
theorem hgx_sipush_880 : hgEx X rm C J ((.sipush 880, l, ps, hs) :: rs) L S K M = hgEx X rm C J rs L (.int (nI 880) :: S) K M := rfl
theorem hgx_sipush_900 : hgEx X rm C J ((.sipush 900, l, ps, hs) :: rs) L S K M = hgEx X rm C J rs L (.int (nI 900) :: S) K M := rfl
theorem hgx_sipush_999 : hgEx X rm C J ((.sipush 999, l, ps, hs) :: rs) L S K M = hgEx X rm C J rs L (.int (nI 999) :: S) K M := rfl
theorem hgx_lconst_0 : hgEx X rm C J ((.lconst 0, l, ps, hs) :: rs) L S K M = hgEx X rm C J rs L (.long (lN 0) :: S) K M := rfl
theorem hgx_lconst_1 : hgEx X rm C J ((.lconst 1, l, ps, hs) :: rs) L S K M = hgEx X rm C J rs L (.long (lN 1) :: S) K M := rfl
theorem hgx_fconst_0 : hgEx X rm C J ((.fconst 0, l, ps, hs) :: rs) L S K M = hgEx X rm C J rs L (.float FP.fconst0 :: S) K M := rfl
theorem hgx_fconst_1 : hgEx X rm C J ((.fconst 1, l, ps, hs) :: rs) L S K M = hgEx X rm C J rs L (.float FP.fconst1 :: S) K M := rfl
theorem hgx_aload_4 : hgEx X rm C J ((.aload 4, l, ps, hs) :: rs) (a0 :: a1 :: a2 :: a3 :: some (.ref a) :: L) S K M = hgEx X rm C J rs (a0 :: a1 :: a2 :: a3 :: some (.ref a) :: L) (.ref a :: S) K M := rfl
theorem hgx_aload_5 : hgEx X rm C J ((.aload 5, l, ps, hs) :: rs) (a0 :: a1 :: a2 :: a3 :: a4 :: some (.ref a) :: L) S K M = hgEx X rm C J rs (a0 :: a1 :: a2 :: a3 :: a4 :: some (.ref a) :: L) (.ref a :: S) K M := rfl
theorem hgx_aload_6 : hgEx X rm C J ((.aload 6, l, ps, hs) :: rs) (a0 :: a1 :: a2 :: a3 :: a4 :: a5 :: some (.ref a) :: L) S K M = hgEx X rm C J rs (a0 :: a1 :: a2 :: a3 :: a4 :: a5 :: some (.ref a) :: L) (.ref a :: S) K M := rfl
theorem hgx_aload_n_0 : hgEx X rm C J ((.aload_n 0, l, ps, hs) :: rs) (some (.ref a) :: L) S K M = hgEx X rm C J rs (some (.ref a) :: L) (.ref a :: S) K M := rfl
theorem hgx_aload_n_1 : hgEx X rm C J ((.aload_n 1, l, ps, hs) :: rs) (a0 :: some (.ref a) :: L) S K M = hgEx X rm C J rs (a0 :: some (.ref a) :: L) (.ref a :: S) K M := rfl
theorem hgx_aload_n_2 : hgEx X rm C J ((.aload_n 2, l, ps, hs) :: rs) (a0 :: a1 :: some (.ref a) :: L) S K M = hgEx X rm C J rs (a0 :: a1 :: some (.ref a) :: L) (.ref a :: S) K M := rfl
theorem hgx_aload_n_3 : hgEx X rm C J ((.aload_n 3, l, ps, hs) :: rs) (a0 :: a1 :: a2 :: some (.ref a) :: L) S K M = hgEx X rm C J rs (a0 :: a1 :: a2 :: some (.ref a) :: L) (.ref a :: S) K M := rfl
theorem hgx_fload_4 : hgEx X rm C J ((.fload 4, l, ps, hs) :: rs) (a0 :: a1 :: a2 :: a3 :: some (.float f) :: L) S K M = hgEx X rm C J rs (a0 :: a1 :: a2 :: a3 :: some (.float f) :: L) (.float f :: S) K M := rfl
theorem hgx_fload_n_1 : hgEx X rm C J ((.fload_n 1, l, ps, hs) :: rs) (a0 :: some (.float f) :: L) S K M = hgEx X rm C J rs (a0 :: some (.float f) :: L) (.float f :: S) K M := rfl
theorem hgx_fload_n_2 : hgEx X rm C J ((.fload_n 2, l, ps, hs) :: rs) (a0 :: a1 :: some (.float f) :: L) S K M = hgEx X rm C J rs (a0 :: a1 :: some (.float f) :: L) (.float f :: S) K M := rfl
theorem hgx_iload_4 : hgEx X rm C J ((.iload 4, l, ps, hs) :: rs) (a0 :: a1 :: a2 :: a3 :: some (.int x) :: L) S K M = hgEx X rm C J rs (a0 :: a1 :: a2 :: a3 :: some (.int x) :: L) (.int x :: S) K M := rfl
theorem hgx_iload_5 : hgEx X rm C J ((.iload 5, l, ps, hs) :: rs) (a0 :: a1 :: a2 :: a3 :: a4 :: some (.int x) :: L) S K M = hgEx X rm C J rs (a0 :: a1 :: a2 :: a3 :: a4 :: some (.int x) :: L) (.int x :: S) K M := rfl
theorem hgx_iload_6 : hgEx X rm C J ((.iload 6, l, ps, hs) :: rs) (a0 :: a1 :: a2 :: a3 :: a4 :: a5 :: some (.int x) :: L) S K M = hgEx X rm C J rs (a0 :: a1 :: a2 :: a3 :: a4 :: a5 :: some (.int x) :: L) (.int x :: S) K M := rfl
theorem hgx_iload_7 : hgEx X rm C J ((.iload 7, l, ps, hs) :: rs) (a0 :: a1 :: a2 :: a3 :: a4 :: a5 :: a6 :: some (.int x) :: L) S K M = hgEx X rm C J rs (a0 :: a1 :: a2 :: a3 :: a4 :: a5 :: a6 :: some (.int x) :: L) (.int x :: S) K M := rfl
theorem hgx_iload_8 : hgEx X rm C J ((.iload 8, l, ps, hs) :: rs) (a0 :: a1 :: a2 :: a3 :: a4 :: a5 :: a6 :: a7 :: some (.int x) :: L) S K M = hgEx X rm C J rs (a0 :: a1 :: a2 :: a3 :: a4 :: a5 :: a6 :: a7 :: some (.int x) :: L) (.int x :: S) K M := rfl
theorem hgx_iload_n_0 : hgEx X rm C J ((.iload_n 0, l, ps, hs) :: rs) (some (.int x) :: L) S K M = hgEx X rm C J rs (some (.int x) :: L) (.int x :: S) K M := rfl
theorem hgx_iload_n_1 : hgEx X rm C J ((.iload_n 1, l, ps, hs) :: rs) (a0 :: some (.int x) :: L) S K M = hgEx X rm C J rs (a0 :: some (.int x) :: L) (.int x :: S) K M := rfl
theorem hgx_iload_n_2 : hgEx X rm C J ((.iload_n 2, l, ps, hs) :: rs) (a0 :: a1 :: some (.int x) :: L) S K M = hgEx X rm C J rs (a0 :: a1 :: some (.int x) :: L) (.int x :: S) K M := rfl
theorem hgx_iload_n_3 : hgEx X rm C J ((.iload_n 3, l, ps, hs) :: rs) (a0 :: a1 :: a2 :: some (.int x) :: L) S K M = hgEx X rm C J rs (a0 :: a1 :: a2 :: some (.int x) :: L) (.int x :: S) K M := rfl
theorem hgx_lload_6 : hgEx X rm C J ((.lload 6, l, ps, hs) :: rs) (a0 :: a1 :: a2 :: a3 :: a4 :: a5 :: some (.long u) :: L) S K M = hgEx X rm C J rs (a0 :: a1 :: a2 :: a3 :: a4 :: a5 :: some (.long u) :: L) (.long u :: S) K M := rfl
theorem hgx_lload_n_1 : hgEx X rm C J ((.lload_n 1, l, ps, hs) :: rs) (a0 :: some (.long u) :: L) S K M = hgEx X rm C J rs (a0 :: some (.long u) :: L) (.long u :: S) K M := rfl
theorem hgx_lload_n_3 : hgEx X rm C J ((.lload_n 3, l, ps, hs) :: rs) (a0 :: a1 :: a2 :: some (.long u) :: L) S K M = hgEx X rm C J rs (a0 :: a1 :: a2 :: some (.long u) :: L) (.long u :: S) K M := rfl
theorem hgx_astore_4i : hgEx X rm C J ((.astore 4, l, ps, hs) :: rs) (a0 :: a1 :: a2 :: some (.int y) :: a4 :: L) (.ref a :: S) K M = hgEx X rm C J rs (a0 :: a1 :: a2 :: some (.int y) :: some (.ref a) :: L) S K M := rfl
theorem hgx_astore_4r : hgEx X rm C J ((.astore 4, l, ps, hs) :: rs) (a0 :: a1 :: a2 :: some (.ref b) :: a4 :: L) (.ref a :: S) K M = hgEx X rm C J rs (a0 :: a1 :: a2 :: some (.ref b) :: some (.ref a) :: L) S K M := rfl
theorem hgx_astore_4f : hgEx X rm C J ((.astore 4, l, ps, hs) :: rs) (a0 :: a1 :: a2 :: some (.float g) :: a4 :: L) (.ref a :: S) K M = hgEx X rm C J rs (a0 :: a1 :: a2 :: some (.float g) :: some (.ref a) :: L) S K M := rfl
theorem hgx_astore_4n : hgEx X rm C J ((.astore 4, l, ps, hs) :: rs) (a0 :: a1 :: a2 :: none :: a4 :: L) (.ref a :: S) K M = hgEx X rm C J rs (a0 :: a1 :: a2 :: none :: some (.ref a) :: L) S K M := rfl
theorem hgx_astore_4l : hgEx X rm C J ((.astore 4, l, ps, hs) :: rs) (a0 :: a1 :: a2 :: some (.long v) :: a4 :: L) (.ref a :: S) K M = hgEx X rm C J rs (a0 :: a1 :: a2 :: none :: some (.ref a) :: L) S K M := rfl
theorem hgx_astore_5i : hgEx X rm C J ((.astore 5, l, ps, hs) :: rs) (a0 :: a1 :: a2 :: a3 :: some (.int y) :: a5 :: L) (.ref a :: S) K M = hgEx X rm C J rs (a0 :: a1 :: a2 :: a3 :: some (.int y) :: some (.ref a) :: L) S K M := rfl
theorem hgx_astore_5r : hgEx X rm C J ((.astore 5, l, ps, hs) :: rs) (a0 :: a1 :: a2 :: a3 :: some (.ref b) :: a5 :: L) (.ref a :: S) K M = hgEx X rm C J rs (a0 :: a1 :: a2 :: a3 :: some (.ref b) :: some (.ref a) :: L) S K M := rfl
theorem hgx_astore_5f : hgEx X rm C J ((.astore 5, l, ps, hs) :: rs) (a0 :: a1 :: a2 :: a3 :: some (.float g) :: a5 :: L) (.ref a :: S) K M = hgEx X rm C J rs (a0 :: a1 :: a2 :: a3 :: some (.float g) :: some (.ref a) :: L) S K M := rfl
theorem hgx_astore_5n : hgEx X rm C J ((.astore 5, l, ps, hs) :: rs) (a0 :: a1 :: a2 :: a3 :: none :: a5 :: L) (.ref a :: S) K M = hgEx X rm C J rs (a0 :: a1 :: a2 :: a3 :: none :: some (.ref a) :: L) S K M := rfl
theorem hgx_astore_5l : hgEx X rm C J ((.astore 5, l, ps, hs) :: rs) (a0 :: a1 :: a2 :: a3 :: some (.long v) :: a5 :: L) (.ref a :: S) K M = hgEx X rm C J rs (a0 :: a1 :: a2 :: a3 :: none :: some (.ref a) :: L) S K M := rfl
theorem hgx_astore_6i : hgEx X rm C J ((.astore 6, l, ps, hs) :: rs) (a0 :: a1 :: a2 :: a3 :: a4 :: some (.int y) :: a6 :: L) (.ref a :: S) K M = hgEx X rm C J rs (a0 :: a1 :: a2 :: a3 :: a4 :: some (.int y) :: some (.ref a) :: L) S K M := rfl
theorem hgx_astore_6r : hgEx X rm C J ((.astore 6, l, ps, hs) :: rs) (a0 :: a1 :: a2 :: a3 :: a4 :: some (.ref b) :: a6 :: L) (.ref a :: S) K M = hgEx X rm C J rs (a0 :: a1 :: a2 :: a3 :: a4 :: some (.ref b) :: some (.ref a) :: L) S K M := rfl
theorem hgx_astore_6f : hgEx X rm C J ((.astore 6, l, ps, hs) :: rs) (a0 :: a1 :: a2 :: a3 :: a4 :: some (.float g) :: a6 :: L) (.ref a :: S) K M = hgEx X rm C J rs (a0 :: a1 :: a2 :: a3 :: a4 :: some (.float g) :: some (.ref a) :: L) S K M := rfl
theorem hgx_astore_6n : hgEx X rm C J ((.astore 6, l, ps, hs) :: rs) (a0 :: a1 :: a2 :: a3 :: a4 :: none :: a6 :: L) (.ref a :: S) K M = hgEx X rm C J rs (a0 :: a1 :: a2 :: a3 :: a4 :: none :: some (.ref a) :: L) S K M := rfl
theorem hgx_astore_6l : hgEx X rm C J ((.astore 6, l, ps, hs) :: rs) (a0 :: a1 :: a2 :: a3 :: a4 :: some (.long v) :: a6 :: L) (.ref a :: S) K M = hgEx X rm C J rs (a0 :: a1 :: a2 :: a3 :: a4 :: none :: some (.ref a) :: L) S K M := rfl
theorem hgx_astore_n_1i : hgEx X rm C J ((.astore_n 1, l, ps, hs) :: rs) (some (.int y) :: a1 :: L) (.ref a :: S) K M = hgEx X rm C J rs (some (.int y) :: some (.ref a) :: L) S K M := rfl
theorem hgx_astore_n_1r : hgEx X rm C J ((.astore_n 1, l, ps, hs) :: rs) (some (.ref b) :: a1 :: L) (.ref a :: S) K M = hgEx X rm C J rs (some (.ref b) :: some (.ref a) :: L) S K M := rfl
theorem hgx_astore_n_1f : hgEx X rm C J ((.astore_n 1, l, ps, hs) :: rs) (some (.float g) :: a1 :: L) (.ref a :: S) K M = hgEx X rm C J rs (some (.float g) :: some (.ref a) :: L) S K M := rfl
theorem hgx_astore_n_1n : hgEx X rm C J ((.astore_n 1, l, ps, hs) :: rs) (none :: a1 :: L) (.ref a :: S) K M = hgEx X rm C J rs (none :: some (.ref a) :: L) S K M := rfl
theorem hgx_astore_n_1l : hgEx X rm C J ((.astore_n 1, l, ps, hs) :: rs) (some (.long v) :: a1 :: L) (.ref a :: S) K M = hgEx X rm C J rs (none :: some (.ref a) :: L) S K M := rfl
theorem hgx_astore_n_2i : hgEx X rm C J ((.astore_n 2, l, ps, hs) :: rs) (a0 :: some (.int y) :: a2 :: L) (.ref a :: S) K M = hgEx X rm C J rs (a0 :: some (.int y) :: some (.ref a) :: L) S K M := rfl
theorem hgx_astore_n_2r : hgEx X rm C J ((.astore_n 2, l, ps, hs) :: rs) (a0 :: some (.ref b) :: a2 :: L) (.ref a :: S) K M = hgEx X rm C J rs (a0 :: some (.ref b) :: some (.ref a) :: L) S K M := rfl
theorem hgx_astore_n_2f : hgEx X rm C J ((.astore_n 2, l, ps, hs) :: rs) (a0 :: some (.float g) :: a2 :: L) (.ref a :: S) K M = hgEx X rm C J rs (a0 :: some (.float g) :: some (.ref a) :: L) S K M := rfl
theorem hgx_astore_n_2n : hgEx X rm C J ((.astore_n 2, l, ps, hs) :: rs) (a0 :: none :: a2 :: L) (.ref a :: S) K M = hgEx X rm C J rs (a0 :: none :: some (.ref a) :: L) S K M := rfl
theorem hgx_astore_n_2l : hgEx X rm C J ((.astore_n 2, l, ps, hs) :: rs) (a0 :: some (.long v) :: a2 :: L) (.ref a :: S) K M = hgEx X rm C J rs (a0 :: none :: some (.ref a) :: L) S K M := rfl
theorem hgx_astore_n_3i : hgEx X rm C J ((.astore_n 3, l, ps, hs) :: rs) (a0 :: a1 :: some (.int y) :: a3 :: L) (.ref a :: S) K M = hgEx X rm C J rs (a0 :: a1 :: some (.int y) :: some (.ref a) :: L) S K M := rfl
theorem hgx_astore_n_3r : hgEx X rm C J ((.astore_n 3, l, ps, hs) :: rs) (a0 :: a1 :: some (.ref b) :: a3 :: L) (.ref a :: S) K M = hgEx X rm C J rs (a0 :: a1 :: some (.ref b) :: some (.ref a) :: L) S K M := rfl
theorem hgx_astore_n_3f : hgEx X rm C J ((.astore_n 3, l, ps, hs) :: rs) (a0 :: a1 :: some (.float g) :: a3 :: L) (.ref a :: S) K M = hgEx X rm C J rs (a0 :: a1 :: some (.float g) :: some (.ref a) :: L) S K M := rfl
theorem hgx_astore_n_3n : hgEx X rm C J ((.astore_n 3, l, ps, hs) :: rs) (a0 :: a1 :: none :: a3 :: L) (.ref a :: S) K M = hgEx X rm C J rs (a0 :: a1 :: none :: some (.ref a) :: L) S K M := rfl
theorem hgx_astore_n_3l : hgEx X rm C J ((.astore_n 3, l, ps, hs) :: rs) (a0 :: a1 :: some (.long v) :: a3 :: L) (.ref a :: S) K M = hgEx X rm C J rs (a0 :: a1 :: none :: some (.ref a) :: L) S K M := rfl
theorem hgx_fstore_4i : hgEx X rm C J ((.fstore 4, l, ps, hs) :: rs) (a0 :: a1 :: a2 :: some (.int y) :: a4 :: L) (.float f :: S) K M = hgEx X rm C J rs (a0 :: a1 :: a2 :: some (.int y) :: some (.float f) :: L) S K M := rfl
theorem hgx_fstore_4r : hgEx X rm C J ((.fstore 4, l, ps, hs) :: rs) (a0 :: a1 :: a2 :: some (.ref b) :: a4 :: L) (.float f :: S) K M = hgEx X rm C J rs (a0 :: a1 :: a2 :: some (.ref b) :: some (.float f) :: L) S K M := rfl
theorem hgx_fstore_4f : hgEx X rm C J ((.fstore 4, l, ps, hs) :: rs) (a0 :: a1 :: a2 :: some (.float g) :: a4 :: L) (.float f :: S) K M = hgEx X rm C J rs (a0 :: a1 :: a2 :: some (.float g) :: some (.float f) :: L) S K M := rfl
theorem hgx_fstore_4n : hgEx X rm C J ((.fstore 4, l, ps, hs) :: rs) (a0 :: a1 :: a2 :: none :: a4 :: L) (.float f :: S) K M = hgEx X rm C J rs (a0 :: a1 :: a2 :: none :: some (.float f) :: L) S K M := rfl
theorem hgx_fstore_4l : hgEx X rm C J ((.fstore 4, l, ps, hs) :: rs) (a0 :: a1 :: a2 :: some (.long v) :: a4 :: L) (.float f :: S) K M = hgEx X rm C J rs (a0 :: a1 :: a2 :: none :: some (.float f) :: L) S K M := rfl
theorem hgx_fstore_n_1i : hgEx X rm C J ((.fstore_n 1, l, ps, hs) :: rs) (some (.int y) :: a1 :: L) (.float f :: S) K M = hgEx X rm C J rs (some (.int y) :: some (.float f) :: L) S K M := rfl
theorem hgx_fstore_n_1r : hgEx X rm C J ((.fstore_n 1, l, ps, hs) :: rs) (some (.ref b) :: a1 :: L) (.float f :: S) K M = hgEx X rm C J rs (some (.ref b) :: some (.float f) :: L) S K M := rfl
theorem hgx_fstore_n_1f : hgEx X rm C J ((.fstore_n 1, l, ps, hs) :: rs) (some (.float g) :: a1 :: L) (.float f :: S) K M = hgEx X rm C J rs (some (.float g) :: some (.float f) :: L) S K M := rfl
theorem hgx_fstore_n_1n : hgEx X rm C J ((.fstore_n 1, l, ps, hs) :: rs) (none :: a1 :: L) (.float f :: S) K M = hgEx X rm C J rs (none :: some (.float f) :: L) S K M := rfl
theorem hgx_fstore_n_1l : hgEx X rm C J ((.fstore_n 1, l, ps, hs) :: rs) (some (.long v) :: a1 :: L) (.float f :: S) K M = hgEx X rm C J rs (none :: some (.float f) :: L) S K M := rfl
theorem hgx_fstore_n_2i : hgEx X rm C J ((.fstore_n 2, l, ps, hs) :: rs) (a0 :: some (.int y) :: a2 :: L) (.float f :: S) K M = hgEx X rm C J rs (a0 :: some (.int y) :: some (.float f) :: L) S K M := rfl
theorem hgx_fstore_n_2r : hgEx X rm C J ((.fstore_n 2, l, ps, hs) :: rs) (a0 :: some (.ref b) :: a2 :: L) (.float f :: S) K M = hgEx X rm C J rs (a0 :: some (.ref b) :: some (.float f) :: L) S K M := rfl
theorem hgx_fstore_n_2f : hgEx X rm C J ((.fstore_n 2, l, ps, hs) :: rs) (a0 :: some (.float g) :: a2 :: L) (.float f :: S) K M = hgEx X rm C J rs (a0 :: some (.float g) :: some (.float f) :: L) S K M := rfl
theorem hgx_fstore_n_2n : hgEx X rm C J ((.fstore_n 2, l, ps, hs) :: rs) (a0 :: none :: a2 :: L) (.float f :: S) K M = hgEx X rm C J rs (a0 :: none :: some (.float f) :: L) S K M := rfl
theorem hgx_fstore_n_2l : hgEx X rm C J ((.fstore_n 2, l, ps, hs) :: rs) (a0 :: some (.long v) :: a2 :: L) (.float f :: S) K M = hgEx X rm C J rs (a0 :: none :: some (.float f) :: L) S K M := rfl
theorem hgx_istore_4i : hgEx X rm C J ((.istore 4, l, ps, hs) :: rs) (a0 :: a1 :: a2 :: some (.int y) :: a4 :: L) (.int x :: S) K M = hgEx X rm C J rs (a0 :: a1 :: a2 :: some (.int y) :: some (.int x) :: L) S K M := rfl
theorem hgx_istore_4r : hgEx X rm C J ((.istore 4, l, ps, hs) :: rs) (a0 :: a1 :: a2 :: some (.ref b) :: a4 :: L) (.int x :: S) K M = hgEx X rm C J rs (a0 :: a1 :: a2 :: some (.ref b) :: some (.int x) :: L) S K M := rfl
theorem hgx_istore_4f : hgEx X rm C J ((.istore 4, l, ps, hs) :: rs) (a0 :: a1 :: a2 :: some (.float g) :: a4 :: L) (.int x :: S) K M = hgEx X rm C J rs (a0 :: a1 :: a2 :: some (.float g) :: some (.int x) :: L) S K M := rfl
theorem hgx_istore_4n : hgEx X rm C J ((.istore 4, l, ps, hs) :: rs) (a0 :: a1 :: a2 :: none :: a4 :: L) (.int x :: S) K M = hgEx X rm C J rs (a0 :: a1 :: a2 :: none :: some (.int x) :: L) S K M := rfl
theorem hgx_istore_4l : hgEx X rm C J ((.istore 4, l, ps, hs) :: rs) (a0 :: a1 :: a2 :: some (.long v) :: a4 :: L) (.int x :: S) K M = hgEx X rm C J rs (a0 :: a1 :: a2 :: none :: some (.int x) :: L) S K M := rfl
theorem hgx_istore_5i : hgEx X rm C J ((.istore 5, l, ps, hs) :: rs) (a0 :: a1 :: a2 :: a3 :: some (.int y) :: a5 :: L) (.int x :: S) K M = hgEx X rm C J rs (a0 :: a1 :: a2 :: a3 :: some (.int y) :: some (.int x) :: L) S K M := rfl
theorem hgx_istore_5r : hgEx X rm C J ((.istore 5, l, ps, hs) :: rs) (a0 :: a1 :: a2 :: a3 :: some (.ref b) :: a5 :: L) (.int x :: S) K M = hgEx X rm C J rs (a0 :: a1 :: a2 :: a3 :: some (.ref b) :: some (.int x) :: L) S K M := rfl
theorem hgx_istore_5f : hgEx X rm C J ((.istore 5, l, ps, hs) :: rs) (a0 :: a1 :: a2 :: a3 :: some (.float g) :: a5 :: L) (.int x :: S) K M = hgEx X rm C J rs (a0 :: a1 :: a2 :: a3 :: some (.float g) :: some (.int x) :: L) S K M := rfl
theorem hgx_istore_5n : hgEx X rm C J ((.istore 5, l, ps, hs) :: rs) (a0 :: a1 :: a2 :: a3 :: none :: a5 :: L) (.int x :: S) K M = hgEx X rm C J rs (a0 :: a1 :: a2 :: a3 :: none :: some (.int x) :: L) S K M := rfl
theorem hgx_istore_5l : hgEx X rm C J ((.istore 5, l, ps, hs) :: rs) (a0 :: a1 :: a2 :: a3 :: some (.long v) :: a5 :: L) (.int x :: S) K M = hgEx X rm C J rs (a0 :: a1 :: a2 :: a3 :: none :: some (.int x) :: L) S K M := rfl
theorem hgx_istore_6i : hgEx X rm C J ((.istore 6, l, ps, hs) :: rs) (a0 :: a1 :: a2 :: a3 :: a4 :: some (.int y) :: a6 :: L) (.int x :: S) K M = hgEx X rm C J rs (a0 :: a1 :: a2 :: a3 :: a4 :: some (.int y) :: some (.int x) :: L) S K M := rfl
theorem hgx_istore_6r : hgEx X rm C J ((.istore 6, l, ps, hs) :: rs) (a0 :: a1 :: a2 :: a3 :: a4 :: some (.ref b) :: a6 :: L) (.int x :: S) K M = hgEx X rm C J rs (a0 :: a1 :: a2 :: a3 :: a4 :: some (.ref b) :: some (.int x) :: L) S K M := rfl
theorem hgx_istore_6f : hgEx X rm C J ((.istore 6, l, ps, hs) :: rs) (a0 :: a1 :: a2 :: a3 :: a4 :: some (.float g) :: a6 :: L) (.int x :: S) K M = hgEx X rm C J rs (a0 :: a1 :: a2 :: a3 :: a4 :: some (.float g) :: some (.int x) :: L) S K M := rfl
theorem hgx_istore_6n : hgEx X rm C J ((.istore 6, l, ps, hs) :: rs) (a0 :: a1 :: a2 :: a3 :: a4 :: none :: a6 :: L) (.int x :: S) K M = hgEx X rm C J rs (a0 :: a1 :: a2 :: a3 :: a4 :: none :: some (.int x) :: L) S K M := rfl
theorem hgx_istore_6l : hgEx X rm C J ((.istore 6, l, ps, hs) :: rs) (a0 :: a1 :: a2 :: a3 :: a4 :: some (.long v) :: a6 :: L) (.int x :: S) K M = hgEx X rm C J rs (a0 :: a1 :: a2 :: a3 :: a4 :: none :: some (.int x) :: L) S K M := rfl
theorem hgx_istore_7i : hgEx X rm C J ((.istore 7, l, ps, hs) :: rs) (a0 :: a1 :: a2 :: a3 :: a4 :: a5 :: some (.int y) :: a7 :: L) (.int x :: S) K M = hgEx X rm C J rs (a0 :: a1 :: a2 :: a3 :: a4 :: a5 :: some (.int y) :: some (.int x) :: L) S K M := rfl
theorem hgx_istore_7r : hgEx X rm C J ((.istore 7, l, ps, hs) :: rs) (a0 :: a1 :: a2 :: a3 :: a4 :: a5 :: some (.ref b) :: a7 :: L) (.int x :: S) K M = hgEx X rm C J rs (a0 :: a1 :: a2 :: a3 :: a4 :: a5 :: some (.ref b) :: some (.int x) :: L) S K M := rfl
theorem hgx_istore_7f : hgEx X rm C J ((.istore 7, l, ps, hs) :: rs) (a0 :: a1 :: a2 :: a3 :: a4 :: a5 :: some (.float g) :: a7 :: L) (.int x :: S) K M = hgEx X rm C J rs (a0 :: a1 :: a2 :: a3 :: a4 :: a5 :: some (.float g) :: some (.int x) :: L) S K M := rfl
theorem hgx_istore_7n : hgEx X rm C J ((.istore 7, l, ps, hs) :: rs) (a0 :: a1 :: a2 :: a3 :: a4 :: a5 :: none :: a7 :: L) (.int x :: S) K M = hgEx X rm C J rs (a0 :: a1 :: a2 :: a3 :: a4 :: a5 :: none :: some (.int x) :: L) S K M := rfl
theorem hgx_istore_7l : hgEx X rm C J ((.istore 7, l, ps, hs) :: rs) (a0 :: a1 :: a2 :: a3 :: a4 :: a5 :: some (.long v) :: a7 :: L) (.int x :: S) K M = hgEx X rm C J rs (a0 :: a1 :: a2 :: a3 :: a4 :: a5 :: none :: some (.int x) :: L) S K M := rfl
theorem hgx_istore_8i : hgEx X rm C J ((.istore 8, l, ps, hs) :: rs) (a0 :: a1 :: a2 :: a3 :: a4 :: a5 :: a6 :: some (.int y) :: a8 :: L) (.int x :: S) K M = hgEx X rm C J rs (a0 :: a1 :: a2 :: a3 :: a4 :: a5 :: a6 :: some (.int y) :: some (.int x) :: L) S K M := rfl
theorem hgx_istore_8r : hgEx X rm C J ((.istore 8, l, ps, hs) :: rs) (a0 :: a1 :: a2 :: a3 :: a4 :: a5 :: a6 :: some (.ref b) :: a8 :: L) (.int x :: S) K M = hgEx X rm C J rs (a0 :: a1 :: a2 :: a3 :: a4 :: a5 :: a6 :: some (.ref b) :: some (.int x) :: L) S K M := rfl
theorem hgx_istore_8f : hgEx X rm C J ((.istore 8, l, ps, hs) :: rs) (a0 :: a1 :: a2 :: a3 :: a4 :: a5 :: a6 :: some (.float g) :: a8 :: L) (.int x :: S) K M = hgEx X rm C J rs (a0 :: a1 :: a2 :: a3 :: a4 :: a5 :: a6 :: some (.float g) :: some (.int x) :: L) S K M := rfl
theorem hgx_istore_8n : hgEx X rm C J ((.istore 8, l, ps, hs) :: rs) (a0 :: a1 :: a2 :: a3 :: a4 :: a5 :: a6 :: none :: a8 :: L) (.int x :: S) K M = hgEx X rm C J rs (a0 :: a1 :: a2 :: a3 :: a4 :: a5 :: a6 :: none :: some (.int x) :: L) S K M := rfl
theorem hgx_istore_8l : hgEx X rm C J ((.istore 8, l, ps, hs) :: rs) (a0 :: a1 :: a2 :: a3 :: a4 :: a5 :: a6 :: some (.long v) :: a8 :: L) (.int x :: S) K M = hgEx X rm C J rs (a0 :: a1 :: a2 :: a3 :: a4 :: a5 :: a6 :: none :: some (.int x) :: L) S K M := rfl
theorem hgx_istore_n_1i : hgEx X rm C J ((.istore_n 1, l, ps, hs) :: rs) (some (.int y) :: a1 :: L) (.int x :: S) K M = hgEx X rm C J rs (some (.int y) :: some (.int x) :: L) S K M := rfl
theorem hgx_istore_n_1r : hgEx X rm C J ((.istore_n 1, l, ps, hs) :: rs) (some (.ref b) :: a1 :: L) (.int x :: S) K M = hgEx X rm C J rs (some (.ref b) :: some (.int x) :: L) S K M := rfl
theorem hgx_istore_n_1f : hgEx X rm C J ((.istore_n 1, l, ps, hs) :: rs) (some (.float g) :: a1 :: L) (.int x :: S) K M = hgEx X rm C J rs (some (.float g) :: some (.int x) :: L) S K M := rfl
theorem hgx_istore_n_1n : hgEx X rm C J ((.istore_n 1, l, ps, hs) :: rs) (none :: a1 :: L) (.int x :: S) K M = hgEx X rm C J rs (none :: some (.int x) :: L) S K M := rfl
theorem hgx_istore_n_1l : hgEx X rm C J ((.istore_n 1, l, ps, hs) :: rs) (some (.long v) :: a1 :: L) (.int x :: S) K M = hgEx X rm C J rs (none :: some (.int x) :: L) S K M := rfl
theorem hgx_istore_n_2i : hgEx X rm C J ((.istore_n 2, l, ps, hs) :: rs) (a0 :: some (.int y) :: a2 :: L) (.int x :: S) K M = hgEx X rm C J rs (a0 :: some (.int y) :: some (.int x) :: L) S K M := rfl
theorem hgx_istore_n_2r : hgEx X rm C J ((.istore_n 2, l, ps, hs) :: rs) (a0 :: some (.ref b) :: a2 :: L) (.int x :: S) K M = hgEx X rm C J rs (a0 :: some (.ref b) :: some (.int x) :: L) S K M := rfl
theorem hgx_istore_n_2f : hgEx X rm C J ((.istore_n 2, l, ps, hs) :: rs) (a0 :: some (.float g) :: a2 :: L) (.int x :: S) K M = hgEx X rm C J rs (a0 :: some (.float g) :: some (.int x) :: L) S K M := rfl
theorem hgx_istore_n_2n : hgEx X rm C J ((.istore_n 2, l, ps, hs) :: rs) (a0 :: none :: a2 :: L) (.int x :: S) K M = hgEx X rm C J rs (a0 :: none :: some (.int x) :: L) S K M := rfl
theorem hgx_istore_n_2l : hgEx X rm C J ((.istore_n 2, l, ps, hs) :: rs) (a0 :: some (.long v) :: a2 :: L) (.int x :: S) K M = hgEx X rm C J rs (a0 :: none :: some (.int x) :: L) S K M := rfl
theorem hgx_istore_n_3i : hgEx X rm C J ((.istore_n 3, l, ps, hs) :: rs) (a0 :: a1 :: some (.int y) :: a3 :: L) (.int x :: S) K M = hgEx X rm C J rs (a0 :: a1 :: some (.int y) :: some (.int x) :: L) S K M := rfl
theorem hgx_istore_n_3r : hgEx X rm C J ((.istore_n 3, l, ps, hs) :: rs) (a0 :: a1 :: some (.ref b) :: a3 :: L) (.int x :: S) K M = hgEx X rm C J rs (a0 :: a1 :: some (.ref b) :: some (.int x) :: L) S K M := rfl
theorem hgx_istore_n_3f : hgEx X rm C J ((.istore_n 3, l, ps, hs) :: rs) (a0 :: a1 :: some (.float g) :: a3 :: L) (.int x :: S) K M = hgEx X rm C J rs (a0 :: a1 :: some (.float g) :: some (.int x) :: L) S K M := rfl
theorem hgx_istore_n_3n : hgEx X rm C J ((.istore_n 3, l, ps, hs) :: rs) (a0 :: a1 :: none :: a3 :: L) (.int x :: S) K M = hgEx X rm C J rs (a0 :: a1 :: none :: some (.int x) :: L) S K M := rfl
theorem hgx_istore_n_3l : hgEx X rm C J ((.istore_n 3, l, ps, hs) :: rs) (a0 :: a1 :: some (.long v) :: a3 :: L) (.int x :: S) K M = hgEx X rm C J rs (a0 :: a1 :: none :: some (.int x) :: L) S K M := rfl
theorem hgx_lstore_6i : hgEx X rm C J ((.lstore 6, l, ps, hs) :: rs) (a0 :: a1 :: a2 :: a3 :: a4 :: some (.int y) :: a6 :: a7 :: L) (.long u :: S) K M = hgEx X rm C J rs (a0 :: a1 :: a2 :: a3 :: a4 :: some (.int y) :: some (.long u) :: none :: L) S K M := rfl
theorem hgx_lstore_6r : hgEx X rm C J ((.lstore 6, l, ps, hs) :: rs) (a0 :: a1 :: a2 :: a3 :: a4 :: some (.ref b) :: a6 :: a7 :: L) (.long u :: S) K M = hgEx X rm C J rs (a0 :: a1 :: a2 :: a3 :: a4 :: some (.ref b) :: some (.long u) :: none :: L) S K M := rfl
theorem hgx_lstore_6f : hgEx X rm C J ((.lstore 6, l, ps, hs) :: rs) (a0 :: a1 :: a2 :: a3 :: a4 :: some (.float g) :: a6 :: a7 :: L) (.long u :: S) K M = hgEx X rm C J rs (a0 :: a1 :: a2 :: a3 :: a4 :: some (.float g) :: some (.long u) :: none :: L) S K M := rfl
theorem hgx_lstore_6n : hgEx X rm C J ((.lstore 6, l, ps, hs) :: rs) (a0 :: a1 :: a2 :: a3 :: a4 :: none :: a6 :: a7 :: L) (.long u :: S) K M = hgEx X rm C J rs (a0 :: a1 :: a2 :: a3 :: a4 :: none :: some (.long u) :: none :: L) S K M := rfl
theorem hgx_lstore_6l : hgEx X rm C J ((.lstore 6, l, ps, hs) :: rs) (a0 :: a1 :: a2 :: a3 :: a4 :: some (.long v) :: a6 :: a7 :: L) (.long u :: S) K M = hgEx X rm C J rs (a0 :: a1 :: a2 :: a3 :: a4 :: none :: some (.long u) :: none :: L) S K M := rfl
theorem hgx_lstore_n_1i : hgEx X rm C J ((.lstore_n 1, l, ps, hs) :: rs) (some (.int y) :: a1 :: a2 :: L) (.long u :: S) K M = hgEx X rm C J rs (some (.int y) :: some (.long u) :: none :: L) S K M := rfl
theorem hgx_lstore_n_1r : hgEx X rm C J ((.lstore_n 1, l, ps, hs) :: rs) (some (.ref b) :: a1 :: a2 :: L) (.long u :: S) K M = hgEx X rm C J rs (some (.ref b) :: some (.long u) :: none :: L) S K M := rfl
theorem hgx_lstore_n_1f : hgEx X rm C J ((.lstore_n 1, l, ps, hs) :: rs) (some (.float g) :: a1 :: a2 :: L) (.long u :: S) K M = hgEx X rm C J rs (some (.float g) :: some (.long u) :: none :: L) S K M := rfl
theorem hgx_lstore_n_1n : hgEx X rm C J ((.lstore_n 1, l, ps, hs) :: rs) (none :: a1 :: a2 :: L) (.long u :: S) K M = hgEx X rm C J rs (none :: some (.long u) :: none :: L) S K M := rfl
theorem hgx_lstore_n_1l : hgEx X rm C J ((.lstore_n 1, l, ps, hs) :: rs) (some (.long v) :: a1 :: a2 :: L) (.long u :: S) K M = hgEx X rm C J rs (none :: some (.long u) :: none :: L) S K M := rfl
theorem hgx_lstore_n_3i : hgEx X rm C J ((.lstore_n 3, l, ps, hs) :: rs) (a0 :: a1 :: some (.int y) :: a3 :: a4 :: L) (.long u :: S) K M = hgEx X rm C J rs (a0 :: a1 :: some (.int y) :: some (.long u) :: none :: L) S K M := rfl
theorem hgx_lstore_n_3r : hgEx X rm C J ((.lstore_n 3, l, ps, hs) :: rs) (a0 :: a1 :: some (.ref b) :: a3 :: a4 :: L) (.long u :: S) K M = hgEx X rm C J rs (a0 :: a1 :: some (.ref b) :: some (.long u) :: none :: L) S K M := rfl
theorem hgx_lstore_n_3f : hgEx X rm C J ((.lstore_n 3, l, ps, hs) :: rs) (a0 :: a1 :: some (.float g) :: a3 :: a4 :: L) (.long u :: S) K M = hgEx X rm C J rs (a0 :: a1 :: some (.float g) :: some (.long u) :: none :: L) S K M := rfl
theorem hgx_lstore_n_3n : hgEx X rm C J ((.lstore_n 3, l, ps, hs) :: rs) (a0 :: a1 :: none :: a3 :: a4 :: L) (.long u :: S) K M = hgEx X rm C J rs (a0 :: a1 :: none :: some (.long u) :: none :: L) S K M := rfl
theorem hgx_lstore_n_3l : hgEx X rm C J ((.lstore_n 3, l, ps, hs) :: rs) (a0 :: a1 :: some (.long v) :: a3 :: a4 :: L) (.long u :: S) K M = hgEx X rm C J rs (a0 :: a1 :: none :: some (.long u) :: none :: L) S K M := rfl
theorem hgx_iinc_1_1 : hgEx X rm C J ((.iinc 1 1, l, ps, hs) :: rs) (a0 :: some (.int x) :: L) S K M = hgEx X rm C J rs (a0 :: some (.int (x + nI 1)) :: L) S K M := rfl
theorem hgx_iinc_2_m8 : hgEx X rm C J ((.iinc 2 (-8), l, ps, hs) :: rs) (a0 :: a1 :: some (.int x) :: L) S K M = hgEx X rm C J rs (a0 :: a1 :: some (.int (x - nI 8)) :: L) S K M := by
  show hgEx X rm C J rs (a0 :: a1 :: some (.int (x + Int32.ofInt (-8))) :: L) S K M = _
  rw [Int32.sub_eq_add_neg]
  rfl
theorem hgx_iinc_2_1 : hgEx X rm C J ((.iinc 2 1, l, ps, hs) :: rs) (a0 :: a1 :: some (.int x) :: L) S K M = hgEx X rm C J rs (a0 :: a1 :: some (.int (x + nI 1)) :: L) S K M := rfl
theorem hgx_iinc_3_m1 : hgEx X rm C J ((.iinc 3 (-1), l, ps, hs) :: rs) (a0 :: a1 :: a2 :: some (.int x) :: L) S K M = hgEx X rm C J rs (a0 :: a1 :: a2 :: some (.int (x - nI 1)) :: L) S K M := by
  show hgEx X rm C J rs (a0 :: a1 :: a2 :: some (.int (x + Int32.ofInt (-1))) :: L) S K M = _
  rw [Int32.sub_eq_add_neg]
  rfl
theorem hgx_iinc_3_1 : hgEx X rm C J ((.iinc 3 1, l, ps, hs) :: rs) (a0 :: a1 :: a2 :: some (.int x) :: L) S K M = hgEx X rm C J rs (a0 :: a1 :: a2 :: some (.int (x + nI 1)) :: L) S K M := rfl
theorem hgx_iinc_4_m1 : hgEx X rm C J ((.iinc 4 (-1), l, ps, hs) :: rs) (a0 :: a1 :: a2 :: a3 :: some (.int x) :: L) S K M = hgEx X rm C J rs (a0 :: a1 :: a2 :: a3 :: some (.int (x - nI 1)) :: L) S K M := by
  show hgEx X rm C J rs (a0 :: a1 :: a2 :: a3 :: some (.int (x + Int32.ofInt (-1))) :: L) S K M = _
  rw [Int32.sub_eq_add_neg]
  rfl
theorem hgx_iinc_4_1 : hgEx X rm C J ((.iinc 4 1, l, ps, hs) :: rs) (a0 :: a1 :: a2 :: a3 :: some (.int x) :: L) S K M = hgEx X rm C J rs (a0 :: a1 :: a2 :: a3 :: some (.int (x + nI 1)) :: L) S K M := rfl
theorem hgx_iinc_4_6 : hgEx X rm C J ((.iinc 4 6, l, ps, hs) :: rs) (a0 :: a1 :: a2 :: a3 :: some (.int x) :: L) S K M = hgEx X rm C J rs (a0 :: a1 :: a2 :: a3 :: some (.int (x + nI 6)) :: L) S K M := rfl
theorem hgx_iinc_5_1 : hgEx X rm C J ((.iinc 5 1, l, ps, hs) :: rs) (a0 :: a1 :: a2 :: a3 :: a4 :: some (.int x) :: L) S K M = hgEx X rm C J rs (a0 :: a1 :: a2 :: a3 :: a4 :: some (.int (x + nI 1)) :: L) S K M := rfl
theorem hgx_iinc_6_1 : hgEx X rm C J ((.iinc 6 1, l, ps, hs) :: rs) (a0 :: a1 :: a2 :: a3 :: a4 :: a5 :: some (.int x) :: L) S K M = hgEx X rm C J rs (a0 :: a1 :: a2 :: a3 :: a4 :: a5 :: some (.int (x + nI 1)) :: L) S K M := rfl
theorem hgx_iinc_8_1 : hgEx X rm C J ((.iinc 8 1, l, ps, hs) :: rs) (a0 :: a1 :: a2 :: a3 :: a4 :: a5 :: a6 :: a7 :: some (.int x) :: L) S K M = hgEx X rm C J rs (a0 :: a1 :: a2 :: a3 :: a4 :: a5 :: a6 :: a7 :: some (.int (x + nI 1)) :: L) S K M := rfl
theorem hgx_iadd : hgEx X rm C J ((.iadd, l, ps, hs) :: rs) L (.int y :: .int x :: S) K M = hgEx X rm C J rs L (.int (x + y) :: S) K M := rfl
theorem hgx_isub : hgEx X rm C J ((.isub, l, ps, hs) :: rs) L (.int y :: .int x :: S) K M = hgEx X rm C J rs L (.int (x - y) :: S) K M := rfl
theorem hgx_imul : hgEx X rm C J ((.imul, l, ps, hs) :: rs) L (.int y :: .int x :: S) K M = hgEx X rm C J rs L (.int (x * y) :: S) K M := rfl
theorem hgx_iand : hgEx X rm C J ((.iand, l, ps, hs) :: rs) L (.int y :: .int x :: S) K M = hgEx X rm C J rs L (.int (x &&& y) :: S) K M := rfl
theorem hgx_ior : hgEx X rm C J ((.ior, l, ps, hs) :: rs) L (.int y :: .int x :: S) K M = hgEx X rm C J rs L (.int (x ||| y) :: S) K M := rfl
theorem hgx_ishl : hgEx X rm C J ((.ishl, l, ps, hs) :: rs) L (.int y :: .int x :: S) K M = hgEx X rm C J rs L (.int (x <<< (y &&& 31)) :: S) K M := rfl
theorem hgx_ishr : hgEx X rm C J ((.ishr, l, ps, hs) :: rs) L (.int y :: .int x :: S) K M = hgEx X rm C J rs L (.int (x >>> (y &&& 31)) :: S) K M := rfl
theorem hgx_iushr : hgEx X rm C J ((.iushr, l, ps, hs) :: rs) L (.int y :: .int x :: S) K M = hgEx X rm C J rs L (.int ((x.toUInt32 >>> (y.toUInt32 &&& Int32.toUInt32 31)).toInt32) :: S) K M := rfl
theorem hgx_idiv (h : y ≠ 0) : hgEx X rm C J ((.idiv, l, ps, hs) :: rs) L (.int y :: .int x :: S) K M = hgEx X rm C J rs L (.int (x / y) :: S) K M := if_neg h
theorem hgx_irem (h : y ≠ 0) : hgEx X rm C J ((.irem, l, ps, hs) :: rs) L (.int y :: .int x :: S) K M = hgEx X rm C J rs L (.int (x - x / y * y) :: S) K M := if_neg h
theorem hgx_i2l : hgEx X rm C J ((.i2l, l, ps, hs) :: rs) L (.int x :: S) K M = hgEx X rm C J rs L (.long x.toInt64 :: S) K M := rfl
theorem hgx_i2b : hgEx X rm C J ((.i2b, l, ps, hs) :: rs) L (.int x :: S) K M = hgEx X rm C J rs L (.int x.toInt8.toInt32 :: S) K M := rfl
theorem hgx_i2f : hgEx X rm C J ((.i2f, l, ps, hs) :: rs) L (.int x :: S) K M = hgEx X rm C J rs L (.float (FP.i2f x) :: S) K M := rfl
theorem hgx_f2i : hgEx X rm C J ((.f2i, l, ps, hs) :: rs) L (.float f :: S) K M = hgEx X rm C J rs L (.int (FP.f2i f) :: S) K M := rfl
theorem hgx_ladd : hgEx X rm C J ((.ladd, l, ps, hs) :: rs) L (.long v :: .long u :: S) K M = hgEx X rm C J rs L (.long (u + v) :: S) K M := rfl
theorem hgx_lmul : hgEx X rm C J ((.lmul, l, ps, hs) :: rs) L (.long v :: .long u :: S) K M = hgEx X rm C J rs L (.long (u * v) :: S) K M := rfl
theorem hgx_lcmp : hgEx X rm C J ((.lcmp, l, ps, hs) :: rs) L (.long v :: .long u :: S) K M = hgEx X rm C J rs L (.int (lg_cmp u v) :: S) K M := rfl
theorem hgx_fadd (h : (FP.fadd f g) &&& 0x7fffffff ≤ 0x7f800000) : hgEx X rm C J ((.fadd, l, ps, hs) :: rs) L (.float g :: .float f :: S) K M = hgEx X rm C J rs L (.float (FP.fadd f g) :: S) K M := if_pos h
theorem hgx_fmul (h : (FP.fmul f g) &&& 0x7fffffff ≤ 0x7f800000) : hgEx X rm C J ((.fmul, l, ps, hs) :: rs) L (.float g :: .float f :: S) K M = hgEx X rm C J rs L (.float (FP.fmul f g) :: S) K M := if_pos h
theorem hgx_fdiv (h : (FP.fdiv f g) &&& 0x7fffffff ≤ 0x7f800000) : hgEx X rm C J ((.fdiv, l, ps, hs) :: rs) L (.float g :: .float f :: S) K M = hgEx X rm C J rs L (.float (FP.fdiv f g) :: S) K M := if_pos h
theorem hgx_fcmp {q : CmpOp} : hgEx X rm C J ((.fcmp q, l, ps, hs) :: rs) L (.float g :: .float f :: S) K M = hgEx X rm C J rs L (.int (Op.cmpValue (FP.fcmp f g) q) :: S) K M := rfl
theorem hgx_dup_i : hgEx X rm C J ((.dup, l, ps, hs) :: rs) L (.int x :: S) K M = hgEx X rm C J rs L (.int x :: .int x :: S) K M := rfl
theorem hgx_pop_i : hgEx X rm C J ((.pop, l, ps, hs) :: rs) L (.int x :: S) K M = hgEx X rm C J rs L S K M := rfl
theorem hgx_dup_f : hgEx X rm C J ((.dup, l, ps, hs) :: rs) L (.float f :: S) K M = hgEx X rm C J rs L (.float f :: .float f :: S) K M := rfl
theorem hgx_pop_f : hgEx X rm C J ((.pop, l, ps, hs) :: rs) L (.float f :: S) K M = hgEx X rm C J rs L S K M := rfl
theorem hgx_dup_r : hgEx X rm C J ((.dup, l, ps, hs) :: rs) L (.ref a :: S) K M = hgEx X rm C J rs L (.ref a :: .ref a :: S) K M := rfl
theorem hgx_pop_r : hgEx X rm C J ((.pop, l, ps, hs) :: rs) L (.ref a :: S) K M = hgEx X rm C J rs L S K M := rfl
theorem hgx_dup2 : hgEx X rm C J ((.dup2, l, ps, hs) :: rs) L (.int x :: .ref a :: S) K M = hgEx X rm C J rs L (.int x :: .ref a :: .int x :: .ref a :: S) K M := rfl
theorem hgx_goto {q : Int} : hgEx X rm C J ((.goto q, l, [t], hs) :: rs) L S K M = J t L S K M := rfl
theorem hgx_if_eq {q : Int} : hgEx X rm C J ((.ifCond .eq q, l, [t], hs) :: rs) L (.int x :: S) K M = if x = nI 0 then J t L S K M else hgEx X rm C J rs L S K M := rfl
theorem hgx_if_ne {q : Int} : hgEx X rm C J ((.ifCond .ne q, l, [t], hs) :: rs) L (.int x :: S) K M = if x = nI 0 then hgEx X rm C J rs L S K M else J t L S K M := rfl
theorem hgx_if_lt {q : Int} : hgEx X rm C J ((.ifCond .lt q, l, [t], hs) :: rs) L (.int x :: S) K M = if x < nI 0 then J t L S K M else hgEx X rm C J rs L S K M := rfl
theorem hgx_if_ge {q : Int} : hgEx X rm C J ((.ifCond .ge q, l, [t], hs) :: rs) L (.int x :: S) K M = if nI 0 ≤ x then J t L S K M else hgEx X rm C J rs L S K M := rfl
theorem hgx_if_gt {q : Int} : hgEx X rm C J ((.ifCond .gt q, l, [t], hs) :: rs) L (.int x :: S) K M = if nI 0 < x then J t L S K M else hgEx X rm C J rs L S K M := rfl
theorem hgx_if_le {q : Int} : hgEx X rm C J ((.ifCond .le q, l, [t], hs) :: rs) L (.int x :: S) K M = if x ≤ nI 0 then J t L S K M else hgEx X rm C J rs L S K M := rfl
theorem hgx_ic_eq {q : Int} : hgEx X rm C J ((.if_icmp .eq q, l, [t], hs) :: rs) L (.int y :: .int x :: S) K M = if x = y then J t L S K M else hgEx X rm C J rs L S K M := rfl
theorem hgx_ic_ne {q : Int} : hgEx X rm C J ((.if_icmp .ne q, l, [t], hs) :: rs) L (.int y :: .int x :: S) K M = if x = y then hgEx X rm C J rs L S K M else J t L S K M := rfl
theorem hgx_ic_lt {q : Int} : hgEx X rm C J ((.if_icmp .lt q, l, [t], hs) :: rs) L (.int y :: .int x :: S) K M = if x < y then J t L S K M else hgEx X rm C J rs L S K M := rfl
theorem hgx_ic_ge {q : Int} : hgEx X rm C J ((.if_icmp .ge q, l, [t], hs) :: rs) L (.int y :: .int x :: S) K M = if y ≤ x then J t L S K M else hgEx X rm C J rs L S K M := rfl
theorem hgx_ic_gt {q : Int} : hgEx X rm C J ((.if_icmp .gt q, l, [t], hs) :: rs) L (.int y :: .int x :: S) K M = if y < x then J t L S K M else hgEx X rm C J rs L S K M := rfl
theorem hgx_ic_le {q : Int} : hgEx X rm C J ((.if_icmp .le q, l, [t], hs) :: rs) L (.int y :: .int x :: S) K M = if x ≤ y then J t L S K M else hgEx X rm C J rs L S K M := rfl
theorem hgx_ldc_i : hgEx X rm C J ((.ldc idx, l, [0, w, n], hs) :: rs) L S K M = hgEx X rm C J rs L (.int (nI n) :: S) K M := rfl
theorem hgx_ldc_f : hgEx X rm C J ((.ldc idx, l, [1, w, n], hs) :: rs) L S K M = hgEx X rm C J rs L (.float (UInt32.ofNat n) :: S) K M := rfl
theorem hgx_ldc_s : hgEx X rm C J ((.ldc idx, l, [2, w, n], hs) :: rs) L S K M = hgEx X rm C J rs L (.ref n :: S) K M := rfl
theorem hgx_ldc_w : hgEx X rm C J ((.ldc_w idx, l, [0, w, n], hs) :: rs) L S K M = hgEx X rm C J rs L (.int (nI n) :: S) K M := rfl
theorem hgx_ldc2_0 : hgEx X rm C J ((.ldc2_w idx, l, [0, w, n], hs) :: rs) L S K M = hgEx X rm C J rs L (.long (lN n) :: S) K M := rfl
theorem hgx_ldc2_1 : hgEx X rm C J ((.ldc2_w idx, l, [1, w, n], hs) :: rs) L S K M = hgEx X rm C J rs L (.long (-lN n) :: S) K M := rfl
theorem hgx_get0 (h : hgO M a ci) : hgEx X rm C J ((.getfield idx, l, [ci, k, 0, w], hs) :: rs) L (.ref a :: S) K M = hgEx X rm C J rs L (.int (hgI M a k) :: S) K M := if_pos h
theorem hgx_get3 (h : hgO M a ci) : hgEx X rm C J ((.getfield idx, l, [ci, k, 3, w], hs) :: rs) L (.ref a :: S) K M = hgEx X rm C J rs L (.int (hgI M a k) :: S) K M := if_pos h
theorem hgx_get1 (h : hgO M a ci) : hgEx X rm C J ((.getfield idx, l, [ci, k, 1, w], hs) :: rs) L (.ref a :: S) K M = hgEx X rm C J rs L (.long (hgJ M a k) :: S) K M := if_pos h
theorem hgx_get2 (h : hgO M a ci) (hr : hgR M a k = some b) : hgEx X rm C J ((.getfield idx, l, [ci, k, 2, w], hs) :: rs) L (.ref a :: S) K M = hgEx X rm C J rs L (.ref b :: S) K M := by
  show hgget M a ci k 2 _ = _
  unfold hgget
  rw [if_pos (show a < M.1 ∧ (hgSh a).1 = ci from h)]
  dsimp only
  rw [hr]
theorem hgx_put0 (h : hgO M a ci) : hgEx X rm C J ((.putfield idx, l, [ci, k, 0, w, n], hs) :: rs) L (.int x :: .ref a :: S) K M = hgEx X rm C J rs L S K (hgSI M a k x) := if_pos h
theorem hgx_put1 (h : hgO M a ci) : hgEx X rm C J ((.putfield idx, l, [ci, k, 1, w, n], hs) :: rs) L (.long u :: .ref a :: S) K M = hgEx X rm C J rs L S K (hgSJ M a k u) := if_pos h
theorem hgx_put2 (h : hgO M a ci) (hb : b < M.1) : hgEx X rm C J ((.putfield idx, l, [ci, k, 2, w, n], hs) :: rs) L (.ref b :: .ref a :: S) K M = hgEx X rm C J rs L S K (hgSR M a k b) := if_pos ⟨h.1, hb, h.2⟩
theorem hgx_put3 (h : hgO M a ci) (hb : x = nI 0 ∨ x = nI 1) : hgEx X rm C J ((.putfield idx, l, [ci, k, 3, w, n], hs) :: rs) L (.int x :: .ref a :: S) K M = hgEx X rm C J rs L S K (hgSI M a k x) := if_pos ⟨h.1, h.2, hb⟩
theorem hgx_iaload (h : hgAr M a 20 n) (h2 : a ≠ 2000) (hj : j < n) (hn : n < 2147483648) : hgEx X rm C J ((.iaload, l, ps, hs) :: rs) L (.int (nI j) :: .ref a :: S) K M = hgEx X rm C J rs L (.int (hgI M a j) :: S) K M := by
  show (if a = 2000 then _ else _) = _
  rw [if_neg h2, if_pos ⟨h.1, by rw [h.2], by rw [h.2]; exact hgIn_nI hj hn⟩, nI_cl (by omega)]
theorem hgx_sload (hj : j < X.1) (hn : X.1 < 2147483648) : hgEx X rm C J ((.iaload, l, ps, hs) :: rs) L (.int (nI j) :: .ref 2000 :: S) K M = hgEx X rm C J rs L (.int (X.2 j) :: S) K M := by
  show (if 2000 = 2000 then _ else _) = _
  rw [if_pos rfl, if_pos (hgIn_nI hj hn), nI_cl (by omega)]
theorem hgx_baload2 (h : hgAr M a 22 n) (hj : j < n) (hn : n < 2147483648) : hgEx X rm C J ((.baload, l, ps, hs) :: rs) L (.int (nI j) :: .ref a :: S) K M = hgEx X rm C J rs L (.int (hgI M a j) :: S) K M := by
  show (if _ then _ else _) = _
  rw [if_pos ⟨h.1, Or.inl (by rw [h.2]), by rw [h.2]; exact hgIn_nI hj hn⟩, nI_cl (by omega)]
theorem hgx_baload3 (h : hgAr M a 23 n) (hj : j < n) (hn : n < 2147483648) : hgEx X rm C J ((.baload, l, ps, hs) :: rs) L (.int (nI j) :: .ref a :: S) K M = hgEx X rm C J rs L (.int (hgI M a j) :: S) K M := by
  show (if _ then _ else _) = _
  rw [if_pos ⟨h.1, Or.inr (by rw [h.2]), by rw [h.2]; exact hgIn_nI hj hn⟩, nI_cl (by omega)]
theorem hgx_laload (h : hgAr M a 21 n) (hj : j < n) (hn : n < 2147483648) : hgEx X rm C J ((.laload, l, ps, hs) :: rs) L (.int (nI j) :: .ref a :: S) K M = hgEx X rm C J rs L (.long (hgJ M a j) :: S) K M := by
  show (if _ then _ else _) = _
  rw [if_pos ⟨h.1, by rw [h.2], by rw [h.2]; exact hgIn_nI hj hn⟩, nI_cl (by omega)]
theorem hgx_aaload (h : hgAr M a ci n) (hc : 24 ≤ ci ∧ ci ≤ 28) (hj : j < n) (hn : n < 2147483648) (hr : hgR M a j = some b) : hgEx X rm C J ((.aaload, l, ps, hs) :: rs) L (.int (nI j) :: .ref a :: S) K M = hgEx X rm C J rs L (.ref b :: S) K M := by
  show (if _ then _ else _) = _
  rw [if_pos ⟨h.1, by rw [h.2]; exact hc.1, by rw [h.2]; exact hc.2, by rw [h.2]; exact hgIn_nI hj hn⟩, nI_cl (by omega)]
  dsimp only
  rw [hr]
theorem hgx_iastore (h : hgAr M a 20 n) (hj : j < n) (hn : n < 2147483648) : hgEx X rm C J ((.iastore, l, ps, hs) :: rs) L (.int x :: .int (nI j) :: .ref a :: S) K M = hgEx X rm C J rs L S K (hgSI M a j x) := by
  show (if _ then _ else _) = _
  rw [if_pos ⟨h.1, by rw [h.2], by rw [h.2]; exact hgIn_nI hj hn⟩, nI_cl (by omega)]
theorem hgx_lastore (h : hgAr M a 21 n) (hj : j < n) (hn : n < 2147483648) : hgEx X rm C J ((.lastore, l, ps, hs) :: rs) L (.long u :: .int (nI j) :: .ref a :: S) K M = hgEx X rm C J rs L S K (hgSJ M a j u) := by
  show (if _ then _ else _) = _
  rw [if_pos ⟨h.1, by rw [h.2], by rw [h.2]; exact hgIn_nI hj hn⟩, nI_cl (by omega)]
theorem hgx_bastore2 (h : hgAr M a 22 n) (hj : j < n) (hn : n < 2147483648) : hgEx X rm C J ((.bastore, l, ps, hs) :: rs) L (.int x :: .int (nI j) :: .ref a :: S) K M = hgEx X rm C J rs L S K (hgSI M a j (vp_nar .byte x)) := by
  show (if _ then _ else _) = _
  rw [if_pos ⟨h.1, by rw [h.2], by rw [h.2]; exact hgIn_nI hj hn⟩, nI_cl (by omega)]
theorem hgx_bastore3 (h : hgAr M a 23 n) (hj : j < n) (hn : n < 2147483648) : hgEx X rm C J ((.bastore, l, ps, hs) :: rs) L (.int x :: .int (nI j) :: .ref a :: S) K M = hgEx X rm C J rs L S K (hgSI M a j (vp_nar .boolean x)) := by
  show (if _ then _ else _) = _
  rw [if_neg (fun q => by rw [h.2] at q; exact absurd q.2.1 (by decide : ¬ (23 : Nat) = 22)), if_pos ⟨h.1, by rw [h.2], by rw [h.2]; exact hgIn_nI hj hn⟩, nI_cl (by omega)]
theorem hgx_aastore {d : Nat} (h : hgAr M a ci n) (hc : 24 ≤ ci ∧ ci ≤ 26) (hb : hgO M b d) (he : d = [0, 4, 1].getD (ci - 24) 99) (hj : j < n) (hn : n < 2147483648) : hgEx X rm C J ((.aastore, l, ps, hs) :: rs) L (.ref b :: .int (nI j) :: .ref a :: S) K M = hgEx X rm C J rs L S K (hgSR M a j b) := by
  show (if _ then _ else _) = _
  rw [if_pos ⟨h.1, hb.1, by rw [h.2]; exact hc.1, by rw [h.2]; exact hc.2, by rw [h.2, hb.2]; exact he, by rw [h.2]; exact hgIn_nI hj hn⟩, nI_cl (by omega)]
theorem hgx_alen_s : hgEx X rm C J ((.arraylength, l, ps, hs) :: rs) L (.ref 2000 :: S) K M = hgEx X rm C J rs L (.int (nI X.1) :: S) K M := rfl
theorem hgx_alen (h : hgAr M a ci n) (h2 : a ≠ 2000) (hc : 20 ≤ ci ∧ ci ≤ 23) : hgEx X rm C J ((.arraylength, l, ps, hs) :: rs) L (.ref a :: S) K M = hgEx X rm C J rs L (.int (nI n) :: S) K M := by
  show (if a = 2000 then _ else _) = _
  rw [if_neg h2, if_pos ⟨h.1, by rw [h.2]; exact hc.1, by rw [h.2]; exact hc.2⟩, h.2]
theorem hgx_ret1 : hgEx X rm C J ((.ireturn, l, [1], hs) :: rs) L ([.int x]) K M = some (.inl (.int x), M) := rfl
theorem hgx_ret3 (h : x = nI 0 ∨ x = nI 1) : hgEx X rm C J ((.ireturn, l, [3], hs) :: rs) L ([.int x]) K M = some (.inl (.int x), M) := if_pos h
theorem hgx_lret : hgEx X rm C J ((.lreturn, l, ps, hs) :: rs) L ([.long u]) K M = some (.inl (.long u), M) := rfl
theorem hgx_vret : hgEx X rm C J ((.return_, l, ps, hs) :: rs) L [] K M = some (.inl .null, M) := rfl
theorem hgx_throw : hgEx X rm C J ((.new idx, l, [2, n, t, w, k, j], hs) :: rs) L S K M = if S.length ≤ 4 ∧ K.1 + 1 ≤ rm.1 ∧ K.2 + 6 ≤ rm.2 then some (.inr n, M) else none := rfl
/-- behind a call: go on with its answer, or with what it threw -/
def hgAft (X : hgX) (rm : hgK) (C : Nat → List Value → hgMem → Option hgOut) (J : Nat → hgL → List Value → hgK → hgMem → Option hgOut) (hs : List (Nat × Nat × Nat)) (rs : List hgRow) (L : hgL) (r : List Value) (K : hgK) (q : Option hgOut) : Option hgOut := match q with
  | none => none
  | some (.inl x, M1) => hgEx X rm C J rs L (hgPush x r) K M1
  | some (.inr E, M1) => match hs with
    | [] => some (.inr E, M1)
    | _ => match hgHd E hs with
      | none => none
      | some (t, loc) => J t (hgS1 L loc none) [] K M1
theorem hgx_aft_i : hgAft X rm C J hs rs L S K (some (.inl (.int x), M)) = hgEx X rm C J rs L (.int x :: S) K M := rfl
theorem hgx_aft_l : hgAft X rm C J hs rs L S K (some (.inl (.long u), M)) = hgEx X rm C J rs L (.long u :: S) K M := rfl
theorem hgx_aft_v : hgAft X rm C J hs rs L S K (some (.inl .null, M)) = hgEx X rm C J rs L S K M := rfl
theorem hgx_aft_e : hgAft X rm C J [] rs L S K (some (.inr n, M)) = some (.inr n, M) := rfl
theorem hgx_aft_h : hgAft X rm C J ((a, t, k) :: hs) rs L S K (some (.inr n, M)) = match hgHd n ((a, t, k) :: hs) with
      | none => none
      | some (t, loc) => J t (hgS1 L loc none) [] K M := rfl
def hgCd (rm : hgK) (mc ms ci : Nat) (as r : List Value) (K : hgK) (M : hgMem) : Prop := r.length ≤ 4 ∧ K.1 + mc ≤ rm.1 ∧ K.2 + ms ≤ rm.2 ∧ hgRecv ci M.1 as = true
theorem hgx_invvirtual_1 {v1 : Value} (ht : t < 1000) (hc : hgCd rm a b ci [v1] S K M) : hgEx X rm C J ((.invokevirtual idx, l, [t, 1, w, k, a, b, ci], hs) :: rs) L (v1 :: S) K M = hgAft X rm C J hs rs L S (K.1 + a, K.2 + b) (C t [v1] M) := by
  show hgcall rm C J _ hs L _ K M _ = _
  unfold hgcall
  dsimp only
  rw [if_neg (by omega : ¬ 1000 ≤ t)]
  dsimp only [hgTake]
  rw [if_pos (show S.length ≤ 4 ∧ K.1 + a ≤ rm.1 ∧ K.2 + b ≤ rm.2 ∧ hgRecv ci M.1 _ = true from hc)]
  unfold hgAft
  rfl
theorem hgx_invvirtual_2 {v1 v2 : Value} (ht : t < 1000) (hc : hgCd rm a b ci [v1, v2] S K M) : hgEx X rm C J ((.invokevirtual idx, l, [t, 2, w, k, a, b, ci], hs) :: rs) L (v2 :: v1 :: S) K M = hgAft X rm C J hs rs L S (K.1 + a, K.2 + b) (C t [v1, v2] M) := by
  show hgcall rm C J _ hs L _ K M _ = _
  unfold hgcall
  dsimp only
  rw [if_neg (by omega : ¬ 1000 ≤ t)]
  dsimp only [hgTake]
  rw [if_pos (show S.length ≤ 4 ∧ K.1 + a ≤ rm.1 ∧ K.2 + b ≤ rm.2 ∧ hgRecv ci M.1 _ = true from hc)]
  unfold hgAft
  rfl
theorem hgx_invvirtual_3 {v1 v2 v3 : Value} (ht : t < 1000) (hc : hgCd rm a b ci [v1, v2, v3] S K M) : hgEx X rm C J ((.invokevirtual idx, l, [t, 3, w, k, a, b, ci], hs) :: rs) L (v3 :: v2 :: v1 :: S) K M = hgAft X rm C J hs rs L S (K.1 + a, K.2 + b) (C t [v1, v2, v3] M) := by
  show hgcall rm C J _ hs L _ K M _ = _
  unfold hgcall
  dsimp only
  rw [if_neg (by omega : ¬ 1000 ≤ t)]
  dsimp only [hgTake]
  rw [if_pos (show S.length ≤ 4 ∧ K.1 + a ≤ rm.1 ∧ K.2 + b ≤ rm.2 ∧ hgRecv ci M.1 _ = true from hc)]
  unfold hgAft
  rfl
theorem hgx_invvirtual_4 {v1 v2 v3 v4 : Value} (ht : t < 1000) (hc : hgCd rm a b ci [v1, v2, v3, v4] S K M) : hgEx X rm C J ((.invokevirtual idx, l, [t, 4, w, k, a, b, ci], hs) :: rs) L (v4 :: v3 :: v2 :: v1 :: S) K M = hgAft X rm C J hs rs L S (K.1 + a, K.2 + b) (C t [v1, v2, v3, v4] M) := by
  show hgcall rm C J _ hs L _ K M _ = _
  unfold hgcall
  dsimp only
  rw [if_neg (by omega : ¬ 1000 ≤ t)]
  dsimp only [hgTake]
  rw [if_pos (show S.length ≤ 4 ∧ K.1 + a ≤ rm.1 ∧ K.2 + b ≤ rm.2 ∧ hgRecv ci M.1 _ = true from hc)]
  unfold hgAft
  rfl
theorem hgx_invvirtual_5 {v1 v2 v3 v4 v5 : Value} (ht : t < 1000) (hc : hgCd rm a b ci [v1, v2, v3, v4, v5] S K M) : hgEx X rm C J ((.invokevirtual idx, l, [t, 5, w, k, a, b, ci], hs) :: rs) L (v5 :: v4 :: v3 :: v2 :: v1 :: S) K M = hgAft X rm C J hs rs L S (K.1 + a, K.2 + b) (C t [v1, v2, v3, v4, v5] M) := by
  show hgcall rm C J _ hs L _ K M _ = _
  unfold hgcall
  dsimp only
  rw [if_neg (by omega : ¬ 1000 ≤ t)]
  dsimp only [hgTake]
  rw [if_pos (show S.length ≤ 4 ∧ K.1 + a ≤ rm.1 ∧ K.2 + b ≤ rm.2 ∧ hgRecv ci M.1 _ = true from hc)]
  unfold hgAft
  rfl
theorem hgx_invvirtual_6 {v1 v2 v3 v4 v5 v6 : Value} (ht : t < 1000) (hc : hgCd rm a b ci [v1, v2, v3, v4, v5, v6] S K M) : hgEx X rm C J ((.invokevirtual idx, l, [t, 6, w, k, a, b, ci], hs) :: rs) L (v6 :: v5 :: v4 :: v3 :: v2 :: v1 :: S) K M = hgAft X rm C J hs rs L S (K.1 + a, K.2 + b) (C t [v1, v2, v3, v4, v5, v6] M) := by
  show hgcall rm C J _ hs L _ K M _ = _
  unfold hgcall
  dsimp only
  rw [if_neg (by omega : ¬ 1000 ≤ t)]
  dsimp only [hgTake]
  rw [if_pos (show S.length ≤ 4 ∧ K.1 + a ≤ rm.1 ∧ K.2 + b ≤ rm.2 ∧ hgRecv ci M.1 _ = true from hc)]
  unfold hgAft
  rfl
theorem hgx_invvirtual_7 {v1 v2 v3 v4 v5 v6 v7 : Value} (ht : t < 1000) (hc : hgCd rm a b ci [v1, v2, v3, v4, v5, v6, v7] S K M) : hgEx X rm C J ((.invokevirtual idx, l, [t, 7, w, k, a, b, ci], hs) :: rs) L (v7 :: v6 :: v5 :: v4 :: v3 :: v2 :: v1 :: S) K M = hgAft X rm C J hs rs L S (K.1 + a, K.2 + b) (C t [v1, v2, v3, v4, v5, v6, v7] M) := by
  show hgcall rm C J _ hs L _ K M _ = _
  unfold hgcall
  dsimp only
  rw [if_neg (by omega : ¬ 1000 ≤ t)]
  dsimp only [hgTake]
  rw [if_pos (show S.length ≤ 4 ∧ K.1 + a ≤ rm.1 ∧ K.2 + b ≤ rm.2 ∧ hgRecv ci M.1 _ = true from hc)]
  unfold hgAft
  rfl
theorem hgx_invstatic_0 {v1 : Value} (ht : t < 1000) (hc : hgCd rm a b ci [] S K M) : hgEx X rm C J ((.invokestatic idx, l, [t, 0, w, k, a, b, ci], hs) :: rs) L S K M = hgAft X rm C J hs rs L S (K.1 + a, K.2 + b) (C t [] M) := by
  show hgcall rm C J _ hs L _ K M _ = _
  unfold hgcall
  dsimp only
  rw [if_neg (by omega : ¬ 1000 ≤ t)]
  dsimp only [hgTake]
  rw [if_pos (show S.length ≤ 4 ∧ K.1 + a ≤ rm.1 ∧ K.2 + b ≤ rm.2 ∧ hgRecv ci M.1 _ = true from hc)]
  unfold hgAft
  rfl
theorem hgx_invstatic_1 {v1 : Value} (ht : t < 1000) (hc : hgCd rm a b ci [v1] S K M) : hgEx X rm C J ((.invokestatic idx, l, [t, 1, w, k, a, b, ci], hs) :: rs) L (v1 :: S) K M = hgAft X rm C J hs rs L S (K.1 + a, K.2 + b) (C t [v1] M) := by
  show hgcall rm C J _ hs L _ K M _ = _
  unfold hgcall
  dsimp only
  rw [if_neg (by omega : ¬ 1000 ≤ t)]
  dsimp only [hgTake]
  rw [if_pos (show S.length ≤ 4 ∧ K.1 + a ≤ rm.1 ∧ K.2 + b ≤ rm.2 ∧ hgRecv ci M.1 _ = true from hc)]
  unfold hgAft
  rfl
theorem hgx_invstatic_2 {v1 v2 : Value} (ht : t < 1000) (hc : hgCd rm a b ci [v1, v2] S K M) : hgEx X rm C J ((.invokestatic idx, l, [t, 2, w, k, a, b, ci], hs) :: rs) L (v2 :: v1 :: S) K M = hgAft X rm C J hs rs L S (K.1 + a, K.2 + b) (C t [v1, v2] M) := by
  show hgcall rm C J _ hs L _ K M _ = _
  unfold hgcall
  dsimp only
  rw [if_neg (by omega : ¬ 1000 ≤ t)]
  dsimp only [hgTake]
  rw [if_pos (show S.length ≤ 4 ∧ K.1 + a ≤ rm.1 ∧ K.2 + b ≤ rm.2 ∧ hgRecv ci M.1 _ = true from hc)]
  unfold hgAft
  rfl
theorem hgx_invstatic_3 {v1 v2 v3 : Value} (ht : t < 1000) (hc : hgCd rm a b ci [v1, v2, v3] S K M) : hgEx X rm C J ((.invokestatic idx, l, [t, 3, w, k, a, b, ci], hs) :: rs) L (v3 :: v2 :: v1 :: S) K M = hgAft X rm C J hs rs L S (K.1 + a, K.2 + b) (C t [v1, v2, v3] M) := by
  show hgcall rm C J _ hs L _ K M _ = _
  unfold hgcall
  dsimp only
  rw [if_neg (by omega : ¬ 1000 ≤ t)]
  dsimp only [hgTake]
  rw [if_pos (show S.length ≤ 4 ∧ K.1 + a ≤ rm.1 ∧ K.2 + b ≤ rm.2 ∧ hgRecv ci M.1 _ = true from hc)]
  unfold hgAft
  rfl
theorem hgx_invstatic_4 {v1 v2 v3 v4 : Value} (ht : t < 1000) (hc : hgCd rm a b ci [v1, v2, v3, v4] S K M) : hgEx X rm C J ((.invokestatic idx, l, [t, 4, w, k, a, b, ci], hs) :: rs) L (v4 :: v3 :: v2 :: v1 :: S) K M = hgAft X rm C J hs rs L S (K.1 + a, K.2 + b) (C t [v1, v2, v3, v4] M) := by
  show hgcall rm C J _ hs L _ K M _ = _
  unfold hgcall
  dsimp only
  rw [if_neg (by omega : ¬ 1000 ≤ t)]
  dsimp only [hgTake]
  rw [if_pos (show S.length ≤ 4 ∧ K.1 + a ≤ rm.1 ∧ K.2 + b ≤ rm.2 ∧ hgRecv ci M.1 _ = true from hc)]
  unfold hgAft
  rfl
theorem hgx_invstatic_5 {v1 v2 v3 v4 v5 : Value} (ht : t < 1000) (hc : hgCd rm a b ci [v1, v2, v3, v4, v5] S K M) : hgEx X rm C J ((.invokestatic idx, l, [t, 5, w, k, a, b, ci], hs) :: rs) L (v5 :: v4 :: v3 :: v2 :: v1 :: S) K M = hgAft X rm C J hs rs L S (K.1 + a, K.2 + b) (C t [v1, v2, v3, v4, v5] M) := by
  show hgcall rm C J _ hs L _ K M _ = _
  unfold hgcall
  dsimp only
  rw [if_neg (by omega : ¬ 1000 ≤ t)]
  dsimp only [hgTake]
  rw [if_pos (show S.length ≤ 4 ∧ K.1 + a ≤ rm.1 ∧ K.2 + b ≤ rm.2 ∧ hgRecv ci M.1 _ = true from hc)]
  unfold hgAft
  rfl
theorem hgx_invstatic_6 {v1 v2 v3 v4 v5 v6 : Value} (ht : t < 1000) (hc : hgCd rm a b ci [v1, v2, v3, v4, v5, v6] S K M) : hgEx X rm C J ((.invokestatic idx, l, [t, 6, w, k, a, b, ci], hs) :: rs) L (v6 :: v5 :: v4 :: v3 :: v2 :: v1 :: S) K M = hgAft X rm C J hs rs L S (K.1 + a, K.2 + b) (C t [v1, v2, v3, v4, v5, v6] M) := by
  show hgcall rm C J _ hs L _ K M _ = _
  unfold hgcall
  dsimp only
  rw [if_neg (by omega : ¬ 1000 ≤ t)]
  dsimp only [hgTake]
  rw [if_pos (show S.length ≤ 4 ∧ K.1 + a ≤ rm.1 ∧ K.2 + b ≤ rm.2 ∧ hgRecv ci M.1 _ = true from hc)]
  unfold hgAft
  rfl
theorem hgx_invstatic_7 {v1 v2 v3 v4 v5 v6 v7 : Value} (ht : t < 1000) (hc : hgCd rm a b ci [v1, v2, v3, v4, v5, v6, v7] S K M) : hgEx X rm C J ((.invokestatic idx, l, [t, 7, w, k, a, b, ci], hs) :: rs) L (v7 :: v6 :: v5 :: v4 :: v3 :: v2 :: v1 :: S) K M = hgAft X rm C J hs rs L S (K.1 + a, K.2 + b) (C t [v1, v2, v3, v4, v5, v6, v7] M) := by
  show hgcall rm C J _ hs L _ K M _ = _
  unfold hgcall
  dsimp only
  rw [if_neg (by omega : ¬ 1000 ≤ t)]
  dsimp only [hgTake]
  rw [if_pos (show S.length ≤ 4 ∧ K.1 + a ≤ rm.1 ∧ K.2 + b ≤ rm.2 ∧ hgRecv ci M.1 _ = true from hc)]
  unfold hgAft
  rfl
theorem hgx_invspecial_1 {v1 : Value} (ht : t < 1000) (hc : hgCd rm a b ci [v1] S K M) : hgEx X rm C J ((.invokespecial idx, l, [t, 1, w, k, a, b, ci], hs) :: rs) L (v1 :: S) K M = hgAft X rm C J hs rs L S (K.1 + a, K.2 + b) (C t [v1] M) := by
  show hgcall rm C J _ hs L _ K M _ = _
  unfold hgcall
  dsimp only
  rw [if_neg (by omega : ¬ 1000 ≤ t)]
  dsimp only [hgTake]
  rw [if_pos (show S.length ≤ 4 ∧ K.1 + a ≤ rm.1 ∧ K.2 + b ≤ rm.2 ∧ hgRecv ci M.1 _ = true from hc)]
  unfold hgAft
  rfl
theorem hgx_invspecial_2 {v1 v2 : Value} (ht : t < 1000) (hc : hgCd rm a b ci [v1, v2] S K M) : hgEx X rm C J ((.invokespecial idx, l, [t, 2, w, k, a, b, ci], hs) :: rs) L (v2 :: v1 :: S) K M = hgAft X rm C J hs rs L S (K.1 + a, K.2 + b) (C t [v1, v2] M) := by
  show hgcall rm C J _ hs L _ K M _ = _
  unfold hgcall
  dsimp only
  rw [if_neg (by omega : ¬ 1000 ≤ t)]
  dsimp only [hgTake]
  rw [if_pos (show S.length ≤ 4 ∧ K.1 + a ≤ rm.1 ∧ K.2 + b ≤ rm.2 ∧ hgRecv ci M.1 _ = true from hc)]
  unfold hgAft
  rfl
theorem hgx_invspecial_3 {v1 v2 v3 : Value} (ht : t < 1000) (hc : hgCd rm a b ci [v1, v2, v3] S K M) : hgEx X rm C J ((.invokespecial idx, l, [t, 3, w, k, a, b, ci], hs) :: rs) L (v3 :: v2 :: v1 :: S) K M = hgAft X rm C J hs rs L S (K.1 + a, K.2 + b) (C t [v1, v2, v3] M) := by
  show hgcall rm C J _ hs L _ K M _ = _
  unfold hgcall
  dsimp only
  rw [if_neg (by omega : ¬ 1000 ≤ t)]
  dsimp only [hgTake]
  rw [if_pos (show S.length ≤ 4 ∧ K.1 + a ≤ rm.1 ∧ K.2 + b ≤ rm.2 ∧ hgRecv ci M.1 _ = true from hc)]
  unfold hgAft
  rfl
theorem hgx_invspecial_4 {v1 v2 v3 v4 : Value} (ht : t < 1000) (hc : hgCd rm a b ci [v1, v2, v3, v4] S K M) : hgEx X rm C J ((.invokespecial idx, l, [t, 4, w, k, a, b, ci], hs) :: rs) L (v4 :: v3 :: v2 :: v1 :: S) K M = hgAft X rm C J hs rs L S (K.1 + a, K.2 + b) (C t [v1, v2, v3, v4] M) := by
  show hgcall rm C J _ hs L _ K M _ = _
  unfold hgcall
  dsimp only
  rw [if_neg (by omega : ¬ 1000 ≤ t)]
  dsimp only [hgTake]
  rw [if_pos (show S.length ≤ 4 ∧ K.1 + a ≤ rm.1 ∧ K.2 + b ≤ rm.2 ∧ hgRecv ci M.1 _ = true from hc)]
  unfold hgAft
  rfl
theorem hgx_invspecial_5 {v1 v2 v3 v4 v5 : Value} (ht : t < 1000) (hc : hgCd rm a b ci [v1, v2, v3, v4, v5] S K M) : hgEx X rm C J ((.invokespecial idx, l, [t, 5, w, k, a, b, ci], hs) :: rs) L (v5 :: v4 :: v3 :: v2 :: v1 :: S) K M = hgAft X rm C J hs rs L S (K.1 + a, K.2 + b) (C t [v1, v2, v3, v4, v5] M) := by
  show hgcall rm C J _ hs L _ K M _ = _
  unfold hgcall
  dsimp only
  rw [if_neg (by omega : ¬ 1000 ≤ t)]
  dsimp only [hgTake]
  rw [if_pos (show S.length ≤ 4 ∧ K.1 + a ≤ rm.1 ∧ K.2 + b ≤ rm.2 ∧ hgRecv ci M.1 _ = true from hc)]
  unfold hgAft
  rfl
theorem hgx_invspecial_6 {v1 v2 v3 v4 v5 v6 : Value} (ht : t < 1000) (hc : hgCd rm a b ci [v1, v2, v3, v4, v5, v6] S K M) : hgEx X rm C J ((.invokespecial idx, l, [t, 6, w, k, a, b, ci], hs) :: rs) L (v6 :: v5 :: v4 :: v3 :: v2 :: v1 :: S) K M = hgAft X rm C J hs rs L S (K.1 + a, K.2 + b) (C t [v1, v2, v3, v4, v5, v6] M) := by
  show hgcall rm C J _ hs L _ K M _ = _
  unfold hgcall
  dsimp only
  rw [if_neg (by omega : ¬ 1000 ≤ t)]
  dsimp only [hgTake]
  rw [if_pos (show S.length ≤ 4 ∧ K.1 + a ≤ rm.1 ∧ K.2 + b ≤ rm.2 ∧ hgRecv ci M.1 _ = true from hc)]
  unfold hgAft
  rfl
theorem hgx_invspecial_7 {v1 v2 v3 v4 v5 v6 v7 : Value} (ht : t < 1000) (hc : hgCd rm a b ci [v1, v2, v3, v4, v5, v6, v7] S K M) : hgEx X rm C J ((.invokespecial idx, l, [t, 7, w, k, a, b, ci], hs) :: rs) L (v7 :: v6 :: v5 :: v4 :: v3 :: v2 :: v1 :: S) K M = hgAft X rm C J hs rs L S (K.1 + a, K.2 + b) (C t [v1, v2, v3, v4, v5, v6, v7] M) := by
  show hgcall rm C J _ hs L _ K M _ = _
  unfold hgcall
  dsimp only
  rw [if_neg (by omega : ¬ 1000 ≤ t)]
  dsimp only [hgTake]
  rw [if_pos (show S.length ≤ 4 ∧ K.1 + a ≤ rm.1 ∧ K.2 + b ≤ rm.2 ∧ hgRecv ci M.1 _ = true from hc)]
  unfold hgAft
  rfl
theorem hgx_max (h : S.length ≤ 4) : hgEx X rm C J ((.invokestatic idx, l, [1000, t, w, k, a, b, ci], hs) :: rs) L (.int y :: .int x :: S) K M = hgEx X rm C J rs L (.int (if x < y then y else x) :: S) K M := if_pos (Nat.succ_le_succ h)
theorem hgx_min (h : S.length ≤ 4) : hgEx X rm C J ((.invokestatic idx, l, [1001, t, w, k, a, b, ci], hs) :: rs) L (.int y :: .int x :: S) K M = hgEx X rm C J rs L (.int (if y < x then y else x) :: S) K M := if_pos (Nat.succ_le_succ h)
theorem hgx_maxl (h : S.length ≤ 4) : hgEx X rm C J ((.invokestatic idx, l, [1002, t, w, k, a, b, ci], hs) :: rs) L (.long v :: .long u :: S) K M = hgEx X rm C J rs L (.long (if v < u then u else v) :: S) K M := if_pos (Nat.succ_le_succ h)
end HGI
end
