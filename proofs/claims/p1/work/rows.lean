section
-- ===== PART A: goes FIRST, ahead of the names: the tables' words, and 'selects' of the private methods out of them =====
/-- a private method of a class that the tables say can be made, by its rows of tables_1 -/
def lw_okq (q : MethodName × Nat) : Prop := (q.1.cls ≠ "java/lang/invoke/MethodHandle" ∧ q.1.cls ≠ "java/lang/invoke/VarHandle") ∧ Cond.instantiable q.1.cls q.2 ∈ tables_1 ∧ Cond.privateMethod q.1 ∈ tables_1 ∧ Cond.instanceMethod q.1 ∈ tables_1
theorem lw_p0 : lw_okq (⟨"java/lang/Throwable", "fillInStackTrace", "(I)Ljava/lang/Throwable;"⟩, 6) := ⟨⟨by decide +kernel, by decide +kernel⟩, List.mem_of_getElem? (i := 356) (by decide +kernel), List.mem_of_getElem? (i := 354) (by decide +kernel), List.mem_of_getElem? (i := 355) (by decide +kernel)⟩
theorem lw_p1 : lw_okq (⟨"LayoutFront$Fixities", "find", "(J)I"⟩, 4) := ⟨⟨by decide +kernel, by decide +kernel⟩, List.mem_of_getElem? (i := 48) (by decide +kernel), List.mem_of_getElem? (i := 422) (by decide +kernel), List.mem_of_getElem? (i := 423) (by decide +kernel)⟩
theorem lw_p2 : lw_okq (⟨"LayoutFront$Cutter", "passCharacter", "(C)V"⟩, 6) := ⟨⟨by decide +kernel, by decide +kernel⟩, List.mem_of_getElem? (i := 69) (by decide +kernel), List.mem_of_getElem? (i := 466) (by decide +kernel), List.mem_of_getElem? (i := 467) (by decide +kernel)⟩
theorem lw_p3 : lw_okq (⟨"LayoutFront$Cutter", "passComment", "(LLayoutFront$Text;)V"⟩, 6) := ⟨⟨by decide +kernel, by decide +kernel⟩, List.mem_of_getElem? (i := 69) (by decide +kernel), List.mem_of_getElem? (i := 473) (by decide +kernel), List.mem_of_getElem? (i := 474) (by decide +kernel)⟩
theorem lw_p4 : lw_okq (⟨"LayoutFront$Cutter", "cutLexeme", "(LLayoutFront$Text;)V"⟩, 6) := ⟨⟨by decide +kernel, by decide +kernel⟩, List.mem_of_getElem? (i := 69) (by decide +kernel), List.mem_of_getElem? (i := 480) (by decide +kernel), List.mem_of_getElem? (i := 481) (by decide +kernel)⟩
theorem lw_p5 : lw_okq (⟨"LayoutFront$Cutter", "lexemeEnd", "(LLayoutFront$Text;I)I"⟩, 6) := ⟨⟨by decide +kernel, by decide +kernel⟩, List.mem_of_getElem? (i := 69) (by decide +kernel), List.mem_of_getElem? (i := 585) (by decide +kernel), List.mem_of_getElem? (i := 586) (by decide +kernel)⟩
theorem lw_p6 : lw_okq (⟨"LayoutFront$Cutter", "isDashes", "(LLayoutFront$Text;I)Z"⟩, 6) := ⟨⟨by decide +kernel, by decide +kernel⟩, List.mem_of_getElem? (i := 69) (by decide +kernel), List.mem_of_getElem? (i := 592) (by decide +kernel), List.mem_of_getElem? (i := 593) (by decide +kernel)⟩
theorem lw_p7 : lw_okq (⟨"LayoutFront$Cutter", "take", "(LLayoutFront$Text;II)V"⟩, 6) := ⟨⟨by decide +kernel, by decide +kernel⟩, List.mem_of_getElem? (i := 69) (by decide +kernel), List.mem_of_getElem? (i := 610) (by decide +kernel), List.mem_of_getElem? (i := 611) (by decide +kernel)⟩
theorem lw_p8 : lw_okq (⟨"LayoutFront$Blocks", "putBefore", "(LLayoutFront$Lexemes;I)V"⟩, 3) := ⟨⟨by decide +kernel, by decide +kernel⟩, List.mem_of_getElem? (i := 130) (by decide +kernel), List.mem_of_getElem? (i := 654) (by decide +kernel), List.mem_of_getElem? (i := 655) (by decide +kernel)⟩
theorem lw_p9 : lw_okq (⟨"LayoutFront$Blocks", "begin", "(I)V"⟩, 3) := ⟨⟨by decide +kernel, by decide +kernel⟩, List.mem_of_getElem? (i := 130) (by decide +kernel), List.mem_of_getElem? (i := 687) (by decide +kernel), List.mem_of_getElem? (i := 688) (by decide +kernel)⟩
theorem lw_p10 : lw_okq (⟨"LayoutFront$Blocks", "putIn", "(C)V"⟩, 3) := ⟨⟨by decide +kernel, by decide +kernel⟩, List.mem_of_getElem? (i := 130) (by decide +kernel), List.mem_of_getElem? (i := 691) (by decide +kernel), List.mem_of_getElem? (i := 692) (by decide +kernel)⟩
theorem lw_p11 : lw_okq (⟨"LayoutFront$Open", "at", "(I)I"⟩, 3) := ⟨⟨by decide +kernel, by decide +kernel⟩, List.mem_of_getElem? (i := 136) (by decide +kernel), List.mem_of_getElem? (i := 700) (by decide +kernel), List.mem_of_getElem? (i := 701) (by decide +kernel)⟩
theorem lw_p12 : lw_okq (⟨"LayoutFront$Blocks", "mark", "(I)V"⟩, 3) := ⟨⟨by decide +kernel, by decide +kernel⟩, List.mem_of_getElem? (i := 130) (by decide +kernel), List.mem_of_getElem? (i := 709) (by decide +kernel), List.mem_of_getElem? (i := 710) (by decide +kernel)⟩
theorem lw_p13 : lw_okq (⟨"LayoutFront$Blocks", "passSign", "(C)Z"⟩, 3) := ⟨⟨by decide +kernel, by decide +kernel⟩, List.mem_of_getElem? (i := 130) (by decide +kernel), List.mem_of_getElem? (i := 741) (by decide +kernel), List.mem_of_getElem? (i := 742) (by decide +kernel)⟩
theorem lw_p14 : lw_okq (⟨"LayoutFront$Blocks", "end", "(I)Z"⟩, 3) := ⟨⟨by decide +kernel, by decide +kernel⟩, List.mem_of_getElem? (i := 130) (by decide +kernel), List.mem_of_getElem? (i := 745) (by decide +kernel), List.mem_of_getElem? (i := 746) (by decide +kernel)⟩
theorem lw_p15 : lw_okq (⟨"LayoutFront$Blocks", "closeBlocks", "(Z)V"⟩, 3) := ⟨⟨by decide +kernel, by decide +kernel⟩, List.mem_of_getElem? (i := 130) (by decide +kernel), List.mem_of_getElem? (i := 749) (by decide +kernel), List.mem_of_getElem? (i := 750) (by decide +kernel)⟩
def lw_privs_1 : List (MethodName × Nat) := [(⟨"java/lang/Throwable", "fillInStackTrace", "(I)Ljava/lang/Throwable;"⟩, 6), (⟨"LayoutFront$Fixities", "find", "(J)I"⟩, 4), (⟨"LayoutFront$Cutter", "passCharacter", "(C)V"⟩, 6), (⟨"LayoutFront$Cutter", "passComment", "(LLayoutFront$Text;)V"⟩, 6), (⟨"LayoutFront$Cutter", "cutLexeme", "(LLayoutFront$Text;)V"⟩, 6), (⟨"LayoutFront$Cutter", "lexemeEnd", "(LLayoutFront$Text;I)I"⟩, 6), (⟨"LayoutFront$Cutter", "isDashes", "(LLayoutFront$Text;I)Z"⟩, 6), (⟨"LayoutFront$Cutter", "take", "(LLayoutFront$Text;II)V"⟩, 6), (⟨"LayoutFront$Blocks", "putBefore", "(LLayoutFront$Lexemes;I)V"⟩, 3), (⟨"LayoutFront$Blocks", "begin", "(I)V"⟩, 3), (⟨"LayoutFront$Blocks", "putIn", "(C)V"⟩, 3), (⟨"LayoutFront$Open", "at", "(I)I"⟩, 3), (⟨"LayoutFront$Blocks", "mark", "(I)V"⟩, 3), (⟨"LayoutFront$Blocks", "passSign", "(C)Z"⟩, 3), (⟨"LayoutFront$Blocks", "end", "(I)Z"⟩, 3), (⟨"LayoutFront$Blocks", "closeBlocks", "(Z)V"⟩, 3)]
theorem lw_r1 : ∀ q ∈ lw_privs_1, lw_okq q := List.forall_mem_cons.mpr ⟨lw_p0, List.forall_mem_cons.mpr ⟨lw_p1, List.forall_mem_cons.mpr ⟨lw_p2, List.forall_mem_cons.mpr ⟨lw_p3, List.forall_mem_cons.mpr ⟨lw_p4, List.forall_mem_cons.mpr ⟨lw_p5, List.forall_mem_cons.mpr ⟨lw_p6, List.forall_mem_cons.mpr ⟨lw_p7, List.forall_mem_cons.mpr ⟨lw_p8, List.forall_mem_cons.mpr ⟨lw_p9, List.forall_mem_cons.mpr ⟨lw_p10, List.forall_mem_cons.mpr ⟨lw_p11, List.forall_mem_cons.mpr ⟨lw_p12, List.forall_mem_cons.mpr ⟨lw_p13, List.forall_mem_cons.mpr ⟨lw_p14, List.forall_mem_cons.mpr ⟨lw_p15, fun _ h => absurd h List.not_mem_nil⟩⟩⟩⟩⟩⟩⟩⟩⟩⟩⟩⟩⟩⟩⟩⟩
theorem lw_p16 : lw_okq (⟨"LayoutFront$Blocks", "passBrace", "()Z"⟩, 3) := ⟨⟨by decide +kernel, by decide +kernel⟩, List.mem_of_getElem? (i := 130) (by decide +kernel), List.mem_of_getElem? (i := 757) (by decide +kernel), List.mem_of_getElem? (i := 758) (by decide +kernel)⟩
theorem lw_p17 : lw_okq (⟨"LayoutFront$Blocks", "passComma", "()V"⟩, 3) := ⟨⟨by decide +kernel, by decide +kernel⟩, List.mem_of_getElem? (i := 130) (by decide +kernel), List.mem_of_getElem? (i := 761) (by decide +kernel), List.mem_of_getElem? (i := 762) (by decide +kernel)⟩
theorem lw_p18 : lw_okq (⟨"LayoutFront$Blocks", "passWord", "(I)Z"⟩, 3) := ⟨⟨by decide +kernel, by decide +kernel⟩, List.mem_of_getElem? (i := 130) (by decide +kernel), List.mem_of_getElem? (i := 769) (by decide +kernel), List.mem_of_getElem? (i := 770) (by decide +kernel)⟩
theorem lw_p19 : lw_okq (⟨"LayoutFront$Rows", "matchBrackets", "(LLayoutFront$Tokens;)V"⟩, 8) := ⟨⟨by decide +kernel, by decide +kernel⟩, List.mem_of_getElem? (i := 164) (by decide +kernel), List.mem_of_getElem? (i := 794) (by decide +kernel), List.mem_of_getElem? (i := 795) (by decide +kernel)⟩
theorem lw_p20 : lw_okq (⟨"LayoutFront$Rows", "putLevelTogether", "(LLayoutFront$Tokens;IILLayoutFront$Fixities;)V"⟩, 8) := ⟨⟨by decide +kernel, by decide +kernel⟩, List.mem_of_getElem? (i := 164) (by decide +kernel), List.mem_of_getElem? (i := 808) (by decide +kernel), List.mem_of_getElem? (i := 809) (by decide +kernel)⟩
theorem lw_p21 : lw_okq (⟨"LayoutFront$Rows", "collectRow", "(LLayoutFront$Tokens;II)I"⟩, 8) := ⟨⟨by decide +kernel, by decide +kernel⟩, List.mem_of_getElem? (i := 164) (by decide +kernel), List.mem_of_getElem? (i := 812) (by decide +kernel), List.mem_of_getElem? (i := 813) (by decide +kernel)⟩
theorem lw_p22 : lw_okq (⟨"LayoutFront$Rows", "behindOperand", "(LLayoutFront$Tokens;I)I"⟩, 8) := ⟨⟨by decide +kernel, by decide +kernel⟩, List.mem_of_getElem? (i := 164) (by decide +kernel), List.mem_of_getElem? (i := 820) (by decide +kernel), List.mem_of_getElem? (i := 821) (by decide +kernel)⟩
theorem lw_p23 : lw_okq (⟨"LayoutFront$Rows", "closerOf", "(I)I"⟩, 8) := ⟨⟨by decide +kernel, by decide +kernel⟩, List.mem_of_getElem? (i := 164) (by decide +kernel), List.mem_of_getElem? (i := 824) (by decide +kernel), List.mem_of_getElem? (i := 825) (by decide +kernel)⟩
theorem lw_p24 : lw_okq (⟨"LayoutFront$Row", "endsWithOperand", "()Z"⟩, 6) := ⟨⟨by decide +kernel, by decide +kernel⟩, List.mem_of_getElem? (i := 170) (by decide +kernel), List.mem_of_getElem? (i := 847) (by decide +kernel), List.mem_of_getElem? (i := 848) (by decide +kernel)⟩
theorem lw_p25 : lw_okq (⟨"LayoutFront$Row", "add", "(III)V"⟩, 6) := ⟨⟨by decide +kernel, by decide +kernel⟩, List.mem_of_getElem? (i := 170) (by decide +kernel), List.mem_of_getElem? (i := 851) (by decide +kernel), List.mem_of_getElem? (i := 852) (by decide +kernel)⟩
theorem lw_p26 : lw_okq (⟨"LayoutFront$Rows", "putRowTogether", "(LLayoutFront$Tokens;LLayoutFront$Fixities;)V"⟩, 8) := ⟨⟨by decide +kernel, by decide +kernel⟩, List.mem_of_getElem? (i := 164) (by decide +kernel), List.mem_of_getElem? (i := 866) (by decide +kernel), List.mem_of_getElem? (i := 867) (by decide +kernel)⟩
theorem lw_p27 : lw_okq (⟨"LayoutFront$Rows", "take", "(LLayoutFront$Tokens;ILLayoutFront$Fixities;)Z"⟩, 8) := ⟨⟨by decide +kernel, by decide +kernel⟩, List.mem_of_getElem? (i := 164) (by decide +kernel), List.mem_of_getElem? (i := 875) (by decide +kernel), List.mem_of_getElem? (i := 876) (by decide +kernel)⟩
theorem lw_p28 : lw_okq (⟨"LayoutFront$Row", "has", "(I)Z"⟩, 6) := ⟨⟨by decide +kernel, by decide +kernel⟩, List.mem_of_getElem? (i := 170) (by decide +kernel), List.mem_of_getElem? (i := 883) (by decide +kernel), List.mem_of_getElem? (i := 884) (by decide +kernel)⟩
theorem lw_p29 : lw_okq (⟨"LayoutFront$Resolver", "giveSides", "()V"⟩, 11) := ⟨⟨by decide +kernel, by decide +kernel⟩, List.mem_of_getElem? (i := 195) (by decide +kernel), List.mem_of_getElem? (i := 907) (by decide +kernel), List.mem_of_getElem? (i := 908) (by decide +kernel)⟩
theorem lw_p30 : lw_okq (⟨"LayoutFront$Resolver", "letWait", "(III)V"⟩, 11) := ⟨⟨by decide +kernel, by decide +kernel⟩, List.mem_of_getElem? (i := 195) (by decide +kernel), List.mem_of_getElem? (i := 911) (by decide +kernel), List.mem_of_getElem? (i := 912) (by decide +kernel)⟩
theorem lw_p31 : lw_okq (⟨"LayoutFront", "keepCounts", "()V"⟩, 8) := ⟨⟨by decide +kernel, by decide +kernel⟩, List.mem_of_getElem? (i := 26) (by decide +kernel), List.mem_of_getElem? (i := 947) (by decide +kernel), List.mem_of_getElem? (i := 948) (by decide +kernel)⟩
def lw_privs_2 : List (MethodName × Nat) := [(⟨"LayoutFront$Blocks", "passBrace", "()Z"⟩, 3), (⟨"LayoutFront$Blocks", "passComma", "()V"⟩, 3), (⟨"LayoutFront$Blocks", "passWord", "(I)Z"⟩, 3), (⟨"LayoutFront$Rows", "matchBrackets", "(LLayoutFront$Tokens;)V"⟩, 8), (⟨"LayoutFront$Rows", "putLevelTogether", "(LLayoutFront$Tokens;IILLayoutFront$Fixities;)V"⟩, 8), (⟨"LayoutFront$Rows", "collectRow", "(LLayoutFront$Tokens;II)I"⟩, 8), (⟨"LayoutFront$Rows", "behindOperand", "(LLayoutFront$Tokens;I)I"⟩, 8), (⟨"LayoutFront$Rows", "closerOf", "(I)I"⟩, 8), (⟨"LayoutFront$Row", "endsWithOperand", "()Z"⟩, 6), (⟨"LayoutFront$Row", "add", "(III)V"⟩, 6), (⟨"LayoutFront$Rows", "putRowTogether", "(LLayoutFront$Tokens;LLayoutFront$Fixities;)V"⟩, 8), (⟨"LayoutFront$Rows", "take", "(LLayoutFront$Tokens;ILLayoutFront$Fixities;)Z"⟩, 8), (⟨"LayoutFront$Row", "has", "(I)Z"⟩, 6), (⟨"LayoutFront$Resolver", "giveSides", "()V"⟩, 11), (⟨"LayoutFront$Resolver", "letWait", "(III)V"⟩, 11), (⟨"LayoutFront", "keepCounts", "()V"⟩, 8)]
theorem lw_r2 : ∀ q ∈ lw_privs_2, lw_okq q := List.forall_mem_cons.mpr ⟨lw_p16, List.forall_mem_cons.mpr ⟨lw_p17, List.forall_mem_cons.mpr ⟨lw_p18, List.forall_mem_cons.mpr ⟨lw_p19, List.forall_mem_cons.mpr ⟨lw_p20, List.forall_mem_cons.mpr ⟨lw_p21, List.forall_mem_cons.mpr ⟨lw_p22, List.forall_mem_cons.mpr ⟨lw_p23, List.forall_mem_cons.mpr ⟨lw_p24, List.forall_mem_cons.mpr ⟨lw_p25, List.forall_mem_cons.mpr ⟨lw_p26, List.forall_mem_cons.mpr ⟨lw_p27, List.forall_mem_cons.mpr ⟨lw_p28, List.forall_mem_cons.mpr ⟨lw_p29, List.forall_mem_cons.mpr ⟨lw_p30, List.forall_mem_cons.mpr ⟨lw_p31, fun _ h => absurd h List.not_mem_nil⟩⟩⟩⟩⟩⟩⟩⟩⟩⟩⟩⟩⟩⟩⟩⟩
theorem lw_p32 : lw_okq (⟨"LayoutFrontModel", "fail", "(I)I"⟩, 50) := ⟨⟨by decide +kernel, by decide +kernel⟩, List.mem_of_getElem? (i := 1015) (by decide +kernel), List.mem_of_getElem? (i := 1183) (by decide +kernel), List.mem_of_getElem? (i := 1184) (by decide +kernel)⟩
theorem lw_p33 : lw_okq (⟨"LayoutFrontModel", "find", "(J)I"⟩, 50) := ⟨⟨by decide +kernel, by decide +kernel⟩, List.mem_of_getElem? (i := 1015) (by decide +kernel), List.mem_of_getElem? (i := 1196) (by decide +kernel), List.mem_of_getElem? (i := 1197) (by decide +kernel)⟩
theorem lw_p34 : lw_okq (⟨"LayoutFrontModel", "cut", "()V"⟩, 50) := ⟨⟨by decide +kernel, by decide +kernel⟩, List.mem_of_getElem? (i := 1015) (by decide +kernel), List.mem_of_getElem? (i := 1204) (by decide +kernel), List.mem_of_getElem? (i := 1205) (by decide +kernel)⟩
theorem lw_p35 : lw_okq (⟨"LayoutFrontModel", "here", "()I"⟩, 50) := ⟨⟨by decide +kernel, by decide +kernel⟩, List.mem_of_getElem? (i := 1015) (by decide +kernel), List.mem_of_getElem? (i := 1208) (by decide +kernel), List.mem_of_getElem? (i := 1209) (by decide +kernel)⟩
theorem lw_p36 : lw_okq (⟨"LayoutFrontModel", "nested", "()V"⟩, 50) := ⟨⟨by decide +kernel, by decide +kernel⟩, List.mem_of_getElem? (i := 1015) (by decide +kernel), List.mem_of_getElem? (i := 1212) (by decide +kernel), List.mem_of_getElem? (i := 1213) (by decide +kernel)⟩
theorem lw_p37 : lw_okq (⟨"LayoutFrontModel", "wrong", "(II)V"⟩, 50) := ⟨⟨by decide +kernel, by decide +kernel⟩, List.mem_of_getElem? (i := 1015) (by decide +kernel), List.mem_of_getElem? (i := 1216) (by decide +kernel), List.mem_of_getElem? (i := 1217) (by decide +kernel)⟩
theorem lw_p38 : lw_okq (⟨"LayoutFrontModel", "run", "(I)I"⟩, 50) := ⟨⟨by decide +kernel, by decide +kernel⟩, List.mem_of_getElem? (i := 1015) (by decide +kernel), List.mem_of_getElem? (i := 1223) (by decide +kernel), List.mem_of_getElem? (i := 1224) (by decide +kernel)⟩
theorem lw_p39 : lw_okq (⟨"LayoutFrontModel", "lexeme", "(II)V"⟩, 50) := ⟨⟨by decide +kernel, by decide +kernel⟩, List.mem_of_getElem? (i := 1015) (by decide +kernel), List.mem_of_getElem? (i := 1233) (by decide +kernel), List.mem_of_getElem? (i := 1234) (by decide +kernel)⟩
theorem lw_p40 : lw_okq (⟨"LayoutFrontModel", "packed", "(I)J"⟩, 50) := ⟨⟨by decide +kernel, by decide +kernel⟩, List.mem_of_getElem? (i := 1015) (by decide +kernel), List.mem_of_getElem? (i := 1237) (by decide +kernel), List.mem_of_getElem? (i := 1238) (by decide +kernel)⟩
theorem lw_p41 : lw_okq (⟨"LayoutFrontModel", "dashes", "(I)Z"⟩, 50) := ⟨⟨by decide +kernel, by decide +kernel⟩, List.mem_of_getElem? (i := 1015) (by decide +kernel), List.mem_of_getElem? (i := 1243) (by decide +kernel), List.mem_of_getElem? (i := 1244) (by decide +kernel)⟩
theorem lw_p42 : lw_okq (⟨"LayoutFrontModel", "lay", "()V"⟩, 50) := ⟨⟨by decide +kernel, by decide +kernel⟩, List.mem_of_getElem? (i := 1015) (by decide +kernel), List.mem_of_getElem? (i := 1250) (by decide +kernel), List.mem_of_getElem? (i := 1251) (by decide +kernel)⟩
theorem lw_p43 : lw_okq (⟨"LayoutFrontModel", "begins", "(I)Z"⟩, 50) := ⟨⟨by decide +kernel, by decide +kernel⟩, List.mem_of_getElem? (i := 1015) (by decide +kernel), List.mem_of_getElem? (i := 1254) (by decide +kernel), List.mem_of_getElem? (i := 1255) (by decide +kernel)⟩
theorem lw_p44 : lw_okq (⟨"LayoutFrontModel", "begin", "(I)V"⟩, 50) := ⟨⟨by decide +kernel, by decide +kernel⟩, List.mem_of_getElem? (i := 1015) (by decide +kernel), List.mem_of_getElem? (i := 1263) (by decide +kernel), List.mem_of_getElem? (i := 1264) (by decide +kernel)⟩
theorem lw_p45 : lw_okq (⟨"LayoutFrontModel", "emit", "(IJ)V"⟩, 50) := ⟨⟨by decide +kernel, by decide +kernel⟩, List.mem_of_getElem? (i := 1015) (by decide +kernel), List.mem_of_getElem? (i := 1267) (by decide +kernel), List.mem_of_getElem? (i := 1268) (by decide +kernel)⟩
theorem lw_p46 : lw_okq (⟨"LayoutFrontModel", "push", "(I)V"⟩, 50) := ⟨⟨by decide +kernel, by decide +kernel⟩, List.mem_of_getElem? (i := 1015) (by decide +kernel), List.mem_of_getElem? (i := 1271) (by decide +kernel), List.mem_of_getElem? (i := 1272) (by decide +kernel)⟩
theorem lw_p47 : lw_okq (⟨"LayoutFrontModel", "mark", "(I)V"⟩, 50) := ⟨⟨by decide +kernel, by decide +kernel⟩, List.mem_of_getElem? (i := 1015) (by decide +kernel), List.mem_of_getElem? (i := 1276) (by decide +kernel), List.mem_of_getElem? (i := 1277) (by decide +kernel)⟩
def lw_privs_3 : List (MethodName × Nat) := [(⟨"LayoutFrontModel", "fail", "(I)I"⟩, 50), (⟨"LayoutFrontModel", "find", "(J)I"⟩, 50), (⟨"LayoutFrontModel", "cut", "()V"⟩, 50), (⟨"LayoutFrontModel", "here", "()I"⟩, 50), (⟨"LayoutFrontModel", "nested", "()V"⟩, 50), (⟨"LayoutFrontModel", "wrong", "(II)V"⟩, 50), (⟨"LayoutFrontModel", "run", "(I)I"⟩, 50), (⟨"LayoutFrontModel", "lexeme", "(II)V"⟩, 50), (⟨"LayoutFrontModel", "packed", "(I)J"⟩, 50), (⟨"LayoutFrontModel", "dashes", "(I)Z"⟩, 50), (⟨"LayoutFrontModel", "lay", "()V"⟩, 50), (⟨"LayoutFrontModel", "begins", "(I)Z"⟩, 50), (⟨"LayoutFrontModel", "begin", "(I)V"⟩, 50), (⟨"LayoutFrontModel", "emit", "(IJ)V"⟩, 50), (⟨"LayoutFrontModel", "push", "(I)V"⟩, 50), (⟨"LayoutFrontModel", "mark", "(I)V"⟩, 50)]
theorem lw_r3 : ∀ q ∈ lw_privs_3, lw_okq q := List.forall_mem_cons.mpr ⟨lw_p32, List.forall_mem_cons.mpr ⟨lw_p33, List.forall_mem_cons.mpr ⟨lw_p34, List.forall_mem_cons.mpr ⟨lw_p35, List.forall_mem_cons.mpr ⟨lw_p36, List.forall_mem_cons.mpr ⟨lw_p37, List.forall_mem_cons.mpr ⟨lw_p38, List.forall_mem_cons.mpr ⟨lw_p39, List.forall_mem_cons.mpr ⟨lw_p40, List.forall_mem_cons.mpr ⟨lw_p41, List.forall_mem_cons.mpr ⟨lw_p42, List.forall_mem_cons.mpr ⟨lw_p43, List.forall_mem_cons.mpr ⟨lw_p44, List.forall_mem_cons.mpr ⟨lw_p45, List.forall_mem_cons.mpr ⟨lw_p46, List.forall_mem_cons.mpr ⟨lw_p47, fun _ h => absurd h List.not_mem_nil⟩⟩⟩⟩⟩⟩⟩⟩⟩⟩⟩⟩⟩⟩⟩⟩
theorem lw_p48 : lw_okq (⟨"LayoutFrontModel", "belowLets", "()I"⟩, 50) := ⟨⟨by decide +kernel, by decide +kernel⟩, List.mem_of_getElem? (i := 1015) (by decide +kernel), List.mem_of_getElem? (i := 1280) (by decide +kernel), List.mem_of_getElem? (i := 1281) (by decide +kernel)⟩
theorem lw_p49 : lw_okq (⟨"LayoutFrontModel", "dropLets", "()V"⟩, 50) := ⟨⟨by decide +kernel, by decide +kernel⟩, List.mem_of_getElem? (i := 1015) (by decide +kernel), List.mem_of_getElem? (i := 1284) (by decide +kernel), List.mem_of_getElem? (i := 1285) (by decide +kernel)⟩
theorem lw_p50 : lw_okq (⟨"LayoutFrontModel", "top", "()I"⟩, 50) := ⟨⟨by decide +kernel, by decide +kernel⟩, List.mem_of_getElem? (i := 1015) (by decide +kernel), List.mem_of_getElem? (i := 1288) (by decide +kernel), List.mem_of_getElem? (i := 1289) (by decide +kernel)⟩
theorem lw_p51 : lw_okq (⟨"LayoutFrontModel", "signs", "(IJ)V"⟩, 50) := ⟨⟨by decide +kernel, by decide +kernel⟩, List.mem_of_getElem? (i := 1015) (by decide +kernel), List.mem_of_getElem? (i := 1293) (by decide +kernel), List.mem_of_getElem? (i := 1294) (by decide +kernel)⟩
theorem lw_p52 : lw_okq (⟨"LayoutFrontModel", "closes", "(III)V"⟩, 50) := ⟨⟨by decide +kernel, by decide +kernel⟩, List.mem_of_getElem? (i := 1015) (by decide +kernel), List.mem_of_getElem? (i := 1300) (by decide +kernel), List.mem_of_getElem? (i := 1301) (by decide +kernel)⟩
theorem lw_p53 : lw_okq (⟨"LayoutFrontModel", "leave", "(Z)V"⟩, 50) := ⟨⟨by decide +kernel, by decide +kernel⟩, List.mem_of_getElem? (i := 1015) (by decide +kernel), List.mem_of_getElem? (i := 1304) (by decide +kernel), List.mem_of_getElem? (i := 1305) (by decide +kernel)⟩
theorem lw_p54 : lw_okq (⟨"LayoutFrontModel", "comma", "()V"⟩, 50) := ⟨⟨by decide +kernel, by decide +kernel⟩, List.mem_of_getElem? (i := 1015) (by decide +kernel), List.mem_of_getElem? (i := 1310) (by decide +kernel), List.mem_of_getElem? (i := 1311) (by decide +kernel)⟩
theorem lw_p55 : lw_okq (⟨"LayoutFrontModel", "words", "(IJ)V"⟩, 50) := ⟨⟨by decide +kernel, by decide +kernel⟩, List.mem_of_getElem? (i := 1015) (by decide +kernel), List.mem_of_getElem? (i := 1314) (by decide +kernel), List.mem_of_getElem? (i := 1315) (by decide +kernel)⟩
theorem lw_p56 : lw_okq (⟨"LayoutFrontModel", "around", "()V"⟩, 50) := ⟨⟨by decide +kernel, by decide +kernel⟩, List.mem_of_getElem? (i := 1015) (by decide +kernel), List.mem_of_getElem? (i := 1323) (by decide +kernel), List.mem_of_getElem? (i := 1324) (by decide +kernel)⟩
theorem lw_p57 : lw_okq (⟨"LayoutFrontModel", "partners", "()V"⟩, 50) := ⟨⟨by decide +kernel, by decide +kernel⟩, List.mem_of_getElem? (i := 1015) (by decide +kernel), List.mem_of_getElem? (i := 1327) (by decide +kernel), List.mem_of_getElem? (i := 1328) (by decide +kernel)⟩
theorem lw_p58 : lw_okq (⟨"LayoutFrontModel", "extent", "(I)I"⟩, 50) := ⟨⟨by decide +kernel, by decide +kernel⟩, List.mem_of_getElem? (i := 1015) (by decide +kernel), List.mem_of_getElem? (i := 1331) (by decide +kernel), List.mem_of_getElem? (i := 1332) (by decide +kernel)⟩
theorem lw_p59 : lw_okq (⟨"LayoutFrontModel", "plainName", "(I)Z"⟩, 50) := ⟨⟨by decide +kernel, by decide +kernel⟩, List.mem_of_getElem? (i := 1015) (by decide +kernel), List.mem_of_getElem? (i := 1335) (by decide +kernel), List.mem_of_getElem? (i := 1336) (by decide +kernel)⟩
theorem lw_p60 : lw_okq (⟨"LayoutFrontModel", "tick", "(I)Z"⟩, 50) := ⟨⟨by decide +kernel, by decide +kernel⟩, List.mem_of_getElem? (i := 1015) (by decide +kernel), List.mem_of_getElem? (i := 1355) (by decide +kernel), List.mem_of_getElem? (i := 1356) (by decide +kernel)⟩
theorem lw_p61 : lw_okq (⟨"LayoutFrontModel", "collect", "(I)V"⟩, 50) := ⟨⟨by decide +kernel, by decide +kernel⟩, List.mem_of_getElem? (i := 1015) (by decide +kernel), List.mem_of_getElem? (i := 1360) (by decide +kernel), List.mem_of_getElem? (i := 1361) (by decide +kernel)⟩
theorem lw_p62 : lw_okq (⟨"LayoutFrontModel", "operation", "(I)Z"⟩, 50) := ⟨⟨by decide +kernel, by decide +kernel⟩, List.mem_of_getElem? (i := 1015) (by decide +kernel), List.mem_of_getElem? (i := 1364) (by decide +kernel), List.mem_of_getElem? (i := 1365) (by decide +kernel)⟩
theorem lw_p63 : lw_okq (⟨"LayoutFrontModel", "regular", "()Z"⟩, 50) := ⟨⟨by decide +kernel, by decide +kernel⟩, List.mem_of_getElem? (i := 1015) (by decide +kernel), List.mem_of_getElem? (i := 1368) (by decide +kernel), List.mem_of_getElem? (i := 1369) (by decide +kernel)⟩
def lw_privs_4 : List (MethodName × Nat) := [(⟨"LayoutFrontModel", "belowLets", "()I"⟩, 50), (⟨"LayoutFrontModel", "dropLets", "()V"⟩, 50), (⟨"LayoutFrontModel", "top", "()I"⟩, 50), (⟨"LayoutFrontModel", "signs", "(IJ)V"⟩, 50), (⟨"LayoutFrontModel", "closes", "(III)V"⟩, 50), (⟨"LayoutFrontModel", "leave", "(Z)V"⟩, 50), (⟨"LayoutFrontModel", "comma", "()V"⟩, 50), (⟨"LayoutFrontModel", "words", "(IJ)V"⟩, 50), (⟨"LayoutFrontModel", "around", "()V"⟩, 50), (⟨"LayoutFrontModel", "partners", "()V"⟩, 50), (⟨"LayoutFrontModel", "extent", "(I)I"⟩, 50), (⟨"LayoutFrontModel", "plainName", "(I)Z"⟩, 50), (⟨"LayoutFrontModel", "tick", "(I)Z"⟩, 50), (⟨"LayoutFrontModel", "collect", "(I)V"⟩, 50), (⟨"LayoutFrontModel", "operation", "(I)Z"⟩, 50), (⟨"LayoutFrontModel", "regular", "()Z"⟩, 50)]
theorem lw_r4 : ∀ q ∈ lw_privs_4, lw_okq q := List.forall_mem_cons.mpr ⟨lw_p48, List.forall_mem_cons.mpr ⟨lw_p49, List.forall_mem_cons.mpr ⟨lw_p50, List.forall_mem_cons.mpr ⟨lw_p51, List.forall_mem_cons.mpr ⟨lw_p52, List.forall_mem_cons.mpr ⟨lw_p53, List.forall_mem_cons.mpr ⟨lw_p54, List.forall_mem_cons.mpr ⟨lw_p55, List.forall_mem_cons.mpr ⟨lw_p56, List.forall_mem_cons.mpr ⟨lw_p57, List.forall_mem_cons.mpr ⟨lw_p58, List.forall_mem_cons.mpr ⟨lw_p59, List.forall_mem_cons.mpr ⟨lw_p60, List.forall_mem_cons.mpr ⟨lw_p61, List.forall_mem_cons.mpr ⟨lw_p62, List.forall_mem_cons.mpr ⟨lw_p63, fun _ h => absurd h List.not_mem_nil⟩⟩⟩⟩⟩⟩⟩⟩⟩⟩⟩⟩⟩⟩⟩⟩
theorem lw_p64 : lw_okq (⟨"LayoutFrontModel", "dash", "(I)Z"⟩, 50) := ⟨⟨by decide +kernel, by decide +kernel⟩, List.mem_of_getElem? (i := 1015) (by decide +kernel), List.mem_of_getElem? (i := 1372) (by decide +kernel), List.mem_of_getElem? (i := 1373) (by decide +kernel)⟩
theorem lw_p65 : lw_okq (⟨"LayoutFrontModel", "put", "()V"⟩, 50) := ⟨⟨by decide +kernel, by decide +kernel⟩, List.mem_of_getElem? (i := 1015) (by decide +kernel), List.mem_of_getElem? (i := 1377) (by decide +kernel), List.mem_of_getElem? (i := 1378) (by decide +kernel)⟩
theorem lw_p66 : lw_okq (⟨"LayoutFrontModel", "comes", "(I)Z"⟩, 50) := ⟨⟨by decide +kernel, by decide +kernel⟩, List.mem_of_getElem? (i := 1015) (by decide +kernel), List.mem_of_getElem? (i := 1381) (by decide +kernel), List.mem_of_getElem? (i := 1382) (by decide +kernel)⟩
theorem lw_p67 : lw_okq (⟨"LayoutFrontModel", "level", "(I)I"⟩, 50) := ⟨⟨by decide +kernel, by decide +kernel⟩, List.mem_of_getElem? (i := 1015) (by decide +kernel), List.mem_of_getElem? (i := 1385) (by decide +kernel), List.mem_of_getElem? (i := 1386) (by decide +kernel)⟩
theorem lw_p68 : lw_okq (⟨"LayoutFrontModel", "fixed", "(I)I"⟩, 50) := ⟨⟨by decide +kernel, by decide +kernel⟩, List.mem_of_getElem? (i := 1015) (by decide +kernel), List.mem_of_getElem? (i := 1389) (by decide +kernel), List.mem_of_getElem? (i := 1390) (by decide +kernel)⟩
theorem lw_p69 : lw_okq (⟨"LayoutFrontModel", "core", "(I)I"⟩, 50) := ⟨⟨by decide +kernel, by decide +kernel⟩, List.mem_of_getElem? (i := 1015) (by decide +kernel), List.mem_of_getElem? (i := 1393) (by decide +kernel), List.mem_of_getElem? (i := 1394) (by decide +kernel)⟩
theorem lw_p70 : lw_okq (⟨"LayoutFrontModel", "side", "(I)I"⟩, 50) := ⟨⟨by decide +kernel, by decide +kernel⟩, List.mem_of_getElem? (i := 1015) (by decide +kernel), List.mem_of_getElem? (i := 1397) (by decide +kernel), List.mem_of_getElem? (i := 1398) (by decide +kernel)⟩
theorem lw_p71 : lw_okq (⟨"LayoutFrontModel", "apply", "()V"⟩, 50) := ⟨⟨by decide +kernel, by decide +kernel⟩, List.mem_of_getElem? (i := 1015) (by decide +kernel), List.mem_of_getElem? (i := 1401) (by decide +kernel), List.mem_of_getElem? (i := 1402) (by decide +kernel)⟩
theorem lw_p72 : lw_okq (⟨"LayoutFrontModel", "add", "(IJ)V"⟩, 50) := ⟨⟨by decide +kernel, by decide +kernel⟩, List.mem_of_getElem? (i := 1015) (by decide +kernel), List.mem_of_getElem? (i := 1405) (by decide +kernel), List.mem_of_getElem? (i := 1406) (by decide +kernel)⟩
def lw_privs_5 : List (MethodName × Nat) := [(⟨"LayoutFrontModel", "dash", "(I)Z"⟩, 50), (⟨"LayoutFrontModel", "put", "()V"⟩, 50), (⟨"LayoutFrontModel", "comes", "(I)Z"⟩, 50), (⟨"LayoutFrontModel", "level", "(I)I"⟩, 50), (⟨"LayoutFrontModel", "fixed", "(I)I"⟩, 50), (⟨"LayoutFrontModel", "core", "(I)I"⟩, 50), (⟨"LayoutFrontModel", "side", "(I)I"⟩, 50), (⟨"LayoutFrontModel", "apply", "()V"⟩, 50), (⟨"LayoutFrontModel", "add", "(IJ)V"⟩, 50)]
theorem lw_r5 : ∀ q ∈ lw_privs_5, lw_okq q := List.forall_mem_cons.mpr ⟨lw_p64, List.forall_mem_cons.mpr ⟨lw_p65, List.forall_mem_cons.mpr ⟨lw_p66, List.forall_mem_cons.mpr ⟨lw_p67, List.forall_mem_cons.mpr ⟨lw_p68, List.forall_mem_cons.mpr ⟨lw_p69, List.forall_mem_cons.mpr ⟨lw_p70, List.forall_mem_cons.mpr ⟨lw_p71, List.forall_mem_cons.mpr ⟨lw_p72, fun _ h => absurd h List.not_mem_nil⟩⟩⟩⟩⟩⟩⟩⟩⟩
def lw_privs : List (MethodName × Nat) := lw_privs_1 ++ (lw_privs_2 ++ (lw_privs_3 ++ (lw_privs_4 ++ (lw_privs_5))))
def lw_tbl : List Cond := k2_sels lw_privs ++ tables_1
theorem lw_privs_ok : ∀ q ∈ lw_privs, lw_okq q := by
  show ∀ q ∈ lw_privs_1 ++ (lw_privs_2 ++ (lw_privs_3 ++ (lw_privs_4 ++ (lw_privs_5)))), lw_okq q
  exact List.forall_mem_append.mpr ⟨lw_r1, List.forall_mem_append.mpr ⟨lw_r2, List.forall_mem_append.mpr ⟨lw_r3, List.forall_mem_append.mpr ⟨lw_r4, lw_r5⟩⟩⟩⟩
end
section
def R_LF : String := "LayoutFront"
def F_LF : u_T := fun k => match k with
  | 0 => ("LayoutFront", "text", "LLayoutFront$Text;", true)
  | 1 => ("LayoutFront", "fixities", "LLayoutFront$Fixities;", true)
  | 2 => ("LayoutFront", "cutter", "LLayoutFront$Cutter;", true)
  | 3 => ("LayoutFront", "blocks", "LLayoutFront$Blocks;", true)
  | 4 => ("LayoutFront", "rows", "LLayoutFront$Rows;", true)
  | 5 => ("LayoutFront", "tokens", "LLayoutFront$Tokens;", true)
  | 6 => ("LayoutFront", "counts", "[I", true)
  | _ => ("LayoutFront", "wrongPlace", "I", false)
def t_LF : Nat → FieldType := fun k => match k with
  | 0 => .object "LayoutFront$Text"
  | 1 => .object "LayoutFront$Fixities"
  | 2 => .object "LayoutFront$Cutter"
  | 3 => .object "LayoutFront$Blocks"
  | 4 => .object "LayoutFront$Rows"
  | 5 => .object "LayoutFront$Tokens"
  | 6 => .array (.int)
  | _ => .int
theorem n_LF : ∀ a, a < 8 → ∀ b, b < 8 → a ≠ b → (F_LF a).2.1 ≠ (F_LF b).2.1 := by decide +kernel
theorem t_LF_ok : ∀ k, k < 8 → parseFieldDescriptor (F_LF k).2.2.1 = some (t_LF k) := by decide +kernel
theorem df_LF : ∀ j, j < 8 → defaultValue (t_LF j) = vp_V [.null, .null, .null, .null, .null, .null, .null, .int 0] j := by decide +kernel
def R_Model : String := "LayoutFrontModel"
def F_Model : u_T := fun k => match k with
  | 0 => ("LayoutFrontModel", "thrown", "I", false)
  | 1 => ("LayoutFrontModel", "length", "I", false)
  | 2 => ("LayoutFrontModel", "text", "[I", true)
  | 3 => ("LayoutFrontModel", "bad", "I", false)
  | 4 => ("LayoutFrontModel", "place", "I", false)
  | 5 => ("LayoutFrontModel", "at", "I", false)
  | 6 => ("LayoutFrontModel", "lexemes", "I", false)
  | 7 => ("LayoutFrontModel", "kind", "[I", true)
  | 8 => ("LayoutFrontModel", "value", "[J", true)
  | 9 => ("LayoutFrontModel", "where", "[I", true)
  | 10 => ("LayoutFrontModel", "column", "[I", true)
  | 11 => ("LayoutFrontModel", "leads", "[Z", true)
  | 12 => ("LayoutFrontModel", "open", "I", false)
  | 13 => ("LayoutFrontModel", "highest", "I", false)
  | 14 => ("LayoutFrontModel", "row", "[I", true)
  | 15 => ("LayoutFrontModel", "tokens", "I", false)
  | 16 => ("LayoutFrontModel", "blocks", "I", false)
  | 17 => ("LayoutFrontModel", "sort", "[I", true)
  | 18 => ("LayoutFrontModel", "is", "[J", true)
  | 19 => ("LayoutFrontModel", "before", "[I", true)
  | 20 => ("LayoutFrontModel", "behind", "[I", true)
  | 21 => ("LayoutFrontModel", "partner", "[I", true)
  | 22 => ("LayoutFrontModel", "done", "[Z", true)
  | 23 => ("LayoutFrontModel", "all", "I", false)
  | 24 => ("LayoutFrontModel", "kinds", "[I", true)
  | 25 => ("LayoutFrontModel", "values", "[J", true)
  | 26 => ("LayoutFrontModel", "told", "I", false)
  | 27 => ("LayoutFrontModel", "toldBlocks", "I", false)
  | 28 => ("LayoutFrontModel", "toldRows", "I", false)
  | 29 => ("LayoutFrontModel", "toldConflicts", "I", false)
  | 30 => ("LayoutFrontModel", "toldHighest", "I", false)
  | 31 => ("LayoutFrontModel", "set", "I", false)
  | 32 => ("LayoutFrontModel", "names", "[J", true)
  | 33 => ("LayoutFrontModel", "sides", "[I", true)
  | 34 => ("LayoutFrontModel", "levels", "[I", true)
  | 35 => ("LayoutFrontModel", "items", "I", false)
  | 36 => ("LayoutFrontModel", "operands", "I", false)
  | 37 => ("LayoutFrontModel", "waiting", "I", false)
  | 38 => ("LayoutFrontModel", "pairs", "I", false)
  | 39 => ("LayoutFrontModel", "rows", "I", false)
  | 40 => ("LayoutFrontModel", "conflicts", "I", false)
  | 41 => ("LayoutFrontModel", "from", "[I", true)
  | 42 => ("LayoutFrontModel", "to", "[I", true)
  | 43 => ("LayoutFrontModel", "what", "[I", true)
  | 44 => ("LayoutFrontModel", "left", "[I", true)
  | 45 => ("LayoutFrontModel", "right", "[I", true)
  | 46 => ("LayoutFrontModel", "waits", "[I", true)
  | 47 => ("LayoutFrontModel", "opens", "[I", true)
  | 48 => ("LayoutFrontModel", "closes", "[I", true)
  | _ => ("LayoutFrontModel", "waitsFor", "[I", true)
def t_Model : Nat → FieldType := fun k => match k with
  | 0 => .int
  | 1 => .int
  | 2 => .array (.int)
  | 3 => .int
  | 4 => .int
  | 5 => .int
  | 6 => .int
  | 7 => .array (.int)
  | 8 => .array (.long)
  | 9 => .array (.int)
  | 10 => .array (.int)
  | 11 => .array (.boolean)
  | 12 => .int
  | 13 => .int
  | 14 => .array (.int)
  | 15 => .int
  | 16 => .int
  | 17 => .array (.int)
  | 18 => .array (.long)
  | 19 => .array (.int)
  | 20 => .array (.int)
  | 21 => .array (.int)
  | 22 => .array (.boolean)
  | 23 => .int
  | 24 => .array (.int)
  | 25 => .array (.long)
  | 26 => .int
  | 27 => .int
  | 28 => .int
  | 29 => .int
  | 30 => .int
  | 31 => .int
  | 32 => .array (.long)
  | 33 => .array (.int)
  | 34 => .array (.int)
  | 35 => .int
  | 36 => .int
  | 37 => .int
  | 38 => .int
  | 39 => .int
  | 40 => .int
  | 41 => .array (.int)
  | 42 => .array (.int)
  | 43 => .array (.int)
  | 44 => .array (.int)
  | 45 => .array (.int)
  | 46 => .array (.int)
  | 47 => .array (.int)
  | 48 => .array (.int)
  | _ => .array (.int)
theorem n_Model : ∀ a, a < 50 → ∀ b, b < 50 → a ≠ b → (F_Model a).2.1 ≠ (F_Model b).2.1 := by decide +kernel
theorem t_Model_ok : ∀ k, k < 50 → parseFieldDescriptor (F_Model k).2.2.1 = some (t_Model k) := by decide +kernel
theorem df_Model : ∀ j, j < 50 → defaultValue (t_Model j) = vp_V [.int 0, .int 0, .null, .int 0, .int 0, .int 0, .int 0, .null, .null, .null, .null, .null, .int 0, .int 0, .null, .int 0, .int 0, .null, .null, .null, .null, .null, .null, .int 0, .null, .null, .int 0, .int 0, .int 0, .int 0, .int 0, .int 0, .null, .null, .null, .int 0, .int 0, .int 0, .int 0, .int 0, .int 0, .null, .null, .null, .null, .null, .null, .null, .null, .null] j := by decide +kernel
def R_Blocks : String := "LayoutFront$Blocks"
def F_Blocks : u_T := fun k => match k with
  | 0 => ("LayoutFront$Blocks", "open", "LLayoutFront$Open;", true)
  | 1 => ("LayoutFront$Blocks", "laid", "LLayoutFront$Tokens;", true)
  | _ => ("LayoutFront$Blocks", "begun", "I", false)
def t_Blocks : Nat → FieldType := fun k => match k with
  | 0 => .object "LayoutFront$Open"
  | 1 => .object "LayoutFront$Tokens"
  | _ => .int
theorem n_Blocks : ∀ a, a < 3 → ∀ b, b < 3 → a ≠ b → (F_Blocks a).2.1 ≠ (F_Blocks b).2.1 := by decide +kernel
theorem t_Blocks_ok : ∀ k, k < 3 → parseFieldDescriptor (F_Blocks k).2.2.1 = some (t_Blocks k) := by decide +kernel
theorem df_Blocks : ∀ j, j < 3 → defaultValue (t_Blocks j) = vp_V [.null, .null, .int 0] j := by decide +kernel
def R_Cutter : String := "LayoutFront$Cutter"
def F_Cutter : u_T := fun k => match k with
  | 0 => ("LayoutFront$Cutter", "lexemes", "LLayoutFront$Lexemes;", true)
  | 1 => ("LayoutFront$Cutter", "at", "I", false)
  | 2 => ("LayoutFront$Cutter", "lineStart", "I", false)
  | 3 => ("LayoutFront$Cutter", "lineIsFresh", "Z", false)
  | 4 => ("LayoutFront$Cutter", "wrongPlace", "I", false)
  | _ => ("LayoutFront$Cutter", "tooMany", "Z", false)
def t_Cutter : Nat → FieldType := fun k => match k with
  | 0 => .object "LayoutFront$Lexemes"
  | 1 => .int
  | 2 => .int
  | 3 => .boolean
  | 4 => .int
  | _ => .boolean
theorem n_Cutter : ∀ a, a < 6 → ∀ b, b < 6 → a ≠ b → (F_Cutter a).2.1 ≠ (F_Cutter b).2.1 := by decide +kernel
theorem t_Cutter_ok : ∀ k, k < 6 → parseFieldDescriptor (F_Cutter k).2.2.1 = some (t_Cutter k) := by decide +kernel
theorem df_Cutter : ∀ j, j < 6 → defaultValue (t_Cutter j) = vp_V [.null, .int 0, .int 0, .int 0, .int 0, .int 0] j := by decide +kernel
def R_Fixities : String := "LayoutFront$Fixities"
def F_Fixities : u_T := fun k => match k with
  | 0 => ("LayoutFront$Fixities", "names", "[J", true)
  | 1 => ("LayoutFront$Fixities", "sides", "[I", true)
  | 2 => ("LayoutFront$Fixities", "levels", "[I", true)
  | _ => ("LayoutFront$Fixities", "size", "I", false)
def t_Fixities : Nat → FieldType := fun k => match k with
  | 0 => .array (.long)
  | 1 => .array (.int)
  | 2 => .array (.int)
  | _ => .int
theorem n_Fixities : ∀ a, a < 4 → ∀ b, b < 4 → a ≠ b → (F_Fixities a).2.1 ≠ (F_Fixities b).2.1 := by decide +kernel
theorem t_Fixities_ok : ∀ k, k < 4 → parseFieldDescriptor (F_Fixities k).2.2.1 = some (t_Fixities k) := by decide +kernel
theorem df_Fixities : ∀ j, j < 4 → defaultValue (t_Fixities j) = vp_V [.null, .null, .null, .int 0] j := by decide +kernel
def R_Lexemes : String := "LayoutFront$Lexemes"
def F_Lexemes : u_T := fun k => match k with
  | 0 => ("LayoutFront$Lexemes", "tokens", "LLayoutFront$Tokens;", true)
  | 1 => ("LayoutFront$Lexemes", "places", "[I", true)
  | 2 => ("LayoutFront$Lexemes", "columns", "[I", true)
  | _ => ("LayoutFront$Lexemes", "lineFirsts", "[Z", true)
def t_Lexemes : Nat → FieldType := fun k => match k with
  | 0 => .object "LayoutFront$Tokens"
  | 1 => .array (.int)
  | 2 => .array (.int)
  | _ => .array (.boolean)
theorem n_Lexemes : ∀ a, a < 4 → ∀ b, b < 4 → a ≠ b → (F_Lexemes a).2.1 ≠ (F_Lexemes b).2.1 := by decide +kernel
theorem t_Lexemes_ok : ∀ k, k < 4 → parseFieldDescriptor (F_Lexemes k).2.2.1 = some (t_Lexemes k) := by decide +kernel
theorem df_Lexemes : ∀ j, j < 4 → defaultValue (t_Lexemes j) = vp_V [.null, .null, .null, .null] j := by decide +kernel
def R_Open : String := "LayoutFront$Open"
def F_Open : u_T := fun k => match k with
  | 0 => ("LayoutFront$Open", "things", "[I", true)
  | 1 => ("LayoutFront$Open", "size", "I", false)
  | _ => ("LayoutFront$Open", "most", "I", false)
def t_Open : Nat → FieldType := fun k => match k with
  | 0 => .array (.int)
  | 1 => .int
  | _ => .int
theorem n_Open : ∀ a, a < 3 → ∀ b, b < 3 → a ≠ b → (F_Open a).2.1 ≠ (F_Open b).2.1 := by decide +kernel
theorem t_Open_ok : ∀ k, k < 3 → parseFieldDescriptor (F_Open k).2.2.1 = some (t_Open k) := by decide +kernel
theorem df_Open : ∀ j, j < 3 → defaultValue (t_Open j) = vp_V [.null, .int 0, .int 0] j := by decide +kernel
def R_Resolver : String := "LayoutFront$Resolver"
def F_Resolver : u_T := fun k => match k with
  | 0 => ("LayoutFront$Resolver", "pairFirsts", "[I", true)
  | 1 => ("LayoutFront$Resolver", "pairLasts", "[I", true)
  | 2 => ("LayoutFront$Resolver", "pairs", "I", false)
  | 3 => ("LayoutFront$Resolver", "pairsBefore", "I", false)
  | 4 => ("LayoutFront$Resolver", "firsts", "[I", true)
  | 5 => ("LayoutFront$Resolver", "lasts", "[I", true)
  | 6 => ("LayoutFront$Resolver", "operands", "I", false)
  | 7 => ("LayoutFront$Resolver", "levels", "[I", true)
  | 8 => ("LayoutFront$Resolver", "sides", "[I", true)
  | 9 => ("LayoutFront$Resolver", "minusPlaces", "[I", true)
  | _ => ("LayoutFront$Resolver", "waiting", "I", false)
def t_Resolver : Nat → FieldType := fun k => match k with
  | 0 => .array (.int)
  | 1 => .array (.int)
  | 2 => .int
  | 3 => .int
  | 4 => .array (.int)
  | 5 => .array (.int)
  | 6 => .int
  | 7 => .array (.int)
  | 8 => .array (.int)
  | 9 => .array (.int)
  | _ => .int
theorem n_Resolver : ∀ a, a < 11 → ∀ b, b < 11 → a ≠ b → (F_Resolver a).2.1 ≠ (F_Resolver b).2.1 := by decide +kernel
theorem t_Resolver_ok : ∀ k, k < 11 → parseFieldDescriptor (F_Resolver k).2.2.1 = some (t_Resolver k) := by decide +kernel
theorem df_Resolver : ∀ j, j < 11 → defaultValue (t_Resolver j) = vp_V [.null, .null, .int 0, .int 0, .null, .null, .int 0, .null, .null, .null, .int 0] j := by decide +kernel
def R_Row : String := "LayoutFront$Row"
def F_Row : u_T := fun k => match k with
  | 0 => ("LayoutFront$Row", "parts", "[I", true)
  | 1 => ("LayoutFront$Row", "firsts", "[I", true)
  | 2 => ("LayoutFront$Row", "lasts", "[I", true)
  | 3 => ("LayoutFront$Row", "size", "I", false)
  | 4 => ("LayoutFront$Row", "operates", "Z", false)
  | _ => ("LayoutFront$Row", "lacksOperand", "Z", false)
def t_Row : Nat → FieldType := fun k => match k with
  | 0 => .array (.int)
  | 1 => .array (.int)
  | 2 => .array (.int)
  | 3 => .int
  | 4 => .boolean
  | _ => .boolean
theorem n_Row : ∀ a, a < 6 → ∀ b, b < 6 → a ≠ b → (F_Row a).2.1 ≠ (F_Row b).2.1 := by decide +kernel
theorem t_Row_ok : ∀ k, k < 6 → parseFieldDescriptor (F_Row k).2.2.1 = some (t_Row k) := by decide +kernel
theorem df_Row : ∀ j, j < 6 → defaultValue (t_Row j) = vp_V [.null, .null, .null, .int 0, .int 0, .int 0] j := by decide +kernel
def R_Rows : String := "LayoutFront$Rows"
def F_Rows : u_T := fun k => match k with
  | 0 => ("LayoutFront$Rows", "closers", "[I", true)
  | 1 => ("LayoutFront$Rows", "openers", "[I", true)
  | 2 => ("LayoutFront$Rows", "opened", "[I", true)
  | 3 => ("LayoutFront$Rows", "closed", "[I", true)
  | 4 => ("LayoutFront$Rows", "row", "LLayoutFront$Row;", true)
  | 5 => ("LayoutFront$Rows", "resolver", "LLayoutFront$Resolver;", true)
  | 6 => ("LayoutFront$Rows", "together", "I", false)
  | _ => ("LayoutFront$Rows", "inConflict", "I", false)
def t_Rows : Nat → FieldType := fun k => match k with
  | 0 => .array (.int)
  | 1 => .array (.int)
  | 2 => .array (.int)
  | 3 => .array (.int)
  | 4 => .object "LayoutFront$Row"
  | 5 => .object "LayoutFront$Resolver"
  | 6 => .int
  | _ => .int
theorem n_Rows : ∀ a, a < 8 → ∀ b, b < 8 → a ≠ b → (F_Rows a).2.1 ≠ (F_Rows b).2.1 := by decide +kernel
theorem t_Rows_ok : ∀ k, k < 8 → parseFieldDescriptor (F_Rows k).2.2.1 = some (t_Rows k) := by decide +kernel
theorem df_Rows : ∀ j, j < 8 → defaultValue (t_Rows j) = vp_V [.null, .null, .null, .null, .null, .null, .int 0, .int 0] j := by decide +kernel
def R_Text : String := "LayoutFront$Text"
def F_Text : u_T := fun k => match k with
  | 0 => ("LayoutFront$Text", "characters", "[C", true)
  | _ => ("LayoutFront$Text", "length", "I", false)
def t_Text : Nat → FieldType := fun k => match k with
  | 0 => .array (.char)
  | _ => .int
theorem n_Text : ∀ a, a < 2 → ∀ b, b < 2 → a ≠ b → (F_Text a).2.1 ≠ (F_Text b).2.1 := by decide +kernel
theorem t_Text_ok : ∀ k, k < 2 → parseFieldDescriptor (F_Text k).2.2.1 = some (t_Text k) := by decide +kernel
theorem df_Text : ∀ j, j < 2 → defaultValue (t_Text j) = vp_V [.null, .int 0] j := by decide +kernel
def R_Tokens : String := "LayoutFront$Tokens"
def F_Tokens : u_T := fun k => match k with
  | 0 => ("LayoutFront$Tokens", "kinds", "[I", true)
  | 1 => ("LayoutFront$Tokens", "values", "[J", true)
  | _ => ("LayoutFront$Tokens", "size", "I", false)
def t_Tokens : Nat → FieldType := fun k => match k with
  | 0 => .array (.int)
  | 1 => .array (.long)
  | _ => .int
theorem n_Tokens : ∀ a, a < 3 → ∀ b, b < 3 → a ≠ b → (F_Tokens a).2.1 ≠ (F_Tokens b).2.1 := by decide +kernel
theorem t_Tokens_ok : ∀ k, k < 3 → parseFieldDescriptor (F_Tokens k).2.2.1 = some (t_Tokens k) := by decide +kernel
theorem df_Tokens : ∀ j, j < 3 → defaultValue (t_Tokens j) = vp_V [.null, .null, .int 0] j := by decide +kernel
def R_Law : String := "LayoutFrontLaw"
abbrev vcl : List vw_C := [(R_LF, F_LF, 8), (R_Model, F_Model, 50), (R_Blocks, F_Blocks, 3), (R_Cutter, F_Cutter, 6), (R_Fixities, F_Fixities, 4), (R_Lexemes, F_Lexemes, 4), (R_Open, F_Open, 3), (R_Resolver, F_Resolver, 11), (R_Row, F_Row, 6), (R_Rows, F_Rows, 8), (R_Text, F_Text, 2), (R_Tokens, F_Tokens, 3)]
def y_LF_init : MethodName := ⟨R_LF, "<init>", "()V"⟩
abbrev b_LF_init : ByteArray := prog_1_method_1_code
def y_LF_write : MethodName := ⟨R_LF, "write", "(JI)I"⟩
abbrev b_LF_write : ByteArray := prog_1_method_2_code
def y_LF_erase : MethodName := ⟨R_LF, "erase", "()I"⟩
abbrev b_LF_erase : ByteArray := prog_1_method_3_code
def y_LF_fixity : MethodName := ⟨R_LF, "fixity", "(JII)I"⟩
abbrev b_LF_fixity : ByteArray := prog_1_method_4_code
def y_LF_read : MethodName := ⟨R_LF, "read", "()I"⟩
abbrev b_LF_read : ByteArray := prog_1_method_5_code
def y_LF_keepCounts : MethodName := ⟨R_LF, "keepCounts", "()V"⟩
abbrev b_LF_keepCounts : ByteArray := prog_1_method_6_code
def y_LF_place : MethodName := ⟨R_LF, "place", "()I"⟩
abbrev b_LF_place : ByteArray := prog_1_method_7_code
def y_LF_kind : MethodName := ⟨R_LF, "kind", "(I)I"⟩
abbrev b_LF_kind : ByteArray := prog_1_method_8_code
def y_LF_token : MethodName := ⟨R_LF, "token", "(I)J"⟩
abbrev b_LF_token : ByteArray := prog_1_method_9_code
def y_LF_count : MethodName := ⟨R_LF, "count", "(I)I"⟩
abbrev b_LF_count : ByteArray := prog_1_method_10_code
def y_Model_init : MethodName := ⟨R_Model, "<init>", "()V"⟩
abbrev b_Model_init : ByteArray := prog_13_method_1_code
def y_Model_thrown : MethodName := ⟨R_Model, "thrown", "()I"⟩
abbrev b_Model_thrown : ByteArray := prog_13_method_2_code
def y_Model_fail : MethodName := ⟨R_Model, "fail", "(I)I"⟩
abbrev b_Model_fail : ByteArray := prog_13_method_3_code
def y_Model_within : MethodName := ⟨R_Model, "within", "(III)Z"⟩
abbrev b_Model_within : ByteArray := prog_13_method_4_code
def y_Model_write : MethodName := ⟨R_Model, "write", "(JI)I"⟩
abbrev b_Model_write : ByteArray := prog_13_method_5_code
def y_Model_erase : MethodName := ⟨R_Model, "erase", "()I"⟩
abbrev b_Model_erase : ByteArray := prog_13_method_6_code
def y_Model_find : MethodName := ⟨R_Model, "find", "(J)I"⟩
abbrev b_Model_find : ByteArray := prog_13_method_7_code
def y_Model_fixity : MethodName := ⟨R_Model, "fixity", "(JII)I"⟩
abbrev b_Model_fixity : ByteArray := prog_13_method_8_code
def y_Model_cut : MethodName := ⟨R_Model, "cut", "()V"⟩
abbrev b_Model_cut : ByteArray := prog_13_method_20_code
def y_Model_emit : MethodName := ⟨R_Model, "emit", "(IJ)V"⟩
abbrev b_Model_emit : ByteArray := prog_13_method_22_code
def y_Model_top : MethodName := ⟨R_Model, "top", "()I"⟩
abbrev b_Model_top : ByteArray := prog_13_method_24_code
def y_Model_leave : MethodName := ⟨R_Model, "leave", "(Z)V"⟩
abbrev b_Model_leave : ByteArray := prog_13_method_28_code
def y_Model_begins : MethodName := ⟨R_Model, "begins", "(I)Z"⟩
abbrev b_Model_begins : ByteArray := prog_13_method_33_code
def y_Model_begin : MethodName := ⟨R_Model, "begin", "(I)V"⟩
abbrev b_Model_begin : ByteArray := prog_13_method_34_code
def y_Model_lay : MethodName := ⟨R_Model, "lay", "()V"⟩
abbrev b_Model_lay : ByteArray := prog_13_method_35_code
def y_Model_partners : MethodName := ⟨R_Model, "partners", "()V"⟩
abbrev b_Model_partners : ByteArray := prog_13_method_37_code
def y_Model_plainName : MethodName := ⟨R_Model, "plainName", "(I)Z"⟩
abbrev b_Model_plainName : ByteArray := prog_13_method_38_code
def y_Model_tick : MethodName := ⟨R_Model, "tick", "(I)Z"⟩
abbrev b_Model_tick : ByteArray := prog_13_method_39_code
def y_Model_extent : MethodName := ⟨R_Model, "extent", "(I)I"⟩
abbrev b_Model_extent : ByteArray := prog_13_method_40_code
def y_Model_around : MethodName := ⟨R_Model, "around", "()V"⟩
abbrev b_Model_around : ByteArray := prog_13_method_52_code
def y_Model_add : MethodName := ⟨R_Model, "add", "(IJ)V"⟩
abbrev b_Model_add : ByteArray := prog_13_method_53_code
def y_Model_read : MethodName := ⟨R_Model, "read", "()I"⟩
abbrev b_Model_read : ByteArray := prog_13_method_54_code
def y_Model_place : MethodName := ⟨R_Model, "place", "()I"⟩
abbrev b_Model_place : ByteArray := prog_13_method_55_code
def y_Model_kind : MethodName := ⟨R_Model, "kind", "(I)I"⟩
abbrev b_Model_kind : ByteArray := prog_13_method_56_code
def y_Model_token : MethodName := ⟨R_Model, "token", "(I)J"⟩
abbrev b_Model_token : ByteArray := prog_13_method_57_code
def y_Model_count : MethodName := ⟨R_Model, "count", "(I)I"⟩
abbrev b_Model_count : ByteArray := prog_13_method_58_code
def y_Blocks_init : MethodName := ⟨R_Blocks, "<init>", "()V"⟩
abbrev b_Blocks_init : ByteArray := prog_2_method_1_code
def y_Blocks_laid : MethodName := ⟨R_Blocks, "laid", "()LLayoutFront$Tokens;"⟩
abbrev b_Blocks_laid : ByteArray := prog_2_method_2_code
def y_Blocks_begun : MethodName := ⟨R_Blocks, "begun", "()I"⟩
abbrev b_Blocks_begun : ByteArray := prog_2_method_3_code
def y_Blocks_mostOpen : MethodName := ⟨R_Blocks, "mostOpen", "()I"⟩
abbrev b_Blocks_mostOpen : ByteArray := prog_2_method_4_code
def y_Blocks_lay : MethodName := ⟨R_Blocks, "lay", "(LLayoutFront$Lexemes;I)I"⟩
abbrev b_Blocks_lay : ByteArray := prog_2_method_5_code
def y_Blocks_putBefore : MethodName := ⟨R_Blocks, "putBefore", "(LLayoutFront$Lexemes;I)V"⟩
abbrev b_Blocks_putBefore : ByteArray := prog_2_method_6_code
def y_Blocks_beginsBlock : MethodName := ⟨R_Blocks, "beginsBlock", "(LLayoutFront$Tokens;I)Z"⟩
abbrev b_Blocks_beginsBlock : ByteArray := prog_2_method_7_code
def y_Blocks_begin : MethodName := ⟨R_Blocks, "begin", "(I)V"⟩
abbrev b_Blocks_begin : ByteArray := prog_2_method_8_code
def y_Blocks_putIn : MethodName := ⟨R_Blocks, "putIn", "(C)V"⟩
abbrev b_Blocks_putIn : ByteArray := prog_2_method_10_code
def y_Blocks_closeBlocks : MethodName := ⟨R_Blocks, "closeBlocks", "(Z)V"⟩
abbrev b_Blocks_closeBlocks : ByteArray := prog_2_method_16_code
def y_Cutter_init : MethodName := ⟨R_Cutter, "<init>", "()V"⟩
abbrev b_Cutter_init : ByteArray := prog_3_method_1_code
def y_Cutter_lexemes : MethodName := ⟨R_Cutter, "lexemes", "()LLayoutFront$Lexemes;"⟩
abbrev b_Cutter_lexemes : ByteArray := prog_3_method_2_code
def y_Cutter_foundTooMany : MethodName := ⟨R_Cutter, "foundTooMany", "()Z"⟩
abbrev b_Cutter_foundTooMany : ByteArray := prog_3_method_3_code
def y_Cutter_cut : MethodName := ⟨R_Cutter, "cut", "(LLayoutFront$Text;)I"⟩
abbrev b_Cutter_cut : ByteArray := prog_3_method_4_code
def y_Fixities_init : MethodName := ⟨R_Fixities, "<init>", "()V"⟩
abbrev b_Fixities_init : ByteArray := prog_4_method_1_code
def y_Fixities_size : MethodName := ⟨R_Fixities, "size", "()I"⟩
abbrev b_Fixities_size : ByteArray := prog_4_method_2_code
def y_Fixities_hasRoomFor : MethodName := ⟨R_Fixities, "hasRoomFor", "(J)Z"⟩
abbrev b_Fixities_hasRoomFor : ByteArray := prog_4_method_3_code
def y_Fixities_set : MethodName := ⟨R_Fixities, "set", "(JII)V"⟩
abbrev b_Fixities_set : ByteArray := prog_4_method_4_code
def y_Fixities_find : MethodName := ⟨R_Fixities, "find", "(J)I"⟩
abbrev b_Fixities_find : ByteArray := prog_4_method_7_code
def y_Lexemes_init : MethodName := ⟨R_Lexemes, "<init>", "()V"⟩
abbrev b_Lexemes_init : ByteArray := prog_5_method_1_code
def y_Lexemes_clear : MethodName := ⟨R_Lexemes, "clear", "()V"⟩
abbrev b_Lexemes_clear : ByteArray := prog_5_method_2_code
def y_Lexemes_size : MethodName := ⟨R_Lexemes, "size", "()I"⟩
abbrev b_Lexemes_size : ByteArray := prog_5_method_3_code
def y_Lexemes_tokens : MethodName := ⟨R_Lexemes, "tokens", "()LLayoutFront$Tokens;"⟩
abbrev b_Lexemes_tokens : ByteArray := prog_5_method_5_code
def y_Lexemes_columnAt : MethodName := ⟨R_Lexemes, "columnAt", "(I)I"⟩
abbrev b_Lexemes_columnAt : ByteArray := prog_5_method_8_code
def y_Open_init : MethodName := ⟨R_Open, "<init>", "()V"⟩
abbrev b_Open_init : ByteArray := prog_6_method_1_code
def y_Open_clear : MethodName := ⟨R_Open, "clear", "()V"⟩
abbrev b_Open_clear : ByteArray := prog_6_method_2_code
def y_Open_size : MethodName := ⟨R_Open, "size", "()I"⟩
abbrev b_Open_size : ByteArray := prog_6_method_3_code
def y_Open_most : MethodName := ⟨R_Open, "most", "()I"⟩
abbrev b_Open_most : ByteArray := prog_6_method_4_code
def y_Open_latestColumn : MethodName := ⟨R_Open, "latestColumn", "()I"⟩
abbrev b_Open_latestColumn : ByteArray := prog_6_method_12_code
def y_Resolver_init : MethodName := ⟨R_Resolver, "<init>", "()V"⟩
abbrev b_Resolver_init : ByteArray := prog_7_method_1_code
def y_Resolver_clear : MethodName := ⟨R_Resolver, "clear", "()V"⟩
abbrev b_Resolver_clear : ByteArray := prog_7_method_2_code
def y_Resolver_startRow : MethodName := ⟨R_Resolver, "startRow", "()V"⟩
abbrev b_Resolver_startRow : ByteArray := prog_7_method_3_code
def y_Resolver_tally : MethodName := ⟨R_Resolver, "tally", "([I[I)V"⟩
abbrev b_Resolver_tally : ByteArray := prog_7_method_11_code
def y_Row_init : MethodName := ⟨R_Row, "<init>", "()V"⟩
abbrev b_Row_init : ByteArray := prog_8_method_1_code
def y_Row_clear : MethodName := ⟨R_Row, "clear", "()V"⟩
abbrev b_Row_clear : ByteArray := prog_8_method_2_code
def y_Row_isWhole : MethodName := ⟨R_Row, "isWhole", "()Z"⟩
abbrev b_Row_isWhole : ByteArray := prog_8_method_4_code
def y_Rows_init : MethodName := ⟨R_Rows, "<init>", "()V"⟩
abbrev b_Rows_init : ByteArray := prog_9_method_1_code
def y_Rows_together : MethodName := ⟨R_Rows, "together", "()I"⟩
abbrev b_Rows_together : ByteArray := prog_9_method_2_code
def y_Rows_inConflict : MethodName := ⟨R_Rows, "inConflict", "()I"⟩
abbrev b_Rows_inConflict : ByteArray := prog_9_method_3_code
def y_Rows_putTogether : MethodName := ⟨R_Rows, "putTogether", "(LLayoutFront$Tokens;LLayoutFront$Fixities;)V"⟩
abbrev b_Rows_putTogether : ByteArray := prog_9_method_4_code
def y_Rows_copyInto : MethodName := ⟨R_Rows, "copyInto", "(LLayoutFront$Tokens;LLayoutFront$Tokens;)V"⟩
abbrev b_Rows_copyInto : ByteArray := prog_9_method_5_code
def y_Rows_matchBrackets : MethodName := ⟨R_Rows, "matchBrackets", "(LLayoutFront$Tokens;)V"⟩
abbrev b_Rows_matchBrackets : ByteArray := prog_9_method_6_code
def y_Rows_putLevelTogether : MethodName := ⟨R_Rows, "putLevelTogether", "(LLayoutFront$Tokens;IILLayoutFront$Fixities;)V"⟩
abbrev b_Rows_putLevelTogether : ByteArray := prog_9_method_8_code
def y_Rows_collectRow : MethodName := ⟨R_Rows, "collectRow", "(LLayoutFront$Tokens;II)I"⟩
abbrev b_Rows_collectRow : ByteArray := prog_9_method_9_code
def y_Rows_behindOperand : MethodName := ⟨R_Rows, "behindOperand", "(LLayoutFront$Tokens;I)I"⟩
abbrev b_Rows_behindOperand : ByteArray := prog_9_method_10_code
def y_Rows_behindOperation : MethodName := ⟨R_Rows, "behindOperation", "(LLayoutFront$Tokens;I)I"⟩
abbrev b_Rows_behindOperation : ByteArray := prog_9_method_11_code
def y_Text_init : MethodName := ⟨R_Text, "<init>", "()V"⟩
abbrev b_Text_init : ByteArray := prog_10_method_1_code
def y_Text_areCharacters : MethodName := ⟨R_Text, "areCharacters", "(JI)Z"⟩
abbrev b_Text_areCharacters : ByteArray := prog_10_method_2_code
def y_Text_byteOf : MethodName := ⟨R_Text, "byteOf", "(JI)I"⟩
abbrev b_Text_byteOf : ByteArray := prog_10_method_3_code
def y_Text_length : MethodName := ⟨R_Text, "length", "()I"⟩
abbrev b_Text_length : ByteArray := prog_10_method_4_code
def y_Text_hasRoomFor : MethodName := ⟨R_Text, "hasRoomFor", "(I)Z"⟩
abbrev b_Text_hasRoomFor : ByteArray := prog_10_method_5_code
def y_Text_append : MethodName := ⟨R_Text, "append", "(JI)V"⟩
abbrev b_Text_append : ByteArray := prog_10_method_6_code
def y_Text_clear : MethodName := ⟨R_Text, "clear", "()V"⟩
abbrev b_Text_clear : ByteArray := prog_10_method_7_code
def y_Tokens_init : MethodName := ⟨R_Tokens, "<init>", "(I)V"⟩
abbrev b_Tokens_init : ByteArray := prog_11_method_1_code
def y_Tokens_clear : MethodName := ⟨R_Tokens, "clear", "()V"⟩
abbrev b_Tokens_clear : ByteArray := prog_11_method_2_code
def y_Tokens_size : MethodName := ⟨R_Tokens, "size", "()I"⟩
abbrev b_Tokens_size : ByteArray := prog_11_method_3_code
def y_Tokens_add : MethodName := ⟨R_Tokens, "add", "(IJ)V"⟩
abbrev b_Tokens_add : ByteArray := prog_11_method_4_code
def y_Tokens_addTimes : MethodName := ⟨R_Tokens, "addTimes", "(IIJ)V"⟩
abbrev b_Tokens_addTimes : ByteArray := prog_11_method_5_code
def y_Tokens_has : MethodName := ⟨R_Tokens, "has", "(I)Z"⟩
abbrev b_Tokens_has : ByteArray := prog_11_method_6_code
def y_Tokens_kindAt : MethodName := ⟨R_Tokens, "kindAt", "(I)I"⟩
abbrev b_Tokens_kindAt : ByteArray := prog_11_method_7_code
def y_Tokens_valueAt : MethodName := ⟨R_Tokens, "valueAt", "(I)J"⟩
abbrev b_Tokens_valueAt : ByteArray := prog_11_method_8_code
def y_Tokens_isSign : MethodName := ⟨R_Tokens, "isSign", "(IC)Z"⟩
abbrev b_Tokens_isSign : ByteArray := prog_11_method_9_code
def y_Tokens_opensBracket : MethodName := ⟨R_Tokens, "opensBracket", "(I)Z"⟩
abbrev b_Tokens_opensBracket : ByteArray := prog_11_method_10_code
def y_Tokens_closesBracket : MethodName := ⟨R_Tokens, "closesBracket", "(I)Z"⟩
abbrev b_Tokens_closesBracket : ByteArray := prog_11_method_11_code
def y_Tokens_wordAt : MethodName := ⟨R_Tokens, "wordAt", "(I)I"⟩
abbrev b_Tokens_wordAt : ByteArray := prog_11_method_12_code
def y_Tokens_isFreeName : MethodName := ⟨R_Tokens, "isFreeName", "(I)Z"⟩
abbrev b_Tokens_isFreeName : ByteArray := prog_11_method_13_code
def y_Tokens_isFreeOperator : MethodName := ⟨R_Tokens, "isFreeOperator", "(I)Z"⟩
abbrev b_Tokens_isFreeOperator : ByteArray := prog_11_method_14_code
def y_Law_write : MethodName := ⟨R_Law, "write", "(LLayoutFront;JI[J)I"⟩
abbrev b_Law_write : ByteArray := method_3_code
def y_Law_fixity : MethodName := ⟨R_Law, "fixity", "(LLayoutFront;JII[J)I"⟩
abbrev b_Law_fixity : ByteArray := method_4_code
def y_Law_read : MethodName := ⟨R_Law, "read", "(LLayoutFront;[J)I"⟩
abbrev b_Law_read : ByteArray := method_5_code
def y_Law_kind : MethodName := ⟨R_Law, "kind", "(LLayoutFront;I[J)I"⟩
abbrev b_Law_kind : ByteArray := method_6_code
def y_Law_token : MethodName := ⟨R_Law, "token", "(LLayoutFront;I[J)I"⟩
abbrev b_Law_token : ByteArray := method_7_code
def y_Law_count : MethodName := ⟨R_Law, "count", "(LLayoutFront;I[J)I"⟩
abbrev b_Law_count : ByteArray := method_8_code
def y_Law_law : MethodName := ⟨R_Law, "law", "([I)Z"⟩
def xIAE : String := "java/lang/IllegalArgumentException"
def xIOB : String := "java/lang/IndexOutOfBoundsException"
def wz_0 : List Cond := [.methodLink R_Text 3 objectInit, .instanceMethod objectInit, .code objectInit ⟨#[0xb1]⟩ 1 none, .arrayClass .char, .fieldLink R_Text 9 "LayoutFront$Text" "characters" "[C", .methodLink R_Fixities 3 objectInit, .arrayClass .long, .fieldLink R_Fixities 9 "LayoutFront$Fixities" "names" "[J", .arrayClass .int, .fieldLink R_Fixities 15 "LayoutFront$Fixities" "sides" "[I", .fieldLink R_Fixities 19 "LayoutFront$Fixities" "levels" "[I", .methodLink R_Tokens 3 objectInit, .fieldLink R_Tokens 9 "LayoutFront$Tokens" "kinds" "[I", .fieldLink R_Tokens 15 "LayoutFront$Tokens" "values" "[J", .methodLink R_Lexemes 3 objectInit, .classLink R_Lexemes 9 R_Tokens, .instantiable R_Tokens 3, .initialized R_Tokens, .code y_Tokens_init b_Tokens_init 2 none, .methodLink R_Lexemes 11 y_Tokens_init, .instanceMethod y_Tokens_init, .fieldLink R_Lexemes 14 "LayoutFront$Lexemes" "tokens" "LLayoutFront$Tokens;", .fieldLink R_Lexemes 20 "LayoutFront$Lexemes" "places" "[I", .fieldLink R_Lexemes 24 "LayoutFront$Lexemes" "columns" "[I", .arrayClass .boolean, .fieldLink R_Lexemes 27 "LayoutFront$Lexemes" "lineFirsts" "[Z", .methodLink R_Cutter 3 objectInit, .classLink R_Cutter 9 R_Lexemes, .instantiable R_Lexemes 4, .initialized R_Lexemes]
def wz_1 : List Cond := [.code y_Lexemes_init b_Lexemes_init 1 none, .instanceMethod y_Lexemes_init, .fieldLink R_Cutter 12 "LayoutFront$Cutter" "lexemes" "LLayoutFront$Lexemes;", .fieldLink R_Cutter 18 "LayoutFront$Cutter" "wrongPlace" "I", .methodLink R_Open 3 objectInit, .fieldLink R_Open 9 "LayoutFront$Open" "things" "[I", .methodLink R_Blocks 3 objectInit, .classLink R_Blocks 9 R_Open, .instantiable R_Open 3, .initialized R_Open, .code y_Open_init b_Open_init 1 none, .instanceMethod y_Open_init, .fieldLink R_Blocks 12 "LayoutFront$Blocks" "open" "LLayoutFront$Open;", .classLink R_Blocks 18 R_Tokens, .methodLink R_Blocks 20 y_Tokens_init, .fieldLink R_Blocks 23 "LayoutFront$Blocks" "laid" "LLayoutFront$Tokens;", .methodLink R_Row 3 objectInit, .fieldLink R_Row 9 "LayoutFront$Row" "parts" "[I", .fieldLink R_Row 15 "LayoutFront$Row" "firsts" "[I", .fieldLink R_Row 18 "LayoutFront$Row" "lasts" "[I", .methodLink R_Resolver 3 objectInit, .fieldLink R_Resolver 9 "LayoutFront$Resolver" "pairFirsts" "[I", .fieldLink R_Resolver 15 "LayoutFront$Resolver" "pairLasts" "[I", .fieldLink R_Resolver 18 "LayoutFront$Resolver" "firsts" "[I", .fieldLink R_Resolver 21 "LayoutFront$Resolver" "lasts" "[I", .fieldLink R_Resolver 24 "LayoutFront$Resolver" "levels" "[I", .fieldLink R_Resolver 27 "LayoutFront$Resolver" "sides" "[I", .fieldLink R_Resolver 30 "LayoutFront$Resolver" "minusPlaces" "[I", .methodLink R_Rows 3 objectInit, .fieldLink R_Rows 9 "LayoutFront$Rows" "closers" "[I"]
def wz_2 : List Cond := [.fieldLink R_Rows 15 "LayoutFront$Rows" "openers" "[I", .fieldLink R_Rows 18 "LayoutFront$Rows" "opened" "[I", .fieldLink R_Rows 21 "LayoutFront$Rows" "closed" "[I", .classLink R_Rows 24 R_Row, .instantiable R_Row 6, .initialized R_Row, .code y_Row_init b_Row_init 1 none, .instanceMethod y_Row_init, .fieldLink R_Rows 27 "LayoutFront$Rows" "row" "LLayoutFront$Row;", .classLink R_Rows 31 R_Resolver, .instantiable R_Resolver 11, .initialized R_Resolver, .code y_Resolver_init b_Resolver_init 1 none, .instanceMethod y_Resolver_init, .fieldLink R_Rows 34 "LayoutFront$Rows" "resolver" "LLayoutFront$Resolver;", .methodLink R_LF 3 objectInit, .classLink R_LF 9 R_Text, .instantiable R_Text 2, .initialized R_Text, .code y_Text_init b_Text_init 1 none, .instanceMethod y_Text_init, .fieldLink R_LF 12 "LayoutFront" "text" "LLayoutFront$Text;", .classLink R_LF 16 R_Fixities, .instantiable R_Fixities 4, .initialized R_Fixities, .code y_Fixities_init b_Fixities_init 1 none, .instanceMethod y_Fixities_init, .fieldLink R_LF 19 "LayoutFront" "fixities" "LLayoutFront$Fixities;", .classLink R_LF 23 R_Cutter, .instantiable R_Cutter 6]
def wz_3 : List Cond := [.initialized R_Cutter, .code y_Cutter_init b_Cutter_init 1 none, .instanceMethod y_Cutter_init, .fieldLink R_LF 26 "LayoutFront" "cutter" "LLayoutFront$Cutter;", .classLink R_LF 30 R_Blocks, .instantiable R_Blocks 3, .initialized R_Blocks, .code y_Blocks_init b_Blocks_init 1 none, .instanceMethod y_Blocks_init, .fieldLink R_LF 33 "LayoutFront" "blocks" "LLayoutFront$Blocks;", .classLink R_LF 37 R_Rows, .instantiable R_Rows 8, .initialized R_Rows, .code y_Rows_init b_Rows_init 1 none, .instanceMethod y_Rows_init, .fieldLink R_LF 40 "LayoutFront" "rows" "LLayoutFront$Rows;", .classLink R_LF 44 R_Tokens, .methodLink R_LF 46 y_Tokens_init, .fieldLink R_LF 49 "LayoutFront" "tokens" "LLayoutFront$Tokens;", .fieldLink R_LF 53 "LayoutFront" "counts" "[I", .fieldLink R_LF 57 "LayoutFront" "wrongPlace" "I", .fieldLink R_Tokens 19 "LayoutFront$Tokens" "size" "I", .methodLink R_Lexemes 31 y_Tokens_clear, .instanceMethod y_Tokens_clear, .selects R_Tokens y_Tokens_clear y_Tokens_clear, .code y_Tokens_clear b_Tokens_clear 1 none, .fieldLink R_Text 19 "LayoutFront$Text" "length" "I", .methodLink R_Cutter 26 y_Lexemes_clear, .instanceMethod y_Lexemes_clear, .selects R_Lexemes y_Lexemes_clear y_Lexemes_clear]
def wz_4 : List Cond := [.code y_Lexemes_clear b_Lexemes_clear 1 none, .fieldLink R_Cutter 29 "LayoutFront$Cutter" "at" "I", .fieldLink R_Cutter 32 "LayoutFront$Cutter" "lineStart" "I", .fieldLink R_Cutter 35 "LayoutFront$Cutter" "lineIsFresh" "Z", .fieldLink R_Cutter 22 "LayoutFront$Cutter" "tooMany" "Z", .methodLink R_Cutter 38 y_Text_length, .instanceMethod y_Text_length, .selects R_Text y_Text_length y_Text_length, .code y_Text_length b_Text_length 1 (some .int), .fieldLink R_Open 15 "LayoutFront$Open" "size" "I", .fieldLink R_Open 19 "LayoutFront$Open" "most" "I", .methodLink R_Lexemes 34 y_Tokens_size, .instanceMethod y_Tokens_size, .selects R_Tokens y_Tokens_size y_Tokens_size, .code y_Tokens_size b_Tokens_size 1 (some .int), .methodLink R_Tokens 27 y_Tokens_has, .instanceMethod y_Tokens_has, .selects R_Tokens y_Tokens_has y_Tokens_has, .code y_Tokens_has b_Tokens_has 2 (some .boolean), .methodLink R_Blocks 99 y_Tokens_isSign, .instanceMethod y_Tokens_isSign, .selects R_Tokens y_Tokens_isSign y_Tokens_isSign, .code y_Tokens_isSign b_Tokens_isSign 3 (some .boolean), .methodLink R_Blocks 64 y_Tokens_wordAt, .instanceMethod y_Tokens_wordAt, .selects R_Tokens y_Tokens_wordAt y_Tokens_wordAt, .code y_Tokens_wordAt b_Tokens_wordAt 2 (some .int), .methodLink R_Lexemes 42 y_Tokens_has, .methodLink R_Blocks 74 y_Tokens_add, .instanceMethod y_Tokens_add]
def wz_5 : List Cond := [.selects R_Tokens y_Tokens_add y_Tokens_add, .code y_Tokens_add b_Tokens_add 4 none, .fieldLink R_Blocks 27 "LayoutFront$Blocks" "begun" "I", .methodLink R_Blocks 103 y_Blocks_putIn, .instanceMethod y_Blocks_putIn, .selects R_Blocks y_Blocks_putIn y_Blocks_putIn, .code y_Blocks_putIn b_Blocks_putIn 2 none, .methodLink R_Blocks 107 y_Open_latestColumn, .instanceMethod y_Open_latestColumn, .selects R_Open y_Open_latestColumn y_Open_latestColumn, .code y_Open_latestColumn b_Open_latestColumn 2 (some .int), .methodLink R_Blocks 48 y_Lexemes_tokens, .instanceMethod y_Lexemes_tokens, .selects R_Lexemes y_Lexemes_tokens y_Lexemes_tokens, .code y_Lexemes_tokens b_Lexemes_tokens 1 (some (.object "LayoutFront$Tokens")), .methodLink R_Blocks 83 y_Blocks_beginsBlock, .static y_Blocks_beginsBlock, .code y_Blocks_beginsBlock b_Blocks_beginsBlock 2 (some .boolean), .methodLink R_Blocks 87 y_Lexemes_columnAt, .instanceMethod y_Lexemes_columnAt, .selects R_Lexemes y_Lexemes_columnAt y_Lexemes_columnAt, .code y_Lexemes_columnAt b_Lexemes_columnAt 2 (some .int), .methodLink R_Blocks 90 y_Blocks_begin, .instanceMethod y_Blocks_begin, .selects R_Blocks y_Blocks_begin y_Blocks_begin, .code y_Blocks_begin b_Blocks_begin 2 none, .methodLink R_Blocks 82 y_Open_size, .instanceMethod y_Open_size, .selects R_Open y_Open_size y_Open_size, .code y_Open_size b_Open_size 1 (some .int)]
def wz_6 : List Cond := [.methodLink R_Blocks 35 y_Open_clear, .instanceMethod y_Open_clear, .selects R_Open y_Open_clear y_Open_clear, .code y_Open_clear b_Open_clear 1 none, .methodLink R_Blocks 38 y_Tokens_clear, .methodLink R_Blocks 39 y_Lexemes_size, .instanceMethod y_Lexemes_size, .selects R_Lexemes y_Lexemes_size y_Lexemes_size, .code y_Lexemes_size b_Lexemes_size 1 (some .int), .methodLink R_Blocks 44 y_Blocks_putBefore, .instanceMethod y_Blocks_putBefore, .selects R_Blocks y_Blocks_putBefore y_Blocks_putBefore, .code y_Blocks_putBefore b_Blocks_putBefore 3 none, .methodLink R_Blocks 78 y_Blocks_closeBlocks, .instanceMethod y_Blocks_closeBlocks, .selects R_Blocks y_Blocks_closeBlocks y_Blocks_closeBlocks, .code y_Blocks_closeBlocks b_Blocks_closeBlocks 3 none, .fieldLink R_Resolver 33 "LayoutFront$Resolver" "pairs" "I", .fieldLink R_Resolver 40 "LayoutFront$Resolver" "pairsBefore" "I", .fieldLink R_Resolver 43 "LayoutFront$Resolver" "operands" "I", .fieldLink R_Resolver 46 "LayoutFront$Resolver" "waiting" "I", .methodLink R_Resolver 37 y_Resolver_startRow, .instanceMethod y_Resolver_startRow, .selects R_Resolver y_Resolver_startRow y_Resolver_startRow, .code y_Resolver_startRow b_Resolver_startRow 1 none, .methodLink R_Tokens 31 y_Tokens_isSign, .methodLink R_Rows 52 y_Tokens_size, .methodLink R_Rows 62 y_Tokens_opensBracket, .instanceMethod y_Tokens_opensBracket, .selects R_Tokens y_Tokens_opensBracket y_Tokens_opensBracket]
def wz_7 : List Cond := [.code y_Tokens_opensBracket b_Tokens_opensBracket 2 (some .boolean), .methodLink R_Rows 93 y_Tokens_closesBracket, .instanceMethod y_Tokens_closesBracket, .selects R_Tokens y_Tokens_closesBracket y_Tokens_closesBracket, .code y_Tokens_closesBracket b_Tokens_closesBracket 2 (some .boolean), .fieldLink R_Row 21 "LayoutFront$Row" "size" "I", .fieldLink R_Row 25 "LayoutFront$Row" "operates" "Z", .fieldLink R_Row 29 "LayoutFront$Row" "lacksOperand" "Z", .methodLink R_Rows 132 y_Tokens_isFreeName, .instanceMethod y_Tokens_isFreeName, .selects R_Tokens y_Tokens_isFreeName y_Tokens_isFreeName, .code y_Tokens_isFreeName b_Tokens_isFreeName 2 (some .boolean), .methodLink R_Rows 80 y_Tokens_kindAt, .instanceMethod y_Tokens_kindAt, .selects R_Tokens y_Tokens_kindAt y_Tokens_kindAt, .code y_Tokens_kindAt b_Tokens_kindAt 2 (some .int), .methodLink R_Rows 135 y_Tokens_isSign, .methodLink R_Rows 139 y_Tokens_isFreeOperator, .instanceMethod y_Tokens_isFreeOperator, .selects R_Tokens y_Tokens_isFreeOperator y_Tokens_isFreeOperator, .code y_Tokens_isFreeOperator b_Tokens_isFreeOperator 2 (some .boolean), .methodLink R_Rows 108 y_Row_clear, .instanceMethod y_Row_clear, .selects R_Row y_Row_clear y_Row_clear, .code y_Row_clear b_Row_clear 1 none, .methodLink R_Rows 109 y_Rows_behindOperand, .instanceMethod y_Rows_behindOperand, .selects R_Rows y_Rows_behindOperand y_Rows_behindOperand, .code y_Rows_behindOperand b_Rows_behindOperand 3 (some .int), .methodLink R_Rows 113 y_Rows_behindOperation]
def wz_8 : List Cond := [.static y_Rows_behindOperation, .code y_Rows_behindOperation b_Rows_behindOperation 2 (some .int), .methodLink R_Rows 96 y_Rows_collectRow, .instanceMethod y_Rows_collectRow, .selects R_Rows y_Rows_collectRow y_Rows_collectRow, .code y_Rows_collectRow b_Rows_collectRow 8 (some .int), .methodLink R_Rows 100 y_Row_isWhole, .instanceMethod y_Row_isWhole, .selects R_Row y_Row_isWhole y_Row_isWhole, .code y_Row_isWhole b_Row_isWhole 1 (some .boolean), .fieldLink R_Rows 38 "LayoutFront$Rows" "together" "I", .fieldLink R_Rows 42 "LayoutFront$Rows" "inConflict" "I", .methodLink R_Rows 45 y_Resolver_clear, .instanceMethod y_Resolver_clear, .selects R_Resolver y_Resolver_clear y_Resolver_clear, .code y_Resolver_clear b_Resolver_clear 1 none, .methodLink R_Rows 48 y_Rows_matchBrackets, .instanceMethod y_Rows_matchBrackets, .selects R_Rows y_Rows_matchBrackets y_Rows_matchBrackets, .code y_Rows_matchBrackets b_Rows_matchBrackets 4 none, .methodLink R_Rows 58 y_Rows_putLevelTogether, .instanceMethod y_Rows_putLevelTogether, .selects R_Rows y_Rows_putLevelTogether y_Rows_putLevelTogether, .code y_Rows_putLevelTogether b_Rows_putLevelTogether 7 none, .methodLink R_Rows 70 y_Resolver_tally, .instanceMethod y_Resolver_tally, .selects R_Resolver y_Resolver_tally y_Resolver_tally, .code y_Resolver_tally b_Resolver_tally 6 none, .constantLong R_Rows 74 40, .methodLink R_Rows 76 y_Tokens_addTimes]
def wz_9 : List Cond := [.instanceMethod y_Tokens_addTimes, .selects R_Tokens y_Tokens_addTimes y_Tokens_addTimes, .code y_Tokens_addTimes b_Tokens_addTimes 6 none, .methodLink R_Rows 83 y_Tokens_valueAt, .instanceMethod y_Tokens_valueAt, .selects R_Tokens y_Tokens_valueAt y_Tokens_valueAt, .code y_Tokens_valueAt b_Tokens_valueAt 2 (some .long), .methodLink R_Rows 87 y_Tokens_add, .constantLong R_Rows 91 41, .methodLink R_Blocks 31 y_Open_most, .instanceMethod y_Open_most, .selects R_Open y_Open_most y_Open_most, .code y_Open_most b_Open_most 1 (some .int), .methodLink R_LF 117 y_Cutter_lexemes, .instanceMethod y_Cutter_lexemes, .selects R_Cutter y_Cutter_lexemes y_Cutter_lexemes, .code y_Cutter_lexemes b_Cutter_lexemes 1 (some (.object "LayoutFront$Lexemes")), .methodLink R_LF 143 y_Lexemes_size, .methodLink R_LF 146 y_Blocks_begun, .instanceMethod y_Blocks_begun, .selects R_Blocks y_Blocks_begun y_Blocks_begun, .code y_Blocks_begun b_Blocks_begun 1 (some .int), .methodLink R_LF 149 y_Rows_together, .instanceMethod y_Rows_together, .selects R_Rows y_Rows_together y_Rows_together, .code y_Rows_together b_Rows_together 1 (some .int), .methodLink R_LF 152 y_Rows_inConflict, .instanceMethod y_Rows_inConflict, .selects R_Rows y_Rows_inConflict y_Rows_inConflict, .code y_Rows_inConflict b_Rows_inConflict 1 (some .int)]
def wz_10 : List Cond := [.methodLink R_LF 155 y_Blocks_mostOpen, .instanceMethod y_Blocks_mostOpen, .selects R_Blocks y_Blocks_mostOpen y_Blocks_mostOpen, .code y_Blocks_mostOpen b_Blocks_mostOpen 1 (some .int), .methodLink R_LF 106 y_Tokens_clear, .methodLink R_LF 107 y_Cutter_cut, .instanceMethod y_Cutter_cut, .selects R_Cutter y_Cutter_cut y_Cutter_cut, .code y_Cutter_cut b_Cutter_cut 3 (some .int), .methodLink R_LF 111 y_Cutter_foundTooMany, .instanceMethod y_Cutter_foundTooMany, .selects R_Cutter y_Cutter_foundTooMany y_Cutter_foundTooMany, .code y_Cutter_foundTooMany b_Cutter_foundTooMany 1 (some .boolean), .methodLink R_LF 85 y_Text_length, .methodLink R_LF 121 y_Blocks_lay, .instanceMethod y_Blocks_lay, .selects R_Blocks y_Blocks_lay y_Blocks_lay, .code y_Blocks_lay b_Blocks_lay 8 (some .int), .methodLink R_LF 127 y_Blocks_laid, .instanceMethod y_Blocks_laid, .selects R_Blocks y_Blocks_laid y_Blocks_laid, .code y_Blocks_laid b_Blocks_laid 1 (some (.object "LayoutFront$Tokens")), .methodLink R_LF 131 y_Rows_putTogether, .instanceMethod y_Rows_putTogether, .selects R_Rows y_Rows_putTogether y_Rows_putTogether, .code y_Rows_putTogether b_Rows_putTogether 4 none, .methodLink R_LF 135 y_Rows_copyInto, .instanceMethod y_Rows_copyInto, .selects R_Rows y_Rows_copyInto y_Rows_copyInto, .code y_Rows_copyInto b_Rows_copyInto 4 none]
def wz_11 : List Cond := [.methodLink R_LF 139 y_LF_keepCounts, .instanceMethod y_LF_keepCounts, .selects R_LF y_LF_keepCounts y_LF_keepCounts, .initialized R_LF, .code y_LF_keepCounts b_LF_keepCounts 1 none, .methodLink R_LF 142 y_Tokens_size, .methodLink R_Model 1 objectInit, .fieldLink R_Model 7 "LayoutFrontModel" "text" "[I", .fieldLink R_Model 13 "LayoutFrontModel" "place" "I", .fieldLink R_Model 17 "LayoutFrontModel" "kind" "[I", .fieldLink R_Model 20 "LayoutFrontModel" "value" "[J", .fieldLink R_Model 24 "LayoutFrontModel" "where" "[I", .fieldLink R_Model 27 "LayoutFrontModel" "column" "[I", .fieldLink R_Model 30 "LayoutFrontModel" "leads" "[Z", .fieldLink R_Model 34 "LayoutFrontModel" "row" "[I", .fieldLink R_Model 37 "LayoutFrontModel" "sort" "[I", .fieldLink R_Model 40 "LayoutFrontModel" "is" "[J", .fieldLink R_Model 43 "LayoutFrontModel" "before" "[I", .fieldLink R_Model 46 "LayoutFrontModel" "behind" "[I", .fieldLink R_Model 49 "LayoutFrontModel" "partner" "[I", .fieldLink R_Model 52 "LayoutFrontModel" "done" "[Z", .fieldLink R_Model 55 "LayoutFrontModel" "kinds" "[I", .fieldLink R_Model 58 "LayoutFrontModel" "values" "[J", .fieldLink R_Model 61 "LayoutFrontModel" "names" "[J", .fieldLink R_Model 64 "LayoutFrontModel" "sides" "[I", .fieldLink R_Model 67 "LayoutFrontModel" "levels" "[I", .fieldLink R_Model 70 "LayoutFrontModel" "from" "[I", .fieldLink R_Model 73 "LayoutFrontModel" "to" "[I", .fieldLink R_Model 76 "LayoutFrontModel" "what" "[I", .fieldLink R_Model 79 "LayoutFrontModel" "left" "[I"]
def wz_12 : List Cond := [.fieldLink R_Model 82 "LayoutFrontModel" "right" "[I", .fieldLink R_Model 85 "LayoutFrontModel" "waits" "[I", .fieldLink R_Model 88 "LayoutFrontModel" "opens" "[I", .fieldLink R_Model 91 "LayoutFrontModel" "closes" "[I", .fieldLink R_Model 94 "LayoutFrontModel" "waitsFor" "[I", .fieldLink R_Model 120 "LayoutFrontModel" "at" "I", .fieldLink R_Model 144 "LayoutFrontModel" "lexemes" "I", .fieldLink R_Model 110 "LayoutFrontModel" "length" "I", .fieldLink R_Model 188 "LayoutFrontModel" "tokens" "I", .fieldLink R_Model 191 "LayoutFrontModel" "open" "I", .constantLong R_Model 238 123, .methodLink R_Model 208 y_Model_emit, .instanceMethod y_Model_emit, .selects R_Model y_Model_emit y_Model_emit, .initialized R_Model, .code y_Model_emit b_Model_emit 4 none, .fieldLink R_Model 240 "LayoutFrontModel" "blocks" "I", .constantLong R_Model 206 125, .methodLink R_Model 197 y_Model_top, .instanceMethod y_Model_top, .selects R_Model y_Model_top y_Model_top, .code y_Model_top b_Model_top 1 (some .int), .fieldLink R_Model 194 "LayoutFrontModel" "highest" "I", .fieldLink R_Model 123 "LayoutFrontModel" "bad" "I", .methodLink R_Model 246 y_Model_begins, .instanceMethod y_Model_begins, .selects R_Model y_Model_begins y_Model_begins, .code y_Model_begins b_Model_begins 3 (some .boolean), .methodLink R_Model 249 y_Model_begin, .instanceMethod y_Model_begin]
def wz_13 : List Cond := [.selects R_Model y_Model_begin y_Model_begin, .code y_Model_begin b_Model_begin 4 none, .methodLink R_Model 214 y_Model_leave, .instanceMethod y_Model_leave, .selects R_Model y_Model_leave y_Model_leave, .code y_Model_leave b_Model_leave 2 none, .methodLink R_Model 284 y_Model_plainName, .instanceMethod y_Model_plainName, .selects R_Model y_Model_plainName y_Model_plainName, .code y_Model_plainName b_Model_plainName 2 (some .boolean), .methodLink R_Model 290 y_Model_tick, .instanceMethod y_Model_tick, .selects R_Model y_Model_tick y_Model_tick, .code y_Model_tick b_Model_tick 2 (some .boolean), .fieldLink R_Model 337 "LayoutFrontModel" "rows" "I", .fieldLink R_Model 334 "LayoutFrontModel" "conflicts" "I", .methodLink R_Model 340 y_Model_partners, .instanceMethod y_Model_partners, .selects R_Model y_Model_partners y_Model_partners, .code y_Model_partners b_Model_partners 5 none, .methodLink R_Model 298 y_Model_extent, .instanceMethod y_Model_extent, .selects R_Model y_Model_extent y_Model_extent, .code y_Model_extent b_Model_extent 2 (some .int), .fieldLink R_Model 353 "LayoutFrontModel" "all" "I", .fieldLink R_Model 97 "LayoutFrontModel" "thrown" "I", .methodLink R_Model 356 y_Model_cut, .instanceMethod y_Model_cut, .selects R_Model y_Model_cut y_Model_cut, .code y_Model_cut b_Model_cut 2 none]
def wz_14 : List Cond := [.methodLink R_Model 359 y_Model_lay, .instanceMethod y_Model_lay, .selects R_Model y_Model_lay y_Model_lay, .code y_Model_lay b_Model_lay 2 none, .methodLink R_Model 362 y_Model_around, .instanceMethod y_Model_around, .selects R_Model y_Model_around y_Model_around, .code y_Model_around b_Model_around 2 none, .methodLink R_Model 365 y_Model_add, .instanceMethod y_Model_add, .selects R_Model y_Model_add y_Model_add, .code y_Model_add b_Model_add 4 none, .fieldLink R_Model 368 "LayoutFrontModel" "told" "I", .fieldLink R_Model 371 "LayoutFrontModel" "toldBlocks" "I", .fieldLink R_Model 374 "LayoutFrontModel" "toldRows" "I", .fieldLink R_Model 377 "LayoutFrontModel" "toldConflicts" "I", .fieldLink R_Model 380 "LayoutFrontModel" "toldHighest" "I", .methodLink R_LF 89 y_Text_clear, .instanceMethod y_Text_clear, .selects R_Text y_Text_clear y_Text_clear, .code y_Text_clear b_Text_clear 1 none, .methodLink R_Law 21 y_LF_read, .instanceMethod y_LF_read, .selects R_LF y_LF_read y_LF_read, .code y_LF_read b_LF_read 1 (some .int), .methodLink R_Law 35 y_LF_count, .instanceMethod y_LF_count, .selects R_LF y_LF_count y_LF_count, .code y_LF_count b_LF_count 2 (some .int), .methodLink R_Model 100 y_Model_within]
def wz_15 : List Cond := [.static y_Model_within, .code y_Model_within b_Model_within 3 (some .boolean), .methodLink R_Model 104 y_Model_fail, .instanceMethod y_Model_fail, .selects R_Model y_Model_fail y_Model_fail, .code y_Model_fail b_Model_fail 2 (some .int), .fieldLink R_Fixities 22 "LayoutFront$Fixities" "size" "I", .methodLink R_Fixities 26 y_Fixities_find, .instanceMethod y_Fixities_find, .selects R_Fixities y_Fixities_find y_Fixities_find, .code y_Fixities_find b_Fixities_find 4 (some .int), .methodLink R_Fixities 30 Lib.Math.max.name, .static Lib.Math.max.name, .initialized "java/lang/Math", .code Lib.Math.max.name Lib.Math.max.code 2 (some .int), .methodLink R_LF 94 y_Fixities_hasRoomFor, .instanceMethod y_Fixities_hasRoomFor, .selects R_Fixities y_Fixities_hasRoomFor y_Fixities_hasRoomFor, .code y_Fixities_hasRoomFor b_Fixities_hasRoomFor 3 (some .boolean), .methodLink R_LF 99 y_Fixities_set, .instanceMethod y_Fixities_set, .selects R_Fixities y_Fixities_set y_Fixities_set, .code y_Fixities_set b_Fixities_set 6 none, .methodLink R_LF 103 y_Fixities_size, .instanceMethod y_Fixities_size, .selects R_Fixities y_Fixities_size y_Fixities_size, .code y_Fixities_size b_Fixities_size 1 (some .int), .methodLink R_Law 17 y_LF_fixity, .instanceMethod y_LF_fixity, .selects R_LF y_LF_fixity y_LF_fixity]
def wz_16 : List Cond := [.code y_LF_fixity b_LF_fixity 5 (some .int), .fieldLink R_Model 113 "LayoutFrontModel" "set" "I", .methodLink R_Model 116 y_Model_find, .instanceMethod y_Model_find, .selects R_Model y_Model_find y_Model_find, .code y_Model_find b_Model_find 5 (some .int), .methodLink R_LF 158 y_Tokens_has, .classLink R_LF 161 xIOB, .instantiable xIOB 6, .initialized xIOB, .classLink R_LF 65 xIAE, .instantiable xIAE 6, .initialized xIAE, .methodLink R_Law 25 y_LF_kind, .instanceMethod y_LF_kind, .selects R_LF y_LF_kind y_LF_kind, .code y_LF_kind b_LF_kind 2 (some .int), .classLink R_Law 29 xIOB, .methodLink R_Law 31 y_LF_token, .instanceMethod y_LF_token, .selects R_LF y_LF_token y_LF_token, .code y_LF_token b_LF_token 2 (some .long), .classLink R_Law 13 xIAE, .methodLink R_LF 61 y_Text_areCharacters, .static y_Text_areCharacters, .code y_Text_areCharacters b_Text_areCharacters 5 (some .boolean), .methodLink R_LF 72 y_Text_hasRoomFor, .instanceMethod y_Text_hasRoomFor, .selects R_Text y_Text_hasRoomFor y_Text_hasRoomFor, .code y_Text_hasRoomFor b_Text_hasRoomFor 2 (some .boolean)]
def wz_17 : List Cond := [.methodLink R_LF 81 y_Text_append, .instanceMethod y_Text_append, .selects R_Text y_Text_append y_Text_append, .code y_Text_append b_Text_append 5 none, .methodLink R_Text 15 y_Text_byteOf, .static y_Text_byteOf, .code y_Text_byteOf b_Text_byteOf 3 (some .int), .constantLong R_Model 108 255, .methodLink R_Law 7 y_LF_write, .instanceMethod y_LF_write, .selects R_LF y_LF_write y_LF_write, .code y_LF_write b_LF_write 4 (some .int), .classLink R_Law 8 R_LF, .instantiable R_LF 8, .methodLink R_Law 38 y_LF_init, .instanceMethod y_LF_init, .code y_LF_init b_LF_init 1 none, .classLink R_Law 39 R_Model, .instantiable R_Model 50, .methodLink R_Law 41 y_Model_init, .instanceMethod y_Model_init, .code y_Model_init b_Model_init 1 none, .constantLong R_Law 42 4294967295, .methodLink R_Law 44 y_Law_write, .static y_Law_write, .initialized R_Law, .codeWith y_Law_write b_Law_write 6 (some .int) [(0, 11, 14, 13), (0, 11, 18, 15)], .methodLink R_Law 49 y_Model_write, .instanceMethod y_Model_write, .selects R_Model y_Model_write y_Model_write]
def wz_18 : List Cond := [.code y_Model_write b_Model_write 7 (some .int), .methodLink R_Law 50 y_Model_thrown, .instanceMethod y_Model_thrown, .selects R_Model y_Model_thrown y_Model_thrown, .code y_Model_thrown b_Model_thrown 1 (some .int), .methodLink R_Law 53 y_LF_erase, .instanceMethod y_LF_erase, .selects R_LF y_LF_erase y_LF_erase, .code y_LF_erase b_LF_erase 2 (some .int), .methodLink R_Law 56 y_Model_erase, .instanceMethod y_Model_erase, .selects R_Model y_Model_erase y_Model_erase, .code y_Model_erase b_Model_erase 2 (some .int), .methodLink R_Law 57 y_Law_fixity, .static y_Law_fixity, .codeWith y_Law_fixity b_Law_fixity 7 (some .int) [(0, 13, 16, 13), (0, 13, 20, 15)], .methodLink R_Law 60 y_Model_fixity, .instanceMethod y_Model_fixity, .selects R_Model y_Model_fixity y_Model_fixity, .code y_Model_fixity b_Model_fixity 6 (some .int), .methodLink R_Law 61 y_Law_read, .static y_Law_read, .codeWith y_Law_read b_Law_read 3 (some .int) [(0, 8, 11, 13), (0, 8, 14, 15)], .methodLink R_Law 64 y_Model_read, .instanceMethod y_Model_read, .selects R_Model y_Model_read y_Model_read, .code y_Model_read b_Model_read 3 (some .int), .methodLink R_Law 65 y_LF_place, .instanceMethod y_LF_place, .selects R_LF y_LF_place y_LF_place]
def wz_19 : List Cond := [.code y_LF_place b_LF_place 1 (some .int), .methodLink R_Law 68 y_Model_place, .instanceMethod y_Model_place, .selects R_Model y_Model_place y_Model_place, .code y_Model_place b_Model_place 1 (some .int), .methodLink R_Law 69 y_Law_kind, .static y_Law_kind, .codeWith y_Law_kind b_Law_kind 4 (some .int) [(0, 9, 12, 29)], .methodLink R_Law 72 y_Model_kind, .instanceMethod y_Model_kind, .selects R_Model y_Model_kind y_Model_kind, .code y_Model_kind b_Model_kind 2 (some .int), .methodLink R_Law 73 y_Law_token, .static y_Law_token, .codeWith y_Law_token b_Law_token 4 (some .int) [(0, 8, 11, 29)], .methodLink R_Law 75 y_Model_token, .instanceMethod y_Model_token, .selects R_Model y_Model_token y_Model_token, .code y_Model_token b_Model_token 2 (some .long), .methodLink R_Law 76 y_Law_count, .static y_Law_count, .codeWith y_Law_count b_Law_count 4 (some .int) [(0, 9, 12, 29)], .methodLink R_Law 78 y_Model_count, .instanceMethod y_Model_count, .selects R_Model y_Model_count y_Model_count, .code y_Model_count b_Model_count 2 (some .int), .laysFinal R_LF "LayoutFront" "text" "LLayoutFront$Text;", .laysFinal R_LF "LayoutFront" "fixities" "LLayoutFront$Fixities;", .laysFinal R_LF "LayoutFront" "cutter" "LLayoutFront$Cutter;", .laysFinal R_LF "LayoutFront" "blocks" "LLayoutFront$Blocks;"]
def wz_20 : List Cond := [.laysFinal R_LF "LayoutFront" "rows" "LLayoutFront$Rows;", .laysFinal R_LF "LayoutFront" "tokens" "LLayoutFront$Tokens;", .laysFinal R_LF "LayoutFront" "counts" "[I", .lays R_LF "LayoutFront" "wrongPlace" "I", .lays R_Model "LayoutFrontModel" "thrown" "I", .lays R_Model "LayoutFrontModel" "length" "I", .laysFinal R_Model "LayoutFrontModel" "text" "[I", .lays R_Model "LayoutFrontModel" "bad" "I", .lays R_Model "LayoutFrontModel" "place" "I", .lays R_Model "LayoutFrontModel" "at" "I", .lays R_Model "LayoutFrontModel" "lexemes" "I", .laysFinal R_Model "LayoutFrontModel" "kind" "[I", .laysFinal R_Model "LayoutFrontModel" "value" "[J", .laysFinal R_Model "LayoutFrontModel" "where" "[I", .laysFinal R_Model "LayoutFrontModel" "column" "[I", .laysFinal R_Model "LayoutFrontModel" "leads" "[Z", .lays R_Model "LayoutFrontModel" "open" "I", .lays R_Model "LayoutFrontModel" "highest" "I", .laysFinal R_Model "LayoutFrontModel" "row" "[I", .lays R_Model "LayoutFrontModel" "tokens" "I", .lays R_Model "LayoutFrontModel" "blocks" "I", .laysFinal R_Model "LayoutFrontModel" "sort" "[I", .laysFinal R_Model "LayoutFrontModel" "is" "[J", .laysFinal R_Model "LayoutFrontModel" "before" "[I", .laysFinal R_Model "LayoutFrontModel" "behind" "[I", .laysFinal R_Model "LayoutFrontModel" "partner" "[I", .laysFinal R_Model "LayoutFrontModel" "done" "[Z", .lays R_Model "LayoutFrontModel" "all" "I", .laysFinal R_Model "LayoutFrontModel" "kinds" "[I", .laysFinal R_Model "LayoutFrontModel" "values" "[J"]
def wz_21 : List Cond := [.lays R_Model "LayoutFrontModel" "told" "I", .lays R_Model "LayoutFrontModel" "toldBlocks" "I", .lays R_Model "LayoutFrontModel" "toldRows" "I", .lays R_Model "LayoutFrontModel" "toldConflicts" "I", .lays R_Model "LayoutFrontModel" "toldHighest" "I", .lays R_Model "LayoutFrontModel" "set" "I", .laysFinal R_Model "LayoutFrontModel" "names" "[J", .laysFinal R_Model "LayoutFrontModel" "sides" "[I", .laysFinal R_Model "LayoutFrontModel" "levels" "[I", .lays R_Model "LayoutFrontModel" "items" "I", .lays R_Model "LayoutFrontModel" "operands" "I", .lays R_Model "LayoutFrontModel" "waiting" "I", .lays R_Model "LayoutFrontModel" "pairs" "I", .lays R_Model "LayoutFrontModel" "rows" "I", .lays R_Model "LayoutFrontModel" "conflicts" "I", .laysFinal R_Model "LayoutFrontModel" "from" "[I", .laysFinal R_Model "LayoutFrontModel" "to" "[I", .laysFinal R_Model "LayoutFrontModel" "what" "[I", .laysFinal R_Model "LayoutFrontModel" "left" "[I", .laysFinal R_Model "LayoutFrontModel" "right" "[I", .laysFinal R_Model "LayoutFrontModel" "waits" "[I", .laysFinal R_Model "LayoutFrontModel" "opens" "[I", .laysFinal R_Model "LayoutFrontModel" "closes" "[I", .laysFinal R_Model "LayoutFrontModel" "waitsFor" "[I", .laysFinal R_Blocks "LayoutFront$Blocks" "open" "LLayoutFront$Open;", .laysFinal R_Blocks "LayoutFront$Blocks" "laid" "LLayoutFront$Tokens;", .lays R_Blocks "LayoutFront$Blocks" "begun" "I", .laysFinal R_Cutter "LayoutFront$Cutter" "lexemes" "LLayoutFront$Lexemes;", .lays R_Cutter "LayoutFront$Cutter" "at" "I", .lays R_Cutter "LayoutFront$Cutter" "lineStart" "I"]
def wz_22 : List Cond := [.lays R_Cutter "LayoutFront$Cutter" "lineIsFresh" "Z", .lays R_Cutter "LayoutFront$Cutter" "wrongPlace" "I", .lays R_Cutter "LayoutFront$Cutter" "tooMany" "Z", .laysFinal R_Fixities "LayoutFront$Fixities" "names" "[J", .laysFinal R_Fixities "LayoutFront$Fixities" "sides" "[I", .laysFinal R_Fixities "LayoutFront$Fixities" "levels" "[I", .lays R_Fixities "LayoutFront$Fixities" "size" "I", .laysFinal R_Lexemes "LayoutFront$Lexemes" "tokens" "LLayoutFront$Tokens;", .laysFinal R_Lexemes "LayoutFront$Lexemes" "places" "[I", .laysFinal R_Lexemes "LayoutFront$Lexemes" "columns" "[I", .laysFinal R_Lexemes "LayoutFront$Lexemes" "lineFirsts" "[Z", .laysFinal R_Open "LayoutFront$Open" "things" "[I", .lays R_Open "LayoutFront$Open" "size" "I", .lays R_Open "LayoutFront$Open" "most" "I", .laysFinal R_Resolver "LayoutFront$Resolver" "pairFirsts" "[I", .laysFinal R_Resolver "LayoutFront$Resolver" "pairLasts" "[I", .lays R_Resolver "LayoutFront$Resolver" "pairs" "I", .lays R_Resolver "LayoutFront$Resolver" "pairsBefore" "I", .laysFinal R_Resolver "LayoutFront$Resolver" "firsts" "[I", .laysFinal R_Resolver "LayoutFront$Resolver" "lasts" "[I", .lays R_Resolver "LayoutFront$Resolver" "operands" "I", .laysFinal R_Resolver "LayoutFront$Resolver" "levels" "[I", .laysFinal R_Resolver "LayoutFront$Resolver" "sides" "[I", .laysFinal R_Resolver "LayoutFront$Resolver" "minusPlaces" "[I", .lays R_Resolver "LayoutFront$Resolver" "waiting" "I", .laysFinal R_Row "LayoutFront$Row" "parts" "[I", .laysFinal R_Row "LayoutFront$Row" "firsts" "[I", .laysFinal R_Row "LayoutFront$Row" "lasts" "[I", .lays R_Row "LayoutFront$Row" "size" "I", .lays R_Row "LayoutFront$Row" "operates" "Z"]
def wz_23 : List Cond := [.lays R_Row "LayoutFront$Row" "lacksOperand" "Z", .laysFinal R_Rows "LayoutFront$Rows" "closers" "[I", .laysFinal R_Rows "LayoutFront$Rows" "openers" "[I", .laysFinal R_Rows "LayoutFront$Rows" "opened" "[I", .laysFinal R_Rows "LayoutFront$Rows" "closed" "[I", .laysFinal R_Rows "LayoutFront$Rows" "row" "LLayoutFront$Row;", .laysFinal R_Rows "LayoutFront$Rows" "resolver" "LLayoutFront$Resolver;", .lays R_Rows "LayoutFront$Rows" "together" "I", .lays R_Rows "LayoutFront$Rows" "inConflict" "I", .laysFinal R_Text "LayoutFront$Text" "characters" "[C", .lays R_Text "LayoutFront$Text" "length" "I", .laysFinal R_Tokens "LayoutFront$Tokens" "kinds" "[I", .laysFinal R_Tokens "LayoutFront$Tokens" "values" "[J", .lays R_Tokens "LayoutFront$Tokens" "size" "I"]
def xup : List String := ["java/lang/RuntimeException", "java/lang/Exception"]
def xat : List Cond := Bundle.ownAtoms R_LF 69 xIAE xup ++ Bundle.ownAtoms R_LF 165 xIOB xup
def wz_24 : List Cond := xat.filter goodWord
def wz : List Cond := wz_0 ++ (wz_1 ++ (wz_2 ++ (wz_3 ++ (wz_4 ++ (wz_5 ++ (wz_6 ++ (wz_7 ++ (wz_8 ++ (wz_9 ++ (wz_10 ++ (wz_11 ++ (wz_12 ++ (wz_13 ++ (wz_14 ++ (wz_15 ++ (wz_16 ++ (wz_17 ++ (wz_18 ++ (wz_19 ++ (wz_20 ++ (wz_21 ++ (wz_22 ++ (wz_23 ++ (wz_24))))))))))))))))))))))))
theorem zc_0 {w : Cond} (h : w ∈ wz_0) : w ∈ wz := (List.mem_append_left _ h)
theorem zc_1 {w : Cond} (h : w ∈ wz_1) : w ∈ wz := (List.mem_append_right _ (List.mem_append_left _ h))
theorem zc_2 {w : Cond} (h : w ∈ wz_2) : w ∈ wz := (List.mem_append_right _ (List.mem_append_right _ (List.mem_append_left _ h)))
theorem zc_3 {w : Cond} (h : w ∈ wz_3) : w ∈ wz := (List.mem_append_right _ (List.mem_append_right _ (List.mem_append_right _ (List.mem_append_left _ h))))
theorem zc_4 {w : Cond} (h : w ∈ wz_4) : w ∈ wz := (List.mem_append_right _ (List.mem_append_right _ (List.mem_append_right _ (List.mem_append_right _ (List.mem_append_left _ h)))))
theorem zc_5 {w : Cond} (h : w ∈ wz_5) : w ∈ wz := (List.mem_append_right _ (List.mem_append_right _ (List.mem_append_right _ (List.mem_append_right _ (List.mem_append_right _ (List.mem_append_left _ h))))))
theorem zc_6 {w : Cond} (h : w ∈ wz_6) : w ∈ wz := (List.mem_append_right _ (List.mem_append_right _ (List.mem_append_right _ (List.mem_append_right _ (List.mem_append_right _ (List.mem_append_right _ (List.mem_append_left _ h)))))))
theorem zc_7 {w : Cond} (h : w ∈ wz_7) : w ∈ wz := (List.mem_append_right _ (List.mem_append_right _ (List.mem_append_right _ (List.mem_append_right _ (List.mem_append_right _ (List.mem_append_right _ (List.mem_append_right _ (List.mem_append_left _ h))))))))
theorem zc_8 {w : Cond} (h : w ∈ wz_8) : w ∈ wz := (List.mem_append_right _ (List.mem_append_right _ (List.mem_append_right _ (List.mem_append_right _ (List.mem_append_right _ (List.mem_append_right _ (List.mem_append_right _ (List.mem_append_right _ (List.mem_append_left _ h)))))))))
theorem zc_9 {w : Cond} (h : w ∈ wz_9) : w ∈ wz := (List.mem_append_right _ (List.mem_append_right _ (List.mem_append_right _ (List.mem_append_right _ (List.mem_append_right _ (List.mem_append_right _ (List.mem_append_right _ (List.mem_append_right _ (List.mem_append_right _ (List.mem_append_left _ h))))))))))
theorem zc_10 {w : Cond} (h : w ∈ wz_10) : w ∈ wz := (List.mem_append_right _ (List.mem_append_right _ (List.mem_append_right _ (List.mem_append_right _ (List.mem_append_right _ (List.mem_append_right _ (List.mem_append_right _ (List.mem_append_right _ (List.mem_append_right _ (List.mem_append_right _ (List.mem_append_left _ h)))))))))))
theorem zc_11 {w : Cond} (h : w ∈ wz_11) : w ∈ wz := (List.mem_append_right _ (List.mem_append_right _ (List.mem_append_right _ (List.mem_append_right _ (List.mem_append_right _ (List.mem_append_right _ (List.mem_append_right _ (List.mem_append_right _ (List.mem_append_right _ (List.mem_append_right _ (List.mem_append_right _ (List.mem_append_left _ h))))))))))))
theorem zc_12 {w : Cond} (h : w ∈ wz_12) : w ∈ wz := (List.mem_append_right _ (List.mem_append_right _ (List.mem_append_right _ (List.mem_append_right _ (List.mem_append_right _ (List.mem_append_right _ (List.mem_append_right _ (List.mem_append_right _ (List.mem_append_right _ (List.mem_append_right _ (List.mem_append_right _ (List.mem_append_right _ (List.mem_append_left _ h)))))))))))))
theorem zc_13 {w : Cond} (h : w ∈ wz_13) : w ∈ wz := (List.mem_append_right _ (List.mem_append_right _ (List.mem_append_right _ (List.mem_append_right _ (List.mem_append_right _ (List.mem_append_right _ (List.mem_append_right _ (List.mem_append_right _ (List.mem_append_right _ (List.mem_append_right _ (List.mem_append_right _ (List.mem_append_right _ (List.mem_append_right _ (List.mem_append_left _ h))))))))))))))
theorem zc_14 {w : Cond} (h : w ∈ wz_14) : w ∈ wz := (List.mem_append_right _ (List.mem_append_right _ (List.mem_append_right _ (List.mem_append_right _ (List.mem_append_right _ (List.mem_append_right _ (List.mem_append_right _ (List.mem_append_right _ (List.mem_append_right _ (List.mem_append_right _ (List.mem_append_right _ (List.mem_append_right _ (List.mem_append_right _ (List.mem_append_right _ (List.mem_append_left _ h)))))))))))))))
theorem zc_15 {w : Cond} (h : w ∈ wz_15) : w ∈ wz := (List.mem_append_right _ (List.mem_append_right _ (List.mem_append_right _ (List.mem_append_right _ (List.mem_append_right _ (List.mem_append_right _ (List.mem_append_right _ (List.mem_append_right _ (List.mem_append_right _ (List.mem_append_right _ (List.mem_append_right _ (List.mem_append_right _ (List.mem_append_right _ (List.mem_append_right _ (List.mem_append_right _ (List.mem_append_left _ h))))))))))))))))
theorem zc_16 {w : Cond} (h : w ∈ wz_16) : w ∈ wz := (List.mem_append_right _ (List.mem_append_right _ (List.mem_append_right _ (List.mem_append_right _ (List.mem_append_right _ (List.mem_append_right _ (List.mem_append_right _ (List.mem_append_right _ (List.mem_append_right _ (List.mem_append_right _ (List.mem_append_right _ (List.mem_append_right _ (List.mem_append_right _ (List.mem_append_right _ (List.mem_append_right _ (List.mem_append_right _ (List.mem_append_left _ h)))))))))))))))))
theorem zc_17 {w : Cond} (h : w ∈ wz_17) : w ∈ wz := (List.mem_append_right _ (List.mem_append_right _ (List.mem_append_right _ (List.mem_append_right _ (List.mem_append_right _ (List.mem_append_right _ (List.mem_append_right _ (List.mem_append_right _ (List.mem_append_right _ (List.mem_append_right _ (List.mem_append_right _ (List.mem_append_right _ (List.mem_append_right _ (List.mem_append_right _ (List.mem_append_right _ (List.mem_append_right _ (List.mem_append_right _ (List.mem_append_left _ h))))))))))))))))))
theorem zc_18 {w : Cond} (h : w ∈ wz_18) : w ∈ wz := (List.mem_append_right _ (List.mem_append_right _ (List.mem_append_right _ (List.mem_append_right _ (List.mem_append_right _ (List.mem_append_right _ (List.mem_append_right _ (List.mem_append_right _ (List.mem_append_right _ (List.mem_append_right _ (List.mem_append_right _ (List.mem_append_right _ (List.mem_append_right _ (List.mem_append_right _ (List.mem_append_right _ (List.mem_append_right _ (List.mem_append_right _ (List.mem_append_right _ (List.mem_append_left _ h)))))))))))))))))))
theorem zc_19 {w : Cond} (h : w ∈ wz_19) : w ∈ wz := (List.mem_append_right _ (List.mem_append_right _ (List.mem_append_right _ (List.mem_append_right _ (List.mem_append_right _ (List.mem_append_right _ (List.mem_append_right _ (List.mem_append_right _ (List.mem_append_right _ (List.mem_append_right _ (List.mem_append_right _ (List.mem_append_right _ (List.mem_append_right _ (List.mem_append_right _ (List.mem_append_right _ (List.mem_append_right _ (List.mem_append_right _ (List.mem_append_right _ (List.mem_append_right _ (List.mem_append_left _ h))))))))))))))))))))
theorem zc_20 {w : Cond} (h : w ∈ wz_20) : w ∈ wz := (List.mem_append_right _ (List.mem_append_right _ (List.mem_append_right _ (List.mem_append_right _ (List.mem_append_right _ (List.mem_append_right _ (List.mem_append_right _ (List.mem_append_right _ (List.mem_append_right _ (List.mem_append_right _ (List.mem_append_right _ (List.mem_append_right _ (List.mem_append_right _ (List.mem_append_right _ (List.mem_append_right _ (List.mem_append_right _ (List.mem_append_right _ (List.mem_append_right _ (List.mem_append_right _ (List.mem_append_right _ (List.mem_append_left _ h)))))))))))))))))))))
theorem zc_21 {w : Cond} (h : w ∈ wz_21) : w ∈ wz := (List.mem_append_right _ (List.mem_append_right _ (List.mem_append_right _ (List.mem_append_right _ (List.mem_append_right _ (List.mem_append_right _ (List.mem_append_right _ (List.mem_append_right _ (List.mem_append_right _ (List.mem_append_right _ (List.mem_append_right _ (List.mem_append_right _ (List.mem_append_right _ (List.mem_append_right _ (List.mem_append_right _ (List.mem_append_right _ (List.mem_append_right _ (List.mem_append_right _ (List.mem_append_right _ (List.mem_append_right _ (List.mem_append_right _ (List.mem_append_left _ h))))))))))))))))))))))
theorem zc_22 {w : Cond} (h : w ∈ wz_22) : w ∈ wz := (List.mem_append_right _ (List.mem_append_right _ (List.mem_append_right _ (List.mem_append_right _ (List.mem_append_right _ (List.mem_append_right _ (List.mem_append_right _ (List.mem_append_right _ (List.mem_append_right _ (List.mem_append_right _ (List.mem_append_right _ (List.mem_append_right _ (List.mem_append_right _ (List.mem_append_right _ (List.mem_append_right _ (List.mem_append_right _ (List.mem_append_right _ (List.mem_append_right _ (List.mem_append_right _ (List.mem_append_right _ (List.mem_append_right _ (List.mem_append_right _ (List.mem_append_left _ h)))))))))))))))))))))))
theorem zc_23 {w : Cond} (h : w ∈ wz_23) : w ∈ wz := (List.mem_append_right _ (List.mem_append_right _ (List.mem_append_right _ (List.mem_append_right _ (List.mem_append_right _ (List.mem_append_right _ (List.mem_append_right _ (List.mem_append_right _ (List.mem_append_right _ (List.mem_append_right _ (List.mem_append_right _ (List.mem_append_right _ (List.mem_append_right _ (List.mem_append_right _ (List.mem_append_right _ (List.mem_append_right _ (List.mem_append_right _ (List.mem_append_right _ (List.mem_append_right _ (List.mem_append_right _ (List.mem_append_right _ (List.mem_append_right _ (List.mem_append_right _ (List.mem_append_left _ h))))))))))))))))))))))))
theorem zc_24 {w : Cond} (h : w ∈ wz_24) : w ∈ wz := (List.mem_append_right _ (List.mem_append_right _ (List.mem_append_right _ (List.mem_append_right _ (List.mem_append_right _ (List.mem_append_right _ (List.mem_append_right _ (List.mem_append_right _ (List.mem_append_right _ (List.mem_append_right _ (List.mem_append_right _ (List.mem_append_right _ (List.mem_append_right _ (List.mem_append_right _ (List.mem_append_right _ (List.mem_append_right _ (List.mem_append_right _ (List.mem_append_right _ (List.mem_append_right _ (List.mem_append_right _ (List.mem_append_right _ (List.mem_append_right _ (List.mem_append_right _ (List.mem_append_right _ h))))))))))))))))))))))))
theorem zm_0 : Cond.methodLink R_Text 3 objectInit ∈ wz := zc_0 (List.mem_of_getElem? (i := 0) rfl)
theorem zm_1 : Cond.instanceMethod objectInit ∈ wz := zc_0 (List.mem_of_getElem? (i := 1) rfl)
theorem zm_2 : Cond.code objectInit ⟨#[0xb1]⟩ 1 none ∈ wz := zc_0 (List.mem_of_getElem? (i := 2) rfl)
theorem zm_3 : Cond.arrayClass .char ∈ wz := zc_0 (List.mem_of_getElem? (i := 3) rfl)
theorem zm_4 : Cond.fieldLink R_Text 9 "LayoutFront$Text" "characters" "[C" ∈ wz := zc_0 (List.mem_of_getElem? (i := 4) rfl)
theorem zm_5 : Cond.methodLink R_Fixities 3 objectInit ∈ wz := zc_0 (List.mem_of_getElem? (i := 5) rfl)
theorem zm_6 : Cond.arrayClass .long ∈ wz := zc_0 (List.mem_of_getElem? (i := 6) rfl)
theorem zm_7 : Cond.fieldLink R_Fixities 9 "LayoutFront$Fixities" "names" "[J" ∈ wz := zc_0 (List.mem_of_getElem? (i := 7) rfl)
theorem zm_8 : Cond.arrayClass .int ∈ wz := zc_0 (List.mem_of_getElem? (i := 8) rfl)
theorem zm_9 : Cond.fieldLink R_Fixities 15 "LayoutFront$Fixities" "sides" "[I" ∈ wz := zc_0 (List.mem_of_getElem? (i := 9) rfl)
theorem zm_10 : Cond.fieldLink R_Fixities 19 "LayoutFront$Fixities" "levels" "[I" ∈ wz := zc_0 (List.mem_of_getElem? (i := 10) rfl)
theorem zm_11 : Cond.methodLink R_Tokens 3 objectInit ∈ wz := zc_0 (List.mem_of_getElem? (i := 11) rfl)
theorem zm_12 : Cond.fieldLink R_Tokens 9 "LayoutFront$Tokens" "kinds" "[I" ∈ wz := zc_0 (List.mem_of_getElem? (i := 12) rfl)
theorem zm_13 : Cond.fieldLink R_Tokens 15 "LayoutFront$Tokens" "values" "[J" ∈ wz := zc_0 (List.mem_of_getElem? (i := 13) rfl)
theorem zm_14 : Cond.methodLink R_Lexemes 3 objectInit ∈ wz := zc_0 (List.mem_of_getElem? (i := 14) rfl)
theorem zm_15 : Cond.classLink R_Lexemes 9 R_Tokens ∈ wz := zc_0 (List.mem_of_getElem? (i := 15) rfl)
theorem zm_16 : Cond.instantiable R_Tokens 3 ∈ wz := zc_0 (List.mem_of_getElem? (i := 16) rfl)
theorem zm_17 : Cond.initialized R_Tokens ∈ wz := zc_0 (List.mem_of_getElem? (i := 17) rfl)
theorem zm_18 : Cond.code y_Tokens_init b_Tokens_init 2 none ∈ wz := zc_0 (List.mem_of_getElem? (i := 18) rfl)
theorem zm_19 : Cond.methodLink R_Lexemes 11 y_Tokens_init ∈ wz := zc_0 (List.mem_of_getElem? (i := 19) rfl)
theorem zm_20 : Cond.instanceMethod y_Tokens_init ∈ wz := zc_0 (List.mem_of_getElem? (i := 20) rfl)
theorem zm_21 : Cond.fieldLink R_Lexemes 14 "LayoutFront$Lexemes" "tokens" "LLayoutFront$Tokens;" ∈ wz := zc_0 (List.mem_of_getElem? (i := 21) rfl)
theorem zm_22 : Cond.fieldLink R_Lexemes 20 "LayoutFront$Lexemes" "places" "[I" ∈ wz := zc_0 (List.mem_of_getElem? (i := 22) rfl)
theorem zm_23 : Cond.fieldLink R_Lexemes 24 "LayoutFront$Lexemes" "columns" "[I" ∈ wz := zc_0 (List.mem_of_getElem? (i := 23) rfl)
theorem zm_24 : Cond.arrayClass .boolean ∈ wz := zc_0 (List.mem_of_getElem? (i := 24) rfl)
theorem zm_25 : Cond.fieldLink R_Lexemes 27 "LayoutFront$Lexemes" "lineFirsts" "[Z" ∈ wz := zc_0 (List.mem_of_getElem? (i := 25) rfl)
theorem zm_26 : Cond.methodLink R_Cutter 3 objectInit ∈ wz := zc_0 (List.mem_of_getElem? (i := 26) rfl)
theorem zm_27 : Cond.classLink R_Cutter 9 R_Lexemes ∈ wz := zc_0 (List.mem_of_getElem? (i := 27) rfl)
theorem zm_28 : Cond.instantiable R_Lexemes 4 ∈ wz := zc_0 (List.mem_of_getElem? (i := 28) rfl)
theorem zm_29 : Cond.initialized R_Lexemes ∈ wz := zc_0 (List.mem_of_getElem? (i := 29) rfl)
theorem zm_30 : Cond.code y_Lexemes_init b_Lexemes_init 1 none ∈ wz := zc_1 (List.mem_of_getElem? (i := 0) rfl)
theorem zm_31 : Cond.instanceMethod y_Lexemes_init ∈ wz := zc_1 (List.mem_of_getElem? (i := 1) rfl)
theorem zm_32 : Cond.fieldLink R_Cutter 12 "LayoutFront$Cutter" "lexemes" "LLayoutFront$Lexemes;" ∈ wz := zc_1 (List.mem_of_getElem? (i := 2) rfl)
theorem zm_33 : Cond.fieldLink R_Cutter 18 "LayoutFront$Cutter" "wrongPlace" "I" ∈ wz := zc_1 (List.mem_of_getElem? (i := 3) rfl)
theorem zm_34 : Cond.methodLink R_Open 3 objectInit ∈ wz := zc_1 (List.mem_of_getElem? (i := 4) rfl)
theorem zm_35 : Cond.fieldLink R_Open 9 "LayoutFront$Open" "things" "[I" ∈ wz := zc_1 (List.mem_of_getElem? (i := 5) rfl)
theorem zm_36 : Cond.methodLink R_Blocks 3 objectInit ∈ wz := zc_1 (List.mem_of_getElem? (i := 6) rfl)
theorem zm_37 : Cond.classLink R_Blocks 9 R_Open ∈ wz := zc_1 (List.mem_of_getElem? (i := 7) rfl)
theorem zm_38 : Cond.instantiable R_Open 3 ∈ wz := zc_1 (List.mem_of_getElem? (i := 8) rfl)
theorem zm_39 : Cond.initialized R_Open ∈ wz := zc_1 (List.mem_of_getElem? (i := 9) rfl)
theorem zm_40 : Cond.code y_Open_init b_Open_init 1 none ∈ wz := zc_1 (List.mem_of_getElem? (i := 10) rfl)
theorem zm_41 : Cond.instanceMethod y_Open_init ∈ wz := zc_1 (List.mem_of_getElem? (i := 11) rfl)
theorem zm_42 : Cond.fieldLink R_Blocks 12 "LayoutFront$Blocks" "open" "LLayoutFront$Open;" ∈ wz := zc_1 (List.mem_of_getElem? (i := 12) rfl)
theorem zm_43 : Cond.classLink R_Blocks 18 R_Tokens ∈ wz := zc_1 (List.mem_of_getElem? (i := 13) rfl)
theorem zm_44 : Cond.methodLink R_Blocks 20 y_Tokens_init ∈ wz := zc_1 (List.mem_of_getElem? (i := 14) rfl)
theorem zm_45 : Cond.fieldLink R_Blocks 23 "LayoutFront$Blocks" "laid" "LLayoutFront$Tokens;" ∈ wz := zc_1 (List.mem_of_getElem? (i := 15) rfl)
theorem zm_46 : Cond.methodLink R_Row 3 objectInit ∈ wz := zc_1 (List.mem_of_getElem? (i := 16) rfl)
theorem zm_47 : Cond.fieldLink R_Row 9 "LayoutFront$Row" "parts" "[I" ∈ wz := zc_1 (List.mem_of_getElem? (i := 17) rfl)
theorem zm_48 : Cond.fieldLink R_Row 15 "LayoutFront$Row" "firsts" "[I" ∈ wz := zc_1 (List.mem_of_getElem? (i := 18) rfl)
theorem zm_49 : Cond.fieldLink R_Row 18 "LayoutFront$Row" "lasts" "[I" ∈ wz := zc_1 (List.mem_of_getElem? (i := 19) rfl)
theorem zm_50 : Cond.methodLink R_Resolver 3 objectInit ∈ wz := zc_1 (List.mem_of_getElem? (i := 20) rfl)
theorem zm_51 : Cond.fieldLink R_Resolver 9 "LayoutFront$Resolver" "pairFirsts" "[I" ∈ wz := zc_1 (List.mem_of_getElem? (i := 21) rfl)
theorem zm_52 : Cond.fieldLink R_Resolver 15 "LayoutFront$Resolver" "pairLasts" "[I" ∈ wz := zc_1 (List.mem_of_getElem? (i := 22) rfl)
theorem zm_53 : Cond.fieldLink R_Resolver 18 "LayoutFront$Resolver" "firsts" "[I" ∈ wz := zc_1 (List.mem_of_getElem? (i := 23) rfl)
theorem zm_54 : Cond.fieldLink R_Resolver 21 "LayoutFront$Resolver" "lasts" "[I" ∈ wz := zc_1 (List.mem_of_getElem? (i := 24) rfl)
theorem zm_55 : Cond.fieldLink R_Resolver 24 "LayoutFront$Resolver" "levels" "[I" ∈ wz := zc_1 (List.mem_of_getElem? (i := 25) rfl)
theorem zm_56 : Cond.fieldLink R_Resolver 27 "LayoutFront$Resolver" "sides" "[I" ∈ wz := zc_1 (List.mem_of_getElem? (i := 26) rfl)
theorem zm_57 : Cond.fieldLink R_Resolver 30 "LayoutFront$Resolver" "minusPlaces" "[I" ∈ wz := zc_1 (List.mem_of_getElem? (i := 27) rfl)
theorem zm_58 : Cond.methodLink R_Rows 3 objectInit ∈ wz := zc_1 (List.mem_of_getElem? (i := 28) rfl)
theorem zm_59 : Cond.fieldLink R_Rows 9 "LayoutFront$Rows" "closers" "[I" ∈ wz := zc_1 (List.mem_of_getElem? (i := 29) rfl)
theorem zm_60 : Cond.fieldLink R_Rows 15 "LayoutFront$Rows" "openers" "[I" ∈ wz := zc_2 (List.mem_of_getElem? (i := 0) rfl)
theorem zm_61 : Cond.fieldLink R_Rows 18 "LayoutFront$Rows" "opened" "[I" ∈ wz := zc_2 (List.mem_of_getElem? (i := 1) rfl)
theorem zm_62 : Cond.fieldLink R_Rows 21 "LayoutFront$Rows" "closed" "[I" ∈ wz := zc_2 (List.mem_of_getElem? (i := 2) rfl)
theorem zm_63 : Cond.classLink R_Rows 24 R_Row ∈ wz := zc_2 (List.mem_of_getElem? (i := 3) rfl)
theorem zm_64 : Cond.instantiable R_Row 6 ∈ wz := zc_2 (List.mem_of_getElem? (i := 4) rfl)
theorem zm_65 : Cond.initialized R_Row ∈ wz := zc_2 (List.mem_of_getElem? (i := 5) rfl)
theorem zm_66 : Cond.code y_Row_init b_Row_init 1 none ∈ wz := zc_2 (List.mem_of_getElem? (i := 6) rfl)
theorem zm_67 : Cond.instanceMethod y_Row_init ∈ wz := zc_2 (List.mem_of_getElem? (i := 7) rfl)
theorem zm_68 : Cond.fieldLink R_Rows 27 "LayoutFront$Rows" "row" "LLayoutFront$Row;" ∈ wz := zc_2 (List.mem_of_getElem? (i := 8) rfl)
theorem zm_69 : Cond.classLink R_Rows 31 R_Resolver ∈ wz := zc_2 (List.mem_of_getElem? (i := 9) rfl)
theorem zm_70 : Cond.instantiable R_Resolver 11 ∈ wz := zc_2 (List.mem_of_getElem? (i := 10) rfl)
theorem zm_71 : Cond.initialized R_Resolver ∈ wz := zc_2 (List.mem_of_getElem? (i := 11) rfl)
theorem zm_72 : Cond.code y_Resolver_init b_Resolver_init 1 none ∈ wz := zc_2 (List.mem_of_getElem? (i := 12) rfl)
theorem zm_73 : Cond.instanceMethod y_Resolver_init ∈ wz := zc_2 (List.mem_of_getElem? (i := 13) rfl)
theorem zm_74 : Cond.fieldLink R_Rows 34 "LayoutFront$Rows" "resolver" "LLayoutFront$Resolver;" ∈ wz := zc_2 (List.mem_of_getElem? (i := 14) rfl)
theorem zm_75 : Cond.methodLink R_LF 3 objectInit ∈ wz := zc_2 (List.mem_of_getElem? (i := 15) rfl)
theorem zm_76 : Cond.classLink R_LF 9 R_Text ∈ wz := zc_2 (List.mem_of_getElem? (i := 16) rfl)
theorem zm_77 : Cond.instantiable R_Text 2 ∈ wz := zc_2 (List.mem_of_getElem? (i := 17) rfl)
theorem zm_78 : Cond.initialized R_Text ∈ wz := zc_2 (List.mem_of_getElem? (i := 18) rfl)
theorem zm_79 : Cond.code y_Text_init b_Text_init 1 none ∈ wz := zc_2 (List.mem_of_getElem? (i := 19) rfl)
theorem zm_80 : Cond.instanceMethod y_Text_init ∈ wz := zc_2 (List.mem_of_getElem? (i := 20) rfl)
theorem zm_81 : Cond.fieldLink R_LF 12 "LayoutFront" "text" "LLayoutFront$Text;" ∈ wz := zc_2 (List.mem_of_getElem? (i := 21) rfl)
theorem zm_82 : Cond.classLink R_LF 16 R_Fixities ∈ wz := zc_2 (List.mem_of_getElem? (i := 22) rfl)
theorem zm_83 : Cond.instantiable R_Fixities 4 ∈ wz := zc_2 (List.mem_of_getElem? (i := 23) rfl)
theorem zm_84 : Cond.initialized R_Fixities ∈ wz := zc_2 (List.mem_of_getElem? (i := 24) rfl)
theorem zm_85 : Cond.code y_Fixities_init b_Fixities_init 1 none ∈ wz := zc_2 (List.mem_of_getElem? (i := 25) rfl)
theorem zm_86 : Cond.instanceMethod y_Fixities_init ∈ wz := zc_2 (List.mem_of_getElem? (i := 26) rfl)
theorem zm_87 : Cond.fieldLink R_LF 19 "LayoutFront" "fixities" "LLayoutFront$Fixities;" ∈ wz := zc_2 (List.mem_of_getElem? (i := 27) rfl)
theorem zm_88 : Cond.classLink R_LF 23 R_Cutter ∈ wz := zc_2 (List.mem_of_getElem? (i := 28) rfl)
theorem zm_89 : Cond.instantiable R_Cutter 6 ∈ wz := zc_2 (List.mem_of_getElem? (i := 29) rfl)
theorem zm_90 : Cond.initialized R_Cutter ∈ wz := zc_3 (List.mem_of_getElem? (i := 0) rfl)
theorem zm_91 : Cond.code y_Cutter_init b_Cutter_init 1 none ∈ wz := zc_3 (List.mem_of_getElem? (i := 1) rfl)
theorem zm_92 : Cond.instanceMethod y_Cutter_init ∈ wz := zc_3 (List.mem_of_getElem? (i := 2) rfl)
theorem zm_93 : Cond.fieldLink R_LF 26 "LayoutFront" "cutter" "LLayoutFront$Cutter;" ∈ wz := zc_3 (List.mem_of_getElem? (i := 3) rfl)
theorem zm_94 : Cond.classLink R_LF 30 R_Blocks ∈ wz := zc_3 (List.mem_of_getElem? (i := 4) rfl)
theorem zm_95 : Cond.instantiable R_Blocks 3 ∈ wz := zc_3 (List.mem_of_getElem? (i := 5) rfl)
theorem zm_96 : Cond.initialized R_Blocks ∈ wz := zc_3 (List.mem_of_getElem? (i := 6) rfl)
theorem zm_97 : Cond.code y_Blocks_init b_Blocks_init 1 none ∈ wz := zc_3 (List.mem_of_getElem? (i := 7) rfl)
theorem zm_98 : Cond.instanceMethod y_Blocks_init ∈ wz := zc_3 (List.mem_of_getElem? (i := 8) rfl)
theorem zm_99 : Cond.fieldLink R_LF 33 "LayoutFront" "blocks" "LLayoutFront$Blocks;" ∈ wz := zc_3 (List.mem_of_getElem? (i := 9) rfl)
theorem zm_100 : Cond.classLink R_LF 37 R_Rows ∈ wz := zc_3 (List.mem_of_getElem? (i := 10) rfl)
theorem zm_101 : Cond.instantiable R_Rows 8 ∈ wz := zc_3 (List.mem_of_getElem? (i := 11) rfl)
theorem zm_102 : Cond.initialized R_Rows ∈ wz := zc_3 (List.mem_of_getElem? (i := 12) rfl)
theorem zm_103 : Cond.code y_Rows_init b_Rows_init 1 none ∈ wz := zc_3 (List.mem_of_getElem? (i := 13) rfl)
theorem zm_104 : Cond.instanceMethod y_Rows_init ∈ wz := zc_3 (List.mem_of_getElem? (i := 14) rfl)
theorem zm_105 : Cond.fieldLink R_LF 40 "LayoutFront" "rows" "LLayoutFront$Rows;" ∈ wz := zc_3 (List.mem_of_getElem? (i := 15) rfl)
theorem zm_106 : Cond.classLink R_LF 44 R_Tokens ∈ wz := zc_3 (List.mem_of_getElem? (i := 16) rfl)
theorem zm_107 : Cond.methodLink R_LF 46 y_Tokens_init ∈ wz := zc_3 (List.mem_of_getElem? (i := 17) rfl)
theorem zm_108 : Cond.fieldLink R_LF 49 "LayoutFront" "tokens" "LLayoutFront$Tokens;" ∈ wz := zc_3 (List.mem_of_getElem? (i := 18) rfl)
theorem zm_109 : Cond.fieldLink R_LF 53 "LayoutFront" "counts" "[I" ∈ wz := zc_3 (List.mem_of_getElem? (i := 19) rfl)
theorem zm_110 : Cond.fieldLink R_LF 57 "LayoutFront" "wrongPlace" "I" ∈ wz := zc_3 (List.mem_of_getElem? (i := 20) rfl)
theorem zm_111 : Cond.fieldLink R_Tokens 19 "LayoutFront$Tokens" "size" "I" ∈ wz := zc_3 (List.mem_of_getElem? (i := 21) rfl)
theorem zm_112 : Cond.methodLink R_Lexemes 31 y_Tokens_clear ∈ wz := zc_3 (List.mem_of_getElem? (i := 22) rfl)
theorem zm_113 : Cond.instanceMethod y_Tokens_clear ∈ wz := zc_3 (List.mem_of_getElem? (i := 23) rfl)
theorem zm_114 : Cond.selects R_Tokens y_Tokens_clear y_Tokens_clear ∈ wz := zc_3 (List.mem_of_getElem? (i := 24) rfl)
theorem zm_115 : Cond.code y_Tokens_clear b_Tokens_clear 1 none ∈ wz := zc_3 (List.mem_of_getElem? (i := 25) rfl)
theorem zm_116 : Cond.fieldLink R_Text 19 "LayoutFront$Text" "length" "I" ∈ wz := zc_3 (List.mem_of_getElem? (i := 26) rfl)
theorem zm_117 : Cond.methodLink R_Cutter 26 y_Lexemes_clear ∈ wz := zc_3 (List.mem_of_getElem? (i := 27) rfl)
theorem zm_118 : Cond.instanceMethod y_Lexemes_clear ∈ wz := zc_3 (List.mem_of_getElem? (i := 28) rfl)
theorem zm_119 : Cond.selects R_Lexemes y_Lexemes_clear y_Lexemes_clear ∈ wz := zc_3 (List.mem_of_getElem? (i := 29) rfl)
theorem zm_120 : Cond.code y_Lexemes_clear b_Lexemes_clear 1 none ∈ wz := zc_4 (List.mem_of_getElem? (i := 0) rfl)
theorem zm_121 : Cond.fieldLink R_Cutter 29 "LayoutFront$Cutter" "at" "I" ∈ wz := zc_4 (List.mem_of_getElem? (i := 1) rfl)
theorem zm_122 : Cond.fieldLink R_Cutter 32 "LayoutFront$Cutter" "lineStart" "I" ∈ wz := zc_4 (List.mem_of_getElem? (i := 2) rfl)
theorem zm_123 : Cond.fieldLink R_Cutter 35 "LayoutFront$Cutter" "lineIsFresh" "Z" ∈ wz := zc_4 (List.mem_of_getElem? (i := 3) rfl)
theorem zm_124 : Cond.fieldLink R_Cutter 22 "LayoutFront$Cutter" "tooMany" "Z" ∈ wz := zc_4 (List.mem_of_getElem? (i := 4) rfl)
theorem zm_125 : Cond.methodLink R_Cutter 38 y_Text_length ∈ wz := zc_4 (List.mem_of_getElem? (i := 5) rfl)
theorem zm_126 : Cond.instanceMethod y_Text_length ∈ wz := zc_4 (List.mem_of_getElem? (i := 6) rfl)
theorem zm_127 : Cond.selects R_Text y_Text_length y_Text_length ∈ wz := zc_4 (List.mem_of_getElem? (i := 7) rfl)
theorem zm_128 : Cond.code y_Text_length b_Text_length 1 (some .int) ∈ wz := zc_4 (List.mem_of_getElem? (i := 8) rfl)
theorem zm_129 : Cond.fieldLink R_Open 15 "LayoutFront$Open" "size" "I" ∈ wz := zc_4 (List.mem_of_getElem? (i := 9) rfl)
theorem zm_130 : Cond.fieldLink R_Open 19 "LayoutFront$Open" "most" "I" ∈ wz := zc_4 (List.mem_of_getElem? (i := 10) rfl)
theorem zm_131 : Cond.methodLink R_Lexemes 34 y_Tokens_size ∈ wz := zc_4 (List.mem_of_getElem? (i := 11) rfl)
theorem zm_132 : Cond.instanceMethod y_Tokens_size ∈ wz := zc_4 (List.mem_of_getElem? (i := 12) rfl)
theorem zm_133 : Cond.selects R_Tokens y_Tokens_size y_Tokens_size ∈ wz := zc_4 (List.mem_of_getElem? (i := 13) rfl)
theorem zm_134 : Cond.code y_Tokens_size b_Tokens_size 1 (some .int) ∈ wz := zc_4 (List.mem_of_getElem? (i := 14) rfl)
theorem zm_135 : Cond.methodLink R_Tokens 27 y_Tokens_has ∈ wz := zc_4 (List.mem_of_getElem? (i := 15) rfl)
theorem zm_136 : Cond.instanceMethod y_Tokens_has ∈ wz := zc_4 (List.mem_of_getElem? (i := 16) rfl)
theorem zm_137 : Cond.selects R_Tokens y_Tokens_has y_Tokens_has ∈ wz := zc_4 (List.mem_of_getElem? (i := 17) rfl)
theorem zm_138 : Cond.code y_Tokens_has b_Tokens_has 2 (some .boolean) ∈ wz := zc_4 (List.mem_of_getElem? (i := 18) rfl)
theorem zm_139 : Cond.methodLink R_Blocks 99 y_Tokens_isSign ∈ wz := zc_4 (List.mem_of_getElem? (i := 19) rfl)
theorem zm_140 : Cond.instanceMethod y_Tokens_isSign ∈ wz := zc_4 (List.mem_of_getElem? (i := 20) rfl)
theorem zm_141 : Cond.selects R_Tokens y_Tokens_isSign y_Tokens_isSign ∈ wz := zc_4 (List.mem_of_getElem? (i := 21) rfl)
theorem zm_142 : Cond.code y_Tokens_isSign b_Tokens_isSign 3 (some .boolean) ∈ wz := zc_4 (List.mem_of_getElem? (i := 22) rfl)
theorem zm_143 : Cond.methodLink R_Blocks 64 y_Tokens_wordAt ∈ wz := zc_4 (List.mem_of_getElem? (i := 23) rfl)
theorem zm_144 : Cond.instanceMethod y_Tokens_wordAt ∈ wz := zc_4 (List.mem_of_getElem? (i := 24) rfl)
theorem zm_145 : Cond.selects R_Tokens y_Tokens_wordAt y_Tokens_wordAt ∈ wz := zc_4 (List.mem_of_getElem? (i := 25) rfl)
theorem zm_146 : Cond.code y_Tokens_wordAt b_Tokens_wordAt 2 (some .int) ∈ wz := zc_4 (List.mem_of_getElem? (i := 26) rfl)
theorem zm_147 : Cond.methodLink R_Lexemes 42 y_Tokens_has ∈ wz := zc_4 (List.mem_of_getElem? (i := 27) rfl)
theorem zm_148 : Cond.methodLink R_Blocks 74 y_Tokens_add ∈ wz := zc_4 (List.mem_of_getElem? (i := 28) rfl)
theorem zm_149 : Cond.instanceMethod y_Tokens_add ∈ wz := zc_4 (List.mem_of_getElem? (i := 29) rfl)
theorem zm_150 : Cond.selects R_Tokens y_Tokens_add y_Tokens_add ∈ wz := zc_5 (List.mem_of_getElem? (i := 0) rfl)
theorem zm_151 : Cond.code y_Tokens_add b_Tokens_add 4 none ∈ wz := zc_5 (List.mem_of_getElem? (i := 1) rfl)
theorem zm_152 : Cond.fieldLink R_Blocks 27 "LayoutFront$Blocks" "begun" "I" ∈ wz := zc_5 (List.mem_of_getElem? (i := 2) rfl)
theorem zm_153 : Cond.methodLink R_Blocks 103 y_Blocks_putIn ∈ wz := zc_5 (List.mem_of_getElem? (i := 3) rfl)
theorem zm_154 : Cond.instanceMethod y_Blocks_putIn ∈ wz := zc_5 (List.mem_of_getElem? (i := 4) rfl)
theorem zm_155 : Cond.selects R_Blocks y_Blocks_putIn y_Blocks_putIn ∈ wz := zc_5 (List.mem_of_getElem? (i := 5) rfl)
theorem zm_156 : Cond.code y_Blocks_putIn b_Blocks_putIn 2 none ∈ wz := zc_5 (List.mem_of_getElem? (i := 6) rfl)
theorem zm_157 : Cond.methodLink R_Blocks 107 y_Open_latestColumn ∈ wz := zc_5 (List.mem_of_getElem? (i := 7) rfl)
theorem zm_158 : Cond.instanceMethod y_Open_latestColumn ∈ wz := zc_5 (List.mem_of_getElem? (i := 8) rfl)
theorem zm_159 : Cond.selects R_Open y_Open_latestColumn y_Open_latestColumn ∈ wz := zc_5 (List.mem_of_getElem? (i := 9) rfl)
theorem zm_160 : Cond.code y_Open_latestColumn b_Open_latestColumn 2 (some .int) ∈ wz := zc_5 (List.mem_of_getElem? (i := 10) rfl)
theorem zm_161 : Cond.methodLink R_Blocks 48 y_Lexemes_tokens ∈ wz := zc_5 (List.mem_of_getElem? (i := 11) rfl)
theorem zm_162 : Cond.instanceMethod y_Lexemes_tokens ∈ wz := zc_5 (List.mem_of_getElem? (i := 12) rfl)
theorem zm_163 : Cond.selects R_Lexemes y_Lexemes_tokens y_Lexemes_tokens ∈ wz := zc_5 (List.mem_of_getElem? (i := 13) rfl)
theorem zm_164 : Cond.code y_Lexemes_tokens b_Lexemes_tokens 1 (some (.object "LayoutFront$Tokens")) ∈ wz := zc_5 (List.mem_of_getElem? (i := 14) rfl)
theorem zm_165 : Cond.methodLink R_Blocks 83 y_Blocks_beginsBlock ∈ wz := zc_5 (List.mem_of_getElem? (i := 15) rfl)
theorem zm_166 : Cond.static y_Blocks_beginsBlock ∈ wz := zc_5 (List.mem_of_getElem? (i := 16) rfl)
theorem zm_167 : Cond.code y_Blocks_beginsBlock b_Blocks_beginsBlock 2 (some .boolean) ∈ wz := zc_5 (List.mem_of_getElem? (i := 17) rfl)
theorem zm_168 : Cond.methodLink R_Blocks 87 y_Lexemes_columnAt ∈ wz := zc_5 (List.mem_of_getElem? (i := 18) rfl)
theorem zm_169 : Cond.instanceMethod y_Lexemes_columnAt ∈ wz := zc_5 (List.mem_of_getElem? (i := 19) rfl)
theorem zm_170 : Cond.selects R_Lexemes y_Lexemes_columnAt y_Lexemes_columnAt ∈ wz := zc_5 (List.mem_of_getElem? (i := 20) rfl)
theorem zm_171 : Cond.code y_Lexemes_columnAt b_Lexemes_columnAt 2 (some .int) ∈ wz := zc_5 (List.mem_of_getElem? (i := 21) rfl)
theorem zm_172 : Cond.methodLink R_Blocks 90 y_Blocks_begin ∈ wz := zc_5 (List.mem_of_getElem? (i := 22) rfl)
theorem zm_173 : Cond.instanceMethod y_Blocks_begin ∈ wz := zc_5 (List.mem_of_getElem? (i := 23) rfl)
theorem zm_174 : Cond.selects R_Blocks y_Blocks_begin y_Blocks_begin ∈ wz := zc_5 (List.mem_of_getElem? (i := 24) rfl)
theorem zm_175 : Cond.code y_Blocks_begin b_Blocks_begin 2 none ∈ wz := zc_5 (List.mem_of_getElem? (i := 25) rfl)
theorem zm_176 : Cond.methodLink R_Blocks 82 y_Open_size ∈ wz := zc_5 (List.mem_of_getElem? (i := 26) rfl)
theorem zm_177 : Cond.instanceMethod y_Open_size ∈ wz := zc_5 (List.mem_of_getElem? (i := 27) rfl)
theorem zm_178 : Cond.selects R_Open y_Open_size y_Open_size ∈ wz := zc_5 (List.mem_of_getElem? (i := 28) rfl)
theorem zm_179 : Cond.code y_Open_size b_Open_size 1 (some .int) ∈ wz := zc_5 (List.mem_of_getElem? (i := 29) rfl)
theorem zm_180 : Cond.methodLink R_Blocks 35 y_Open_clear ∈ wz := zc_6 (List.mem_of_getElem? (i := 0) rfl)
theorem zm_181 : Cond.instanceMethod y_Open_clear ∈ wz := zc_6 (List.mem_of_getElem? (i := 1) rfl)
theorem zm_182 : Cond.selects R_Open y_Open_clear y_Open_clear ∈ wz := zc_6 (List.mem_of_getElem? (i := 2) rfl)
theorem zm_183 : Cond.code y_Open_clear b_Open_clear 1 none ∈ wz := zc_6 (List.mem_of_getElem? (i := 3) rfl)
theorem zm_184 : Cond.methodLink R_Blocks 38 y_Tokens_clear ∈ wz := zc_6 (List.mem_of_getElem? (i := 4) rfl)
theorem zm_185 : Cond.methodLink R_Blocks 39 y_Lexemes_size ∈ wz := zc_6 (List.mem_of_getElem? (i := 5) rfl)
theorem zm_186 : Cond.instanceMethod y_Lexemes_size ∈ wz := zc_6 (List.mem_of_getElem? (i := 6) rfl)
theorem zm_187 : Cond.selects R_Lexemes y_Lexemes_size y_Lexemes_size ∈ wz := zc_6 (List.mem_of_getElem? (i := 7) rfl)
theorem zm_188 : Cond.code y_Lexemes_size b_Lexemes_size 1 (some .int) ∈ wz := zc_6 (List.mem_of_getElem? (i := 8) rfl)
theorem zm_189 : Cond.methodLink R_Blocks 44 y_Blocks_putBefore ∈ wz := zc_6 (List.mem_of_getElem? (i := 9) rfl)
theorem zm_190 : Cond.instanceMethod y_Blocks_putBefore ∈ wz := zc_6 (List.mem_of_getElem? (i := 10) rfl)
theorem zm_191 : Cond.selects R_Blocks y_Blocks_putBefore y_Blocks_putBefore ∈ wz := zc_6 (List.mem_of_getElem? (i := 11) rfl)
theorem zm_192 : Cond.code y_Blocks_putBefore b_Blocks_putBefore 3 none ∈ wz := zc_6 (List.mem_of_getElem? (i := 12) rfl)
theorem zm_193 : Cond.methodLink R_Blocks 78 y_Blocks_closeBlocks ∈ wz := zc_6 (List.mem_of_getElem? (i := 13) rfl)
theorem zm_194 : Cond.instanceMethod y_Blocks_closeBlocks ∈ wz := zc_6 (List.mem_of_getElem? (i := 14) rfl)
theorem zm_195 : Cond.selects R_Blocks y_Blocks_closeBlocks y_Blocks_closeBlocks ∈ wz := zc_6 (List.mem_of_getElem? (i := 15) rfl)
theorem zm_196 : Cond.code y_Blocks_closeBlocks b_Blocks_closeBlocks 3 none ∈ wz := zc_6 (List.mem_of_getElem? (i := 16) rfl)
theorem zm_197 : Cond.fieldLink R_Resolver 33 "LayoutFront$Resolver" "pairs" "I" ∈ wz := zc_6 (List.mem_of_getElem? (i := 17) rfl)
theorem zm_198 : Cond.fieldLink R_Resolver 40 "LayoutFront$Resolver" "pairsBefore" "I" ∈ wz := zc_6 (List.mem_of_getElem? (i := 18) rfl)
theorem zm_199 : Cond.fieldLink R_Resolver 43 "LayoutFront$Resolver" "operands" "I" ∈ wz := zc_6 (List.mem_of_getElem? (i := 19) rfl)
theorem zm_200 : Cond.fieldLink R_Resolver 46 "LayoutFront$Resolver" "waiting" "I" ∈ wz := zc_6 (List.mem_of_getElem? (i := 20) rfl)
theorem zm_201 : Cond.methodLink R_Resolver 37 y_Resolver_startRow ∈ wz := zc_6 (List.mem_of_getElem? (i := 21) rfl)
theorem zm_202 : Cond.instanceMethod y_Resolver_startRow ∈ wz := zc_6 (List.mem_of_getElem? (i := 22) rfl)
theorem zm_203 : Cond.selects R_Resolver y_Resolver_startRow y_Resolver_startRow ∈ wz := zc_6 (List.mem_of_getElem? (i := 23) rfl)
theorem zm_204 : Cond.code y_Resolver_startRow b_Resolver_startRow 1 none ∈ wz := zc_6 (List.mem_of_getElem? (i := 24) rfl)
theorem zm_205 : Cond.methodLink R_Tokens 31 y_Tokens_isSign ∈ wz := zc_6 (List.mem_of_getElem? (i := 25) rfl)
theorem zm_206 : Cond.methodLink R_Rows 52 y_Tokens_size ∈ wz := zc_6 (List.mem_of_getElem? (i := 26) rfl)
theorem zm_207 : Cond.methodLink R_Rows 62 y_Tokens_opensBracket ∈ wz := zc_6 (List.mem_of_getElem? (i := 27) rfl)
theorem zm_208 : Cond.instanceMethod y_Tokens_opensBracket ∈ wz := zc_6 (List.mem_of_getElem? (i := 28) rfl)
theorem zm_209 : Cond.selects R_Tokens y_Tokens_opensBracket y_Tokens_opensBracket ∈ wz := zc_6 (List.mem_of_getElem? (i := 29) rfl)
theorem zm_210 : Cond.code y_Tokens_opensBracket b_Tokens_opensBracket 2 (some .boolean) ∈ wz := zc_7 (List.mem_of_getElem? (i := 0) rfl)
theorem zm_211 : Cond.methodLink R_Rows 93 y_Tokens_closesBracket ∈ wz := zc_7 (List.mem_of_getElem? (i := 1) rfl)
theorem zm_212 : Cond.instanceMethod y_Tokens_closesBracket ∈ wz := zc_7 (List.mem_of_getElem? (i := 2) rfl)
theorem zm_213 : Cond.selects R_Tokens y_Tokens_closesBracket y_Tokens_closesBracket ∈ wz := zc_7 (List.mem_of_getElem? (i := 3) rfl)
theorem zm_214 : Cond.code y_Tokens_closesBracket b_Tokens_closesBracket 2 (some .boolean) ∈ wz := zc_7 (List.mem_of_getElem? (i := 4) rfl)
theorem zm_215 : Cond.fieldLink R_Row 21 "LayoutFront$Row" "size" "I" ∈ wz := zc_7 (List.mem_of_getElem? (i := 5) rfl)
theorem zm_216 : Cond.fieldLink R_Row 25 "LayoutFront$Row" "operates" "Z" ∈ wz := zc_7 (List.mem_of_getElem? (i := 6) rfl)
theorem zm_217 : Cond.fieldLink R_Row 29 "LayoutFront$Row" "lacksOperand" "Z" ∈ wz := zc_7 (List.mem_of_getElem? (i := 7) rfl)
theorem zm_218 : Cond.methodLink R_Rows 132 y_Tokens_isFreeName ∈ wz := zc_7 (List.mem_of_getElem? (i := 8) rfl)
theorem zm_219 : Cond.instanceMethod y_Tokens_isFreeName ∈ wz := zc_7 (List.mem_of_getElem? (i := 9) rfl)
theorem zm_220 : Cond.selects R_Tokens y_Tokens_isFreeName y_Tokens_isFreeName ∈ wz := zc_7 (List.mem_of_getElem? (i := 10) rfl)
theorem zm_221 : Cond.code y_Tokens_isFreeName b_Tokens_isFreeName 2 (some .boolean) ∈ wz := zc_7 (List.mem_of_getElem? (i := 11) rfl)
theorem zm_222 : Cond.methodLink R_Rows 80 y_Tokens_kindAt ∈ wz := zc_7 (List.mem_of_getElem? (i := 12) rfl)
theorem zm_223 : Cond.instanceMethod y_Tokens_kindAt ∈ wz := zc_7 (List.mem_of_getElem? (i := 13) rfl)
theorem zm_224 : Cond.selects R_Tokens y_Tokens_kindAt y_Tokens_kindAt ∈ wz := zc_7 (List.mem_of_getElem? (i := 14) rfl)
theorem zm_225 : Cond.code y_Tokens_kindAt b_Tokens_kindAt 2 (some .int) ∈ wz := zc_7 (List.mem_of_getElem? (i := 15) rfl)
theorem zm_226 : Cond.methodLink R_Rows 135 y_Tokens_isSign ∈ wz := zc_7 (List.mem_of_getElem? (i := 16) rfl)
theorem zm_227 : Cond.methodLink R_Rows 139 y_Tokens_isFreeOperator ∈ wz := zc_7 (List.mem_of_getElem? (i := 17) rfl)
theorem zm_228 : Cond.instanceMethod y_Tokens_isFreeOperator ∈ wz := zc_7 (List.mem_of_getElem? (i := 18) rfl)
theorem zm_229 : Cond.selects R_Tokens y_Tokens_isFreeOperator y_Tokens_isFreeOperator ∈ wz := zc_7 (List.mem_of_getElem? (i := 19) rfl)
theorem zm_230 : Cond.code y_Tokens_isFreeOperator b_Tokens_isFreeOperator 2 (some .boolean) ∈ wz := zc_7 (List.mem_of_getElem? (i := 20) rfl)
theorem zm_231 : Cond.methodLink R_Rows 108 y_Row_clear ∈ wz := zc_7 (List.mem_of_getElem? (i := 21) rfl)
theorem zm_232 : Cond.instanceMethod y_Row_clear ∈ wz := zc_7 (List.mem_of_getElem? (i := 22) rfl)
theorem zm_233 : Cond.selects R_Row y_Row_clear y_Row_clear ∈ wz := zc_7 (List.mem_of_getElem? (i := 23) rfl)
theorem zm_234 : Cond.code y_Row_clear b_Row_clear 1 none ∈ wz := zc_7 (List.mem_of_getElem? (i := 24) rfl)
theorem zm_235 : Cond.methodLink R_Rows 109 y_Rows_behindOperand ∈ wz := zc_7 (List.mem_of_getElem? (i := 25) rfl)
theorem zm_236 : Cond.instanceMethod y_Rows_behindOperand ∈ wz := zc_7 (List.mem_of_getElem? (i := 26) rfl)
theorem zm_237 : Cond.selects R_Rows y_Rows_behindOperand y_Rows_behindOperand ∈ wz := zc_7 (List.mem_of_getElem? (i := 27) rfl)
theorem zm_238 : Cond.code y_Rows_behindOperand b_Rows_behindOperand 3 (some .int) ∈ wz := zc_7 (List.mem_of_getElem? (i := 28) rfl)
theorem zm_239 : Cond.methodLink R_Rows 113 y_Rows_behindOperation ∈ wz := zc_7 (List.mem_of_getElem? (i := 29) rfl)
theorem zm_240 : Cond.static y_Rows_behindOperation ∈ wz := zc_8 (List.mem_of_getElem? (i := 0) rfl)
theorem zm_241 : Cond.code y_Rows_behindOperation b_Rows_behindOperation 2 (some .int) ∈ wz := zc_8 (List.mem_of_getElem? (i := 1) rfl)
theorem zm_242 : Cond.methodLink R_Rows 96 y_Rows_collectRow ∈ wz := zc_8 (List.mem_of_getElem? (i := 2) rfl)
theorem zm_243 : Cond.instanceMethod y_Rows_collectRow ∈ wz := zc_8 (List.mem_of_getElem? (i := 3) rfl)
theorem zm_244 : Cond.selects R_Rows y_Rows_collectRow y_Rows_collectRow ∈ wz := zc_8 (List.mem_of_getElem? (i := 4) rfl)
theorem zm_245 : Cond.code y_Rows_collectRow b_Rows_collectRow 8 (some .int) ∈ wz := zc_8 (List.mem_of_getElem? (i := 5) rfl)
theorem zm_246 : Cond.methodLink R_Rows 100 y_Row_isWhole ∈ wz := zc_8 (List.mem_of_getElem? (i := 6) rfl)
theorem zm_247 : Cond.instanceMethod y_Row_isWhole ∈ wz := zc_8 (List.mem_of_getElem? (i := 7) rfl)
theorem zm_248 : Cond.selects R_Row y_Row_isWhole y_Row_isWhole ∈ wz := zc_8 (List.mem_of_getElem? (i := 8) rfl)
theorem zm_249 : Cond.code y_Row_isWhole b_Row_isWhole 1 (some .boolean) ∈ wz := zc_8 (List.mem_of_getElem? (i := 9) rfl)
theorem zm_250 : Cond.fieldLink R_Rows 38 "LayoutFront$Rows" "together" "I" ∈ wz := zc_8 (List.mem_of_getElem? (i := 10) rfl)
theorem zm_251 : Cond.fieldLink R_Rows 42 "LayoutFront$Rows" "inConflict" "I" ∈ wz := zc_8 (List.mem_of_getElem? (i := 11) rfl)
theorem zm_252 : Cond.methodLink R_Rows 45 y_Resolver_clear ∈ wz := zc_8 (List.mem_of_getElem? (i := 12) rfl)
theorem zm_253 : Cond.instanceMethod y_Resolver_clear ∈ wz := zc_8 (List.mem_of_getElem? (i := 13) rfl)
theorem zm_254 : Cond.selects R_Resolver y_Resolver_clear y_Resolver_clear ∈ wz := zc_8 (List.mem_of_getElem? (i := 14) rfl)
theorem zm_255 : Cond.code y_Resolver_clear b_Resolver_clear 1 none ∈ wz := zc_8 (List.mem_of_getElem? (i := 15) rfl)
theorem zm_256 : Cond.methodLink R_Rows 48 y_Rows_matchBrackets ∈ wz := zc_8 (List.mem_of_getElem? (i := 16) rfl)
theorem zm_257 : Cond.instanceMethod y_Rows_matchBrackets ∈ wz := zc_8 (List.mem_of_getElem? (i := 17) rfl)
theorem zm_258 : Cond.selects R_Rows y_Rows_matchBrackets y_Rows_matchBrackets ∈ wz := zc_8 (List.mem_of_getElem? (i := 18) rfl)
theorem zm_259 : Cond.code y_Rows_matchBrackets b_Rows_matchBrackets 4 none ∈ wz := zc_8 (List.mem_of_getElem? (i := 19) rfl)
theorem zm_260 : Cond.methodLink R_Rows 58 y_Rows_putLevelTogether ∈ wz := zc_8 (List.mem_of_getElem? (i := 20) rfl)
theorem zm_261 : Cond.instanceMethod y_Rows_putLevelTogether ∈ wz := zc_8 (List.mem_of_getElem? (i := 21) rfl)
theorem zm_262 : Cond.selects R_Rows y_Rows_putLevelTogether y_Rows_putLevelTogether ∈ wz := zc_8 (List.mem_of_getElem? (i := 22) rfl)
theorem zm_263 : Cond.code y_Rows_putLevelTogether b_Rows_putLevelTogether 7 none ∈ wz := zc_8 (List.mem_of_getElem? (i := 23) rfl)
theorem zm_264 : Cond.methodLink R_Rows 70 y_Resolver_tally ∈ wz := zc_8 (List.mem_of_getElem? (i := 24) rfl)
theorem zm_265 : Cond.instanceMethod y_Resolver_tally ∈ wz := zc_8 (List.mem_of_getElem? (i := 25) rfl)
theorem zm_266 : Cond.selects R_Resolver y_Resolver_tally y_Resolver_tally ∈ wz := zc_8 (List.mem_of_getElem? (i := 26) rfl)
theorem zm_267 : Cond.code y_Resolver_tally b_Resolver_tally 6 none ∈ wz := zc_8 (List.mem_of_getElem? (i := 27) rfl)
theorem zm_268 : Cond.constantLong R_Rows 74 40 ∈ wz := zc_8 (List.mem_of_getElem? (i := 28) rfl)
theorem zm_269 : Cond.methodLink R_Rows 76 y_Tokens_addTimes ∈ wz := zc_8 (List.mem_of_getElem? (i := 29) rfl)
theorem zm_270 : Cond.instanceMethod y_Tokens_addTimes ∈ wz := zc_9 (List.mem_of_getElem? (i := 0) rfl)
theorem zm_271 : Cond.selects R_Tokens y_Tokens_addTimes y_Tokens_addTimes ∈ wz := zc_9 (List.mem_of_getElem? (i := 1) rfl)
theorem zm_272 : Cond.code y_Tokens_addTimes b_Tokens_addTimes 6 none ∈ wz := zc_9 (List.mem_of_getElem? (i := 2) rfl)
theorem zm_273 : Cond.methodLink R_Rows 83 y_Tokens_valueAt ∈ wz := zc_9 (List.mem_of_getElem? (i := 3) rfl)
theorem zm_274 : Cond.instanceMethod y_Tokens_valueAt ∈ wz := zc_9 (List.mem_of_getElem? (i := 4) rfl)
theorem zm_275 : Cond.selects R_Tokens y_Tokens_valueAt y_Tokens_valueAt ∈ wz := zc_9 (List.mem_of_getElem? (i := 5) rfl)
theorem zm_276 : Cond.code y_Tokens_valueAt b_Tokens_valueAt 2 (some .long) ∈ wz := zc_9 (List.mem_of_getElem? (i := 6) rfl)
theorem zm_277 : Cond.methodLink R_Rows 87 y_Tokens_add ∈ wz := zc_9 (List.mem_of_getElem? (i := 7) rfl)
theorem zm_278 : Cond.constantLong R_Rows 91 41 ∈ wz := zc_9 (List.mem_of_getElem? (i := 8) rfl)
theorem zm_279 : Cond.methodLink R_Blocks 31 y_Open_most ∈ wz := zc_9 (List.mem_of_getElem? (i := 9) rfl)
theorem zm_280 : Cond.instanceMethod y_Open_most ∈ wz := zc_9 (List.mem_of_getElem? (i := 10) rfl)
theorem zm_281 : Cond.selects R_Open y_Open_most y_Open_most ∈ wz := zc_9 (List.mem_of_getElem? (i := 11) rfl)
theorem zm_282 : Cond.code y_Open_most b_Open_most 1 (some .int) ∈ wz := zc_9 (List.mem_of_getElem? (i := 12) rfl)
theorem zm_283 : Cond.methodLink R_LF 117 y_Cutter_lexemes ∈ wz := zc_9 (List.mem_of_getElem? (i := 13) rfl)
theorem zm_284 : Cond.instanceMethod y_Cutter_lexemes ∈ wz := zc_9 (List.mem_of_getElem? (i := 14) rfl)
theorem zm_285 : Cond.selects R_Cutter y_Cutter_lexemes y_Cutter_lexemes ∈ wz := zc_9 (List.mem_of_getElem? (i := 15) rfl)
theorem zm_286 : Cond.code y_Cutter_lexemes b_Cutter_lexemes 1 (some (.object "LayoutFront$Lexemes")) ∈ wz := zc_9 (List.mem_of_getElem? (i := 16) rfl)
theorem zm_287 : Cond.methodLink R_LF 143 y_Lexemes_size ∈ wz := zc_9 (List.mem_of_getElem? (i := 17) rfl)
theorem zm_288 : Cond.methodLink R_LF 146 y_Blocks_begun ∈ wz := zc_9 (List.mem_of_getElem? (i := 18) rfl)
theorem zm_289 : Cond.instanceMethod y_Blocks_begun ∈ wz := zc_9 (List.mem_of_getElem? (i := 19) rfl)
theorem zm_290 : Cond.selects R_Blocks y_Blocks_begun y_Blocks_begun ∈ wz := zc_9 (List.mem_of_getElem? (i := 20) rfl)
theorem zm_291 : Cond.code y_Blocks_begun b_Blocks_begun 1 (some .int) ∈ wz := zc_9 (List.mem_of_getElem? (i := 21) rfl)
theorem zm_292 : Cond.methodLink R_LF 149 y_Rows_together ∈ wz := zc_9 (List.mem_of_getElem? (i := 22) rfl)
theorem zm_293 : Cond.instanceMethod y_Rows_together ∈ wz := zc_9 (List.mem_of_getElem? (i := 23) rfl)
theorem zm_294 : Cond.selects R_Rows y_Rows_together y_Rows_together ∈ wz := zc_9 (List.mem_of_getElem? (i := 24) rfl)
theorem zm_295 : Cond.code y_Rows_together b_Rows_together 1 (some .int) ∈ wz := zc_9 (List.mem_of_getElem? (i := 25) rfl)
theorem zm_296 : Cond.methodLink R_LF 152 y_Rows_inConflict ∈ wz := zc_9 (List.mem_of_getElem? (i := 26) rfl)
theorem zm_297 : Cond.instanceMethod y_Rows_inConflict ∈ wz := zc_9 (List.mem_of_getElem? (i := 27) rfl)
theorem zm_298 : Cond.selects R_Rows y_Rows_inConflict y_Rows_inConflict ∈ wz := zc_9 (List.mem_of_getElem? (i := 28) rfl)
theorem zm_299 : Cond.code y_Rows_inConflict b_Rows_inConflict 1 (some .int) ∈ wz := zc_9 (List.mem_of_getElem? (i := 29) rfl)
theorem zm_300 : Cond.methodLink R_LF 155 y_Blocks_mostOpen ∈ wz := zc_10 (List.mem_of_getElem? (i := 0) rfl)
theorem zm_301 : Cond.instanceMethod y_Blocks_mostOpen ∈ wz := zc_10 (List.mem_of_getElem? (i := 1) rfl)
theorem zm_302 : Cond.selects R_Blocks y_Blocks_mostOpen y_Blocks_mostOpen ∈ wz := zc_10 (List.mem_of_getElem? (i := 2) rfl)
theorem zm_303 : Cond.code y_Blocks_mostOpen b_Blocks_mostOpen 1 (some .int) ∈ wz := zc_10 (List.mem_of_getElem? (i := 3) rfl)
theorem zm_304 : Cond.methodLink R_LF 106 y_Tokens_clear ∈ wz := zc_10 (List.mem_of_getElem? (i := 4) rfl)
theorem zm_305 : Cond.methodLink R_LF 107 y_Cutter_cut ∈ wz := zc_10 (List.mem_of_getElem? (i := 5) rfl)
theorem zm_306 : Cond.instanceMethod y_Cutter_cut ∈ wz := zc_10 (List.mem_of_getElem? (i := 6) rfl)
theorem zm_307 : Cond.selects R_Cutter y_Cutter_cut y_Cutter_cut ∈ wz := zc_10 (List.mem_of_getElem? (i := 7) rfl)
theorem zm_308 : Cond.code y_Cutter_cut b_Cutter_cut 3 (some .int) ∈ wz := zc_10 (List.mem_of_getElem? (i := 8) rfl)
theorem zm_309 : Cond.methodLink R_LF 111 y_Cutter_foundTooMany ∈ wz := zc_10 (List.mem_of_getElem? (i := 9) rfl)
theorem zm_310 : Cond.instanceMethod y_Cutter_foundTooMany ∈ wz := zc_10 (List.mem_of_getElem? (i := 10) rfl)
theorem zm_311 : Cond.selects R_Cutter y_Cutter_foundTooMany y_Cutter_foundTooMany ∈ wz := zc_10 (List.mem_of_getElem? (i := 11) rfl)
theorem zm_312 : Cond.code y_Cutter_foundTooMany b_Cutter_foundTooMany 1 (some .boolean) ∈ wz := zc_10 (List.mem_of_getElem? (i := 12) rfl)
theorem zm_313 : Cond.methodLink R_LF 85 y_Text_length ∈ wz := zc_10 (List.mem_of_getElem? (i := 13) rfl)
theorem zm_314 : Cond.methodLink R_LF 121 y_Blocks_lay ∈ wz := zc_10 (List.mem_of_getElem? (i := 14) rfl)
theorem zm_315 : Cond.instanceMethod y_Blocks_lay ∈ wz := zc_10 (List.mem_of_getElem? (i := 15) rfl)
theorem zm_316 : Cond.selects R_Blocks y_Blocks_lay y_Blocks_lay ∈ wz := zc_10 (List.mem_of_getElem? (i := 16) rfl)
theorem zm_317 : Cond.code y_Blocks_lay b_Blocks_lay 8 (some .int) ∈ wz := zc_10 (List.mem_of_getElem? (i := 17) rfl)
theorem zm_318 : Cond.methodLink R_LF 127 y_Blocks_laid ∈ wz := zc_10 (List.mem_of_getElem? (i := 18) rfl)
theorem zm_319 : Cond.instanceMethod y_Blocks_laid ∈ wz := zc_10 (List.mem_of_getElem? (i := 19) rfl)
theorem zm_320 : Cond.selects R_Blocks y_Blocks_laid y_Blocks_laid ∈ wz := zc_10 (List.mem_of_getElem? (i := 20) rfl)
theorem zm_321 : Cond.code y_Blocks_laid b_Blocks_laid 1 (some (.object "LayoutFront$Tokens")) ∈ wz := zc_10 (List.mem_of_getElem? (i := 21) rfl)
theorem zm_322 : Cond.methodLink R_LF 131 y_Rows_putTogether ∈ wz := zc_10 (List.mem_of_getElem? (i := 22) rfl)
theorem zm_323 : Cond.instanceMethod y_Rows_putTogether ∈ wz := zc_10 (List.mem_of_getElem? (i := 23) rfl)
theorem zm_324 : Cond.selects R_Rows y_Rows_putTogether y_Rows_putTogether ∈ wz := zc_10 (List.mem_of_getElem? (i := 24) rfl)
theorem zm_325 : Cond.code y_Rows_putTogether b_Rows_putTogether 4 none ∈ wz := zc_10 (List.mem_of_getElem? (i := 25) rfl)
theorem zm_326 : Cond.methodLink R_LF 135 y_Rows_copyInto ∈ wz := zc_10 (List.mem_of_getElem? (i := 26) rfl)
theorem zm_327 : Cond.instanceMethod y_Rows_copyInto ∈ wz := zc_10 (List.mem_of_getElem? (i := 27) rfl)
theorem zm_328 : Cond.selects R_Rows y_Rows_copyInto y_Rows_copyInto ∈ wz := zc_10 (List.mem_of_getElem? (i := 28) rfl)
theorem zm_329 : Cond.code y_Rows_copyInto b_Rows_copyInto 4 none ∈ wz := zc_10 (List.mem_of_getElem? (i := 29) rfl)
theorem zm_330 : Cond.methodLink R_LF 139 y_LF_keepCounts ∈ wz := zc_11 (List.mem_of_getElem? (i := 0) rfl)
theorem zm_331 : Cond.instanceMethod y_LF_keepCounts ∈ wz := zc_11 (List.mem_of_getElem? (i := 1) rfl)
theorem zm_332 : Cond.selects R_LF y_LF_keepCounts y_LF_keepCounts ∈ wz := zc_11 (List.mem_of_getElem? (i := 2) rfl)
theorem zm_333 : Cond.initialized R_LF ∈ wz := zc_11 (List.mem_of_getElem? (i := 3) rfl)
theorem zm_334 : Cond.code y_LF_keepCounts b_LF_keepCounts 1 none ∈ wz := zc_11 (List.mem_of_getElem? (i := 4) rfl)
theorem zm_335 : Cond.methodLink R_LF 142 y_Tokens_size ∈ wz := zc_11 (List.mem_of_getElem? (i := 5) rfl)
theorem zm_336 : Cond.methodLink R_Model 1 objectInit ∈ wz := zc_11 (List.mem_of_getElem? (i := 6) rfl)
theorem zm_337 : Cond.fieldLink R_Model 7 "LayoutFrontModel" "text" "[I" ∈ wz := zc_11 (List.mem_of_getElem? (i := 7) rfl)
theorem zm_338 : Cond.fieldLink R_Model 13 "LayoutFrontModel" "place" "I" ∈ wz := zc_11 (List.mem_of_getElem? (i := 8) rfl)
theorem zm_339 : Cond.fieldLink R_Model 17 "LayoutFrontModel" "kind" "[I" ∈ wz := zc_11 (List.mem_of_getElem? (i := 9) rfl)
theorem zm_340 : Cond.fieldLink R_Model 20 "LayoutFrontModel" "value" "[J" ∈ wz := zc_11 (List.mem_of_getElem? (i := 10) rfl)
theorem zm_341 : Cond.fieldLink R_Model 24 "LayoutFrontModel" "where" "[I" ∈ wz := zc_11 (List.mem_of_getElem? (i := 11) rfl)
theorem zm_342 : Cond.fieldLink R_Model 27 "LayoutFrontModel" "column" "[I" ∈ wz := zc_11 (List.mem_of_getElem? (i := 12) rfl)
theorem zm_343 : Cond.fieldLink R_Model 30 "LayoutFrontModel" "leads" "[Z" ∈ wz := zc_11 (List.mem_of_getElem? (i := 13) rfl)
theorem zm_344 : Cond.fieldLink R_Model 34 "LayoutFrontModel" "row" "[I" ∈ wz := zc_11 (List.mem_of_getElem? (i := 14) rfl)
theorem zm_345 : Cond.fieldLink R_Model 37 "LayoutFrontModel" "sort" "[I" ∈ wz := zc_11 (List.mem_of_getElem? (i := 15) rfl)
theorem zm_346 : Cond.fieldLink R_Model 40 "LayoutFrontModel" "is" "[J" ∈ wz := zc_11 (List.mem_of_getElem? (i := 16) rfl)
theorem zm_347 : Cond.fieldLink R_Model 43 "LayoutFrontModel" "before" "[I" ∈ wz := zc_11 (List.mem_of_getElem? (i := 17) rfl)
theorem zm_348 : Cond.fieldLink R_Model 46 "LayoutFrontModel" "behind" "[I" ∈ wz := zc_11 (List.mem_of_getElem? (i := 18) rfl)
theorem zm_349 : Cond.fieldLink R_Model 49 "LayoutFrontModel" "partner" "[I" ∈ wz := zc_11 (List.mem_of_getElem? (i := 19) rfl)
theorem zm_350 : Cond.fieldLink R_Model 52 "LayoutFrontModel" "done" "[Z" ∈ wz := zc_11 (List.mem_of_getElem? (i := 20) rfl)
theorem zm_351 : Cond.fieldLink R_Model 55 "LayoutFrontModel" "kinds" "[I" ∈ wz := zc_11 (List.mem_of_getElem? (i := 21) rfl)
theorem zm_352 : Cond.fieldLink R_Model 58 "LayoutFrontModel" "values" "[J" ∈ wz := zc_11 (List.mem_of_getElem? (i := 22) rfl)
theorem zm_353 : Cond.fieldLink R_Model 61 "LayoutFrontModel" "names" "[J" ∈ wz := zc_11 (List.mem_of_getElem? (i := 23) rfl)
theorem zm_354 : Cond.fieldLink R_Model 64 "LayoutFrontModel" "sides" "[I" ∈ wz := zc_11 (List.mem_of_getElem? (i := 24) rfl)
theorem zm_355 : Cond.fieldLink R_Model 67 "LayoutFrontModel" "levels" "[I" ∈ wz := zc_11 (List.mem_of_getElem? (i := 25) rfl)
theorem zm_356 : Cond.fieldLink R_Model 70 "LayoutFrontModel" "from" "[I" ∈ wz := zc_11 (List.mem_of_getElem? (i := 26) rfl)
theorem zm_357 : Cond.fieldLink R_Model 73 "LayoutFrontModel" "to" "[I" ∈ wz := zc_11 (List.mem_of_getElem? (i := 27) rfl)
theorem zm_358 : Cond.fieldLink R_Model 76 "LayoutFrontModel" "what" "[I" ∈ wz := zc_11 (List.mem_of_getElem? (i := 28) rfl)
theorem zm_359 : Cond.fieldLink R_Model 79 "LayoutFrontModel" "left" "[I" ∈ wz := zc_11 (List.mem_of_getElem? (i := 29) rfl)
theorem zm_360 : Cond.fieldLink R_Model 82 "LayoutFrontModel" "right" "[I" ∈ wz := zc_12 (List.mem_of_getElem? (i := 0) rfl)
theorem zm_361 : Cond.fieldLink R_Model 85 "LayoutFrontModel" "waits" "[I" ∈ wz := zc_12 (List.mem_of_getElem? (i := 1) rfl)
theorem zm_362 : Cond.fieldLink R_Model 88 "LayoutFrontModel" "opens" "[I" ∈ wz := zc_12 (List.mem_of_getElem? (i := 2) rfl)
theorem zm_363 : Cond.fieldLink R_Model 91 "LayoutFrontModel" "closes" "[I" ∈ wz := zc_12 (List.mem_of_getElem? (i := 3) rfl)
theorem zm_364 : Cond.fieldLink R_Model 94 "LayoutFrontModel" "waitsFor" "[I" ∈ wz := zc_12 (List.mem_of_getElem? (i := 4) rfl)
theorem zm_365 : Cond.fieldLink R_Model 120 "LayoutFrontModel" "at" "I" ∈ wz := zc_12 (List.mem_of_getElem? (i := 5) rfl)
theorem zm_366 : Cond.fieldLink R_Model 144 "LayoutFrontModel" "lexemes" "I" ∈ wz := zc_12 (List.mem_of_getElem? (i := 6) rfl)
theorem zm_367 : Cond.fieldLink R_Model 110 "LayoutFrontModel" "length" "I" ∈ wz := zc_12 (List.mem_of_getElem? (i := 7) rfl)
theorem zm_368 : Cond.fieldLink R_Model 188 "LayoutFrontModel" "tokens" "I" ∈ wz := zc_12 (List.mem_of_getElem? (i := 8) rfl)
theorem zm_369 : Cond.fieldLink R_Model 191 "LayoutFrontModel" "open" "I" ∈ wz := zc_12 (List.mem_of_getElem? (i := 9) rfl)
theorem zm_370 : Cond.constantLong R_Model 238 123 ∈ wz := zc_12 (List.mem_of_getElem? (i := 10) rfl)
theorem zm_371 : Cond.methodLink R_Model 208 y_Model_emit ∈ wz := zc_12 (List.mem_of_getElem? (i := 11) rfl)
theorem zm_372 : Cond.instanceMethod y_Model_emit ∈ wz := zc_12 (List.mem_of_getElem? (i := 12) rfl)
theorem zm_373 : Cond.selects R_Model y_Model_emit y_Model_emit ∈ wz := zc_12 (List.mem_of_getElem? (i := 13) rfl)
theorem zm_374 : Cond.initialized R_Model ∈ wz := zc_12 (List.mem_of_getElem? (i := 14) rfl)
theorem zm_375 : Cond.code y_Model_emit b_Model_emit 4 none ∈ wz := zc_12 (List.mem_of_getElem? (i := 15) rfl)
theorem zm_376 : Cond.fieldLink R_Model 240 "LayoutFrontModel" "blocks" "I" ∈ wz := zc_12 (List.mem_of_getElem? (i := 16) rfl)
theorem zm_377 : Cond.constantLong R_Model 206 125 ∈ wz := zc_12 (List.mem_of_getElem? (i := 17) rfl)
theorem zm_378 : Cond.methodLink R_Model 197 y_Model_top ∈ wz := zc_12 (List.mem_of_getElem? (i := 18) rfl)
theorem zm_379 : Cond.instanceMethod y_Model_top ∈ wz := zc_12 (List.mem_of_getElem? (i := 19) rfl)
theorem zm_380 : Cond.selects R_Model y_Model_top y_Model_top ∈ wz := zc_12 (List.mem_of_getElem? (i := 20) rfl)
theorem zm_381 : Cond.code y_Model_top b_Model_top 1 (some .int) ∈ wz := zc_12 (List.mem_of_getElem? (i := 21) rfl)
theorem zm_382 : Cond.fieldLink R_Model 194 "LayoutFrontModel" "highest" "I" ∈ wz := zc_12 (List.mem_of_getElem? (i := 22) rfl)
theorem zm_383 : Cond.fieldLink R_Model 123 "LayoutFrontModel" "bad" "I" ∈ wz := zc_12 (List.mem_of_getElem? (i := 23) rfl)
theorem zm_384 : Cond.methodLink R_Model 246 y_Model_begins ∈ wz := zc_12 (List.mem_of_getElem? (i := 24) rfl)
theorem zm_385 : Cond.instanceMethod y_Model_begins ∈ wz := zc_12 (List.mem_of_getElem? (i := 25) rfl)
theorem zm_386 : Cond.selects R_Model y_Model_begins y_Model_begins ∈ wz := zc_12 (List.mem_of_getElem? (i := 26) rfl)
theorem zm_387 : Cond.code y_Model_begins b_Model_begins 3 (some .boolean) ∈ wz := zc_12 (List.mem_of_getElem? (i := 27) rfl)
theorem zm_388 : Cond.methodLink R_Model 249 y_Model_begin ∈ wz := zc_12 (List.mem_of_getElem? (i := 28) rfl)
theorem zm_389 : Cond.instanceMethod y_Model_begin ∈ wz := zc_12 (List.mem_of_getElem? (i := 29) rfl)
theorem zm_390 : Cond.selects R_Model y_Model_begin y_Model_begin ∈ wz := zc_13 (List.mem_of_getElem? (i := 0) rfl)
theorem zm_391 : Cond.code y_Model_begin b_Model_begin 4 none ∈ wz := zc_13 (List.mem_of_getElem? (i := 1) rfl)
theorem zm_392 : Cond.methodLink R_Model 214 y_Model_leave ∈ wz := zc_13 (List.mem_of_getElem? (i := 2) rfl)
theorem zm_393 : Cond.instanceMethod y_Model_leave ∈ wz := zc_13 (List.mem_of_getElem? (i := 3) rfl)
theorem zm_394 : Cond.selects R_Model y_Model_leave y_Model_leave ∈ wz := zc_13 (List.mem_of_getElem? (i := 4) rfl)
theorem zm_395 : Cond.code y_Model_leave b_Model_leave 2 none ∈ wz := zc_13 (List.mem_of_getElem? (i := 5) rfl)
theorem zm_396 : Cond.methodLink R_Model 284 y_Model_plainName ∈ wz := zc_13 (List.mem_of_getElem? (i := 6) rfl)
theorem zm_397 : Cond.instanceMethod y_Model_plainName ∈ wz := zc_13 (List.mem_of_getElem? (i := 7) rfl)
theorem zm_398 : Cond.selects R_Model y_Model_plainName y_Model_plainName ∈ wz := zc_13 (List.mem_of_getElem? (i := 8) rfl)
theorem zm_399 : Cond.code y_Model_plainName b_Model_plainName 2 (some .boolean) ∈ wz := zc_13 (List.mem_of_getElem? (i := 9) rfl)
theorem zm_400 : Cond.methodLink R_Model 290 y_Model_tick ∈ wz := zc_13 (List.mem_of_getElem? (i := 10) rfl)
theorem zm_401 : Cond.instanceMethod y_Model_tick ∈ wz := zc_13 (List.mem_of_getElem? (i := 11) rfl)
theorem zm_402 : Cond.selects R_Model y_Model_tick y_Model_tick ∈ wz := zc_13 (List.mem_of_getElem? (i := 12) rfl)
theorem zm_403 : Cond.code y_Model_tick b_Model_tick 2 (some .boolean) ∈ wz := zc_13 (List.mem_of_getElem? (i := 13) rfl)
theorem zm_404 : Cond.fieldLink R_Model 337 "LayoutFrontModel" "rows" "I" ∈ wz := zc_13 (List.mem_of_getElem? (i := 14) rfl)
theorem zm_405 : Cond.fieldLink R_Model 334 "LayoutFrontModel" "conflicts" "I" ∈ wz := zc_13 (List.mem_of_getElem? (i := 15) rfl)
theorem zm_406 : Cond.methodLink R_Model 340 y_Model_partners ∈ wz := zc_13 (List.mem_of_getElem? (i := 16) rfl)
theorem zm_407 : Cond.instanceMethod y_Model_partners ∈ wz := zc_13 (List.mem_of_getElem? (i := 17) rfl)
theorem zm_408 : Cond.selects R_Model y_Model_partners y_Model_partners ∈ wz := zc_13 (List.mem_of_getElem? (i := 18) rfl)
theorem zm_409 : Cond.code y_Model_partners b_Model_partners 5 none ∈ wz := zc_13 (List.mem_of_getElem? (i := 19) rfl)
theorem zm_410 : Cond.methodLink R_Model 298 y_Model_extent ∈ wz := zc_13 (List.mem_of_getElem? (i := 20) rfl)
theorem zm_411 : Cond.instanceMethod y_Model_extent ∈ wz := zc_13 (List.mem_of_getElem? (i := 21) rfl)
theorem zm_412 : Cond.selects R_Model y_Model_extent y_Model_extent ∈ wz := zc_13 (List.mem_of_getElem? (i := 22) rfl)
theorem zm_413 : Cond.code y_Model_extent b_Model_extent 2 (some .int) ∈ wz := zc_13 (List.mem_of_getElem? (i := 23) rfl)
theorem zm_414 : Cond.fieldLink R_Model 353 "LayoutFrontModel" "all" "I" ∈ wz := zc_13 (List.mem_of_getElem? (i := 24) rfl)
theorem zm_415 : Cond.fieldLink R_Model 97 "LayoutFrontModel" "thrown" "I" ∈ wz := zc_13 (List.mem_of_getElem? (i := 25) rfl)
theorem zm_416 : Cond.methodLink R_Model 356 y_Model_cut ∈ wz := zc_13 (List.mem_of_getElem? (i := 26) rfl)
theorem zm_417 : Cond.instanceMethod y_Model_cut ∈ wz := zc_13 (List.mem_of_getElem? (i := 27) rfl)
theorem zm_418 : Cond.selects R_Model y_Model_cut y_Model_cut ∈ wz := zc_13 (List.mem_of_getElem? (i := 28) rfl)
theorem zm_419 : Cond.code y_Model_cut b_Model_cut 2 none ∈ wz := zc_13 (List.mem_of_getElem? (i := 29) rfl)
theorem zm_420 : Cond.methodLink R_Model 359 y_Model_lay ∈ wz := zc_14 (List.mem_of_getElem? (i := 0) rfl)
theorem zm_421 : Cond.instanceMethod y_Model_lay ∈ wz := zc_14 (List.mem_of_getElem? (i := 1) rfl)
theorem zm_422 : Cond.selects R_Model y_Model_lay y_Model_lay ∈ wz := zc_14 (List.mem_of_getElem? (i := 2) rfl)
theorem zm_423 : Cond.code y_Model_lay b_Model_lay 2 none ∈ wz := zc_14 (List.mem_of_getElem? (i := 3) rfl)
theorem zm_424 : Cond.methodLink R_Model 362 y_Model_around ∈ wz := zc_14 (List.mem_of_getElem? (i := 4) rfl)
theorem zm_425 : Cond.instanceMethod y_Model_around ∈ wz := zc_14 (List.mem_of_getElem? (i := 5) rfl)
theorem zm_426 : Cond.selects R_Model y_Model_around y_Model_around ∈ wz := zc_14 (List.mem_of_getElem? (i := 6) rfl)
theorem zm_427 : Cond.code y_Model_around b_Model_around 2 none ∈ wz := zc_14 (List.mem_of_getElem? (i := 7) rfl)
theorem zm_428 : Cond.methodLink R_Model 365 y_Model_add ∈ wz := zc_14 (List.mem_of_getElem? (i := 8) rfl)
theorem zm_429 : Cond.instanceMethod y_Model_add ∈ wz := zc_14 (List.mem_of_getElem? (i := 9) rfl)
theorem zm_430 : Cond.selects R_Model y_Model_add y_Model_add ∈ wz := zc_14 (List.mem_of_getElem? (i := 10) rfl)
theorem zm_431 : Cond.code y_Model_add b_Model_add 4 none ∈ wz := zc_14 (List.mem_of_getElem? (i := 11) rfl)
theorem zm_432 : Cond.fieldLink R_Model 368 "LayoutFrontModel" "told" "I" ∈ wz := zc_14 (List.mem_of_getElem? (i := 12) rfl)
theorem zm_433 : Cond.fieldLink R_Model 371 "LayoutFrontModel" "toldBlocks" "I" ∈ wz := zc_14 (List.mem_of_getElem? (i := 13) rfl)
theorem zm_434 : Cond.fieldLink R_Model 374 "LayoutFrontModel" "toldRows" "I" ∈ wz := zc_14 (List.mem_of_getElem? (i := 14) rfl)
theorem zm_435 : Cond.fieldLink R_Model 377 "LayoutFrontModel" "toldConflicts" "I" ∈ wz := zc_14 (List.mem_of_getElem? (i := 15) rfl)
theorem zm_436 : Cond.fieldLink R_Model 380 "LayoutFrontModel" "toldHighest" "I" ∈ wz := zc_14 (List.mem_of_getElem? (i := 16) rfl)
theorem zm_437 : Cond.methodLink R_LF 89 y_Text_clear ∈ wz := zc_14 (List.mem_of_getElem? (i := 17) rfl)
theorem zm_438 : Cond.instanceMethod y_Text_clear ∈ wz := zc_14 (List.mem_of_getElem? (i := 18) rfl)
theorem zm_439 : Cond.selects R_Text y_Text_clear y_Text_clear ∈ wz := zc_14 (List.mem_of_getElem? (i := 19) rfl)
theorem zm_440 : Cond.code y_Text_clear b_Text_clear 1 none ∈ wz := zc_14 (List.mem_of_getElem? (i := 20) rfl)
theorem zm_441 : Cond.methodLink R_Law 21 y_LF_read ∈ wz := zc_14 (List.mem_of_getElem? (i := 21) rfl)
theorem zm_442 : Cond.instanceMethod y_LF_read ∈ wz := zc_14 (List.mem_of_getElem? (i := 22) rfl)
theorem zm_443 : Cond.selects R_LF y_LF_read y_LF_read ∈ wz := zc_14 (List.mem_of_getElem? (i := 23) rfl)
theorem zm_444 : Cond.code y_LF_read b_LF_read 1 (some .int) ∈ wz := zc_14 (List.mem_of_getElem? (i := 24) rfl)
theorem zm_445 : Cond.methodLink R_Law 35 y_LF_count ∈ wz := zc_14 (List.mem_of_getElem? (i := 25) rfl)
theorem zm_446 : Cond.instanceMethod y_LF_count ∈ wz := zc_14 (List.mem_of_getElem? (i := 26) rfl)
theorem zm_447 : Cond.selects R_LF y_LF_count y_LF_count ∈ wz := zc_14 (List.mem_of_getElem? (i := 27) rfl)
theorem zm_448 : Cond.code y_LF_count b_LF_count 2 (some .int) ∈ wz := zc_14 (List.mem_of_getElem? (i := 28) rfl)
theorem zm_449 : Cond.methodLink R_Model 100 y_Model_within ∈ wz := zc_14 (List.mem_of_getElem? (i := 29) rfl)
theorem zm_450 : Cond.static y_Model_within ∈ wz := zc_15 (List.mem_of_getElem? (i := 0) rfl)
theorem zm_451 : Cond.code y_Model_within b_Model_within 3 (some .boolean) ∈ wz := zc_15 (List.mem_of_getElem? (i := 1) rfl)
theorem zm_452 : Cond.methodLink R_Model 104 y_Model_fail ∈ wz := zc_15 (List.mem_of_getElem? (i := 2) rfl)
theorem zm_453 : Cond.instanceMethod y_Model_fail ∈ wz := zc_15 (List.mem_of_getElem? (i := 3) rfl)
theorem zm_454 : Cond.selects R_Model y_Model_fail y_Model_fail ∈ wz := zc_15 (List.mem_of_getElem? (i := 4) rfl)
theorem zm_455 : Cond.code y_Model_fail b_Model_fail 2 (some .int) ∈ wz := zc_15 (List.mem_of_getElem? (i := 5) rfl)
theorem zm_456 : Cond.fieldLink R_Fixities 22 "LayoutFront$Fixities" "size" "I" ∈ wz := zc_15 (List.mem_of_getElem? (i := 6) rfl)
theorem zm_457 : Cond.methodLink R_Fixities 26 y_Fixities_find ∈ wz := zc_15 (List.mem_of_getElem? (i := 7) rfl)
theorem zm_458 : Cond.instanceMethod y_Fixities_find ∈ wz := zc_15 (List.mem_of_getElem? (i := 8) rfl)
theorem zm_459 : Cond.selects R_Fixities y_Fixities_find y_Fixities_find ∈ wz := zc_15 (List.mem_of_getElem? (i := 9) rfl)
theorem zm_460 : Cond.code y_Fixities_find b_Fixities_find 4 (some .int) ∈ wz := zc_15 (List.mem_of_getElem? (i := 10) rfl)
theorem zm_461 : Cond.methodLink R_Fixities 30 Lib.Math.max.name ∈ wz := zc_15 (List.mem_of_getElem? (i := 11) rfl)
theorem zm_462 : Cond.static Lib.Math.max.name ∈ wz := zc_15 (List.mem_of_getElem? (i := 12) rfl)
theorem zm_463 : Cond.initialized "java/lang/Math" ∈ wz := zc_15 (List.mem_of_getElem? (i := 13) rfl)
theorem zm_464 : Cond.code Lib.Math.max.name Lib.Math.max.code 2 (some .int) ∈ wz := zc_15 (List.mem_of_getElem? (i := 14) rfl)
theorem zm_465 : Cond.methodLink R_LF 94 y_Fixities_hasRoomFor ∈ wz := zc_15 (List.mem_of_getElem? (i := 15) rfl)
theorem zm_466 : Cond.instanceMethod y_Fixities_hasRoomFor ∈ wz := zc_15 (List.mem_of_getElem? (i := 16) rfl)
theorem zm_467 : Cond.selects R_Fixities y_Fixities_hasRoomFor y_Fixities_hasRoomFor ∈ wz := zc_15 (List.mem_of_getElem? (i := 17) rfl)
theorem zm_468 : Cond.code y_Fixities_hasRoomFor b_Fixities_hasRoomFor 3 (some .boolean) ∈ wz := zc_15 (List.mem_of_getElem? (i := 18) rfl)
theorem zm_469 : Cond.methodLink R_LF 99 y_Fixities_set ∈ wz := zc_15 (List.mem_of_getElem? (i := 19) rfl)
theorem zm_470 : Cond.instanceMethod y_Fixities_set ∈ wz := zc_15 (List.mem_of_getElem? (i := 20) rfl)
theorem zm_471 : Cond.selects R_Fixities y_Fixities_set y_Fixities_set ∈ wz := zc_15 (List.mem_of_getElem? (i := 21) rfl)
theorem zm_472 : Cond.code y_Fixities_set b_Fixities_set 6 none ∈ wz := zc_15 (List.mem_of_getElem? (i := 22) rfl)
theorem zm_473 : Cond.methodLink R_LF 103 y_Fixities_size ∈ wz := zc_15 (List.mem_of_getElem? (i := 23) rfl)
theorem zm_474 : Cond.instanceMethod y_Fixities_size ∈ wz := zc_15 (List.mem_of_getElem? (i := 24) rfl)
theorem zm_475 : Cond.selects R_Fixities y_Fixities_size y_Fixities_size ∈ wz := zc_15 (List.mem_of_getElem? (i := 25) rfl)
theorem zm_476 : Cond.code y_Fixities_size b_Fixities_size 1 (some .int) ∈ wz := zc_15 (List.mem_of_getElem? (i := 26) rfl)
theorem zm_477 : Cond.methodLink R_Law 17 y_LF_fixity ∈ wz := zc_15 (List.mem_of_getElem? (i := 27) rfl)
theorem zm_478 : Cond.instanceMethod y_LF_fixity ∈ wz := zc_15 (List.mem_of_getElem? (i := 28) rfl)
theorem zm_479 : Cond.selects R_LF y_LF_fixity y_LF_fixity ∈ wz := zc_15 (List.mem_of_getElem? (i := 29) rfl)
theorem zm_480 : Cond.code y_LF_fixity b_LF_fixity 5 (some .int) ∈ wz := zc_16 (List.mem_of_getElem? (i := 0) rfl)
theorem zm_481 : Cond.fieldLink R_Model 113 "LayoutFrontModel" "set" "I" ∈ wz := zc_16 (List.mem_of_getElem? (i := 1) rfl)
theorem zm_482 : Cond.methodLink R_Model 116 y_Model_find ∈ wz := zc_16 (List.mem_of_getElem? (i := 2) rfl)
theorem zm_483 : Cond.instanceMethod y_Model_find ∈ wz := zc_16 (List.mem_of_getElem? (i := 3) rfl)
theorem zm_484 : Cond.selects R_Model y_Model_find y_Model_find ∈ wz := zc_16 (List.mem_of_getElem? (i := 4) rfl)
theorem zm_485 : Cond.code y_Model_find b_Model_find 5 (some .int) ∈ wz := zc_16 (List.mem_of_getElem? (i := 5) rfl)
theorem zm_486 : Cond.methodLink R_LF 158 y_Tokens_has ∈ wz := zc_16 (List.mem_of_getElem? (i := 6) rfl)
theorem zm_487 : Cond.classLink R_LF 161 xIOB ∈ wz := zc_16 (List.mem_of_getElem? (i := 7) rfl)
theorem zm_488 : Cond.instantiable xIOB 6 ∈ wz := zc_16 (List.mem_of_getElem? (i := 8) rfl)
theorem zm_489 : Cond.initialized xIOB ∈ wz := zc_16 (List.mem_of_getElem? (i := 9) rfl)
theorem zm_490 : Cond.classLink R_LF 65 xIAE ∈ wz := zc_16 (List.mem_of_getElem? (i := 10) rfl)
theorem zm_491 : Cond.instantiable xIAE 6 ∈ wz := zc_16 (List.mem_of_getElem? (i := 11) rfl)
theorem zm_492 : Cond.initialized xIAE ∈ wz := zc_16 (List.mem_of_getElem? (i := 12) rfl)
theorem zm_493 : Cond.methodLink R_Law 25 y_LF_kind ∈ wz := zc_16 (List.mem_of_getElem? (i := 13) rfl)
theorem zm_494 : Cond.instanceMethod y_LF_kind ∈ wz := zc_16 (List.mem_of_getElem? (i := 14) rfl)
theorem zm_495 : Cond.selects R_LF y_LF_kind y_LF_kind ∈ wz := zc_16 (List.mem_of_getElem? (i := 15) rfl)
theorem zm_496 : Cond.code y_LF_kind b_LF_kind 2 (some .int) ∈ wz := zc_16 (List.mem_of_getElem? (i := 16) rfl)
theorem zm_497 : Cond.classLink R_Law 29 xIOB ∈ wz := zc_16 (List.mem_of_getElem? (i := 17) rfl)
theorem zm_498 : Cond.methodLink R_Law 31 y_LF_token ∈ wz := zc_16 (List.mem_of_getElem? (i := 18) rfl)
theorem zm_499 : Cond.instanceMethod y_LF_token ∈ wz := zc_16 (List.mem_of_getElem? (i := 19) rfl)
theorem zm_500 : Cond.selects R_LF y_LF_token y_LF_token ∈ wz := zc_16 (List.mem_of_getElem? (i := 20) rfl)
theorem zm_501 : Cond.code y_LF_token b_LF_token 2 (some .long) ∈ wz := zc_16 (List.mem_of_getElem? (i := 21) rfl)
theorem zm_502 : Cond.classLink R_Law 13 xIAE ∈ wz := zc_16 (List.mem_of_getElem? (i := 22) rfl)
theorem zm_503 : Cond.methodLink R_LF 61 y_Text_areCharacters ∈ wz := zc_16 (List.mem_of_getElem? (i := 23) rfl)
theorem zm_504 : Cond.static y_Text_areCharacters ∈ wz := zc_16 (List.mem_of_getElem? (i := 24) rfl)
theorem zm_505 : Cond.code y_Text_areCharacters b_Text_areCharacters 5 (some .boolean) ∈ wz := zc_16 (List.mem_of_getElem? (i := 25) rfl)
theorem zm_506 : Cond.methodLink R_LF 72 y_Text_hasRoomFor ∈ wz := zc_16 (List.mem_of_getElem? (i := 26) rfl)
theorem zm_507 : Cond.instanceMethod y_Text_hasRoomFor ∈ wz := zc_16 (List.mem_of_getElem? (i := 27) rfl)
theorem zm_508 : Cond.selects R_Text y_Text_hasRoomFor y_Text_hasRoomFor ∈ wz := zc_16 (List.mem_of_getElem? (i := 28) rfl)
theorem zm_509 : Cond.code y_Text_hasRoomFor b_Text_hasRoomFor 2 (some .boolean) ∈ wz := zc_16 (List.mem_of_getElem? (i := 29) rfl)
theorem zm_510 : Cond.methodLink R_LF 81 y_Text_append ∈ wz := zc_17 (List.mem_of_getElem? (i := 0) rfl)
theorem zm_511 : Cond.instanceMethod y_Text_append ∈ wz := zc_17 (List.mem_of_getElem? (i := 1) rfl)
theorem zm_512 : Cond.selects R_Text y_Text_append y_Text_append ∈ wz := zc_17 (List.mem_of_getElem? (i := 2) rfl)
theorem zm_513 : Cond.code y_Text_append b_Text_append 5 none ∈ wz := zc_17 (List.mem_of_getElem? (i := 3) rfl)
theorem zm_514 : Cond.methodLink R_Text 15 y_Text_byteOf ∈ wz := zc_17 (List.mem_of_getElem? (i := 4) rfl)
theorem zm_515 : Cond.static y_Text_byteOf ∈ wz := zc_17 (List.mem_of_getElem? (i := 5) rfl)
theorem zm_516 : Cond.code y_Text_byteOf b_Text_byteOf 3 (some .int) ∈ wz := zc_17 (List.mem_of_getElem? (i := 6) rfl)
theorem zm_517 : Cond.constantLong R_Model 108 255 ∈ wz := zc_17 (List.mem_of_getElem? (i := 7) rfl)
theorem zm_518 : Cond.methodLink R_Law 7 y_LF_write ∈ wz := zc_17 (List.mem_of_getElem? (i := 8) rfl)
theorem zm_519 : Cond.instanceMethod y_LF_write ∈ wz := zc_17 (List.mem_of_getElem? (i := 9) rfl)
theorem zm_520 : Cond.selects R_LF y_LF_write y_LF_write ∈ wz := zc_17 (List.mem_of_getElem? (i := 10) rfl)
theorem zm_521 : Cond.code y_LF_write b_LF_write 4 (some .int) ∈ wz := zc_17 (List.mem_of_getElem? (i := 11) rfl)
theorem zm_522 : Cond.classLink R_Law 8 R_LF ∈ wz := zc_17 (List.mem_of_getElem? (i := 12) rfl)
theorem zm_523 : Cond.instantiable R_LF 8 ∈ wz := zc_17 (List.mem_of_getElem? (i := 13) rfl)
theorem zm_524 : Cond.methodLink R_Law 38 y_LF_init ∈ wz := zc_17 (List.mem_of_getElem? (i := 14) rfl)
theorem zm_525 : Cond.instanceMethod y_LF_init ∈ wz := zc_17 (List.mem_of_getElem? (i := 15) rfl)
theorem zm_526 : Cond.code y_LF_init b_LF_init 1 none ∈ wz := zc_17 (List.mem_of_getElem? (i := 16) rfl)
theorem zm_527 : Cond.classLink R_Law 39 R_Model ∈ wz := zc_17 (List.mem_of_getElem? (i := 17) rfl)
theorem zm_528 : Cond.instantiable R_Model 50 ∈ wz := zc_17 (List.mem_of_getElem? (i := 18) rfl)
theorem zm_529 : Cond.methodLink R_Law 41 y_Model_init ∈ wz := zc_17 (List.mem_of_getElem? (i := 19) rfl)
theorem zm_530 : Cond.instanceMethod y_Model_init ∈ wz := zc_17 (List.mem_of_getElem? (i := 20) rfl)
theorem zm_531 : Cond.code y_Model_init b_Model_init 1 none ∈ wz := zc_17 (List.mem_of_getElem? (i := 21) rfl)
theorem zm_532 : Cond.constantLong R_Law 42 4294967295 ∈ wz := zc_17 (List.mem_of_getElem? (i := 22) rfl)
theorem zm_533 : Cond.methodLink R_Law 44 y_Law_write ∈ wz := zc_17 (List.mem_of_getElem? (i := 23) rfl)
theorem zm_534 : Cond.static y_Law_write ∈ wz := zc_17 (List.mem_of_getElem? (i := 24) rfl)
theorem zm_535 : Cond.initialized R_Law ∈ wz := zc_17 (List.mem_of_getElem? (i := 25) rfl)
theorem zm_536 : Cond.codeWith y_Law_write b_Law_write 6 (some .int) [(0, 11, 14, 13), (0, 11, 18, 15)] ∈ wz := zc_17 (List.mem_of_getElem? (i := 26) rfl)
theorem zm_537 : Cond.methodLink R_Law 49 y_Model_write ∈ wz := zc_17 (List.mem_of_getElem? (i := 27) rfl)
theorem zm_538 : Cond.instanceMethod y_Model_write ∈ wz := zc_17 (List.mem_of_getElem? (i := 28) rfl)
theorem zm_539 : Cond.selects R_Model y_Model_write y_Model_write ∈ wz := zc_17 (List.mem_of_getElem? (i := 29) rfl)
theorem zm_540 : Cond.code y_Model_write b_Model_write 7 (some .int) ∈ wz := zc_18 (List.mem_of_getElem? (i := 0) rfl)
theorem zm_541 : Cond.methodLink R_Law 50 y_Model_thrown ∈ wz := zc_18 (List.mem_of_getElem? (i := 1) rfl)
theorem zm_542 : Cond.instanceMethod y_Model_thrown ∈ wz := zc_18 (List.mem_of_getElem? (i := 2) rfl)
theorem zm_543 : Cond.selects R_Model y_Model_thrown y_Model_thrown ∈ wz := zc_18 (List.mem_of_getElem? (i := 3) rfl)
theorem zm_544 : Cond.code y_Model_thrown b_Model_thrown 1 (some .int) ∈ wz := zc_18 (List.mem_of_getElem? (i := 4) rfl)
theorem zm_545 : Cond.methodLink R_Law 53 y_LF_erase ∈ wz := zc_18 (List.mem_of_getElem? (i := 5) rfl)
theorem zm_546 : Cond.instanceMethod y_LF_erase ∈ wz := zc_18 (List.mem_of_getElem? (i := 6) rfl)
theorem zm_547 : Cond.selects R_LF y_LF_erase y_LF_erase ∈ wz := zc_18 (List.mem_of_getElem? (i := 7) rfl)
theorem zm_548 : Cond.code y_LF_erase b_LF_erase 2 (some .int) ∈ wz := zc_18 (List.mem_of_getElem? (i := 8) rfl)
theorem zm_549 : Cond.methodLink R_Law 56 y_Model_erase ∈ wz := zc_18 (List.mem_of_getElem? (i := 9) rfl)
theorem zm_550 : Cond.instanceMethod y_Model_erase ∈ wz := zc_18 (List.mem_of_getElem? (i := 10) rfl)
theorem zm_551 : Cond.selects R_Model y_Model_erase y_Model_erase ∈ wz := zc_18 (List.mem_of_getElem? (i := 11) rfl)
theorem zm_552 : Cond.code y_Model_erase b_Model_erase 2 (some .int) ∈ wz := zc_18 (List.mem_of_getElem? (i := 12) rfl)
theorem zm_553 : Cond.methodLink R_Law 57 y_Law_fixity ∈ wz := zc_18 (List.mem_of_getElem? (i := 13) rfl)
theorem zm_554 : Cond.static y_Law_fixity ∈ wz := zc_18 (List.mem_of_getElem? (i := 14) rfl)
theorem zm_555 : Cond.codeWith y_Law_fixity b_Law_fixity 7 (some .int) [(0, 13, 16, 13), (0, 13, 20, 15)] ∈ wz := zc_18 (List.mem_of_getElem? (i := 15) rfl)
theorem zm_556 : Cond.methodLink R_Law 60 y_Model_fixity ∈ wz := zc_18 (List.mem_of_getElem? (i := 16) rfl)
theorem zm_557 : Cond.instanceMethod y_Model_fixity ∈ wz := zc_18 (List.mem_of_getElem? (i := 17) rfl)
theorem zm_558 : Cond.selects R_Model y_Model_fixity y_Model_fixity ∈ wz := zc_18 (List.mem_of_getElem? (i := 18) rfl)
theorem zm_559 : Cond.code y_Model_fixity b_Model_fixity 6 (some .int) ∈ wz := zc_18 (List.mem_of_getElem? (i := 19) rfl)
theorem zm_560 : Cond.methodLink R_Law 61 y_Law_read ∈ wz := zc_18 (List.mem_of_getElem? (i := 20) rfl)
theorem zm_561 : Cond.static y_Law_read ∈ wz := zc_18 (List.mem_of_getElem? (i := 21) rfl)
theorem zm_562 : Cond.codeWith y_Law_read b_Law_read 3 (some .int) [(0, 8, 11, 13), (0, 8, 14, 15)] ∈ wz := zc_18 (List.mem_of_getElem? (i := 22) rfl)
theorem zm_563 : Cond.methodLink R_Law 64 y_Model_read ∈ wz := zc_18 (List.mem_of_getElem? (i := 23) rfl)
theorem zm_564 : Cond.instanceMethod y_Model_read ∈ wz := zc_18 (List.mem_of_getElem? (i := 24) rfl)
theorem zm_565 : Cond.selects R_Model y_Model_read y_Model_read ∈ wz := zc_18 (List.mem_of_getElem? (i := 25) rfl)
theorem zm_566 : Cond.code y_Model_read b_Model_read 3 (some .int) ∈ wz := zc_18 (List.mem_of_getElem? (i := 26) rfl)
theorem zm_567 : Cond.methodLink R_Law 65 y_LF_place ∈ wz := zc_18 (List.mem_of_getElem? (i := 27) rfl)
theorem zm_568 : Cond.instanceMethod y_LF_place ∈ wz := zc_18 (List.mem_of_getElem? (i := 28) rfl)
theorem zm_569 : Cond.selects R_LF y_LF_place y_LF_place ∈ wz := zc_18 (List.mem_of_getElem? (i := 29) rfl)
theorem zm_570 : Cond.code y_LF_place b_LF_place 1 (some .int) ∈ wz := zc_19 (List.mem_of_getElem? (i := 0) rfl)
theorem zm_571 : Cond.methodLink R_Law 68 y_Model_place ∈ wz := zc_19 (List.mem_of_getElem? (i := 1) rfl)
theorem zm_572 : Cond.instanceMethod y_Model_place ∈ wz := zc_19 (List.mem_of_getElem? (i := 2) rfl)
theorem zm_573 : Cond.selects R_Model y_Model_place y_Model_place ∈ wz := zc_19 (List.mem_of_getElem? (i := 3) rfl)
theorem zm_574 : Cond.code y_Model_place b_Model_place 1 (some .int) ∈ wz := zc_19 (List.mem_of_getElem? (i := 4) rfl)
theorem zm_575 : Cond.methodLink R_Law 69 y_Law_kind ∈ wz := zc_19 (List.mem_of_getElem? (i := 5) rfl)
theorem zm_576 : Cond.static y_Law_kind ∈ wz := zc_19 (List.mem_of_getElem? (i := 6) rfl)
theorem zm_577 : Cond.codeWith y_Law_kind b_Law_kind 4 (some .int) [(0, 9, 12, 29)] ∈ wz := zc_19 (List.mem_of_getElem? (i := 7) rfl)
theorem zm_578 : Cond.methodLink R_Law 72 y_Model_kind ∈ wz := zc_19 (List.mem_of_getElem? (i := 8) rfl)
theorem zm_579 : Cond.instanceMethod y_Model_kind ∈ wz := zc_19 (List.mem_of_getElem? (i := 9) rfl)
theorem zm_580 : Cond.selects R_Model y_Model_kind y_Model_kind ∈ wz := zc_19 (List.mem_of_getElem? (i := 10) rfl)
theorem zm_581 : Cond.code y_Model_kind b_Model_kind 2 (some .int) ∈ wz := zc_19 (List.mem_of_getElem? (i := 11) rfl)
theorem zm_582 : Cond.methodLink R_Law 73 y_Law_token ∈ wz := zc_19 (List.mem_of_getElem? (i := 12) rfl)
theorem zm_583 : Cond.static y_Law_token ∈ wz := zc_19 (List.mem_of_getElem? (i := 13) rfl)
theorem zm_584 : Cond.codeWith y_Law_token b_Law_token 4 (some .int) [(0, 8, 11, 29)] ∈ wz := zc_19 (List.mem_of_getElem? (i := 14) rfl)
theorem zm_585 : Cond.methodLink R_Law 75 y_Model_token ∈ wz := zc_19 (List.mem_of_getElem? (i := 15) rfl)
theorem zm_586 : Cond.instanceMethod y_Model_token ∈ wz := zc_19 (List.mem_of_getElem? (i := 16) rfl)
theorem zm_587 : Cond.selects R_Model y_Model_token y_Model_token ∈ wz := zc_19 (List.mem_of_getElem? (i := 17) rfl)
theorem zm_588 : Cond.code y_Model_token b_Model_token 2 (some .long) ∈ wz := zc_19 (List.mem_of_getElem? (i := 18) rfl)
theorem zm_589 : Cond.methodLink R_Law 76 y_Law_count ∈ wz := zc_19 (List.mem_of_getElem? (i := 19) rfl)
theorem zm_590 : Cond.static y_Law_count ∈ wz := zc_19 (List.mem_of_getElem? (i := 20) rfl)
theorem zm_591 : Cond.codeWith y_Law_count b_Law_count 4 (some .int) [(0, 9, 12, 29)] ∈ wz := zc_19 (List.mem_of_getElem? (i := 21) rfl)
theorem zm_592 : Cond.methodLink R_Law 78 y_Model_count ∈ wz := zc_19 (List.mem_of_getElem? (i := 22) rfl)
theorem zm_593 : Cond.instanceMethod y_Model_count ∈ wz := zc_19 (List.mem_of_getElem? (i := 23) rfl)
theorem zm_594 : Cond.selects R_Model y_Model_count y_Model_count ∈ wz := zc_19 (List.mem_of_getElem? (i := 24) rfl)
theorem zm_595 : Cond.code y_Model_count b_Model_count 2 (some .int) ∈ wz := zc_19 (List.mem_of_getElem? (i := 25) rfl)
theorem zm_596 : Cond.laysFinal R_LF "LayoutFront" "text" "LLayoutFront$Text;" ∈ wz := zc_19 (List.mem_of_getElem? (i := 26) rfl)
theorem zm_597 : Cond.laysFinal R_LF "LayoutFront" "fixities" "LLayoutFront$Fixities;" ∈ wz := zc_19 (List.mem_of_getElem? (i := 27) rfl)
theorem zm_598 : Cond.laysFinal R_LF "LayoutFront" "cutter" "LLayoutFront$Cutter;" ∈ wz := zc_19 (List.mem_of_getElem? (i := 28) rfl)
theorem zm_599 : Cond.laysFinal R_LF "LayoutFront" "blocks" "LLayoutFront$Blocks;" ∈ wz := zc_19 (List.mem_of_getElem? (i := 29) rfl)
theorem zm_600 : Cond.laysFinal R_LF "LayoutFront" "rows" "LLayoutFront$Rows;" ∈ wz := zc_20 (List.mem_of_getElem? (i := 0) rfl)
theorem zm_601 : Cond.laysFinal R_LF "LayoutFront" "tokens" "LLayoutFront$Tokens;" ∈ wz := zc_20 (List.mem_of_getElem? (i := 1) rfl)
theorem zm_602 : Cond.laysFinal R_LF "LayoutFront" "counts" "[I" ∈ wz := zc_20 (List.mem_of_getElem? (i := 2) rfl)
theorem zm_603 : Cond.lays R_LF "LayoutFront" "wrongPlace" "I" ∈ wz := zc_20 (List.mem_of_getElem? (i := 3) rfl)
theorem zm_604 : Cond.lays R_Model "LayoutFrontModel" "thrown" "I" ∈ wz := zc_20 (List.mem_of_getElem? (i := 4) rfl)
theorem zm_605 : Cond.lays R_Model "LayoutFrontModel" "length" "I" ∈ wz := zc_20 (List.mem_of_getElem? (i := 5) rfl)
theorem zm_606 : Cond.laysFinal R_Model "LayoutFrontModel" "text" "[I" ∈ wz := zc_20 (List.mem_of_getElem? (i := 6) rfl)
theorem zm_607 : Cond.lays R_Model "LayoutFrontModel" "bad" "I" ∈ wz := zc_20 (List.mem_of_getElem? (i := 7) rfl)
theorem zm_608 : Cond.lays R_Model "LayoutFrontModel" "place" "I" ∈ wz := zc_20 (List.mem_of_getElem? (i := 8) rfl)
theorem zm_609 : Cond.lays R_Model "LayoutFrontModel" "at" "I" ∈ wz := zc_20 (List.mem_of_getElem? (i := 9) rfl)
theorem zm_610 : Cond.lays R_Model "LayoutFrontModel" "lexemes" "I" ∈ wz := zc_20 (List.mem_of_getElem? (i := 10) rfl)
theorem zm_611 : Cond.laysFinal R_Model "LayoutFrontModel" "kind" "[I" ∈ wz := zc_20 (List.mem_of_getElem? (i := 11) rfl)
theorem zm_612 : Cond.laysFinal R_Model "LayoutFrontModel" "value" "[J" ∈ wz := zc_20 (List.mem_of_getElem? (i := 12) rfl)
theorem zm_613 : Cond.laysFinal R_Model "LayoutFrontModel" "where" "[I" ∈ wz := zc_20 (List.mem_of_getElem? (i := 13) rfl)
theorem zm_614 : Cond.laysFinal R_Model "LayoutFrontModel" "column" "[I" ∈ wz := zc_20 (List.mem_of_getElem? (i := 14) rfl)
theorem zm_615 : Cond.laysFinal R_Model "LayoutFrontModel" "leads" "[Z" ∈ wz := zc_20 (List.mem_of_getElem? (i := 15) rfl)
theorem zm_616 : Cond.lays R_Model "LayoutFrontModel" "open" "I" ∈ wz := zc_20 (List.mem_of_getElem? (i := 16) rfl)
theorem zm_617 : Cond.lays R_Model "LayoutFrontModel" "highest" "I" ∈ wz := zc_20 (List.mem_of_getElem? (i := 17) rfl)
theorem zm_618 : Cond.laysFinal R_Model "LayoutFrontModel" "row" "[I" ∈ wz := zc_20 (List.mem_of_getElem? (i := 18) rfl)
theorem zm_619 : Cond.lays R_Model "LayoutFrontModel" "tokens" "I" ∈ wz := zc_20 (List.mem_of_getElem? (i := 19) rfl)
theorem zm_620 : Cond.lays R_Model "LayoutFrontModel" "blocks" "I" ∈ wz := zc_20 (List.mem_of_getElem? (i := 20) rfl)
theorem zm_621 : Cond.laysFinal R_Model "LayoutFrontModel" "sort" "[I" ∈ wz := zc_20 (List.mem_of_getElem? (i := 21) rfl)
theorem zm_622 : Cond.laysFinal R_Model "LayoutFrontModel" "is" "[J" ∈ wz := zc_20 (List.mem_of_getElem? (i := 22) rfl)
theorem zm_623 : Cond.laysFinal R_Model "LayoutFrontModel" "before" "[I" ∈ wz := zc_20 (List.mem_of_getElem? (i := 23) rfl)
theorem zm_624 : Cond.laysFinal R_Model "LayoutFrontModel" "behind" "[I" ∈ wz := zc_20 (List.mem_of_getElem? (i := 24) rfl)
theorem zm_625 : Cond.laysFinal R_Model "LayoutFrontModel" "partner" "[I" ∈ wz := zc_20 (List.mem_of_getElem? (i := 25) rfl)
theorem zm_626 : Cond.laysFinal R_Model "LayoutFrontModel" "done" "[Z" ∈ wz := zc_20 (List.mem_of_getElem? (i := 26) rfl)
theorem zm_627 : Cond.lays R_Model "LayoutFrontModel" "all" "I" ∈ wz := zc_20 (List.mem_of_getElem? (i := 27) rfl)
theorem zm_628 : Cond.laysFinal R_Model "LayoutFrontModel" "kinds" "[I" ∈ wz := zc_20 (List.mem_of_getElem? (i := 28) rfl)
theorem zm_629 : Cond.laysFinal R_Model "LayoutFrontModel" "values" "[J" ∈ wz := zc_20 (List.mem_of_getElem? (i := 29) rfl)
theorem zm_630 : Cond.lays R_Model "LayoutFrontModel" "told" "I" ∈ wz := zc_21 (List.mem_of_getElem? (i := 0) rfl)
theorem zm_631 : Cond.lays R_Model "LayoutFrontModel" "toldBlocks" "I" ∈ wz := zc_21 (List.mem_of_getElem? (i := 1) rfl)
theorem zm_632 : Cond.lays R_Model "LayoutFrontModel" "toldRows" "I" ∈ wz := zc_21 (List.mem_of_getElem? (i := 2) rfl)
theorem zm_633 : Cond.lays R_Model "LayoutFrontModel" "toldConflicts" "I" ∈ wz := zc_21 (List.mem_of_getElem? (i := 3) rfl)
theorem zm_634 : Cond.lays R_Model "LayoutFrontModel" "toldHighest" "I" ∈ wz := zc_21 (List.mem_of_getElem? (i := 4) rfl)
theorem zm_635 : Cond.lays R_Model "LayoutFrontModel" "set" "I" ∈ wz := zc_21 (List.mem_of_getElem? (i := 5) rfl)
theorem zm_636 : Cond.laysFinal R_Model "LayoutFrontModel" "names" "[J" ∈ wz := zc_21 (List.mem_of_getElem? (i := 6) rfl)
theorem zm_637 : Cond.laysFinal R_Model "LayoutFrontModel" "sides" "[I" ∈ wz := zc_21 (List.mem_of_getElem? (i := 7) rfl)
theorem zm_638 : Cond.laysFinal R_Model "LayoutFrontModel" "levels" "[I" ∈ wz := zc_21 (List.mem_of_getElem? (i := 8) rfl)
theorem zm_639 : Cond.lays R_Model "LayoutFrontModel" "items" "I" ∈ wz := zc_21 (List.mem_of_getElem? (i := 9) rfl)
theorem zm_640 : Cond.lays R_Model "LayoutFrontModel" "operands" "I" ∈ wz := zc_21 (List.mem_of_getElem? (i := 10) rfl)
theorem zm_641 : Cond.lays R_Model "LayoutFrontModel" "waiting" "I" ∈ wz := zc_21 (List.mem_of_getElem? (i := 11) rfl)
theorem zm_642 : Cond.lays R_Model "LayoutFrontModel" "pairs" "I" ∈ wz := zc_21 (List.mem_of_getElem? (i := 12) rfl)
theorem zm_643 : Cond.lays R_Model "LayoutFrontModel" "rows" "I" ∈ wz := zc_21 (List.mem_of_getElem? (i := 13) rfl)
theorem zm_644 : Cond.lays R_Model "LayoutFrontModel" "conflicts" "I" ∈ wz := zc_21 (List.mem_of_getElem? (i := 14) rfl)
theorem zm_645 : Cond.laysFinal R_Model "LayoutFrontModel" "from" "[I" ∈ wz := zc_21 (List.mem_of_getElem? (i := 15) rfl)
theorem zm_646 : Cond.laysFinal R_Model "LayoutFrontModel" "to" "[I" ∈ wz := zc_21 (List.mem_of_getElem? (i := 16) rfl)
theorem zm_647 : Cond.laysFinal R_Model "LayoutFrontModel" "what" "[I" ∈ wz := zc_21 (List.mem_of_getElem? (i := 17) rfl)
theorem zm_648 : Cond.laysFinal R_Model "LayoutFrontModel" "left" "[I" ∈ wz := zc_21 (List.mem_of_getElem? (i := 18) rfl)
theorem zm_649 : Cond.laysFinal R_Model "LayoutFrontModel" "right" "[I" ∈ wz := zc_21 (List.mem_of_getElem? (i := 19) rfl)
theorem zm_650 : Cond.laysFinal R_Model "LayoutFrontModel" "waits" "[I" ∈ wz := zc_21 (List.mem_of_getElem? (i := 20) rfl)
theorem zm_651 : Cond.laysFinal R_Model "LayoutFrontModel" "opens" "[I" ∈ wz := zc_21 (List.mem_of_getElem? (i := 21) rfl)
theorem zm_652 : Cond.laysFinal R_Model "LayoutFrontModel" "closes" "[I" ∈ wz := zc_21 (List.mem_of_getElem? (i := 22) rfl)
theorem zm_653 : Cond.laysFinal R_Model "LayoutFrontModel" "waitsFor" "[I" ∈ wz := zc_21 (List.mem_of_getElem? (i := 23) rfl)
theorem zm_654 : Cond.laysFinal R_Blocks "LayoutFront$Blocks" "open" "LLayoutFront$Open;" ∈ wz := zc_21 (List.mem_of_getElem? (i := 24) rfl)
theorem zm_655 : Cond.laysFinal R_Blocks "LayoutFront$Blocks" "laid" "LLayoutFront$Tokens;" ∈ wz := zc_21 (List.mem_of_getElem? (i := 25) rfl)
theorem zm_656 : Cond.lays R_Blocks "LayoutFront$Blocks" "begun" "I" ∈ wz := zc_21 (List.mem_of_getElem? (i := 26) rfl)
theorem zm_657 : Cond.laysFinal R_Cutter "LayoutFront$Cutter" "lexemes" "LLayoutFront$Lexemes;" ∈ wz := zc_21 (List.mem_of_getElem? (i := 27) rfl)
theorem zm_658 : Cond.lays R_Cutter "LayoutFront$Cutter" "at" "I" ∈ wz := zc_21 (List.mem_of_getElem? (i := 28) rfl)
theorem zm_659 : Cond.lays R_Cutter "LayoutFront$Cutter" "lineStart" "I" ∈ wz := zc_21 (List.mem_of_getElem? (i := 29) rfl)
theorem zm_660 : Cond.lays R_Cutter "LayoutFront$Cutter" "lineIsFresh" "Z" ∈ wz := zc_22 (List.mem_of_getElem? (i := 0) rfl)
theorem zm_661 : Cond.lays R_Cutter "LayoutFront$Cutter" "wrongPlace" "I" ∈ wz := zc_22 (List.mem_of_getElem? (i := 1) rfl)
theorem zm_662 : Cond.lays R_Cutter "LayoutFront$Cutter" "tooMany" "Z" ∈ wz := zc_22 (List.mem_of_getElem? (i := 2) rfl)
theorem zm_663 : Cond.laysFinal R_Fixities "LayoutFront$Fixities" "names" "[J" ∈ wz := zc_22 (List.mem_of_getElem? (i := 3) rfl)
theorem zm_664 : Cond.laysFinal R_Fixities "LayoutFront$Fixities" "sides" "[I" ∈ wz := zc_22 (List.mem_of_getElem? (i := 4) rfl)
theorem zm_665 : Cond.laysFinal R_Fixities "LayoutFront$Fixities" "levels" "[I" ∈ wz := zc_22 (List.mem_of_getElem? (i := 5) rfl)
theorem zm_666 : Cond.lays R_Fixities "LayoutFront$Fixities" "size" "I" ∈ wz := zc_22 (List.mem_of_getElem? (i := 6) rfl)
theorem zm_667 : Cond.laysFinal R_Lexemes "LayoutFront$Lexemes" "tokens" "LLayoutFront$Tokens;" ∈ wz := zc_22 (List.mem_of_getElem? (i := 7) rfl)
theorem zm_668 : Cond.laysFinal R_Lexemes "LayoutFront$Lexemes" "places" "[I" ∈ wz := zc_22 (List.mem_of_getElem? (i := 8) rfl)
theorem zm_669 : Cond.laysFinal R_Lexemes "LayoutFront$Lexemes" "columns" "[I" ∈ wz := zc_22 (List.mem_of_getElem? (i := 9) rfl)
theorem zm_670 : Cond.laysFinal R_Lexemes "LayoutFront$Lexemes" "lineFirsts" "[Z" ∈ wz := zc_22 (List.mem_of_getElem? (i := 10) rfl)
theorem zm_671 : Cond.laysFinal R_Open "LayoutFront$Open" "things" "[I" ∈ wz := zc_22 (List.mem_of_getElem? (i := 11) rfl)
theorem zm_672 : Cond.lays R_Open "LayoutFront$Open" "size" "I" ∈ wz := zc_22 (List.mem_of_getElem? (i := 12) rfl)
theorem zm_673 : Cond.lays R_Open "LayoutFront$Open" "most" "I" ∈ wz := zc_22 (List.mem_of_getElem? (i := 13) rfl)
theorem zm_674 : Cond.laysFinal R_Resolver "LayoutFront$Resolver" "pairFirsts" "[I" ∈ wz := zc_22 (List.mem_of_getElem? (i := 14) rfl)
theorem zm_675 : Cond.laysFinal R_Resolver "LayoutFront$Resolver" "pairLasts" "[I" ∈ wz := zc_22 (List.mem_of_getElem? (i := 15) rfl)
theorem zm_676 : Cond.lays R_Resolver "LayoutFront$Resolver" "pairs" "I" ∈ wz := zc_22 (List.mem_of_getElem? (i := 16) rfl)
theorem zm_677 : Cond.lays R_Resolver "LayoutFront$Resolver" "pairsBefore" "I" ∈ wz := zc_22 (List.mem_of_getElem? (i := 17) rfl)
theorem zm_678 : Cond.laysFinal R_Resolver "LayoutFront$Resolver" "firsts" "[I" ∈ wz := zc_22 (List.mem_of_getElem? (i := 18) rfl)
theorem zm_679 : Cond.laysFinal R_Resolver "LayoutFront$Resolver" "lasts" "[I" ∈ wz := zc_22 (List.mem_of_getElem? (i := 19) rfl)
theorem zm_680 : Cond.lays R_Resolver "LayoutFront$Resolver" "operands" "I" ∈ wz := zc_22 (List.mem_of_getElem? (i := 20) rfl)
theorem zm_681 : Cond.laysFinal R_Resolver "LayoutFront$Resolver" "levels" "[I" ∈ wz := zc_22 (List.mem_of_getElem? (i := 21) rfl)
theorem zm_682 : Cond.laysFinal R_Resolver "LayoutFront$Resolver" "sides" "[I" ∈ wz := zc_22 (List.mem_of_getElem? (i := 22) rfl)
theorem zm_683 : Cond.laysFinal R_Resolver "LayoutFront$Resolver" "minusPlaces" "[I" ∈ wz := zc_22 (List.mem_of_getElem? (i := 23) rfl)
theorem zm_684 : Cond.lays R_Resolver "LayoutFront$Resolver" "waiting" "I" ∈ wz := zc_22 (List.mem_of_getElem? (i := 24) rfl)
theorem zm_685 : Cond.laysFinal R_Row "LayoutFront$Row" "parts" "[I" ∈ wz := zc_22 (List.mem_of_getElem? (i := 25) rfl)
theorem zm_686 : Cond.laysFinal R_Row "LayoutFront$Row" "firsts" "[I" ∈ wz := zc_22 (List.mem_of_getElem? (i := 26) rfl)
theorem zm_687 : Cond.laysFinal R_Row "LayoutFront$Row" "lasts" "[I" ∈ wz := zc_22 (List.mem_of_getElem? (i := 27) rfl)
theorem zm_688 : Cond.lays R_Row "LayoutFront$Row" "size" "I" ∈ wz := zc_22 (List.mem_of_getElem? (i := 28) rfl)
theorem zm_689 : Cond.lays R_Row "LayoutFront$Row" "operates" "Z" ∈ wz := zc_22 (List.mem_of_getElem? (i := 29) rfl)
theorem zm_690 : Cond.lays R_Row "LayoutFront$Row" "lacksOperand" "Z" ∈ wz := zc_23 (List.mem_of_getElem? (i := 0) rfl)
theorem zm_691 : Cond.laysFinal R_Rows "LayoutFront$Rows" "closers" "[I" ∈ wz := zc_23 (List.mem_of_getElem? (i := 1) rfl)
theorem zm_692 : Cond.laysFinal R_Rows "LayoutFront$Rows" "openers" "[I" ∈ wz := zc_23 (List.mem_of_getElem? (i := 2) rfl)
theorem zm_693 : Cond.laysFinal R_Rows "LayoutFront$Rows" "opened" "[I" ∈ wz := zc_23 (List.mem_of_getElem? (i := 3) rfl)
theorem zm_694 : Cond.laysFinal R_Rows "LayoutFront$Rows" "closed" "[I" ∈ wz := zc_23 (List.mem_of_getElem? (i := 4) rfl)
theorem zm_695 : Cond.laysFinal R_Rows "LayoutFront$Rows" "row" "LLayoutFront$Row;" ∈ wz := zc_23 (List.mem_of_getElem? (i := 5) rfl)
theorem zm_696 : Cond.laysFinal R_Rows "LayoutFront$Rows" "resolver" "LLayoutFront$Resolver;" ∈ wz := zc_23 (List.mem_of_getElem? (i := 6) rfl)
theorem zm_697 : Cond.lays R_Rows "LayoutFront$Rows" "together" "I" ∈ wz := zc_23 (List.mem_of_getElem? (i := 7) rfl)
theorem zm_698 : Cond.lays R_Rows "LayoutFront$Rows" "inConflict" "I" ∈ wz := zc_23 (List.mem_of_getElem? (i := 8) rfl)
theorem zm_699 : Cond.laysFinal R_Text "LayoutFront$Text" "characters" "[C" ∈ wz := zc_23 (List.mem_of_getElem? (i := 9) rfl)
theorem zm_700 : Cond.lays R_Text "LayoutFront$Text" "length" "I" ∈ wz := zc_23 (List.mem_of_getElem? (i := 10) rfl)
theorem zm_701 : Cond.laysFinal R_Tokens "LayoutFront$Tokens" "kinds" "[I" ∈ wz := zc_23 (List.mem_of_getElem? (i := 11) rfl)
theorem zm_702 : Cond.laysFinal R_Tokens "LayoutFront$Tokens" "values" "[J" ∈ wz := zc_23 (List.mem_of_getElem? (i := 12) rfl)
theorem zm_703 : Cond.lays R_Tokens "LayoutFront$Tokens" "size" "I" ∈ wz := zc_23 (List.mem_of_getElem? (i := 13) rfl)
theorem zg_0 : wz_0.all goodWord = true := by decide +kernel
theorem zg_1 : wz_1.all goodWord = true := by decide +kernel
theorem zg_2 : wz_2.all goodWord = true := by decide +kernel
theorem zg_3 : wz_3.all goodWord = true := by decide +kernel
theorem zg_4 : wz_4.all goodWord = true := by decide +kernel
theorem zg_5 : wz_5.all goodWord = true := by decide +kernel
theorem zg_6 : wz_6.all goodWord = true := by decide +kernel
theorem zg_7 : wz_7.all goodWord = true := by decide +kernel
theorem zg_8 : wz_8.all goodWord = true := by decide +kernel
theorem zg_9 : wz_9.all goodWord = true := by decide +kernel
theorem zg_10 : wz_10.all goodWord = true := by decide +kernel
theorem zg_11 : wz_11.all goodWord = true := by decide +kernel
theorem zg_12 : wz_12.all goodWord = true := by decide +kernel
theorem zg_13 : wz_13.all goodWord = true := by decide +kernel
theorem zg_14 : wz_14.all goodWord = true := by decide +kernel
theorem zg_15 : wz_15.all goodWord = true := by decide +kernel
theorem zg_16 : wz_16.all goodWord = true := by decide +kernel
theorem zg_17 : wz_17.all goodWord = true := by decide +kernel
theorem zg_18 : wz_18.all goodWord = true := by decide +kernel
theorem zg_19 : wz_19.all goodWord = true := by decide +kernel
theorem zg_20 : wz_20.all goodWord = true := by decide +kernel
theorem zg_21 : wz_21.all goodWord = true := by decide +kernel
theorem zg_22 : wz_22.all goodWord = true := by decide +kernel
theorem zg_23 : wz_23.all goodWord = true := by decide +kernel
theorem zg_24 : wz_24.all goodWord = true := by decide +kernel
theorem zx {w : Cond} (h : w ∈ xat) (hg : goodWord w = true) : w ∈ wz := zc_24 (List.mem_filter.mpr ⟨h, hg⟩)
theorem zgood : GoodIn wz wz := fun w h => ⟨h, good_of_word (by
  unfold wz at h
  rcases List.mem_append.mp h with h | h
  · exact List.all_eq_true.mp zg_0 w h
  rcases List.mem_append.mp h with h | h
  · exact List.all_eq_true.mp zg_1 w h
  rcases List.mem_append.mp h with h | h
  · exact List.all_eq_true.mp zg_2 w h
  rcases List.mem_append.mp h with h | h
  · exact List.all_eq_true.mp zg_3 w h
  rcases List.mem_append.mp h with h | h
  · exact List.all_eq_true.mp zg_4 w h
  rcases List.mem_append.mp h with h | h
  · exact List.all_eq_true.mp zg_5 w h
  rcases List.mem_append.mp h with h | h
  · exact List.all_eq_true.mp zg_6 w h
  rcases List.mem_append.mp h with h | h
  · exact List.all_eq_true.mp zg_7 w h
  rcases List.mem_append.mp h with h | h
  · exact List.all_eq_true.mp zg_8 w h
  rcases List.mem_append.mp h with h | h
  · exact List.all_eq_true.mp zg_9 w h
  rcases List.mem_append.mp h with h | h
  · exact List.all_eq_true.mp zg_10 w h
  rcases List.mem_append.mp h with h | h
  · exact List.all_eq_true.mp zg_11 w h
  rcases List.mem_append.mp h with h | h
  · exact List.all_eq_true.mp zg_12 w h
  rcases List.mem_append.mp h with h | h
  · exact List.all_eq_true.mp zg_13 w h
  rcases List.mem_append.mp h with h | h
  · exact List.all_eq_true.mp zg_14 w h
  rcases List.mem_append.mp h with h | h
  · exact List.all_eq_true.mp zg_15 w h
  rcases List.mem_append.mp h with h | h
  · exact List.all_eq_true.mp zg_16 w h
  rcases List.mem_append.mp h with h | h
  · exact List.all_eq_true.mp zg_17 w h
  rcases List.mem_append.mp h with h | h
  · exact List.all_eq_true.mp zg_18 w h
  rcases List.mem_append.mp h with h | h
  · exact List.all_eq_true.mp zg_19 w h
  rcases List.mem_append.mp h with h | h
  · exact List.all_eq_true.mp zg_20 w h
  rcases List.mem_append.mp h with h | h
  · exact List.all_eq_true.mp zg_21 w h
  rcases List.mem_append.mp h with h | h
  · exact List.all_eq_true.mp zg_22 w h
  rcases List.mem_append.mp h with h | h
  · exact List.all_eq_true.mp zg_23 w h
  exact List.all_eq_true.mp zg_24 w h)⟩
theorem zI {y : MethodName} {b : ByteArray} {n : Nat} {r : Option FieldType} (h : Cond.code y b n r ∈ wz) : GoodIn wz (Cond.code y b n r :: wz) := fun w hw => (List.mem_cons.mp hw).elim (fun e => by rw [e]; exact zgood _ h) (zgood w)
theorem zV {own C : String} {k n : Nat} {y : MethodName} {b : ByteArray} {r : Option FieldType} (h1 : Cond.methodLink own k y ∈ wz) (h2 : Cond.instanceMethod y ∈ wz) (h3 : Cond.selects C y y ∈ wz) (h4 : Cond.initialized C ∈ wz) (h : Cond.code y b n r ∈ wz) : GoodIn wz (wsV own k C y (Cond.code y b n r :: wz)) := by
  intro w hw
  unfold wsV at hw
  rcases List.mem_append.mp hw with hw | hw
  · simp only [List.mem_cons, List.not_mem_nil, or_false] at hw
    rcases hw with rfl | rfl | rfl | rfl
    · exact zgood _ h1
    · exact zgood _ h2
    · exact zgood _ h3
    · exact zgood _ h4
  · exact zI h w hw
theorem zS {own : String} {k n : Nat} {y : MethodName} {b : ByteArray} {r : Option FieldType} (h1 : Cond.methodLink own k y ∈ wz) (h2 : Cond.static y ∈ wz) (h4 : Cond.initialized own ∈ wz) (h : Cond.code y b n r ∈ wz) : GoodIn wz (wsS own k y (Cond.code y b n r :: wz)) := by
  intro w hw
  unfold wsS at hw
  rcases List.mem_append.mp hw with hw | hw
  · simp only [List.mem_cons, List.not_mem_nil, or_false] at hw
    rcases hw with rfl | rfl | rfl
    · exact zgood _ h1
    · exact zgood _ h2
    · exact zgood _ h4
  · exact zI h w hw
theorem zT {own : String} {k n : Nat} {y : MethodName} {b : ByteArray} {r : Option FieldType} (h1 : Cond.methodLink own k y ∈ wz) (h2 : Cond.static y ∈ wz) (h4 : Cond.initialized y.cls ∈ wz) (h : Cond.code y b n r ∈ wz) : GoodIn wz (va_wsS own k y (Cond.code y b n r :: wz)) := by
  intro w hw
  unfold va_wsS at hw
  rcases List.mem_append.mp hw with hw | hw
  · simp only [List.mem_cons, List.not_mem_nil, or_false] at hw
    rcases hw with rfl | rfl | rfl
    · exact zgood _ h1
    · exact zgood _ h2
    · exact zgood _ h4
  · exact zI h w hw
theorem zu_LF : ∀ w ∈ u_ws R_LF F_LF 8, w ∈ wz := by decide +kernel
theorem zu_Model : ∀ w ∈ u_ws R_Model F_Model 50, w ∈ wz := by decide +kernel
theorem zu_Blocks : ∀ w ∈ u_ws R_Blocks F_Blocks 3, w ∈ wz := by decide +kernel
theorem zu_Cutter : ∀ w ∈ u_ws R_Cutter F_Cutter 6, w ∈ wz := by decide +kernel
theorem zu_Fixities : ∀ w ∈ u_ws R_Fixities F_Fixities 4, w ∈ wz := by decide +kernel
theorem zu_Lexemes : ∀ w ∈ u_ws R_Lexemes F_Lexemes 4, w ∈ wz := by decide +kernel
theorem zu_Open : ∀ w ∈ u_ws R_Open F_Open 3, w ∈ wz := by decide +kernel
theorem zu_Resolver : ∀ w ∈ u_ws R_Resolver F_Resolver 11, w ∈ wz := by decide +kernel
theorem zu_Row : ∀ w ∈ u_ws R_Row F_Row 6, w ∈ wz := by decide +kernel
theorem zu_Rows : ∀ w ∈ u_ws R_Rows F_Rows 8, w ∈ wz := by decide +kernel
theorem zu_Text : ∀ w ∈ u_ws R_Text F_Text 2, w ∈ wz := by decide +kernel
theorem zu_Tokens : ∀ w ∈ u_ws R_Tokens F_Tokens 3, w ∈ wz := by decide +kernel
def w_LF_init : List Cond := .code y_LF_init b_LF_init 1 none :: wz
def w_LF_write : List Cond := .code y_LF_write b_LF_write 4 (some .int) :: wz
def w_LF_erase : List Cond := .code y_LF_erase b_LF_erase 2 (some .int) :: wz
def w_LF_fixity : List Cond := .code y_LF_fixity b_LF_fixity 5 (some .int) :: wz
def w_LF_read : List Cond := .code y_LF_read b_LF_read 1 (some .int) :: wz
def w_LF_keepCounts : List Cond := .code y_LF_keepCounts b_LF_keepCounts 1 none :: wz
def w_LF_place : List Cond := .code y_LF_place b_LF_place 1 (some .int) :: wz
def w_LF_kind : List Cond := .code y_LF_kind b_LF_kind 2 (some .int) :: wz
def w_LF_token : List Cond := .code y_LF_token b_LF_token 2 (some .long) :: wz
def w_LF_count : List Cond := .code y_LF_count b_LF_count 2 (some .int) :: wz
def w_Model_init : List Cond := .code y_Model_init b_Model_init 1 none :: wz
def w_Model_thrown : List Cond := .code y_Model_thrown b_Model_thrown 1 (some .int) :: wz
def w_Model_fail : List Cond := .code y_Model_fail b_Model_fail 2 (some .int) :: wz
def w_Model_within : List Cond := .code y_Model_within b_Model_within 3 (some .boolean) :: wz
def w_Model_write : List Cond := .code y_Model_write b_Model_write 7 (some .int) :: wz
def w_Model_erase : List Cond := .code y_Model_erase b_Model_erase 2 (some .int) :: wz
def w_Model_find : List Cond := .code y_Model_find b_Model_find 5 (some .int) :: wz
def w_Model_fixity : List Cond := .code y_Model_fixity b_Model_fixity 6 (some .int) :: wz
def w_Model_cut : List Cond := .code y_Model_cut b_Model_cut 2 none :: wz
def w_Model_emit : List Cond := .code y_Model_emit b_Model_emit 4 none :: wz
def w_Model_top : List Cond := .code y_Model_top b_Model_top 1 (some .int) :: wz
def w_Model_leave : List Cond := .code y_Model_leave b_Model_leave 2 none :: wz
def w_Model_begins : List Cond := .code y_Model_begins b_Model_begins 3 (some .boolean) :: wz
def w_Model_begin : List Cond := .code y_Model_begin b_Model_begin 4 none :: wz
def w_Model_lay : List Cond := .code y_Model_lay b_Model_lay 2 none :: wz
def w_Model_partners : List Cond := .code y_Model_partners b_Model_partners 5 none :: wz
def w_Model_plainName : List Cond := .code y_Model_plainName b_Model_plainName 2 (some .boolean) :: wz
def w_Model_tick : List Cond := .code y_Model_tick b_Model_tick 2 (some .boolean) :: wz
def w_Model_extent : List Cond := .code y_Model_extent b_Model_extent 2 (some .int) :: wz
def w_Model_around : List Cond := .code y_Model_around b_Model_around 2 none :: wz
def w_Model_add : List Cond := .code y_Model_add b_Model_add 4 none :: wz
def w_Model_read : List Cond := .code y_Model_read b_Model_read 3 (some .int) :: wz
def w_Model_place : List Cond := .code y_Model_place b_Model_place 1 (some .int) :: wz
def w_Model_kind : List Cond := .code y_Model_kind b_Model_kind 2 (some .int) :: wz
def w_Model_token : List Cond := .code y_Model_token b_Model_token 2 (some .long) :: wz
def w_Model_count : List Cond := .code y_Model_count b_Model_count 2 (some .int) :: wz
def w_Blocks_init : List Cond := .code y_Blocks_init b_Blocks_init 1 none :: wz
def w_Blocks_laid : List Cond := .code y_Blocks_laid b_Blocks_laid 1 (some (.object "LayoutFront$Tokens")) :: wz
def w_Blocks_begun : List Cond := .code y_Blocks_begun b_Blocks_begun 1 (some .int) :: wz
def w_Blocks_mostOpen : List Cond := .code y_Blocks_mostOpen b_Blocks_mostOpen 1 (some .int) :: wz
def w_Blocks_lay : List Cond := .code y_Blocks_lay b_Blocks_lay 8 (some .int) :: wz
def w_Blocks_putBefore : List Cond := .code y_Blocks_putBefore b_Blocks_putBefore 3 none :: wz
def w_Blocks_beginsBlock : List Cond := .code y_Blocks_beginsBlock b_Blocks_beginsBlock 2 (some .boolean) :: wz
def w_Blocks_begin : List Cond := .code y_Blocks_begin b_Blocks_begin 2 none :: wz
def w_Blocks_putIn : List Cond := .code y_Blocks_putIn b_Blocks_putIn 2 none :: wz
def w_Blocks_closeBlocks : List Cond := .code y_Blocks_closeBlocks b_Blocks_closeBlocks 3 none :: wz
def w_Cutter_init : List Cond := .code y_Cutter_init b_Cutter_init 1 none :: wz
def w_Cutter_lexemes : List Cond := .code y_Cutter_lexemes b_Cutter_lexemes 1 (some (.object "LayoutFront$Lexemes")) :: wz
def w_Cutter_foundTooMany : List Cond := .code y_Cutter_foundTooMany b_Cutter_foundTooMany 1 (some .boolean) :: wz
def w_Cutter_cut : List Cond := .code y_Cutter_cut b_Cutter_cut 3 (some .int) :: wz
def w_Fixities_init : List Cond := .code y_Fixities_init b_Fixities_init 1 none :: wz
def w_Fixities_size : List Cond := .code y_Fixities_size b_Fixities_size 1 (some .int) :: wz
def w_Fixities_hasRoomFor : List Cond := .code y_Fixities_hasRoomFor b_Fixities_hasRoomFor 3 (some .boolean) :: wz
def w_Fixities_set : List Cond := .code y_Fixities_set b_Fixities_set 6 none :: wz
def w_Fixities_find : List Cond := .code y_Fixities_find b_Fixities_find 4 (some .int) :: wz
def w_Lexemes_init : List Cond := .code y_Lexemes_init b_Lexemes_init 1 none :: wz
def w_Lexemes_clear : List Cond := .code y_Lexemes_clear b_Lexemes_clear 1 none :: wz
def w_Lexemes_size : List Cond := .code y_Lexemes_size b_Lexemes_size 1 (some .int) :: wz
def w_Lexemes_tokens : List Cond := .code y_Lexemes_tokens b_Lexemes_tokens 1 (some (.object "LayoutFront$Tokens")) :: wz
def w_Lexemes_columnAt : List Cond := .code y_Lexemes_columnAt b_Lexemes_columnAt 2 (some .int) :: wz
def w_Open_init : List Cond := .code y_Open_init b_Open_init 1 none :: wz
def w_Open_clear : List Cond := .code y_Open_clear b_Open_clear 1 none :: wz
def w_Open_size : List Cond := .code y_Open_size b_Open_size 1 (some .int) :: wz
def w_Open_most : List Cond := .code y_Open_most b_Open_most 1 (some .int) :: wz
def w_Open_latestColumn : List Cond := .code y_Open_latestColumn b_Open_latestColumn 2 (some .int) :: wz
def w_Resolver_init : List Cond := .code y_Resolver_init b_Resolver_init 1 none :: wz
def w_Resolver_clear : List Cond := .code y_Resolver_clear b_Resolver_clear 1 none :: wz
def w_Resolver_startRow : List Cond := .code y_Resolver_startRow b_Resolver_startRow 1 none :: wz
def w_Resolver_tally : List Cond := .code y_Resolver_tally b_Resolver_tally 6 none :: wz
def w_Row_init : List Cond := .code y_Row_init b_Row_init 1 none :: wz
def w_Row_clear : List Cond := .code y_Row_clear b_Row_clear 1 none :: wz
def w_Row_isWhole : List Cond := .code y_Row_isWhole b_Row_isWhole 1 (some .boolean) :: wz
def w_Rows_init : List Cond := .code y_Rows_init b_Rows_init 1 none :: wz
def w_Rows_together : List Cond := .code y_Rows_together b_Rows_together 1 (some .int) :: wz
def w_Rows_inConflict : List Cond := .code y_Rows_inConflict b_Rows_inConflict 1 (some .int) :: wz
def w_Rows_putTogether : List Cond := .code y_Rows_putTogether b_Rows_putTogether 4 none :: wz
def w_Rows_copyInto : List Cond := .code y_Rows_copyInto b_Rows_copyInto 4 none :: wz
def w_Rows_matchBrackets : List Cond := .code y_Rows_matchBrackets b_Rows_matchBrackets 4 none :: wz
def w_Rows_putLevelTogether : List Cond := .code y_Rows_putLevelTogether b_Rows_putLevelTogether 7 none :: wz
def w_Rows_collectRow : List Cond := .code y_Rows_collectRow b_Rows_collectRow 8 (some .int) :: wz
def w_Rows_behindOperand : List Cond := .code y_Rows_behindOperand b_Rows_behindOperand 3 (some .int) :: wz
def w_Rows_behindOperation : List Cond := .code y_Rows_behindOperation b_Rows_behindOperation 2 (some .int) :: wz
def w_Text_init : List Cond := .code y_Text_init b_Text_init 1 none :: wz
def w_Text_areCharacters : List Cond := .code y_Text_areCharacters b_Text_areCharacters 5 (some .boolean) :: wz
def w_Text_byteOf : List Cond := .code y_Text_byteOf b_Text_byteOf 3 (some .int) :: wz
def w_Text_length : List Cond := .code y_Text_length b_Text_length 1 (some .int) :: wz
def w_Text_hasRoomFor : List Cond := .code y_Text_hasRoomFor b_Text_hasRoomFor 2 (some .boolean) :: wz
def w_Text_append : List Cond := .code y_Text_append b_Text_append 5 none :: wz
def w_Text_clear : List Cond := .code y_Text_clear b_Text_clear 1 none :: wz
def w_Tokens_init : List Cond := .code y_Tokens_init b_Tokens_init 2 none :: wz
def w_Tokens_clear : List Cond := .code y_Tokens_clear b_Tokens_clear 1 none :: wz
def w_Tokens_size : List Cond := .code y_Tokens_size b_Tokens_size 1 (some .int) :: wz
def w_Tokens_add : List Cond := .code y_Tokens_add b_Tokens_add 4 none :: wz
def w_Tokens_addTimes : List Cond := .code y_Tokens_addTimes b_Tokens_addTimes 6 none :: wz
def w_Tokens_has : List Cond := .code y_Tokens_has b_Tokens_has 2 (some .boolean) :: wz
def w_Tokens_kindAt : List Cond := .code y_Tokens_kindAt b_Tokens_kindAt 2 (some .int) :: wz
def w_Tokens_valueAt : List Cond := .code y_Tokens_valueAt b_Tokens_valueAt 2 (some .long) :: wz
def w_Tokens_isSign : List Cond := .code y_Tokens_isSign b_Tokens_isSign 3 (some .boolean) :: wz
def w_Tokens_opensBracket : List Cond := .code y_Tokens_opensBracket b_Tokens_opensBracket 2 (some .boolean) :: wz
def w_Tokens_closesBracket : List Cond := .code y_Tokens_closesBracket b_Tokens_closesBracket 2 (some .boolean) :: wz
def w_Tokens_wordAt : List Cond := .code y_Tokens_wordAt b_Tokens_wordAt 2 (some .int) :: wz
def w_Tokens_isFreeName : List Cond := .code y_Tokens_isFreeName b_Tokens_isFreeName 2 (some .boolean) :: wz
def w_Tokens_isFreeOperator : List Cond := .code y_Tokens_isFreeOperator b_Tokens_isFreeOperator 2 (some .boolean) :: wz
def w_Law_write : List Cond := .codeWith y_Law_write b_Law_write 6 (some .int) [(0, 11, 14, 13), (0, 11, 18, 15)] :: wz
def w_Law_fixity : List Cond := .codeWith y_Law_fixity b_Law_fixity 7 (some .int) [(0, 13, 16, 13), (0, 13, 20, 15)] :: wz
def w_Law_read : List Cond := .codeWith y_Law_read b_Law_read 3 (some .int) [(0, 8, 11, 13), (0, 8, 14, 15)] :: wz
def w_Law_kind : List Cond := .codeWith y_Law_kind b_Law_kind 4 (some .int) [(0, 9, 12, 29)] :: wz
def w_Law_token : List Cond := .codeWith y_Law_token b_Law_token 4 (some .int) [(0, 8, 11, 29)] :: wz
def w_Law_count : List Cond := .codeWith y_Law_count b_Law_count 4 (some .int) [(0, 9, 12, 29)] :: wz
end
section
theorem d_Text_init_0 : decode b_Text_init 0 = .ok (.aload_n 0, 1) := by decide +kernel
theorem d_Text_init_1 : decode b_Text_init 1 = .ok (.invokespecial 3, 3) := by decide +kernel
theorem d_Text_init_4 : decode b_Text_init 4 = .ok (.aload_n 0, 1) := by decide +kernel
theorem d_Text_init_5 : decode b_Text_init 5 = .ok (.sipush 240, 3) := by decide +kernel
theorem d_Text_init_8 : decode b_Text_init 8 = .ok (.newarray .char, 2) := by decide +kernel
theorem d_Text_init_10 : decode b_Text_init 10 = .ok (.putfield 9, 3) := by decide +kernel
theorem d_Text_init_13 : decode b_Text_init 13 = .ok (.return_, 1) := by decide +kernel
theorem d_Fixities_init_0 : decode b_Fixities_init 0 = .ok (.aload_n 0, 1) := by decide +kernel
theorem d_Fixities_init_1 : decode b_Fixities_init 1 = .ok (.invokespecial 3, 3) := by decide +kernel
theorem d_Fixities_init_4 : decode b_Fixities_init 4 = .ok (.aload_n 0, 1) := by decide +kernel
theorem d_Fixities_init_5 : decode b_Fixities_init 5 = .ok (.bipush 12, 2) := by decide +kernel
theorem d_Fixities_init_7 : decode b_Fixities_init 7 = .ok (.newarray .long, 2) := by decide +kernel
theorem d_Fixities_init_9 : decode b_Fixities_init 9 = .ok (.putfield 9, 3) := by decide +kernel
theorem d_Fixities_init_12 : decode b_Fixities_init 12 = .ok (.aload_n 0, 1) := by decide +kernel
theorem d_Fixities_init_13 : decode b_Fixities_init 13 = .ok (.bipush 12, 2) := by decide +kernel
theorem d_Fixities_init_15 : decode b_Fixities_init 15 = .ok (.newarray .int, 2) := by decide +kernel
theorem d_Fixities_init_17 : decode b_Fixities_init 17 = .ok (.putfield 15, 3) := by decide +kernel
theorem d_Fixities_init_20 : decode b_Fixities_init 20 = .ok (.aload_n 0, 1) := by decide +kernel
theorem d_Fixities_init_21 : decode b_Fixities_init 21 = .ok (.bipush 12, 2) := by decide +kernel
theorem d_Fixities_init_23 : decode b_Fixities_init 23 = .ok (.newarray .int, 2) := by decide +kernel
theorem d_Fixities_init_25 : decode b_Fixities_init 25 = .ok (.putfield 19, 3) := by decide +kernel
theorem d_Fixities_init_28 : decode b_Fixities_init 28 = .ok (.return_, 1) := by decide +kernel
theorem d_Tokens_init_0 : decode b_Tokens_init 0 = .ok (.aload_n 0, 1) := by decide +kernel
theorem d_Tokens_init_1 : decode b_Tokens_init 1 = .ok (.invokespecial 3, 3) := by decide +kernel
theorem d_Tokens_init_4 : decode b_Tokens_init 4 = .ok (.aload_n 0, 1) := by decide +kernel
theorem d_Tokens_init_5 : decode b_Tokens_init 5 = .ok (.iload_n 1, 1) := by decide +kernel
theorem d_Tokens_init_6 : decode b_Tokens_init 6 = .ok (.newarray .int, 2) := by decide +kernel
theorem d_Tokens_init_8 : decode b_Tokens_init 8 = .ok (.putfield 9, 3) := by decide +kernel
theorem d_Tokens_init_11 : decode b_Tokens_init 11 = .ok (.aload_n 0, 1) := by decide +kernel
theorem d_Tokens_init_12 : decode b_Tokens_init 12 = .ok (.iload_n 1, 1) := by decide +kernel
theorem d_Tokens_init_13 : decode b_Tokens_init 13 = .ok (.newarray .long, 2) := by decide +kernel
theorem d_Tokens_init_15 : decode b_Tokens_init 15 = .ok (.putfield 15, 3) := by decide +kernel
theorem d_Tokens_init_18 : decode b_Tokens_init 18 = .ok (.return_, 1) := by decide +kernel
theorem d_Lexemes_init_0 : decode b_Lexemes_init 0 = .ok (.aload_n 0, 1) := by decide +kernel
theorem d_Lexemes_init_1 : decode b_Lexemes_init 1 = .ok (.invokespecial 3, 3) := by decide +kernel
theorem d_Lexemes_init_4 : decode b_Lexemes_init 4 = .ok (.aload_n 0, 1) := by decide +kernel
theorem d_Lexemes_init_5 : decode b_Lexemes_init 5 = .ok (.new 9, 3) := by decide +kernel
theorem d_Lexemes_init_8 : decode b_Lexemes_init 8 = .ok (.dup, 1) := by decide +kernel
theorem d_Lexemes_init_9 : decode b_Lexemes_init 9 = .ok (.bipush 90, 2) := by decide +kernel
theorem d_Lexemes_init_11 : decode b_Lexemes_init 11 = .ok (.invokespecial 11, 3) := by decide +kernel
theorem d_Lexemes_init_14 : decode b_Lexemes_init 14 = .ok (.putfield 14, 3) := by decide +kernel
theorem d_Lexemes_init_17 : decode b_Lexemes_init 17 = .ok (.aload_n 0, 1) := by decide +kernel
theorem d_Lexemes_init_18 : decode b_Lexemes_init 18 = .ok (.bipush 90, 2) := by decide +kernel
theorem d_Lexemes_init_20 : decode b_Lexemes_init 20 = .ok (.newarray .int, 2) := by decide +kernel
theorem d_Lexemes_init_22 : decode b_Lexemes_init 22 = .ok (.putfield 20, 3) := by decide +kernel
theorem d_Lexemes_init_25 : decode b_Lexemes_init 25 = .ok (.aload_n 0, 1) := by decide +kernel
theorem d_Lexemes_init_26 : decode b_Lexemes_init 26 = .ok (.bipush 90, 2) := by decide +kernel
theorem d_Lexemes_init_28 : decode b_Lexemes_init 28 = .ok (.newarray .int, 2) := by decide +kernel
theorem d_Lexemes_init_30 : decode b_Lexemes_init 30 = .ok (.putfield 24, 3) := by decide +kernel
theorem d_Lexemes_init_33 : decode b_Lexemes_init 33 = .ok (.aload_n 0, 1) := by decide +kernel
theorem d_Lexemes_init_34 : decode b_Lexemes_init 34 = .ok (.bipush 90, 2) := by decide +kernel
theorem d_Lexemes_init_36 : decode b_Lexemes_init 36 = .ok (.newarray .boolean, 2) := by decide +kernel
theorem d_Lexemes_init_38 : decode b_Lexemes_init 38 = .ok (.putfield 27, 3) := by decide +kernel
theorem d_Lexemes_init_41 : decode b_Lexemes_init 41 = .ok (.return_, 1) := by decide +kernel
theorem d_Cutter_init_0 : decode b_Cutter_init 0 = .ok (.aload_n 0, 1) := by decide +kernel
theorem d_Cutter_init_1 : decode b_Cutter_init 1 = .ok (.invokespecial 3, 3) := by decide +kernel
theorem d_Cutter_init_4 : decode b_Cutter_init 4 = .ok (.aload_n 0, 1) := by decide +kernel
theorem d_Cutter_init_5 : decode b_Cutter_init 5 = .ok (.new 9, 3) := by decide +kernel
theorem d_Cutter_init_8 : decode b_Cutter_init 8 = .ok (.dup, 1) := by decide +kernel
theorem d_Cutter_init_9 : decode b_Cutter_init 9 = .ok (.invokespecial 11, 3) := by decide +kernel
theorem d_Cutter_init_12 : decode b_Cutter_init 12 = .ok (.putfield 12, 3) := by decide +kernel
theorem d_Cutter_init_15 : decode b_Cutter_init 15 = .ok (.aload_n 0, 1) := by decide +kernel
theorem d_Cutter_init_16 : decode b_Cutter_init 16 = .ok (.iconst (-1), 1) := by decide +kernel
theorem d_Cutter_init_17 : decode b_Cutter_init 17 = .ok (.putfield 18, 3) := by decide +kernel
theorem d_Cutter_init_20 : decode b_Cutter_init 20 = .ok (.return_, 1) := by decide +kernel
theorem d_Open_init_0 : decode b_Open_init 0 = .ok (.aload_n 0, 1) := by decide +kernel
theorem d_Open_init_1 : decode b_Open_init 1 = .ok (.invokespecial 3, 3) := by decide +kernel
theorem d_Open_init_4 : decode b_Open_init 4 = .ok (.aload_n 0, 1) := by decide +kernel
theorem d_Open_init_5 : decode b_Open_init 5 = .ok (.sipush 181, 3) := by decide +kernel
theorem d_Open_init_8 : decode b_Open_init 8 = .ok (.newarray .int, 2) := by decide +kernel
theorem d_Open_init_10 : decode b_Open_init 10 = .ok (.putfield 9, 3) := by decide +kernel
theorem d_Open_init_13 : decode b_Open_init 13 = .ok (.return_, 1) := by decide +kernel
theorem d_Blocks_init_0 : decode b_Blocks_init 0 = .ok (.aload_n 0, 1) := by decide +kernel
theorem d_Blocks_init_1 : decode b_Blocks_init 1 = .ok (.invokespecial 3, 3) := by decide +kernel
theorem d_Blocks_init_4 : decode b_Blocks_init 4 = .ok (.aload_n 0, 1) := by decide +kernel
theorem d_Blocks_init_5 : decode b_Blocks_init 5 = .ok (.new 9, 3) := by decide +kernel
theorem d_Blocks_init_8 : decode b_Blocks_init 8 = .ok (.dup, 1) := by decide +kernel
theorem d_Blocks_init_9 : decode b_Blocks_init 9 = .ok (.invokespecial 11, 3) := by decide +kernel
theorem d_Blocks_init_12 : decode b_Blocks_init 12 = .ok (.putfield 12, 3) := by decide +kernel
theorem d_Blocks_init_15 : decode b_Blocks_init 15 = .ok (.aload_n 0, 1) := by decide +kernel
theorem d_Blocks_init_16 : decode b_Blocks_init 16 = .ok (.new 18, 3) := by decide +kernel
theorem d_Blocks_init_19 : decode b_Blocks_init 19 = .ok (.dup, 1) := by decide +kernel
theorem d_Blocks_init_20 : decode b_Blocks_init 20 = .ok (.sipush 362, 3) := by decide +kernel
theorem d_Blocks_init_23 : decode b_Blocks_init 23 = .ok (.invokespecial 20, 3) := by decide +kernel
theorem d_Blocks_init_26 : decode b_Blocks_init 26 = .ok (.putfield 23, 3) := by decide +kernel
theorem d_Blocks_init_29 : decode b_Blocks_init 29 = .ok (.return_, 1) := by decide +kernel
theorem d_Row_init_0 : decode b_Row_init 0 = .ok (.aload_n 0, 1) := by decide +kernel
theorem d_Row_init_1 : decode b_Row_init 1 = .ok (.invokespecial 3, 3) := by decide +kernel
theorem d_Row_init_4 : decode b_Row_init 4 = .ok (.aload_n 0, 1) := by decide +kernel
theorem d_Row_init_5 : decode b_Row_init 5 = .ok (.bipush 90, 2) := by decide +kernel
theorem d_Row_init_7 : decode b_Row_init 7 = .ok (.newarray .int, 2) := by decide +kernel
theorem d_Row_init_9 : decode b_Row_init 9 = .ok (.putfield 9, 3) := by decide +kernel
theorem d_Row_init_12 : decode b_Row_init 12 = .ok (.aload_n 0, 1) := by decide +kernel
theorem d_Row_init_13 : decode b_Row_init 13 = .ok (.bipush 90, 2) := by decide +kernel
theorem d_Row_init_15 : decode b_Row_init 15 = .ok (.newarray .int, 2) := by decide +kernel
theorem d_Row_init_17 : decode b_Row_init 17 = .ok (.putfield 15, 3) := by decide +kernel
theorem d_Row_init_20 : decode b_Row_init 20 = .ok (.aload_n 0, 1) := by decide +kernel
theorem d_Row_init_21 : decode b_Row_init 21 = .ok (.bipush 90, 2) := by decide +kernel
theorem d_Row_init_23 : decode b_Row_init 23 = .ok (.newarray .int, 2) := by decide +kernel
theorem d_Row_init_25 : decode b_Row_init 25 = .ok (.putfield 18, 3) := by decide +kernel
theorem d_Row_init_28 : decode b_Row_init 28 = .ok (.return_, 1) := by decide +kernel
theorem d_Resolver_init_0 : decode b_Resolver_init 0 = .ok (.aload_n 0, 1) := by decide +kernel
theorem d_Resolver_init_1 : decode b_Resolver_init 1 = .ok (.invokespecial 3, 3) := by decide +kernel
theorem d_Resolver_init_4 : decode b_Resolver_init 4 = .ok (.aload_n 0, 1) := by decide +kernel
theorem d_Resolver_init_5 : decode b_Resolver_init 5 = .ok (.bipush 90, 2) := by decide +kernel
theorem d_Resolver_init_7 : decode b_Resolver_init 7 = .ok (.newarray .int, 2) := by decide +kernel
theorem d_Resolver_init_9 : decode b_Resolver_init 9 = .ok (.putfield 9, 3) := by decide +kernel
theorem d_Resolver_init_12 : decode b_Resolver_init 12 = .ok (.aload_n 0, 1) := by decide +kernel
theorem d_Resolver_init_13 : decode b_Resolver_init 13 = .ok (.bipush 90, 2) := by decide +kernel
theorem d_Resolver_init_15 : decode b_Resolver_init 15 = .ok (.newarray .int, 2) := by decide +kernel
theorem d_Resolver_init_17 : decode b_Resolver_init 17 = .ok (.putfield 15, 3) := by decide +kernel
theorem d_Resolver_init_20 : decode b_Resolver_init 20 = .ok (.aload_n 0, 1) := by decide +kernel
theorem d_Resolver_init_21 : decode b_Resolver_init 21 = .ok (.bipush 90, 2) := by decide +kernel
theorem d_Resolver_init_23 : decode b_Resolver_init 23 = .ok (.newarray .int, 2) := by decide +kernel
theorem d_Resolver_init_25 : decode b_Resolver_init 25 = .ok (.putfield 18, 3) := by decide +kernel
theorem d_Resolver_init_28 : decode b_Resolver_init 28 = .ok (.aload_n 0, 1) := by decide +kernel
theorem d_Resolver_init_29 : decode b_Resolver_init 29 = .ok (.bipush 90, 2) := by decide +kernel
theorem d_Resolver_init_31 : decode b_Resolver_init 31 = .ok (.newarray .int, 2) := by decide +kernel
theorem d_Resolver_init_33 : decode b_Resolver_init 33 = .ok (.putfield 21, 3) := by decide +kernel
theorem d_Resolver_init_36 : decode b_Resolver_init 36 = .ok (.aload_n 0, 1) := by decide +kernel
theorem d_Resolver_init_37 : decode b_Resolver_init 37 = .ok (.bipush 90, 2) := by decide +kernel
theorem d_Resolver_init_39 : decode b_Resolver_init 39 = .ok (.newarray .int, 2) := by decide +kernel
theorem d_Resolver_init_41 : decode b_Resolver_init 41 = .ok (.putfield 24, 3) := by decide +kernel
theorem d_Resolver_init_44 : decode b_Resolver_init 44 = .ok (.aload_n 0, 1) := by decide +kernel
theorem d_Resolver_init_45 : decode b_Resolver_init 45 = .ok (.bipush 90, 2) := by decide +kernel
theorem d_Resolver_init_47 : decode b_Resolver_init 47 = .ok (.newarray .int, 2) := by decide +kernel
theorem d_Resolver_init_49 : decode b_Resolver_init 49 = .ok (.putfield 27, 3) := by decide +kernel
theorem d_Resolver_init_52 : decode b_Resolver_init 52 = .ok (.aload_n 0, 1) := by decide +kernel
theorem d_Resolver_init_53 : decode b_Resolver_init 53 = .ok (.bipush 90, 2) := by decide +kernel
theorem d_Resolver_init_55 : decode b_Resolver_init 55 = .ok (.newarray .int, 2) := by decide +kernel
theorem d_Resolver_init_57 : decode b_Resolver_init 57 = .ok (.putfield 30, 3) := by decide +kernel
theorem d_Resolver_init_60 : decode b_Resolver_init 60 = .ok (.return_, 1) := by decide +kernel
theorem d_Rows_init_0 : decode b_Rows_init 0 = .ok (.aload_n 0, 1) := by decide +kernel
theorem d_Rows_init_1 : decode b_Rows_init 1 = .ok (.invokespecial 3, 3) := by decide +kernel
theorem d_Rows_init_4 : decode b_Rows_init 4 = .ok (.aload_n 0, 1) := by decide +kernel
theorem d_Rows_init_5 : decode b_Rows_init 5 = .ok (.sipush 362, 3) := by decide +kernel
theorem d_Rows_init_8 : decode b_Rows_init 8 = .ok (.newarray .int, 2) := by decide +kernel
theorem d_Rows_init_10 : decode b_Rows_init 10 = .ok (.putfield 9, 3) := by decide +kernel
theorem d_Rows_init_13 : decode b_Rows_init 13 = .ok (.aload_n 0, 1) := by decide +kernel
theorem d_Rows_init_14 : decode b_Rows_init 14 = .ok (.bipush 90, 2) := by decide +kernel
theorem d_Rows_init_16 : decode b_Rows_init 16 = .ok (.newarray .int, 2) := by decide +kernel
theorem d_Rows_init_18 : decode b_Rows_init 18 = .ok (.putfield 15, 3) := by decide +kernel
theorem d_Rows_init_21 : decode b_Rows_init 21 = .ok (.aload_n 0, 1) := by decide +kernel
theorem d_Rows_init_22 : decode b_Rows_init 22 = .ok (.sipush 362, 3) := by decide +kernel
theorem d_Rows_init_25 : decode b_Rows_init 25 = .ok (.newarray .int, 2) := by decide +kernel
theorem d_Rows_init_27 : decode b_Rows_init 27 = .ok (.putfield 18, 3) := by decide +kernel
theorem d_Rows_init_30 : decode b_Rows_init 30 = .ok (.aload_n 0, 1) := by decide +kernel
theorem d_Rows_init_31 : decode b_Rows_init 31 = .ok (.sipush 362, 3) := by decide +kernel
theorem d_Rows_init_34 : decode b_Rows_init 34 = .ok (.newarray .int, 2) := by decide +kernel
theorem d_Rows_init_36 : decode b_Rows_init 36 = .ok (.putfield 21, 3) := by decide +kernel
theorem d_Rows_init_39 : decode b_Rows_init 39 = .ok (.aload_n 0, 1) := by decide +kernel
theorem d_Rows_init_40 : decode b_Rows_init 40 = .ok (.new 24, 3) := by decide +kernel
theorem d_Rows_init_43 : decode b_Rows_init 43 = .ok (.dup, 1) := by decide +kernel
theorem d_Rows_init_44 : decode b_Rows_init 44 = .ok (.invokespecial 26, 3) := by decide +kernel
theorem d_Rows_init_47 : decode b_Rows_init 47 = .ok (.putfield 27, 3) := by decide +kernel
theorem d_Rows_init_50 : decode b_Rows_init 50 = .ok (.aload_n 0, 1) := by decide +kernel
theorem d_Rows_init_51 : decode b_Rows_init 51 = .ok (.new 31, 3) := by decide +kernel
theorem d_Rows_init_54 : decode b_Rows_init 54 = .ok (.dup, 1) := by decide +kernel
theorem d_Rows_init_55 : decode b_Rows_init 55 = .ok (.invokespecial 33, 3) := by decide +kernel
theorem d_Rows_init_58 : decode b_Rows_init 58 = .ok (.putfield 34, 3) := by decide +kernel
theorem d_Rows_init_61 : decode b_Rows_init 61 = .ok (.return_, 1) := by decide +kernel
theorem d_LF_init_0 : decode b_LF_init 0 = .ok (.aload_n 0, 1) := by decide +kernel
theorem d_LF_init_1 : decode b_LF_init 1 = .ok (.invokespecial 3, 3) := by decide +kernel
theorem d_LF_init_4 : decode b_LF_init 4 = .ok (.aload_n 0, 1) := by decide +kernel
theorem d_LF_init_5 : decode b_LF_init 5 = .ok (.new 9, 3) := by decide +kernel
theorem d_LF_init_8 : decode b_LF_init 8 = .ok (.dup, 1) := by decide +kernel
theorem d_LF_init_9 : decode b_LF_init 9 = .ok (.invokespecial 11, 3) := by decide +kernel
theorem d_LF_init_12 : decode b_LF_init 12 = .ok (.putfield 12, 3) := by decide +kernel
theorem d_LF_init_15 : decode b_LF_init 15 = .ok (.aload_n 0, 1) := by decide +kernel
theorem d_LF_init_16 : decode b_LF_init 16 = .ok (.new 16, 3) := by decide +kernel
theorem d_LF_init_19 : decode b_LF_init 19 = .ok (.dup, 1) := by decide +kernel
theorem d_LF_init_20 : decode b_LF_init 20 = .ok (.invokespecial 18, 3) := by decide +kernel
theorem d_LF_init_23 : decode b_LF_init 23 = .ok (.putfield 19, 3) := by decide +kernel
theorem d_LF_init_26 : decode b_LF_init 26 = .ok (.aload_n 0, 1) := by decide +kernel
theorem d_LF_init_27 : decode b_LF_init 27 = .ok (.new 23, 3) := by decide +kernel
theorem d_LF_init_30 : decode b_LF_init 30 = .ok (.dup, 1) := by decide +kernel
theorem d_LF_init_31 : decode b_LF_init 31 = .ok (.invokespecial 25, 3) := by decide +kernel
theorem d_LF_init_34 : decode b_LF_init 34 = .ok (.putfield 26, 3) := by decide +kernel
theorem d_LF_init_37 : decode b_LF_init 37 = .ok (.aload_n 0, 1) := by decide +kernel
theorem d_LF_init_38 : decode b_LF_init 38 = .ok (.new 30, 3) := by decide +kernel
theorem d_LF_init_41 : decode b_LF_init 41 = .ok (.dup, 1) := by decide +kernel
theorem d_LF_init_42 : decode b_LF_init 42 = .ok (.invokespecial 32, 3) := by decide +kernel
theorem d_LF_init_45 : decode b_LF_init 45 = .ok (.putfield 33, 3) := by decide +kernel
theorem d_LF_init_48 : decode b_LF_init 48 = .ok (.aload_n 0, 1) := by decide +kernel
theorem d_LF_init_49 : decode b_LF_init 49 = .ok (.new 37, 3) := by decide +kernel
theorem d_LF_init_52 : decode b_LF_init 52 = .ok (.dup, 1) := by decide +kernel
theorem d_LF_init_53 : decode b_LF_init 53 = .ok (.invokespecial 39, 3) := by decide +kernel
theorem d_LF_init_56 : decode b_LF_init 56 = .ok (.putfield 40, 3) := by decide +kernel
theorem d_LF_init_59 : decode b_LF_init 59 = .ok (.aload_n 0, 1) := by decide +kernel
theorem d_LF_init_60 : decode b_LF_init 60 = .ok (.new 44, 3) := by decide +kernel
theorem d_LF_init_63 : decode b_LF_init 63 = .ok (.dup, 1) := by decide +kernel
theorem d_LF_init_64 : decode b_LF_init 64 = .ok (.sipush 542, 3) := by decide +kernel
theorem d_LF_init_67 : decode b_LF_init 67 = .ok (.invokespecial 46, 3) := by decide +kernel
theorem d_LF_init_70 : decode b_LF_init 70 = .ok (.putfield 49, 3) := by decide +kernel
theorem d_LF_init_73 : decode b_LF_init 73 = .ok (.aload_n 0, 1) := by decide +kernel
theorem d_LF_init_74 : decode b_LF_init 74 = .ok (.iconst 5, 1) := by decide +kernel
theorem d_LF_init_75 : decode b_LF_init 75 = .ok (.newarray .int, 2) := by decide +kernel
theorem d_LF_init_77 : decode b_LF_init 77 = .ok (.putfield 53, 3) := by decide +kernel
theorem d_LF_init_80 : decode b_LF_init 80 = .ok (.aload_n 0, 1) := by decide +kernel
theorem d_LF_init_81 : decode b_LF_init 81 = .ok (.iconst (-1), 1) := by decide +kernel
theorem d_LF_init_82 : decode b_LF_init 82 = .ok (.putfield 57, 3) := by decide +kernel
theorem d_LF_init_85 : decode b_LF_init 85 = .ok (.return_, 1) := by decide +kernel
theorem d_Tokens_clear_0 : decode b_Tokens_clear 0 = .ok (.aload_n 0, 1) := by decide +kernel
theorem d_Tokens_clear_1 : decode b_Tokens_clear 1 = .ok (.iconst 0, 1) := by decide +kernel
theorem d_Tokens_clear_2 : decode b_Tokens_clear 2 = .ok (.putfield 19, 3) := by decide +kernel
theorem d_Tokens_clear_5 : decode b_Tokens_clear 5 = .ok (.return_, 1) := by decide +kernel
theorem d_Lexemes_clear_0 : decode b_Lexemes_clear 0 = .ok (.aload_n 0, 1) := by decide +kernel
theorem d_Lexemes_clear_1 : decode b_Lexemes_clear 1 = .ok (.getfield 14, 3) := by decide +kernel
theorem d_Lexemes_clear_4 : decode b_Lexemes_clear 4 = .ok (.invokevirtual 31, 3) := by decide +kernel
theorem d_Lexemes_clear_7 : decode b_Lexemes_clear 7 = .ok (.return_, 1) := by decide +kernel
theorem d_Text_length_0 : decode b_Text_length 0 = .ok (.aload_n 0, 1) := by decide +kernel
theorem d_Text_length_1 : decode b_Text_length 1 = .ok (.getfield 19, 3) := by decide +kernel
theorem d_Text_length_4 : decode b_Text_length 4 = .ok (.ireturn, 1) := by decide +kernel
theorem d_Cutter_cut_0 : decode b_Cutter_cut 0 = .ok (.aload_n 0, 1) := by decide +kernel
theorem d_Cutter_cut_1 : decode b_Cutter_cut 1 = .ok (.getfield 12, 3) := by decide +kernel
theorem d_Cutter_cut_4 : decode b_Cutter_cut 4 = .ok (.invokevirtual 26, 3) := by decide +kernel
theorem d_Cutter_cut_7 : decode b_Cutter_cut 7 = .ok (.aload_n 0, 1) := by decide +kernel
theorem d_Cutter_cut_8 : decode b_Cutter_cut 8 = .ok (.iconst 0, 1) := by decide +kernel
theorem d_Cutter_cut_9 : decode b_Cutter_cut 9 = .ok (.putfield 29, 3) := by decide +kernel
theorem d_Cutter_cut_12 : decode b_Cutter_cut 12 = .ok (.aload_n 0, 1) := by decide +kernel
theorem d_Cutter_cut_13 : decode b_Cutter_cut 13 = .ok (.iconst 0, 1) := by decide +kernel
theorem d_Cutter_cut_14 : decode b_Cutter_cut 14 = .ok (.putfield 32, 3) := by decide +kernel
theorem d_Cutter_cut_17 : decode b_Cutter_cut 17 = .ok (.aload_n 0, 1) := by decide +kernel
theorem d_Cutter_cut_18 : decode b_Cutter_cut 18 = .ok (.iconst 1, 1) := by decide +kernel
theorem d_Cutter_cut_19 : decode b_Cutter_cut 19 = .ok (.putfield 35, 3) := by decide +kernel
theorem d_Cutter_cut_22 : decode b_Cutter_cut 22 = .ok (.aload_n 0, 1) := by decide +kernel
theorem d_Cutter_cut_23 : decode b_Cutter_cut 23 = .ok (.iconst (-1), 1) := by decide +kernel
theorem d_Cutter_cut_24 : decode b_Cutter_cut 24 = .ok (.putfield 18, 3) := by decide +kernel
theorem d_Cutter_cut_27 : decode b_Cutter_cut 27 = .ok (.aload_n 0, 1) := by decide +kernel
theorem d_Cutter_cut_28 : decode b_Cutter_cut 28 = .ok (.iconst 0, 1) := by decide +kernel
theorem d_Cutter_cut_29 : decode b_Cutter_cut 29 = .ok (.putfield 22, 3) := by decide +kernel
theorem d_Cutter_cut_32 : decode b_Cutter_cut 32 = .ok (.iconst 0, 1) := by decide +kernel
theorem d_Cutter_cut_33 : decode b_Cutter_cut 33 = .ok (.istore_n 2, 1) := by decide +kernel
theorem d_Cutter_cut_34 : decode b_Cutter_cut 34 = .ok (.iload_n 2, 1) := by decide +kernel
theorem d_Cutter_cut_35 : decode b_Cutter_cut 35 = .ok (.sipush 240, 3) := by decide +kernel
theorem d_Cutter_cut_38 : decode b_Cutter_cut 38 = .ok (.if_icmp .ge 84, 3) := by decide +kernel
theorem d_Cutter_cut_41 : decode b_Cutter_cut 41 = .ok (.aload_n 0, 1) := by decide +kernel
theorem d_Cutter_cut_42 : decode b_Cutter_cut 42 = .ok (.getfield 29, 3) := by decide +kernel
theorem d_Cutter_cut_45 : decode b_Cutter_cut 45 = .ok (.aload_n 1, 1) := by decide +kernel
theorem d_Cutter_cut_46 : decode b_Cutter_cut 46 = .ok (.invokevirtual 38, 3) := by decide +kernel
theorem d_Cutter_cut_49 : decode b_Cutter_cut 49 = .ok (.if_icmp .ge 73, 3) := by decide +kernel
theorem d_Cutter_cut_122 : decode b_Cutter_cut 122 = .ok (.aload_n 0, 1) := by decide +kernel
theorem d_Cutter_cut_123 : decode b_Cutter_cut 123 = .ok (.getfield 18, 3) := by decide +kernel
theorem d_Cutter_cut_126 : decode b_Cutter_cut 126 = .ok (.ireturn, 1) := by decide +kernel
theorem d_Cutter_foundTooMany_0 : decode b_Cutter_foundTooMany 0 = .ok (.aload_n 0, 1) := by decide +kernel
theorem d_Cutter_foundTooMany_1 : decode b_Cutter_foundTooMany 1 = .ok (.getfield 22, 3) := by decide +kernel
theorem d_Cutter_foundTooMany_4 : decode b_Cutter_foundTooMany 4 = .ok (.ireturn, 1) := by decide +kernel
theorem d_Cutter_lexemes_0 : decode b_Cutter_lexemes 0 = .ok (.aload_n 0, 1) := by decide +kernel
theorem d_Cutter_lexemes_1 : decode b_Cutter_lexemes 1 = .ok (.getfield 12, 3) := by decide +kernel
theorem d_Cutter_lexemes_4 : decode b_Cutter_lexemes 4 = .ok (.areturn, 1) := by decide +kernel
end
section
theorem d_Open_clear_0 : decode b_Open_clear 0 = .ok (.aload_n 0, 1) := by decide +kernel
theorem d_Open_clear_1 : decode b_Open_clear 1 = .ok (.iconst 0, 1) := by decide +kernel
theorem d_Open_clear_2 : decode b_Open_clear 2 = .ok (.putfield 15, 3) := by decide +kernel
theorem d_Open_clear_5 : decode b_Open_clear 5 = .ok (.aload_n 0, 1) := by decide +kernel
theorem d_Open_clear_6 : decode b_Open_clear 6 = .ok (.iconst 0, 1) := by decide +kernel
theorem d_Open_clear_7 : decode b_Open_clear 7 = .ok (.putfield 19, 3) := by decide +kernel
theorem d_Open_clear_10 : decode b_Open_clear 10 = .ok (.return_, 1) := by decide +kernel
theorem d_Tokens_size_0 : decode b_Tokens_size 0 = .ok (.aload_n 0, 1) := by decide +kernel
theorem d_Tokens_size_1 : decode b_Tokens_size 1 = .ok (.getfield 19, 3) := by decide +kernel
theorem d_Tokens_size_4 : decode b_Tokens_size 4 = .ok (.ireturn, 1) := by decide +kernel
theorem d_Lexemes_size_0 : decode b_Lexemes_size 0 = .ok (.aload_n 0, 1) := by decide +kernel
theorem d_Lexemes_size_1 : decode b_Lexemes_size 1 = .ok (.getfield 14, 3) := by decide +kernel
theorem d_Lexemes_size_4 : decode b_Lexemes_size 4 = .ok (.invokevirtual 34, 3) := by decide +kernel
theorem d_Lexemes_size_7 : decode b_Lexemes_size 7 = .ok (.ireturn, 1) := by decide +kernel
theorem d_Lexemes_tokens_0 : decode b_Lexemes_tokens 0 = .ok (.aload_n 0, 1) := by decide +kernel
theorem d_Lexemes_tokens_1 : decode b_Lexemes_tokens 1 = .ok (.getfield 14, 3) := by decide +kernel
theorem d_Lexemes_tokens_4 : decode b_Lexemes_tokens 4 = .ok (.areturn, 1) := by decide +kernel
theorem d_Tokens_isSign_0 : decode b_Tokens_isSign 0 = .ok (.iload_n 1, 1) := by decide +kernel
theorem d_Tokens_isSign_1 : decode b_Tokens_isSign 1 = .ok (.ifCond .lt 37, 3) := by decide +kernel
theorem d_Tokens_isSign_4 : decode b_Tokens_isSign 4 = .ok (.iload_n 1, 1) := by decide +kernel
theorem d_Tokens_isSign_5 : decode b_Tokens_isSign 5 = .ok (.aload_n 0, 1) := by decide +kernel
theorem d_Tokens_isSign_6 : decode b_Tokens_isSign 6 = .ok (.getfield 19, 3) := by decide +kernel
theorem d_Tokens_isSign_9 : decode b_Tokens_isSign 9 = .ok (.if_icmp .ge 29, 3) := by decide +kernel
theorem d_Tokens_isSign_12 : decode b_Tokens_isSign 12 = .ok (.aload_n 0, 1) := by decide +kernel
theorem d_Tokens_isSign_13 : decode b_Tokens_isSign 13 = .ok (.getfield 9, 3) := by decide +kernel
theorem d_Tokens_isSign_16 : decode b_Tokens_isSign 16 = .ok (.iload_n 1, 1) := by decide +kernel
theorem d_Tokens_isSign_17 : decode b_Tokens_isSign 17 = .ok (.iaload, 1) := by decide +kernel
theorem d_Tokens_isSign_18 : decode b_Tokens_isSign 18 = .ok (.iconst 3, 1) := by decide +kernel
theorem d_Tokens_isSign_19 : decode b_Tokens_isSign 19 = .ok (.if_icmp .ne 19, 3) := by decide +kernel
theorem d_Tokens_isSign_38 : decode b_Tokens_isSign 38 = .ok (.iconst 0, 1) := by decide +kernel
theorem d_Tokens_isSign_39 : decode b_Tokens_isSign 39 = .ok (.ireturn, 1) := by decide +kernel
theorem d_Tokens_has_0 : decode b_Tokens_has 0 = .ok (.iload_n 1, 1) := by decide +kernel
theorem d_Tokens_has_1 : decode b_Tokens_has 1 = .ok (.ifCond .lt 15, 3) := by decide +kernel
theorem d_Tokens_has_4 : decode b_Tokens_has 4 = .ok (.iload_n 1, 1) := by decide +kernel
theorem d_Tokens_has_5 : decode b_Tokens_has 5 = .ok (.aload_n 0, 1) := by decide +kernel
theorem d_Tokens_has_6 : decode b_Tokens_has 6 = .ok (.getfield 19, 3) := by decide +kernel
theorem d_Tokens_has_9 : decode b_Tokens_has 9 = .ok (.if_icmp .ge 7, 3) := by decide +kernel
theorem d_Tokens_has_12 : decode b_Tokens_has 12 = .ok (.iconst 1, 1) := by decide +kernel
theorem d_Tokens_has_13 : decode b_Tokens_has 13 = .ok (.goto 4, 3) := by decide +kernel
theorem d_Tokens_has_16 : decode b_Tokens_has 16 = .ok (.iconst 0, 1) := by decide +kernel
theorem d_Tokens_has_17 : decode b_Tokens_has 17 = .ok (.ireturn, 1) := by decide +kernel
theorem d_Tokens_wordAt_0 : decode b_Tokens_wordAt 0 = .ok (.aload_n 0, 1) := by decide +kernel
theorem d_Tokens_wordAt_1 : decode b_Tokens_wordAt 1 = .ok (.iload_n 1, 1) := by decide +kernel
theorem d_Tokens_wordAt_2 : decode b_Tokens_wordAt 2 = .ok (.invokevirtual 27, 3) := by decide +kernel
theorem d_Tokens_wordAt_5 : decode b_Tokens_wordAt 5 = .ok (.ifCond .eq 27, 3) := by decide +kernel
theorem d_Tokens_wordAt_32 : decode b_Tokens_wordAt 32 = .ok (.iconst (-1), 1) := by decide +kernel
theorem d_Tokens_wordAt_33 : decode b_Tokens_wordAt 33 = .ok (.ireturn, 1) := by decide +kernel
theorem d_Blocks_beginsBlock_0 : decode b_Blocks_beginsBlock 0 = .ok (.aload_n 0, 1) := by decide +kernel
theorem d_Blocks_beginsBlock_1 : decode b_Blocks_beginsBlock 1 = .ok (.iload_n 1, 1) := by decide +kernel
theorem d_Blocks_beginsBlock_2 : decode b_Blocks_beginsBlock 2 = .ok (.bipush 123, 2) := by decide +kernel
theorem d_Blocks_beginsBlock_4 : decode b_Blocks_beginsBlock 4 = .ok (.invokevirtual 99, 3) := by decide +kernel
theorem d_Blocks_beginsBlock_7 : decode b_Blocks_beginsBlock 7 = .ok (.ifCond .eq 5, 3) := by decide +kernel
theorem d_Blocks_beginsBlock_12 : decode b_Blocks_beginsBlock 12 = .ok (.aload_n 0, 1) := by decide +kernel
theorem d_Blocks_beginsBlock_13 : decode b_Blocks_beginsBlock 13 = .ok (.iload_n 1, 1) := by decide +kernel
theorem d_Blocks_beginsBlock_14 : decode b_Blocks_beginsBlock 14 = .ok (.iconst 1, 1) := by decide +kernel
theorem d_Blocks_beginsBlock_15 : decode b_Blocks_beginsBlock 15 = .ok (.isub, 1) := by decide +kernel
theorem d_Blocks_beginsBlock_16 : decode b_Blocks_beginsBlock 16 = .ok (.invokevirtual 64, 3) := by decide +kernel
theorem d_Blocks_beginsBlock_19 : decode b_Blocks_beginsBlock 19 = .ok (.tableswitch 31 0 3 #[29, 29, 29, 29], 29) := by decide +kernel
theorem d_Blocks_beginsBlock_50 : decode b_Blocks_beginsBlock 50 = .ok (.iload_n 1, 1) := by decide +kernel
theorem d_Blocks_beginsBlock_51 : decode b_Blocks_beginsBlock 51 = .ok (.ifCond .ne 7, 3) := by decide +kernel
theorem d_Blocks_beginsBlock_54 : decode b_Blocks_beginsBlock 54 = .ok (.iconst 1, 1) := by decide +kernel
theorem d_Blocks_beginsBlock_55 : decode b_Blocks_beginsBlock 55 = .ok (.goto 4, 3) := by decide +kernel
theorem d_Blocks_beginsBlock_59 : decode b_Blocks_beginsBlock 59 = .ok (.ireturn, 1) := by decide +kernel
theorem d_Lexemes_columnAt_0 : decode b_Lexemes_columnAt 0 = .ok (.aload_n 0, 1) := by decide +kernel
theorem d_Lexemes_columnAt_1 : decode b_Lexemes_columnAt 1 = .ok (.getfield 14, 3) := by decide +kernel
theorem d_Lexemes_columnAt_4 : decode b_Lexemes_columnAt 4 = .ok (.iload_n 1, 1) := by decide +kernel
theorem d_Lexemes_columnAt_5 : decode b_Lexemes_columnAt 5 = .ok (.invokevirtual 42, 3) := by decide +kernel
theorem d_Lexemes_columnAt_8 : decode b_Lexemes_columnAt 8 = .ok (.ifCond .eq 12, 3) := by decide +kernel
theorem d_Lexemes_columnAt_20 : decode b_Lexemes_columnAt 20 = .ok (.iconst 0, 1) := by decide +kernel
theorem d_Lexemes_columnAt_21 : decode b_Lexemes_columnAt 21 = .ok (.ireturn, 1) := by decide +kernel
theorem d_Tokens_add_0 : decode b_Tokens_add 0 = .ok (.aload_n 0, 1) := by decide +kernel
theorem d_Tokens_add_1 : decode b_Tokens_add 1 = .ok (.getfield 19, 3) := by decide +kernel
theorem d_Tokens_add_4 : decode b_Tokens_add 4 = .ok (.aload_n 0, 1) := by decide +kernel
theorem d_Tokens_add_5 : decode b_Tokens_add 5 = .ok (.getfield 9, 3) := by decide +kernel
theorem d_Tokens_add_8 : decode b_Tokens_add 8 = .ok (.arraylength, 1) := by decide +kernel
theorem d_Tokens_add_9 : decode b_Tokens_add 9 = .ok (.if_icmp .ge 33, 3) := by decide +kernel
theorem d_Tokens_add_12 : decode b_Tokens_add 12 = .ok (.aload_n 0, 1) := by decide +kernel
theorem d_Tokens_add_13 : decode b_Tokens_add 13 = .ok (.getfield 9, 3) := by decide +kernel
theorem d_Tokens_add_16 : decode b_Tokens_add 16 = .ok (.aload_n 0, 1) := by decide +kernel
theorem d_Tokens_add_17 : decode b_Tokens_add 17 = .ok (.getfield 19, 3) := by decide +kernel
theorem d_Tokens_add_20 : decode b_Tokens_add 20 = .ok (.iload_n 1, 1) := by decide +kernel
theorem d_Tokens_add_21 : decode b_Tokens_add 21 = .ok (.iastore, 1) := by decide +kernel
theorem d_Tokens_add_22 : decode b_Tokens_add 22 = .ok (.aload_n 0, 1) := by decide +kernel
theorem d_Tokens_add_23 : decode b_Tokens_add 23 = .ok (.getfield 15, 3) := by decide +kernel
theorem d_Tokens_add_26 : decode b_Tokens_add 26 = .ok (.aload_n 0, 1) := by decide +kernel
theorem d_Tokens_add_27 : decode b_Tokens_add 27 = .ok (.getfield 19, 3) := by decide +kernel
theorem d_Tokens_add_30 : decode b_Tokens_add 30 = .ok (.lload_n 2, 1) := by decide +kernel
theorem d_Tokens_add_31 : decode b_Tokens_add 31 = .ok (.lastore, 1) := by decide +kernel
theorem d_Tokens_add_32 : decode b_Tokens_add 32 = .ok (.aload_n 0, 1) := by decide +kernel
theorem d_Tokens_add_33 : decode b_Tokens_add 33 = .ok (.dup, 1) := by decide +kernel
theorem d_Tokens_add_34 : decode b_Tokens_add 34 = .ok (.getfield 19, 3) := by decide +kernel
theorem d_Tokens_add_37 : decode b_Tokens_add 37 = .ok (.iconst 1, 1) := by decide +kernel
theorem d_Tokens_add_38 : decode b_Tokens_add 38 = .ok (.iadd, 1) := by decide +kernel
theorem d_Tokens_add_39 : decode b_Tokens_add 39 = .ok (.putfield 19, 3) := by decide +kernel
theorem d_Tokens_add_42 : decode b_Tokens_add 42 = .ok (.return_, 1) := by decide +kernel
theorem d_Blocks_putIn_0 : decode b_Blocks_putIn 0 = .ok (.aload_n 0, 1) := by decide +kernel
theorem d_Blocks_putIn_1 : decode b_Blocks_putIn 1 = .ok (.getfield 23, 3) := by decide +kernel
theorem d_Blocks_putIn_4 : decode b_Blocks_putIn 4 = .ok (.iconst 4, 1) := by decide +kernel
theorem d_Blocks_putIn_5 : decode b_Blocks_putIn 5 = .ok (.iload_n 1, 1) := by decide +kernel
theorem d_Blocks_putIn_6 : decode b_Blocks_putIn 6 = .ok (.i2l, 1) := by decide +kernel
theorem d_Blocks_putIn_7 : decode b_Blocks_putIn 7 = .ok (.invokevirtual 74, 3) := by decide +kernel
theorem d_Blocks_putIn_10 : decode b_Blocks_putIn 10 = .ok (.return_, 1) := by decide +kernel
theorem d_Open_latestColumn_0 : decode b_Open_latestColumn 0 = .ok (.aload_n 0, 1) := by decide +kernel
theorem d_Open_latestColumn_1 : decode b_Open_latestColumn 1 = .ok (.getfield 15, 3) := by decide +kernel
theorem d_Open_latestColumn_4 : decode b_Open_latestColumn 4 = .ok (.iconst 1, 1) := by decide +kernel
theorem d_Open_latestColumn_5 : decode b_Open_latestColumn 5 = .ok (.isub, 1) := by decide +kernel
theorem d_Open_latestColumn_6 : decode b_Open_latestColumn 6 = .ok (.istore_n 1, 1) := by decide +kernel
theorem d_Open_latestColumn_7 : decode b_Open_latestColumn 7 = .ok (.iload_n 1, 1) := by decide +kernel
theorem d_Open_latestColumn_8 : decode b_Open_latestColumn 8 = .ok (.ifCond .lt 23, 3) := by decide +kernel
theorem d_Open_latestColumn_31 : decode b_Open_latestColumn 31 = .ok (.iconst 0, 1) := by decide +kernel
theorem d_Open_latestColumn_32 : decode b_Open_latestColumn 32 = .ok (.ireturn, 1) := by decide +kernel
theorem d_Blocks_begin_0 : decode b_Blocks_begin 0 = .ok (.aload_n 0, 1) := by decide +kernel
theorem d_Blocks_begin_1 : decode b_Blocks_begin 1 = .ok (.dup, 1) := by decide +kernel
theorem d_Blocks_begin_2 : decode b_Blocks_begin 2 = .ok (.getfield 27, 3) := by decide +kernel
theorem d_Blocks_begin_5 : decode b_Blocks_begin 5 = .ok (.iconst 1, 1) := by decide +kernel
theorem d_Blocks_begin_6 : decode b_Blocks_begin 6 = .ok (.iadd, 1) := by decide +kernel
theorem d_Blocks_begin_7 : decode b_Blocks_begin 7 = .ok (.putfield 27, 3) := by decide +kernel
theorem d_Blocks_begin_10 : decode b_Blocks_begin 10 = .ok (.aload_n 0, 1) := by decide +kernel
theorem d_Blocks_begin_11 : decode b_Blocks_begin 11 = .ok (.bipush 123, 2) := by decide +kernel
theorem d_Blocks_begin_13 : decode b_Blocks_begin 13 = .ok (.invokevirtual 103, 3) := by decide +kernel
theorem d_Blocks_begin_16 : decode b_Blocks_begin 16 = .ok (.iload_n 1, 1) := by decide +kernel
theorem d_Blocks_begin_17 : decode b_Blocks_begin 17 = .ok (.aload_n 0, 1) := by decide +kernel
theorem d_Blocks_begin_18 : decode b_Blocks_begin 18 = .ok (.getfield 12, 3) := by decide +kernel
theorem d_Blocks_begin_21 : decode b_Blocks_begin 21 = .ok (.invokevirtual 107, 3) := by decide +kernel
theorem d_Blocks_begin_24 : decode b_Blocks_begin 24 = .ok (.if_icmp .le 14, 3) := by decide +kernel
theorem d_Blocks_begin_38 : decode b_Blocks_begin 38 = .ok (.aload_n 0, 1) := by decide +kernel
theorem d_Blocks_begin_39 : decode b_Blocks_begin 39 = .ok (.bipush 125, 2) := by decide +kernel
theorem d_Blocks_begin_41 : decode b_Blocks_begin 41 = .ok (.invokevirtual 103, 3) := by decide +kernel
theorem d_Blocks_begin_44 : decode b_Blocks_begin 44 = .ok (.iload_n 1, 1) := by decide +kernel
theorem d_Blocks_begin_45 : decode b_Blocks_begin 45 = .ok (.ifCond .le 8, 3) := by decide +kernel
theorem d_Blocks_begin_53 : decode b_Blocks_begin 53 = .ok (.return_, 1) := by decide +kernel
theorem d_Blocks_putBefore_0 : decode b_Blocks_putBefore 0 = .ok (.aload_n 1, 1) := by decide +kernel
theorem d_Blocks_putBefore_1 : decode b_Blocks_putBefore 1 = .ok (.invokevirtual 48, 3) := by decide +kernel
theorem d_Blocks_putBefore_4 : decode b_Blocks_putBefore 4 = .ok (.iload_n 2, 1) := by decide +kernel
theorem d_Blocks_putBefore_5 : decode b_Blocks_putBefore 5 = .ok (.invokestatic 83, 3) := by decide +kernel
theorem d_Blocks_putBefore_8 : decode b_Blocks_putBefore 8 = .ok (.ifCond .eq 15, 3) := by decide +kernel
theorem d_Blocks_putBefore_11 : decode b_Blocks_putBefore 11 = .ok (.aload_n 0, 1) := by decide +kernel
theorem d_Blocks_putBefore_12 : decode b_Blocks_putBefore 12 = .ok (.aload_n 1, 1) := by decide +kernel
theorem d_Blocks_putBefore_13 : decode b_Blocks_putBefore 13 = .ok (.iload_n 2, 1) := by decide +kernel
theorem d_Blocks_putBefore_14 : decode b_Blocks_putBefore 14 = .ok (.invokevirtual 87, 3) := by decide +kernel
theorem d_Blocks_putBefore_17 : decode b_Blocks_putBefore 17 = .ok (.invokevirtual 90, 3) := by decide +kernel
theorem d_Blocks_putBefore_20 : decode b_Blocks_putBefore 20 = .ok (.goto 24, 3) := by decide +kernel
theorem d_Blocks_putBefore_44 : decode b_Blocks_putBefore 44 = .ok (.return_, 1) := by decide +kernel
theorem d_Open_size_0 : decode b_Open_size 0 = .ok (.aload_n 0, 1) := by decide +kernel
theorem d_Open_size_1 : decode b_Open_size 1 = .ok (.getfield 15, 3) := by decide +kernel
theorem d_Open_size_4 : decode b_Open_size 4 = .ok (.ireturn, 1) := by decide +kernel
theorem d_Blocks_closeBlocks_0 : decode b_Blocks_closeBlocks 0 = .ok (.aload_n 0, 1) := by decide +kernel
theorem d_Blocks_closeBlocks_1 : decode b_Blocks_closeBlocks 1 = .ok (.getfield 12, 3) := by decide +kernel
theorem d_Blocks_closeBlocks_4 : decode b_Blocks_closeBlocks 4 = .ok (.invokevirtual 82, 3) := by decide +kernel
theorem d_Blocks_closeBlocks_7 : decode b_Blocks_closeBlocks 7 = .ok (.istore_n 2, 1) := by decide +kernel
theorem d_Blocks_closeBlocks_8 : decode b_Blocks_closeBlocks 8 = .ok (.iload_n 2, 1) := by decide +kernel
theorem d_Blocks_closeBlocks_9 : decode b_Blocks_closeBlocks 9 = .ok (.ifCond .le 53, 3) := by decide +kernel
theorem d_Blocks_closeBlocks_62 : decode b_Blocks_closeBlocks 62 = .ok (.return_, 1) := by decide +kernel
theorem d_Blocks_lay_0 : decode b_Blocks_lay 0 = .ok (.aload_n 0, 1) := by decide +kernel
theorem d_Blocks_lay_1 : decode b_Blocks_lay 1 = .ok (.getfield 12, 3) := by decide +kernel
theorem d_Blocks_lay_4 : decode b_Blocks_lay 4 = .ok (.invokevirtual 35, 3) := by decide +kernel
theorem d_Blocks_lay_7 : decode b_Blocks_lay 7 = .ok (.aload_n 0, 1) := by decide +kernel
theorem d_Blocks_lay_8 : decode b_Blocks_lay 8 = .ok (.getfield 23, 3) := by decide +kernel
theorem d_Blocks_lay_11 : decode b_Blocks_lay 11 = .ok (.invokevirtual 38, 3) := by decide +kernel
theorem d_Blocks_lay_14 : decode b_Blocks_lay 14 = .ok (.aload_n 0, 1) := by decide +kernel
theorem d_Blocks_lay_15 : decode b_Blocks_lay 15 = .ok (.iconst 0, 1) := by decide +kernel
theorem d_Blocks_lay_16 : decode b_Blocks_lay 16 = .ok (.putfield 27, 3) := by decide +kernel
theorem d_Blocks_lay_19 : decode b_Blocks_lay 19 = .ok (.iconst 0, 1) := by decide +kernel
theorem d_Blocks_lay_20 : decode b_Blocks_lay 20 = .ok (.istore_n 3, 1) := by decide +kernel
theorem d_Blocks_lay_21 : decode b_Blocks_lay 21 = .ok (.iload_n 3, 1) := by decide +kernel
theorem d_Blocks_lay_22 : decode b_Blocks_lay 22 = .ok (.aload_n 1, 1) := by decide +kernel
theorem d_Blocks_lay_23 : decode b_Blocks_lay 23 = .ok (.invokevirtual 39, 3) := by decide +kernel
theorem d_Blocks_lay_26 : decode b_Blocks_lay 26 = .ok (.if_icmp .ge 88, 3) := by decide +kernel
theorem d_Blocks_lay_114 : decode b_Blocks_lay 114 = .ok (.aload_n 0, 1) := by decide +kernel
theorem d_Blocks_lay_115 : decode b_Blocks_lay 115 = .ok (.aload_n 1, 1) := by decide +kernel
theorem d_Blocks_lay_116 : decode b_Blocks_lay 116 = .ok (.aload_n 1, 1) := by decide +kernel
theorem d_Blocks_lay_117 : decode b_Blocks_lay 117 = .ok (.invokevirtual 39, 3) := by decide +kernel
theorem d_Blocks_lay_120 : decode b_Blocks_lay 120 = .ok (.invokevirtual 44, 3) := by decide +kernel
theorem d_Blocks_lay_123 : decode b_Blocks_lay 123 = .ok (.aload_n 0, 1) := by decide +kernel
theorem d_Blocks_lay_124 : decode b_Blocks_lay 124 = .ok (.iconst 1, 1) := by decide +kernel
theorem d_Blocks_lay_125 : decode b_Blocks_lay 125 = .ok (.invokevirtual 78, 3) := by decide +kernel
theorem d_Blocks_lay_128 : decode b_Blocks_lay 128 = .ok (.aload_n 0, 1) := by decide +kernel
theorem d_Blocks_lay_129 : decode b_Blocks_lay 129 = .ok (.getfield 12, 3) := by decide +kernel
theorem d_Blocks_lay_132 : decode b_Blocks_lay 132 = .ok (.invokevirtual 82, 3) := by decide +kernel
theorem d_Blocks_lay_135 : decode b_Blocks_lay 135 = .ok (.ifCond .ne 7, 3) := by decide +kernel
theorem d_Blocks_lay_138 : decode b_Blocks_lay 138 = .ok (.iconst (-1), 1) := by decide +kernel
theorem d_Blocks_lay_139 : decode b_Blocks_lay 139 = .ok (.goto 4, 3) := by decide +kernel
theorem d_Blocks_lay_143 : decode b_Blocks_lay 143 = .ok (.ireturn, 1) := by decide +kernel
theorem d_Blocks_laid_0 : decode b_Blocks_laid 0 = .ok (.aload_n 0, 1) := by decide +kernel
theorem d_Blocks_laid_1 : decode b_Blocks_laid 1 = .ok (.getfield 23, 3) := by decide +kernel
theorem d_Blocks_laid_4 : decode b_Blocks_laid 4 = .ok (.areturn, 1) := by decide +kernel
theorem d_Resolver_startRow_0 : decode b_Resolver_startRow 0 = .ok (.aload_n 0, 1) := by decide +kernel
theorem d_Resolver_startRow_1 : decode b_Resolver_startRow 1 = .ok (.aload_n 0, 1) := by decide +kernel
theorem d_Resolver_startRow_2 : decode b_Resolver_startRow 2 = .ok (.getfield 33, 3) := by decide +kernel
theorem d_Resolver_startRow_5 : decode b_Resolver_startRow 5 = .ok (.putfield 40, 3) := by decide +kernel
theorem d_Resolver_startRow_8 : decode b_Resolver_startRow 8 = .ok (.aload_n 0, 1) := by decide +kernel
theorem d_Resolver_startRow_9 : decode b_Resolver_startRow 9 = .ok (.iconst 0, 1) := by decide +kernel
theorem d_Resolver_startRow_10 : decode b_Resolver_startRow 10 = .ok (.putfield 43, 3) := by decide +kernel
theorem d_Resolver_startRow_13 : decode b_Resolver_startRow 13 = .ok (.aload_n 0, 1) := by decide +kernel
theorem d_Resolver_startRow_14 : decode b_Resolver_startRow 14 = .ok (.iconst 0, 1) := by decide +kernel
theorem d_Resolver_startRow_15 : decode b_Resolver_startRow 15 = .ok (.putfield 46, 3) := by decide +kernel
theorem d_Resolver_startRow_18 : decode b_Resolver_startRow 18 = .ok (.return_, 1) := by decide +kernel
theorem d_Resolver_clear_0 : decode b_Resolver_clear 0 = .ok (.aload_n 0, 1) := by decide +kernel
theorem d_Resolver_clear_1 : decode b_Resolver_clear 1 = .ok (.iconst 0, 1) := by decide +kernel
theorem d_Resolver_clear_2 : decode b_Resolver_clear 2 = .ok (.putfield 33, 3) := by decide +kernel
theorem d_Resolver_clear_5 : decode b_Resolver_clear 5 = .ok (.aload_n 0, 1) := by decide +kernel
theorem d_Resolver_clear_6 : decode b_Resolver_clear 6 = .ok (.invokevirtual 37, 3) := by decide +kernel
theorem d_Resolver_clear_9 : decode b_Resolver_clear 9 = .ok (.return_, 1) := by decide +kernel
theorem d_Tokens_opensBracket_0 : decode b_Tokens_opensBracket 0 = .ok (.aload_n 0, 1) := by decide +kernel
theorem d_Tokens_opensBracket_1 : decode b_Tokens_opensBracket 1 = .ok (.iload_n 1, 1) := by decide +kernel
theorem d_Tokens_opensBracket_2 : decode b_Tokens_opensBracket 2 = .ok (.bipush 40, 2) := by decide +kernel
theorem d_Tokens_opensBracket_4 : decode b_Tokens_opensBracket 4 = .ok (.invokevirtual 31, 3) := by decide +kernel
theorem d_Tokens_opensBracket_7 : decode b_Tokens_opensBracket 7 = .ok (.ifCond .ne 13, 3) := by decide +kernel
theorem d_Tokens_opensBracket_10 : decode b_Tokens_opensBracket 10 = .ok (.aload_n 0, 1) := by decide +kernel
theorem d_Tokens_opensBracket_11 : decode b_Tokens_opensBracket 11 = .ok (.iload_n 1, 1) := by decide +kernel
theorem d_Tokens_opensBracket_12 : decode b_Tokens_opensBracket 12 = .ok (.bipush 91, 2) := by decide +kernel
theorem d_Tokens_opensBracket_14 : decode b_Tokens_opensBracket 14 = .ok (.invokevirtual 31, 3) := by decide +kernel
theorem d_Tokens_opensBracket_17 : decode b_Tokens_opensBracket 17 = .ok (.ifCond .eq 7, 3) := by decide +kernel
theorem d_Tokens_opensBracket_24 : decode b_Tokens_opensBracket 24 = .ok (.iconst 0, 1) := by decide +kernel
theorem d_Tokens_opensBracket_25 : decode b_Tokens_opensBracket 25 = .ok (.ireturn, 1) := by decide +kernel
theorem d_Tokens_closesBracket_0 : decode b_Tokens_closesBracket 0 = .ok (.aload_n 0, 1) := by decide +kernel
theorem d_Tokens_closesBracket_1 : decode b_Tokens_closesBracket 1 = .ok (.iload_n 1, 1) := by decide +kernel
theorem d_Tokens_closesBracket_2 : decode b_Tokens_closesBracket 2 = .ok (.bipush 41, 2) := by decide +kernel
theorem d_Tokens_closesBracket_4 : decode b_Tokens_closesBracket 4 = .ok (.invokevirtual 31, 3) := by decide +kernel
theorem d_Tokens_closesBracket_7 : decode b_Tokens_closesBracket 7 = .ok (.ifCond .ne 13, 3) := by decide +kernel
theorem d_Tokens_closesBracket_10 : decode b_Tokens_closesBracket 10 = .ok (.aload_n 0, 1) := by decide +kernel
theorem d_Tokens_closesBracket_11 : decode b_Tokens_closesBracket 11 = .ok (.iload_n 1, 1) := by decide +kernel
theorem d_Tokens_closesBracket_12 : decode b_Tokens_closesBracket 12 = .ok (.bipush 93, 2) := by decide +kernel
theorem d_Tokens_closesBracket_14 : decode b_Tokens_closesBracket 14 = .ok (.invokevirtual 31, 3) := by decide +kernel
theorem d_Tokens_closesBracket_17 : decode b_Tokens_closesBracket 17 = .ok (.ifCond .eq 7, 3) := by decide +kernel
theorem d_Tokens_closesBracket_24 : decode b_Tokens_closesBracket 24 = .ok (.iconst 0, 1) := by decide +kernel
theorem d_Tokens_closesBracket_25 : decode b_Tokens_closesBracket 25 = .ok (.ireturn, 1) := by decide +kernel
theorem d_Rows_matchBrackets_0 : decode b_Rows_matchBrackets 0 = .ok (.iconst 0, 1) := by decide +kernel
theorem d_Rows_matchBrackets_1 : decode b_Rows_matchBrackets 1 = .ok (.istore_n 2, 1) := by decide +kernel
theorem d_Rows_matchBrackets_2 : decode b_Rows_matchBrackets 2 = .ok (.iconst 0, 1) := by decide +kernel
theorem d_Rows_matchBrackets_3 : decode b_Rows_matchBrackets 3 = .ok (.istore_n 3, 1) := by decide +kernel
theorem d_Rows_matchBrackets_4 : decode b_Rows_matchBrackets 4 = .ok (.iload_n 3, 1) := by decide +kernel
theorem d_Rows_matchBrackets_5 : decode b_Rows_matchBrackets 5 = .ok (.aload_n 1, 1) := by decide +kernel
theorem d_Rows_matchBrackets_6 : decode b_Rows_matchBrackets 6 = .ok (.invokevirtual 52, 3) := by decide +kernel
theorem d_Rows_matchBrackets_9 : decode b_Rows_matchBrackets 9 = .ok (.if_icmp .ge 77, 3) := by decide +kernel
theorem d_Rows_matchBrackets_12 : decode b_Rows_matchBrackets 12 = .ok (.iload_n 3, 1) := by decide +kernel
theorem d_Rows_matchBrackets_13 : decode b_Rows_matchBrackets 13 = .ok (.sipush 362, 3) := by decide +kernel
theorem d_Rows_matchBrackets_16 : decode b_Rows_matchBrackets 16 = .ok (.if_icmp .ge 70, 3) := by decide +kernel
theorem d_Rows_matchBrackets_19 : decode b_Rows_matchBrackets 19 = .ok (.aload_n 0, 1) := by decide +kernel
theorem d_Rows_matchBrackets_20 : decode b_Rows_matchBrackets 20 = .ok (.getfield 9, 3) := by decide +kernel
theorem d_Rows_matchBrackets_23 : decode b_Rows_matchBrackets 23 = .ok (.iload_n 3, 1) := by decide +kernel
theorem d_Rows_matchBrackets_24 : decode b_Rows_matchBrackets 24 = .ok (.iload_n 3, 1) := by decide +kernel
theorem d_Rows_matchBrackets_25 : decode b_Rows_matchBrackets 25 = .ok (.iastore, 1) := by decide +kernel
theorem d_Rows_matchBrackets_26 : decode b_Rows_matchBrackets 26 = .ok (.aload_n 1, 1) := by decide +kernel
theorem d_Rows_matchBrackets_27 : decode b_Rows_matchBrackets 27 = .ok (.iload_n 3, 1) := by decide +kernel
theorem d_Rows_matchBrackets_28 : decode b_Rows_matchBrackets 28 = .ok (.invokevirtual 62, 3) := by decide +kernel
theorem d_Rows_matchBrackets_31 : decode b_Rows_matchBrackets 31 = .ok (.ifCond .eq 22, 3) := by decide +kernel
theorem d_Rows_matchBrackets_53 : decode b_Rows_matchBrackets 53 = .ok (.aload_n 1, 1) := by decide +kernel
theorem d_Rows_matchBrackets_54 : decode b_Rows_matchBrackets 54 = .ok (.iload_n 3, 1) := by decide +kernel
theorem d_Rows_matchBrackets_55 : decode b_Rows_matchBrackets 55 = .ok (.invokevirtual 93, 3) := by decide +kernel
end
section
theorem d_Rows_matchBrackets_58 : decode b_Rows_matchBrackets 58 = .ok (.ifCond .eq 22, 3) := by decide +kernel
theorem d_Rows_matchBrackets_80 : decode b_Rows_matchBrackets 80 = .ok (.iinc 3 1, 3) := by decide +kernel
theorem d_Rows_matchBrackets_83 : decode b_Rows_matchBrackets 83 = .ok (.goto (-79), 3) := by decide +kernel
theorem d_Rows_matchBrackets_86 : decode b_Rows_matchBrackets 86 = .ok (.return_, 1) := by decide +kernel
theorem d_Row_clear_0 : decode b_Row_clear 0 = .ok (.aload_n 0, 1) := by decide +kernel
theorem d_Row_clear_1 : decode b_Row_clear 1 = .ok (.iconst 0, 1) := by decide +kernel
theorem d_Row_clear_2 : decode b_Row_clear 2 = .ok (.putfield 21, 3) := by decide +kernel
theorem d_Row_clear_5 : decode b_Row_clear 5 = .ok (.aload_n 0, 1) := by decide +kernel
theorem d_Row_clear_6 : decode b_Row_clear 6 = .ok (.iconst 0, 1) := by decide +kernel
theorem d_Row_clear_7 : decode b_Row_clear 7 = .ok (.putfield 25, 3) := by decide +kernel
theorem d_Row_clear_10 : decode b_Row_clear 10 = .ok (.aload_n 0, 1) := by decide +kernel
theorem d_Row_clear_11 : decode b_Row_clear 11 = .ok (.iconst 0, 1) := by decide +kernel
theorem d_Row_clear_12 : decode b_Row_clear 12 = .ok (.putfield 29, 3) := by decide +kernel
theorem d_Row_clear_15 : decode b_Row_clear 15 = .ok (.return_, 1) := by decide +kernel
theorem d_Tokens_isFreeName_0 : decode b_Tokens_isFreeName 0 = .ok (.aload_n 0, 1) := by decide +kernel
theorem d_Tokens_isFreeName_1 : decode b_Tokens_isFreeName 1 = .ok (.iload_n 1, 1) := by decide +kernel
theorem d_Tokens_isFreeName_2 : decode b_Tokens_isFreeName 2 = .ok (.invokevirtual 27, 3) := by decide +kernel
theorem d_Tokens_isFreeName_5 : decode b_Tokens_isFreeName 5 = .ok (.ifCond .eq 32, 3) := by decide +kernel
theorem d_Tokens_isFreeName_8 : decode b_Tokens_isFreeName 8 = .ok (.aload_n 0, 1) := by decide +kernel
theorem d_Tokens_isFreeName_9 : decode b_Tokens_isFreeName 9 = .ok (.getfield 9, 3) := by decide +kernel
theorem d_Tokens_isFreeName_12 : decode b_Tokens_isFreeName 12 = .ok (.iload_n 1, 1) := by decide +kernel
theorem d_Tokens_isFreeName_13 : decode b_Tokens_isFreeName 13 = .ok (.iaload, 1) := by decide +kernel
theorem d_Tokens_isFreeName_14 : decode b_Tokens_isFreeName 14 = .ok (.ifCond .ne 23, 3) := by decide +kernel
theorem d_Tokens_isFreeName_37 : decode b_Tokens_isFreeName 37 = .ok (.iconst 0, 1) := by decide +kernel
theorem d_Tokens_isFreeName_38 : decode b_Tokens_isFreeName 38 = .ok (.ireturn, 1) := by decide +kernel
theorem d_Tokens_kindAt_0 : decode b_Tokens_kindAt 0 = .ok (.aload_n 0, 1) := by decide +kernel
theorem d_Tokens_kindAt_1 : decode b_Tokens_kindAt 1 = .ok (.iload_n 1, 1) := by decide +kernel
theorem d_Tokens_kindAt_2 : decode b_Tokens_kindAt 2 = .ok (.invokevirtual 27, 3) := by decide +kernel
theorem d_Tokens_kindAt_5 : decode b_Tokens_kindAt 5 = .ok (.ifCond .eq 12, 3) := by decide +kernel
theorem d_Tokens_kindAt_8 : decode b_Tokens_kindAt 8 = .ok (.aload_n 0, 1) := by decide +kernel
theorem d_Tokens_kindAt_9 : decode b_Tokens_kindAt 9 = .ok (.getfield 9, 3) := by decide +kernel
theorem d_Tokens_kindAt_12 : decode b_Tokens_kindAt 12 = .ok (.iload_n 1, 1) := by decide +kernel
theorem d_Tokens_kindAt_13 : decode b_Tokens_kindAt 13 = .ok (.iaload, 1) := by decide +kernel
theorem d_Tokens_kindAt_14 : decode b_Tokens_kindAt 14 = .ok (.goto 4, 3) := by decide +kernel
theorem d_Tokens_kindAt_18 : decode b_Tokens_kindAt 18 = .ok (.ireturn, 1) := by decide +kernel
theorem d_Rows_behindOperand_0 : decode b_Rows_behindOperand 0 = .ok (.aload_n 1, 1) := by decide +kernel
theorem d_Rows_behindOperand_1 : decode b_Rows_behindOperand 1 = .ok (.iload_n 2, 1) := by decide +kernel
theorem d_Rows_behindOperand_2 : decode b_Rows_behindOperand 2 = .ok (.invokevirtual 62, 3) := by decide +kernel
theorem d_Rows_behindOperand_5 : decode b_Rows_behindOperand 5 = .ok (.ifCond .eq 11, 3) := by decide +kernel
theorem d_Rows_behindOperand_16 : decode b_Rows_behindOperand 16 = .ok (.aload_n 1, 1) := by decide +kernel
theorem d_Rows_behindOperand_17 : decode b_Rows_behindOperand 17 = .ok (.iload_n 2, 1) := by decide +kernel
theorem d_Rows_behindOperand_18 : decode b_Rows_behindOperand 18 = .ok (.invokevirtual 132, 3) := by decide +kernel
theorem d_Rows_behindOperand_21 : decode b_Rows_behindOperand 21 = .ok (.ifCond .ne 12, 3) := by decide +kernel
theorem d_Rows_behindOperand_24 : decode b_Rows_behindOperand 24 = .ok (.aload_n 1, 1) := by decide +kernel
theorem d_Rows_behindOperand_25 : decode b_Rows_behindOperand 25 = .ok (.iload_n 2, 1) := by decide +kernel
theorem d_Rows_behindOperand_26 : decode b_Rows_behindOperand 26 = .ok (.invokevirtual 80, 3) := by decide +kernel
theorem d_Rows_behindOperand_29 : decode b_Rows_behindOperand 29 = .ok (.iconst 1, 1) := by decide +kernel
theorem d_Rows_behindOperand_30 : decode b_Rows_behindOperand 30 = .ok (.if_icmp .ne 9, 3) := by decide +kernel
theorem d_Rows_behindOperand_39 : decode b_Rows_behindOperand 39 = .ok (.iload_n 2, 1) := by decide +kernel
theorem d_Rows_behindOperand_40 : decode b_Rows_behindOperand 40 = .ok (.ireturn, 1) := by decide +kernel
theorem d_Tokens_isFreeOperator_0 : decode b_Tokens_isFreeOperator 0 = .ok (.aload_n 0, 1) := by decide +kernel
theorem d_Tokens_isFreeOperator_1 : decode b_Tokens_isFreeOperator 1 = .ok (.iload_n 1, 1) := by decide +kernel
theorem d_Tokens_isFreeOperator_2 : decode b_Tokens_isFreeOperator 2 = .ok (.invokevirtual 27, 3) := by decide +kernel
theorem d_Tokens_isFreeOperator_5 : decode b_Tokens_isFreeOperator 5 = .ok (.ifCond .eq 33, 3) := by decide +kernel
theorem d_Tokens_isFreeOperator_8 : decode b_Tokens_isFreeOperator 8 = .ok (.aload_n 0, 1) := by decide +kernel
theorem d_Tokens_isFreeOperator_9 : decode b_Tokens_isFreeOperator 9 = .ok (.getfield 9, 3) := by decide +kernel
theorem d_Tokens_isFreeOperator_12 : decode b_Tokens_isFreeOperator 12 = .ok (.iload_n 1, 1) := by decide +kernel
theorem d_Tokens_isFreeOperator_13 : decode b_Tokens_isFreeOperator 13 = .ok (.iaload, 1) := by decide +kernel
theorem d_Tokens_isFreeOperator_14 : decode b_Tokens_isFreeOperator 14 = .ok (.iconst 2, 1) := by decide +kernel
theorem d_Tokens_isFreeOperator_15 : decode b_Tokens_isFreeOperator 15 = .ok (.if_icmp .ne 23, 3) := by decide +kernel
theorem d_Tokens_isFreeOperator_38 : decode b_Tokens_isFreeOperator 38 = .ok (.iconst 0, 1) := by decide +kernel
theorem d_Tokens_isFreeOperator_39 : decode b_Tokens_isFreeOperator 39 = .ok (.ireturn, 1) := by decide +kernel
theorem d_Rows_behindOperation_0 : decode b_Rows_behindOperation 0 = .ok (.aload_n 0, 1) := by decide +kernel
theorem d_Rows_behindOperation_1 : decode b_Rows_behindOperation 1 = .ok (.iload_n 1, 1) := by decide +kernel
theorem d_Rows_behindOperation_2 : decode b_Rows_behindOperation 2 = .ok (.bipush 96, 2) := by decide +kernel
theorem d_Rows_behindOperation_4 : decode b_Rows_behindOperation 4 = .ok (.invokevirtual 135, 3) := by decide +kernel
theorem d_Rows_behindOperation_7 : decode b_Rows_behindOperation 7 = .ok (.ifCond .eq 29, 3) := by decide +kernel
theorem d_Rows_behindOperation_36 : decode b_Rows_behindOperation 36 = .ok (.aload_n 0, 1) := by decide +kernel
theorem d_Rows_behindOperation_37 : decode b_Rows_behindOperation 37 = .ok (.iload_n 1, 1) := by decide +kernel
theorem d_Rows_behindOperation_38 : decode b_Rows_behindOperation 38 = .ok (.invokevirtual 139, 3) := by decide +kernel
theorem d_Rows_behindOperation_41 : decode b_Rows_behindOperation 41 = .ok (.ifCond .eq 9, 3) := by decide +kernel
theorem d_Rows_behindOperation_50 : decode b_Rows_behindOperation 50 = .ok (.iload_n 1, 1) := by decide +kernel
theorem d_Rows_behindOperation_51 : decode b_Rows_behindOperation 51 = .ok (.ireturn, 1) := by decide +kernel
theorem d_Rows_collectRow_0 : decode b_Rows_collectRow 0 = .ok (.aload_n 0, 1) := by decide +kernel
theorem d_Rows_collectRow_1 : decode b_Rows_collectRow 1 = .ok (.getfield 27, 3) := by decide +kernel
theorem d_Rows_collectRow_4 : decode b_Rows_collectRow 4 = .ok (.invokevirtual 108, 3) := by decide +kernel
theorem d_Rows_collectRow_7 : decode b_Rows_collectRow 7 = .ok (.iload_n 2, 1) := by decide +kernel
theorem d_Rows_collectRow_8 : decode b_Rows_collectRow 8 = .ok (.istore 4, 2) := by decide +kernel
theorem d_Rows_collectRow_10 : decode b_Rows_collectRow 10 = .ok (.iload_n 2, 1) := by decide +kernel
theorem d_Rows_collectRow_11 : decode b_Rows_collectRow 11 = .ok (.istore 5, 2) := by decide +kernel
theorem d_Rows_collectRow_13 : decode b_Rows_collectRow 13 = .ok (.iload 5, 2) := by decide +kernel
theorem d_Rows_collectRow_15 : decode b_Rows_collectRow 15 = .ok (.iload_n 3, 1) := by decide +kernel
theorem d_Rows_collectRow_16 : decode b_Rows_collectRow 16 = .ok (.if_icmp .ge 102, 3) := by decide +kernel
theorem d_Rows_collectRow_19 : decode b_Rows_collectRow 19 = .ok (.iload 4, 2) := by decide +kernel
theorem d_Rows_collectRow_21 : decode b_Rows_collectRow 21 = .ok (.iload_n 3, 1) := by decide +kernel
theorem d_Rows_collectRow_22 : decode b_Rows_collectRow 22 = .ok (.if_icmp .ge 96, 3) := by decide +kernel
theorem d_Rows_collectRow_25 : decode b_Rows_collectRow 25 = .ok (.aload_n 0, 1) := by decide +kernel
theorem d_Rows_collectRow_26 : decode b_Rows_collectRow 26 = .ok (.aload_n 1, 1) := by decide +kernel
theorem d_Rows_collectRow_27 : decode b_Rows_collectRow 27 = .ok (.iload 4, 2) := by decide +kernel
theorem d_Rows_collectRow_29 : decode b_Rows_collectRow 29 = .ok (.invokevirtual 109, 3) := by decide +kernel
theorem d_Rows_collectRow_32 : decode b_Rows_collectRow 32 = .ok (.istore 6, 2) := by decide +kernel
theorem d_Rows_collectRow_34 : decode b_Rows_collectRow 34 = .ok (.aload_n 1, 1) := by decide +kernel
theorem d_Rows_collectRow_35 : decode b_Rows_collectRow 35 = .ok (.iload 4, 2) := by decide +kernel
theorem d_Rows_collectRow_37 : decode b_Rows_collectRow 37 = .ok (.invokestatic 113, 3) := by decide +kernel
theorem d_Rows_collectRow_40 : decode b_Rows_collectRow 40 = .ok (.istore 7, 2) := by decide +kernel
theorem d_Rows_collectRow_42 : decode b_Rows_collectRow 42 = .ok (.iload 6, 2) := by decide +kernel
theorem d_Rows_collectRow_44 : decode b_Rows_collectRow 44 = .ok (.iload 4, 2) := by decide +kernel
theorem d_Rows_collectRow_46 : decode b_Rows_collectRow 46 = .ok (.if_icmp .le 19, 3) := by decide +kernel
theorem d_Rows_collectRow_65 : decode b_Rows_collectRow 65 = .ok (.iload 7, 2) := by decide +kernel
theorem d_Rows_collectRow_67 : decode b_Rows_collectRow 67 = .ok (.iload 4, 2) := by decide +kernel
theorem d_Rows_collectRow_69 : decode b_Rows_collectRow 69 = .ok (.if_icmp .le 49, 3) := by decide +kernel
theorem d_Rows_collectRow_118 : decode b_Rows_collectRow 118 = .ok (.iload 4, 2) := by decide +kernel
theorem d_Rows_collectRow_120 : decode b_Rows_collectRow 120 = .ok (.ireturn, 1) := by decide +kernel
theorem d_Row_isWhole_0 : decode b_Row_isWhole 0 = .ok (.aload_n 0, 1) := by decide +kernel
theorem d_Row_isWhole_1 : decode b_Row_isWhole 1 = .ok (.getfield 25, 3) := by decide +kernel
theorem d_Row_isWhole_4 : decode b_Row_isWhole 4 = .ok (.ifCond .eq 21, 3) := by decide +kernel
theorem d_Row_isWhole_25 : decode b_Row_isWhole 25 = .ok (.iconst 0, 1) := by decide +kernel
theorem d_Row_isWhole_26 : decode b_Row_isWhole 26 = .ok (.ireturn, 1) := by decide +kernel
theorem d_Rows_putLevelTogether_0 : decode b_Rows_putLevelTogether 0 = .ok (.iload_n 2, 1) := by decide +kernel
theorem d_Rows_putLevelTogether_1 : decode b_Rows_putLevelTogether 1 = .ok (.istore 5, 2) := by decide +kernel
theorem d_Rows_putLevelTogether_3 : decode b_Rows_putLevelTogether 3 = .ok (.iload_n 2, 1) := by decide +kernel
theorem d_Rows_putLevelTogether_4 : decode b_Rows_putLevelTogether 4 = .ok (.istore 6, 2) := by decide +kernel
theorem d_Rows_putLevelTogether_6 : decode b_Rows_putLevelTogether 6 = .ok (.iload 6, 2) := by decide +kernel
theorem d_Rows_putLevelTogether_8 : decode b_Rows_putLevelTogether 8 = .ok (.iload_n 3, 1) := by decide +kernel
theorem d_Rows_putLevelTogether_9 : decode b_Rows_putLevelTogether 9 = .ok (.if_icmp .ge 44, 3) := by decide +kernel
theorem d_Rows_putLevelTogether_12 : decode b_Rows_putLevelTogether 12 = .ok (.iload 5, 2) := by decide +kernel
theorem d_Rows_putLevelTogether_14 : decode b_Rows_putLevelTogether 14 = .ok (.iload_n 3, 1) := by decide +kernel
theorem d_Rows_putLevelTogether_15 : decode b_Rows_putLevelTogether 15 = .ok (.if_icmp .ge 38, 3) := by decide +kernel
theorem d_Rows_putLevelTogether_18 : decode b_Rows_putLevelTogether 18 = .ok (.aload_n 0, 1) := by decide +kernel
theorem d_Rows_putLevelTogether_19 : decode b_Rows_putLevelTogether 19 = .ok (.aload_n 1, 1) := by decide +kernel
theorem d_Rows_putLevelTogether_20 : decode b_Rows_putLevelTogether 20 = .ok (.iload 5, 2) := by decide +kernel
theorem d_Rows_putLevelTogether_22 : decode b_Rows_putLevelTogether 22 = .ok (.iload_n 3, 1) := by decide +kernel
theorem d_Rows_putLevelTogether_23 : decode b_Rows_putLevelTogether 23 = .ok (.invokevirtual 96, 3) := by decide +kernel
theorem d_Rows_putLevelTogether_26 : decode b_Rows_putLevelTogether 26 = .ok (.iconst 1, 1) := by decide +kernel
theorem d_Rows_putLevelTogether_27 : decode b_Rows_putLevelTogether 27 = .ok (.iadd, 1) := by decide +kernel
theorem d_Rows_putLevelTogether_28 : decode b_Rows_putLevelTogether 28 = .ok (.istore 5, 2) := by decide +kernel
theorem d_Rows_putLevelTogether_30 : decode b_Rows_putLevelTogether 30 = .ok (.aload_n 0, 1) := by decide +kernel
theorem d_Rows_putLevelTogether_31 : decode b_Rows_putLevelTogether 31 = .ok (.getfield 27, 3) := by decide +kernel
theorem d_Rows_putLevelTogether_34 : decode b_Rows_putLevelTogether 34 = .ok (.invokevirtual 100, 3) := by decide +kernel
theorem d_Rows_putLevelTogether_37 : decode b_Rows_putLevelTogether 37 = .ok (.ifCond .eq 10, 3) := by decide +kernel
theorem d_Rows_putLevelTogether_47 : decode b_Rows_putLevelTogether 47 = .ok (.iinc 6 1, 3) := by decide +kernel
theorem d_Rows_putLevelTogether_50 : decode b_Rows_putLevelTogether 50 = .ok (.goto (-44), 3) := by decide +kernel
theorem d_Rows_putLevelTogether_53 : decode b_Rows_putLevelTogether 53 = .ok (.return_, 1) := by decide +kernel
theorem d_Rows_putTogether_0 : decode b_Rows_putTogether 0 = .ok (.aload_n 0, 1) := by decide +kernel
theorem d_Rows_putTogether_1 : decode b_Rows_putTogether 1 = .ok (.iconst 0, 1) := by decide +kernel
theorem d_Rows_putTogether_2 : decode b_Rows_putTogether 2 = .ok (.putfield 38, 3) := by decide +kernel
theorem d_Rows_putTogether_5 : decode b_Rows_putTogether 5 = .ok (.aload_n 0, 1) := by decide +kernel
theorem d_Rows_putTogether_6 : decode b_Rows_putTogether 6 = .ok (.iconst 0, 1) := by decide +kernel
theorem d_Rows_putTogether_7 : decode b_Rows_putTogether 7 = .ok (.putfield 42, 3) := by decide +kernel
theorem d_Rows_putTogether_10 : decode b_Rows_putTogether 10 = .ok (.aload_n 0, 1) := by decide +kernel
theorem d_Rows_putTogether_11 : decode b_Rows_putTogether 11 = .ok (.getfield 34, 3) := by decide +kernel
theorem d_Rows_putTogether_14 : decode b_Rows_putTogether 14 = .ok (.invokevirtual 45, 3) := by decide +kernel
theorem d_Rows_putTogether_17 : decode b_Rows_putTogether 17 = .ok (.aload_n 0, 1) := by decide +kernel
theorem d_Rows_putTogether_18 : decode b_Rows_putTogether 18 = .ok (.aload_n 1, 1) := by decide +kernel
theorem d_Rows_putTogether_19 : decode b_Rows_putTogether 19 = .ok (.invokevirtual 48, 3) := by decide +kernel
theorem d_Rows_putTogether_22 : decode b_Rows_putTogether 22 = .ok (.aload_n 0, 1) := by decide +kernel
theorem d_Rows_putTogether_23 : decode b_Rows_putTogether 23 = .ok (.aload_n 1, 1) := by decide +kernel
theorem d_Rows_putTogether_24 : decode b_Rows_putTogether 24 = .ok (.iconst 0, 1) := by decide +kernel
theorem d_Rows_putTogether_25 : decode b_Rows_putTogether 25 = .ok (.aload_n 1, 1) := by decide +kernel
theorem d_Rows_putTogether_26 : decode b_Rows_putTogether 26 = .ok (.invokevirtual 52, 3) := by decide +kernel
theorem d_Rows_putTogether_29 : decode b_Rows_putTogether 29 = .ok (.aload_n 2, 1) := by decide +kernel
theorem d_Rows_putTogether_30 : decode b_Rows_putTogether 30 = .ok (.invokevirtual 58, 3) := by decide +kernel
theorem d_Rows_putTogether_33 : decode b_Rows_putTogether 33 = .ok (.iconst 0, 1) := by decide +kernel
theorem d_Rows_putTogether_34 : decode b_Rows_putTogether 34 = .ok (.istore_n 3, 1) := by decide +kernel
theorem d_Rows_putTogether_35 : decode b_Rows_putTogether 35 = .ok (.iload_n 3, 1) := by decide +kernel
theorem d_Rows_putTogether_36 : decode b_Rows_putTogether 36 = .ok (.aload_n 1, 1) := by decide +kernel
theorem d_Rows_putTogether_37 : decode b_Rows_putTogether 37 = .ok (.invokevirtual 52, 3) := by decide +kernel
theorem d_Rows_putTogether_40 : decode b_Rows_putTogether 40 = .ok (.if_icmp .ge 31, 3) := by decide +kernel
theorem d_Rows_putTogether_43 : decode b_Rows_putTogether 43 = .ok (.aload_n 1, 1) := by decide +kernel
theorem d_Rows_putTogether_44 : decode b_Rows_putTogether 44 = .ok (.iload_n 3, 1) := by decide +kernel
theorem d_Rows_putTogether_45 : decode b_Rows_putTogether 45 = .ok (.invokevirtual 62, 3) := by decide +kernel
theorem d_Rows_putTogether_48 : decode b_Rows_putTogether 48 = .ok (.ifCond .eq 17, 3) := by decide +kernel
theorem d_Rows_putTogether_65 : decode b_Rows_putTogether 65 = .ok (.iinc 3 1, 3) := by decide +kernel
theorem d_Rows_putTogether_68 : decode b_Rows_putTogether 68 = .ok (.goto (-33), 3) := by decide +kernel
theorem d_Rows_putTogether_71 : decode b_Rows_putTogether 71 = .ok (.return_, 1) := by decide +kernel
theorem d_Resolver_tally_0 : decode b_Resolver_tally 0 = .ok (.iconst 0, 1) := by decide +kernel
theorem d_Resolver_tally_1 : decode b_Resolver_tally 1 = .ok (.istore_n 3, 1) := by decide +kernel
theorem d_Resolver_tally_2 : decode b_Resolver_tally 2 = .ok (.iload_n 3, 1) := by decide +kernel
theorem d_Resolver_tally_3 : decode b_Resolver_tally 3 = .ok (.aload_n 0, 1) := by decide +kernel
theorem d_Resolver_tally_4 : decode b_Resolver_tally 4 = .ok (.getfield 33, 3) := by decide +kernel
theorem d_Resolver_tally_7 : decode b_Resolver_tally 7 = .ok (.if_icmp .ge 65, 3) := by decide +kernel
theorem d_Resolver_tally_72 : decode b_Resolver_tally 72 = .ok (.return_, 1) := by decide +kernel
theorem d_Tokens_addTimes_0 : decode b_Tokens_addTimes 0 = .ok (.iconst 0, 1) := by decide +kernel
theorem d_Tokens_addTimes_1 : decode b_Tokens_addTimes 1 = .ok (.istore 5, 2) := by decide +kernel
theorem d_Tokens_addTimes_3 : decode b_Tokens_addTimes 3 = .ok (.iload 5, 2) := by decide +kernel
theorem d_Tokens_addTimes_5 : decode b_Tokens_addTimes 5 = .ok (.iload_n 1, 1) := by decide +kernel
theorem d_Tokens_addTimes_6 : decode b_Tokens_addTimes 6 = .ok (.if_icmp .ge 15, 3) := by decide +kernel
theorem d_Tokens_addTimes_21 : decode b_Tokens_addTimes 21 = .ok (.return_, 1) := by decide +kernel
theorem d_Tokens_valueAt_0 : decode b_Tokens_valueAt 0 = .ok (.aload_n 0, 1) := by decide +kernel
theorem d_Tokens_valueAt_1 : decode b_Tokens_valueAt 1 = .ok (.iload_n 1, 1) := by decide +kernel
theorem d_Tokens_valueAt_2 : decode b_Tokens_valueAt 2 = .ok (.invokevirtual 27, 3) := by decide +kernel
theorem d_Tokens_valueAt_5 : decode b_Tokens_valueAt 5 = .ok (.ifCond .eq 12, 3) := by decide +kernel
theorem d_Tokens_valueAt_8 : decode b_Tokens_valueAt 8 = .ok (.aload_n 0, 1) := by decide +kernel
theorem d_Tokens_valueAt_9 : decode b_Tokens_valueAt 9 = .ok (.getfield 15, 3) := by decide +kernel
theorem d_Tokens_valueAt_12 : decode b_Tokens_valueAt 12 = .ok (.iload_n 1, 1) := by decide +kernel
theorem d_Tokens_valueAt_13 : decode b_Tokens_valueAt 13 = .ok (.laload, 1) := by decide +kernel
theorem d_Tokens_valueAt_14 : decode b_Tokens_valueAt 14 = .ok (.goto 4, 3) := by decide +kernel
theorem d_Tokens_valueAt_18 : decode b_Tokens_valueAt 18 = .ok (.lreturn, 1) := by decide +kernel
theorem d_Rows_copyInto_0 : decode b_Rows_copyInto 0 = .ok (.iconst 0, 1) := by decide +kernel
theorem d_Rows_copyInto_1 : decode b_Rows_copyInto 1 = .ok (.istore_n 3, 1) := by decide +kernel
theorem d_Rows_copyInto_2 : decode b_Rows_copyInto 2 = .ok (.iload_n 3, 1) := by decide +kernel
theorem d_Rows_copyInto_3 : decode b_Rows_copyInto 3 = .ok (.sipush 362, 3) := by decide +kernel
theorem d_Rows_copyInto_6 : decode b_Rows_copyInto 6 = .ok (.if_icmp .ge 23, 3) := by decide +kernel
theorem d_Rows_copyInto_9 : decode b_Rows_copyInto 9 = .ok (.aload_n 0, 1) := by decide +kernel
theorem d_Rows_copyInto_10 : decode b_Rows_copyInto 10 = .ok (.getfield 18, 3) := by decide +kernel
theorem d_Rows_copyInto_13 : decode b_Rows_copyInto 13 = .ok (.iload_n 3, 1) := by decide +kernel
theorem d_Rows_copyInto_14 : decode b_Rows_copyInto 14 = .ok (.iconst 0, 1) := by decide +kernel
theorem d_Rows_copyInto_15 : decode b_Rows_copyInto 15 = .ok (.iastore, 1) := by decide +kernel
theorem d_Rows_copyInto_16 : decode b_Rows_copyInto 16 = .ok (.aload_n 0, 1) := by decide +kernel
theorem d_Rows_copyInto_17 : decode b_Rows_copyInto 17 = .ok (.getfield 21, 3) := by decide +kernel
theorem d_Rows_copyInto_20 : decode b_Rows_copyInto 20 = .ok (.iload_n 3, 1) := by decide +kernel
theorem d_Rows_copyInto_21 : decode b_Rows_copyInto 21 = .ok (.iconst 0, 1) := by decide +kernel
theorem d_Rows_copyInto_22 : decode b_Rows_copyInto 22 = .ok (.iastore, 1) := by decide +kernel
theorem d_Rows_copyInto_23 : decode b_Rows_copyInto 23 = .ok (.iinc 3 1, 3) := by decide +kernel
theorem d_Rows_copyInto_26 : decode b_Rows_copyInto 26 = .ok (.goto (-24), 3) := by decide +kernel
theorem d_Rows_copyInto_29 : decode b_Rows_copyInto 29 = .ok (.aload_n 0, 1) := by decide +kernel
theorem d_Rows_copyInto_30 : decode b_Rows_copyInto 30 = .ok (.getfield 34, 3) := by decide +kernel
theorem d_Rows_copyInto_33 : decode b_Rows_copyInto 33 = .ok (.aload_n 0, 1) := by decide +kernel
theorem d_Rows_copyInto_34 : decode b_Rows_copyInto 34 = .ok (.getfield 18, 3) := by decide +kernel
theorem d_Rows_copyInto_37 : decode b_Rows_copyInto 37 = .ok (.aload_n 0, 1) := by decide +kernel
theorem d_Rows_copyInto_38 : decode b_Rows_copyInto 38 = .ok (.getfield 21, 3) := by decide +kernel
theorem d_Rows_copyInto_41 : decode b_Rows_copyInto 41 = .ok (.invokevirtual 70, 3) := by decide +kernel
theorem d_Rows_copyInto_44 : decode b_Rows_copyInto 44 = .ok (.iconst 0, 1) := by decide +kernel
theorem d_Rows_copyInto_45 : decode b_Rows_copyInto 45 = .ok (.istore_n 3, 1) := by decide +kernel
theorem d_Rows_copyInto_46 : decode b_Rows_copyInto 46 = .ok (.iload_n 3, 1) := by decide +kernel
theorem d_Rows_copyInto_47 : decode b_Rows_copyInto 47 = .ok (.aload_n 2, 1) := by decide +kernel
theorem d_Rows_copyInto_48 : decode b_Rows_copyInto 48 = .ok (.invokevirtual 52, 3) := by decide +kernel
theorem d_Rows_copyInto_51 : decode b_Rows_copyInto 51 = .ok (.if_icmp .ge 58, 3) := by decide +kernel
theorem d_Rows_copyInto_54 : decode b_Rows_copyInto 54 = .ok (.iload_n 3, 1) := by decide +kernel
theorem d_Rows_copyInto_55 : decode b_Rows_copyInto 55 = .ok (.sipush 362, 3) := by decide +kernel
theorem d_Rows_copyInto_58 : decode b_Rows_copyInto 58 = .ok (.if_icmp .ge 51, 3) := by decide +kernel
theorem d_Rows_copyInto_61 : decode b_Rows_copyInto 61 = .ok (.aload_n 1, 1) := by decide +kernel
theorem d_Rows_copyInto_62 : decode b_Rows_copyInto 62 = .ok (.aload_n 0, 1) := by decide +kernel
theorem d_Rows_copyInto_63 : decode b_Rows_copyInto 63 = .ok (.getfield 18, 3) := by decide +kernel
theorem d_Rows_copyInto_66 : decode b_Rows_copyInto 66 = .ok (.iload_n 3, 1) := by decide +kernel
theorem d_Rows_copyInto_67 : decode b_Rows_copyInto 67 = .ok (.iaload, 1) := by decide +kernel
theorem d_Rows_copyInto_68 : decode b_Rows_copyInto 68 = .ok (.iconst 5, 1) := by decide +kernel
theorem d_Rows_copyInto_69 : decode b_Rows_copyInto 69 = .ok (.ldc2_w 74, 3) := by decide +kernel
theorem d_Rows_copyInto_72 : decode b_Rows_copyInto 72 = .ok (.invokevirtual 76, 3) := by decide +kernel
theorem d_Rows_copyInto_75 : decode b_Rows_copyInto 75 = .ok (.aload_n 1, 1) := by decide +kernel
theorem d_Rows_copyInto_76 : decode b_Rows_copyInto 76 = .ok (.aload_n 2, 1) := by decide +kernel
theorem d_Rows_copyInto_77 : decode b_Rows_copyInto 77 = .ok (.iload_n 3, 1) := by decide +kernel
theorem d_Rows_copyInto_78 : decode b_Rows_copyInto 78 = .ok (.invokevirtual 80, 3) := by decide +kernel
theorem d_Rows_copyInto_81 : decode b_Rows_copyInto 81 = .ok (.aload_n 2, 1) := by decide +kernel
theorem d_Rows_copyInto_82 : decode b_Rows_copyInto 82 = .ok (.iload_n 3, 1) := by decide +kernel
theorem d_Rows_copyInto_83 : decode b_Rows_copyInto 83 = .ok (.invokevirtual 83, 3) := by decide +kernel
theorem d_Rows_copyInto_86 : decode b_Rows_copyInto 86 = .ok (.invokevirtual 87, 3) := by decide +kernel
theorem d_Rows_copyInto_89 : decode b_Rows_copyInto 89 = .ok (.aload_n 1, 1) := by decide +kernel
theorem d_Rows_copyInto_90 : decode b_Rows_copyInto 90 = .ok (.aload_n 0, 1) := by decide +kernel
theorem d_Rows_copyInto_91 : decode b_Rows_copyInto 91 = .ok (.getfield 21, 3) := by decide +kernel
theorem d_Rows_copyInto_94 : decode b_Rows_copyInto 94 = .ok (.iload_n 3, 1) := by decide +kernel
theorem d_Rows_copyInto_95 : decode b_Rows_copyInto 95 = .ok (.iaload, 1) := by decide +kernel
theorem d_Rows_copyInto_96 : decode b_Rows_copyInto 96 = .ok (.iconst 5, 1) := by decide +kernel
theorem d_Rows_copyInto_97 : decode b_Rows_copyInto 97 = .ok (.ldc2_w 91, 3) := by decide +kernel
theorem d_Rows_copyInto_100 : decode b_Rows_copyInto 100 = .ok (.invokevirtual 76, 3) := by decide +kernel
theorem d_Rows_copyInto_103 : decode b_Rows_copyInto 103 = .ok (.iinc 3 1, 3) := by decide +kernel
theorem d_Rows_copyInto_106 : decode b_Rows_copyInto 106 = .ok (.goto (-60), 3) := by decide +kernel
theorem d_Rows_copyInto_109 : decode b_Rows_copyInto 109 = .ok (.return_, 1) := by decide +kernel
theorem d_Blocks_begun_0 : decode b_Blocks_begun 0 = .ok (.aload_n 0, 1) := by decide +kernel
theorem d_Blocks_begun_1 : decode b_Blocks_begun 1 = .ok (.getfield 27, 3) := by decide +kernel
end
section
theorem d_Blocks_begun_4 : decode b_Blocks_begun 4 = .ok (.ireturn, 1) := by decide +kernel
theorem d_Rows_together_0 : decode b_Rows_together 0 = .ok (.aload_n 0, 1) := by decide +kernel
theorem d_Rows_together_1 : decode b_Rows_together 1 = .ok (.getfield 38, 3) := by decide +kernel
theorem d_Rows_together_4 : decode b_Rows_together 4 = .ok (.ireturn, 1) := by decide +kernel
theorem d_Rows_inConflict_0 : decode b_Rows_inConflict 0 = .ok (.aload_n 0, 1) := by decide +kernel
theorem d_Rows_inConflict_1 : decode b_Rows_inConflict 1 = .ok (.getfield 42, 3) := by decide +kernel
theorem d_Rows_inConflict_4 : decode b_Rows_inConflict 4 = .ok (.ireturn, 1) := by decide +kernel
theorem d_Open_most_0 : decode b_Open_most 0 = .ok (.aload_n 0, 1) := by decide +kernel
theorem d_Open_most_1 : decode b_Open_most 1 = .ok (.getfield 19, 3) := by decide +kernel
theorem d_Open_most_4 : decode b_Open_most 4 = .ok (.ireturn, 1) := by decide +kernel
theorem d_Blocks_mostOpen_0 : decode b_Blocks_mostOpen 0 = .ok (.aload_n 0, 1) := by decide +kernel
theorem d_Blocks_mostOpen_1 : decode b_Blocks_mostOpen 1 = .ok (.getfield 12, 3) := by decide +kernel
theorem d_Blocks_mostOpen_4 : decode b_Blocks_mostOpen 4 = .ok (.invokevirtual 31, 3) := by decide +kernel
theorem d_Blocks_mostOpen_7 : decode b_Blocks_mostOpen 7 = .ok (.ireturn, 1) := by decide +kernel
theorem d_LF_keepCounts_0 : decode b_LF_keepCounts 0 = .ok (.aload_n 0, 1) := by decide +kernel
theorem d_LF_keepCounts_1 : decode b_LF_keepCounts 1 = .ok (.getfield 53, 3) := by decide +kernel
theorem d_LF_keepCounts_4 : decode b_LF_keepCounts 4 = .ok (.iconst 0, 1) := by decide +kernel
theorem d_LF_keepCounts_5 : decode b_LF_keepCounts 5 = .ok (.aload_n 0, 1) := by decide +kernel
theorem d_LF_keepCounts_6 : decode b_LF_keepCounts 6 = .ok (.getfield 26, 3) := by decide +kernel
theorem d_LF_keepCounts_9 : decode b_LF_keepCounts 9 = .ok (.invokevirtual 117, 3) := by decide +kernel
theorem d_LF_keepCounts_12 : decode b_LF_keepCounts 12 = .ok (.invokevirtual 143, 3) := by decide +kernel
theorem d_LF_keepCounts_15 : decode b_LF_keepCounts 15 = .ok (.iastore, 1) := by decide +kernel
theorem d_LF_keepCounts_16 : decode b_LF_keepCounts 16 = .ok (.aload_n 0, 1) := by decide +kernel
theorem d_LF_keepCounts_17 : decode b_LF_keepCounts 17 = .ok (.getfield 53, 3) := by decide +kernel
theorem d_LF_keepCounts_20 : decode b_LF_keepCounts 20 = .ok (.iconst 1, 1) := by decide +kernel
theorem d_LF_keepCounts_21 : decode b_LF_keepCounts 21 = .ok (.aload_n 0, 1) := by decide +kernel
theorem d_LF_keepCounts_22 : decode b_LF_keepCounts 22 = .ok (.getfield 33, 3) := by decide +kernel
theorem d_LF_keepCounts_25 : decode b_LF_keepCounts 25 = .ok (.invokevirtual 146, 3) := by decide +kernel
theorem d_LF_keepCounts_28 : decode b_LF_keepCounts 28 = .ok (.iastore, 1) := by decide +kernel
theorem d_LF_keepCounts_29 : decode b_LF_keepCounts 29 = .ok (.aload_n 0, 1) := by decide +kernel
theorem d_LF_keepCounts_30 : decode b_LF_keepCounts 30 = .ok (.getfield 53, 3) := by decide +kernel
theorem d_LF_keepCounts_33 : decode b_LF_keepCounts 33 = .ok (.iconst 2, 1) := by decide +kernel
theorem d_LF_keepCounts_34 : decode b_LF_keepCounts 34 = .ok (.aload_n 0, 1) := by decide +kernel
theorem d_LF_keepCounts_35 : decode b_LF_keepCounts 35 = .ok (.getfield 40, 3) := by decide +kernel
theorem d_LF_keepCounts_38 : decode b_LF_keepCounts 38 = .ok (.invokevirtual 149, 3) := by decide +kernel
theorem d_LF_keepCounts_41 : decode b_LF_keepCounts 41 = .ok (.iastore, 1) := by decide +kernel
theorem d_LF_keepCounts_42 : decode b_LF_keepCounts 42 = .ok (.aload_n 0, 1) := by decide +kernel
theorem d_LF_keepCounts_43 : decode b_LF_keepCounts 43 = .ok (.getfield 53, 3) := by decide +kernel
theorem d_LF_keepCounts_46 : decode b_LF_keepCounts 46 = .ok (.iconst 3, 1) := by decide +kernel
theorem d_LF_keepCounts_47 : decode b_LF_keepCounts 47 = .ok (.aload_n 0, 1) := by decide +kernel
theorem d_LF_keepCounts_48 : decode b_LF_keepCounts 48 = .ok (.getfield 40, 3) := by decide +kernel
theorem d_LF_keepCounts_51 : decode b_LF_keepCounts 51 = .ok (.invokevirtual 152, 3) := by decide +kernel
theorem d_LF_keepCounts_54 : decode b_LF_keepCounts 54 = .ok (.iastore, 1) := by decide +kernel
theorem d_LF_keepCounts_55 : decode b_LF_keepCounts 55 = .ok (.aload_n 0, 1) := by decide +kernel
theorem d_LF_keepCounts_56 : decode b_LF_keepCounts 56 = .ok (.getfield 53, 3) := by decide +kernel
theorem d_LF_keepCounts_59 : decode b_LF_keepCounts 59 = .ok (.iconst 4, 1) := by decide +kernel
theorem d_LF_keepCounts_60 : decode b_LF_keepCounts 60 = .ok (.aload_n 0, 1) := by decide +kernel
theorem d_LF_keepCounts_61 : decode b_LF_keepCounts 61 = .ok (.getfield 33, 3) := by decide +kernel
theorem d_LF_keepCounts_64 : decode b_LF_keepCounts 64 = .ok (.invokevirtual 155, 3) := by decide +kernel
theorem d_LF_keepCounts_67 : decode b_LF_keepCounts 67 = .ok (.iastore, 1) := by decide +kernel
theorem d_LF_keepCounts_68 : decode b_LF_keepCounts 68 = .ok (.return_, 1) := by decide +kernel
theorem d_LF_read_0 : decode b_LF_read 0 = .ok (.aload_n 0, 1) := by decide +kernel
theorem d_LF_read_1 : decode b_LF_read 1 = .ok (.getfield 49, 3) := by decide +kernel
theorem d_LF_read_4 : decode b_LF_read 4 = .ok (.invokevirtual 106, 3) := by decide +kernel
theorem d_LF_read_7 : decode b_LF_read 7 = .ok (.aload_n 0, 1) := by decide +kernel
theorem d_LF_read_8 : decode b_LF_read 8 = .ok (.aload_n 0, 1) := by decide +kernel
theorem d_LF_read_9 : decode b_LF_read 9 = .ok (.getfield 26, 3) := by decide +kernel
theorem d_LF_read_12 : decode b_LF_read 12 = .ok (.aload_n 0, 1) := by decide +kernel
theorem d_LF_read_13 : decode b_LF_read 13 = .ok (.getfield 12, 3) := by decide +kernel
theorem d_LF_read_16 : decode b_LF_read 16 = .ok (.invokevirtual 107, 3) := by decide +kernel
theorem d_LF_read_19 : decode b_LF_read 19 = .ok (.putfield 57, 3) := by decide +kernel
theorem d_LF_read_22 : decode b_LF_read 22 = .ok (.aload_n 0, 1) := by decide +kernel
theorem d_LF_read_23 : decode b_LF_read 23 = .ok (.getfield 26, 3) := by decide +kernel
theorem d_LF_read_26 : decode b_LF_read 26 = .ok (.invokevirtual 111, 3) := by decide +kernel
theorem d_LF_read_29 : decode b_LF_read 29 = .ok (.ifCond .eq 13, 3) := by decide +kernel
theorem d_LF_read_42 : decode b_LF_read 42 = .ok (.aload_n 0, 1) := by decide +kernel
theorem d_LF_read_43 : decode b_LF_read 43 = .ok (.getfield 57, 3) := by decide +kernel
theorem d_LF_read_46 : decode b_LF_read 46 = .ok (.iconst (-1), 1) := by decide +kernel
theorem d_LF_read_47 : decode b_LF_read 47 = .ok (.if_icmp .ne 28, 3) := by decide +kernel
theorem d_LF_read_50 : decode b_LF_read 50 = .ok (.aload_n 0, 1) := by decide +kernel
theorem d_LF_read_51 : decode b_LF_read 51 = .ok (.aload_n 0, 1) := by decide +kernel
theorem d_LF_read_52 : decode b_LF_read 52 = .ok (.getfield 33, 3) := by decide +kernel
theorem d_LF_read_55 : decode b_LF_read 55 = .ok (.aload_n 0, 1) := by decide +kernel
theorem d_LF_read_56 : decode b_LF_read 56 = .ok (.getfield 26, 3) := by decide +kernel
theorem d_LF_read_59 : decode b_LF_read 59 = .ok (.invokevirtual 117, 3) := by decide +kernel
theorem d_LF_read_62 : decode b_LF_read 62 = .ok (.aload_n 0, 1) := by decide +kernel
theorem d_LF_read_63 : decode b_LF_read 63 = .ok (.getfield 12, 3) := by decide +kernel
theorem d_LF_read_66 : decode b_LF_read 66 = .ok (.invokevirtual 85, 3) := by decide +kernel
theorem d_LF_read_69 : decode b_LF_read 69 = .ok (.invokevirtual 121, 3) := by decide +kernel
theorem d_LF_read_72 : decode b_LF_read 72 = .ok (.putfield 57, 3) := by decide +kernel
theorem d_LF_read_75 : decode b_LF_read 75 = .ok (.aload_n 0, 1) := by decide +kernel
theorem d_LF_read_76 : decode b_LF_read 76 = .ok (.getfield 57, 3) := by decide +kernel
theorem d_LF_read_79 : decode b_LF_read 79 = .ok (.iconst (-1), 1) := by decide +kernel
theorem d_LF_read_80 : decode b_LF_read 80 = .ok (.if_icmp .eq 13, 3) := by decide +kernel
theorem d_LF_read_93 : decode b_LF_read 93 = .ok (.aload_n 0, 1) := by decide +kernel
theorem d_LF_read_94 : decode b_LF_read 94 = .ok (.getfield 40, 3) := by decide +kernel
theorem d_LF_read_97 : decode b_LF_read 97 = .ok (.aload_n 0, 1) := by decide +kernel
theorem d_LF_read_98 : decode b_LF_read 98 = .ok (.getfield 33, 3) := by decide +kernel
theorem d_LF_read_101 : decode b_LF_read 101 = .ok (.invokevirtual 127, 3) := by decide +kernel
theorem d_LF_read_104 : decode b_LF_read 104 = .ok (.aload_n 0, 1) := by decide +kernel
theorem d_LF_read_105 : decode b_LF_read 105 = .ok (.getfield 19, 3) := by decide +kernel
theorem d_LF_read_108 : decode b_LF_read 108 = .ok (.invokevirtual 131, 3) := by decide +kernel
theorem d_LF_read_111 : decode b_LF_read 111 = .ok (.aload_n 0, 1) := by decide +kernel
theorem d_LF_read_112 : decode b_LF_read 112 = .ok (.getfield 40, 3) := by decide +kernel
theorem d_LF_read_115 : decode b_LF_read 115 = .ok (.aload_n 0, 1) := by decide +kernel
theorem d_LF_read_116 : decode b_LF_read 116 = .ok (.getfield 49, 3) := by decide +kernel
theorem d_LF_read_119 : decode b_LF_read 119 = .ok (.aload_n 0, 1) := by decide +kernel
theorem d_LF_read_120 : decode b_LF_read 120 = .ok (.getfield 33, 3) := by decide +kernel
theorem d_LF_read_123 : decode b_LF_read 123 = .ok (.invokevirtual 127, 3) := by decide +kernel
theorem d_LF_read_126 : decode b_LF_read 126 = .ok (.invokevirtual 135, 3) := by decide +kernel
theorem d_LF_read_129 : decode b_LF_read 129 = .ok (.aload_n 0, 1) := by decide +kernel
theorem d_LF_read_130 : decode b_LF_read 130 = .ok (.invokevirtual 139, 3) := by decide +kernel
theorem d_LF_read_133 : decode b_LF_read 133 = .ok (.aload_n 0, 1) := by decide +kernel
theorem d_LF_read_134 : decode b_LF_read 134 = .ok (.getfield 49, 3) := by decide +kernel
theorem d_LF_read_137 : decode b_LF_read 137 = .ok (.invokevirtual 142, 3) := by decide +kernel
theorem d_LF_read_140 : decode b_LF_read 140 = .ok (.ireturn, 1) := by decide +kernel
theorem d_Model_init_0 : decode b_Model_init 0 = .ok (.aload_n 0, 1) := by decide +kernel
theorem d_Model_init_1 : decode b_Model_init 1 = .ok (.invokespecial 1, 3) := by decide +kernel
theorem d_Model_init_4 : decode b_Model_init 4 = .ok (.aload_n 0, 1) := by decide +kernel
theorem d_Model_init_5 : decode b_Model_init 5 = .ok (.sipush 240, 3) := by decide +kernel
theorem d_Model_init_8 : decode b_Model_init 8 = .ok (.newarray .int, 2) := by decide +kernel
theorem d_Model_init_10 : decode b_Model_init 10 = .ok (.putfield 7, 3) := by decide +kernel
theorem d_Model_init_13 : decode b_Model_init 13 = .ok (.aload_n 0, 1) := by decide +kernel
theorem d_Model_init_14 : decode b_Model_init 14 = .ok (.iconst (-1), 1) := by decide +kernel
theorem d_Model_init_15 : decode b_Model_init 15 = .ok (.putfield 13, 3) := by decide +kernel
theorem d_Model_init_18 : decode b_Model_init 18 = .ok (.aload_n 0, 1) := by decide +kernel
theorem d_Model_init_19 : decode b_Model_init 19 = .ok (.bipush 91, 2) := by decide +kernel
theorem d_Model_init_21 : decode b_Model_init 21 = .ok (.newarray .int, 2) := by decide +kernel
theorem d_Model_init_23 : decode b_Model_init 23 = .ok (.putfield 17, 3) := by decide +kernel
theorem d_Model_init_26 : decode b_Model_init 26 = .ok (.aload_n 0, 1) := by decide +kernel
theorem d_Model_init_27 : decode b_Model_init 27 = .ok (.bipush 91, 2) := by decide +kernel
theorem d_Model_init_29 : decode b_Model_init 29 = .ok (.newarray .long, 2) := by decide +kernel
theorem d_Model_init_31 : decode b_Model_init 31 = .ok (.putfield 20, 3) := by decide +kernel
theorem d_Model_init_34 : decode b_Model_init 34 = .ok (.aload_n 0, 1) := by decide +kernel
theorem d_Model_init_35 : decode b_Model_init 35 = .ok (.bipush 91, 2) := by decide +kernel
theorem d_Model_init_37 : decode b_Model_init 37 = .ok (.newarray .int, 2) := by decide +kernel
theorem d_Model_init_39 : decode b_Model_init 39 = .ok (.putfield 24, 3) := by decide +kernel
theorem d_Model_init_42 : decode b_Model_init 42 = .ok (.aload_n 0, 1) := by decide +kernel
theorem d_Model_init_43 : decode b_Model_init 43 = .ok (.bipush 91, 2) := by decide +kernel
theorem d_Model_init_45 : decode b_Model_init 45 = .ok (.newarray .int, 2) := by decide +kernel
theorem d_Model_init_47 : decode b_Model_init 47 = .ok (.putfield 27, 3) := by decide +kernel
theorem d_Model_init_50 : decode b_Model_init 50 = .ok (.aload_n 0, 1) := by decide +kernel
theorem d_Model_init_51 : decode b_Model_init 51 = .ok (.bipush 91, 2) := by decide +kernel
theorem d_Model_init_53 : decode b_Model_init 53 = .ok (.newarray .boolean, 2) := by decide +kernel
theorem d_Model_init_55 : decode b_Model_init 55 = .ok (.putfield 30, 3) := by decide +kernel
theorem d_Model_init_58 : decode b_Model_init 58 = .ok (.aload_n 0, 1) := by decide +kernel
theorem d_Model_init_59 : decode b_Model_init 59 = .ok (.sipush 200, 3) := by decide +kernel
theorem d_Model_init_62 : decode b_Model_init 62 = .ok (.newarray .int, 2) := by decide +kernel
theorem d_Model_init_64 : decode b_Model_init 64 = .ok (.putfield 34, 3) := by decide +kernel
theorem d_Model_init_67 : decode b_Model_init 67 = .ok (.aload_n 0, 1) := by decide +kernel
theorem d_Model_init_68 : decode b_Model_init 68 = .ok (.sipush 600, 3) := by decide +kernel
theorem d_Model_init_71 : decode b_Model_init 71 = .ok (.newarray .int, 2) := by decide +kernel
theorem d_Model_init_73 : decode b_Model_init 73 = .ok (.putfield 37, 3) := by decide +kernel
theorem d_Model_init_76 : decode b_Model_init 76 = .ok (.aload_n 0, 1) := by decide +kernel
theorem d_Model_init_77 : decode b_Model_init 77 = .ok (.sipush 600, 3) := by decide +kernel
theorem d_Model_init_80 : decode b_Model_init 80 = .ok (.newarray .long, 2) := by decide +kernel
theorem d_Model_init_82 : decode b_Model_init 82 = .ok (.putfield 40, 3) := by decide +kernel
theorem d_Model_init_85 : decode b_Model_init 85 = .ok (.aload_n 0, 1) := by decide +kernel
theorem d_Model_init_86 : decode b_Model_init 86 = .ok (.sipush 600, 3) := by decide +kernel
theorem d_Model_init_89 : decode b_Model_init 89 = .ok (.newarray .int, 2) := by decide +kernel
theorem d_Model_init_91 : decode b_Model_init 91 = .ok (.putfield 43, 3) := by decide +kernel
theorem d_Model_init_94 : decode b_Model_init 94 = .ok (.aload_n 0, 1) := by decide +kernel
theorem d_Model_init_95 : decode b_Model_init 95 = .ok (.sipush 600, 3) := by decide +kernel
theorem d_Model_init_98 : decode b_Model_init 98 = .ok (.newarray .int, 2) := by decide +kernel
theorem d_Model_init_100 : decode b_Model_init 100 = .ok (.putfield 46, 3) := by decide +kernel
theorem d_Model_init_103 : decode b_Model_init 103 = .ok (.aload_n 0, 1) := by decide +kernel
theorem d_Model_init_104 : decode b_Model_init 104 = .ok (.sipush 600, 3) := by decide +kernel
theorem d_Model_init_107 : decode b_Model_init 107 = .ok (.newarray .int, 2) := by decide +kernel
theorem d_Model_init_109 : decode b_Model_init 109 = .ok (.putfield 49, 3) := by decide +kernel
theorem d_Model_init_112 : decode b_Model_init 112 = .ok (.aload_n 0, 1) := by decide +kernel
theorem d_Model_init_113 : decode b_Model_init 113 = .ok (.sipush 600, 3) := by decide +kernel
theorem d_Model_init_116 : decode b_Model_init 116 = .ok (.newarray .boolean, 2) := by decide +kernel
theorem d_Model_init_118 : decode b_Model_init 118 = .ok (.putfield 52, 3) := by decide +kernel
theorem d_Model_init_121 : decode b_Model_init 121 = .ok (.aload_n 0, 1) := by decide +kernel
theorem d_Model_init_122 : decode b_Model_init 122 = .ok (.sipush 900, 3) := by decide +kernel
theorem d_Model_init_125 : decode b_Model_init 125 = .ok (.newarray .int, 2) := by decide +kernel
theorem d_Model_init_127 : decode b_Model_init 127 = .ok (.putfield 55, 3) := by decide +kernel
theorem d_Model_init_130 : decode b_Model_init 130 = .ok (.aload_n 0, 1) := by decide +kernel
theorem d_Model_init_131 : decode b_Model_init 131 = .ok (.sipush 900, 3) := by decide +kernel
theorem d_Model_init_134 : decode b_Model_init 134 = .ok (.newarray .long, 2) := by decide +kernel
theorem d_Model_init_136 : decode b_Model_init 136 = .ok (.putfield 58, 3) := by decide +kernel
theorem d_Model_init_139 : decode b_Model_init 139 = .ok (.aload_n 0, 1) := by decide +kernel
theorem d_Model_init_140 : decode b_Model_init 140 = .ok (.bipush 12, 2) := by decide +kernel
theorem d_Model_init_142 : decode b_Model_init 142 = .ok (.newarray .long, 2) := by decide +kernel
theorem d_Model_init_144 : decode b_Model_init 144 = .ok (.putfield 61, 3) := by decide +kernel
theorem d_Model_init_147 : decode b_Model_init 147 = .ok (.aload_n 0, 1) := by decide +kernel
theorem d_Model_init_148 : decode b_Model_init 148 = .ok (.bipush 12, 2) := by decide +kernel
theorem d_Model_init_150 : decode b_Model_init 150 = .ok (.newarray .int, 2) := by decide +kernel
theorem d_Model_init_152 : decode b_Model_init 152 = .ok (.putfield 64, 3) := by decide +kernel
theorem d_Model_init_155 : decode b_Model_init 155 = .ok (.aload_n 0, 1) := by decide +kernel
theorem d_Model_init_156 : decode b_Model_init 156 = .ok (.bipush 12, 2) := by decide +kernel
theorem d_Model_init_158 : decode b_Model_init 158 = .ok (.newarray .int, 2) := by decide +kernel
theorem d_Model_init_160 : decode b_Model_init 160 = .ok (.putfield 67, 3) := by decide +kernel
theorem d_Model_init_163 : decode b_Model_init 163 = .ok (.aload_n 0, 1) := by decide +kernel
theorem d_Model_init_164 : decode b_Model_init 164 = .ok (.bipush 96, 2) := by decide +kernel
theorem d_Model_init_166 : decode b_Model_init 166 = .ok (.newarray .int, 2) := by decide +kernel
theorem d_Model_init_168 : decode b_Model_init 168 = .ok (.putfield 70, 3) := by decide +kernel
theorem d_Model_init_171 : decode b_Model_init 171 = .ok (.aload_n 0, 1) := by decide +kernel
theorem d_Model_init_172 : decode b_Model_init 172 = .ok (.bipush 96, 2) := by decide +kernel
theorem d_Model_init_174 : decode b_Model_init 174 = .ok (.newarray .int, 2) := by decide +kernel
theorem d_Model_init_176 : decode b_Model_init 176 = .ok (.putfield 73, 3) := by decide +kernel
theorem d_Model_init_179 : decode b_Model_init 179 = .ok (.aload_n 0, 1) := by decide +kernel
theorem d_Model_init_180 : decode b_Model_init 180 = .ok (.bipush 96, 2) := by decide +kernel
theorem d_Model_init_182 : decode b_Model_init 182 = .ok (.newarray .int, 2) := by decide +kernel
theorem d_Model_init_184 : decode b_Model_init 184 = .ok (.putfield 76, 3) := by decide +kernel
theorem d_Model_init_187 : decode b_Model_init 187 = .ok (.aload_n 0, 1) := by decide +kernel
theorem d_Model_init_188 : decode b_Model_init 188 = .ok (.bipush 96, 2) := by decide +kernel
theorem d_Model_init_190 : decode b_Model_init 190 = .ok (.newarray .int, 2) := by decide +kernel
theorem d_Model_init_192 : decode b_Model_init 192 = .ok (.putfield 79, 3) := by decide +kernel
theorem d_Model_init_195 : decode b_Model_init 195 = .ok (.aload_n 0, 1) := by decide +kernel
theorem d_Model_init_196 : decode b_Model_init 196 = .ok (.bipush 96, 2) := by decide +kernel
theorem d_Model_init_198 : decode b_Model_init 198 = .ok (.newarray .int, 2) := by decide +kernel
theorem d_Model_init_200 : decode b_Model_init 200 = .ok (.putfield 82, 3) := by decide +kernel
theorem d_Model_init_203 : decode b_Model_init 203 = .ok (.aload_n 0, 1) := by decide +kernel
theorem d_Model_init_204 : decode b_Model_init 204 = .ok (.bipush 96, 2) := by decide +kernel
theorem d_Model_init_206 : decode b_Model_init 206 = .ok (.newarray .int, 2) := by decide +kernel
theorem d_Model_init_208 : decode b_Model_init 208 = .ok (.putfield 85, 3) := by decide +kernel
theorem d_Model_init_211 : decode b_Model_init 211 = .ok (.aload_n 0, 1) := by decide +kernel
theorem d_Model_init_212 : decode b_Model_init 212 = .ok (.bipush 96, 2) := by decide +kernel
theorem d_Model_init_214 : decode b_Model_init 214 = .ok (.newarray .int, 2) := by decide +kernel
theorem d_Model_init_216 : decode b_Model_init 216 = .ok (.putfield 88, 3) := by decide +kernel
theorem d_Model_init_219 : decode b_Model_init 219 = .ok (.aload_n 0, 1) := by decide +kernel
theorem d_Model_init_220 : decode b_Model_init 220 = .ok (.bipush 96, 2) := by decide +kernel
theorem d_Model_init_222 : decode b_Model_init 222 = .ok (.newarray .int, 2) := by decide +kernel
theorem d_Model_init_224 : decode b_Model_init 224 = .ok (.putfield 91, 3) := by decide +kernel
theorem d_Model_init_227 : decode b_Model_init 227 = .ok (.aload_n 0, 1) := by decide +kernel
theorem d_Model_init_228 : decode b_Model_init 228 = .ok (.bipush 96, 2) := by decide +kernel
theorem d_Model_init_230 : decode b_Model_init 230 = .ok (.newarray .int, 2) := by decide +kernel
theorem d_Model_init_232 : decode b_Model_init 232 = .ok (.putfield 94, 3) := by decide +kernel
theorem d_Model_init_235 : decode b_Model_init 235 = .ok (.return_, 1) := by decide +kernel
theorem d_Model_cut_0 : decode b_Model_cut 0 = .ok (.aload_n 0, 1) := by decide +kernel
theorem d_Model_cut_1 : decode b_Model_cut 1 = .ok (.iconst 0, 1) := by decide +kernel
theorem d_Model_cut_2 : decode b_Model_cut 2 = .ok (.putfield 120, 3) := by decide +kernel
theorem d_Model_cut_5 : decode b_Model_cut 5 = .ok (.aload_n 0, 1) := by decide +kernel
theorem d_Model_cut_6 : decode b_Model_cut 6 = .ok (.iconst 0, 1) := by decide +kernel
theorem d_Model_cut_7 : decode b_Model_cut 7 = .ok (.putfield 144, 3) := by decide +kernel
theorem d_Model_cut_10 : decode b_Model_cut 10 = .ok (.aload_n 0, 1) := by decide +kernel
theorem d_Model_cut_11 : decode b_Model_cut 11 = .ok (.getfield 120, 3) := by decide +kernel
theorem d_Model_cut_14 : decode b_Model_cut 14 = .ok (.aload_n 0, 1) := by decide +kernel
theorem d_Model_cut_15 : decode b_Model_cut 15 = .ok (.getfield 110, 3) := by decide +kernel
theorem d_Model_cut_18 : decode b_Model_cut 18 = .ok (.if_icmp .ge 227, 3) := by decide +kernel
theorem d_Model_cut_245 : decode b_Model_cut 245 = .ok (.return_, 1) := by decide +kernel
theorem d_Model_begins_0 : decode b_Model_begins 0 = .ok (.iload_n 1, 1) := by decide +kernel
theorem d_Model_begins_1 : decode b_Model_begins 1 = .ok (.ifCond .eq 74, 3) := by decide +kernel
theorem d_Model_begins_75 : decode b_Model_begins 75 = .ok (.iconst 1, 1) := by decide +kernel
theorem d_Model_begins_76 : decode b_Model_begins 76 = .ok (.goto 4, 3) := by decide +kernel
theorem d_Model_begins_80 : decode b_Model_begins 80 = .ok (.istore_n 2, 1) := by decide +kernel
theorem d_Model_begins_81 : decode b_Model_begins 81 = .ok (.iload_n 2, 1) := by decide +kernel
theorem d_Model_begins_82 : decode b_Model_begins 82 = .ok (.ifCond .eq 38, 3) := by decide +kernel
theorem d_Model_begins_85 : decode b_Model_begins 85 = .ok (.iload_n 1, 1) := by decide +kernel
theorem d_Model_begins_86 : decode b_Model_begins 86 = .ok (.aload_n 0, 1) := by decide +kernel
theorem d_Model_begins_87 : decode b_Model_begins 87 = .ok (.getfield 144, 3) := by decide +kernel
theorem d_Model_begins_90 : decode b_Model_begins 90 = .ok (.if_icmp .eq 26, 3) := by decide +kernel
theorem d_Model_begins_116 : decode b_Model_begins 116 = .ok (.iconst 1, 1) := by decide +kernel
theorem d_Model_begins_117 : decode b_Model_begins 117 = .ok (.goto 4, 3) := by decide +kernel
theorem d_Model_begins_121 : decode b_Model_begins 121 = .ok (.ireturn, 1) := by decide +kernel
theorem d_Model_emit_0 : decode b_Model_emit 0 = .ok (.aload_n 0, 1) := by decide +kernel
theorem d_Model_emit_1 : decode b_Model_emit 1 = .ok (.getfield 37, 3) := by decide +kernel
theorem d_Model_emit_4 : decode b_Model_emit 4 = .ok (.aload_n 0, 1) := by decide +kernel
theorem d_Model_emit_5 : decode b_Model_emit 5 = .ok (.getfield 188, 3) := by decide +kernel
end
section
theorem d_Model_emit_8 : decode b_Model_emit 8 = .ok (.iload_n 1, 1) := by decide +kernel
theorem d_Model_emit_9 : decode b_Model_emit 9 = .ok (.iastore, 1) := by decide +kernel
theorem d_Model_emit_10 : decode b_Model_emit 10 = .ok (.aload_n 0, 1) := by decide +kernel
theorem d_Model_emit_11 : decode b_Model_emit 11 = .ok (.getfield 40, 3) := by decide +kernel
theorem d_Model_emit_14 : decode b_Model_emit 14 = .ok (.aload_n 0, 1) := by decide +kernel
theorem d_Model_emit_15 : decode b_Model_emit 15 = .ok (.getfield 188, 3) := by decide +kernel
theorem d_Model_emit_18 : decode b_Model_emit 18 = .ok (.lload_n 2, 1) := by decide +kernel
theorem d_Model_emit_19 : decode b_Model_emit 19 = .ok (.lastore, 1) := by decide +kernel
theorem d_Model_emit_20 : decode b_Model_emit 20 = .ok (.aload_n 0, 1) := by decide +kernel
theorem d_Model_emit_21 : decode b_Model_emit 21 = .ok (.getfield 43, 3) := by decide +kernel
theorem d_Model_emit_24 : decode b_Model_emit 24 = .ok (.aload_n 0, 1) := by decide +kernel
theorem d_Model_emit_25 : decode b_Model_emit 25 = .ok (.getfield 188, 3) := by decide +kernel
theorem d_Model_emit_28 : decode b_Model_emit 28 = .ok (.iconst 0, 1) := by decide +kernel
theorem d_Model_emit_29 : decode b_Model_emit 29 = .ok (.iastore, 1) := by decide +kernel
theorem d_Model_emit_30 : decode b_Model_emit 30 = .ok (.aload_n 0, 1) := by decide +kernel
theorem d_Model_emit_31 : decode b_Model_emit 31 = .ok (.getfield 46, 3) := by decide +kernel
theorem d_Model_emit_34 : decode b_Model_emit 34 = .ok (.aload_n 0, 1) := by decide +kernel
theorem d_Model_emit_35 : decode b_Model_emit 35 = .ok (.getfield 188, 3) := by decide +kernel
theorem d_Model_emit_38 : decode b_Model_emit 38 = .ok (.iconst 0, 1) := by decide +kernel
theorem d_Model_emit_39 : decode b_Model_emit 39 = .ok (.iastore, 1) := by decide +kernel
theorem d_Model_emit_40 : decode b_Model_emit 40 = .ok (.aload_n 0, 1) := by decide +kernel
theorem d_Model_emit_41 : decode b_Model_emit 41 = .ok (.getfield 52, 3) := by decide +kernel
theorem d_Model_emit_44 : decode b_Model_emit 44 = .ok (.aload_n 0, 1) := by decide +kernel
theorem d_Model_emit_45 : decode b_Model_emit 45 = .ok (.getfield 188, 3) := by decide +kernel
theorem d_Model_emit_48 : decode b_Model_emit 48 = .ok (.iconst 0, 1) := by decide +kernel
theorem d_Model_emit_49 : decode b_Model_emit 49 = .ok (.bastore, 1) := by decide +kernel
theorem d_Model_emit_50 : decode b_Model_emit 50 = .ok (.aload_n 0, 1) := by decide +kernel
theorem d_Model_emit_51 : decode b_Model_emit 51 = .ok (.dup, 1) := by decide +kernel
theorem d_Model_emit_52 : decode b_Model_emit 52 = .ok (.getfield 188, 3) := by decide +kernel
theorem d_Model_emit_55 : decode b_Model_emit 55 = .ok (.iconst 1, 1) := by decide +kernel
theorem d_Model_emit_56 : decode b_Model_emit 56 = .ok (.iadd, 1) := by decide +kernel
theorem d_Model_emit_57 : decode b_Model_emit 57 = .ok (.putfield 188, 3) := by decide +kernel
theorem d_Model_emit_60 : decode b_Model_emit 60 = .ok (.return_, 1) := by decide +kernel
theorem d_Model_begin_0 : decode b_Model_begin 0 = .ok (.iload_n 1, 1) := by decide +kernel
theorem d_Model_begin_1 : decode b_Model_begin 1 = .ok (.aload_n 0, 1) := by decide +kernel
theorem d_Model_begin_2 : decode b_Model_begin 2 = .ok (.getfield 144, 3) := by decide +kernel
theorem d_Model_begin_5 : decode b_Model_begin 5 = .ok (.if_icmp .ge 12, 3) := by decide +kernel
theorem d_Model_begin_17 : decode b_Model_begin 17 = .ok (.iconst 0, 1) := by decide +kernel
theorem d_Model_begin_18 : decode b_Model_begin 18 = .ok (.istore_n 2, 1) := by decide +kernel
theorem d_Model_begin_19 : decode b_Model_begin 19 = .ok (.aload_n 0, 1) := by decide +kernel
theorem d_Model_begin_20 : decode b_Model_begin 20 = .ok (.getfield 191, 3) := by decide +kernel
theorem d_Model_begin_23 : decode b_Model_begin 23 = .ok (.iconst 1, 1) := by decide +kernel
theorem d_Model_begin_24 : decode b_Model_begin 24 = .ok (.isub, 1) := by decide +kernel
theorem d_Model_begin_25 : decode b_Model_begin 25 = .ok (.istore_n 3, 1) := by decide +kernel
theorem d_Model_begin_26 : decode b_Model_begin 26 = .ok (.iload_n 3, 1) := by decide +kernel
theorem d_Model_begin_27 : decode b_Model_begin 27 = .ok (.ifCond .lt 18, 3) := by decide +kernel
theorem d_Model_begin_45 : decode b_Model_begin 45 = .ok (.aload_n 0, 1) := by decide +kernel
theorem d_Model_begin_46 : decode b_Model_begin 46 = .ok (.iconst 4, 1) := by decide +kernel
theorem d_Model_begin_47 : decode b_Model_begin 47 = .ok (.ldc2_w 238, 3) := by decide +kernel
theorem d_Model_begin_50 : decode b_Model_begin 50 = .ok (.invokevirtual 208, 3) := by decide +kernel
theorem d_Model_begin_53 : decode b_Model_begin 53 = .ok (.aload_n 0, 1) := by decide +kernel
theorem d_Model_begin_54 : decode b_Model_begin 54 = .ok (.dup, 1) := by decide +kernel
theorem d_Model_begin_55 : decode b_Model_begin 55 = .ok (.getfield 240, 3) := by decide +kernel
theorem d_Model_begin_58 : decode b_Model_begin 58 = .ok (.iconst 1, 1) := by decide +kernel
theorem d_Model_begin_59 : decode b_Model_begin 59 = .ok (.iadd, 1) := by decide +kernel
theorem d_Model_begin_60 : decode b_Model_begin 60 = .ok (.putfield 240, 3) := by decide +kernel
theorem d_Model_begin_63 : decode b_Model_begin 63 = .ok (.iload_n 2, 1) := by decide +kernel
theorem d_Model_begin_64 : decode b_Model_begin 64 = .ok (.iload_n 3, 1) := by decide +kernel
theorem d_Model_begin_65 : decode b_Model_begin 65 = .ok (.ifCond .lt 12, 3) := by decide +kernel
theorem d_Model_begin_77 : decode b_Model_begin 77 = .ok (.iconst 0, 1) := by decide +kernel
theorem d_Model_begin_78 : decode b_Model_begin 78 = .ok (.if_icmp .le 11, 3) := by decide +kernel
theorem d_Model_begin_89 : decode b_Model_begin 89 = .ok (.aload_n 0, 1) := by decide +kernel
theorem d_Model_begin_90 : decode b_Model_begin 90 = .ok (.iconst 4, 1) := by decide +kernel
theorem d_Model_begin_91 : decode b_Model_begin 91 = .ok (.ldc2_w 206, 3) := by decide +kernel
theorem d_Model_begin_94 : decode b_Model_begin 94 = .ok (.invokevirtual 208, 3) := by decide +kernel
theorem d_Model_begin_97 : decode b_Model_begin 97 = .ok (.iload_n 1, 1) := by decide +kernel
theorem d_Model_begin_98 : decode b_Model_begin 98 = .ok (.aload_n 0, 1) := by decide +kernel
theorem d_Model_begin_99 : decode b_Model_begin 99 = .ok (.getfield 144, 3) := by decide +kernel
theorem d_Model_begin_102 : decode b_Model_begin 102 = .ok (.if_icmp .ge 8, 3) := by decide +kernel
theorem d_Model_begin_110 : decode b_Model_begin 110 = .ok (.return_, 1) := by decide +kernel
theorem d_Model_top_0 : decode b_Model_top 0 = .ok (.aload_n 0, 1) := by decide +kernel
theorem d_Model_top_1 : decode b_Model_top 1 = .ok (.getfield 191, 3) := by decide +kernel
theorem d_Model_top_4 : decode b_Model_top 4 = .ok (.ifCond .le 17, 3) := by decide +kernel
theorem d_Model_top_21 : decode b_Model_top 21 = .ok (.bipush (-11), 2) := by decide +kernel
theorem d_Model_top_23 : decode b_Model_top 23 = .ok (.ireturn, 1) := by decide +kernel
theorem d_Model_leave_0 : decode b_Model_leave 0 = .ok (.aload_n 0, 1) := by decide +kernel
theorem d_Model_leave_1 : decode b_Model_leave 1 = .ok (.invokevirtual 197, 3) := by decide +kernel
theorem d_Model_leave_4 : decode b_Model_leave 4 = .ok (.ifCond .gt 15, 3) := by decide +kernel
theorem d_Model_leave_7 : decode b_Model_leave 7 = .ok (.iload_n 1, 1) := by decide +kernel
theorem d_Model_leave_8 : decode b_Model_leave 8 = .ok (.ifCond .eq 39, 3) := by decide +kernel
theorem d_Model_leave_11 : decode b_Model_leave 11 = .ok (.aload_n 0, 1) := by decide +kernel
theorem d_Model_leave_12 : decode b_Model_leave 12 = .ok (.invokevirtual 197, 3) := by decide +kernel
theorem d_Model_leave_15 : decode b_Model_leave 15 = .ok (.iconst (-1), 1) := by decide +kernel
theorem d_Model_leave_16 : decode b_Model_leave 16 = .ok (.if_icmp .ne 31, 3) := by decide +kernel
theorem d_Model_leave_47 : decode b_Model_leave 47 = .ok (.return_, 1) := by decide +kernel
theorem d_Model_lay_0 : decode b_Model_lay 0 = .ok (.aload_n 0, 1) := by decide +kernel
theorem d_Model_lay_1 : decode b_Model_lay 1 = .ok (.iconst 0, 1) := by decide +kernel
theorem d_Model_lay_2 : decode b_Model_lay 2 = .ok (.putfield 191, 3) := by decide +kernel
theorem d_Model_lay_5 : decode b_Model_lay 5 = .ok (.aload_n 0, 1) := by decide +kernel
theorem d_Model_lay_6 : decode b_Model_lay 6 = .ok (.iconst 0, 1) := by decide +kernel
theorem d_Model_lay_7 : decode b_Model_lay 7 = .ok (.putfield 194, 3) := by decide +kernel
theorem d_Model_lay_10 : decode b_Model_lay 10 = .ok (.aload_n 0, 1) := by decide +kernel
theorem d_Model_lay_11 : decode b_Model_lay 11 = .ok (.iconst 0, 1) := by decide +kernel
theorem d_Model_lay_12 : decode b_Model_lay 12 = .ok (.putfield 188, 3) := by decide +kernel
theorem d_Model_lay_15 : decode b_Model_lay 15 = .ok (.aload_n 0, 1) := by decide +kernel
theorem d_Model_lay_16 : decode b_Model_lay 16 = .ok (.iconst 0, 1) := by decide +kernel
theorem d_Model_lay_17 : decode b_Model_lay 17 = .ok (.putfield 240, 3) := by decide +kernel
theorem d_Model_lay_20 : decode b_Model_lay 20 = .ok (.iconst 0, 1) := by decide +kernel
theorem d_Model_lay_21 : decode b_Model_lay 21 = .ok (.istore_n 1, 1) := by decide +kernel
theorem d_Model_lay_22 : decode b_Model_lay 22 = .ok (.iload_n 1, 1) := by decide +kernel
theorem d_Model_lay_23 : decode b_Model_lay 23 = .ok (.aload_n 0, 1) := by decide +kernel
theorem d_Model_lay_24 : decode b_Model_lay 24 = .ok (.getfield 144, 3) := by decide +kernel
theorem d_Model_lay_27 : decode b_Model_lay 27 = .ok (.if_icmp .ge 112, 3) := by decide +kernel
theorem d_Model_lay_139 : decode b_Model_lay 139 = .ok (.aload_n 0, 1) := by decide +kernel
theorem d_Model_lay_140 : decode b_Model_lay 140 = .ok (.getfield 123, 3) := by decide +kernel
theorem d_Model_lay_143 : decode b_Model_lay 143 = .ok (.ifCond .le 4, 3) := by decide +kernel
theorem d_Model_lay_147 : decode b_Model_lay 147 = .ok (.aload_n 0, 1) := by decide +kernel
theorem d_Model_lay_148 : decode b_Model_lay 148 = .ok (.aload_n 0, 1) := by decide +kernel
theorem d_Model_lay_149 : decode b_Model_lay 149 = .ok (.getfield 144, 3) := by decide +kernel
theorem d_Model_lay_152 : decode b_Model_lay 152 = .ok (.invokevirtual 246, 3) := by decide +kernel
theorem d_Model_lay_155 : decode b_Model_lay 155 = .ok (.ifCond .eq 11, 3) := by decide +kernel
theorem d_Model_lay_158 : decode b_Model_lay 158 = .ok (.aload_n 0, 1) := by decide +kernel
theorem d_Model_lay_159 : decode b_Model_lay 159 = .ok (.aload_n 0, 1) := by decide +kernel
theorem d_Model_lay_160 : decode b_Model_lay 160 = .ok (.getfield 144, 3) := by decide +kernel
theorem d_Model_lay_163 : decode b_Model_lay 163 = .ok (.invokevirtual 249, 3) := by decide +kernel
theorem d_Model_lay_166 : decode b_Model_lay 166 = .ok (.aload_n 0, 1) := by decide +kernel
theorem d_Model_lay_167 : decode b_Model_lay 167 = .ok (.iconst 1, 1) := by decide +kernel
theorem d_Model_lay_168 : decode b_Model_lay 168 = .ok (.invokevirtual 214, 3) := by decide +kernel
theorem d_Model_lay_171 : decode b_Model_lay 171 = .ok (.aload_n 0, 1) := by decide +kernel
theorem d_Model_lay_172 : decode b_Model_lay 172 = .ok (.getfield 191, 3) := by decide +kernel
theorem d_Model_lay_175 : decode b_Model_lay 175 = .ok (.ifCond .le 12, 3) := by decide +kernel
theorem d_Model_lay_187 : decode b_Model_lay 187 = .ok (.return_, 1) := by decide +kernel
theorem d_Model_partners_0 : decode b_Model_partners 0 = .ok (.iconst 0, 1) := by decide +kernel
theorem d_Model_partners_1 : decode b_Model_partners 1 = .ok (.istore_n 1, 1) := by decide +kernel
theorem d_Model_partners_2 : decode b_Model_partners 2 = .ok (.iconst 0, 1) := by decide +kernel
theorem d_Model_partners_3 : decode b_Model_partners 3 = .ok (.istore_n 2, 1) := by decide +kernel
theorem d_Model_partners_4 : decode b_Model_partners 4 = .ok (.iload_n 2, 1) := by decide +kernel
theorem d_Model_partners_5 : decode b_Model_partners 5 = .ok (.aload_n 0, 1) := by decide +kernel
theorem d_Model_partners_6 : decode b_Model_partners 6 = .ok (.getfield 188, 3) := by decide +kernel
theorem d_Model_partners_9 : decode b_Model_partners 9 = .ok (.if_icmp .ge 128, 3) := by decide +kernel
theorem d_Model_partners_12 : decode b_Model_partners 12 = .ok (.aload_n 0, 1) := by decide +kernel
theorem d_Model_partners_13 : decode b_Model_partners 13 = .ok (.getfield 37, 3) := by decide +kernel
theorem d_Model_partners_16 : decode b_Model_partners 16 = .ok (.iload_n 2, 1) := by decide +kernel
theorem d_Model_partners_17 : decode b_Model_partners 17 = .ok (.iaload, 1) := by decide +kernel
theorem d_Model_partners_18 : decode b_Model_partners 18 = .ok (.iconst 3, 1) := by decide +kernel
theorem d_Model_partners_19 : decode b_Model_partners 19 = .ok (.if_icmp .ne 33, 3) := by decide +kernel
theorem d_Model_partners_52 : decode b_Model_partners 52 = .ok (.iconst 0, 1) := by decide +kernel
theorem d_Model_partners_53 : decode b_Model_partners 53 = .ok (.istore_n 3, 1) := by decide +kernel
theorem d_Model_partners_54 : decode b_Model_partners 54 = .ok (.aload_n 0, 1) := by decide +kernel
theorem d_Model_partners_55 : decode b_Model_partners 55 = .ok (.getfield 37, 3) := by decide +kernel
theorem d_Model_partners_58 : decode b_Model_partners 58 = .ok (.iload_n 2, 1) := by decide +kernel
theorem d_Model_partners_59 : decode b_Model_partners 59 = .ok (.iaload, 1) := by decide +kernel
theorem d_Model_partners_60 : decode b_Model_partners 60 = .ok (.iconst 3, 1) := by decide +kernel
theorem d_Model_partners_61 : decode b_Model_partners 61 = .ok (.if_icmp .ne 33, 3) := by decide +kernel
theorem d_Model_partners_94 : decode b_Model_partners 94 = .ok (.iconst 0, 1) := by decide +kernel
theorem d_Model_partners_95 : decode b_Model_partners 95 = .ok (.istore 4, 2) := by decide +kernel
theorem d_Model_partners_97 : decode b_Model_partners 97 = .ok (.iload_n 3, 1) := by decide +kernel
theorem d_Model_partners_98 : decode b_Model_partners 98 = .ok (.ifCond .eq 13, 3) := by decide +kernel
theorem d_Model_partners_111 : decode b_Model_partners 111 = .ok (.iload 4, 2) := by decide +kernel
theorem d_Model_partners_113 : decode b_Model_partners 113 = .ok (.ifCond .eq 18, 3) := by decide +kernel
theorem d_Model_partners_131 : decode b_Model_partners 131 = .ok (.iinc 2 1, 3) := by decide +kernel
theorem d_Model_partners_134 : decode b_Model_partners 134 = .ok (.goto (-130), 3) := by decide +kernel
theorem d_Model_partners_137 : decode b_Model_partners 137 = .ok (.return_, 1) := by decide +kernel
theorem d_Model_plainName_0 : decode b_Model_plainName 0 = .ok (.iload_n 1, 1) := by decide +kernel
theorem d_Model_plainName_1 : decode b_Model_plainName 1 = .ok (.aload_n 0, 1) := by decide +kernel
theorem d_Model_plainName_2 : decode b_Model_plainName 2 = .ok (.getfield 188, 3) := by decide +kernel
theorem d_Model_plainName_5 : decode b_Model_plainName 5 = .ok (.if_icmp .ge 28, 3) := by decide +kernel
theorem d_Model_plainName_8 : decode b_Model_plainName 8 = .ok (.aload_n 0, 1) := by decide +kernel
theorem d_Model_plainName_9 : decode b_Model_plainName 9 = .ok (.getfield 37, 3) := by decide +kernel
theorem d_Model_plainName_12 : decode b_Model_plainName 12 = .ok (.iload_n 1, 1) := by decide +kernel
theorem d_Model_plainName_13 : decode b_Model_plainName 13 = .ok (.iaload, 1) := by decide +kernel
theorem d_Model_plainName_14 : decode b_Model_plainName 14 = .ok (.ifCond .ne 19, 3) := by decide +kernel
theorem d_Model_plainName_33 : decode b_Model_plainName 33 = .ok (.iconst 0, 1) := by decide +kernel
theorem d_Model_plainName_34 : decode b_Model_plainName 34 = .ok (.ireturn, 1) := by decide +kernel
theorem d_Model_tick_0 : decode b_Model_tick 0 = .ok (.iload_n 1, 1) := by decide +kernel
theorem d_Model_tick_1 : decode b_Model_tick 1 = .ok (.aload_n 0, 1) := by decide +kernel
theorem d_Model_tick_2 : decode b_Model_tick 2 = .ok (.getfield 188, 3) := by decide +kernel
theorem d_Model_tick_5 : decode b_Model_tick 5 = .ok (.if_icmp .ge 30, 3) := by decide +kernel
theorem d_Model_tick_8 : decode b_Model_tick 8 = .ok (.aload_n 0, 1) := by decide +kernel
theorem d_Model_tick_9 : decode b_Model_tick 9 = .ok (.getfield 37, 3) := by decide +kernel
theorem d_Model_tick_12 : decode b_Model_tick 12 = .ok (.iload_n 1, 1) := by decide +kernel
theorem d_Model_tick_13 : decode b_Model_tick 13 = .ok (.iaload, 1) := by decide +kernel
theorem d_Model_tick_14 : decode b_Model_tick 14 = .ok (.iconst 3, 1) := by decide +kernel
theorem d_Model_tick_15 : decode b_Model_tick 15 = .ok (.if_icmp .ne 20, 3) := by decide +kernel
theorem d_Model_tick_35 : decode b_Model_tick 35 = .ok (.iconst 0, 1) := by decide +kernel
theorem d_Model_tick_36 : decode b_Model_tick 36 = .ok (.ireturn, 1) := by decide +kernel
theorem d_Model_extent_0 : decode b_Model_extent 0 = .ok (.iload_n 1, 1) := by decide +kernel
theorem d_Model_extent_1 : decode b_Model_extent 1 = .ok (.aload_n 0, 1) := by decide +kernel
theorem d_Model_extent_2 : decode b_Model_extent 2 = .ok (.getfield 188, 3) := by decide +kernel
theorem d_Model_extent_5 : decode b_Model_extent 5 = .ok (.if_icmp .lt 5, 3) := by decide +kernel
theorem d_Model_extent_10 : decode b_Model_extent 10 = .ok (.aload_n 0, 1) := by decide +kernel
theorem d_Model_extent_11 : decode b_Model_extent 11 = .ok (.iload_n 1, 1) := by decide +kernel
theorem d_Model_extent_12 : decode b_Model_extent 12 = .ok (.invokevirtual 284, 3) := by decide +kernel
theorem d_Model_extent_15 : decode b_Model_extent 15 = .ok (.ifCond .ne 13, 3) := by decide +kernel
theorem d_Model_extent_18 : decode b_Model_extent 18 = .ok (.aload_n 0, 1) := by decide +kernel
theorem d_Model_extent_19 : decode b_Model_extent 19 = .ok (.getfield 37, 3) := by decide +kernel
theorem d_Model_extent_22 : decode b_Model_extent 22 = .ok (.iload_n 1, 1) := by decide +kernel
theorem d_Model_extent_23 : decode b_Model_extent 23 = .ok (.iaload, 1) := by decide +kernel
theorem d_Model_extent_24 : decode b_Model_extent 24 = .ok (.iconst 1, 1) := by decide +kernel
theorem d_Model_extent_25 : decode b_Model_extent 25 = .ok (.if_icmp .ne 5, 3) := by decide +kernel
theorem d_Model_extent_30 : decode b_Model_extent 30 = .ok (.aload_n 0, 1) := by decide +kernel
theorem d_Model_extent_31 : decode b_Model_extent 31 = .ok (.getfield 37, 3) := by decide +kernel
theorem d_Model_extent_34 : decode b_Model_extent 34 = .ok (.iload_n 1, 1) := by decide +kernel
theorem d_Model_extent_35 : decode b_Model_extent 35 = .ok (.iaload, 1) := by decide +kernel
theorem d_Model_extent_36 : decode b_Model_extent 36 = .ok (.iconst 3, 1) := by decide +kernel
theorem d_Model_extent_37 : decode b_Model_extent 37 = .ok (.if_icmp .ne 40, 3) := by decide +kernel
theorem d_Model_extent_77 : decode b_Model_extent 77 = .ok (.aload_n 0, 1) := by decide +kernel
theorem d_Model_extent_78 : decode b_Model_extent 78 = .ok (.getfield 37, 3) := by decide +kernel
theorem d_Model_extent_81 : decode b_Model_extent 81 = .ok (.iload_n 1, 1) := by decide +kernel
theorem d_Model_extent_82 : decode b_Model_extent 82 = .ok (.iaload, 1) := by decide +kernel
theorem d_Model_extent_83 : decode b_Model_extent 83 = .ok (.iconst 2, 1) := by decide +kernel
theorem d_Model_extent_84 : decode b_Model_extent 84 = .ok (.if_icmp .ne 21, 3) := by decide +kernel
theorem d_Model_extent_105 : decode b_Model_extent 105 = .ok (.aload_n 0, 1) := by decide +kernel
theorem d_Model_extent_106 : decode b_Model_extent 106 = .ok (.iload_n 1, 1) := by decide +kernel
theorem d_Model_extent_107 : decode b_Model_extent 107 = .ok (.invokevirtual 290, 3) := by decide +kernel
theorem d_Model_extent_110 : decode b_Model_extent 110 = .ok (.ifCond .eq 27, 3) := by decide +kernel
theorem d_Model_extent_137 : decode b_Model_extent 137 = .ok (.iconst 0, 1) := by decide +kernel
theorem d_Model_extent_138 : decode b_Model_extent 138 = .ok (.ireturn, 1) := by decide +kernel
theorem d_Model_around_0 : decode b_Model_around 0 = .ok (.aload_n 0, 1) := by decide +kernel
theorem d_Model_around_1 : decode b_Model_around 1 = .ok (.iconst 0, 1) := by decide +kernel
theorem d_Model_around_2 : decode b_Model_around 2 = .ok (.putfield 337, 3) := by decide +kernel
theorem d_Model_around_5 : decode b_Model_around 5 = .ok (.aload_n 0, 1) := by decide +kernel
theorem d_Model_around_6 : decode b_Model_around 6 = .ok (.iconst 0, 1) := by decide +kernel
theorem d_Model_around_7 : decode b_Model_around 7 = .ok (.putfield 334, 3) := by decide +kernel
theorem d_Model_around_10 : decode b_Model_around 10 = .ok (.aload_n 0, 1) := by decide +kernel
theorem d_Model_around_11 : decode b_Model_around 11 = .ok (.invokevirtual 340, 3) := by decide +kernel
theorem d_Model_around_14 : decode b_Model_around 14 = .ok (.iconst 0, 1) := by decide +kernel
theorem d_Model_around_15 : decode b_Model_around 15 = .ok (.istore_n 1, 1) := by decide +kernel
theorem d_Model_around_16 : decode b_Model_around 16 = .ok (.iload_n 1, 1) := by decide +kernel
theorem d_Model_around_17 : decode b_Model_around 17 = .ok (.aload_n 0, 1) := by decide +kernel
theorem d_Model_around_18 : decode b_Model_around 18 = .ok (.getfield 188, 3) := by decide +kernel
theorem d_Model_around_21 : decode b_Model_around 21 = .ok (.if_icmp .ge 42, 3) := by decide +kernel
theorem d_Model_around_24 : decode b_Model_around 24 = .ok (.aload_n 0, 1) := by decide +kernel
theorem d_Model_around_25 : decode b_Model_around 25 = .ok (.getfield 52, 3) := by decide +kernel
theorem d_Model_around_28 : decode b_Model_around 28 = .ok (.iload_n 1, 1) := by decide +kernel
theorem d_Model_around_29 : decode b_Model_around 29 = .ok (.baload, 1) := by decide +kernel
theorem d_Model_around_30 : decode b_Model_around 30 = .ok (.ifCond .ne 27, 3) := by decide +kernel
theorem d_Model_around_33 : decode b_Model_around 33 = .ok (.aload_n 0, 1) := by decide +kernel
theorem d_Model_around_34 : decode b_Model_around 34 = .ok (.iload_n 1, 1) := by decide +kernel
theorem d_Model_around_35 : decode b_Model_around 35 = .ok (.invokevirtual 298, 3) := by decide +kernel
theorem d_Model_around_38 : decode b_Model_around 38 = .ok (.ifCond .le 19, 3) := by decide +kernel
theorem d_Model_around_57 : decode b_Model_around 57 = .ok (.iinc 1 1, 3) := by decide +kernel
theorem d_Model_around_60 : decode b_Model_around 60 = .ok (.goto (-44), 3) := by decide +kernel
theorem d_Model_around_63 : decode b_Model_around 63 = .ok (.return_, 1) := by decide +kernel
theorem d_Model_add_0 : decode b_Model_add 0 = .ok (.aload_n 0, 1) := by decide +kernel
theorem d_Model_add_1 : decode b_Model_add 1 = .ok (.getfield 55, 3) := by decide +kernel
theorem d_Model_add_4 : decode b_Model_add 4 = .ok (.aload_n 0, 1) := by decide +kernel
theorem d_Model_add_5 : decode b_Model_add 5 = .ok (.getfield 353, 3) := by decide +kernel
theorem d_Model_add_8 : decode b_Model_add 8 = .ok (.iload_n 1, 1) := by decide +kernel
theorem d_Model_add_9 : decode b_Model_add 9 = .ok (.iastore, 1) := by decide +kernel
theorem d_Model_add_10 : decode b_Model_add 10 = .ok (.aload_n 0, 1) := by decide +kernel
theorem d_Model_add_11 : decode b_Model_add 11 = .ok (.getfield 58, 3) := by decide +kernel
theorem d_Model_add_14 : decode b_Model_add 14 = .ok (.aload_n 0, 1) := by decide +kernel
theorem d_Model_add_15 : decode b_Model_add 15 = .ok (.getfield 353, 3) := by decide +kernel
theorem d_Model_add_18 : decode b_Model_add 18 = .ok (.lload_n 2, 1) := by decide +kernel
theorem d_Model_add_19 : decode b_Model_add 19 = .ok (.lastore, 1) := by decide +kernel
theorem d_Model_add_20 : decode b_Model_add 20 = .ok (.aload_n 0, 1) := by decide +kernel
theorem d_Model_add_21 : decode b_Model_add 21 = .ok (.dup, 1) := by decide +kernel
theorem d_Model_add_22 : decode b_Model_add 22 = .ok (.getfield 353, 3) := by decide +kernel
theorem d_Model_add_25 : decode b_Model_add 25 = .ok (.iconst 1, 1) := by decide +kernel
end
section
theorem d_Model_add_26 : decode b_Model_add 26 = .ok (.iadd, 1) := by decide +kernel
theorem d_Model_add_27 : decode b_Model_add 27 = .ok (.putfield 353, 3) := by decide +kernel
theorem d_Model_add_30 : decode b_Model_add 30 = .ok (.return_, 1) := by decide +kernel
theorem d_Model_read_0 : decode b_Model_read 0 = .ok (.aload_n 0, 1) := by decide +kernel
theorem d_Model_read_1 : decode b_Model_read 1 = .ok (.iconst 0, 1) := by decide +kernel
theorem d_Model_read_2 : decode b_Model_read 2 = .ok (.putfield 97, 3) := by decide +kernel
theorem d_Model_read_5 : decode b_Model_read 5 = .ok (.aload_n 0, 1) := by decide +kernel
theorem d_Model_read_6 : decode b_Model_read 6 = .ok (.iconst 0, 1) := by decide +kernel
theorem d_Model_read_7 : decode b_Model_read 7 = .ok (.putfield 123, 3) := by decide +kernel
theorem d_Model_read_10 : decode b_Model_read 10 = .ok (.aload_n 0, 1) := by decide +kernel
theorem d_Model_read_11 : decode b_Model_read 11 = .ok (.iconst (-1), 1) := by decide +kernel
theorem d_Model_read_12 : decode b_Model_read 12 = .ok (.putfield 13, 3) := by decide +kernel
theorem d_Model_read_15 : decode b_Model_read 15 = .ok (.aload_n 0, 1) := by decide +kernel
theorem d_Model_read_16 : decode b_Model_read 16 = .ok (.iconst 0, 1) := by decide +kernel
theorem d_Model_read_17 : decode b_Model_read 17 = .ok (.putfield 353, 3) := by decide +kernel
theorem d_Model_read_20 : decode b_Model_read 20 = .ok (.aload_n 0, 1) := by decide +kernel
theorem d_Model_read_21 : decode b_Model_read 21 = .ok (.invokevirtual 356, 3) := by decide +kernel
theorem d_Model_read_24 : decode b_Model_read 24 = .ok (.aload_n 0, 1) := by decide +kernel
theorem d_Model_read_25 : decode b_Model_read 25 = .ok (.getfield 123, 3) := by decide +kernel
theorem d_Model_read_28 : decode b_Model_read 28 = .ok (.ifCond .ne 7, 3) := by decide +kernel
theorem d_Model_read_31 : decode b_Model_read 31 = .ok (.aload_n 0, 1) := by decide +kernel
theorem d_Model_read_32 : decode b_Model_read 32 = .ok (.invokevirtual 359, 3) := by decide +kernel
theorem d_Model_read_35 : decode b_Model_read 35 = .ok (.aload_n 0, 1) := by decide +kernel
theorem d_Model_read_36 : decode b_Model_read 36 = .ok (.getfield 123, 3) := by decide +kernel
theorem d_Model_read_39 : decode b_Model_read 39 = .ok (.ifCond .le 12, 3) := by decide +kernel
theorem d_Model_read_51 : decode b_Model_read 51 = .ok (.aload_n 0, 1) := by decide +kernel
theorem d_Model_read_52 : decode b_Model_read 52 = .ok (.invokevirtual 362, 3) := by decide +kernel
theorem d_Model_read_55 : decode b_Model_read 55 = .ok (.iconst 0, 1) := by decide +kernel
theorem d_Model_read_56 : decode b_Model_read 56 = .ok (.istore_n 1, 1) := by decide +kernel
theorem d_Model_read_57 : decode b_Model_read 57 = .ok (.iload_n 1, 1) := by decide +kernel
theorem d_Model_read_58 : decode b_Model_read 58 = .ok (.aload_n 0, 1) := by decide +kernel
theorem d_Model_read_59 : decode b_Model_read 59 = .ok (.getfield 188, 3) := by decide +kernel
theorem d_Model_read_62 : decode b_Model_read 62 = .ok (.if_icmp .ge 77, 3) := by decide +kernel
theorem d_Model_read_65 : decode b_Model_read 65 = .ok (.iconst 0, 1) := by decide +kernel
theorem d_Model_read_66 : decode b_Model_read 66 = .ok (.istore_n 2, 1) := by decide +kernel
theorem d_Model_read_67 : decode b_Model_read 67 = .ok (.iload_n 2, 1) := by decide +kernel
theorem d_Model_read_68 : decode b_Model_read 68 = .ok (.aload_n 0, 1) := by decide +kernel
theorem d_Model_read_69 : decode b_Model_read 69 = .ok (.getfield 43, 3) := by decide +kernel
theorem d_Model_read_72 : decode b_Model_read 72 = .ok (.iload_n 1, 1) := by decide +kernel
theorem d_Model_read_73 : decode b_Model_read 73 = .ok (.iaload, 1) := by decide +kernel
theorem d_Model_read_74 : decode b_Model_read 74 = .ok (.if_icmp .ge 17, 3) := by decide +kernel
theorem d_Model_read_91 : decode b_Model_read 91 = .ok (.aload_n 0, 1) := by decide +kernel
theorem d_Model_read_92 : decode b_Model_read 92 = .ok (.aload_n 0, 1) := by decide +kernel
theorem d_Model_read_93 : decode b_Model_read 93 = .ok (.getfield 37, 3) := by decide +kernel
theorem d_Model_read_96 : decode b_Model_read 96 = .ok (.iload_n 1, 1) := by decide +kernel
theorem d_Model_read_97 : decode b_Model_read 97 = .ok (.iaload, 1) := by decide +kernel
theorem d_Model_read_98 : decode b_Model_read 98 = .ok (.aload_n 0, 1) := by decide +kernel
theorem d_Model_read_99 : decode b_Model_read 99 = .ok (.getfield 40, 3) := by decide +kernel
theorem d_Model_read_102 : decode b_Model_read 102 = .ok (.iload_n 1, 1) := by decide +kernel
theorem d_Model_read_103 : decode b_Model_read 103 = .ok (.laload, 1) := by decide +kernel
theorem d_Model_read_104 : decode b_Model_read 104 = .ok (.invokevirtual 365, 3) := by decide +kernel
theorem d_Model_read_107 : decode b_Model_read 107 = .ok (.iconst 0, 1) := by decide +kernel
theorem d_Model_read_108 : decode b_Model_read 108 = .ok (.istore_n 2, 1) := by decide +kernel
theorem d_Model_read_109 : decode b_Model_read 109 = .ok (.iload_n 2, 1) := by decide +kernel
theorem d_Model_read_110 : decode b_Model_read 110 = .ok (.aload_n 0, 1) := by decide +kernel
theorem d_Model_read_111 : decode b_Model_read 111 = .ok (.getfield 46, 3) := by decide +kernel
theorem d_Model_read_114 : decode b_Model_read 114 = .ok (.iload_n 1, 1) := by decide +kernel
theorem d_Model_read_115 : decode b_Model_read 115 = .ok (.iaload, 1) := by decide +kernel
theorem d_Model_read_116 : decode b_Model_read 116 = .ok (.if_icmp .ge 17, 3) := by decide +kernel
theorem d_Model_read_133 : decode b_Model_read 133 = .ok (.iinc 1 1, 3) := by decide +kernel
theorem d_Model_read_136 : decode b_Model_read 136 = .ok (.goto (-79), 3) := by decide +kernel
theorem d_Model_read_139 : decode b_Model_read 139 = .ok (.aload_n 0, 1) := by decide +kernel
theorem d_Model_read_140 : decode b_Model_read 140 = .ok (.aload_n 0, 1) := by decide +kernel
theorem d_Model_read_141 : decode b_Model_read 141 = .ok (.getfield 144, 3) := by decide +kernel
theorem d_Model_read_144 : decode b_Model_read 144 = .ok (.putfield 368, 3) := by decide +kernel
theorem d_Model_read_147 : decode b_Model_read 147 = .ok (.aload_n 0, 1) := by decide +kernel
theorem d_Model_read_148 : decode b_Model_read 148 = .ok (.aload_n 0, 1) := by decide +kernel
theorem d_Model_read_149 : decode b_Model_read 149 = .ok (.getfield 240, 3) := by decide +kernel
theorem d_Model_read_152 : decode b_Model_read 152 = .ok (.putfield 371, 3) := by decide +kernel
theorem d_Model_read_155 : decode b_Model_read 155 = .ok (.aload_n 0, 1) := by decide +kernel
theorem d_Model_read_156 : decode b_Model_read 156 = .ok (.aload_n 0, 1) := by decide +kernel
theorem d_Model_read_157 : decode b_Model_read 157 = .ok (.getfield 337, 3) := by decide +kernel
theorem d_Model_read_160 : decode b_Model_read 160 = .ok (.putfield 374, 3) := by decide +kernel
theorem d_Model_read_163 : decode b_Model_read 163 = .ok (.aload_n 0, 1) := by decide +kernel
theorem d_Model_read_164 : decode b_Model_read 164 = .ok (.aload_n 0, 1) := by decide +kernel
theorem d_Model_read_165 : decode b_Model_read 165 = .ok (.getfield 334, 3) := by decide +kernel
theorem d_Model_read_168 : decode b_Model_read 168 = .ok (.putfield 377, 3) := by decide +kernel
theorem d_Model_read_171 : decode b_Model_read 171 = .ok (.aload_n 0, 1) := by decide +kernel
theorem d_Model_read_172 : decode b_Model_read 172 = .ok (.aload_n 0, 1) := by decide +kernel
theorem d_Model_read_173 : decode b_Model_read 173 = .ok (.getfield 194, 3) := by decide +kernel
theorem d_Model_read_176 : decode b_Model_read 176 = .ok (.putfield 380, 3) := by decide +kernel
theorem d_Model_read_179 : decode b_Model_read 179 = .ok (.aload_n 0, 1) := by decide +kernel
theorem d_Model_read_180 : decode b_Model_read 180 = .ok (.getfield 353, 3) := by decide +kernel
theorem d_Model_read_183 : decode b_Model_read 183 = .ok (.ireturn, 1) := by decide +kernel
theorem d_Text_clear_0 : decode b_Text_clear 0 = .ok (.aload_n 0, 1) := by decide +kernel
theorem d_Text_clear_1 : decode b_Text_clear 1 = .ok (.iconst 0, 1) := by decide +kernel
theorem d_Text_clear_2 : decode b_Text_clear 2 = .ok (.putfield 19, 3) := by decide +kernel
theorem d_Text_clear_5 : decode b_Text_clear 5 = .ok (.return_, 1) := by decide +kernel
theorem d_LF_erase_0 : decode b_LF_erase 0 = .ok (.aload_n 0, 1) := by decide +kernel
theorem d_LF_erase_1 : decode b_LF_erase 1 = .ok (.getfield 12, 3) := by decide +kernel
theorem d_LF_erase_4 : decode b_LF_erase 4 = .ok (.invokevirtual 85, 3) := by decide +kernel
theorem d_LF_erase_7 : decode b_LF_erase 7 = .ok (.istore_n 1, 1) := by decide +kernel
theorem d_LF_erase_8 : decode b_LF_erase 8 = .ok (.aload_n 0, 1) := by decide +kernel
theorem d_LF_erase_9 : decode b_LF_erase 9 = .ok (.getfield 12, 3) := by decide +kernel
theorem d_LF_erase_12 : decode b_LF_erase 12 = .ok (.invokevirtual 89, 3) := by decide +kernel
theorem d_LF_erase_15 : decode b_LF_erase 15 = .ok (.iload_n 1, 1) := by decide +kernel
theorem d_LF_erase_16 : decode b_LF_erase 16 = .ok (.ireturn, 1) := by decide +kernel
theorem d_LF_place_0 : decode b_LF_place 0 = .ok (.aload_n 0, 1) := by decide +kernel
theorem d_LF_place_1 : decode b_LF_place 1 = .ok (.getfield 57, 3) := by decide +kernel
theorem d_LF_place_4 : decode b_LF_place 4 = .ok (.ireturn, 1) := by decide +kernel
theorem d_Model_erase_0 : decode b_Model_erase 0 = .ok (.aload_n 0, 1) := by decide +kernel
theorem d_Model_erase_1 : decode b_Model_erase 1 = .ok (.iconst 0, 1) := by decide +kernel
theorem d_Model_erase_2 : decode b_Model_erase 2 = .ok (.putfield 97, 3) := by decide +kernel
theorem d_Model_erase_5 : decode b_Model_erase 5 = .ok (.aload_n 0, 1) := by decide +kernel
theorem d_Model_erase_6 : decode b_Model_erase 6 = .ok (.getfield 110, 3) := by decide +kernel
theorem d_Model_erase_9 : decode b_Model_erase 9 = .ok (.istore_n 1, 1) := by decide +kernel
theorem d_Model_erase_10 : decode b_Model_erase 10 = .ok (.aload_n 0, 1) := by decide +kernel
theorem d_Model_erase_11 : decode b_Model_erase 11 = .ok (.iconst 0, 1) := by decide +kernel
theorem d_Model_erase_12 : decode b_Model_erase 12 = .ok (.putfield 110, 3) := by decide +kernel
theorem d_Model_erase_15 : decode b_Model_erase 15 = .ok (.iload_n 1, 1) := by decide +kernel
theorem d_Model_erase_16 : decode b_Model_erase 16 = .ok (.ireturn, 1) := by decide +kernel
theorem d_Model_place_0 : decode b_Model_place 0 = .ok (.aload_n 0, 1) := by decide +kernel
theorem d_Model_place_1 : decode b_Model_place 1 = .ok (.iconst 0, 1) := by decide +kernel
theorem d_Model_place_2 : decode b_Model_place 2 = .ok (.putfield 97, 3) := by decide +kernel
theorem d_Model_place_5 : decode b_Model_place 5 = .ok (.aload_n 0, 1) := by decide +kernel
theorem d_Model_place_6 : decode b_Model_place 6 = .ok (.getfield 13, 3) := by decide +kernel
theorem d_Model_place_9 : decode b_Model_place 9 = .ok (.ireturn, 1) := by decide +kernel
theorem d_Law_read_0 : decode b_Law_read 0 = .ok (.aload_n 1, 1) := by decide +kernel
theorem d_Law_read_1 : decode b_Law_read 1 = .ok (.iconst 0, 1) := by decide +kernel
theorem d_Law_read_2 : decode b_Law_read 2 = .ok (.aload_n 0, 1) := by decide +kernel
theorem d_Law_read_3 : decode b_Law_read 3 = .ok (.invokevirtual 21, 3) := by decide +kernel
theorem d_Law_read_6 : decode b_Law_read 6 = .ok (.i2l, 1) := by decide +kernel
theorem d_Law_read_7 : decode b_Law_read 7 = .ok (.lastore, 1) := by decide +kernel
theorem d_Law_read_8 : decode b_Law_read 8 = .ok (.goto 9, 3) := by decide +kernel
theorem d_Law_read_17 : decode b_Law_read 17 = .ok (.iconst 0, 1) := by decide +kernel
theorem d_Law_read_18 : decode b_Law_read 18 = .ok (.ireturn, 1) := by decide +kernel
theorem d_LF_count_0 : decode b_LF_count 0 = .ok (.iload_n 1, 1) := by decide +kernel
theorem d_LF_count_1 : decode b_LF_count 1 = .ok (.ifCond .lt 8, 3) := by decide +kernel
theorem d_LF_count_4 : decode b_LF_count 4 = .ok (.iload_n 1, 1) := by decide +kernel
theorem d_LF_count_5 : decode b_LF_count 5 = .ok (.iconst 5, 1) := by decide +kernel
theorem d_LF_count_6 : decode b_LF_count 6 = .ok (.if_icmp .lt 13, 3) := by decide +kernel
theorem d_LF_count_9 : decode b_LF_count 9 = .ok (.new 161, 3) := by decide +kernel
theorem d_LF_count_12 : decode b_LF_count 12 = .ok (.dup, 1) := by decide +kernel
theorem d_LF_count_13 : decode b_LF_count 13 = .ok (.ldc 174, 2) := by decide +kernel
theorem d_LF_count_15 : decode b_LF_count 15 = .ok (.invokespecial 165, 3) := by decide +kernel
theorem d_LF_count_18 : decode b_LF_count 18 = .ok (.athrow, 1) := by decide +kernel
theorem d_LF_count_19 : decode b_LF_count 19 = .ok (.aload_n 0, 1) := by decide +kernel
theorem d_LF_count_20 : decode b_LF_count 20 = .ok (.getfield 53, 3) := by decide +kernel
theorem d_LF_count_23 : decode b_LF_count 23 = .ok (.iload_n 1, 1) := by decide +kernel
theorem d_LF_count_24 : decode b_LF_count 24 = .ok (.iaload, 1) := by decide +kernel
theorem d_LF_count_25 : decode b_LF_count 25 = .ok (.ireturn, 1) := by decide +kernel
theorem d_Law_count_0 : decode b_Law_count 0 = .ok (.aload_n 2, 1) := by decide +kernel
theorem d_Law_count_1 : decode b_Law_count 1 = .ok (.iconst 0, 1) := by decide +kernel
theorem d_Law_count_2 : decode b_Law_count 2 = .ok (.aload_n 0, 1) := by decide +kernel
theorem d_Law_count_3 : decode b_Law_count 3 = .ok (.iload_n 1, 1) := by decide +kernel
theorem d_Law_count_4 : decode b_Law_count 4 = .ok (.invokevirtual 35, 3) := by decide +kernel
theorem d_Law_count_7 : decode b_Law_count 7 = .ok (.i2l, 1) := by decide +kernel
theorem d_Law_count_8 : decode b_Law_count 8 = .ok (.lastore, 1) := by decide +kernel
theorem d_Law_count_9 : decode b_Law_count 9 = .ok (.goto 6, 3) := by decide +kernel
theorem d_Law_count_12 : decode b_Law_count 12 = .ok (.astore_n 3, 1) := by decide +kernel
theorem d_Law_count_13 : decode b_Law_count 13 = .ok (.iconst 1, 1) := by decide +kernel
theorem d_Law_count_14 : decode b_Law_count 14 = .ok (.ireturn, 1) := by decide +kernel
theorem d_Law_count_15 : decode b_Law_count 15 = .ok (.iconst 0, 1) := by decide +kernel
theorem d_Law_count_16 : decode b_Law_count 16 = .ok (.ireturn, 1) := by decide +kernel
theorem d_Model_within_0 : decode b_Model_within 0 = .ok (.iload_n 0, 1) := by decide +kernel
theorem d_Model_within_1 : decode b_Model_within 1 = .ok (.iload_n 1, 1) := by decide +kernel
theorem d_Model_within_2 : decode b_Model_within 2 = .ok (.if_icmp .lt 12, 3) := by decide +kernel
theorem d_Model_within_5 : decode b_Model_within 5 = .ok (.iload_n 0, 1) := by decide +kernel
theorem d_Model_within_6 : decode b_Model_within 6 = .ok (.iload_n 2, 1) := by decide +kernel
theorem d_Model_within_7 : decode b_Model_within 7 = .ok (.if_icmp .gt 7, 3) := by decide +kernel
theorem d_Model_within_10 : decode b_Model_within 10 = .ok (.iconst 1, 1) := by decide +kernel
theorem d_Model_within_11 : decode b_Model_within 11 = .ok (.goto 4, 3) := by decide +kernel
theorem d_Model_within_14 : decode b_Model_within 14 = .ok (.iconst 0, 1) := by decide +kernel
theorem d_Model_within_15 : decode b_Model_within 15 = .ok (.ireturn, 1) := by decide +kernel
theorem d_Model_count_0 : decode b_Model_count 0 = .ok (.aload_n 0, 1) := by decide +kernel
theorem d_Model_count_1 : decode b_Model_count 1 = .ok (.iconst 0, 1) := by decide +kernel
theorem d_Model_count_2 : decode b_Model_count 2 = .ok (.putfield 97, 3) := by decide +kernel
theorem d_Model_count_5 : decode b_Model_count 5 = .ok (.iload_n 1, 1) := by decide +kernel
theorem d_Model_count_6 : decode b_Model_count 6 = .ok (.iconst 0, 1) := by decide +kernel
theorem d_Model_count_7 : decode b_Model_count 7 = .ok (.iconst 4, 1) := by decide +kernel
theorem d_Model_count_8 : decode b_Model_count 8 = .ok (.invokestatic 100, 3) := by decide +kernel
theorem d_Model_count_11 : decode b_Model_count 11 = .ok (.ifCond .ne 9, 3) := by decide +kernel
theorem d_Model_count_14 : decode b_Model_count 14 = .ok (.aload_n 0, 1) := by decide +kernel
theorem d_Model_count_15 : decode b_Model_count 15 = .ok (.iconst 1, 1) := by decide +kernel
theorem d_Model_count_16 : decode b_Model_count 16 = .ok (.invokevirtual 104, 3) := by decide +kernel
theorem d_Model_count_19 : decode b_Model_count 19 = .ok (.ireturn, 1) := by decide +kernel
theorem d_Model_count_20 : decode b_Model_count 20 = .ok (.iload_n 1, 1) := by decide +kernel
theorem d_Model_count_21 : decode b_Model_count 21 = .ok (.iconst 3, 1) := by decide +kernel
theorem d_Model_count_22 : decode b_Model_count 22 = .ok (.if_icmp .ge 31, 3) := by decide +kernel
theorem d_Model_count_25 : decode b_Model_count 25 = .ok (.iload_n 1, 1) := by decide +kernel
theorem d_Model_count_26 : decode b_Model_count 26 = .ok (.ifCond .ne 10, 3) := by decide +kernel
theorem d_Model_count_29 : decode b_Model_count 29 = .ok (.aload_n 0, 1) := by decide +kernel
theorem d_Model_count_30 : decode b_Model_count 30 = .ok (.getfield 368, 3) := by decide +kernel
theorem d_Model_count_33 : decode b_Model_count 33 = .ok (.goto 19, 3) := by decide +kernel
theorem d_Model_count_36 : decode b_Model_count 36 = .ok (.iload_n 1, 1) := by decide +kernel
theorem d_Model_count_37 : decode b_Model_count 37 = .ok (.iconst 1, 1) := by decide +kernel
theorem d_Model_count_38 : decode b_Model_count 38 = .ok (.if_icmp .ne 10, 3) := by decide +kernel
theorem d_Model_count_41 : decode b_Model_count 41 = .ok (.aload_n 0, 1) := by decide +kernel
theorem d_Model_count_42 : decode b_Model_count 42 = .ok (.getfield 371, 3) := by decide +kernel
theorem d_Model_count_45 : decode b_Model_count 45 = .ok (.goto 7, 3) := by decide +kernel
theorem d_Model_count_48 : decode b_Model_count 48 = .ok (.aload_n 0, 1) := by decide +kernel
theorem d_Model_count_49 : decode b_Model_count 49 = .ok (.getfield 374, 3) := by decide +kernel
theorem d_Model_count_52 : decode b_Model_count 52 = .ok (.ireturn, 1) := by decide +kernel
theorem d_Model_count_53 : decode b_Model_count 53 = .ok (.iload_n 1, 1) := by decide +kernel
theorem d_Model_count_54 : decode b_Model_count 54 = .ok (.iconst 3, 1) := by decide +kernel
theorem d_Model_count_55 : decode b_Model_count 55 = .ok (.if_icmp .ne 10, 3) := by decide +kernel
theorem d_Model_count_58 : decode b_Model_count 58 = .ok (.aload_n 0, 1) := by decide +kernel
theorem d_Model_count_59 : decode b_Model_count 59 = .ok (.getfield 377, 3) := by decide +kernel
theorem d_Model_count_62 : decode b_Model_count 62 = .ok (.goto 7, 3) := by decide +kernel
theorem d_Model_count_65 : decode b_Model_count 65 = .ok (.aload_n 0, 1) := by decide +kernel
theorem d_Model_count_66 : decode b_Model_count 66 = .ok (.getfield 380, 3) := by decide +kernel
theorem d_Model_count_69 : decode b_Model_count 69 = .ok (.ireturn, 1) := by decide +kernel
theorem d_Model_fail_0 : decode b_Model_fail 0 = .ok (.aload_n 0, 1) := by decide +kernel
theorem d_Model_fail_1 : decode b_Model_fail 1 = .ok (.iload_n 1, 1) := by decide +kernel
theorem d_Model_fail_2 : decode b_Model_fail 2 = .ok (.putfield 97, 3) := by decide +kernel
theorem d_Model_fail_5 : decode b_Model_fail 5 = .ok (.iconst 0, 1) := by decide +kernel
theorem d_Model_fail_6 : decode b_Model_fail 6 = .ok (.ireturn, 1) := by decide +kernel
theorem d_Model_kind_0 : decode b_Model_kind 0 = .ok (.aload_n 0, 1) := by decide +kernel
theorem d_Model_kind_1 : decode b_Model_kind 1 = .ok (.iconst 0, 1) := by decide +kernel
theorem d_Model_kind_2 : decode b_Model_kind 2 = .ok (.putfield 97, 3) := by decide +kernel
theorem d_Model_kind_5 : decode b_Model_kind 5 = .ok (.iload_n 1, 1) := by decide +kernel
theorem d_Model_kind_6 : decode b_Model_kind 6 = .ok (.iconst 0, 1) := by decide +kernel
theorem d_Model_kind_7 : decode b_Model_kind 7 = .ok (.aload_n 0, 1) := by decide +kernel
theorem d_Model_kind_8 : decode b_Model_kind 8 = .ok (.getfield 353, 3) := by decide +kernel
theorem d_Model_kind_11 : decode b_Model_kind 11 = .ok (.iconst 1, 1) := by decide +kernel
theorem d_Model_kind_12 : decode b_Model_kind 12 = .ok (.isub, 1) := by decide +kernel
theorem d_Model_kind_13 : decode b_Model_kind 13 = .ok (.invokestatic 100, 3) := by decide +kernel
theorem d_Model_kind_16 : decode b_Model_kind 16 = .ok (.ifCond .eq 12, 3) := by decide +kernel
theorem d_Model_kind_28 : decode b_Model_kind 28 = .ok (.aload_n 0, 1) := by decide +kernel
theorem d_Model_kind_29 : decode b_Model_kind 29 = .ok (.iconst 1, 1) := by decide +kernel
theorem d_Model_kind_30 : decode b_Model_kind 30 = .ok (.invokevirtual 104, 3) := by decide +kernel
theorem d_Model_kind_33 : decode b_Model_kind 33 = .ok (.ireturn, 1) := by decide +kernel
theorem d_Model_token_0 : decode b_Model_token 0 = .ok (.aload_n 0, 1) := by decide +kernel
theorem d_Model_token_1 : decode b_Model_token 1 = .ok (.iconst 0, 1) := by decide +kernel
theorem d_Model_token_2 : decode b_Model_token 2 = .ok (.putfield 97, 3) := by decide +kernel
theorem d_Model_token_5 : decode b_Model_token 5 = .ok (.iload_n 1, 1) := by decide +kernel
theorem d_Model_token_6 : decode b_Model_token 6 = .ok (.iconst 0, 1) := by decide +kernel
theorem d_Model_token_7 : decode b_Model_token 7 = .ok (.aload_n 0, 1) := by decide +kernel
theorem d_Model_token_8 : decode b_Model_token 8 = .ok (.getfield 353, 3) := by decide +kernel
theorem d_Model_token_11 : decode b_Model_token 11 = .ok (.iconst 1, 1) := by decide +kernel
theorem d_Model_token_12 : decode b_Model_token 12 = .ok (.isub, 1) := by decide +kernel
theorem d_Model_token_13 : decode b_Model_token 13 = .ok (.invokestatic 100, 3) := by decide +kernel
theorem d_Model_token_16 : decode b_Model_token 16 = .ok (.ifCond .eq 12, 3) := by decide +kernel
theorem d_Model_token_28 : decode b_Model_token 28 = .ok (.aload_n 0, 1) := by decide +kernel
theorem d_Model_token_29 : decode b_Model_token 29 = .ok (.iconst 1, 1) := by decide +kernel
theorem d_Model_token_30 : decode b_Model_token 30 = .ok (.invokevirtual 104, 3) := by decide +kernel
theorem d_Model_token_33 : decode b_Model_token 33 = .ok (.i2l, 1) := by decide +kernel
theorem d_Model_token_34 : decode b_Model_token 34 = .ok (.lreturn, 1) := by decide +kernel
theorem d_Fixities_hasRoomFor_0 : decode b_Fixities_hasRoomFor 0 = .ok (.aload_n 0, 1) := by decide +kernel
theorem d_Fixities_hasRoomFor_1 : decode b_Fixities_hasRoomFor 1 = .ok (.getfield 22, 3) := by decide +kernel
theorem d_Fixities_hasRoomFor_4 : decode b_Fixities_hasRoomFor 4 = .ok (.bipush 12, 2) := by decide +kernel
theorem d_Fixities_hasRoomFor_6 : decode b_Fixities_hasRoomFor 6 = .ok (.if_icmp .lt 12, 3) := by decide +kernel
theorem d_Fixities_hasRoomFor_18 : decode b_Fixities_hasRoomFor 18 = .ok (.iconst 1, 1) := by decide +kernel
theorem d_Fixities_hasRoomFor_19 : decode b_Fixities_hasRoomFor 19 = .ok (.goto 4, 3) := by decide +kernel
theorem d_Fixities_hasRoomFor_23 : decode b_Fixities_hasRoomFor 23 = .ok (.ireturn, 1) := by decide +kernel
theorem d_Fixities_find_0 : decode b_Fixities_find 0 = .ok (.iconst 0, 1) := by decide +kernel
theorem d_Fixities_find_1 : decode b_Fixities_find 1 = .ok (.istore_n 3, 1) := by decide +kernel
theorem d_Fixities_find_2 : decode b_Fixities_find 2 = .ok (.iload_n 3, 1) := by decide +kernel
theorem d_Fixities_find_3 : decode b_Fixities_find 3 = .ok (.aload_n 0, 1) := by decide +kernel
theorem d_Fixities_find_4 : decode b_Fixities_find 4 = .ok (.getfield 22, 3) := by decide +kernel
end
section
theorem d_Fixities_find_7 : decode b_Fixities_find 7 = .ok (.if_icmp .ge 22, 3) := by decide +kernel
theorem d_Fixities_find_29 : decode b_Fixities_find 29 = .ok (.iconst (-1), 1) := by decide +kernel
theorem d_Fixities_find_30 : decode b_Fixities_find 30 = .ok (.ireturn, 1) := by decide +kernel
theorem d_Fixities_set_0 : decode b_Fixities_set 0 = .ok (.aload_n 0, 1) := by decide +kernel
theorem d_Fixities_set_1 : decode b_Fixities_set 1 = .ok (.lload_n 1, 1) := by decide +kernel
theorem d_Fixities_set_2 : decode b_Fixities_set 2 = .ok (.invokevirtual 26, 3) := by decide +kernel
theorem d_Fixities_set_5 : decode b_Fixities_set 5 = .ok (.istore 5, 2) := by decide +kernel
theorem d_Fixities_set_7 : decode b_Fixities_set 7 = .ok (.iload 5, 2) := by decide +kernel
theorem d_Fixities_set_9 : decode b_Fixities_set 9 = .ok (.iconst (-1), 1) := by decide +kernel
theorem d_Fixities_set_10 : decode b_Fixities_set 10 = .ok (.if_icmp .ne 9, 3) := by decide +kernel
theorem d_Fixities_set_13 : decode b_Fixities_set 13 = .ok (.aload_n 0, 1) := by decide +kernel
theorem d_Fixities_set_14 : decode b_Fixities_set 14 = .ok (.getfield 22, 3) := by decide +kernel
theorem d_Fixities_set_17 : decode b_Fixities_set 17 = .ok (.istore 5, 2) := by decide +kernel
theorem d_Fixities_set_19 : decode b_Fixities_set 19 = .ok (.iload 5, 2) := by decide +kernel
theorem d_Fixities_set_21 : decode b_Fixities_set 21 = .ok (.bipush 12, 2) := by decide +kernel
theorem d_Fixities_set_23 : decode b_Fixities_set 23 = .ok (.if_icmp .ge 43, 3) := by decide +kernel
theorem d_Fixities_set_26 : decode b_Fixities_set 26 = .ok (.aload_n 0, 1) := by decide +kernel
theorem d_Fixities_set_27 : decode b_Fixities_set 27 = .ok (.getfield 9, 3) := by decide +kernel
theorem d_Fixities_set_30 : decode b_Fixities_set 30 = .ok (.iload 5, 2) := by decide +kernel
theorem d_Fixities_set_32 : decode b_Fixities_set 32 = .ok (.lload_n 1, 1) := by decide +kernel
theorem d_Fixities_set_33 : decode b_Fixities_set 33 = .ok (.lastore, 1) := by decide +kernel
theorem d_Fixities_set_34 : decode b_Fixities_set 34 = .ok (.aload_n 0, 1) := by decide +kernel
theorem d_Fixities_set_35 : decode b_Fixities_set 35 = .ok (.getfield 15, 3) := by decide +kernel
theorem d_Fixities_set_38 : decode b_Fixities_set 38 = .ok (.iload 5, 2) := by decide +kernel
theorem d_Fixities_set_40 : decode b_Fixities_set 40 = .ok (.iload_n 3, 1) := by decide +kernel
theorem d_Fixities_set_41 : decode b_Fixities_set 41 = .ok (.iastore, 1) := by decide +kernel
theorem d_Fixities_set_42 : decode b_Fixities_set 42 = .ok (.aload_n 0, 1) := by decide +kernel
theorem d_Fixities_set_43 : decode b_Fixities_set 43 = .ok (.getfield 19, 3) := by decide +kernel
theorem d_Fixities_set_46 : decode b_Fixities_set 46 = .ok (.iload 5, 2) := by decide +kernel
theorem d_Fixities_set_48 : decode b_Fixities_set 48 = .ok (.iload 4, 2) := by decide +kernel
theorem d_Fixities_set_50 : decode b_Fixities_set 50 = .ok (.iastore, 1) := by decide +kernel
theorem d_Fixities_set_51 : decode b_Fixities_set 51 = .ok (.aload_n 0, 1) := by decide +kernel
theorem d_Fixities_set_52 : decode b_Fixities_set 52 = .ok (.aload_n 0, 1) := by decide +kernel
theorem d_Fixities_set_53 : decode b_Fixities_set 53 = .ok (.getfield 22, 3) := by decide +kernel
theorem d_Fixities_set_56 : decode b_Fixities_set 56 = .ok (.iload 5, 2) := by decide +kernel
theorem d_Fixities_set_58 : decode b_Fixities_set 58 = .ok (.iconst 1, 1) := by decide +kernel
theorem d_Fixities_set_59 : decode b_Fixities_set 59 = .ok (.iadd, 1) := by decide +kernel
theorem d_Fixities_set_60 : decode b_Fixities_set 60 = .ok (.invokestatic 30, 3) := by decide +kernel
theorem d_Fixities_set_63 : decode b_Fixities_set 63 = .ok (.putfield 22, 3) := by decide +kernel
theorem d_Fixities_set_66 : decode b_Fixities_set 66 = .ok (.return_, 1) := by decide +kernel
theorem d_Fixities_size_0 : decode b_Fixities_size 0 = .ok (.aload_n 0, 1) := by decide +kernel
theorem d_Fixities_size_1 : decode b_Fixities_size 1 = .ok (.getfield 22, 3) := by decide +kernel
theorem d_Fixities_size_4 : decode b_Fixities_size 4 = .ok (.ireturn, 1) := by decide +kernel
theorem d_LF_fixity_0 : decode b_LF_fixity 0 = .ok (.iload_n 3, 1) := by decide +kernel
theorem d_LF_fixity_1 : decode b_LF_fixity 1 = .ok (.ifCond .lt 20, 3) := by decide +kernel
theorem d_LF_fixity_4 : decode b_LF_fixity 4 = .ok (.iload_n 3, 1) := by decide +kernel
theorem d_LF_fixity_5 : decode b_LF_fixity 5 = .ok (.iconst 2, 1) := by decide +kernel
theorem d_LF_fixity_6 : decode b_LF_fixity 6 = .ok (.if_icmp .gt 15, 3) := by decide +kernel
theorem d_LF_fixity_9 : decode b_LF_fixity 9 = .ok (.iload 4, 2) := by decide +kernel
theorem d_LF_fixity_11 : decode b_LF_fixity 11 = .ok (.ifCond .lt 10, 3) := by decide +kernel
theorem d_LF_fixity_14 : decode b_LF_fixity 14 = .ok (.iload 4, 2) := by decide +kernel
theorem d_LF_fixity_16 : decode b_LF_fixity 16 = .ok (.bipush 9, 2) := by decide +kernel
theorem d_LF_fixity_18 : decode b_LF_fixity 18 = .ok (.if_icmp .le 13, 3) := by decide +kernel
theorem d_LF_fixity_21 : decode b_LF_fixity 21 = .ok (.new 65, 3) := by decide +kernel
theorem d_LF_fixity_24 : decode b_LF_fixity 24 = .ok (.dup, 1) := by decide +kernel
theorem d_LF_fixity_25 : decode b_LF_fixity 25 = .ok (.ldc 92, 2) := by decide +kernel
theorem d_LF_fixity_27 : decode b_LF_fixity 27 = .ok (.invokespecial 69, 3) := by decide +kernel
theorem d_LF_fixity_30 : decode b_LF_fixity 30 = .ok (.athrow, 1) := by decide +kernel
theorem d_LF_fixity_31 : decode b_LF_fixity 31 = .ok (.aload_n 0, 1) := by decide +kernel
theorem d_LF_fixity_32 : decode b_LF_fixity 32 = .ok (.getfield 19, 3) := by decide +kernel
theorem d_LF_fixity_35 : decode b_LF_fixity 35 = .ok (.lload_n 1, 1) := by decide +kernel
theorem d_LF_fixity_36 : decode b_LF_fixity 36 = .ok (.invokevirtual 94, 3) := by decide +kernel
theorem d_LF_fixity_39 : decode b_LF_fixity 39 = .ok (.ifCond .ne 13, 3) := by decide +kernel
theorem d_LF_fixity_52 : decode b_LF_fixity 52 = .ok (.aload_n 0, 1) := by decide +kernel
theorem d_LF_fixity_53 : decode b_LF_fixity 53 = .ok (.getfield 19, 3) := by decide +kernel
theorem d_LF_fixity_56 : decode b_LF_fixity 56 = .ok (.lload_n 1, 1) := by decide +kernel
theorem d_LF_fixity_57 : decode b_LF_fixity 57 = .ok (.iload_n 3, 1) := by decide +kernel
theorem d_LF_fixity_58 : decode b_LF_fixity 58 = .ok (.iload 4, 2) := by decide +kernel
theorem d_LF_fixity_60 : decode b_LF_fixity 60 = .ok (.invokevirtual 99, 3) := by decide +kernel
theorem d_LF_fixity_63 : decode b_LF_fixity 63 = .ok (.aload_n 0, 1) := by decide +kernel
theorem d_LF_fixity_64 : decode b_LF_fixity 64 = .ok (.getfield 19, 3) := by decide +kernel
theorem d_LF_fixity_67 : decode b_LF_fixity 67 = .ok (.invokevirtual 103, 3) := by decide +kernel
theorem d_LF_fixity_70 : decode b_LF_fixity 70 = .ok (.ireturn, 1) := by decide +kernel
theorem d_Law_fixity_0 : decode b_Law_fixity 0 = .ok (.aload 5, 2) := by decide +kernel
theorem d_Law_fixity_2 : decode b_Law_fixity 2 = .ok (.iconst 0, 1) := by decide +kernel
theorem d_Law_fixity_3 : decode b_Law_fixity 3 = .ok (.aload_n 0, 1) := by decide +kernel
theorem d_Law_fixity_4 : decode b_Law_fixity 4 = .ok (.lload_n 1, 1) := by decide +kernel
theorem d_Law_fixity_5 : decode b_Law_fixity 5 = .ok (.iload_n 3, 1) := by decide +kernel
theorem d_Law_fixity_6 : decode b_Law_fixity 6 = .ok (.iload 4, 2) := by decide +kernel
theorem d_Law_fixity_8 : decode b_Law_fixity 8 = .ok (.invokevirtual 17, 3) := by decide +kernel
theorem d_Law_fixity_11 : decode b_Law_fixity 11 = .ok (.i2l, 1) := by decide +kernel
theorem d_Law_fixity_12 : decode b_Law_fixity 12 = .ok (.lastore, 1) := by decide +kernel
theorem d_Law_fixity_13 : decode b_Law_fixity 13 = .ok (.goto 11, 3) := by decide +kernel
theorem d_Law_fixity_16 : decode b_Law_fixity 16 = .ok (.astore 6, 2) := by decide +kernel
theorem d_Law_fixity_18 : decode b_Law_fixity 18 = .ok (.iconst 1, 1) := by decide +kernel
theorem d_Law_fixity_19 : decode b_Law_fixity 19 = .ok (.ireturn, 1) := by decide +kernel
theorem d_Law_fixity_24 : decode b_Law_fixity 24 = .ok (.iconst 0, 1) := by decide +kernel
theorem d_Law_fixity_25 : decode b_Law_fixity 25 = .ok (.ireturn, 1) := by decide +kernel
theorem d_Model_find_0 : decode b_Model_find 0 = .ok (.iconst (-1), 1) := by decide +kernel
theorem d_Model_find_1 : decode b_Model_find 1 = .ok (.istore_n 3, 1) := by decide +kernel
theorem d_Model_find_2 : decode b_Model_find 2 = .ok (.iconst 0, 1) := by decide +kernel
theorem d_Model_find_3 : decode b_Model_find 3 = .ok (.istore 4, 2) := by decide +kernel
theorem d_Model_find_5 : decode b_Model_find 5 = .ok (.iload 4, 2) := by decide +kernel
theorem d_Model_find_7 : decode b_Model_find 7 = .ok (.aload_n 0, 1) := by decide +kernel
theorem d_Model_find_8 : decode b_Model_find 8 = .ok (.getfield 113, 3) := by decide +kernel
theorem d_Model_find_11 : decode b_Model_find 11 = .ok (.if_icmp .ge 28, 3) := by decide +kernel
theorem d_Model_find_39 : decode b_Model_find 39 = .ok (.iload_n 3, 1) := by decide +kernel
theorem d_Model_find_40 : decode b_Model_find 40 = .ok (.ireturn, 1) := by decide +kernel
theorem d_Model_fixity_0 : decode b_Model_fixity 0 = .ok (.aload_n 0, 1) := by decide +kernel
theorem d_Model_fixity_1 : decode b_Model_fixity 1 = .ok (.iconst 0, 1) := by decide +kernel
theorem d_Model_fixity_2 : decode b_Model_fixity 2 = .ok (.putfield 97, 3) := by decide +kernel
theorem d_Model_fixity_5 : decode b_Model_fixity 5 = .ok (.iload_n 3, 1) := by decide +kernel
theorem d_Model_fixity_6 : decode b_Model_fixity 6 = .ok (.iconst 0, 1) := by decide +kernel
theorem d_Model_fixity_7 : decode b_Model_fixity 7 = .ok (.iconst 2, 1) := by decide +kernel
theorem d_Model_fixity_8 : decode b_Model_fixity 8 = .ok (.invokestatic 100, 3) := by decide +kernel
theorem d_Model_fixity_11 : decode b_Model_fixity 11 = .ok (.ifCond .eq 14, 3) := by decide +kernel
theorem d_Model_fixity_14 : decode b_Model_fixity 14 = .ok (.iload 4, 2) := by decide +kernel
theorem d_Model_fixity_16 : decode b_Model_fixity 16 = .ok (.iconst 0, 1) := by decide +kernel
theorem d_Model_fixity_17 : decode b_Model_fixity 17 = .ok (.bipush 9, 2) := by decide +kernel
theorem d_Model_fixity_19 : decode b_Model_fixity 19 = .ok (.invokestatic 100, 3) := by decide +kernel
theorem d_Model_fixity_22 : decode b_Model_fixity 22 = .ok (.ifCond .ne 9, 3) := by decide +kernel
theorem d_Model_fixity_25 : decode b_Model_fixity 25 = .ok (.aload_n 0, 1) := by decide +kernel
theorem d_Model_fixity_26 : decode b_Model_fixity 26 = .ok (.iconst 1, 1) := by decide +kernel
theorem d_Model_fixity_27 : decode b_Model_fixity 27 = .ok (.invokevirtual 104, 3) := by decide +kernel
theorem d_Model_fixity_30 : decode b_Model_fixity 30 = .ok (.ireturn, 1) := by decide +kernel
theorem d_Model_fixity_31 : decode b_Model_fixity 31 = .ok (.aload_n 0, 1) := by decide +kernel
theorem d_Model_fixity_32 : decode b_Model_fixity 32 = .ok (.lload_n 1, 1) := by decide +kernel
theorem d_Model_fixity_33 : decode b_Model_fixity 33 = .ok (.invokevirtual 116, 3) := by decide +kernel
theorem d_Model_fixity_36 : decode b_Model_fixity 36 = .ok (.istore 5, 2) := by decide +kernel
theorem d_Model_fixity_38 : decode b_Model_fixity 38 = .ok (.iload 5, 2) := by decide +kernel
theorem d_Model_fixity_40 : decode b_Model_fixity 40 = .ok (.ifCond .ge 18, 3) := by decide +kernel
theorem d_Model_fixity_43 : decode b_Model_fixity 43 = .ok (.aload_n 0, 1) := by decide +kernel
theorem d_Model_fixity_44 : decode b_Model_fixity 44 = .ok (.getfield 113, 3) := by decide +kernel
theorem d_Model_fixity_47 : decode b_Model_fixity 47 = .ok (.bipush 12, 2) := by decide +kernel
theorem d_Model_fixity_49 : decode b_Model_fixity 49 = .ok (.if_icmp .ne 9, 3) := by decide +kernel
theorem d_Model_fixity_58 : decode b_Model_fixity 58 = .ok (.iload 5, 2) := by decide +kernel
theorem d_Model_fixity_60 : decode b_Model_fixity 60 = .ok (.ifCond .ge 19, 3) := by decide +kernel
theorem d_Model_fixity_63 : decode b_Model_fixity 63 = .ok (.aload_n 0, 1) := by decide +kernel
theorem d_Model_fixity_64 : decode b_Model_fixity 64 = .ok (.getfield 113, 3) := by decide +kernel
theorem d_Model_fixity_67 : decode b_Model_fixity 67 = .ok (.istore 5, 2) := by decide +kernel
theorem d_Model_fixity_69 : decode b_Model_fixity 69 = .ok (.aload_n 0, 1) := by decide +kernel
theorem d_Model_fixity_70 : decode b_Model_fixity 70 = .ok (.dup, 1) := by decide +kernel
theorem d_Model_fixity_71 : decode b_Model_fixity 71 = .ok (.getfield 113, 3) := by decide +kernel
theorem d_Model_fixity_74 : decode b_Model_fixity 74 = .ok (.iconst 1, 1) := by decide +kernel
theorem d_Model_fixity_75 : decode b_Model_fixity 75 = .ok (.iadd, 1) := by decide +kernel
theorem d_Model_fixity_76 : decode b_Model_fixity 76 = .ok (.putfield 113, 3) := by decide +kernel
theorem d_Model_fixity_79 : decode b_Model_fixity 79 = .ok (.aload_n 0, 1) := by decide +kernel
theorem d_Model_fixity_80 : decode b_Model_fixity 80 = .ok (.getfield 61, 3) := by decide +kernel
theorem d_Model_fixity_83 : decode b_Model_fixity 83 = .ok (.iload 5, 2) := by decide +kernel
theorem d_Model_fixity_85 : decode b_Model_fixity 85 = .ok (.lload_n 1, 1) := by decide +kernel
theorem d_Model_fixity_86 : decode b_Model_fixity 86 = .ok (.lastore, 1) := by decide +kernel
theorem d_Model_fixity_87 : decode b_Model_fixity 87 = .ok (.aload_n 0, 1) := by decide +kernel
theorem d_Model_fixity_88 : decode b_Model_fixity 88 = .ok (.getfield 64, 3) := by decide +kernel
theorem d_Model_fixity_91 : decode b_Model_fixity 91 = .ok (.iload 5, 2) := by decide +kernel
theorem d_Model_fixity_93 : decode b_Model_fixity 93 = .ok (.iload_n 3, 1) := by decide +kernel
theorem d_Model_fixity_94 : decode b_Model_fixity 94 = .ok (.iastore, 1) := by decide +kernel
theorem d_Model_fixity_95 : decode b_Model_fixity 95 = .ok (.aload_n 0, 1) := by decide +kernel
theorem d_Model_fixity_96 : decode b_Model_fixity 96 = .ok (.getfield 67, 3) := by decide +kernel
theorem d_Model_fixity_99 : decode b_Model_fixity 99 = .ok (.iload 5, 2) := by decide +kernel
theorem d_Model_fixity_101 : decode b_Model_fixity 101 = .ok (.iload 4, 2) := by decide +kernel
theorem d_Model_fixity_103 : decode b_Model_fixity 103 = .ok (.iastore, 1) := by decide +kernel
theorem d_Model_fixity_104 : decode b_Model_fixity 104 = .ok (.aload_n 0, 1) := by decide +kernel
theorem d_Model_fixity_105 : decode b_Model_fixity 105 = .ok (.getfield 113, 3) := by decide +kernel
theorem d_Model_fixity_108 : decode b_Model_fixity 108 = .ok (.ireturn, 1) := by decide +kernel
theorem d_Model_thrown_0 : decode b_Model_thrown 0 = .ok (.aload_n 0, 1) := by decide +kernel
theorem d_Model_thrown_1 : decode b_Model_thrown 1 = .ok (.getfield 97, 3) := by decide +kernel
theorem d_Model_thrown_4 : decode b_Model_thrown 4 = .ok (.ireturn, 1) := by decide +kernel
theorem d_LF_kind_0 : decode b_LF_kind 0 = .ok (.aload_n 0, 1) := by decide +kernel
theorem d_LF_kind_1 : decode b_LF_kind 1 = .ok (.getfield 49, 3) := by decide +kernel
theorem d_LF_kind_4 : decode b_LF_kind 4 = .ok (.iload_n 1, 1) := by decide +kernel
theorem d_LF_kind_5 : decode b_LF_kind 5 = .ok (.invokevirtual 158, 3) := by decide +kernel
theorem d_LF_kind_8 : decode b_LF_kind 8 = .ok (.ifCond .ne 13, 3) := by decide +kernel
theorem d_LF_kind_11 : decode b_LF_kind 11 = .ok (.new 161, 3) := by decide +kernel
theorem d_LF_kind_14 : decode b_LF_kind 14 = .ok (.dup, 1) := by decide +kernel
theorem d_LF_kind_15 : decode b_LF_kind 15 = .ok (.ldc 163, 2) := by decide +kernel
theorem d_LF_kind_17 : decode b_LF_kind 17 = .ok (.invokespecial 165, 3) := by decide +kernel
theorem d_LF_kind_20 : decode b_LF_kind 20 = .ok (.athrow, 1) := by decide +kernel
theorem d_LF_token_0 : decode b_LF_token 0 = .ok (.aload_n 0, 1) := by decide +kernel
theorem d_LF_token_1 : decode b_LF_token 1 = .ok (.getfield 49, 3) := by decide +kernel
theorem d_LF_token_4 : decode b_LF_token 4 = .ok (.iload_n 1, 1) := by decide +kernel
theorem d_LF_token_5 : decode b_LF_token 5 = .ok (.invokevirtual 158, 3) := by decide +kernel
theorem d_LF_token_8 : decode b_LF_token 8 = .ok (.ifCond .ne 13, 3) := by decide +kernel
theorem d_LF_token_11 : decode b_LF_token 11 = .ok (.new 161, 3) := by decide +kernel
theorem d_LF_token_14 : decode b_LF_token 14 = .ok (.dup, 1) := by decide +kernel
theorem d_LF_token_15 : decode b_LF_token 15 = .ok (.ldc 163, 2) := by decide +kernel
theorem d_LF_token_17 : decode b_LF_token 17 = .ok (.invokespecial 165, 3) := by decide +kernel
theorem d_LF_token_20 : decode b_LF_token 20 = .ok (.athrow, 1) := by decide +kernel
theorem d_Law_kind_0 : decode b_Law_kind 0 = .ok (.aload_n 2, 1) := by decide +kernel
theorem d_Law_kind_1 : decode b_Law_kind 1 = .ok (.iconst 0, 1) := by decide +kernel
theorem d_Law_kind_2 : decode b_Law_kind 2 = .ok (.aload_n 0, 1) := by decide +kernel
theorem d_Law_kind_3 : decode b_Law_kind 3 = .ok (.iload_n 1, 1) := by decide +kernel
theorem d_Law_kind_4 : decode b_Law_kind 4 = .ok (.invokevirtual 25, 3) := by decide +kernel
theorem d_Law_kind_12 : decode b_Law_kind 12 = .ok (.astore_n 3, 1) := by decide +kernel
theorem d_Law_kind_13 : decode b_Law_kind 13 = .ok (.iconst 1, 1) := by decide +kernel
theorem d_Law_kind_14 : decode b_Law_kind 14 = .ok (.ireturn, 1) := by decide +kernel
theorem d_Law_token_0 : decode b_Law_token 0 = .ok (.aload_n 2, 1) := by decide +kernel
theorem d_Law_token_1 : decode b_Law_token 1 = .ok (.iconst 0, 1) := by decide +kernel
theorem d_Law_token_2 : decode b_Law_token 2 = .ok (.aload_n 0, 1) := by decide +kernel
theorem d_Law_token_3 : decode b_Law_token 3 = .ok (.iload_n 1, 1) := by decide +kernel
theorem d_Law_token_4 : decode b_Law_token 4 = .ok (.invokevirtual 31, 3) := by decide +kernel
theorem d_Law_token_11 : decode b_Law_token 11 = .ok (.astore_n 3, 1) := by decide +kernel
theorem d_Law_token_12 : decode b_Law_token 12 = .ok (.iconst 1, 1) := by decide +kernel
theorem d_Law_token_13 : decode b_Law_token 13 = .ok (.ireturn, 1) := by decide +kernel
theorem d_LF_write_0 : decode b_LF_write 0 = .ok (.iload_n 3, 1) := by decide +kernel
theorem d_LF_write_1 : decode b_LF_write 1 = .ok (.iconst 1, 1) := by decide +kernel
theorem d_LF_write_2 : decode b_LF_write 2 = .ok (.if_icmp .lt 17, 3) := by decide +kernel
theorem d_LF_write_5 : decode b_LF_write 5 = .ok (.iload_n 3, 1) := by decide +kernel
theorem d_LF_write_6 : decode b_LF_write 6 = .ok (.bipush 8, 2) := by decide +kernel
theorem d_LF_write_8 : decode b_LF_write 8 = .ok (.if_icmp .gt 11, 3) := by decide +kernel
theorem d_LF_write_11 : decode b_LF_write 11 = .ok (.lload_n 1, 1) := by decide +kernel
theorem d_LF_write_12 : decode b_LF_write 12 = .ok (.iload_n 3, 1) := by decide +kernel
theorem d_LF_write_13 : decode b_LF_write 13 = .ok (.invokestatic 61, 3) := by decide +kernel
theorem d_LF_write_16 : decode b_LF_write 16 = .ok (.ifCond .ne 13, 3) := by decide +kernel
theorem d_LF_write_19 : decode b_LF_write 19 = .ok (.new 65, 3) := by decide +kernel
theorem d_LF_write_22 : decode b_LF_write 22 = .ok (.dup, 1) := by decide +kernel
theorem d_LF_write_23 : decode b_LF_write 23 = .ok (.ldc 67, 2) := by decide +kernel
theorem d_LF_write_25 : decode b_LF_write 25 = .ok (.invokespecial 69, 3) := by decide +kernel
theorem d_LF_write_28 : decode b_LF_write 28 = .ok (.athrow, 1) := by decide +kernel
theorem d_LF_write_29 : decode b_LF_write 29 = .ok (.aload_n 0, 1) := by decide +kernel
theorem d_LF_write_30 : decode b_LF_write 30 = .ok (.getfield 12, 3) := by decide +kernel
theorem d_LF_write_33 : decode b_LF_write 33 = .ok (.iload_n 3, 1) := by decide +kernel
theorem d_LF_write_34 : decode b_LF_write 34 = .ok (.invokevirtual 72, 3) := by decide +kernel
theorem d_LF_write_37 : decode b_LF_write 37 = .ok (.ifCond .ne 13, 3) := by decide +kernel
theorem d_LF_write_40 : decode b_LF_write 40 = .ok (.new 76, 3) := by decide +kernel
theorem d_LF_write_43 : decode b_LF_write 43 = .ok (.dup, 1) := by decide +kernel
theorem d_LF_write_44 : decode b_LF_write 44 = .ok (.ldc 78, 2) := by decide +kernel
theorem d_LF_write_46 : decode b_LF_write 46 = .ok (.invokespecial 80, 3) := by decide +kernel
theorem d_LF_write_49 : decode b_LF_write 49 = .ok (.athrow, 1) := by decide +kernel
theorem d_LF_write_50 : decode b_LF_write 50 = .ok (.aload_n 0, 1) := by decide +kernel
theorem d_LF_write_51 : decode b_LF_write 51 = .ok (.getfield 12, 3) := by decide +kernel
theorem d_LF_write_54 : decode b_LF_write 54 = .ok (.lload_n 1, 1) := by decide +kernel
theorem d_LF_write_55 : decode b_LF_write 55 = .ok (.iload_n 3, 1) := by decide +kernel
theorem d_LF_write_56 : decode b_LF_write 56 = .ok (.invokevirtual 81, 3) := by decide +kernel
theorem d_LF_write_59 : decode b_LF_write 59 = .ok (.aload_n 0, 1) := by decide +kernel
theorem d_LF_write_60 : decode b_LF_write 60 = .ok (.getfield 12, 3) := by decide +kernel
theorem d_LF_write_63 : decode b_LF_write 63 = .ok (.invokevirtual 85, 3) := by decide +kernel
theorem d_LF_write_66 : decode b_LF_write 66 = .ok (.ireturn, 1) := by decide +kernel
theorem d_Text_areCharacters_0 : decode b_Text_areCharacters 0 = .ok (.iconst 0, 1) := by decide +kernel
theorem d_Text_areCharacters_1 : decode b_Text_areCharacters 1 = .ok (.istore_n 3, 1) := by decide +kernel
theorem d_Text_areCharacters_2 : decode b_Text_areCharacters 2 = .ok (.iload_n 3, 1) := by decide +kernel
theorem d_Text_areCharacters_3 : decode b_Text_areCharacters 3 = .ok (.iload_n 2, 1) := by decide +kernel
theorem d_Text_areCharacters_4 : decode b_Text_areCharacters 4 = .ok (.if_icmp .ge 39, 3) := by decide +kernel
theorem d_Text_areCharacters_7 : decode b_Text_areCharacters 7 = .ok (.lload_n 0, 1) := by decide +kernel
theorem d_Text_areCharacters_8 : decode b_Text_areCharacters 8 = .ok (.iload_n 3, 1) := by decide +kernel
theorem d_Text_areCharacters_9 : decode b_Text_areCharacters 9 = .ok (.invokestatic 15, 3) := by decide +kernel
theorem d_Text_areCharacters_12 : decode b_Text_areCharacters 12 = .ok (.istore 4, 2) := by decide +kernel
theorem d_Text_areCharacters_14 : decode b_Text_areCharacters 14 = .ok (.iload 4, 2) := by decide +kernel
theorem d_Text_areCharacters_16 : decode b_Text_areCharacters 16 = .ok (.bipush 10, 2) := by decide +kernel
theorem d_Text_areCharacters_18 : decode b_Text_areCharacters 18 = .ok (.if_icmp .eq 19, 3) := by decide +kernel
theorem d_Text_areCharacters_21 : decode b_Text_areCharacters 21 = .ok (.iload 4, 2) := by decide +kernel
theorem d_Text_areCharacters_23 : decode b_Text_areCharacters 23 = .ok (.bipush 32, 2) := by decide +kernel
theorem d_Text_areCharacters_25 : decode b_Text_areCharacters 25 = .ok (.if_icmp .lt 10, 3) := by decide +kernel
theorem d_Text_areCharacters_28 : decode b_Text_areCharacters 28 = .ok (.iload 4, 2) := by decide +kernel
theorem d_Text_areCharacters_30 : decode b_Text_areCharacters 30 = .ok (.bipush 126, 2) := by decide +kernel
theorem d_Text_areCharacters_32 : decode b_Text_areCharacters 32 = .ok (.if_icmp .le 5, 3) := by decide +kernel
theorem d_Text_areCharacters_35 : decode b_Text_areCharacters 35 = .ok (.iconst 0, 1) := by decide +kernel
theorem d_Text_areCharacters_36 : decode b_Text_areCharacters 36 = .ok (.ireturn, 1) := by decide +kernel
theorem d_Text_areCharacters_37 : decode b_Text_areCharacters 37 = .ok (.iinc 3 1, 3) := by decide +kernel
theorem d_Text_areCharacters_40 : decode b_Text_areCharacters 40 = .ok (.goto (-38), 3) := by decide +kernel
theorem d_Text_areCharacters_43 : decode b_Text_areCharacters 43 = .ok (.iconst 1, 1) := by decide +kernel
end
section
theorem d_Text_areCharacters_44 : decode b_Text_areCharacters 44 = .ok (.ireturn, 1) := by decide +kernel
theorem d_Text_byteOf_0 : decode b_Text_byteOf 0 = .ok (.lload_n 0, 1) := by decide +kernel
theorem d_Text_byteOf_1 : decode b_Text_byteOf 1 = .ok (.bipush 8, 2) := by decide +kernel
theorem d_Text_byteOf_3 : decode b_Text_byteOf 3 = .ok (.iload_n 2, 1) := by decide +kernel
theorem d_Text_byteOf_4 : decode b_Text_byteOf 4 = .ok (.imul, 1) := by decide +kernel
theorem d_Text_byteOf_5 : decode b_Text_byteOf 5 = .ok (.lushr, 1) := by decide +kernel
theorem d_Text_byteOf_6 : decode b_Text_byteOf 6 = .ok (.l2i, 1) := by decide +kernel
theorem d_Text_byteOf_7 : decode b_Text_byteOf 7 = .ok (.sipush 255, 3) := by decide +kernel
theorem d_Text_byteOf_10 : decode b_Text_byteOf 10 = .ok (.iand, 1) := by decide +kernel
theorem d_Text_byteOf_11 : decode b_Text_byteOf 11 = .ok (.ireturn, 1) := by decide +kernel
theorem d_Text_hasRoomFor_0 : decode b_Text_hasRoomFor 0 = .ok (.iload_n 1, 1) := by decide +kernel
theorem d_Text_hasRoomFor_1 : decode b_Text_hasRoomFor 1 = .ok (.sipush 240, 3) := by decide +kernel
theorem d_Text_hasRoomFor_4 : decode b_Text_hasRoomFor 4 = .ok (.aload_n 0, 1) := by decide +kernel
theorem d_Text_hasRoomFor_5 : decode b_Text_hasRoomFor 5 = .ok (.getfield 19, 3) := by decide +kernel
theorem d_Text_hasRoomFor_8 : decode b_Text_hasRoomFor 8 = .ok (.isub, 1) := by decide +kernel
theorem d_Text_hasRoomFor_9 : decode b_Text_hasRoomFor 9 = .ok (.if_icmp .gt 7, 3) := by decide +kernel
theorem d_Text_hasRoomFor_12 : decode b_Text_hasRoomFor 12 = .ok (.iconst 1, 1) := by decide +kernel
theorem d_Text_hasRoomFor_13 : decode b_Text_hasRoomFor 13 = .ok (.goto 4, 3) := by decide +kernel
theorem d_Text_hasRoomFor_16 : decode b_Text_hasRoomFor 16 = .ok (.iconst 0, 1) := by decide +kernel
theorem d_Text_hasRoomFor_17 : decode b_Text_hasRoomFor 17 = .ok (.ireturn, 1) := by decide +kernel
theorem d_Text_append_0 : decode b_Text_append 0 = .ok (.iconst 0, 1) := by decide +kernel
theorem d_Text_append_1 : decode b_Text_append 1 = .ok (.istore 4, 2) := by decide +kernel
theorem d_Text_append_3 : decode b_Text_append 3 = .ok (.iload 4, 2) := by decide +kernel
theorem d_Text_append_5 : decode b_Text_append 5 = .ok (.iload_n 3, 1) := by decide +kernel
theorem d_Text_append_6 : decode b_Text_append 6 = .ok (.if_icmp .ge 45, 3) := by decide +kernel
theorem d_Text_append_9 : decode b_Text_append 9 = .ok (.aload_n 0, 1) := by decide +kernel
theorem d_Text_append_10 : decode b_Text_append 10 = .ok (.getfield 19, 3) := by decide +kernel
theorem d_Text_append_13 : decode b_Text_append 13 = .ok (.sipush 240, 3) := by decide +kernel
theorem d_Text_append_16 : decode b_Text_append 16 = .ok (.if_icmp .ge 35, 3) := by decide +kernel
theorem d_Text_append_19 : decode b_Text_append 19 = .ok (.aload_n 0, 1) := by decide +kernel
theorem d_Text_append_20 : decode b_Text_append 20 = .ok (.getfield 9, 3) := by decide +kernel
theorem d_Text_append_23 : decode b_Text_append 23 = .ok (.aload_n 0, 1) := by decide +kernel
theorem d_Text_append_24 : decode b_Text_append 24 = .ok (.getfield 19, 3) := by decide +kernel
theorem d_Text_append_27 : decode b_Text_append 27 = .ok (.lload_n 1, 1) := by decide +kernel
theorem d_Text_append_28 : decode b_Text_append 28 = .ok (.iload 4, 2) := by decide +kernel
theorem d_Text_append_30 : decode b_Text_append 30 = .ok (.invokestatic 15, 3) := by decide +kernel
theorem d_Text_append_33 : decode b_Text_append 33 = .ok (.i2c, 1) := by decide +kernel
theorem d_Text_append_34 : decode b_Text_append 34 = .ok (.castore, 1) := by decide +kernel
theorem d_Text_append_35 : decode b_Text_append 35 = .ok (.aload_n 0, 1) := by decide +kernel
theorem d_Text_append_36 : decode b_Text_append 36 = .ok (.dup, 1) := by decide +kernel
theorem d_Text_append_37 : decode b_Text_append 37 = .ok (.getfield 19, 3) := by decide +kernel
theorem d_Text_append_40 : decode b_Text_append 40 = .ok (.iconst 1, 1) := by decide +kernel
theorem d_Text_append_41 : decode b_Text_append 41 = .ok (.iadd, 1) := by decide +kernel
theorem d_Text_append_42 : decode b_Text_append 42 = .ok (.putfield 19, 3) := by decide +kernel
theorem d_Text_append_45 : decode b_Text_append 45 = .ok (.iinc 4 1, 3) := by decide +kernel
theorem d_Text_append_48 : decode b_Text_append 48 = .ok (.goto (-45), 3) := by decide +kernel
theorem d_Text_append_51 : decode b_Text_append 51 = .ok (.return_, 1) := by decide +kernel
theorem d_Model_write_0 : decode b_Model_write 0 = .ok (.aload_n 0, 1) := by decide +kernel
theorem d_Model_write_1 : decode b_Model_write 1 = .ok (.iconst 0, 1) := by decide +kernel
theorem d_Model_write_2 : decode b_Model_write 2 = .ok (.putfield 97, 3) := by decide +kernel
theorem d_Model_write_5 : decode b_Model_write 5 = .ok (.iload_n 3, 1) := by decide +kernel
theorem d_Model_write_6 : decode b_Model_write 6 = .ok (.iconst 1, 1) := by decide +kernel
theorem d_Model_write_7 : decode b_Model_write 7 = .ok (.bipush 8, 2) := by decide +kernel
theorem d_Model_write_9 : decode b_Model_write 9 = .ok (.invokestatic 100, 3) := by decide +kernel
theorem d_Model_write_12 : decode b_Model_write 12 = .ok (.ifCond .ne 9, 3) := by decide +kernel
theorem d_Model_write_15 : decode b_Model_write 15 = .ok (.aload_n 0, 1) := by decide +kernel
theorem d_Model_write_16 : decode b_Model_write 16 = .ok (.iconst 1, 1) := by decide +kernel
theorem d_Model_write_17 : decode b_Model_write 17 = .ok (.invokevirtual 104, 3) := by decide +kernel
theorem d_Model_write_20 : decode b_Model_write 20 = .ok (.ireturn, 1) := by decide +kernel
theorem d_Model_write_21 : decode b_Model_write 21 = .ok (.iconst 1, 1) := by decide +kernel
theorem d_Model_write_22 : decode b_Model_write 22 = .ok (.istore 4, 2) := by decide +kernel
theorem d_Model_write_24 : decode b_Model_write 24 = .ok (.iconst 0, 1) := by decide +kernel
theorem d_Model_write_25 : decode b_Model_write 25 = .ok (.istore 5, 2) := by decide +kernel
theorem d_Model_write_27 : decode b_Model_write 27 = .ok (.iload 5, 2) := by decide +kernel
theorem d_Model_write_29 : decode b_Model_write 29 = .ok (.iload_n 3, 1) := by decide +kernel
theorem d_Model_write_30 : decode b_Model_write 30 = .ok (.if_icmp .ge 54, 3) := by decide +kernel
theorem d_Model_write_33 : decode b_Model_write 33 = .ok (.lload_n 1, 1) := by decide +kernel
theorem d_Model_write_34 : decode b_Model_write 34 = .ok (.bipush 8, 2) := by decide +kernel
theorem d_Model_write_36 : decode b_Model_write 36 = .ok (.iload 5, 2) := by decide +kernel
theorem d_Model_write_38 : decode b_Model_write 38 = .ok (.imul, 1) := by decide +kernel
theorem d_Model_write_39 : decode b_Model_write 39 = .ok (.lshr, 1) := by decide +kernel
theorem d_Model_write_40 : decode b_Model_write 40 = .ok (.ldc2_w 108, 3) := by decide +kernel
theorem d_Model_write_43 : decode b_Model_write 43 = .ok (.land, 1) := by decide +kernel
theorem d_Model_write_44 : decode b_Model_write 44 = .ok (.l2i, 1) := by decide +kernel
theorem d_Model_write_45 : decode b_Model_write 45 = .ok (.istore 6, 2) := by decide +kernel
theorem d_Model_write_47 : decode b_Model_write 47 = .ok (.iload 4, 2) := by decide +kernel
theorem d_Model_write_49 : decode b_Model_write 49 = .ok (.ifCond .eq 26, 3) := by decide +kernel
theorem d_Model_write_52 : decode b_Model_write 52 = .ok (.iload 6, 2) := by decide +kernel
theorem d_Model_write_54 : decode b_Model_write 54 = .ok (.bipush 10, 2) := by decide +kernel
theorem d_Model_write_56 : decode b_Model_write 56 = .ok (.if_icmp .eq 15, 3) := by decide +kernel
theorem d_Model_write_59 : decode b_Model_write 59 = .ok (.iload 6, 2) := by decide +kernel
theorem d_Model_write_61 : decode b_Model_write 61 = .ok (.bipush 32, 2) := by decide +kernel
theorem d_Model_write_63 : decode b_Model_write 63 = .ok (.bipush 126, 2) := by decide +kernel
theorem d_Model_write_65 : decode b_Model_write 65 = .ok (.invokestatic 100, 3) := by decide +kernel
theorem d_Model_write_68 : decode b_Model_write 68 = .ok (.ifCond .eq 7, 3) := by decide +kernel
theorem d_Model_write_71 : decode b_Model_write 71 = .ok (.iconst 1, 1) := by decide +kernel
theorem d_Model_write_72 : decode b_Model_write 72 = .ok (.goto 4, 3) := by decide +kernel
theorem d_Model_write_75 : decode b_Model_write 75 = .ok (.iconst 0, 1) := by decide +kernel
theorem d_Model_write_76 : decode b_Model_write 76 = .ok (.istore 4, 2) := by decide +kernel
theorem d_Model_write_78 : decode b_Model_write 78 = .ok (.iinc 5 1, 3) := by decide +kernel
theorem d_Model_write_81 : decode b_Model_write 81 = .ok (.goto (-54), 3) := by decide +kernel
theorem d_Model_write_84 : decode b_Model_write 84 = .ok (.iload 4, 2) := by decide +kernel
theorem d_Model_write_86 : decode b_Model_write 86 = .ok (.ifCond .ne 9, 3) := by decide +kernel
theorem d_Model_write_89 : decode b_Model_write 89 = .ok (.aload_n 0, 1) := by decide +kernel
theorem d_Model_write_90 : decode b_Model_write 90 = .ok (.iconst 1, 1) := by decide +kernel
theorem d_Model_write_91 : decode b_Model_write 91 = .ok (.invokevirtual 104, 3) := by decide +kernel
theorem d_Model_write_94 : decode b_Model_write 94 = .ok (.ireturn, 1) := by decide +kernel
theorem d_Model_write_95 : decode b_Model_write 95 = .ok (.aload_n 0, 1) := by decide +kernel
theorem d_Model_write_96 : decode b_Model_write 96 = .ok (.getfield 110, 3) := by decide +kernel
theorem d_Model_write_99 : decode b_Model_write 99 = .ok (.iload_n 3, 1) := by decide +kernel
theorem d_Model_write_100 : decode b_Model_write 100 = .ok (.iadd, 1) := by decide +kernel
theorem d_Model_write_101 : decode b_Model_write 101 = .ok (.sipush 240, 3) := by decide +kernel
theorem d_Model_write_104 : decode b_Model_write 104 = .ok (.if_icmp .le 9, 3) := by decide +kernel
theorem d_Model_write_107 : decode b_Model_write 107 = .ok (.aload_n 0, 1) := by decide +kernel
theorem d_Model_write_108 : decode b_Model_write 108 = .ok (.iconst 2, 1) := by decide +kernel
theorem d_Model_write_109 : decode b_Model_write 109 = .ok (.invokevirtual 104, 3) := by decide +kernel
theorem d_Model_write_112 : decode b_Model_write 112 = .ok (.ireturn, 1) := by decide +kernel
theorem d_Model_write_113 : decode b_Model_write 113 = .ok (.iconst 0, 1) := by decide +kernel
theorem d_Model_write_114 : decode b_Model_write 114 = .ok (.istore 5, 2) := by decide +kernel
theorem d_Model_write_116 : decode b_Model_write 116 = .ok (.iload 5, 2) := by decide +kernel
theorem d_Model_write_118 : decode b_Model_write 118 = .ok (.iload_n 3, 1) := by decide +kernel
theorem d_Model_write_119 : decode b_Model_write 119 = .ok (.if_icmp .ge 33, 3) := by decide +kernel
theorem d_Model_write_122 : decode b_Model_write 122 = .ok (.aload_n 0, 1) := by decide +kernel
theorem d_Model_write_123 : decode b_Model_write 123 = .ok (.getfield 7, 3) := by decide +kernel
theorem d_Model_write_126 : decode b_Model_write 126 = .ok (.aload_n 0, 1) := by decide +kernel
theorem d_Model_write_127 : decode b_Model_write 127 = .ok (.getfield 110, 3) := by decide +kernel
theorem d_Model_write_130 : decode b_Model_write 130 = .ok (.iload 5, 2) := by decide +kernel
theorem d_Model_write_132 : decode b_Model_write 132 = .ok (.iadd, 1) := by decide +kernel
theorem d_Model_write_133 : decode b_Model_write 133 = .ok (.lload_n 1, 1) := by decide +kernel
theorem d_Model_write_134 : decode b_Model_write 134 = .ok (.bipush 8, 2) := by decide +kernel
theorem d_Model_write_136 : decode b_Model_write 136 = .ok (.iload 5, 2) := by decide +kernel
theorem d_Model_write_138 : decode b_Model_write 138 = .ok (.imul, 1) := by decide +kernel
theorem d_Model_write_139 : decode b_Model_write 139 = .ok (.lshr, 1) := by decide +kernel
theorem d_Model_write_140 : decode b_Model_write 140 = .ok (.ldc2_w 108, 3) := by decide +kernel
theorem d_Model_write_143 : decode b_Model_write 143 = .ok (.land, 1) := by decide +kernel
theorem d_Model_write_144 : decode b_Model_write 144 = .ok (.l2i, 1) := by decide +kernel
theorem d_Model_write_145 : decode b_Model_write 145 = .ok (.iastore, 1) := by decide +kernel
theorem d_Model_write_146 : decode b_Model_write 146 = .ok (.iinc 5 1, 3) := by decide +kernel
theorem d_Model_write_149 : decode b_Model_write 149 = .ok (.goto (-33), 3) := by decide +kernel
theorem d_Model_write_152 : decode b_Model_write 152 = .ok (.aload_n 0, 1) := by decide +kernel
theorem d_Model_write_153 : decode b_Model_write 153 = .ok (.dup, 1) := by decide +kernel
theorem d_Model_write_154 : decode b_Model_write 154 = .ok (.getfield 110, 3) := by decide +kernel
theorem d_Model_write_157 : decode b_Model_write 157 = .ok (.iload_n 3, 1) := by decide +kernel
theorem d_Model_write_158 : decode b_Model_write 158 = .ok (.iadd, 1) := by decide +kernel
theorem d_Model_write_159 : decode b_Model_write 159 = .ok (.putfield 110, 3) := by decide +kernel
theorem d_Model_write_162 : decode b_Model_write 162 = .ok (.aload_n 0, 1) := by decide +kernel
theorem d_Model_write_163 : decode b_Model_write 163 = .ok (.getfield 110, 3) := by decide +kernel
theorem d_Model_write_166 : decode b_Model_write 166 = .ok (.ireturn, 1) := by decide +kernel
theorem d_Law_write_0 : decode b_Law_write 0 = .ok (.aload 4, 2) := by decide +kernel
theorem d_Law_write_2 : decode b_Law_write 2 = .ok (.iconst 0, 1) := by decide +kernel
theorem d_Law_write_3 : decode b_Law_write 3 = .ok (.aload_n 0, 1) := by decide +kernel
theorem d_Law_write_4 : decode b_Law_write 4 = .ok (.lload_n 1, 1) := by decide +kernel
theorem d_Law_write_5 : decode b_Law_write 5 = .ok (.iload_n 3, 1) := by decide +kernel
theorem d_Law_write_6 : decode b_Law_write 6 = .ok (.invokevirtual 7, 3) := by decide +kernel
theorem d_Law_write_9 : decode b_Law_write 9 = .ok (.i2l, 1) := by decide +kernel
theorem d_Law_write_10 : decode b_Law_write 10 = .ok (.lastore, 1) := by decide +kernel
theorem d_Law_write_11 : decode b_Law_write 11 = .ok (.goto 11, 3) := by decide +kernel
theorem d_Law_write_14 : decode b_Law_write 14 = .ok (.astore 5, 2) := by decide +kernel
theorem d_Law_write_16 : decode b_Law_write 16 = .ok (.iconst 1, 1) := by decide +kernel
theorem d_Law_write_17 : decode b_Law_write 17 = .ok (.ireturn, 1) := by decide +kernel
theorem d_Law_write_18 : decode b_Law_write 18 = .ok (.astore 5, 2) := by decide +kernel
theorem d_Law_write_20 : decode b_Law_write 20 = .ok (.iconst 2, 1) := by decide +kernel
theorem d_Law_write_21 : decode b_Law_write 21 = .ok (.ireturn, 1) := by decide +kernel
theorem d_Law_write_22 : decode b_Law_write 22 = .ok (.iconst 0, 1) := by decide +kernel
theorem d_Law_write_23 : decode b_Law_write 23 = .ok (.ireturn, 1) := by decide +kernel
theorem d_Law_law_0 : decode code 0 = .ok (.new 8, 3) := by decide +kernel
theorem d_Law_law_3 : decode code 3 = .ok (.dup, 1) := by decide +kernel
theorem d_Law_law_4 : decode code 4 = .ok (.invokespecial 38, 3) := by decide +kernel
theorem d_Law_law_7 : decode code 7 = .ok (.astore_n 1, 1) := by decide +kernel
theorem d_Law_law_8 : decode code 8 = .ok (.new 39, 3) := by decide +kernel
theorem d_Law_law_11 : decode code 11 = .ok (.dup, 1) := by decide +kernel
theorem d_Law_law_12 : decode code 12 = .ok (.invokespecial 41, 3) := by decide +kernel
theorem d_Law_law_15 : decode code 15 = .ok (.astore_n 2, 1) := by decide +kernel
theorem d_Law_law_16 : decode code 16 = .ok (.iconst 1, 1) := by decide +kernel
theorem d_Law_law_17 : decode code 17 = .ok (.newarray .long, 2) := by decide +kernel
theorem d_Law_law_19 : decode code 19 = .ok (.astore_n 3, 1) := by decide +kernel
theorem d_Law_law_20 : decode code 20 = .ok (.iconst 0, 1) := by decide +kernel
theorem d_Law_law_21 : decode code 21 = .ok (.istore 4, 2) := by decide +kernel
theorem d_Law_law_23 : decode code 23 = .ok (.iload 4, 2) := by decide +kernel
theorem d_Law_law_25 : decode code 25 = .ok (.aload_n 0, 1) := by decide +kernel
theorem d_Law_law_26 : decode code 26 = .ok (.arraylength, 1) := by decide +kernel
theorem d_Law_law_27 : decode code 27 = .ok (.iconst 5, 1) := by decide +kernel
theorem d_Law_law_28 : decode code 28 = .ok (.isub, 1) := by decide +kernel
theorem d_Law_law_29 : decode code 29 = .ok (.if_icmp .gt 510, 3) := by decide +kernel
theorem d_Law_law_32 : decode code 32 = .ok (.aload_n 0, 1) := by decide +kernel
theorem d_Law_law_33 : decode code 33 = .ok (.iload 4, 2) := by decide +kernel
theorem d_Law_law_35 : decode code 35 = .ok (.iaload, 1) := by decide +kernel
theorem d_Law_law_36 : decode code 36 = .ok (.bipush 7, 2) := by decide +kernel
theorem d_Law_law_38 : decode code 38 = .ok (.iand, 1) := by decide +kernel
theorem d_Law_law_39 : decode code 39 = .ok (.tableswitch 494 0 7 #[45, 145, 158, 270, 314, 327, 383, 438], 45) := by decide +kernel
theorem d_Law_law_84 : decode code 84 = .ok (.aload_n 1, 1) := by decide +kernel
theorem d_Law_law_85 : decode code 85 = .ok (.aload_n 0, 1) := by decide +kernel
theorem d_Law_law_86 : decode code 86 = .ok (.iload 4, 2) := by decide +kernel
theorem d_Law_law_88 : decode code 88 = .ok (.iconst 1, 1) := by decide +kernel
theorem d_Law_law_89 : decode code 89 = .ok (.iadd, 1) := by decide +kernel
theorem d_Law_law_90 : decode code 90 = .ok (.iaload, 1) := by decide +kernel
theorem d_Law_law_91 : decode code 91 = .ok (.i2l, 1) := by decide +kernel
theorem d_Law_law_92 : decode code 92 = .ok (.bipush 32, 2) := by decide +kernel
theorem d_Law_law_94 : decode code 94 = .ok (.lshl, 1) := by decide +kernel
theorem d_Law_law_95 : decode code 95 = .ok (.aload_n 0, 1) := by decide +kernel
theorem d_Law_law_96 : decode code 96 = .ok (.iload 4, 2) := by decide +kernel
theorem d_Law_law_98 : decode code 98 = .ok (.iconst 2, 1) := by decide +kernel
theorem d_Law_law_99 : decode code 99 = .ok (.iadd, 1) := by decide +kernel
theorem d_Law_law_100 : decode code 100 = .ok (.iaload, 1) := by decide +kernel
theorem d_Law_law_101 : decode code 101 = .ok (.i2l, 1) := by decide +kernel
theorem d_Law_law_102 : decode code 102 = .ok (.ldc2_w 42, 3) := by decide +kernel
theorem d_Law_law_105 : decode code 105 = .ok (.land, 1) := by decide +kernel
theorem d_Law_law_106 : decode code 106 = .ok (.lor, 1) := by decide +kernel
theorem d_Law_law_107 : decode code 107 = .ok (.aload_n 0, 1) := by decide +kernel
theorem d_Law_law_108 : decode code 108 = .ok (.iload 4, 2) := by decide +kernel
theorem d_Law_law_110 : decode code 110 = .ok (.iconst 3, 1) := by decide +kernel
theorem d_Law_law_111 : decode code 111 = .ok (.iadd, 1) := by decide +kernel
theorem d_Law_law_112 : decode code 112 = .ok (.iaload, 1) := by decide +kernel
theorem d_Law_law_113 : decode code 113 = .ok (.aload_n 3, 1) := by decide +kernel
theorem d_Law_law_114 : decode code 114 = .ok (.invokestatic 44, 3) := by decide +kernel
theorem d_Law_law_117 : decode code 117 = .ok (.istore 5, 2) := by decide +kernel
theorem d_Law_law_119 : decode code 119 = .ok (.aload_n 2, 1) := by decide +kernel
theorem d_Law_law_120 : decode code 120 = .ok (.aload_n 0, 1) := by decide +kernel
theorem d_Law_law_121 : decode code 121 = .ok (.iload 4, 2) := by decide +kernel
theorem d_Law_law_123 : decode code 123 = .ok (.iconst 1, 1) := by decide +kernel
theorem d_Law_law_124 : decode code 124 = .ok (.iadd, 1) := by decide +kernel
theorem d_Law_law_125 : decode code 125 = .ok (.iaload, 1) := by decide +kernel
theorem d_Law_law_126 : decode code 126 = .ok (.i2l, 1) := by decide +kernel
theorem d_Law_law_127 : decode code 127 = .ok (.bipush 32, 2) := by decide +kernel
theorem d_Law_law_129 : decode code 129 = .ok (.lshl, 1) := by decide +kernel
theorem d_Law_law_130 : decode code 130 = .ok (.aload_n 0, 1) := by decide +kernel
theorem d_Law_law_131 : decode code 131 = .ok (.iload 4, 2) := by decide +kernel
theorem d_Law_law_133 : decode code 133 = .ok (.iconst 2, 1) := by decide +kernel
theorem d_Law_law_134 : decode code 134 = .ok (.iadd, 1) := by decide +kernel
theorem d_Law_law_135 : decode code 135 = .ok (.iaload, 1) := by decide +kernel
theorem d_Law_law_136 : decode code 136 = .ok (.i2l, 1) := by decide +kernel
theorem d_Law_law_137 : decode code 137 = .ok (.ldc2_w 42, 3) := by decide +kernel
theorem d_Law_law_140 : decode code 140 = .ok (.land, 1) := by decide +kernel
theorem d_Law_law_141 : decode code 141 = .ok (.lor, 1) := by decide +kernel
theorem d_Law_law_142 : decode code 142 = .ok (.aload_n 0, 1) := by decide +kernel
theorem d_Law_law_143 : decode code 143 = .ok (.iload 4, 2) := by decide +kernel
theorem d_Law_law_145 : decode code 145 = .ok (.iconst 3, 1) := by decide +kernel
theorem d_Law_law_146 : decode code 146 = .ok (.iadd, 1) := by decide +kernel
theorem d_Law_law_147 : decode code 147 = .ok (.iaload, 1) := by decide +kernel
theorem d_Law_law_148 : decode code 148 = .ok (.invokevirtual 49, 3) := by decide +kernel
theorem d_Law_law_151 : decode code 151 = .ok (.istore 6, 2) := by decide +kernel
theorem d_Law_law_153 : decode code 153 = .ok (.aload_n 2, 1) := by decide +kernel
theorem d_Law_law_154 : decode code 154 = .ok (.invokevirtual 50, 3) := by decide +kernel
theorem d_Law_law_157 : decode code 157 = .ok (.iload 5, 2) := by decide +kernel
theorem d_Law_law_159 : decode code 159 = .ok (.if_icmp .eq 5, 3) := by decide +kernel
theorem d_Law_law_162 : decode code 162 = .ok (.iconst 0, 1) := by decide +kernel
theorem d_Law_law_163 : decode code 163 = .ok (.ireturn, 1) := by decide +kernel
theorem d_Law_law_164 : decode code 164 = .ok (.iload 5, 2) := by decide +kernel
theorem d_Law_law_166 : decode code 166 = .ok (.ifCond .ne 15, 3) := by decide +kernel
theorem d_Law_law_169 : decode code 169 = .ok (.aload_n 3, 1) := by decide +kernel
theorem d_Law_law_170 : decode code 170 = .ok (.iconst 0, 1) := by decide +kernel
theorem d_Law_law_171 : decode code 171 = .ok (.laload, 1) := by decide +kernel
theorem d_Law_law_172 : decode code 172 = .ok (.iload 6, 2) := by decide +kernel
theorem d_Law_law_174 : decode code 174 = .ok (.i2l, 1) := by decide +kernel
theorem d_Law_law_175 : decode code 175 = .ok (.lcmp, 1) := by decide +kernel
theorem d_Law_law_176 : decode code 176 = .ok (.ifCond .eq 5, 3) := by decide +kernel
theorem d_Law_law_179 : decode code 179 = .ok (.iconst 0, 1) := by decide +kernel
theorem d_Law_law_180 : decode code 180 = .ok (.ireturn, 1) := by decide +kernel
theorem d_Law_law_181 : decode code 181 = .ok (.goto 352, 3) := by decide +kernel
theorem d_Law_law_184 : decode code 184 = .ok (.aload_n 1, 1) := by decide +kernel
end
section
theorem d_Law_law_185 : decode code 185 = .ok (.invokevirtual 53, 3) := by decide +kernel
theorem d_Law_law_188 : decode code 188 = .ok (.aload_n 2, 1) := by decide +kernel
theorem d_Law_law_189 : decode code 189 = .ok (.invokevirtual 56, 3) := by decide +kernel
theorem d_Law_law_192 : decode code 192 = .ok (.if_icmp .eq 341, 3) := by decide +kernel
theorem d_Law_law_195 : decode code 195 = .ok (.iconst 0, 1) := by decide +kernel
theorem d_Law_law_196 : decode code 196 = .ok (.ireturn, 1) := by decide +kernel
theorem d_Law_law_197 : decode code 197 = .ok (.aload_n 1, 1) := by decide +kernel
theorem d_Law_law_198 : decode code 198 = .ok (.aload_n 0, 1) := by decide +kernel
theorem d_Law_law_199 : decode code 199 = .ok (.iload 4, 2) := by decide +kernel
theorem d_Law_law_201 : decode code 201 = .ok (.iconst 1, 1) := by decide +kernel
theorem d_Law_law_202 : decode code 202 = .ok (.iadd, 1) := by decide +kernel
theorem d_Law_law_203 : decode code 203 = .ok (.iaload, 1) := by decide +kernel
theorem d_Law_law_204 : decode code 204 = .ok (.i2l, 1) := by decide +kernel
theorem d_Law_law_205 : decode code 205 = .ok (.bipush 32, 2) := by decide +kernel
theorem d_Law_law_207 : decode code 207 = .ok (.lshl, 1) := by decide +kernel
theorem d_Law_law_208 : decode code 208 = .ok (.aload_n 0, 1) := by decide +kernel
theorem d_Law_law_209 : decode code 209 = .ok (.iload 4, 2) := by decide +kernel
theorem d_Law_law_211 : decode code 211 = .ok (.iconst 2, 1) := by decide +kernel
theorem d_Law_law_212 : decode code 212 = .ok (.iadd, 1) := by decide +kernel
theorem d_Law_law_213 : decode code 213 = .ok (.iaload, 1) := by decide +kernel
theorem d_Law_law_214 : decode code 214 = .ok (.i2l, 1) := by decide +kernel
theorem d_Law_law_215 : decode code 215 = .ok (.ldc2_w 42, 3) := by decide +kernel
theorem d_Law_law_218 : decode code 218 = .ok (.land, 1) := by decide +kernel
theorem d_Law_law_219 : decode code 219 = .ok (.lor, 1) := by decide +kernel
theorem d_Law_law_220 : decode code 220 = .ok (.aload_n 0, 1) := by decide +kernel
theorem d_Law_law_221 : decode code 221 = .ok (.iload 4, 2) := by decide +kernel
theorem d_Law_law_223 : decode code 223 = .ok (.iconst 3, 1) := by decide +kernel
theorem d_Law_law_224 : decode code 224 = .ok (.iadd, 1) := by decide +kernel
theorem d_Law_law_225 : decode code 225 = .ok (.iaload, 1) := by decide +kernel
theorem d_Law_law_226 : decode code 226 = .ok (.aload_n 0, 1) := by decide +kernel
theorem d_Law_law_227 : decode code 227 = .ok (.iload 4, 2) := by decide +kernel
theorem d_Law_law_229 : decode code 229 = .ok (.iconst 4, 1) := by decide +kernel
theorem d_Law_law_230 : decode code 230 = .ok (.iadd, 1) := by decide +kernel
theorem d_Law_law_231 : decode code 231 = .ok (.iaload, 1) := by decide +kernel
theorem d_Law_law_232 : decode code 232 = .ok (.aload_n 3, 1) := by decide +kernel
theorem d_Law_law_233 : decode code 233 = .ok (.invokestatic 57, 3) := by decide +kernel
theorem d_Law_law_236 : decode code 236 = .ok (.istore 5, 2) := by decide +kernel
theorem d_Law_law_238 : decode code 238 = .ok (.aload_n 2, 1) := by decide +kernel
theorem d_Law_law_239 : decode code 239 = .ok (.aload_n 0, 1) := by decide +kernel
theorem d_Law_law_240 : decode code 240 = .ok (.iload 4, 2) := by decide +kernel
theorem d_Law_law_242 : decode code 242 = .ok (.iconst 1, 1) := by decide +kernel
theorem d_Law_law_243 : decode code 243 = .ok (.iadd, 1) := by decide +kernel
theorem d_Law_law_244 : decode code 244 = .ok (.iaload, 1) := by decide +kernel
theorem d_Law_law_245 : decode code 245 = .ok (.i2l, 1) := by decide +kernel
theorem d_Law_law_246 : decode code 246 = .ok (.bipush 32, 2) := by decide +kernel
theorem d_Law_law_248 : decode code 248 = .ok (.lshl, 1) := by decide +kernel
theorem d_Law_law_249 : decode code 249 = .ok (.aload_n 0, 1) := by decide +kernel
theorem d_Law_law_250 : decode code 250 = .ok (.iload 4, 2) := by decide +kernel
theorem d_Law_law_252 : decode code 252 = .ok (.iconst 2, 1) := by decide +kernel
theorem d_Law_law_253 : decode code 253 = .ok (.iadd, 1) := by decide +kernel
theorem d_Law_law_254 : decode code 254 = .ok (.iaload, 1) := by decide +kernel
theorem d_Law_law_255 : decode code 255 = .ok (.i2l, 1) := by decide +kernel
theorem d_Law_law_256 : decode code 256 = .ok (.ldc2_w 42, 3) := by decide +kernel
theorem d_Law_law_259 : decode code 259 = .ok (.land, 1) := by decide +kernel
theorem d_Law_law_260 : decode code 260 = .ok (.lor, 1) := by decide +kernel
theorem d_Law_law_261 : decode code 261 = .ok (.aload_n 0, 1) := by decide +kernel
theorem d_Law_law_262 : decode code 262 = .ok (.iload 4, 2) := by decide +kernel
theorem d_Law_law_264 : decode code 264 = .ok (.iconst 3, 1) := by decide +kernel
theorem d_Law_law_265 : decode code 265 = .ok (.iadd, 1) := by decide +kernel
theorem d_Law_law_266 : decode code 266 = .ok (.iaload, 1) := by decide +kernel
theorem d_Law_law_267 : decode code 267 = .ok (.aload_n 0, 1) := by decide +kernel
theorem d_Law_law_268 : decode code 268 = .ok (.iload 4, 2) := by decide +kernel
theorem d_Law_law_270 : decode code 270 = .ok (.iconst 4, 1) := by decide +kernel
theorem d_Law_law_271 : decode code 271 = .ok (.iadd, 1) := by decide +kernel
theorem d_Law_law_272 : decode code 272 = .ok (.iaload, 1) := by decide +kernel
theorem d_Law_law_273 : decode code 273 = .ok (.invokevirtual 60, 3) := by decide +kernel
theorem d_Law_law_276 : decode code 276 = .ok (.istore 6, 2) := by decide +kernel
theorem d_Law_law_278 : decode code 278 = .ok (.aload_n 2, 1) := by decide +kernel
theorem d_Law_law_279 : decode code 279 = .ok (.invokevirtual 50, 3) := by decide +kernel
theorem d_Law_law_282 : decode code 282 = .ok (.iload 5, 2) := by decide +kernel
theorem d_Law_law_284 : decode code 284 = .ok (.if_icmp .eq 5, 3) := by decide +kernel
theorem d_Law_law_287 : decode code 287 = .ok (.iconst 0, 1) := by decide +kernel
theorem d_Law_law_288 : decode code 288 = .ok (.ireturn, 1) := by decide +kernel
theorem d_Law_law_289 : decode code 289 = .ok (.iload 5, 2) := by decide +kernel
theorem d_Law_law_291 : decode code 291 = .ok (.ifCond .ne 15, 3) := by decide +kernel
theorem d_Law_law_294 : decode code 294 = .ok (.aload_n 3, 1) := by decide +kernel
theorem d_Law_law_295 : decode code 295 = .ok (.iconst 0, 1) := by decide +kernel
theorem d_Law_law_296 : decode code 296 = .ok (.laload, 1) := by decide +kernel
theorem d_Law_law_297 : decode code 297 = .ok (.iload 6, 2) := by decide +kernel
theorem d_Law_law_299 : decode code 299 = .ok (.i2l, 1) := by decide +kernel
theorem d_Law_law_300 : decode code 300 = .ok (.lcmp, 1) := by decide +kernel
theorem d_Law_law_301 : decode code 301 = .ok (.ifCond .eq 5, 3) := by decide +kernel
theorem d_Law_law_304 : decode code 304 = .ok (.iconst 0, 1) := by decide +kernel
theorem d_Law_law_305 : decode code 305 = .ok (.ireturn, 1) := by decide +kernel
theorem d_Law_law_306 : decode code 306 = .ok (.goto 227, 3) := by decide +kernel
theorem d_Law_law_309 : decode code 309 = .ok (.aload_n 1, 1) := by decide +kernel
theorem d_Law_law_310 : decode code 310 = .ok (.aload_n 3, 1) := by decide +kernel
theorem d_Law_law_311 : decode code 311 = .ok (.invokestatic 61, 3) := by decide +kernel
theorem d_Law_law_314 : decode code 314 = .ok (.istore 5, 2) := by decide +kernel
theorem d_Law_law_316 : decode code 316 = .ok (.aload_n 2, 1) := by decide +kernel
theorem d_Law_law_317 : decode code 317 = .ok (.invokevirtual 64, 3) := by decide +kernel
theorem d_Law_law_320 : decode code 320 = .ok (.istore 6, 2) := by decide +kernel
theorem d_Law_law_322 : decode code 322 = .ok (.aload_n 2, 1) := by decide +kernel
theorem d_Law_law_323 : decode code 323 = .ok (.invokevirtual 50, 3) := by decide +kernel
theorem d_Law_law_326 : decode code 326 = .ok (.iload 5, 2) := by decide +kernel
theorem d_Law_law_328 : decode code 328 = .ok (.if_icmp .eq 5, 3) := by decide +kernel
theorem d_Law_law_331 : decode code 331 = .ok (.iconst 0, 1) := by decide +kernel
theorem d_Law_law_332 : decode code 332 = .ok (.ireturn, 1) := by decide +kernel
theorem d_Law_law_333 : decode code 333 = .ok (.iload 5, 2) := by decide +kernel
theorem d_Law_law_335 : decode code 335 = .ok (.ifCond .ne 15, 3) := by decide +kernel
theorem d_Law_law_338 : decode code 338 = .ok (.aload_n 3, 1) := by decide +kernel
theorem d_Law_law_339 : decode code 339 = .ok (.iconst 0, 1) := by decide +kernel
theorem d_Law_law_340 : decode code 340 = .ok (.laload, 1) := by decide +kernel
theorem d_Law_law_341 : decode code 341 = .ok (.iload 6, 2) := by decide +kernel
theorem d_Law_law_343 : decode code 343 = .ok (.i2l, 1) := by decide +kernel
theorem d_Law_law_344 : decode code 344 = .ok (.lcmp, 1) := by decide +kernel
theorem d_Law_law_345 : decode code 345 = .ok (.ifCond .eq 5, 3) := by decide +kernel
theorem d_Law_law_348 : decode code 348 = .ok (.iconst 0, 1) := by decide +kernel
theorem d_Law_law_349 : decode code 349 = .ok (.ireturn, 1) := by decide +kernel
theorem d_Law_law_350 : decode code 350 = .ok (.goto 183, 3) := by decide +kernel
theorem d_Law_law_353 : decode code 353 = .ok (.aload_n 1, 1) := by decide +kernel
theorem d_Law_law_354 : decode code 354 = .ok (.invokevirtual 65, 3) := by decide +kernel
theorem d_Law_law_357 : decode code 357 = .ok (.aload_n 2, 1) := by decide +kernel
theorem d_Law_law_358 : decode code 358 = .ok (.invokevirtual 68, 3) := by decide +kernel
theorem d_Law_law_361 : decode code 361 = .ok (.if_icmp .eq 172, 3) := by decide +kernel
theorem d_Law_law_364 : decode code 364 = .ok (.iconst 0, 1) := by decide +kernel
theorem d_Law_law_365 : decode code 365 = .ok (.ireturn, 1) := by decide +kernel
theorem d_Law_law_366 : decode code 366 = .ok (.aload_n 1, 1) := by decide +kernel
theorem d_Law_law_367 : decode code 367 = .ok (.aload_n 0, 1) := by decide +kernel
theorem d_Law_law_368 : decode code 368 = .ok (.iload 4, 2) := by decide +kernel
theorem d_Law_law_370 : decode code 370 = .ok (.iconst 1, 1) := by decide +kernel
theorem d_Law_law_371 : decode code 371 = .ok (.iadd, 1) := by decide +kernel
theorem d_Law_law_372 : decode code 372 = .ok (.iaload, 1) := by decide +kernel
theorem d_Law_law_373 : decode code 373 = .ok (.aload_n 3, 1) := by decide +kernel
theorem d_Law_law_374 : decode code 374 = .ok (.invokestatic 69, 3) := by decide +kernel
theorem d_Law_law_377 : decode code 377 = .ok (.istore 5, 2) := by decide +kernel
theorem d_Law_law_379 : decode code 379 = .ok (.aload_n 2, 1) := by decide +kernel
theorem d_Law_law_380 : decode code 380 = .ok (.aload_n 0, 1) := by decide +kernel
theorem d_Law_law_381 : decode code 381 = .ok (.iload 4, 2) := by decide +kernel
theorem d_Law_law_383 : decode code 383 = .ok (.iconst 1, 1) := by decide +kernel
theorem d_Law_law_384 : decode code 384 = .ok (.iadd, 1) := by decide +kernel
theorem d_Law_law_385 : decode code 385 = .ok (.iaload, 1) := by decide +kernel
theorem d_Law_law_386 : decode code 386 = .ok (.invokevirtual 72, 3) := by decide +kernel
theorem d_Law_law_389 : decode code 389 = .ok (.istore 6, 2) := by decide +kernel
theorem d_Law_law_391 : decode code 391 = .ok (.aload_n 2, 1) := by decide +kernel
theorem d_Law_law_392 : decode code 392 = .ok (.invokevirtual 50, 3) := by decide +kernel
theorem d_Law_law_395 : decode code 395 = .ok (.iload 5, 2) := by decide +kernel
theorem d_Law_law_397 : decode code 397 = .ok (.if_icmp .eq 5, 3) := by decide +kernel
theorem d_Law_law_400 : decode code 400 = .ok (.iconst 0, 1) := by decide +kernel
theorem d_Law_law_401 : decode code 401 = .ok (.ireturn, 1) := by decide +kernel
theorem d_Law_law_402 : decode code 402 = .ok (.iload 5, 2) := by decide +kernel
theorem d_Law_law_404 : decode code 404 = .ok (.ifCond .ne 15, 3) := by decide +kernel
theorem d_Law_law_407 : decode code 407 = .ok (.aload_n 3, 1) := by decide +kernel
theorem d_Law_law_408 : decode code 408 = .ok (.iconst 0, 1) := by decide +kernel
theorem d_Law_law_409 : decode code 409 = .ok (.laload, 1) := by decide +kernel
theorem d_Law_law_410 : decode code 410 = .ok (.iload 6, 2) := by decide +kernel
theorem d_Law_law_412 : decode code 412 = .ok (.i2l, 1) := by decide +kernel
theorem d_Law_law_413 : decode code 413 = .ok (.lcmp, 1) := by decide +kernel
theorem d_Law_law_414 : decode code 414 = .ok (.ifCond .eq 5, 3) := by decide +kernel
theorem d_Law_law_417 : decode code 417 = .ok (.iconst 0, 1) := by decide +kernel
theorem d_Law_law_418 : decode code 418 = .ok (.ireturn, 1) := by decide +kernel
theorem d_Law_law_419 : decode code 419 = .ok (.goto 114, 3) := by decide +kernel
theorem d_Law_law_422 : decode code 422 = .ok (.aload_n 1, 1) := by decide +kernel
theorem d_Law_law_423 : decode code 423 = .ok (.aload_n 0, 1) := by decide +kernel
theorem d_Law_law_424 : decode code 424 = .ok (.iload 4, 2) := by decide +kernel
theorem d_Law_law_426 : decode code 426 = .ok (.iconst 1, 1) := by decide +kernel
theorem d_Law_law_427 : decode code 427 = .ok (.iadd, 1) := by decide +kernel
theorem d_Law_law_428 : decode code 428 = .ok (.iaload, 1) := by decide +kernel
theorem d_Law_law_429 : decode code 429 = .ok (.aload_n 3, 1) := by decide +kernel
theorem d_Law_law_430 : decode code 430 = .ok (.invokestatic 73, 3) := by decide +kernel
theorem d_Law_law_433 : decode code 433 = .ok (.istore 5, 2) := by decide +kernel
theorem d_Law_law_435 : decode code 435 = .ok (.aload_n 2, 1) := by decide +kernel
theorem d_Law_law_436 : decode code 436 = .ok (.aload_n 0, 1) := by decide +kernel
theorem d_Law_law_437 : decode code 437 = .ok (.iload 4, 2) := by decide +kernel
theorem d_Law_law_439 : decode code 439 = .ok (.iconst 1, 1) := by decide +kernel
theorem d_Law_law_440 : decode code 440 = .ok (.iadd, 1) := by decide +kernel
theorem d_Law_law_441 : decode code 441 = .ok (.iaload, 1) := by decide +kernel
theorem d_Law_law_442 : decode code 442 = .ok (.invokevirtual 75, 3) := by decide +kernel
theorem d_Law_law_445 : decode code 445 = .ok (.lstore 6, 2) := by decide +kernel
theorem d_Law_law_447 : decode code 447 = .ok (.aload_n 2, 1) := by decide +kernel
theorem d_Law_law_448 : decode code 448 = .ok (.invokevirtual 50, 3) := by decide +kernel
theorem d_Law_law_451 : decode code 451 = .ok (.iload 5, 2) := by decide +kernel
theorem d_Law_law_453 : decode code 453 = .ok (.if_icmp .eq 5, 3) := by decide +kernel
theorem d_Law_law_456 : decode code 456 = .ok (.iconst 0, 1) := by decide +kernel
theorem d_Law_law_457 : decode code 457 = .ok (.ireturn, 1) := by decide +kernel
theorem d_Law_law_458 : decode code 458 = .ok (.iload 5, 2) := by decide +kernel
theorem d_Law_law_460 : decode code 460 = .ok (.ifCond .ne 14, 3) := by decide +kernel
theorem d_Law_law_463 : decode code 463 = .ok (.aload_n 3, 1) := by decide +kernel
theorem d_Law_law_464 : decode code 464 = .ok (.iconst 0, 1) := by decide +kernel
theorem d_Law_law_465 : decode code 465 = .ok (.laload, 1) := by decide +kernel
theorem d_Law_law_466 : decode code 466 = .ok (.lload 6, 2) := by decide +kernel
theorem d_Law_law_468 : decode code 468 = .ok (.lcmp, 1) := by decide +kernel
theorem d_Law_law_469 : decode code 469 = .ok (.ifCond .eq 5, 3) := by decide +kernel
theorem d_Law_law_472 : decode code 472 = .ok (.iconst 0, 1) := by decide +kernel
theorem d_Law_law_473 : decode code 473 = .ok (.ireturn, 1) := by decide +kernel
theorem d_Law_law_474 : decode code 474 = .ok (.goto 59, 3) := by decide +kernel
theorem d_Law_law_477 : decode code 477 = .ok (.aload_n 1, 1) := by decide +kernel
theorem d_Law_law_478 : decode code 478 = .ok (.aload_n 0, 1) := by decide +kernel
theorem d_Law_law_479 : decode code 479 = .ok (.iload 4, 2) := by decide +kernel
theorem d_Law_law_481 : decode code 481 = .ok (.iconst 1, 1) := by decide +kernel
theorem d_Law_law_482 : decode code 482 = .ok (.iadd, 1) := by decide +kernel
theorem d_Law_law_483 : decode code 483 = .ok (.iaload, 1) := by decide +kernel
theorem d_Law_law_484 : decode code 484 = .ok (.aload_n 3, 1) := by decide +kernel
theorem d_Law_law_485 : decode code 485 = .ok (.invokestatic 76, 3) := by decide +kernel
theorem d_Law_law_488 : decode code 488 = .ok (.istore 5, 2) := by decide +kernel
theorem d_Law_law_490 : decode code 490 = .ok (.aload_n 2, 1) := by decide +kernel
theorem d_Law_law_491 : decode code 491 = .ok (.aload_n 0, 1) := by decide +kernel
theorem d_Law_law_492 : decode code 492 = .ok (.iload 4, 2) := by decide +kernel
theorem d_Law_law_494 : decode code 494 = .ok (.iconst 1, 1) := by decide +kernel
theorem d_Law_law_495 : decode code 495 = .ok (.iadd, 1) := by decide +kernel
theorem d_Law_law_496 : decode code 496 = .ok (.iaload, 1) := by decide +kernel
theorem d_Law_law_497 : decode code 497 = .ok (.invokevirtual 78, 3) := by decide +kernel
theorem d_Law_law_500 : decode code 500 = .ok (.istore 6, 2) := by decide +kernel
theorem d_Law_law_502 : decode code 502 = .ok (.aload_n 2, 1) := by decide +kernel
theorem d_Law_law_503 : decode code 503 = .ok (.invokevirtual 50, 3) := by decide +kernel
theorem d_Law_law_506 : decode code 506 = .ok (.iload 5, 2) := by decide +kernel
theorem d_Law_law_508 : decode code 508 = .ok (.if_icmp .eq 5, 3) := by decide +kernel
theorem d_Law_law_511 : decode code 511 = .ok (.iconst 0, 1) := by decide +kernel
theorem d_Law_law_512 : decode code 512 = .ok (.ireturn, 1) := by decide +kernel
theorem d_Law_law_513 : decode code 513 = .ok (.iload 5, 2) := by decide +kernel
theorem d_Law_law_515 : decode code 515 = .ok (.ifCond .ne 15, 3) := by decide +kernel
theorem d_Law_law_518 : decode code 518 = .ok (.aload_n 3, 1) := by decide +kernel
theorem d_Law_law_519 : decode code 519 = .ok (.iconst 0, 1) := by decide +kernel
theorem d_Law_law_520 : decode code 520 = .ok (.laload, 1) := by decide +kernel
theorem d_Law_law_521 : decode code 521 = .ok (.iload 6, 2) := by decide +kernel
theorem d_Law_law_523 : decode code 523 = .ok (.i2l, 1) := by decide +kernel
theorem d_Law_law_524 : decode code 524 = .ok (.lcmp, 1) := by decide +kernel
theorem d_Law_law_525 : decode code 525 = .ok (.ifCond .eq 5, 3) := by decide +kernel
theorem d_Law_law_528 : decode code 528 = .ok (.iconst 0, 1) := by decide +kernel
theorem d_Law_law_529 : decode code 529 = .ok (.ireturn, 1) := by decide +kernel
theorem d_Law_law_530 : decode code 530 = .ok (.goto 3, 3) := by decide +kernel
theorem d_Law_law_533 : decode code 533 = .ok (.iinc 4 5, 3) := by decide +kernel
theorem d_Law_law_536 : decode code 536 = .ok (.goto (-513), 3) := by decide +kernel
theorem d_Law_law_539 : decode code 539 = .ok (.iconst 1, 1) := by decide +kernel
theorem d_Law_law_540 : decode code 540 = .ok (.ireturn, 1) := by decide +kernel
end
section
/-! my own short rows over the kit's: results by name -/
section XR
variable {p : Program} {l : Launch} {e : Env} {R : Room} {s : State} {m : MethodId} {args : Array Value} {below : List Frame} {meth : Method} {c : Code} {H : Heap} {locs : List Loc} {cells slots : Nat} {Q : State → Prop}
variable {cc : ByteArray} {pc : Nat} {ls : Array Slot} {rest : List Value} {D : va_G} {cl : List vw_C} {A : Nat → Prop} {a : Nat} {tys : List (ClassId × FieldType)} {ws : va_W} {H0 : Heap}
theorem xr_iadd (hx : p.tables.exec = Jvm.exec) (hb : c.code = cc) {x y v : Int32} (hdg : decode cc pc = .ok (.iadd, 1)) (hv : x + y = v) (k : W p l e R s m args below meth c H locs cells slots Q (F0 m (pc + 1) ls (.int v :: rest))) : W p l e R s m args below meth c H locs cells slots Q (F0 m pc ls (.int y :: .int x :: rest)) := by
  subst hv; exact lv_iadd hx hb hdg k
theorem xr_isub (hx : p.tables.exec = Jvm.exec) (hb : c.code = cc) {x y v : Int32} (hdg : decode cc pc = .ok (.isub, 1)) (hv : x - y = v) (k : W p l e R s m args below meth c H locs cells slots Q (F0 m (pc + 1) ls (.int v :: rest))) : W p l e R s m args below meth c H locs cells slots Q (F0 m pc ls (.int y :: .int x :: rest)) := by
  subst hv; exact lv_isub hx hb hdg k
theorem xr_imul (hx : p.tables.exec = Jvm.exec) (hb : c.code = cc) {x y v : Int32} (hdg : decode cc pc = .ok (.imul, 1)) (hv : x * y = v) (k : W p l e R s m args below meth c H locs cells slots Q (F0 m (pc + 1) ls (.int v :: rest))) : W p l e R s m args below meth c H locs cells slots Q (F0 m pc ls (.int y :: .int x :: rest)) := by
  subst hv; exact lv_imul hx hb hdg k
theorem xr_lcmp (hx : p.tables.exec = Jvm.exec) (hb : c.code = cc) {x y : Int64} {v : Int32} (hdg : decode cc pc = .ok (.lcmp, 1)) (hv : lg_cmp x y = v) (k : W p l e R s m args below meth c H locs cells slots Q (F0 m (pc + 1) ls (.int v :: rest))) : W p l e R s m args below meth c H locs cells slots Q (F0 m pc ls (.long y :: .long x :: rest)) := by
  subst hv; exact W.lcmp hx hb hdg k
theorem xr_in {i : Int32} {n : Nat} (h : ¬ (i < 0 ∨ n ≤ i.toNatClampNeg)) : vp_in i n := h
theorem xr_iald (hx : p.tables.exec = Jvm.exec) (hb : c.code = cc) (hK : va_K D cl tys s) (hP : va_P D cl ws H) (q0 t0 : Nat) {cA : ClassId} {n : Nat} {f : Nat → Int32} (ha : ws[q0]? = some (a, .inl (cA, n, .inl f))) (ht : tys[t0]? = some (cA, .int)) {i v : Int32} (hin : vp_in i n) (hv : f i.toNatClampNeg = v) (hdg : decode cc pc = .ok (.iaload, 1))
    (kk : W p l e R s m args below meth c H locs cells slots Q (F0 m (pc + 1) ls (.int v :: rest))) : W p l e R s m args below meth c H locs cells slots Q (F0 m pc ls (.int i :: .ref a :: rest)) := by
  subst hv; exact va_iald hx hb hK hP q0 t0 ha ht hin hdg kk
theorem xr_zald (hx : p.tables.exec = Jvm.exec) (hb : c.code = cc) (hK : va_K D cl tys s) (hP : va_P D cl ws H) (q0 t0 : Nat) {cA : ClassId} {n : Nat} {f : Nat → Int32} (ha : ws[q0]? = some (a, .inl (cA, n, .inl f))) (ht : tys[t0]? = some (cA, .boolean)) {i v : Int32} (hin : vp_in i n) (hv : f i.toNatClampNeg = v) (hdg : decode cc pc = .ok (.baload, 1))
    (kk : W p l e R s m args below meth c H locs cells slots Q (F0 m (pc + 1) ls (.int v :: rest))) : W p l e R s m args below meth c H locs cells slots Q (F0 m pc ls (.int i :: .ref a :: rest)) := by
  subst hv; exact va_zald hx hb hK hP q0 t0 ha ht hin hdg kk
theorem xr_cald (hx : p.tables.exec = Jvm.exec) (hb : c.code = cc) (hK : va_K D cl tys s) (hP : va_P D cl ws H) (q0 t0 : Nat) {cA : ClassId} {n : Nat} {f : Nat → Int32} (ha : ws[q0]? = some (a, .inl (cA, n, .inl f))) (ht : tys[t0]? = some (cA, .char)) {i v : Int32} (hin : vp_in i n) (hv : f i.toNatClampNeg = v) (hdg : decode cc pc = .ok (.caload, 1))
    (kk : W p l e R s m args below meth c H locs cells slots Q (F0 m (pc + 1) ls (.int v :: rest))) : W p l e R s m args below meth c H locs cells slots Q (F0 m pc ls (.int i :: .ref a :: rest)) := by
  subst hv; exact va_cald hx hb hK hP q0 t0 ha ht hin hdg kk
theorem xr_lald (hx : p.tables.exec = Jvm.exec) (hb : c.code = cc) (hK : va_K D cl tys s) (hP : va_P D cl ws H) (q0 t0 : Nat) {cA : ClassId} {n : Nat} {f : Nat → Int64} (ha : ws[q0]? = some (a, .inl (cA, n, .inr (.inl f)))) (ht : tys[t0]? = some (cA, .long)) {i : Int32} {v : Int64} (hin : vp_in i n) (hv : f i.toNatClampNeg = v) (hdg : decode cc pc = .ok (.laload, 1))
    (kk : W p l e R s m args below meth c H locs cells slots Q (F0 m (pc + 1) ls (.long v :: rest))) : W p l e R s m args below meth c H locs cells slots Q (F0 m pc ls (.int i :: .ref a :: rest)) := by
  subst hv; exact va_lald hx hb hK hP q0 t0 ha ht hin hdg kk
theorem xr_iast (hx : p.tables.exec = Jvm.exec) (hb : c.code = cc) (hK : va_K D cl tys s) (hP : va_P D cl ws H) (hD : va_D A ws) (hS : va_S A H0 H locs) (q0 t0 : Nat) {cA : ClassId} {n : Nat} {f : Nat → Int32} (ha : ws[q0]? = some (a, .inl (cA, n, .inl f))) (ht : tys[t0]? = some (cA, .int)) {i x : Int32} {j : Nat} (hin : vp_in i n) (hj : i.toNatClampNeg = j) (hdg : decode cc pc = .ok (.iastore, 1))
    (kk : ∀ (H1 : Heap) (locs1 : List Loc), va_P D cl (ws.set q0 (a, .inl (cA, n, .inl (upd f j x)))) H1 → va_D A (ws.set q0 (a, .inl (cA, n, .inl (upd f j x)))) → va_S A H0 H1 locs1 → W p l e R s m args below meth c H1 locs1 cells slots Q (F0 m (pc + 1) ls rest)) : W p l e R s m args below meth c H locs cells slots Q (F0 m pc ls (.int x :: .int i :: .ref a :: rest)) := by
  subst hj; exact va_iast hx hb hK hP hD hS q0 t0 ha ht hin hdg kk
theorem xr_zast (hx : p.tables.exec = Jvm.exec) (hb : c.code = cc) (hK : va_K D cl tys s) (hP : va_P D cl ws H) (hD : va_D A ws) (hS : va_S A H0 H locs) (q0 t0 : Nat) {cA : ClassId} {n : Nat} {f : Nat → Int32} (ha : ws[q0]? = some (a, .inl (cA, n, .inl f))) (ht : tys[t0]? = some (cA, .boolean)) {i x : Int32} {j : Nat} (hin : vp_in i n) (hj : i.toNatClampNeg = j) (hdg : decode cc pc = .ok (.bastore, 1))
    (kk : ∀ (H1 : Heap) (locs1 : List Loc), va_P D cl (ws.set q0 (a, .inl (cA, n, .inl (upd f j (vp_nar .boolean x))))) H1 → va_D A (ws.set q0 (a, .inl (cA, n, .inl (upd f j (vp_nar .boolean x))))) → va_S A H0 H1 locs1 → W p l e R s m args below meth c H1 locs1 cells slots Q (F0 m (pc + 1) ls rest)) : W p l e R s m args below meth c H locs cells slots Q (F0 m pc ls (.int x :: .int i :: .ref a :: rest)) := by
  subst hj; exact va_zast hx hb hK hP hD hS q0 t0 ha ht hin hdg kk
theorem xr_cast (hx : p.tables.exec = Jvm.exec) (hb : c.code = cc) (hK : va_K D cl tys s) (hP : va_P D cl ws H) (hD : va_D A ws) (hS : va_S A H0 H locs) (q0 t0 : Nat) {cA : ClassId} {n : Nat} {f : Nat → Int32} (ha : ws[q0]? = some (a, .inl (cA, n, .inl f))) (ht : tys[t0]? = some (cA, .char)) {i x : Int32} {j : Nat} (hin : vp_in i n) (hj : i.toNatClampNeg = j) (hdg : decode cc pc = .ok (.castore, 1))
    (kk : ∀ (H1 : Heap) (locs1 : List Loc), va_P D cl (ws.set q0 (a, .inl (cA, n, .inl (upd f j (vp_nar .char x))))) H1 → va_D A (ws.set q0 (a, .inl (cA, n, .inl (upd f j (vp_nar .char x))))) → va_S A H0 H1 locs1 → W p l e R s m args below meth c H1 locs1 cells slots Q (F0 m (pc + 1) ls rest)) : W p l e R s m args below meth c H locs cells slots Q (F0 m pc ls (.int x :: .int i :: .ref a :: rest)) := by
  subst hj; exact va_cast hx hb hK hP hD hS q0 t0 ha ht hin hdg kk
theorem xr_last (hx : p.tables.exec = Jvm.exec) (hb : c.code = cc) (hK : va_K D cl tys s) (hP : va_P D cl ws H) (hD : va_D A ws) (hS : va_S A H0 H locs) (q0 t0 : Nat) {cA : ClassId} {n : Nat} {f : Nat → Int64} (ha : ws[q0]? = some (a, .inl (cA, n, .inr (.inl f)))) (ht : tys[t0]? = some (cA, .long)) {i : Int32} {x : Int64} {j : Nat} (hin : vp_in i n) (hj : i.toNatClampNeg = j) (hdg : decode cc pc = .ok (.lastore, 1))
    (kk : ∀ (H1 : Heap) (locs1 : List Loc), va_P D cl (ws.set q0 (a, .inl (cA, n, .inr (.inl (vp_updL f j x))))) H1 → va_D A (ws.set q0 (a, .inl (cA, n, .inr (.inl (vp_updL f j x))))) → va_S A H0 H1 locs1 → W p l e R s m args below meth c H1 locs1 cells slots Q (F0 m (pc + 1) ls rest)) : W p l e R s m args below meth c H locs cells slots Q (F0 m pc ls (.long x :: .int i :: .ref a :: rest)) := by
  subst hj; exact va_last hx hb hK hP hD hS q0 t0 ha ht hin hdg kk
theorem xr_max (hx : p.tables.exec = Jvm.exec) (hb : c.code = cc) (hml : c.maxLocals = ls.size) {own : String} {index : Nat} (hown : s.vm.findClass own = some m.cls) (hlink : (Cond.methodLink own index Lib.Math.max.name).before args s = true) (hstat : (Cond.static Lib.Math.max.name).before args s = true) (hini : (Cond.initialized "java/lang/Math").before args s = true) (hcode : (Cond.code Lib.Math.max.name Lib.Math.max.code 2 (some .int)).before args s = true)
    (hframes : 1 ≤ R.frames) (hlocals : (rest.map fun v => v.category).sum + 13 ≤ R.locals) (hc : cells ≤ R.cells) (hs : slots ≤ R.slots) {x y v : Int32} (hdg : decode cc pc = .ok (.invokestatic index, 3)) (hv : (if x < y then y else x) = v)
    (kk : W p l e R s m args below meth c H locs cells slots Q (F0 m (pc + 3) ls (.int v :: rest))) : W p l e R s m args below meth c H locs cells slots Q (F0 m pc ls (.int y :: .int x :: rest)) := by
  subst hv; exact va_mmax hx hb hml hown hlink hstat hini hcode hframes hlocals hc hs hdg kk
theorem xr_upd0 (k : Nat) : upd (fun _ => (0 : Int32)) k 0 = fun _ => 0 := by
  funext j; unfold upd; split <;> rfl
theorem xr_nar (v : Int32) : narrow .int (.int v) = .int v := rfl
theorem xr_fit (v : Int32) : fits .int (.int v) = true := rfl
end XR
theorem xr_ge0 {x : Int32} (h : ¬ x < 0) : 0 ≤ x := Int32.not_lt.mp h
theorem xr_m1 {x : Int32} (h : ¬ x < 0) : (-1) < x := by
  have h1 := Int32.le_iff_toInt_le.mp (Int32.not_lt.mp h)
  have h2 : (0 : Int32).toInt = 0 := by decide
  have h3 : (-1 : Int32).toInt = -1 := by decide
  rw [Int32.lt_iff_toInt_lt]; omega
theorem xr_n5 {x : Int32} (h : 5 ≤ x) : ¬ x < 5 := Int32.not_lt.mpr h
theorem xr_g4 {x : Int32} (h : 5 ≤ x) : 4 < x := by
  have h1 := Int32.le_iff_toInt_le.mp h
  have h2 : (5 : Int32).toInt = 5 := by decide
  have h3 : (4 : Int32).toInt = 4 := by decide
  rw [Int32.lt_iff_toInt_lt]; omega
theorem xr_le9 {x : Int32} (h : ¬ 9 < x) : x ≤ 9 := Int32.not_lt.mp h
theorem xr_nle9 {x : Int32} (h : 9 < x) : ¬ x ≤ 9 := Int32.not_le.mpr h
end
section
/-! methods that throw, and the catch in their caller: my own rows over the library's -/
section TXA
def tx_End (E : String) (mc ms : Nat) : Array Value → State → Outcome → State → Prop := fun _ st o t =>
  ∃ (q : Addr) (ce : Cell), o = .threw q ∧ st.WarmedH t.vm ∧ st.sameButNew ({ t with vm := st.vm } : State) [] mc ms ∧ t.heap[q]? = some ce ∧ ce.vm = .none ∧ st.vm.findClass E = some ce.cls
def tx_Met (l : Launch) (y : MethodName) (ws : List Cond) (rm : Room) (Pc : Array Value → State → Prop) (E : String) (mc ms : Nat) : Prop :=
  MetFree l y (headSpec ws rm) Pc (fun _ _ _ _ _ => True) (tx_End E mc ms)
def tx_Z (below : List Frame) (E : String) (a : Array Value) (s : State) (mc ms : Nat) : State → Prop := fun t => ∃ o, t.status = .running ∧ Ended t below o ∧ tx_End E mc ms a s o t
theorem tx_ofW {l : Launch} {y : MethodName} {ws ws' : List Cond} {rm : Room} {Pc : Array Value → State → Prop} {E : String} {mc ms : Nat} {cc : ByteArray} {maxL : Nat} {ret : Option FieldType}
    (hy : plainName y.cls = true) (hw : ws = Cond.code y cc maxL ret :: ws')
    (body : ∀ p e s m args below meth c s₁, BodyLoose p l y (headSpec ws rm) cc maxL ret e s m args below meth c s₁ → c.maxLocals = maxL → Pc args s →
      W p l e (headSpec ws rm).room s m args below meth c s.heap [] 0 0 (tx_Z below E args s mc ms) (entryFrame m args maxL)) : tx_Met l y ws rm Pc E mc ms := by
  refine MetFree.of_bodyS (code := cc) (maxLocals := maxL) (ret := ret) hy ?_ ?_
  · intro args s m h hn
    obtain ⟨meth, c, h1, h2, h3, h4, h5, h6, -, -⟩ := Cond.code_spec hn (atoms_spec (ws := ws) h _ (by rw [hw]; exact List.mem_cons_self))
    exact ⟨meth, c, h1, h2, h3, h4, h5, h6⟩
  · intro p e s m args below meth c s₁ B hml hP _
    have hh0 : s₁.heap = s.heap := by rw [B.state]; rfl
    obtain ⟨t, a1, o, b1, b2, b3⟩ := body p e s m args below meth c s₁ B hml hP s₁ hh0 (Stand.of_body B)
    exact ⟨t, o, a1, b1, b2, b3⟩
end TXA
section TXB
variable {p : Program} {l : Launch} {e : Env} {R : Room} {s : State} {m : MethodId} {args : Array Value} {below : List Frame} {meth : Method} {c : Code} {H : Heap} {cells slots : Nat}
/-- the constructor with a message, and the throw, out of the method -/
theorem tx_ctor {cc : ByteArray} {pc : Nat} {ls : Array Slot} (hx : p.tables.exec = Jvm.exec) (hb : c.code = cc) (hl : l.stackTraces = false) (hlocks : meth.locks = false) (hsize : ls.size = c.maxLocals)
    {own E : String} {names : List String} {ic sa a : Nat} {cX : ClassId} {kX : Class} (hown : s.vm.findClass own = some m.cls) (hE : Bundle.fit E = true) (hN : ∀ n ∈ names, Bundle.fit n = true)
    (hat : ∀ w ∈ Bundle.ownAtoms own ic E names, w.before args s = true) (hfX : s.vm.findClass E = some cX) (hkX : s.vm.classes[cX]? = some kX) (hcell : H[a]? = some (freshCell cX kX)) (hnew : s.heap.size ≤ a)
    (hd6 : decode cc pc = .ok (.invokespecial ic, 3)) (hd9 : decode cc (pc + 3) = .ok (.athrow, 1)) (hout : ∀ x ∈ c.exceptionTable.toList, covers x (pc + 3) = false)
    (hRf : names.length + 3 < R.frames) (hRl : 1 + (13 * (names.length + 1) + 42) ≤ R.locals) :
    W p l e R s m args below meth c H [] cells slots (tx_Z below E args s cells slots) (F0 m pc ls [.ref sa, .ref a, .ref a]) := by
  intro T hT X
  subst hb
  have htr : e.platform.stackTraces = false := by rw [X.admits.platform]; exact hl
  obtain ⟨U, hsteps, hrun, hend, hW, hsame, ce, hce, K⟩ := X.ctorThrowS hx htr (own := own) (cls := E) (names := names) (ic := ic) hown hE hN hat (fun y hy => by cases hy) hfX hkX (by rw [hT]; exact hcell) hnew (msg := .ref sa) rfl
    (g := F0 m pc ls [.ref sa, .ref a, .ref a]) rfl hsize rfl rfl (rest := []) rfl hd6 hd9 hout hRf (by simpa [JFrame.monitorRoom, Value.category] using hRl) hlocks
  exact ⟨U, hsteps, .threw a, hrun, hend, a, ce, rfl, hW, hsame, hce, K.vm, K.cls⟩
theorem tx_throw {cc : ByteArray} {pc : Nat} {ls : Array Slot} (hx : p.tables.exec = Jvm.exec) (hb : c.code = cc) (hl : l.stackTraces = false) (hlocks : meth.locks = false) (hsize : ls.size = c.maxLocals) (hgrow : s.heap.size ≤ H.size)
    {own E tx : String} {names : List String} {ik is ic sa : Nat} (hown : s.vm.findClass own = some m.cls) (hE : Bundle.fit E = true) (hN : ∀ n ∈ names, Bundle.fit n = true)
    (hat : ∀ w ∈ Bundle.ownAtoms own ic E names, w.before args s = true) (hcl : (Cond.classLink own ik E).before args s = true) (hins : (Cond.instantiable E 6).before args s = true) (hini : (Cond.initialized E).before args s = true) (hZ : vk_R own is tx sa s)
    (hd0 : decode cc pc = .ok (.new ik, 3)) (hd3 : decode cc (pc + 3) = .ok (.dup, 1)) (hd4 : decode cc (pc + 3 + 1) = .ok (.ldc is, 2)) (hd6 : decode cc (pc + 3 + 1 + 2) = .ok (.invokespecial ic, 3)) (hd9 : decode cc (pc + 3 + 1 + 2 + 3) = .ok (.athrow, 1))
    (hout : ∀ x ∈ c.exceptionTable.toList, covers x (pc + 3 + 1 + 2 + 3) = false) (hRc : cells + 1 ≤ R.cells) (hRs : slots + 6 ≤ R.slots) (hRf : names.length + 3 < R.frames) (hRl : 1 + (13 * (names.length + 1) + 42) ≤ R.locals) :
    W p l e R s m args below meth c H [] cells slots (tx_Z below E args s (cells + 1) (slots + 6)) (F0 m pc ls []) := by
  refine W.newc hx hb hown hcl hins hini rfl hd0 hRc hRs (fun cC kC h1 h2 h3 h4 => ?_)
  refine lv_dup hx hb hd3 rfl ?_
  refine va_ldcS hx hb hown hZ hd4 ?_
  refine tx_ctor hx hb hl hlocks hsize hown hE hN hat h1 h2 (a := H.size) ?_ hgrow hd6 hd9 hout hRf hRl
  show (H.push (freshCell cC kC))[H.size]? = _
  simp
end TXB
section TXC
theorem tx_found {e : Env} {s : State} {f : JFrame} {a : Addr} {meth : Method} {code : Code} (hm : s.vm.method? f.method = some meth) (hc : meth.code = some code) {x : ExceptionTableEntry} {rest : List ExceptionTableEntry} (hsplit : code.exceptionTable.toList = x :: rest) (hx : covers x f.pc = true) (h0 : x.catchType ≠ 0) {ct : ClassId} {cell : Cell}
    (hl : s.vm.ClassLinks e.platform f.method.cls x.catchType ct) (hcell : s.heap[a]? = some cell) (hobj : ∀ k, cell.vm ≠ .statics k) (hk : ∃ k, s.vm.classes[cell.cls]? = some k) (hct : ∃ k, s.vm.classes[ct]? = some k) (hfit : s.vm.assignable cell.cls ct = true)
    (Q : Handler → Pre) (E : CtlPost) (d : Bool) (acts : List Action) : wp (findHandler f a) Q E e d acts s ↔ Q (.found x.handlerPc) d acts (s.setVm (s.vm.noted f.method.cls x.catchType (.cls ct))) := by
  rw [Jvm.W.findHandler_eq hm hc, hsplit]
  simp only [covers] at hx
  obtain ⟨ha, ht⟩ := (resolveClass_links e.toSetting hl).op (op := VmOp.resolveClass f.method.cls x.catchType) rfl
  have hal : s.vm.Alike (s.vm.noted f.method.cls x.catchType (.cls ct)) := (Vm.Alike.refl s.vm).noted _ _ _
  obtain ⟨k1, hk1⟩ := hk
  obtain ⟨k2, hk2⟩ := hct
  obtain ⟨k1', hk1', -⟩ := hal.2.2 _ _ hk1
  obtain ⟨k2', hk2', -⟩ := hal.2.2 _ _ hk2
  have hfit' : (s.vm.noted f.method.cls x.catchType (.cls ct)).assignable cell.cls ct = true := by rw [hal.assignable]; exact hfit
  simp [findHandler.go, hx, h0, ha, ht, hcell, hobj, hk1', hk2', hfit', VmOp.dirties, VmOp.acts]
theorem tx_step {e : Env} {s : State} {a : Addr} {f : JFrame} {r : List Frame} {pc : Nat} {vm' : Vm} (hfind : ∀ (Q : Handler → Pre) (E : CtlPost) (d : Bool) (acts : List Action), wp (findHandler f a) Q E e d acts s ↔ Q (.found pc) d acts (s.setVm vm')) :
    (stepThrowing e s a (.java f :: r)).Is ((s.setVm vm').setFrames (.java { f with pc := pc, stack := [.ref a] } :: r)) [] := by
  simp only [stepThrowing, searchFrame, vmDo]
  generalize hr : Sem.go _ e false [] s = res
  obtain ⟨as, rfl, ha⟩ := Sem.eq_ok_of hr (a := Handler.found pc) (s' := s.setVm vm') (acts' := []) (by simp [hfind _ _ _ _])
  exact ⟨rfl, ha⟩
theorem tx_caught {tb : Tables} {e : Env} {s target : State} {g : JFrame} {c : Code} {below : List Frame} {a : Addr} (h : At s g.method c below) {pc : Nat} {vm' : Vm}
    (hfind : ∀ (Q : Handler → Pre) (E : CtlPost) (d : Bool) (acts : List Action), wp (findHandler g a) Q E e d acts ((s.setTop g).pushFrame (.throwing a)) ↔ Q (.found pc) d acts (((s.setTop g).pushFrame (.throwing a)).setVm vm'))
    (hrest : Steps tb e below ((s.setVm vm').setTop { g with pc := pc, stack := [.ref a] }) target) : Steps tb e below ((s.setTop g).pushFrame (.throwing a)) target := by
  obtain ⟨hgo, hw⟩ := h.throwing a
  refine Steps.head hgo hw ?_
  rw [stepThread_throwing (frames_entered h.top _), (tx_step (s := (s.setTop g).pushFrame (.throwing a)) hfind).1]
  obtain ⟨g₀, hg⟩ := Option.isSome_iff_exists.mp h.top
  obtain ⟨r, hr⟩ := State.topJava?_eq_some.mp hg
  have hr' : (s.setVm vm').frames = .java g₀ :: r := hr
  rw [State.setTop_of_frames _ hr'] at hrest
  have e1 : (((s.setTop g).pushFrame (.throwing a)).setVm vm').setFrames (.java { g with pc := pc, stack := [.ref a] } :: s.frames.tail) = (s.setVm vm').setFrames (.java { g with pc := pc, stack := [.ref a] } :: r) := by
    rw [hr, State.pushFrame, State.setTop_of_frames _ hr]
    show (((s.setVm vm').setFrames (.java g :: r)).setFrames (.throwing a :: (s.setFrames (.java g :: r)).frames)).setFrames (.java { g with pc := pc, stack := [.ref a] } :: r) = _
    rw [State.setFrames_setFrames, State.setFrames_setFrames]
  rw [e1]
  exact hrest
end TXC
section TXF
theorem tx_frame {s U : State} {k n : Nat} (h : s.sameButNew ({ U with vm := s.vm } : State) [] k n) : s.heap.size ≤ U.heap.size ∧ ∀ q : Nat, q < s.heap.size → U.heap[q]? = s.heap[q]? := by
  obtain ⟨-, h2, -, -, -, h6⟩ := h
  refine ⟨h2, fun q hq => ?_⟩
  obtain ⟨c9, e1, e2, -, e4⟩ := h6 q _ (Array.getElem?_eq_getElem hq)
  have hs : c9.slots = (s.heap[q]).slots := Array.ext_getElem? fun i => e4 i (fun hm => nomatch hm)
  rw [hs] at e2
  have e5 : U.heap[q]? = some c9 := e1
  rw [e5, Array.getElem?_eq_getElem hq, e2]
end TXF
section TXD
variable {p : Program} {l : Launch} {e : Env} {R : Room} {s : State} {m : MethodId} {args : Array Value} {below : List Frame} {meth : Method} {c : Code} {H : Heap} {locs : List Loc} {cells slots : Nat} {Q : State → Prop}
  {Ts ws ws' : List Cond} {cc bytes : ByteArray} {nL maxL index n mc ms : Nat} {own C : String} {y : MethodName} {ret : Option FieldType} {rm : Room} {Pc : Array Value → State → Prop} {b : Addr} {As rest : List Value}
/-- a call whose method throws an E, caught by the first row of this method's table -/
theorem tx_callV {E nm : String} {x : ExceptionTableEntry} {suf : List ExceptionTableEntry} {pc : Nat} {ls : Array Slot} (S : CallFix p m c cc nL s args Ts own) (hM : tx_Met l y ws rm Pc E mc ms) (cw : CallW R s args own C index y bytes maxL ret ws rm mc ms n) (hp : PreV s H C b Pc As)
    (hn : As.length = n) (hsize : ls.size = nL) (hW : 2 * (F0 m pc ls rest).monitorRoom + (rest.map fun v => v.category).sum ≤ 8) (hdg : decode cc pc = .ok (.invokevirtual index, 3)) (hf : cells + mc ≤ R.cells ∧ slots + ms ≤ R.slots)
    (hsplit : c.exceptionTable.toList = x :: suf) (hcov : covers x pc = true) (h0 : x.catchType ≠ 0) (hlink : (Cond.classLink own x.catchType nm).before args s = true) (hcast : (Cond.castable E nm).before args s = true)
    (kk : ∀ (q : Nat) (H1 : Heap), H.size ≤ H1.size → (∀ z : Nat, z < H.size → H1[z]? = H[z]?) → W p l e R s m args below meth c H1 locs (cells + mc) (slots + ms) Q (F0 m x.handlerPc ls [.ref q])) :
    W p l e R s m args below meth c H locs cells slots Q (F0 m pc ls (As.reverse ++ .ref b :: rest)) := by
  obtain ⟨⟨hrc, hrs, hfr, hlo, hws, hcw, hcode, hini, hy, hlen, hl⟩, hinst, hsel⟩ := cw
  obtain ⟨hx, hb, hml, hown, -⟩ := S
  obtain ⟨hblind, ⟨cellB, hcB, hoB, hclB⟩, hPc⟩ := hp
  intro T hT X
  subst hb
  have hpl : e.platform.magicAccessors = ({} : Platform).magicAccessors := by rw [X.admits.platform]
  obtain ⟨mk, methM, hnamed, hmethM, hstM, habM⟩ := Cond.instanceMethod_spec hinst
  obtain ⟨methM', cM, hmethM', hcM, -, hlM, -, -, -, hsigM⟩ := Cond.code_spec hnamed hcode
  cases hmethM.symm.trans hmethM'
  obtain ⟨c2, r2, m2, q1, q2, q3, q4, kP, hkP, hkPi⟩ := Cond.selects_spec hsel
  cases hclB.symm.trans q1
  cases (State.methodFound?_of_named hnamed hy).symm.trans q2
  cases hnamed.symm.trans q3
  have hselP : selectMethod e.platform s.vm cellB.cls mk = .method mk := by rw [Launch.admits_selectMethod X.admits]; exact q4
  obtain ⟨vm₁, X₁, hstep₁⟩ := X.invokevirtual hx hown hl hnamed hmethM hstM hkP hkPi hy (a := b) (cell := cellB) (by rw [hT]; exact hcB)
    (fun z h => by rw [h] at hoB; cases hoB) hselP hmethM habM hkP hkPi (g := F0 m pc ls (As.reverse ++ .ref b :: rest)) rfl (argsL := As) (rest := rest) (hn.trans (hlen _ hsigM)) rfl hdg
  have hcode₁ : (Cond.code y bytes maxL ret).before (Value.ref b :: As).toArray (T.setVm vm₁) = true := hws _ hcw _ _ X₁.warmed
  have hn₁ : (T.setVm vm₁).methodNamed? y = some mk := X₁.named hnamed
  obtain ⟨methY, cY, hmY, hcY, -, hlY, -, -, -, -⟩ := Cond.code_spec hn₁ hcode₁
  obtain ⟨kY, hkY, -⟩ := className_of_methodNamed hn₁
  have hinitY : kY.init = .initialized := Cond.initialized_spec (findClass_of_methodNamed hn₁) hkY (word_at (a' := #[]) X₁.warmed (Or.inl (by first | rfl | simp [Cond.onTables, Cond.keeps, Cond.steady])) hini)
  have h : At (T.setVm vm₁) m c below := X₁.here
  have hW : 2 * (F0 m pc ls rest).monitorRoom + ((F0 m pc ls rest).stack.map fun v => v.category).sum ≤ 8 := hW
  have hwsA : (headSpec ws rm).pre.before (Value.ref b :: As).toArray (T.setVm vm₁) = true := atoms_intro fun w hw => hws w hw _ _ X₁.warmed
  have happ : (headSpec ws rm).appliesLoose y e.platform ((T.setVm vm₁).calling (F0 m pc ls rest) mk (Value.ref b :: As).toArray) = true :=
    Spec.appliesLoose_calling (g := F0 m pc ls rest) h hdg hn₁ hkY hinitY
      (X₁.room_calling (g := F0 m pc ls rest) (R' := rm) (hsize.trans hml.symm) hmY hcY hfr (by rw [hlY]; omega) (by rw [hrc]; exact hf.1) (by rw [hrs]; exact hf.2)) hwsA
  obtain ⟨mid, hmid⟩ := h.above
  have hfrm : ((T.setVm vm₁).setTop (F0 m pc ls rest)).frames = (.java (F0 m pc ls rest) :: mid) ++ below := by rw [State.frames_setTop' _ h.top, hmid]; rfl
  obtain ⟨o, s₂, hsteps, -, hend, hq⟩ := Steps.callFree hM p X₁.admits X₁.cas X₁.clock (acts := []) hfrm happ (hblind _ _ _ _ (hPc (T.setVm vm₁) hT X₁.warmed)) trivial
  have hq' : tx_End E mc ms (Value.ref b :: As).toArray ((T.setVm vm₁).calling (F0 m pc ls rest) mk (Value.ref b :: As).toArray) o s₂ := hq
  obtain ⟨q, ce, rfl, hW₂, hsm, hce, hcv, hcls⟩ := hq'
  rw [State.frames_setTop' _ h.top] at hend
  have hf₂ : s₂.frames = .throwing q :: .java (F0 m pc ls rest) :: (T.setVm vm₁).frames.tail := hend
  obtain ⟨e2, q2', q3', q4', q5', q6'⟩ := id hsm
  have e3 : s₂ = ({ ((T.setVm vm₁).calling (F0 m pc ls rest) mk (Value.ref b :: As).toArray).setFrames s₂.frames with heap := s₂.heap, slotsUsed := s₂.slotsUsed } : State).setVm s₂.vm := by
    have : s₂ = ({ s₂ with vm := ((T.setVm vm₁).calling (F0 m pc ls rest) mk (Value.ref b :: As).toArray).vm } : State).setVm s₂.vm := rfl
    rw [e2] at this
    exact this
  have hW' : (T.setVm vm₁).WarmedH s₂.vm := hW₂
  obtain ⟨g₀, hg0⟩ := Option.isSome_iff_exists.mp h.top
  obtain ⟨r, hr⟩ := State.topJava?_eq_some.mp hg0
  generalize hU : (({ (T.setVm vm₁) with heap := s₂.heap, slotsUsed := s₂.slotsUsed } : State).setVm s₂.vm) = U
  have hrU : U.frames = .java g₀ :: r := by rw [← hU]; exact hr
  have hs₂ : s₂ = (U.setTop (F0 m pc ls rest)).pushFrame (.throwing q) := by
    refine e3.trans ?_
    rw [hf₂, State.calling_eq h.top, State.setFrames_setFrames, State.pushFrame, State.frames_setTop _ hrU, State.setTop_of_frames _ hrU, State.setFrames_setFrames, hr, ← hU]
    rfl
  have hsame : (T.setVm vm₁).sameButNew ({ (T.setVm vm₁) with heap := s₂.heap, slotsUsed := s₂.slotsUsed } : State) [] mc ms := by
    refine ⟨?_, q2', q3', q4', q5', q6'⟩
    obtain ⟨t, ht, -⟩ := State.frames_cons hr
    show ({ (T.setVm vm₁) with heap := s₂.heap, slotsUsed := s₂.slotsUsed } : State) = { (T.setVm vm₁).setFrames (T.setVm vm₁).frames with heap := s₂.heap, slotsUsed := s₂.slotsUsed }
    rw [State.setFrames_self ht]
  have XU : Stand p l e R s m args below meth c U (locs ++ []) (cells + mc) (slots + ms) := by
    rw [← hU]
    exact ⟨X₁.admits, X₁.cas, X₁.clock, X₁.frames, X₁.room, X₁.hears, X₁.method, X₁.code, (X₁.here.setHeapUsed s₂.heap s₂.slotsUsed).setVm hW'.alike, X₁.tail, State.WarmedH.trans X₁.warmed hW', X₁.limits, X₁.bytes, X₁.same.trans (hsame.setVm s.vm)⟩
  rw [List.append_nil] at XU
  have hUheap : U.heap = s₂.heap := by rw [← hU]; rfl
  have hfr2 := tx_frame hsm
  have hc0 : ((T.setVm vm₁).calling (F0 m pc ls rest) mk (Value.ref b :: As).toArray).heap = H := hT
  rw [hc0] at hfr2
  obtain ⟨c3, c4, hc3, hc4, hasg⟩ := Cond.castable_spec hcast
  have hclsS : s.vm.findClass E = some ce.cls := by
    have h1 : vm₁.findClass E = some ce.cls := hcls
    have h2 := X₁.warmed.alike.findClass E
    exact (h2 _).symm.trans h1
  cases Option.some.inj (hc3.symm.trans hclsS)
  obtain ⟨c5, hc5, hcl5⟩ := Cond.classLink_spec hown hlink e.platform hpl
  cases Option.some.inj (hc4.symm.trans hc5)
  have hWU : s.WarmedH U.vm := XU.warmed
  obtain ⟨dk, _, _, kt, hd, _, _, _, _, hkt, _, hopen⟩ := hcl5.here
  have hWn : s.WarmedH (U.vm.noted m.cls x.catchType (.cls c4)) := hWU.noted hd hopen (State.rightAt_cls hcl5)
  have hk1 : ∃ k, U.vm.classes[ce.cls]? = some k := by
    obtain ⟨k, hk⟩ := Vm.classAt_of_findClass hclsS
    obtain ⟨k', h', -⟩ := hWU.alike.2.2 _ _ hk
    exact ⟨k', h'⟩
  have hk2 : ∃ k, U.vm.classes[c4]? = some k := by
    obtain ⟨k', h', -⟩ := hWU.alike.2.2 _ _ hkt
    exact ⟨k', h'⟩
  have hvmS : ((U.setTop (F0 m pc ls rest)).pushFrame (.throwing q)).vm = U.vm := Stand.throwing_vm U (F0 m pc ls rest) q
  have hfind := tx_found (e := e) (s := (U.setTop (F0 m pc ls rest)).pushFrame (.throwing q)) (f := F0 m pc ls rest) (a := q) (meth := meth) (code := c) (by rw [hvmS]; exact XU.method') XU.code hsplit hcov h0 (ct := c4) (cell := ce) (by rw [hvmS]; exact hWU.classLinks hcl5) (by rw [Stand.throwing_heap, hUheap]; exact hce) (fun k => by rw [hcv]; intro h; cases h) (by rw [hvmS]; exact hk1) (by rw [hvmS]; exact hk2) (by rw [hvmS, hWU.alike.assignable]; exact hasg)
  rw [hvmS] at hfind
  obtain ⟨t, a1, b1⟩ := kk q s₂.heap hfr2.1 hfr2.2 (U.setVm (U.vm.noted m.cls x.catchType (.cls c4))) hUheap (XU.noted hWn)
  refine ⟨t, hstep₁ _ (fun acts => ?_), b1⟩
  rw [doInvoke_state]
  refine hsteps.trans ?_
  rw [hs₂]
  exact tx_caught XU.here hfind a1
end TXD
section TXE
variable {p : Program} {l : Launch} {e : Env} {R : Room} {s : State} {m : MethodId} {args : Array Value} {below : List Frame} {meth : Method} {c : Code} {H : Heap} {locs : List Loc} {cells slots : Nat} {Q : State → Prop}
/-- the rows of a method's table, by its word -/
theorem tx_hand {y : MethodName} {S : Spec} {cc : ByteArray} {maxL : Nat} {ret : Option FieldType} {hh : List (Nat × Nat × Nat × Nat)} {s₁ : State} (B : BodyLoose p l y S cc maxL ret e s m args below meth c s₁) (h : (Cond.codeWith y cc maxL ret hh).before args s = true) :
    c.exceptionTable.toList.map (fun h => (h.startPc, h.endPc, h.handlerPc, h.catchType)) = hh := by
  obtain ⟨m9, meth', c', hn9, hm', hc', -, -, he', -⟩ := Cond.codeWith_spec h
  cases B.named.symm.trans hn9
  cases B.method.symm.trans hm'
  cases (Stand.of_body B).code.symm.trans hc'
  exact he'
/-- a static call of a method with a table, on a road where it comes back -/
theorem tx_runSW {y : MethodName} {bytes cc : ByteArray} {maxL nL mc ms n index : Nat} {ret : Option FieldType} {hh : List (Nat × Nat × Nat × Nat)} {ws : List Cond} {rm : Room} {Pc : Array Value → State → Prop} {Qc : Array Value → State → Outcome → State → Prop} {free : Addr → Prop} {Ts : List Cond} {own : String} {As rest : List Value} {g : JFrame}
    (S : CallFix p m c cc nL s args Ts own) (hM : Met l y ws rm Pc Qc mc ms free) (hrc : rm.cells = mc) (hrs : rm.slots = ms) (hfr : rm.frames + 1 ≤ R.frames) (hlo : 8 + (maxL + 11) + rm.locals ≤ R.locals) (hws : ∀ w ∈ ws, ∀ (a' : Array Value) (U : State), s.WarmedH U.vm → w.before a' U = true) (hcw : Cond.codeWith y bytes maxL ret hh ∈ ws)
    (hcode : (Cond.codeWith y bytes maxL ret hh).before args s = true) (hini : (Cond.initialized y.cls).before args s = true) (hy : y.cls ≠ "java/lang/invoke/MethodHandle" ∧ y.cls ≠ "java/lang/invoke/VarHandle") (hlen : (parseMethodDescriptor y.desc).map (fun d => d.parameters.length) = some n) (hlink : (Cond.methodLink own index y).before args s = true) (hstat : (Cond.static y).before args s = true)
    (hp : PreS s H Pc As) (hg : g.method = m) (hn : As.length = n) (hsize : g.locals.size = nL) (hstack : g.stack = As.reverse ++ rest) (hW : 2 * g.monitorRoom + (rest.map fun v => v.category).sum ≤ 8) (hdg : decode cc g.pc = .ok (.invokestatic index, 3)) (hf : cells + mc ≤ R.cells ∧ slots + ms ≤ R.slots) :
    va_Run p l e R s m args below meth c H locs cells slots mc ms g rest (Qc As.toArray) (free) := by
  have hK : Back l R p e below s args y 3 8 (PreOf R mc ms Pc) (PostOf Qc mc ms free) := va_backW (hh := hh) (bytes := bytes) (maxL := maxL) (ret := ret) hM hp.1 hrc hrs hfr hlo hws hcw (fun a' U hW => word_at hW (Or.inl (by first | rfl | simp [Cond.onTables, Cond.keeps, Cond.steady])) hini)
  obtain ⟨hx, hb, hml, ho, -⟩ := S
  intro T hT X
  subst hb
  obtain ⟨mk, methM, cM, hnamed, hmethM, -, -, -, -, -, -, hsigM⟩ := Cond.codeWith_spec hcode
  have hstatic : methM.isStatic = true := Cond.static_spec hnamed hmethM hstat
  obtain ⟨kP, hkP, -⟩ := className_of_methodNamed hnamed
  have hinitP : kP.init = .initialized := Cond.initialized_spec (findClass_of_methodNamed hnamed) hkP hini
  have hlen2 : As.length = methM.sig.parameters.length := by
    rw [hsigM] at hlen
    exact hn.trans (Option.some.inj hlen).symm
  obtain ⟨vm₁, X₁, hstep₁⟩ := X.invokestatic hx ho hlink hnamed hmethM hstatic hkP hinitP hy (g := g) hg (argsL := As) (rest := rest) hlen2 hstack hdg
  obtain ⟨v, ⟨U', l2, c2, s2⟩, X', ⟨g', mk', t, L, e1, e2, hq, h1, hL, h2, h3⟩, hsteps⟩ := hK m meth c ⟨T.setVm vm₁, locs, cells, slots⟩ { g with stack := rest } (.invokestatic index) mk As.toArray X₁ hg (hsize.trans hml.symm) hdg hW (X₁.named hnamed) ⟨hf.1, hf.2, hp.2 (T.setVm vm₁) hT X₁.warmed⟩
  dsimp only [Pt.U, Pt.locs, Pt.cells, Pt.slots] at X' e1 e2 h1 h2 h3 hsteps
  subst h1; subst h2; subst h3
  exact ⟨v, (T.setVm vm₁).calling g' mk' As.toArray, t, U', L, hT, X', hL, e1, e2, hq, fun target h => hstep₁ _ fun acts => by rw [doInvoke_state]; exact hsteps.trans h⟩
end TXE
end
section
/-! what a throw needs beside the tables' words: statics of Throwable, castables, String constants: carried from the law's start -/
def tx_st : List Cond := [.laysStatic Bundle.tN "UNASSIGNED_STACK" Bundle.steD, .laysStatic Bundle.tN "SUPPRESSED_SENTINEL" Bundle.listD, .isRef (.static Bundle.tN "UNASSIGNED_STACK" Bundle.steD), .isRef (.static Bundle.tN "SUPPRESSED_SENTINEL" Bundle.listD)]
def tx_on : List Cond := [.castable xIAE xIAE, .castable xIOB xIOB, .declares (Bundle.initS "java/lang/RuntimeException"), .declares (Bundle.initS "java/lang/Exception"), .declares (Bundle.initS Bundle.tN)]
theorem tx_rest : ∀ w ∈ xat.filter (fun w => !goodWord w), w ∈ tx_st ++ tx_on := by decide +kernel
theorem tx_laysStatic {u U : State} {C n d : String} {a a' : Array Value} (hv : U.vm = u.vm) (hk : ∀ z : Nat, z < u.heap.size → U.heap[z]? = u.heap[z]?) (h : (Cond.laysStatic C n d).before a u = true) : (Cond.laysStatic C n d).before a' U = true := by
  obtain ⟨c, k, i, f, q, cell, hc, hi, hst, ha, hcell, hs, hcls, hlt, hty⟩ := Cond.laysStatic_spec h
  have hi' : U.fieldFound? C n d = some (c, k, i, f) := by
    have h1 := hi
    unfold State.fieldFound? at h1 ⊢
    rw [hv]; exact h1
  have hc' : U.vm.findClass C = some c := by rw [hv]; exact hc
  have hcell' : U.heap[q]? = some cell := by rw [hk q (Array.getElem?_eq_some_iff.mp hcell).1]; exact hcell
  simp [Cond.before, Cond.holds, Cond.value, hc', hi', ha, hcell', hst, hs, hcls, hlt, hty]
theorem tx_isRef {u U : State} {C n d : String} {a a' : Array Value} (hv : U.vm = u.vm) (hk : ∀ z : Nat, z < u.heap.size → U.heap[z]? = u.heap[z]?) (h0 : (Cond.laysStatic C n d).before a u = true) (h : (Cond.isRef (.static C n d)).before a u = true) : (Cond.isRef (.static C n d)).before a' U = true := by
  obtain ⟨c, k, i, f, q, cell, hc, hi, hst, ha, hcell, hs, hcls, hlt, hty⟩ := Cond.laysStatic_spec h0
  have hi' : U.fieldFound? C n d = some (c, k, i, f) := by
    have h1 := hi
    unfold State.fieldFound? at h1 ⊢
    rw [hv]; exact h1
  have hcell' : U.heap[q]? = some cell := by rw [hk q (Array.getElem?_eq_some_iff.mp hcell).1]; exact hcell
  have e1 : (Term.static C n d).eval a u none [] u = cell.slots[f.slot]? := by simp [Term.eval, State.fieldNamed?, hi, hst, ha, hcell, hs]
  have e2 : (Term.static C n d).eval a' U none [] U = cell.slots[f.slot]? := by simp [Term.eval, State.fieldNamed?, hi', hst, ha, hcell', hs]
  simp only [Cond.before, Cond.holds, Cond.value] at h ⊢
  rw [e2, ← e1]; exact h
def tx_C (U : State) : Prop := (∀ w ∈ tx_st, w.before #[] U = true) ∧ (∀ w ∈ tx_on, va_Nw w U) ∧ (∃ q, vk_R R_LF 67 "not 1 to 8 characters" q U) ∧ (∃ q, vk_R R_LF 92 "no such side or level" q U) ∧ (∃ q, vk_R R_LF 163 "no such token" q U) ∧ ∃ q, vk_R R_LF 174 "no such count" q U
theorem tx_st_same {u U : State} (hv : U.vm = u.vm) (hk : ∀ z : Nat, z < u.heap.size → U.heap[z]? = u.heap[z]?) (h : ∀ w ∈ tx_st, w.before #[] u = true) : ∀ w ∈ tx_st, w.before #[] U = true := by
  have h1 := h _ (List.mem_of_getElem? (i := 0) rfl)
  have h2 := h _ (List.mem_of_getElem? (i := 1) rfl)
  have h3 := h _ (List.mem_of_getElem? (i := 2) rfl)
  have h4 := h _ (List.mem_of_getElem? (i := 3) rfl)
  intro w hw
  simp only [tx_st, List.mem_cons, List.not_mem_nil, or_false] at hw
  rcases hw with rfl | rfl | rfl | rfl
  · exact tx_laysStatic hv hk h1
  · exact tx_laysStatic hv hk h2
  · exact tx_isRef hv hk h1 h3
  · exact tx_isRef hv hk h2 h4
theorem tx_C.same {u U : State} (hv : U.vm = u.vm) (hh : U.heap = u.heap) (h : tx_C u) : tx_C U := by
  obtain ⟨h1, h2, ⟨q1, h3⟩, ⟨q2, h4⟩, ⟨q3, h5⟩, ⟨q4, h6⟩⟩ := h
  refine ⟨tx_st_same hv (fun z _ => by rw [hh]) h1, fun w hw => ?_, ⟨q1, h3.same hv⟩, ⟨q2, h4.same hv⟩, ⟨q3, h5.same hv⟩, ⟨q4, h6.same hv⟩⟩
  have h7 := h2 w hw
  simp only [tx_on, List.mem_cons, List.not_mem_nil, or_false] at hw
  rcases hw with rfl | rfl | rfl | rfl | rfl <;> exact va_Nw.same rfl hv.symm h7
theorem tx_C.warm {s U : State} (hW : s.WarmedH U.vm) (hk : ∀ z : Nat, z < s.heap.size → U.heap[z]? = s.heap[z]?) (h : tx_C s) : tx_C U := by
  obtain ⟨h1, h2, ⟨q1, h3⟩, ⟨q2, h4⟩, ⟨q3, h5⟩, ⟨q4, h6⟩⟩ := h
  have h0 : ∀ w ∈ tx_st, w.before #[] (s.setVm U.vm) = true := fun w hw => by
    have h7 := h1 w hw
    simp only [tx_st, List.mem_cons, List.not_mem_nil, or_false] at hw
    rcases hw with rfl | rfl | rfl | rfl <;> exact Cond.holds_shifted (args := #[]) (o := none) (State.Shifted.of_warmed hW) _ [] rfl h7
  refine ⟨tx_st_same (u := s.setVm U.vm) rfl hk h0, fun w hw => ?_, ⟨q1, h3.warm hW⟩, ⟨q2, h4.warm hW⟩, ⟨q3, h5.warm hW⟩, ⟨q4, h6.warm hW⟩⟩
  have h7 := h2 w hw
  simp only [tx_on, List.mem_cons, List.not_mem_nil, or_false] at hw
  rcases hw with rfl | rfl | rfl | rfl | rfl
  · exact va_Nw.warmC hW h7
  · exact va_Nw.warmC hW h7
  · exact va_Nw.warmD hW h7
  · exact va_Nw.warmD hW h7
  · exact va_Nw.warmD hW h7
theorem tx_hat {args : Array Value} {s : State} (hz : ∀ w ∈ wz, w.before args s = true) (h : tx_C s) : ∀ w ∈ xat, w.before args s = true := by
  intro w hw
  by_cases hg : goodWord w = true
  · exact hz w (zx hw hg)
  · have h1 : w ∈ tx_st ++ tx_on := tx_rest w (List.mem_filter.mpr ⟨hw, by simpa using hg⟩)
    rcases List.mem_append.mp h1 with h2 | h2
    · have h3 := h.1 w h2
      have h4 := tx_st_same (u := s) (U := s) rfl (fun _ _ => rfl) h.1 w h2
      simp only [tx_st, List.mem_cons, List.not_mem_nil, or_false] at h2
      have i1 := h.1 _ (List.mem_of_getElem? (i := 0) rfl)
      have i2 := h.1 _ (List.mem_of_getElem? (i := 1) rfl)
      rcases h2 with rfl | rfl | rfl | rfl
      · exact tx_laysStatic (u := s) rfl (fun _ _ => rfl) h3
      · exact tx_laysStatic (u := s) rfl (fun _ _ => rfl) h3
      · exact tx_isRef (u := s) rfl (fun _ _ => rfl) i1 h3
      · exact tx_isRef (u := s) rfl (fun _ _ => rfl) i2 h3
    · have h3 := h.2.1 w h2
      simp only [tx_on, List.mem_cons, List.not_mem_nil, or_false] at h2
      rcases h2 with rfl | rfl | rfl | rfl | rfl <;> exact va_Nw.use rfl h3
theorem tx_hIAE {args : Array Value} {s : State} (hz : ∀ w ∈ wz, w.before args s = true) (h : tx_C s) : ∀ w ∈ Bundle.ownAtoms R_LF 69 xIAE xup, w.before args s = true := fun w hw => tx_hat hz h w (List.mem_append_left _ hw)
theorem tx_hIOB {args : Array Value} {s : State} (hz : ∀ w ∈ wz, w.before args s = true) (h : tx_C s) : ∀ w ∈ Bundle.ownAtoms R_LF 165 xIOB xup, w.before args s = true := fun w hw => tx_hat hz h w (List.mem_append_right _ hw)
theorem zH {args : Array Value} {s : State} {y : MethodName} {b : ByteArray} {n : Nat} {r : Option FieldType} {hh : List (Nat × Nat × Nat × Nat)} (hz : ∀ w ∈ wz, w.before args s = true) (h : Cond.codeWith y b n r hh ∈ wz) : ∀ w ∈ Cond.codeWith y b n r hh :: wz, ∀ (a' : Array Value) (U : State), s.WarmedH U.vm → w.before a' U = true :=
  fun w hw a' U hW => (List.mem_cons.mp hw).elim (fun e => by rw [e]; exact word_at hW (zgood _ h).2 (hz _ h)) (fun h2 => word_at hW (zgood w h2).2 (hz w h2))
end
section
set_option maxHeartbeats 4000000 in
set_option maxRecDepth 100000 in
theorem c_has0 (l : Launch) (dC : Nat → ClassId) (dI : Nat → Nat → Nat) (a0 a1 a2 : Nat) (ix : Int32) : Met l y_Tokens_has w_Tokens_has ({ frames := 0, cells := 0, slots := 0, locals := 0 }) (va_Pc [.ref a0, .int ix] (fun U => va_P (dC, dI) vcl [(a0, .inr (11, [.ref a1, .ref a2, .int 0]))] U.heap ∧ va_K (dC, dI) vcl [] U)) (va_Qi (fun (r : Int32) (_ : Unit) => r = 0) (fun _ _ => True) (fun _ => False)) 0 0 (fun _ => False) := by
  refine Met.ofW (cc := b_Tokens_has) (maxL := 2) (ret := (some .boolean)) (by decide) rfl ?_
  intro p e s m args below meth c s₁ B hml hv
  obtain ⟨rfl, hP, hK⟩ := hv
  have hx := B.exec
  have hb := B.bytes
  have hr := B.returns
  have hts := atoms_spec (ws := w_Tokens_has) B.pre
  have hz : ∀ w ∈ wz, w.before _ s = true := fun w h => hts w (List.mem_cons_of_mem _ h)
  have hown : s.vm.findClass R_Tokens = some m.cls := findClass_of_methodNamed B.named
  have hlocks := B.notSynchronized
  have hl := lv_entry ([.ref a0, .int ix]) (n := 2) (Nat.le_of_ble_eq_true rfl)
  rw [lg_entry_eq]
  generalize (lg_sl ([.ref a0, .int ix]) ++ List.replicate (2 - (lg_sl ([.ref a0, .int ix])).length) Slot.unset).toArray = ls at hl ⊢
  have hl : lv_has ls 2 [(0, .ref a0), (1, .int ix)] := hl
  refine lv_iload_n hx hb d_Tokens_has_0 rfl (lv_at hl 1 rfl) ?_
  refine lv_if_lt (tgt := 16) hx hb d_Tokens_has_1 (by decide) (fun gi => ?_) (fun gi => ?_)
  · refine lv_iconst (v := 0) hx hb d_Tokens_has_16 (by decide) ?_
    exact W.zret (v := 0) hx hb hr (by decide +kernel) (fun t ht hW => ⟨⟨0, (), rfl, rfl, trivial⟩, ⟨by rw [ht]; exact Nat.le_refl _, fun q _ _ => by rw [ht]⟩⟩) (fun _ h => nomatch h) d_Tokens_has_17
  · refine lv_iload_n hx hb d_Tokens_has_4 rfl (lv_at hl 1 rfl) ?_
    refine lv_aload_n hx hb d_Tokens_has_5 rfl (lv_at hl 0 rfl) ?_
    refine va_get (D := (dC, dI)) (ci := 11) (v := .int 0) (C := R_Tokens) (T := F_Tokens) (N := 3) hx hb hz zu_Tokens hown hK hP 0 rfl rfl 2 (by decide) (hz (.fieldLink R_Tokens 19 "LayoutFront$Tokens" "size" "I") zm_111) (fun _ h9 => h9) rfl d_Tokens_has_6 ?_
    refine lv_icmp_ge (tgt := 16) hx hb d_Tokens_has_9 (by decide) (fun _ => ?_) (fun h => (h (xr_ge0 gi)).elim)
    refine lv_iconst (v := 0) hx hb d_Tokens_has_16 (by decide) ?_
    exact W.zret (v := 0) hx hb hr (by decide +kernel) (fun t ht hW => ⟨⟨0, (), rfl, rfl, trivial⟩, ⟨by rw [ht]; exact Nat.le_refl _, fun q _ _ => by rw [ht]⟩⟩) (fun _ h => nomatch h) d_Tokens_has_17
set_option maxHeartbeats 4000000 in
set_option maxRecDepth 100000 in
theorem ct_kind (l : Launch) (hnt : l.stackTraces = false) (dC : Nat → ClassId) (dI : Nat → Nat → Nat) (a0 : Nat) (a1 : Nat) (a2 : Nat) (a3 : Nat) (a4 : Nat) (a5 : Nat) (a6 : Nat) (a7 : Nat) (a8 : Nat) (a9 : Nat) (ix : Int32) : tx_Met l y_LF_kind w_LF_kind ({ frames := 7, cells := 1, slots := 6, locals := 120 }) (va_Pc [.ref a0, .int ix] (fun U => va_P (dC, dI) vcl [(a0, .inr (0, [.ref a2, .ref a3, .ref a4, .ref a5, .ref a6, .ref a1, .ref a7, .int (-1)])), (a1, .inr (11, [.ref a8, .ref a9, .int 0]))] U.heap ∧ va_K (dC, dI) vcl [] U ∧ tx_C U)) xIOB 1 6 := by
  refine tx_ofW (cc := b_LF_kind) (maxL := 2) (ret := (some .int)) (by decide) rfl ?_
  intro p e s m args below meth c s₁ B hml hv
  obtain ⟨rfl, hP, hK, hC⟩ := hv
  have hx := B.exec
  have hb := B.bytes
  have hr := B.returns
  have hts := atoms_spec (ws := w_LF_kind) B.pre
  have hz : ∀ w ∈ wz, w.before _ s = true := fun w h => hts w (List.mem_cons_of_mem _ h)
  have hown : s.vm.findClass R_LF = some m.cls := findClass_of_methodNamed B.named
  have hlocks := B.notSynchronized
  have hS : va_S (fun q => s.heap.size ≤ q) s.heap s.heap [] := va_S.rf
  have hl := lv_entry ([.ref a0, .int ix]) (n := 2) (Nat.le_of_ble_eq_true rfl)
  rw [lg_entry_eq]
  generalize (lg_sl ([.ref a0, .int ix]) ++ List.replicate (2 - (lg_sl ([.ref a0, .int ix])).length) Slot.unset).toArray = ls at hl ⊢
  have hl : lv_has ls 2 [(0, .ref a0), (1, .int ix)] := hl
  refine lv_aload_n hx hb d_LF_kind_0 rfl (lv_at hl 0 rfl) ?_
  refine va_get (D := (dC, dI)) (ci := 0) (v := .ref a1) (C := R_LF) (T := F_LF) (N := 8) hx hb hz zu_LF hown hK hP 0 rfl rfl 5 (by decide) (hz (.fieldLink R_LF 49 "LayoutFront" "tokens" "LLayoutFront$Tokens;") zm_108) (fun _ h9 => h9) rfl d_LF_kind_1 ?_
  refine lv_iload_n hx hb d_LF_kind_4 rfl (lv_at hl 1 rfl) ?_
  have hPc := hP.sub (ws' := [(a1, .inr (11, [.ref a8, .ref a9, .int 0]))]) [1] rfl
  refine va_calli (va_runV (As := [.int ix]) (rest := []) ⟨hx, hb, hml, hown, hz⟩ (c_has0 l dC dI a1 a8 a9 ix) (cwV 1 hz (zV zm_486 zm_136 zm_137 zm_17 zm_138) rfl rfl rfl (by decide +kernel) ⟨Nat.le_of_ble_eq_true rfl, Nat.le_of_ble_eq_true rfl⟩) ⟨fun a U g mk q => by obtain ⟨q0, qP, qK⟩ := q; exact ⟨q0, qP, va_K.moved (u := U) (U := U.calling g mk a) (Vm.Alike.refl U.vm) qK⟩, va_recv (q := (R_Tokens, F_Tokens, 3)) (q0 := 1) (ci := 11) hK hP rfl rfl, fun U hU hW => ⟨rfl, by rw [hU]; exact hPc, va_K.moved hW.alike hK⟩⟩ rfl rfl hl.1 rfl (lv_room (Nat.le_of_ble_eq_true rfl)) d_LF_kind_5 ⟨by decide, by decide⟩) hS (fun _ _ h => h.elim) (fun _ h => h.elim) (fun r u t H1 locs ht hvm hw hB hz1 hk1 hS => ?_)
  subst r
  have hP : va_P (dC, dI) vcl [(a0, .inr (0, [.ref a2, .ref a3, .ref a4, .ref a5, .ref a6, .ref a1, .ref a7, .int (-1)])), (a1, .inr (11, [.ref a8, .ref a9, .int 0]))] H1 := hP.kept (fun k q hk => hk1 q.1 ((hP k q hk).lt) (fun h => h))
  refine va_forget (fun q hq => hS.2.2 q hq) ?_
  have hS : va_S (fun q => s.heap.size ≤ q) s.heap H1 [] := ⟨hS.1, hS.2.1, fun _ h => nomatch h⟩
  refine lv_if_ne (tgt := 21) hx hb d_LF_kind_8 (by decide) (fun h => (h (by decide +kernel)).elim) (fun _ => ?_)
  obtain ⟨sa, hsa⟩ := hC.2.2.2.2.1
  exact tx_throw hx hb hnt hlocks (hl.1.trans hml.symm) hS.1 hown (by decide +kernel) (by decide +kernel) (tx_hIOB hz hC) (hz (.classLink R_LF 161 xIOB) zm_487) (hz (.instantiable xIOB 6) zm_488) (hz (.initialized xIOB) zm_489) hsa d_LF_kind_11 d_LF_kind_14 d_LF_kind_15 d_LF_kind_17 d_LF_kind_20 (covers_of_empty (B.noHandlers (hts _ List.mem_cons_self)) _) (by decide) (by decide) (by decide) (by decide)
set_option maxHeartbeats 4000000 in
set_option maxRecDepth 100000 in
theorem ct_token (l : Launch) (hnt : l.stackTraces = false) (dC : Nat → ClassId) (dI : Nat → Nat → Nat) (a0 : Nat) (a1 : Nat) (a2 : Nat) (a3 : Nat) (a4 : Nat) (a5 : Nat) (a6 : Nat) (a7 : Nat) (a8 : Nat) (a9 : Nat) (ix : Int32) : tx_Met l y_LF_token w_LF_token ({ frames := 7, cells := 1, slots := 6, locals := 120 }) (va_Pc [.ref a0, .int ix] (fun U => va_P (dC, dI) vcl [(a0, .inr (0, [.ref a2, .ref a3, .ref a4, .ref a5, .ref a6, .ref a1, .ref a7, .int (-1)])), (a1, .inr (11, [.ref a8, .ref a9, .int 0]))] U.heap ∧ va_K (dC, dI) vcl [] U ∧ tx_C U)) xIOB 1 6 := by
  refine tx_ofW (cc := b_LF_token) (maxL := 2) (ret := (some .long)) (by decide) rfl ?_
  intro p e s m args below meth c s₁ B hml hv
  obtain ⟨rfl, hP, hK, hC⟩ := hv
  have hx := B.exec
  have hb := B.bytes
  have hr := B.returns
  have hts := atoms_spec (ws := w_LF_token) B.pre
  have hz : ∀ w ∈ wz, w.before _ s = true := fun w h => hts w (List.mem_cons_of_mem _ h)
  have hown : s.vm.findClass R_LF = some m.cls := findClass_of_methodNamed B.named
  have hlocks := B.notSynchronized
  have hS : va_S (fun q => s.heap.size ≤ q) s.heap s.heap [] := va_S.rf
  have hl := lv_entry ([.ref a0, .int ix]) (n := 2) (Nat.le_of_ble_eq_true rfl)
  rw [lg_entry_eq]
  generalize (lg_sl ([.ref a0, .int ix]) ++ List.replicate (2 - (lg_sl ([.ref a0, .int ix])).length) Slot.unset).toArray = ls at hl ⊢
  have hl : lv_has ls 2 [(0, .ref a0), (1, .int ix)] := hl
  refine lv_aload_n hx hb d_LF_token_0 rfl (lv_at hl 0 rfl) ?_
  refine va_get (D := (dC, dI)) (ci := 0) (v := .ref a1) (C := R_LF) (T := F_LF) (N := 8) hx hb hz zu_LF hown hK hP 0 rfl rfl 5 (by decide) (hz (.fieldLink R_LF 49 "LayoutFront" "tokens" "LLayoutFront$Tokens;") zm_108) (fun _ h9 => h9) rfl d_LF_token_1 ?_
  refine lv_iload_n hx hb d_LF_token_4 rfl (lv_at hl 1 rfl) ?_
  have hPc := hP.sub (ws' := [(a1, .inr (11, [.ref a8, .ref a9, .int 0]))]) [1] rfl
  refine va_calli (va_runV (As := [.int ix]) (rest := []) ⟨hx, hb, hml, hown, hz⟩ (c_has0 l dC dI a1 a8 a9 ix) (cwV 1 hz (zV zm_486 zm_136 zm_137 zm_17 zm_138) rfl rfl rfl (by decide +kernel) ⟨Nat.le_of_ble_eq_true rfl, Nat.le_of_ble_eq_true rfl⟩) ⟨fun a U g mk q => by obtain ⟨q0, qP, qK⟩ := q; exact ⟨q0, qP, va_K.moved (u := U) (U := U.calling g mk a) (Vm.Alike.refl U.vm) qK⟩, va_recv (q := (R_Tokens, F_Tokens, 3)) (q0 := 1) (ci := 11) hK hP rfl rfl, fun U hU hW => ⟨rfl, by rw [hU]; exact hPc, va_K.moved hW.alike hK⟩⟩ rfl rfl hl.1 rfl (lv_room (Nat.le_of_ble_eq_true rfl)) d_LF_token_5 ⟨by decide, by decide⟩) hS (fun _ _ h => h.elim) (fun _ h => h.elim) (fun r u t H1 locs ht hvm hw hB hz1 hk1 hS => ?_)
  subst r
  have hP : va_P (dC, dI) vcl [(a0, .inr (0, [.ref a2, .ref a3, .ref a4, .ref a5, .ref a6, .ref a1, .ref a7, .int (-1)])), (a1, .inr (11, [.ref a8, .ref a9, .int 0]))] H1 := hP.kept (fun k q hk => hk1 q.1 ((hP k q hk).lt) (fun h => h))
  refine va_forget (fun q hq => hS.2.2 q hq) ?_
  have hS : va_S (fun q => s.heap.size ≤ q) s.heap H1 [] := ⟨hS.1, hS.2.1, fun _ h => nomatch h⟩
  refine lv_if_ne (tgt := 21) hx hb d_LF_token_8 (by decide) (fun h => (h (by decide +kernel)).elim) (fun _ => ?_)
  obtain ⟨sa, hsa⟩ := hC.2.2.2.2.1
  exact tx_throw hx hb hnt hlocks (hl.1.trans hml.symm) hS.1 hown (by decide +kernel) (by decide +kernel) (tx_hIOB hz hC) (hz (.classLink R_LF 161 xIOB) zm_487) (hz (.instantiable xIOB 6) zm_488) (hz (.initialized xIOB) zm_489) hsa d_LF_token_11 d_LF_token_14 d_LF_token_15 d_LF_token_17 d_LF_token_20 (covers_of_empty (B.noHandlers (hts _ List.mem_cons_self)) _) (by decide) (by decide) (by decide) (by decide)
set_option maxHeartbeats 4000000 in
set_option maxRecDepth 100000 in
theorem ct_count_neg (l : Launch) (hnt : l.stackTraces = false) (dC : Nat → ClassId) (dI : Nat → Nat → Nat) (a0 : Nat) (ix : Int32) (gi : ix < 0) : tx_Met l y_LF_count w_LF_count ({ frames := 7, cells := 1, slots := 6, locals := 120 }) (va_Pc [.ref a0, .int ix] (fun U => va_P (dC, dI) vcl [] U.heap ∧ va_K (dC, dI) vcl [] U ∧ tx_C U)) xIOB 1 6 := by
  refine tx_ofW (cc := b_LF_count) (maxL := 2) (ret := (some .int)) (by decide) rfl ?_
  intro p e s m args below meth c s₁ B hml hv
  obtain ⟨rfl, hP, hK, hC⟩ := hv
  have hx := B.exec
  have hb := B.bytes
  have hr := B.returns
  have hts := atoms_spec (ws := w_LF_count) B.pre
  have hz : ∀ w ∈ wz, w.before _ s = true := fun w h => hts w (List.mem_cons_of_mem _ h)
  have hown : s.vm.findClass R_LF = some m.cls := findClass_of_methodNamed B.named
  have hlocks := B.notSynchronized
  have hS : va_S (fun q => s.heap.size ≤ q) s.heap s.heap [] := va_S.rf
  have hl := lv_entry ([.ref a0, .int ix]) (n := 2) (Nat.le_of_ble_eq_true rfl)
  rw [lg_entry_eq]
  generalize (lg_sl ([.ref a0, .int ix]) ++ List.replicate (2 - (lg_sl ([.ref a0, .int ix])).length) Slot.unset).toArray = ls at hl ⊢
  have hl : lv_has ls 2 [(0, .ref a0), (1, .int ix)] := hl
  refine lv_iload_n hx hb d_LF_count_0 rfl (lv_at hl 1 rfl) ?_
  refine lv_if_lt (tgt := 9) hx hb d_LF_count_1 (by decide) (fun _ => ?_) (fun h => (h gi).elim)
  obtain ⟨sa, hsa⟩ := hC.2.2.2.2.2
  exact tx_throw hx hb hnt hlocks (hl.1.trans hml.symm) hS.1 hown (by decide +kernel) (by decide +kernel) (tx_hIOB hz hC) (hz (.classLink R_LF 161 xIOB) zm_487) (hz (.instantiable xIOB 6) zm_488) (hz (.initialized xIOB) zm_489) hsa d_LF_count_9 d_LF_count_12 d_LF_count_13 d_LF_count_15 d_LF_count_18 (covers_of_empty (B.noHandlers (hts _ List.mem_cons_self)) _) (by decide) (by decide) (by decide) (by decide)
set_option maxHeartbeats 4000000 in
set_option maxRecDepth 100000 in
theorem ct_count_big (l : Launch) (hnt : l.stackTraces = false) (dC : Nat → ClassId) (dI : Nat → Nat → Nat) (a0 : Nat) (ix : Int32) (gi : ¬ ix < 0) (g5 : 5 ≤ ix) : tx_Met l y_LF_count w_LF_count ({ frames := 7, cells := 1, slots := 6, locals := 120 }) (va_Pc [.ref a0, .int ix] (fun U => va_P (dC, dI) vcl [] U.heap ∧ va_K (dC, dI) vcl [] U ∧ tx_C U)) xIOB 1 6 := by
  refine tx_ofW (cc := b_LF_count) (maxL := 2) (ret := (some .int)) (by decide) rfl ?_
  intro p e s m args below meth c s₁ B hml hv
  obtain ⟨rfl, hP, hK, hC⟩ := hv
  have hx := B.exec
  have hb := B.bytes
  have hr := B.returns
  have hts := atoms_spec (ws := w_LF_count) B.pre
  have hz : ∀ w ∈ wz, w.before _ s = true := fun w h => hts w (List.mem_cons_of_mem _ h)
  have hown : s.vm.findClass R_LF = some m.cls := findClass_of_methodNamed B.named
  have hlocks := B.notSynchronized
  have hS : va_S (fun q => s.heap.size ≤ q) s.heap s.heap [] := va_S.rf
  have hl := lv_entry ([.ref a0, .int ix]) (n := 2) (Nat.le_of_ble_eq_true rfl)
  rw [lg_entry_eq]
  generalize (lg_sl ([.ref a0, .int ix]) ++ List.replicate (2 - (lg_sl ([.ref a0, .int ix])).length) Slot.unset).toArray = ls at hl ⊢
  have hl : lv_has ls 2 [(0, .ref a0), (1, .int ix)] := hl
  refine lv_iload_n hx hb d_LF_count_0 rfl (lv_at hl 1 rfl) ?_
  refine lv_if_lt (tgt := 9) hx hb d_LF_count_1 (by decide) (fun h => absurd h gi) (fun _ => ?_)
  refine lv_iload_n hx hb d_LF_count_4 rfl (lv_at hl 1 rfl) ?_
  refine lv_iconst (v := 5) hx hb d_LF_count_5 (by decide) ?_
  refine lv_icmp_lt (tgt := 19) hx hb d_LF_count_6 (by decide) (fun h => absurd h (xr_n5 g5)) (fun _ => ?_)
  obtain ⟨sa, hsa⟩ := hC.2.2.2.2.2
  exact tx_throw hx hb hnt hlocks (hl.1.trans hml.symm) hS.1 hown (by decide +kernel) (by decide +kernel) (tx_hIOB hz hC) (hz (.classLink R_LF 161 xIOB) zm_487) (hz (.instantiable xIOB 6) zm_488) (hz (.initialized xIOB) zm_489) hsa d_LF_count_9 d_LF_count_12 d_LF_count_13 d_LF_count_15 d_LF_count_18 (covers_of_empty (B.noHandlers (hts _ List.mem_cons_self)) _) (by decide) (by decide) (by decide) (by decide)
set_option maxHeartbeats 4000000 in
set_option maxRecDepth 100000 in
theorem ct_fixity_fx1 (l : Launch) (hnt : l.stackTraces = false) (dC : Nat → ClassId) (dI : Nat → Nat → Nat) (a0 : Nat) (ev : Int64) (sdx : Int32) (lvx : Int32) (g1 : sdx < 0) : tx_Met l y_LF_fixity w_LF_fixity ({ frames := 7, cells := 1, slots := 6, locals := 120 }) (va_Pc [.ref a0, .long ev, .int sdx, .int lvx] (fun U => va_P (dC, dI) vcl [] U.heap ∧ va_K (dC, dI) vcl [] U ∧ tx_C U)) xIAE 1 6 := by
  refine tx_ofW (cc := b_LF_fixity) (maxL := 5) (ret := (some .int)) (by decide) rfl ?_
  intro p e s m args below meth c s₁ B hml hv
  obtain ⟨rfl, hP, hK, hC⟩ := hv
  have hx := B.exec
  have hb := B.bytes
  have hr := B.returns
  have hts := atoms_spec (ws := w_LF_fixity) B.pre
  have hz : ∀ w ∈ wz, w.before _ s = true := fun w h => hts w (List.mem_cons_of_mem _ h)
  have hown : s.vm.findClass R_LF = some m.cls := findClass_of_methodNamed B.named
  have hlocks := B.notSynchronized
  have hS : va_S (fun q => s.heap.size ≤ q) s.heap s.heap [] := va_S.rf
  have hl := lv_entry ([.ref a0, .long ev, .int sdx, .int lvx]) (n := 5) (Nat.le_of_ble_eq_true rfl)
  rw [lg_entry_eq]
  generalize (lg_sl ([.ref a0, .long ev, .int sdx, .int lvx]) ++ List.replicate (5 - (lg_sl ([.ref a0, .long ev, .int sdx, .int lvx])).length) Slot.unset).toArray = ls at hl ⊢
  have hl : lv_has ls 5 [(0, .ref a0), (1, .long ev), (3, .int sdx), (4, .int lvx)] := hl
  refine lv_iload_n hx hb d_LF_fixity_0 rfl (lv_at hl 2 rfl) ?_
  refine lv_if_lt (tgt := 21) hx hb d_LF_fixity_1 (by decide) (fun _ => ?_) (fun h => (h g1).elim)
  obtain ⟨sa, hsa⟩ := hC.2.2.2.1
  exact tx_throw hx hb hnt hlocks (hl.1.trans hml.symm) hS.1 hown (by decide +kernel) (by decide +kernel) (tx_hIAE hz hC) (hz (.classLink R_LF 65 xIAE) zm_490) (hz (.instantiable xIAE 6) zm_491) (hz (.initialized xIAE) zm_492) hsa d_LF_fixity_21 d_LF_fixity_24 d_LF_fixity_25 d_LF_fixity_27 d_LF_fixity_30 (covers_of_empty (B.noHandlers (hts _ List.mem_cons_self)) _) (by decide) (by decide) (by decide) (by decide)
set_option maxHeartbeats 4000000 in
set_option maxRecDepth 100000 in
theorem ct_fixity_fx2 (l : Launch) (hnt : l.stackTraces = false) (dC : Nat → ClassId) (dI : Nat → Nat → Nat) (a0 : Nat) (ev : Int64) (sdx : Int32) (lvx : Int32) (g1 : ¬ sdx < 0) (g2 : 2 < sdx) : tx_Met l y_LF_fixity w_LF_fixity ({ frames := 7, cells := 1, slots := 6, locals := 120 }) (va_Pc [.ref a0, .long ev, .int sdx, .int lvx] (fun U => va_P (dC, dI) vcl [] U.heap ∧ va_K (dC, dI) vcl [] U ∧ tx_C U)) xIAE 1 6 := by
  refine tx_ofW (cc := b_LF_fixity) (maxL := 5) (ret := (some .int)) (by decide) rfl ?_
  intro p e s m args below meth c s₁ B hml hv
  obtain ⟨rfl, hP, hK, hC⟩ := hv
  have hx := B.exec
  have hb := B.bytes
  have hr := B.returns
  have hts := atoms_spec (ws := w_LF_fixity) B.pre
  have hz : ∀ w ∈ wz, w.before _ s = true := fun w h => hts w (List.mem_cons_of_mem _ h)
  have hown : s.vm.findClass R_LF = some m.cls := findClass_of_methodNamed B.named
  have hlocks := B.notSynchronized
  have hS : va_S (fun q => s.heap.size ≤ q) s.heap s.heap [] := va_S.rf
  have hl := lv_entry ([.ref a0, .long ev, .int sdx, .int lvx]) (n := 5) (Nat.le_of_ble_eq_true rfl)
  rw [lg_entry_eq]
  generalize (lg_sl ([.ref a0, .long ev, .int sdx, .int lvx]) ++ List.replicate (5 - (lg_sl ([.ref a0, .long ev, .int sdx, .int lvx])).length) Slot.unset).toArray = ls at hl ⊢
  have hl : lv_has ls 5 [(0, .ref a0), (1, .long ev), (3, .int sdx), (4, .int lvx)] := hl
  refine lv_iload_n hx hb d_LF_fixity_0 rfl (lv_at hl 2 rfl) ?_
  refine lv_if_lt (tgt := 21) hx hb d_LF_fixity_1 (by decide) (fun h => absurd h g1) (fun _ => ?_)
  refine lv_iload_n hx hb d_LF_fixity_4 rfl (lv_at hl 2 rfl) ?_
  refine lv_iconst (v := 2) hx hb d_LF_fixity_5 (by decide) ?_
  refine lv_icmp_gt (tgt := 21) hx hb d_LF_fixity_6 (by decide) (fun _ => ?_) (fun h => (h g2).elim)
  obtain ⟨sa, hsa⟩ := hC.2.2.2.1
  exact tx_throw hx hb hnt hlocks (hl.1.trans hml.symm) hS.1 hown (by decide +kernel) (by decide +kernel) (tx_hIAE hz hC) (hz (.classLink R_LF 65 xIAE) zm_490) (hz (.instantiable xIAE 6) zm_491) (hz (.initialized xIAE) zm_492) hsa d_LF_fixity_21 d_LF_fixity_24 d_LF_fixity_25 d_LF_fixity_27 d_LF_fixity_30 (covers_of_empty (B.noHandlers (hts _ List.mem_cons_self)) _) (by decide) (by decide) (by decide) (by decide)
set_option maxHeartbeats 4000000 in
set_option maxRecDepth 100000 in
theorem ct_fixity_fx3 (l : Launch) (hnt : l.stackTraces = false) (dC : Nat → ClassId) (dI : Nat → Nat → Nat) (a0 : Nat) (ev : Int64) (sdx : Int32) (lvx : Int32) (g1 : ¬ sdx < 0) (g2 : ¬ 2 < sdx) (g3 : lvx < 0) : tx_Met l y_LF_fixity w_LF_fixity ({ frames := 7, cells := 1, slots := 6, locals := 120 }) (va_Pc [.ref a0, .long ev, .int sdx, .int lvx] (fun U => va_P (dC, dI) vcl [] U.heap ∧ va_K (dC, dI) vcl [] U ∧ tx_C U)) xIAE 1 6 := by
  refine tx_ofW (cc := b_LF_fixity) (maxL := 5) (ret := (some .int)) (by decide) rfl ?_
  intro p e s m args below meth c s₁ B hml hv
  obtain ⟨rfl, hP, hK, hC⟩ := hv
  have hx := B.exec
  have hb := B.bytes
  have hr := B.returns
  have hts := atoms_spec (ws := w_LF_fixity) B.pre
  have hz : ∀ w ∈ wz, w.before _ s = true := fun w h => hts w (List.mem_cons_of_mem _ h)
  have hown : s.vm.findClass R_LF = some m.cls := findClass_of_methodNamed B.named
  have hlocks := B.notSynchronized
  have hS : va_S (fun q => s.heap.size ≤ q) s.heap s.heap [] := va_S.rf
  have hl := lv_entry ([.ref a0, .long ev, .int sdx, .int lvx]) (n := 5) (Nat.le_of_ble_eq_true rfl)
  rw [lg_entry_eq]
  generalize (lg_sl ([.ref a0, .long ev, .int sdx, .int lvx]) ++ List.replicate (5 - (lg_sl ([.ref a0, .long ev, .int sdx, .int lvx])).length) Slot.unset).toArray = ls at hl ⊢
  have hl : lv_has ls 5 [(0, .ref a0), (1, .long ev), (3, .int sdx), (4, .int lvx)] := hl
  refine lv_iload_n hx hb d_LF_fixity_0 rfl (lv_at hl 2 rfl) ?_
  refine lv_if_lt (tgt := 21) hx hb d_LF_fixity_1 (by decide) (fun h => absurd h g1) (fun _ => ?_)
  refine lv_iload_n hx hb d_LF_fixity_4 rfl (lv_at hl 2 rfl) ?_
  refine lv_iconst (v := 2) hx hb d_LF_fixity_5 (by decide) ?_
  refine lv_icmp_gt (tgt := 21) hx hb d_LF_fixity_6 (by decide) (fun h => absurd h g2) (fun _ => ?_)
  refine lv_iload hx hb d_LF_fixity_9 (lv_at hl 3 rfl) ?_
  refine lv_if_lt (tgt := 21) hx hb d_LF_fixity_11 (by decide) (fun _ => ?_) (fun h => (h g3).elim)
  obtain ⟨sa, hsa⟩ := hC.2.2.2.1
  exact tx_throw hx hb hnt hlocks (hl.1.trans hml.symm) hS.1 hown (by decide +kernel) (by decide +kernel) (tx_hIAE hz hC) (hz (.classLink R_LF 65 xIAE) zm_490) (hz (.instantiable xIAE 6) zm_491) (hz (.initialized xIAE) zm_492) hsa d_LF_fixity_21 d_LF_fixity_24 d_LF_fixity_25 d_LF_fixity_27 d_LF_fixity_30 (covers_of_empty (B.noHandlers (hts _ List.mem_cons_self)) _) (by decide) (by decide) (by decide) (by decide)
set_option maxHeartbeats 4000000 in
set_option maxRecDepth 100000 in
theorem ct_fixity_fx4 (l : Launch) (hnt : l.stackTraces = false) (dC : Nat → ClassId) (dI : Nat → Nat → Nat) (a0 : Nat) (ev : Int64) (sdx : Int32) (lvx : Int32) (g1 : ¬ sdx < 0) (g2 : ¬ 2 < sdx) (g3 : ¬ lvx < 0) (g4 : 9 < lvx) : tx_Met l y_LF_fixity w_LF_fixity ({ frames := 7, cells := 1, slots := 6, locals := 120 }) (va_Pc [.ref a0, .long ev, .int sdx, .int lvx] (fun U => va_P (dC, dI) vcl [] U.heap ∧ va_K (dC, dI) vcl [] U ∧ tx_C U)) xIAE 1 6 := by
  refine tx_ofW (cc := b_LF_fixity) (maxL := 5) (ret := (some .int)) (by decide) rfl ?_
  intro p e s m args below meth c s₁ B hml hv
  obtain ⟨rfl, hP, hK, hC⟩ := hv
  have hx := B.exec
  have hb := B.bytes
  have hr := B.returns
  have hts := atoms_spec (ws := w_LF_fixity) B.pre
  have hz : ∀ w ∈ wz, w.before _ s = true := fun w h => hts w (List.mem_cons_of_mem _ h)
  have hown : s.vm.findClass R_LF = some m.cls := findClass_of_methodNamed B.named
  have hlocks := B.notSynchronized
  have hS : va_S (fun q => s.heap.size ≤ q) s.heap s.heap [] := va_S.rf
  have hl := lv_entry ([.ref a0, .long ev, .int sdx, .int lvx]) (n := 5) (Nat.le_of_ble_eq_true rfl)
  rw [lg_entry_eq]
  generalize (lg_sl ([.ref a0, .long ev, .int sdx, .int lvx]) ++ List.replicate (5 - (lg_sl ([.ref a0, .long ev, .int sdx, .int lvx])).length) Slot.unset).toArray = ls at hl ⊢
  have hl : lv_has ls 5 [(0, .ref a0), (1, .long ev), (3, .int sdx), (4, .int lvx)] := hl
  refine lv_iload_n hx hb d_LF_fixity_0 rfl (lv_at hl 2 rfl) ?_
  refine lv_if_lt (tgt := 21) hx hb d_LF_fixity_1 (by decide) (fun h => absurd h g1) (fun _ => ?_)
  refine lv_iload_n hx hb d_LF_fixity_4 rfl (lv_at hl 2 rfl) ?_
  refine lv_iconst (v := 2) hx hb d_LF_fixity_5 (by decide) ?_
  refine lv_icmp_gt (tgt := 21) hx hb d_LF_fixity_6 (by decide) (fun h => absurd h g2) (fun _ => ?_)
  refine lv_iload hx hb d_LF_fixity_9 (lv_at hl 3 rfl) ?_
  refine lv_if_lt (tgt := 21) hx hb d_LF_fixity_11 (by decide) (fun h => absurd h g3) (fun _ => ?_)
  refine lv_iload hx hb d_LF_fixity_14 (lv_at hl 3 rfl) ?_
  refine lv_bipush (v := 9) hx hb d_LF_fixity_16 (by decide) ?_
  refine lv_icmp_le (tgt := 31) hx hb d_LF_fixity_18 (by decide) (fun h => absurd h (xr_nle9 g4)) (fun _ => ?_)
  obtain ⟨sa, hsa⟩ := hC.2.2.2.1
  exact tx_throw hx hb hnt hlocks (hl.1.trans hml.symm) hS.1 hown (by decide +kernel) (by decide +kernel) (tx_hIAE hz hC) (hz (.classLink R_LF 65 xIAE) zm_490) (hz (.instantiable xIAE 6) zm_491) (hz (.initialized xIAE) zm_492) hsa d_LF_fixity_21 d_LF_fixity_24 d_LF_fixity_25 d_LF_fixity_27 d_LF_fixity_30 (covers_of_empty (B.noHandlers (hts _ List.mem_cons_self)) _) (by decide) (by decide) (by decide) (by decide)
set_option maxHeartbeats 4000000 in
set_option maxRecDepth 100000 in
theorem cw_kind (l : Launch) (hnt : l.stackTraces = false) (dC : Nat → ClassId) (dI : Nat → Nat → Nat) (a0 : Nat) (a1 : Nat) (a2 : Nat) (a3 : Nat) (a4 : Nat) (a5 : Nat) (a6 : Nat) (a7 : Nat) (a8 : Nat) (a9 : Nat) (ao : Nat) (ix : Int32) : Met l y_Law_kind w_Law_kind ({ frames := 8, cells := 1, slots := 6, locals := 141 }) (va_Pc [.ref a0, .int ix, .ref ao] (fun U => va_P (dC, dI) vcl [(a0, .inr (0, [.ref a2, .ref a3, .ref a4, .ref a5, .ref a6, .ref a1, .ref a7, .int (-1)])), (a1, .inr (11, [.ref a8, .ref a9, .int 0]))] U.heap ∧ va_K (dC, dI) vcl [] U ∧ tx_C U)) (va_Qi (fun (r : Int32) (_ : Unit) => r = 1) (fun _ _ => True) (fun _ => False)) 1 6 (fun _ => False) := by
  refine va_MetW (hh := [(0, 9, 12, 29)]) (cc := b_Law_kind) (maxL := 4) (ret := (some .int)) (by decide) rfl ?_
  intro p e s m args below meth c s₁ B hml hv
  obtain ⟨rfl, hP, hK, hC⟩ := hv
  have hx := B.exec
  have hb := B.bytes
  have hr := B.returns
  have hts := atoms_spec (ws := w_Law_kind) B.pre
  have hz : ∀ w ∈ wz, w.before _ s = true := fun w h => hts w (List.mem_cons_of_mem _ h)
  have hown : s.vm.findClass R_Law = some m.cls := findClass_of_methodNamed B.named
  have hlocks := B.notSynchronized
  have hS : va_S (fun q => s.heap.size ≤ q) s.heap s.heap [] := va_S.rf
  have hl := lv_entry ([.ref a0, .int ix, .ref ao]) (n := 4) (Nat.le_of_ble_eq_true rfl)
  rw [lg_entry_eq]
  generalize (lg_sl ([.ref a0, .int ix, .ref ao]) ++ List.replicate (4 - (lg_sl ([.ref a0, .int ix, .ref ao])).length) Slot.unset).toArray = ls at hl ⊢
  have hl : lv_has ls 4 [(0, .ref a0), (1, .int ix), (2, .ref ao)] := hl
  have hhand := tx_hand B (hts _ List.mem_cons_self)
  obtain ⟨x, suf, hsplit, hxe, -⟩ := List.map_eq_cons_iff.mp hhand
  simp only [Prod.mk.injEq] at hxe
  obtain ⟨e1, e2, e3, e4⟩ := hxe
  refine lv_aload_n hx hb d_Law_kind_0 rfl (lv_at hl 2 rfl) ?_
  refine lv_iconst (v := 0) hx hb d_Law_kind_1 (by decide) ?_
  refine lv_aload_n hx hb d_Law_kind_2 rfl (lv_at hl 0 rfl) ?_
  refine lv_iload_n hx hb d_Law_kind_3 rfl (lv_at hl 1 rfl) ?_
  have hPc := hP.sub (ws' := [(a0, .inr (0, [.ref a2, .ref a3, .ref a4, .ref a5, .ref a6, .ref a1, .ref a7, .int (-1)])), (a1, .inr (11, [.ref a8, .ref a9, .int 0]))]) [0, 1] rfl
  refine tx_callV (x := x) (nm := xIOB) (As := [.int ix]) (rest := [.int 0, .ref ao]) ⟨hx, hb, hml, hown, hz⟩ (ct_kind l hnt dC dI a0 a1 a2 a3 a4 a5 a6 a7 a8 a9 ix) (cwV 1 hz (zV zm_493 zm_494 zm_495 zm_333 zm_496) rfl rfl rfl (by decide +kernel) ⟨Nat.le_of_ble_eq_true rfl, Nat.le_of_ble_eq_true rfl⟩) ⟨fun a U g mk q => by obtain ⟨q0, qP, qK, qC⟩ := q; exact ⟨q0, qP, va_K.moved (u := U) (U := U.calling g mk a) (Vm.Alike.refl U.vm) qK, tx_C.same (u := U) (U := U.calling g mk a) rfl rfl qC⟩, va_recv (q := (R_LF, F_LF, 8)) (q0 := 0) (ci := 0) hK hP rfl rfl, fun U hU hW => ⟨rfl, by rw [hU]; exact hPc, va_K.moved hW.alike hK, hC.warm hW (fun z _ => by rw [hU])⟩⟩ rfl hl.1 (lv_room (Nat.le_of_ble_eq_true rfl)) d_Law_kind_4 ⟨by decide, by decide⟩ hsplit (by simp [covers, e1, e2]) (by rw [e4]; decide) (by rw [e4]; exact (hz (.classLink R_Law 29 xIOB) zm_497)) (va_Nw.use rfl (hC.2.1 (.castable xIOB xIOB) (by decide +kernel))) (fun q H1 hz1 hk1 => ?_)
  rw [e3]
  refine lv_astore_n hx hb d_Law_kind_12 rfl hl (by decide) rfl (fun ls hl => ?_)
  refine lv_iconst (v := 1) hx hb d_Law_kind_13 (by decide) ?_
  exact W.iret (v := 1) hx hb hr (fun t ht hW => ⟨⟨1, (), rfl, rfl, trivial⟩, ⟨by rw [ht]; exact hz1, fun q h1 _ => by rw [ht]; exact hk1 q h1⟩⟩) (fun _ h => nomatch h) d_Law_kind_14
set_option maxHeartbeats 4000000 in
set_option maxRecDepth 100000 in
theorem cw_token (l : Launch) (hnt : l.stackTraces = false) (dC : Nat → ClassId) (dI : Nat → Nat → Nat) (a0 : Nat) (a1 : Nat) (a2 : Nat) (a3 : Nat) (a4 : Nat) (a5 : Nat) (a6 : Nat) (a7 : Nat) (a8 : Nat) (a9 : Nat) (ao : Nat) (ix : Int32) : Met l y_Law_token w_Law_token ({ frames := 8, cells := 1, slots := 6, locals := 141 }) (va_Pc [.ref a0, .int ix, .ref ao] (fun U => va_P (dC, dI) vcl [(a0, .inr (0, [.ref a2, .ref a3, .ref a4, .ref a5, .ref a6, .ref a1, .ref a7, .int (-1)])), (a1, .inr (11, [.ref a8, .ref a9, .int 0]))] U.heap ∧ va_K (dC, dI) vcl [] U ∧ tx_C U)) (va_Qi (fun (r : Int32) (_ : Unit) => r = 1) (fun _ _ => True) (fun _ => False)) 1 6 (fun _ => False) := by
  refine va_MetW (hh := [(0, 8, 11, 29)]) (cc := b_Law_token) (maxL := 4) (ret := (some .int)) (by decide) rfl ?_
  intro p e s m args below meth c s₁ B hml hv
  obtain ⟨rfl, hP, hK, hC⟩ := hv
  have hx := B.exec
  have hb := B.bytes
  have hr := B.returns
  have hts := atoms_spec (ws := w_Law_token) B.pre
  have hz : ∀ w ∈ wz, w.before _ s = true := fun w h => hts w (List.mem_cons_of_mem _ h)
  have hown : s.vm.findClass R_Law = some m.cls := findClass_of_methodNamed B.named
  have hlocks := B.notSynchronized
  have hS : va_S (fun q => s.heap.size ≤ q) s.heap s.heap [] := va_S.rf
  have hl := lv_entry ([.ref a0, .int ix, .ref ao]) (n := 4) (Nat.le_of_ble_eq_true rfl)
  rw [lg_entry_eq]
  generalize (lg_sl ([.ref a0, .int ix, .ref ao]) ++ List.replicate (4 - (lg_sl ([.ref a0, .int ix, .ref ao])).length) Slot.unset).toArray = ls at hl ⊢
  have hl : lv_has ls 4 [(0, .ref a0), (1, .int ix), (2, .ref ao)] := hl
  have hhand := tx_hand B (hts _ List.mem_cons_self)
  obtain ⟨x, suf, hsplit, hxe, -⟩ := List.map_eq_cons_iff.mp hhand
  simp only [Prod.mk.injEq] at hxe
  obtain ⟨e1, e2, e3, e4⟩ := hxe
  refine lv_aload_n hx hb d_Law_token_0 rfl (lv_at hl 2 rfl) ?_
  refine lv_iconst (v := 0) hx hb d_Law_token_1 (by decide) ?_
  refine lv_aload_n hx hb d_Law_token_2 rfl (lv_at hl 0 rfl) ?_
  refine lv_iload_n hx hb d_Law_token_3 rfl (lv_at hl 1 rfl) ?_
  have hPc := hP.sub (ws' := [(a0, .inr (0, [.ref a2, .ref a3, .ref a4, .ref a5, .ref a6, .ref a1, .ref a7, .int (-1)])), (a1, .inr (11, [.ref a8, .ref a9, .int 0]))]) [0, 1] rfl
  refine tx_callV (x := x) (nm := xIOB) (As := [.int ix]) (rest := [.int 0, .ref ao]) ⟨hx, hb, hml, hown, hz⟩ (ct_token l hnt dC dI a0 a1 a2 a3 a4 a5 a6 a7 a8 a9 ix) (cwV 1 hz (zV zm_498 zm_499 zm_500 zm_333 zm_501) rfl rfl rfl (by decide +kernel) ⟨Nat.le_of_ble_eq_true rfl, Nat.le_of_ble_eq_true rfl⟩) ⟨fun a U g mk q => by obtain ⟨q0, qP, qK, qC⟩ := q; exact ⟨q0, qP, va_K.moved (u := U) (U := U.calling g mk a) (Vm.Alike.refl U.vm) qK, tx_C.same (u := U) (U := U.calling g mk a) rfl rfl qC⟩, va_recv (q := (R_LF, F_LF, 8)) (q0 := 0) (ci := 0) hK hP rfl rfl, fun U hU hW => ⟨rfl, by rw [hU]; exact hPc, va_K.moved hW.alike hK, hC.warm hW (fun z _ => by rw [hU])⟩⟩ rfl hl.1 (lv_room (Nat.le_of_ble_eq_true rfl)) d_Law_token_4 ⟨by decide, by decide⟩ hsplit (by simp [covers, e1, e2]) (by rw [e4]; decide) (by rw [e4]; exact (hz (.classLink R_Law 29 xIOB) zm_497)) (va_Nw.use rfl (hC.2.1 (.castable xIOB xIOB) (by decide +kernel))) (fun q H1 hz1 hk1 => ?_)
  rw [e3]
  refine lv_astore_n hx hb d_Law_token_11 rfl hl (by decide) rfl (fun ls hl => ?_)
  refine lv_iconst (v := 1) hx hb d_Law_token_12 (by decide) ?_
  exact W.iret (v := 1) hx hb hr (fun t ht hW => ⟨⟨1, (), rfl, rfl, trivial⟩, ⟨by rw [ht]; exact hz1, fun q h1 _ => by rw [ht]; exact hk1 q h1⟩⟩) (fun _ h => nomatch h) d_Law_token_13
set_option maxHeartbeats 4000000 in
set_option maxRecDepth 100000 in
theorem cw_count_neg (l : Launch) (hnt : l.stackTraces = false) (dC : Nat → ClassId) (dI : Nat → Nat → Nat) (a0 : Nat) (a1 : Nat) (a3 : Nat) (a7 : Nat) (a15 : Nat) (a21 : Nat) (a38 : Nat) (a41 : Nat) (ao : Nat) (ix : Int32) (gi : ix < 0) : Met l y_Law_count w_Law_count ({ frames := 8, cells := 1, slots := 6, locals := 141 }) (va_Pc [.ref a0, .int ix, .ref ao] (fun U => va_P (dC, dI) vcl [(a0, .inr (0, [.ref a1, .ref a3, .ref a7, .ref a15, .ref a21, .ref a38, .ref a41, .int (-1)]))] U.heap ∧ va_K (dC, dI) vcl [] U ∧ tx_C U)) (va_Qi (fun (r : Int32) (_ : Unit) => r = 1) (fun _ _ => True) (fun _ => False)) 1 6 (fun _ => False) := by
  refine va_MetW (hh := [(0, 9, 12, 29)]) (cc := b_Law_count) (maxL := 4) (ret := (some .int)) (by decide) rfl ?_
  intro p e s m args below meth c s₁ B hml hv
  obtain ⟨rfl, hP, hK, hC⟩ := hv
  have hx := B.exec
  have hb := B.bytes
  have hr := B.returns
  have hts := atoms_spec (ws := w_Law_count) B.pre
  have hz : ∀ w ∈ wz, w.before _ s = true := fun w h => hts w (List.mem_cons_of_mem _ h)
  have hown : s.vm.findClass R_Law = some m.cls := findClass_of_methodNamed B.named
  have hlocks := B.notSynchronized
  have hS : va_S (fun q => s.heap.size ≤ q) s.heap s.heap [] := va_S.rf
  have hl := lv_entry ([.ref a0, .int ix, .ref ao]) (n := 4) (Nat.le_of_ble_eq_true rfl)
  rw [lg_entry_eq]
  generalize (lg_sl ([.ref a0, .int ix, .ref ao]) ++ List.replicate (4 - (lg_sl ([.ref a0, .int ix, .ref ao])).length) Slot.unset).toArray = ls at hl ⊢
  have hl : lv_has ls 4 [(0, .ref a0), (1, .int ix), (2, .ref ao)] := hl
  have hhand := tx_hand B (hts _ List.mem_cons_self)
  obtain ⟨x, suf, hsplit, hxe, -⟩ := List.map_eq_cons_iff.mp hhand
  simp only [Prod.mk.injEq] at hxe
  obtain ⟨e1, e2, e3, e4⟩ := hxe
  refine lv_aload_n hx hb d_Law_count_0 rfl (lv_at hl 2 rfl) ?_
  refine lv_iconst (v := 0) hx hb d_Law_count_1 (by decide) ?_
  refine lv_aload_n hx hb d_Law_count_2 rfl (lv_at hl 0 rfl) ?_
  refine lv_iload_n hx hb d_Law_count_3 rfl (lv_at hl 1 rfl) ?_
  have hPc := hP.sub (ws' := []) [] rfl
  refine tx_callV (x := x) (nm := xIOB) (As := [.int ix]) (rest := [.int 0, .ref ao]) ⟨hx, hb, hml, hown, hz⟩ (ct_count_neg l hnt dC dI a0 ix gi) (cwV 1 hz (zV zm_445 zm_446 zm_447 zm_333 zm_448) rfl rfl rfl (by decide +kernel) ⟨Nat.le_of_ble_eq_true rfl, Nat.le_of_ble_eq_true rfl⟩) ⟨fun a U g mk q => by obtain ⟨q0, qP, qK, qC⟩ := q; exact ⟨q0, qP, va_K.moved (u := U) (U := U.calling g mk a) (Vm.Alike.refl U.vm) qK, tx_C.same (u := U) (U := U.calling g mk a) rfl rfl qC⟩, va_recv (q := (R_LF, F_LF, 8)) (q0 := 0) (ci := 0) hK hP rfl rfl, fun U hU hW => ⟨rfl, by rw [hU]; exact hPc, va_K.moved hW.alike hK, hC.warm hW (fun z _ => by rw [hU])⟩⟩ rfl hl.1 (lv_room (Nat.le_of_ble_eq_true rfl)) d_Law_count_4 ⟨by decide, by decide⟩ hsplit (by simp [covers, e1, e2]) (by rw [e4]; decide) (by rw [e4]; exact (hz (.classLink R_Law 29 xIOB) zm_497)) (va_Nw.use rfl (hC.2.1 (.castable xIOB xIOB) (by decide +kernel))) (fun q H1 hz1 hk1 => ?_)
  rw [e3]
  refine lv_astore_n hx hb d_Law_count_12 rfl hl (by decide) rfl (fun ls hl => ?_)
  refine lv_iconst (v := 1) hx hb d_Law_count_13 (by decide) ?_
  exact W.iret (v := 1) hx hb hr (fun t ht hW => ⟨⟨1, (), rfl, rfl, trivial⟩, ⟨by rw [ht]; exact hz1, fun q h1 _ => by rw [ht]; exact hk1 q h1⟩⟩) (fun _ h => nomatch h) d_Law_count_14
set_option maxHeartbeats 4000000 in
set_option maxRecDepth 100000 in
theorem cw_count_big (l : Launch) (hnt : l.stackTraces = false) (dC : Nat → ClassId) (dI : Nat → Nat → Nat) (a0 : Nat) (a1 : Nat) (a3 : Nat) (a7 : Nat) (a15 : Nat) (a21 : Nat) (a38 : Nat) (a41 : Nat) (ao : Nat) (ix : Int32) (gi : ¬ ix < 0) (g5 : 5 ≤ ix) : Met l y_Law_count w_Law_count ({ frames := 8, cells := 1, slots := 6, locals := 141 }) (va_Pc [.ref a0, .int ix, .ref ao] (fun U => va_P (dC, dI) vcl [(a0, .inr (0, [.ref a1, .ref a3, .ref a7, .ref a15, .ref a21, .ref a38, .ref a41, .int (-1)]))] U.heap ∧ va_K (dC, dI) vcl [] U ∧ tx_C U)) (va_Qi (fun (r : Int32) (_ : Unit) => r = 1) (fun _ _ => True) (fun _ => False)) 1 6 (fun _ => False) := by
  refine va_MetW (hh := [(0, 9, 12, 29)]) (cc := b_Law_count) (maxL := 4) (ret := (some .int)) (by decide) rfl ?_
  intro p e s m args below meth c s₁ B hml hv
  obtain ⟨rfl, hP, hK, hC⟩ := hv
  have hx := B.exec
  have hb := B.bytes
  have hr := B.returns
  have hts := atoms_spec (ws := w_Law_count) B.pre
  have hz : ∀ w ∈ wz, w.before _ s = true := fun w h => hts w (List.mem_cons_of_mem _ h)
  have hown : s.vm.findClass R_Law = some m.cls := findClass_of_methodNamed B.named
  have hlocks := B.notSynchronized
  have hS : va_S (fun q => s.heap.size ≤ q) s.heap s.heap [] := va_S.rf
  have hl := lv_entry ([.ref a0, .int ix, .ref ao]) (n := 4) (Nat.le_of_ble_eq_true rfl)
  rw [lg_entry_eq]
  generalize (lg_sl ([.ref a0, .int ix, .ref ao]) ++ List.replicate (4 - (lg_sl ([.ref a0, .int ix, .ref ao])).length) Slot.unset).toArray = ls at hl ⊢
  have hl : lv_has ls 4 [(0, .ref a0), (1, .int ix), (2, .ref ao)] := hl
  have hhand := tx_hand B (hts _ List.mem_cons_self)
  obtain ⟨x, suf, hsplit, hxe, -⟩ := List.map_eq_cons_iff.mp hhand
  simp only [Prod.mk.injEq] at hxe
  obtain ⟨e1, e2, e3, e4⟩ := hxe
  refine lv_aload_n hx hb d_Law_count_0 rfl (lv_at hl 2 rfl) ?_
  refine lv_iconst (v := 0) hx hb d_Law_count_1 (by decide) ?_
  refine lv_aload_n hx hb d_Law_count_2 rfl (lv_at hl 0 rfl) ?_
  refine lv_iload_n hx hb d_Law_count_3 rfl (lv_at hl 1 rfl) ?_
  have hPc := hP.sub (ws' := []) [] rfl
  refine tx_callV (x := x) (nm := xIOB) (As := [.int ix]) (rest := [.int 0, .ref ao]) ⟨hx, hb, hml, hown, hz⟩ (ct_count_big l hnt dC dI a0 ix gi g5) (cwV 1 hz (zV zm_445 zm_446 zm_447 zm_333 zm_448) rfl rfl rfl (by decide +kernel) ⟨Nat.le_of_ble_eq_true rfl, Nat.le_of_ble_eq_true rfl⟩) ⟨fun a U g mk q => by obtain ⟨q0, qP, qK, qC⟩ := q; exact ⟨q0, qP, va_K.moved (u := U) (U := U.calling g mk a) (Vm.Alike.refl U.vm) qK, tx_C.same (u := U) (U := U.calling g mk a) rfl rfl qC⟩, va_recv (q := (R_LF, F_LF, 8)) (q0 := 0) (ci := 0) hK hP rfl rfl, fun U hU hW => ⟨rfl, by rw [hU]; exact hPc, va_K.moved hW.alike hK, hC.warm hW (fun z _ => by rw [hU])⟩⟩ rfl hl.1 (lv_room (Nat.le_of_ble_eq_true rfl)) d_Law_count_4 ⟨by decide, by decide⟩ hsplit (by simp [covers, e1, e2]) (by rw [e4]; decide) (by rw [e4]; exact (hz (.classLink R_Law 29 xIOB) zm_497)) (va_Nw.use rfl (hC.2.1 (.castable xIOB xIOB) (by decide +kernel))) (fun q H1 hz1 hk1 => ?_)
  rw [e3]
  refine lv_astore_n hx hb d_Law_count_12 rfl hl (by decide) rfl (fun ls hl => ?_)
  refine lv_iconst (v := 1) hx hb d_Law_count_13 (by decide) ?_
  exact W.iret (v := 1) hx hb hr (fun t ht hW => ⟨⟨1, (), rfl, rfl, trivial⟩, ⟨by rw [ht]; exact hz1, fun q h1 _ => by rw [ht]; exact hk1 q h1⟩⟩) (fun _ h => nomatch h) d_Law_count_14
set_option maxHeartbeats 4000000 in
set_option maxRecDepth 100000 in
theorem cw_fixity_fx1 (l : Launch) (hnt : l.stackTraces = false) (dC : Nat → ClassId) (dI : Nat → Nat → Nat) (a0 : Nat) (a1 : Nat) (a3 : Nat) (a7 : Nat) (a15 : Nat) (a21 : Nat) (a38 : Nat) (a41 : Nat) (ao : Nat) (ev : Int64) (sdx : Int32) (lvx : Int32) (g1 : sdx < 0) : Met l y_Law_fixity w_Law_fixity ({ frames := 8, cells := 1, slots := 6, locals := 144 }) (va_Pc [.ref a0, .long ev, .int sdx, .int lvx, .ref ao] (fun U => va_P (dC, dI) vcl [(a0, .inr (0, [.ref a1, .ref a3, .ref a7, .ref a15, .ref a21, .ref a38, .ref a41, .int (-1)]))] U.heap ∧ va_K (dC, dI) vcl [] U ∧ tx_C U)) (va_Qi (fun (r : Int32) (_ : Unit) => r = 1) (fun _ _ => True) (fun _ => False)) 1 6 (fun _ => False) := by
  refine va_MetW (hh := [(0, 13, 16, 13), (0, 13, 20, 15)]) (cc := b_Law_fixity) (maxL := 7) (ret := (some .int)) (by decide) rfl ?_
  intro p e s m args below meth c s₁ B hml hv
  obtain ⟨rfl, hP, hK, hC⟩ := hv
  have hx := B.exec
  have hb := B.bytes
  have hr := B.returns
  have hts := atoms_spec (ws := w_Law_fixity) B.pre
  have hz : ∀ w ∈ wz, w.before _ s = true := fun w h => hts w (List.mem_cons_of_mem _ h)
  have hown : s.vm.findClass R_Law = some m.cls := findClass_of_methodNamed B.named
  have hlocks := B.notSynchronized
  have hS : va_S (fun q => s.heap.size ≤ q) s.heap s.heap [] := va_S.rf
  have hl := lv_entry ([.ref a0, .long ev, .int sdx, .int lvx, .ref ao]) (n := 7) (Nat.le_of_ble_eq_true rfl)
  rw [lg_entry_eq]
  generalize (lg_sl ([.ref a0, .long ev, .int sdx, .int lvx, .ref ao]) ++ List.replicate (7 - (lg_sl ([.ref a0, .long ev, .int sdx, .int lvx, .ref ao])).length) Slot.unset).toArray = ls at hl ⊢
  have hl : lv_has ls 7 [(0, .ref a0), (1, .long ev), (3, .int sdx), (4, .int lvx), (5, .ref ao)] := hl
  have hhand := tx_hand B (hts _ List.mem_cons_self)
  obtain ⟨x, suf, hsplit, hxe, -⟩ := List.map_eq_cons_iff.mp hhand
  simp only [Prod.mk.injEq] at hxe
  obtain ⟨e1, e2, e3, e4⟩ := hxe
  refine lv_aload hx hb d_Law_fixity_0 (lv_at hl 4 rfl) ?_
  refine lv_iconst (v := 0) hx hb d_Law_fixity_2 (by decide) ?_
  refine lv_aload_n hx hb d_Law_fixity_3 rfl (lv_at hl 0 rfl) ?_
  refine lv_lload_n hx hb d_Law_fixity_4 rfl (lv_at hl 1 rfl) ?_
  refine lv_iload_n hx hb d_Law_fixity_5 rfl (lv_at hl 2 rfl) ?_
  refine lv_iload hx hb d_Law_fixity_6 (lv_at hl 3 rfl) ?_
  have hPc := hP.sub (ws' := []) [] rfl
  refine tx_callV (x := x) (nm := xIAE) (As := [.long ev, .int sdx, .int lvx]) (rest := [.int 0, .ref ao]) ⟨hx, hb, hml, hown, hz⟩ (ct_fixity_fx1 l hnt dC dI a0 ev sdx lvx g1) (cwV 3 hz (zV zm_477 zm_478 zm_479 zm_333 zm_480) rfl rfl rfl (by decide +kernel) ⟨Nat.le_of_ble_eq_true rfl, Nat.le_of_ble_eq_true rfl⟩) ⟨fun a U g mk q => by obtain ⟨q0, qP, qK, qC⟩ := q; exact ⟨q0, qP, va_K.moved (u := U) (U := U.calling g mk a) (Vm.Alike.refl U.vm) qK, tx_C.same (u := U) (U := U.calling g mk a) rfl rfl qC⟩, va_recv (q := (R_LF, F_LF, 8)) (q0 := 0) (ci := 0) hK hP rfl rfl, fun U hU hW => ⟨rfl, by rw [hU]; exact hPc, va_K.moved hW.alike hK, hC.warm hW (fun z _ => by rw [hU])⟩⟩ rfl hl.1 (lv_room (Nat.le_of_ble_eq_true rfl)) d_Law_fixity_8 ⟨by decide, by decide⟩ hsplit (by simp [covers, e1, e2]) (by rw [e4]; decide) (by rw [e4]; exact (hz (.classLink R_Law 13 xIAE) zm_502)) (va_Nw.use rfl (hC.2.1 (.castable xIAE xIAE) (by decide +kernel))) (fun q H1 hz1 hk1 => ?_)
  rw [e3]
  refine lv_astore hx hb d_Law_fixity_16 hl (by decide) rfl (fun ls hl => ?_)
  refine lv_iconst (v := 1) hx hb d_Law_fixity_18 (by decide) ?_
  exact W.iret (v := 1) hx hb hr (fun t ht hW => ⟨⟨1, (), rfl, rfl, trivial⟩, ⟨by rw [ht]; exact hz1, fun q h1 _ => by rw [ht]; exact hk1 q h1⟩⟩) (fun _ h => nomatch h) d_Law_fixity_19
set_option maxHeartbeats 4000000 in
set_option maxRecDepth 100000 in
theorem cw_fixity_fx2 (l : Launch) (hnt : l.stackTraces = false) (dC : Nat → ClassId) (dI : Nat → Nat → Nat) (a0 : Nat) (a1 : Nat) (a3 : Nat) (a7 : Nat) (a15 : Nat) (a21 : Nat) (a38 : Nat) (a41 : Nat) (ao : Nat) (ev : Int64) (sdx : Int32) (lvx : Int32) (g1 : ¬ sdx < 0) (g2 : 2 < sdx) : Met l y_Law_fixity w_Law_fixity ({ frames := 8, cells := 1, slots := 6, locals := 144 }) (va_Pc [.ref a0, .long ev, .int sdx, .int lvx, .ref ao] (fun U => va_P (dC, dI) vcl [(a0, .inr (0, [.ref a1, .ref a3, .ref a7, .ref a15, .ref a21, .ref a38, .ref a41, .int (-1)]))] U.heap ∧ va_K (dC, dI) vcl [] U ∧ tx_C U)) (va_Qi (fun (r : Int32) (_ : Unit) => r = 1) (fun _ _ => True) (fun _ => False)) 1 6 (fun _ => False) := by
  refine va_MetW (hh := [(0, 13, 16, 13), (0, 13, 20, 15)]) (cc := b_Law_fixity) (maxL := 7) (ret := (some .int)) (by decide) rfl ?_
  intro p e s m args below meth c s₁ B hml hv
  obtain ⟨rfl, hP, hK, hC⟩ := hv
  have hx := B.exec
  have hb := B.bytes
  have hr := B.returns
  have hts := atoms_spec (ws := w_Law_fixity) B.pre
  have hz : ∀ w ∈ wz, w.before _ s = true := fun w h => hts w (List.mem_cons_of_mem _ h)
  have hown : s.vm.findClass R_Law = some m.cls := findClass_of_methodNamed B.named
  have hlocks := B.notSynchronized
  have hS : va_S (fun q => s.heap.size ≤ q) s.heap s.heap [] := va_S.rf
  have hl := lv_entry ([.ref a0, .long ev, .int sdx, .int lvx, .ref ao]) (n := 7) (Nat.le_of_ble_eq_true rfl)
  rw [lg_entry_eq]
  generalize (lg_sl ([.ref a0, .long ev, .int sdx, .int lvx, .ref ao]) ++ List.replicate (7 - (lg_sl ([.ref a0, .long ev, .int sdx, .int lvx, .ref ao])).length) Slot.unset).toArray = ls at hl ⊢
  have hl : lv_has ls 7 [(0, .ref a0), (1, .long ev), (3, .int sdx), (4, .int lvx), (5, .ref ao)] := hl
  have hhand := tx_hand B (hts _ List.mem_cons_self)
  obtain ⟨x, suf, hsplit, hxe, -⟩ := List.map_eq_cons_iff.mp hhand
  simp only [Prod.mk.injEq] at hxe
  obtain ⟨e1, e2, e3, e4⟩ := hxe
  refine lv_aload hx hb d_Law_fixity_0 (lv_at hl 4 rfl) ?_
  refine lv_iconst (v := 0) hx hb d_Law_fixity_2 (by decide) ?_
  refine lv_aload_n hx hb d_Law_fixity_3 rfl (lv_at hl 0 rfl) ?_
  refine lv_lload_n hx hb d_Law_fixity_4 rfl (lv_at hl 1 rfl) ?_
  refine lv_iload_n hx hb d_Law_fixity_5 rfl (lv_at hl 2 rfl) ?_
  refine lv_iload hx hb d_Law_fixity_6 (lv_at hl 3 rfl) ?_
  have hPc := hP.sub (ws' := []) [] rfl
  refine tx_callV (x := x) (nm := xIAE) (As := [.long ev, .int sdx, .int lvx]) (rest := [.int 0, .ref ao]) ⟨hx, hb, hml, hown, hz⟩ (ct_fixity_fx2 l hnt dC dI a0 ev sdx lvx g1 g2) (cwV 3 hz (zV zm_477 zm_478 zm_479 zm_333 zm_480) rfl rfl rfl (by decide +kernel) ⟨Nat.le_of_ble_eq_true rfl, Nat.le_of_ble_eq_true rfl⟩) ⟨fun a U g mk q => by obtain ⟨q0, qP, qK, qC⟩ := q; exact ⟨q0, qP, va_K.moved (u := U) (U := U.calling g mk a) (Vm.Alike.refl U.vm) qK, tx_C.same (u := U) (U := U.calling g mk a) rfl rfl qC⟩, va_recv (q := (R_LF, F_LF, 8)) (q0 := 0) (ci := 0) hK hP rfl rfl, fun U hU hW => ⟨rfl, by rw [hU]; exact hPc, va_K.moved hW.alike hK, hC.warm hW (fun z _ => by rw [hU])⟩⟩ rfl hl.1 (lv_room (Nat.le_of_ble_eq_true rfl)) d_Law_fixity_8 ⟨by decide, by decide⟩ hsplit (by simp [covers, e1, e2]) (by rw [e4]; decide) (by rw [e4]; exact (hz (.classLink R_Law 13 xIAE) zm_502)) (va_Nw.use rfl (hC.2.1 (.castable xIAE xIAE) (by decide +kernel))) (fun q H1 hz1 hk1 => ?_)
  rw [e3]
  refine lv_astore hx hb d_Law_fixity_16 hl (by decide) rfl (fun ls hl => ?_)
  refine lv_iconst (v := 1) hx hb d_Law_fixity_18 (by decide) ?_
  exact W.iret (v := 1) hx hb hr (fun t ht hW => ⟨⟨1, (), rfl, rfl, trivial⟩, ⟨by rw [ht]; exact hz1, fun q h1 _ => by rw [ht]; exact hk1 q h1⟩⟩) (fun _ h => nomatch h) d_Law_fixity_19
set_option maxHeartbeats 4000000 in
set_option maxRecDepth 100000 in
theorem cw_fixity_fx3 (l : Launch) (hnt : l.stackTraces = false) (dC : Nat → ClassId) (dI : Nat → Nat → Nat) (a0 : Nat) (a1 : Nat) (a3 : Nat) (a7 : Nat) (a15 : Nat) (a21 : Nat) (a38 : Nat) (a41 : Nat) (ao : Nat) (ev : Int64) (sdx : Int32) (lvx : Int32) (g1 : ¬ sdx < 0) (g2 : ¬ 2 < sdx) (g3 : lvx < 0) : Met l y_Law_fixity w_Law_fixity ({ frames := 8, cells := 1, slots := 6, locals := 144 }) (va_Pc [.ref a0, .long ev, .int sdx, .int lvx, .ref ao] (fun U => va_P (dC, dI) vcl [(a0, .inr (0, [.ref a1, .ref a3, .ref a7, .ref a15, .ref a21, .ref a38, .ref a41, .int (-1)]))] U.heap ∧ va_K (dC, dI) vcl [] U ∧ tx_C U)) (va_Qi (fun (r : Int32) (_ : Unit) => r = 1) (fun _ _ => True) (fun _ => False)) 1 6 (fun _ => False) := by
  refine va_MetW (hh := [(0, 13, 16, 13), (0, 13, 20, 15)]) (cc := b_Law_fixity) (maxL := 7) (ret := (some .int)) (by decide) rfl ?_
  intro p e s m args below meth c s₁ B hml hv
  obtain ⟨rfl, hP, hK, hC⟩ := hv
  have hx := B.exec
  have hb := B.bytes
  have hr := B.returns
  have hts := atoms_spec (ws := w_Law_fixity) B.pre
  have hz : ∀ w ∈ wz, w.before _ s = true := fun w h => hts w (List.mem_cons_of_mem _ h)
  have hown : s.vm.findClass R_Law = some m.cls := findClass_of_methodNamed B.named
  have hlocks := B.notSynchronized
  have hS : va_S (fun q => s.heap.size ≤ q) s.heap s.heap [] := va_S.rf
  have hl := lv_entry ([.ref a0, .long ev, .int sdx, .int lvx, .ref ao]) (n := 7) (Nat.le_of_ble_eq_true rfl)
  rw [lg_entry_eq]
  generalize (lg_sl ([.ref a0, .long ev, .int sdx, .int lvx, .ref ao]) ++ List.replicate (7 - (lg_sl ([.ref a0, .long ev, .int sdx, .int lvx, .ref ao])).length) Slot.unset).toArray = ls at hl ⊢
  have hl : lv_has ls 7 [(0, .ref a0), (1, .long ev), (3, .int sdx), (4, .int lvx), (5, .ref ao)] := hl
  have hhand := tx_hand B (hts _ List.mem_cons_self)
  obtain ⟨x, suf, hsplit, hxe, -⟩ := List.map_eq_cons_iff.mp hhand
  simp only [Prod.mk.injEq] at hxe
  obtain ⟨e1, e2, e3, e4⟩ := hxe
  refine lv_aload hx hb d_Law_fixity_0 (lv_at hl 4 rfl) ?_
  refine lv_iconst (v := 0) hx hb d_Law_fixity_2 (by decide) ?_
  refine lv_aload_n hx hb d_Law_fixity_3 rfl (lv_at hl 0 rfl) ?_
  refine lv_lload_n hx hb d_Law_fixity_4 rfl (lv_at hl 1 rfl) ?_
  refine lv_iload_n hx hb d_Law_fixity_5 rfl (lv_at hl 2 rfl) ?_
  refine lv_iload hx hb d_Law_fixity_6 (lv_at hl 3 rfl) ?_
  have hPc := hP.sub (ws' := []) [] rfl
  refine tx_callV (x := x) (nm := xIAE) (As := [.long ev, .int sdx, .int lvx]) (rest := [.int 0, .ref ao]) ⟨hx, hb, hml, hown, hz⟩ (ct_fixity_fx3 l hnt dC dI a0 ev sdx lvx g1 g2 g3) (cwV 3 hz (zV zm_477 zm_478 zm_479 zm_333 zm_480) rfl rfl rfl (by decide +kernel) ⟨Nat.le_of_ble_eq_true rfl, Nat.le_of_ble_eq_true rfl⟩) ⟨fun a U g mk q => by obtain ⟨q0, qP, qK, qC⟩ := q; exact ⟨q0, qP, va_K.moved (u := U) (U := U.calling g mk a) (Vm.Alike.refl U.vm) qK, tx_C.same (u := U) (U := U.calling g mk a) rfl rfl qC⟩, va_recv (q := (R_LF, F_LF, 8)) (q0 := 0) (ci := 0) hK hP rfl rfl, fun U hU hW => ⟨rfl, by rw [hU]; exact hPc, va_K.moved hW.alike hK, hC.warm hW (fun z _ => by rw [hU])⟩⟩ rfl hl.1 (lv_room (Nat.le_of_ble_eq_true rfl)) d_Law_fixity_8 ⟨by decide, by decide⟩ hsplit (by simp [covers, e1, e2]) (by rw [e4]; decide) (by rw [e4]; exact (hz (.classLink R_Law 13 xIAE) zm_502)) (va_Nw.use rfl (hC.2.1 (.castable xIAE xIAE) (by decide +kernel))) (fun q H1 hz1 hk1 => ?_)
  rw [e3]
  refine lv_astore hx hb d_Law_fixity_16 hl (by decide) rfl (fun ls hl => ?_)
  refine lv_iconst (v := 1) hx hb d_Law_fixity_18 (by decide) ?_
  exact W.iret (v := 1) hx hb hr (fun t ht hW => ⟨⟨1, (), rfl, rfl, trivial⟩, ⟨by rw [ht]; exact hz1, fun q h1 _ => by rw [ht]; exact hk1 q h1⟩⟩) (fun _ h => nomatch h) d_Law_fixity_19
set_option maxHeartbeats 4000000 in
set_option maxRecDepth 100000 in
theorem cw_fixity_fx4 (l : Launch) (hnt : l.stackTraces = false) (dC : Nat → ClassId) (dI : Nat → Nat → Nat) (a0 : Nat) (a1 : Nat) (a3 : Nat) (a7 : Nat) (a15 : Nat) (a21 : Nat) (a38 : Nat) (a41 : Nat) (ao : Nat) (ev : Int64) (sdx : Int32) (lvx : Int32) (g1 : ¬ sdx < 0) (g2 : ¬ 2 < sdx) (g3 : ¬ lvx < 0) (g4 : 9 < lvx) : Met l y_Law_fixity w_Law_fixity ({ frames := 8, cells := 1, slots := 6, locals := 144 }) (va_Pc [.ref a0, .long ev, .int sdx, .int lvx, .ref ao] (fun U => va_P (dC, dI) vcl [(a0, .inr (0, [.ref a1, .ref a3, .ref a7, .ref a15, .ref a21, .ref a38, .ref a41, .int (-1)]))] U.heap ∧ va_K (dC, dI) vcl [] U ∧ tx_C U)) (va_Qi (fun (r : Int32) (_ : Unit) => r = 1) (fun _ _ => True) (fun _ => False)) 1 6 (fun _ => False) := by
  refine va_MetW (hh := [(0, 13, 16, 13), (0, 13, 20, 15)]) (cc := b_Law_fixity) (maxL := 7) (ret := (some .int)) (by decide) rfl ?_
  intro p e s m args below meth c s₁ B hml hv
  obtain ⟨rfl, hP, hK, hC⟩ := hv
  have hx := B.exec
  have hb := B.bytes
  have hr := B.returns
  have hts := atoms_spec (ws := w_Law_fixity) B.pre
  have hz : ∀ w ∈ wz, w.before _ s = true := fun w h => hts w (List.mem_cons_of_mem _ h)
  have hown : s.vm.findClass R_Law = some m.cls := findClass_of_methodNamed B.named
  have hlocks := B.notSynchronized
  have hS : va_S (fun q => s.heap.size ≤ q) s.heap s.heap [] := va_S.rf
  have hl := lv_entry ([.ref a0, .long ev, .int sdx, .int lvx, .ref ao]) (n := 7) (Nat.le_of_ble_eq_true rfl)
  rw [lg_entry_eq]
  generalize (lg_sl ([.ref a0, .long ev, .int sdx, .int lvx, .ref ao]) ++ List.replicate (7 - (lg_sl ([.ref a0, .long ev, .int sdx, .int lvx, .ref ao])).length) Slot.unset).toArray = ls at hl ⊢
  have hl : lv_has ls 7 [(0, .ref a0), (1, .long ev), (3, .int sdx), (4, .int lvx), (5, .ref ao)] := hl
  have hhand := tx_hand B (hts _ List.mem_cons_self)
  obtain ⟨x, suf, hsplit, hxe, -⟩ := List.map_eq_cons_iff.mp hhand
  simp only [Prod.mk.injEq] at hxe
  obtain ⟨e1, e2, e3, e4⟩ := hxe
  refine lv_aload hx hb d_Law_fixity_0 (lv_at hl 4 rfl) ?_
  refine lv_iconst (v := 0) hx hb d_Law_fixity_2 (by decide) ?_
  refine lv_aload_n hx hb d_Law_fixity_3 rfl (lv_at hl 0 rfl) ?_
  refine lv_lload_n hx hb d_Law_fixity_4 rfl (lv_at hl 1 rfl) ?_
  refine lv_iload_n hx hb d_Law_fixity_5 rfl (lv_at hl 2 rfl) ?_
  refine lv_iload hx hb d_Law_fixity_6 (lv_at hl 3 rfl) ?_
  have hPc := hP.sub (ws' := []) [] rfl
  refine tx_callV (x := x) (nm := xIAE) (As := [.long ev, .int sdx, .int lvx]) (rest := [.int 0, .ref ao]) ⟨hx, hb, hml, hown, hz⟩ (ct_fixity_fx4 l hnt dC dI a0 ev sdx lvx g1 g2 g3 g4) (cwV 3 hz (zV zm_477 zm_478 zm_479 zm_333 zm_480) rfl rfl rfl (by decide +kernel) ⟨Nat.le_of_ble_eq_true rfl, Nat.le_of_ble_eq_true rfl⟩) ⟨fun a U g mk q => by obtain ⟨q0, qP, qK, qC⟩ := q; exact ⟨q0, qP, va_K.moved (u := U) (U := U.calling g mk a) (Vm.Alike.refl U.vm) qK, tx_C.same (u := U) (U := U.calling g mk a) rfl rfl qC⟩, va_recv (q := (R_LF, F_LF, 8)) (q0 := 0) (ci := 0) hK hP rfl rfl, fun U hU hW => ⟨rfl, by rw [hU]; exact hPc, va_K.moved hW.alike hK, hC.warm hW (fun z _ => by rw [hU])⟩⟩ rfl hl.1 (lv_room (Nat.le_of_ble_eq_true rfl)) d_Law_fixity_8 ⟨by decide, by decide⟩ hsplit (by simp [covers, e1, e2]) (by rw [e4]; decide) (by rw [e4]; exact (hz (.classLink R_Law 13 xIAE) zm_502)) (va_Nw.use rfl (hC.2.1 (.castable xIAE xIAE) (by decide +kernel))) (fun q H1 hz1 hk1 => ?_)
  rw [e3]
  refine lv_astore hx hb d_Law_fixity_16 hl (by decide) rfl (fun ls hl => ?_)
  refine lv_iconst (v := 1) hx hb d_Law_fixity_18 (by decide) ?_
  exact W.iret (v := 1) hx hb hr (fun t ht hW => ⟨⟨1, (), rfl, rfl, trivial⟩, ⟨by rw [ht]; exact hz1, fun q h1 _ => by rw [ht]; exact hk1 q h1⟩⟩) (fun _ h => nomatch h) d_Law_fixity_19
end
