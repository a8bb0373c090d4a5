-- ===== PART A: goes FIRST, ahead of the names: the tables' words, and 'selects' of the private methods out of them =====
/-- a private method of a class that the tables say can be made, by its rows of tables_1 -/
def lw_okq (q : MethodName × Nat) : Prop := (q.1.cls ≠ "java/lang/invoke/MethodHandle" ∧ q.1.cls ≠ "java/lang/invoke/VarHandle") ∧ Cond.instantiable q.1.cls q.2 ∈ tables_1 ∧ Cond.privateMethod q.1 ∈ tables_1 ∧ Cond.instanceMethod q.1 ∈ tables_1
theorem lw_p0 : lw_okq (⟨"TexelBank$Lexer", "learn", "(Ljava/lang/String;I)I"⟩, 10) := ⟨⟨by decide +kernel, by decide +kernel⟩, List.mem_of_getElem? (i := 37) (by decide +kernel), List.mem_of_getElem? (i := 44) (by decide +kernel), List.mem_of_getElem? (i := 45) (by decide +kernel)⟩
theorem lw_p1 : lw_okq (⟨"TexelBank", "append", "(I)V"⟩, 12) := ⟨⟨by decide +kernel, by decide +kernel⟩, List.mem_of_getElem? (i := 23) (by decide +kernel), List.mem_of_getElem? (i := 491) (by decide +kernel), List.mem_of_getElem? (i := 492) (by decide +kernel)⟩
theorem lw_p2 : lw_okq (⟨"TexelBank$Lexer", "isLetterNext", "()Z"⟩, 10) := ⟨⟨by decide +kernel, by decide +kernel⟩, List.mem_of_getElem? (i := 37) (by decide +kernel), List.mem_of_getElem? (i := 522) (by decide +kernel), List.mem_of_getElem? (i := 523) (by decide +kernel)⟩
theorem lw_p3 : lw_okq (⟨"TexelBank$Lexer", "readWord", "()V"⟩, 10) := ⟨⟨by decide +kernel, by decide +kernel⟩, List.mem_of_getElem? (i := 37) (by decide +kernel), List.mem_of_getElem? (i := 526) (by decide +kernel), List.mem_of_getElem? (i := 527) (by decide +kernel)⟩
theorem lw_p4 : lw_okq (⟨"TexelBank$Lexer", "isDigitNext", "()Z"⟩, 10) := ⟨⟨by decide +kernel, by decide +kernel⟩, List.mem_of_getElem? (i := 37) (by decide +kernel), List.mem_of_getElem? (i := 530) (by decide +kernel), List.mem_of_getElem? (i := 531) (by decide +kernel)⟩
theorem lw_p5 : lw_okq (⟨"TexelBank$Lexer", "readNumber", "()V"⟩, 10) := ⟨⟨by decide +kernel, by decide +kernel⟩, List.mem_of_getElem? (i := 37) (by decide +kernel), List.mem_of_getElem? (i := 534) (by decide +kernel), List.mem_of_getElem? (i := 535) (by decide +kernel)⟩
theorem lw_p6 : lw_okq (⟨"TexelBank$Teller", "tellsCache", "()Z"⟩, 6) := ⟨⟨by decide +kernel, by decide +kernel⟩, List.mem_of_getElem? (i := 31) (by decide +kernel), List.mem_of_getElem? (i := 538) (by decide +kernel), List.mem_of_getElem? (i := 539) (by decide +kernel)⟩
theorem lw_p7 : lw_okq (⟨"TexelBank$Teller", "refuse", "(I)Z"⟩, 6) := ⟨⟨by decide +kernel, by decide +kernel⟩, List.mem_of_getElem? (i := 31) (by decide +kernel), List.mem_of_getElem? (i := 542) (by decide +kernel), List.mem_of_getElem? (i := 543) (by decide +kernel)⟩
theorem lw_p8 : lw_okq (⟨"TexelBank$Teller", "passOneOf", "(II)Z"⟩, 6) := ⟨⟨by decide +kernel, by decide +kernel⟩, List.mem_of_getElem? (i := 31) (by decide +kernel), List.mem_of_getElem? (i := 546) (by decide +kernel), List.mem_of_getElem? (i := 547) (by decide +kernel)⟩
theorem lw_p9 : lw_okq (⟨"TexelBank$Teller", "passPower", "(I)Z"⟩, 6) := ⟨⟨by decide +kernel, by decide +kernel⟩, List.mem_of_getElem? (i := 31) (by decide +kernel), List.mem_of_getElem? (i := 551) (by decide +kernel), List.mem_of_getElem? (i := 552) (by decide +kernel)⟩
theorem lw_p10 : lw_okq (⟨"TexelBank$Teller", "isNumber", "(II)Z"⟩, 6) := ⟨⟨by decide +kernel, by decide +kernel⟩, List.mem_of_getElem? (i := 31) (by decide +kernel), List.mem_of_getElem? (i := 555) (by decide +kernel), List.mem_of_getElem? (i := 556) (by decide +kernel)⟩
theorem lw_p11 : lw_okq (⟨"TexelBank$Teller", "passNumber", "(II)Z"⟩, 6) := ⟨⟨by decide +kernel, by decide +kernel⟩, List.mem_of_getElem? (i := 31) (by decide +kernel), List.mem_of_getElem? (i := 565) (by decide +kernel), List.mem_of_getElem? (i := 566) (by decide +kernel)⟩
theorem lw_p12 : lw_okq (⟨"TexelBank$Teller", "passSign", "()Z"⟩, 6) := ⟨⟨by decide +kernel, by decide +kernel⟩, List.mem_of_getElem? (i := 31) (by decide +kernel), List.mem_of_getElem? (i := 569) (by decide +kernel), List.mem_of_getElem? (i := 570) (by decide +kernel)⟩
theorem lw_p13 : lw_okq (⟨"TexelBank$Teller", "tellsStore", "()Z"⟩, 6) := ⟨⟨by decide +kernel, by decide +kernel⟩, List.mem_of_getElem? (i := 31) (by decide +kernel), List.mem_of_getElem? (i := 573) (by decide +kernel), List.mem_of_getElem? (i := 574) (by decide +kernel)⟩
theorem lw_p14 : lw_okq (⟨"TexelBank$Teller", "passNewName", "()Z"⟩, 6) := ⟨⟨by decide +kernel, by decide +kernel⟩, List.mem_of_getElem? (i := 31) (by decide +kernel), List.mem_of_getElem? (i := 577) (by decide +kernel), List.mem_of_getElem? (i := 578) (by decide +kernel)⟩
theorem lw_p15 : lw_okq (⟨"TexelBank$Teller", "isName", "()Z"⟩, 6) := ⟨⟨by decide +kernel, by decide +kernel⟩, List.mem_of_getElem? (i := 31) (by decide +kernel), List.mem_of_getElem? (i := 581) (by decide +kernel), List.mem_of_getElem? (i := 582) (by decide +kernel)⟩
def lw_privs_1 : List (MethodName × Nat) := [(⟨"TexelBank$Lexer", "learn", "(Ljava/lang/String;I)I"⟩, 10), (⟨"TexelBank", "append", "(I)V"⟩, 12), (⟨"TexelBank$Lexer", "isLetterNext", "()Z"⟩, 10), (⟨"TexelBank$Lexer", "readWord", "()V"⟩, 10), (⟨"TexelBank$Lexer", "isDigitNext", "()Z"⟩, 10), (⟨"TexelBank$Lexer", "readNumber", "()V"⟩, 10), (⟨"TexelBank$Teller", "tellsCache", "()Z"⟩, 6), (⟨"TexelBank$Teller", "refuse", "(I)Z"⟩, 6), (⟨"TexelBank$Teller", "passOneOf", "(II)Z"⟩, 6), (⟨"TexelBank$Teller", "passPower", "(I)Z"⟩, 6), (⟨"TexelBank$Teller", "isNumber", "(II)Z"⟩, 6), (⟨"TexelBank$Teller", "passNumber", "(II)Z"⟩, 6), (⟨"TexelBank$Teller", "passSign", "()Z"⟩, 6), (⟨"TexelBank$Teller", "tellsStore", "()Z"⟩, 6), (⟨"TexelBank$Teller", "passNewName", "()Z"⟩, 6), (⟨"TexelBank$Teller", "isName", "()Z"⟩, 6)]
theorem lw_r1 : ∀ q ∈ lw_privs_1, lw_okq q := List.forall_mem_cons.mpr ⟨lw_p0, List.forall_mem_cons.mpr ⟨lw_p1, List.forall_mem_cons.mpr ⟨lw_p2, List.forall_mem_cons.mpr ⟨lw_p3, List.forall_mem_cons.mpr ⟨lw_p4, List.forall_mem_cons.mpr ⟨lw_p5, List.forall_mem_cons.mpr ⟨lw_p6, List.forall_mem_cons.mpr ⟨lw_p7, List.forall_mem_cons.mpr ⟨lw_p8, List.forall_mem_cons.mpr ⟨lw_p9, List.forall_mem_cons.mpr ⟨lw_p10, List.forall_mem_cons.mpr ⟨lw_p11, List.forall_mem_cons.mpr ⟨lw_p12, List.forall_mem_cons.mpr ⟨lw_p13, List.forall_mem_cons.mpr ⟨lw_p14, List.forall_mem_cons.mpr ⟨lw_p15, fun _ h => absurd h List.not_mem_nil⟩⟩⟩⟩⟩⟩⟩⟩⟩⟩⟩⟩⟩⟩⟩⟩
theorem lw_p16 : lw_okq (⟨"TexelBank$Teller", "takeName", "()Z"⟩, 6) := ⟨⟨by decide +kernel, by decide +kernel⟩, List.mem_of_getElem? (i := 31) (by decide +kernel), List.mem_of_getElem? (i := 593) (by decide +kernel), List.mem_of_getElem? (i := 594) (by decide +kernel)⟩
theorem lw_p17 : lw_okq (⟨"TexelBank$Teller", "tellsNoRow", "(I)Z"⟩, 6) := ⟨⟨by decide +kernel, by decide +kernel⟩, List.mem_of_getElem? (i := 31) (by decide +kernel), List.mem_of_getElem? (i := 601) (by decide +kernel), List.mem_of_getElem? (i := 602) (by decide +kernel)⟩
theorem lw_p18 : lw_okq (⟨"TexelBank$Teller", "tellsTexture", "()Z"⟩, 6) := ⟨⟨by decide +kernel, by decide +kernel⟩, List.mem_of_getElem? (i := 31) (by decide +kernel), List.mem_of_getElem? (i := 605) (by decide +kernel), List.mem_of_getElem? (i := 606) (by decide +kernel)⟩
theorem lw_p19 : lw_okq (⟨"TexelBank$Teller", "passStoreOf", "(LTexelBank$Texture;)Z"⟩, 6) := ⟨⟨by decide +kernel, by decide +kernel⟩, List.mem_of_getElem? (i := 31) (by decide +kernel), List.mem_of_getElem? (i := 609) (by decide +kernel), List.mem_of_getElem? (i := 610) (by decide +kernel)⟩
theorem lw_p20 : lw_okq (⟨"TexelBank$Teller", "passExtent", "(LTexelBank$Texture;)Z"⟩, 6) := ⟨⟨by decide +kernel, by decide +kernel⟩, List.mem_of_getElem? (i := 31) (by decide +kernel), List.mem_of_getElem? (i := 613) (by decide +kernel), List.mem_of_getElem? (i := 614) (by decide +kernel)⟩
theorem lw_p21 : lw_okq (⟨"TexelBank$Teller", "tellsFill", "()Z"⟩, 6) := ⟨⟨by decide +kernel, by decide +kernel⟩, List.mem_of_getElem? (i := 31) (by decide +kernel), List.mem_of_getElem? (i := 630) (by decide +kernel), List.mem_of_getElem? (i := 631) (by decide +kernel)⟩
theorem lw_p22 : lw_okq (⟨"TexelBank", "pourFills", "()V"⟩, 12) := ⟨⟨by decide +kernel, by decide +kernel⟩, List.mem_of_getElem? (i := 23) (by decide +kernel), List.mem_of_getElem? (i := 641) (by decide +kernel), List.mem_of_getElem? (i := 642) (by decide +kernel)⟩
theorem lw_p23 : lw_okq (⟨"TexelBank$Texture", "made", "(III)I"⟩, 12) := ⟨⟨by decide +kernel, by decide +kernel⟩, List.mem_of_getElem? (i := 204) (by decide +kernel), List.mem_of_getElem? (i := 667) (by decide +kernel), List.mem_of_getElem? (i := 668) (by decide +kernel)⟩
theorem lw_p24 : lw_okq (⟨"TexelBank$Stores", "refusedRow", "(IZ)I"⟩, 6) := ⟨⟨by decide +kernel, by decide +kernel⟩, List.mem_of_getElem? (i := 162) (by decide +kernel), List.mem_of_getElem? (i := 721) (by decide +kernel), List.mem_of_getElem? (i := 722) (by decide +kernel)⟩
theorem lw_p25 : lw_okq (⟨"TexelBank$Stores", "refusedPlace", "(IIZ)I"⟩, 6) := ⟨⟨by decide +kernel, by decide +kernel⟩, List.mem_of_getElem? (i := 162) (by decide +kernel), List.mem_of_getElem? (i := 730) (by decide +kernel), List.mem_of_getElem? (i := 731) (by decide +kernel)⟩
theorem lw_p26 : lw_okq (⟨"TexelBank", "setPlace", "(IIII)V"⟩, 12) := ⟨⟨by decide +kernel, by decide +kernel⟩, List.mem_of_getElem? (i := 23) (by decide +kernel), List.mem_of_getElem? (i := 754) (by decide +kernel), List.mem_of_getElem? (i := 755) (by decide +kernel)⟩
theorem lw_p27 : lw_okq (⟨"TexelBank$Acts", "slot", "(I)I"⟩, 4) := ⟨⟨by decide +kernel, by decide +kernel⟩, List.mem_of_getElem? (i := 331) (by decide +kernel), List.mem_of_getElem? (i := 762) (by decide +kernel), List.mem_of_getElem? (i := 763) (by decide +kernel)⟩
theorem lw_p28 : lw_okq (⟨"TexelBank", "hasTexture", "(I)Z"⟩, 12) := ⟨⟨by decide +kernel, by decide +kernel⟩, List.mem_of_getElem? (i := 23) (by decide +kernel), List.mem_of_getElem? (i := 841) (by decide +kernel), List.mem_of_getElem? (i := 842) (by decide +kernel)⟩
theorem lw_p29 : lw_okq (⟨"TexelBank", "hasLevel", "(II)Z"⟩, 12) := ⟨⟨by decide +kernel, by decide +kernel⟩, List.mem_of_getElem? (i := 23) (by decide +kernel), List.mem_of_getElem? (i := 853) (by decide +kernel), List.mem_of_getElem? (i := 854) (by decide +kernel)⟩
theorem lw_p30 : lw_okq (⟨"TexelBank", "hasTexel", "(IIII)Z"⟩, 12) := ⟨⟨by decide +kernel, by decide +kernel⟩, List.mem_of_getElem? (i := 23) (by decide +kernel), List.mem_of_getElem? (i := 865) (by decide +kernel), List.mem_of_getElem? (i := 866) (by decide +kernel)⟩
theorem lw_p31 : lw_okq (⟨"TexelBank", "settle", "(LTexelBank$Texture;)I"⟩, 12) := ⟨⟨by decide +kernel, by decide +kernel⟩, List.mem_of_getElem? (i := 23) (by decide +kernel), List.mem_of_getElem? (i := 900) (by decide +kernel), List.mem_of_getElem? (i := 901) (by decide +kernel)⟩
def lw_privs_2 : List (MethodName × Nat) := [(⟨"TexelBank$Teller", "takeName", "()Z"⟩, 6), (⟨"TexelBank$Teller", "tellsNoRow", "(I)Z"⟩, 6), (⟨"TexelBank$Teller", "tellsTexture", "()Z"⟩, 6), (⟨"TexelBank$Teller", "passStoreOf", "(LTexelBank$Texture;)Z"⟩, 6), (⟨"TexelBank$Teller", "passExtent", "(LTexelBank$Texture;)Z"⟩, 6), (⟨"TexelBank$Teller", "tellsFill", "()Z"⟩, 6), (⟨"TexelBank", "pourFills", "()V"⟩, 12), (⟨"TexelBank$Texture", "made", "(III)I"⟩, 12), (⟨"TexelBank$Stores", "refusedRow", "(IZ)I"⟩, 6), (⟨"TexelBank$Stores", "refusedPlace", "(IIZ)I"⟩, 6), (⟨"TexelBank", "setPlace", "(IIII)V"⟩, 12), (⟨"TexelBank$Acts", "slot", "(I)I"⟩, 4), (⟨"TexelBank", "hasTexture", "(I)Z"⟩, 12), (⟨"TexelBank", "hasLevel", "(II)Z"⟩, 12), (⟨"TexelBank", "hasTexel", "(IIII)Z"⟩, 12), (⟨"TexelBank", "settle", "(LTexelBank$Texture;)I"⟩, 12)]
theorem lw_r2 : ∀ q ∈ lw_privs_2, lw_okq q := List.forall_mem_cons.mpr ⟨lw_p16, List.forall_mem_cons.mpr ⟨lw_p17, List.forall_mem_cons.mpr ⟨lw_p18, List.forall_mem_cons.mpr ⟨lw_p19, List.forall_mem_cons.mpr ⟨lw_p20, List.forall_mem_cons.mpr ⟨lw_p21, List.forall_mem_cons.mpr ⟨lw_p22, List.forall_mem_cons.mpr ⟨lw_p23, List.forall_mem_cons.mpr ⟨lw_p24, List.forall_mem_cons.mpr ⟨lw_p25, List.forall_mem_cons.mpr ⟨lw_p26, List.forall_mem_cons.mpr ⟨lw_p27, List.forall_mem_cons.mpr ⟨lw_p28, List.forall_mem_cons.mpr ⟨lw_p29, List.forall_mem_cons.mpr ⟨lw_p30, List.forall_mem_cons.mpr ⟨lw_p31, fun _ h => absurd h List.not_mem_nil⟩⟩⟩⟩⟩⟩⟩⟩⟩⟩⟩⟩⟩⟩⟩⟩
theorem lw_p32 : lw_okq (⟨"TexelBank", "canSample", "(IIII)Z"⟩, 12) := ⟨⟨by decide +kernel, by decide +kernel⟩, List.mem_of_getElem? (i := 23) (by decide +kernel), List.mem_of_getElem? (i := 929) (by decide +kernel), List.mem_of_getElem? (i := 930) (by decide +kernel)⟩
theorem lw_p33 : lw_okq (⟨"TexelBank$Tally", "greatestBelow", "(I)I"⟩, 3) := ⟨⟨by decide +kernel, by decide +kernel⟩, List.mem_of_getElem? (i := 388) (by decide +kernel), List.mem_of_getElem? (i := 1110) (by decide +kernel), List.mem_of_getElem? (i := 1111) (by decide +kernel)⟩
theorem lw_p34 : lw_okq (⟨"TexelBank", "remainder", "()I"⟩, 12) := ⟨⟨by decide +kernel, by decide +kernel⟩, List.mem_of_getElem? (i := 23) (by decide +kernel), List.mem_of_getElem? (i := 1124) (by decide +kernel), List.mem_of_getElem? (i := 1125) (by decide +kernel)⟩
theorem lw_p35 : lw_okq (⟨"TexelBankModel", "begins", "()V"⟩, 40) := ⟨⟨by decide +kernel, by decide +kernel⟩, List.mem_of_getElem? (i := 1148) (by decide +kernel), List.mem_of_getElem? (i := 1155) (by decide +kernel), List.mem_of_getElem? (i := 1156) (by decide +kernel)⟩
theorem lw_p36 : lw_okq (⟨"TexelBankModel", "takesOver", "()V"⟩, 40) := ⟨⟨by decide +kernel, by decide +kernel⟩, List.mem_of_getElem? (i := 1148) (by decide +kernel), List.mem_of_getElem? (i := 1159) (by decide +kernel), List.mem_of_getElem? (i := 1160) (by decide +kernel)⟩
theorem lw_p37 : lw_okq (⟨"TexelBankModel", "stands", "(II)Z"⟩, 40) := ⟨⟨by decide +kernel, by decide +kernel⟩, List.mem_of_getElem? (i := 1148) (by decide +kernel), List.mem_of_getElem? (i := 1166) (by decide +kernel), List.mem_of_getElem? (i := 1167) (by decide +kernel)⟩
theorem lw_p38 : lw_okq (⟨"TexelBankModel", "isRow", "(I)Z"⟩, 40) := ⟨⟨by decide +kernel, by decide +kernel⟩, List.mem_of_getElem? (i := 1148) (by decide +kernel), List.mem_of_getElem? (i := 1170) (by decide +kernel), List.mem_of_getElem? (i := 1171) (by decide +kernel)⟩
theorem lw_p39 : lw_okq (⟨"TexelBankModel", "isStore", "(I)Z"⟩, 40) := ⟨⟨by decide +kernel, by decide +kernel⟩, List.mem_of_getElem? (i := 1148) (by decide +kernel), List.mem_of_getElem? (i := 1174) (by decide +kernel), List.mem_of_getElem? (i := 1175) (by decide +kernel)⟩
theorem lw_p40 : lw_okq (⟨"TexelBankModel", "stores", "()I"⟩, 40) := ⟨⟨by decide +kernel, by decide +kernel⟩, List.mem_of_getElem? (i := 1148) (by decide +kernel), List.mem_of_getElem? (i := 1178) (by decide +kernel), List.mem_of_getElem? (i := 1179) (by decide +kernel)⟩
theorem lw_p41 : lw_okq (⟨"TexelBankModel", "fillsWith", "(IIII)V"⟩, 40) := ⟨⟨by decide +kernel, by decide +kernel⟩, List.mem_of_getElem? (i := 1148) (by decide +kernel), List.mem_of_getElem? (i := 1185) (by decide +kernel), List.mem_of_getElem? (i := 1186) (by decide +kernel)⟩
theorem lw_p42 : lw_okq (⟨"TexelBankModel", "high", "(II)I"⟩, 40) := ⟨⟨by decide +kernel, by decide +kernel⟩, List.mem_of_getElem? (i := 1148) (by decide +kernel), List.mem_of_getElem? (i := 1189) (by decide +kernel), List.mem_of_getElem? (i := 1190) (by decide +kernel)⟩
theorem lw_p43 : lw_okq (⟨"TexelBankModel", "of", "(II)I"⟩, 40) := ⟨⟨by decide +kernel, by decide +kernel⟩, List.mem_of_getElem? (i := 1148) (by decide +kernel), List.mem_of_getElem? (i := 1193) (by decide +kernel), List.mem_of_getElem? (i := 1194) (by decide +kernel)⟩
theorem lw_p44 : lw_okq (⟨"TexelBankModel", "wide", "(II)I"⟩, 40) := ⟨⟨by decide +kernel, by decide +kernel⟩, List.mem_of_getElem? (i := 1148) (by decide +kernel), List.mem_of_getElem? (i := 1203) (by decide +kernel), List.mem_of_getElem? (i := 1204) (by decide +kernel)⟩
theorem lw_p45 : lw_okq (⟨"TexelBankModel", "colours", "(IIIII)V"⟩, 40) := ⟨⟨by decide +kernel, by decide +kernel⟩, List.mem_of_getElem? (i := 1148) (by decide +kernel), List.mem_of_getElem? (i := 1207) (by decide +kernel), List.mem_of_getElem? (i := 1208) (by decide +kernel)⟩
theorem lw_p46 : lw_okq (⟨"TexelBankModel", "placeOf", "(IIII)I"⟩, 40) := ⟨⟨by decide +kernel, by decide +kernel⟩, List.mem_of_getElem? (i := 1148) (by decide +kernel), List.mem_of_getElem? (i := 1211) (by decide +kernel), List.mem_of_getElem? (i := 1212) (by decide +kernel)⟩
theorem lw_p47 : lw_okq (⟨"TexelBankModel", "firstOf", "(II)I"⟩, 40) := ⟨⟨by decide +kernel, by decide +kernel⟩, List.mem_of_getElem? (i := 1148) (by decide +kernel), List.mem_of_getElem? (i := 1215) (by decide +kernel), List.mem_of_getElem? (i := 1216) (by decide +kernel)⟩
def lw_privs_3 : List (MethodName × Nat) := [(⟨"TexelBank", "canSample", "(IIII)Z"⟩, 12), (⟨"TexelBank$Tally", "greatestBelow", "(I)I"⟩, 3), (⟨"TexelBank", "remainder", "()I"⟩, 12), (⟨"TexelBankModel", "begins", "()V"⟩, 40), (⟨"TexelBankModel", "takesOver", "()V"⟩, 40), (⟨"TexelBankModel", "stands", "(II)Z"⟩, 40), (⟨"TexelBankModel", "isRow", "(I)Z"⟩, 40), (⟨"TexelBankModel", "isStore", "(I)Z"⟩, 40), (⟨"TexelBankModel", "stores", "()I"⟩, 40), (⟨"TexelBankModel", "fillsWith", "(IIII)V"⟩, 40), (⟨"TexelBankModel", "high", "(II)I"⟩, 40), (⟨"TexelBankModel", "of", "(II)I"⟩, 40), (⟨"TexelBankModel", "wide", "(II)I"⟩, 40), (⟨"TexelBankModel", "colours", "(IIIII)V"⟩, 40), (⟨"TexelBankModel", "placeOf", "(IIII)I"⟩, 40), (⟨"TexelBankModel", "firstOf", "(II)I"⟩, 40)]
theorem lw_r3 : ∀ q ∈ lw_privs_3, lw_okq q := List.forall_mem_cons.mpr ⟨lw_p32, List.forall_mem_cons.mpr ⟨lw_p33, List.forall_mem_cons.mpr ⟨lw_p34, List.forall_mem_cons.mpr ⟨lw_p35, List.forall_mem_cons.mpr ⟨lw_p36, List.forall_mem_cons.mpr ⟨lw_p37, List.forall_mem_cons.mpr ⟨lw_p38, List.forall_mem_cons.mpr ⟨lw_p39, List.forall_mem_cons.mpr ⟨lw_p40, List.forall_mem_cons.mpr ⟨lw_p41, List.forall_mem_cons.mpr ⟨lw_p42, List.forall_mem_cons.mpr ⟨lw_p43, List.forall_mem_cons.mpr ⟨lw_p44, List.forall_mem_cons.mpr ⟨lw_p45, List.forall_mem_cons.mpr ⟨lw_p46, List.forall_mem_cons.mpr ⟨lw_p47, fun _ h => absurd h List.not_mem_nil⟩⟩⟩⟩⟩⟩⟩⟩⟩⟩⟩⟩⟩⟩⟩⟩
theorem lw_p48 : lw_okq (⟨"TexelBankModel", "behind", "(IIII)I"⟩, 40) := ⟨⟨by decide +kernel, by decide +kernel⟩, List.mem_of_getElem? (i := 1148) (by decide +kernel), List.mem_of_getElem? (i := 1222) (by decide +kernel), List.mem_of_getElem? (i := 1223) (by decide +kernel)⟩
theorem lw_p49 : lw_okq (⟨"TexelBankModel", "sets", "(III)V"⟩, 40) := ⟨⟨by decide +kernel, by decide +kernel⟩, List.mem_of_getElem? (i := 1148) (by decide +kernel), List.mem_of_getElem? (i := 1237) (by decide +kernel), List.mem_of_getElem? (i := 1238) (by decide +kernel)⟩
theorem lw_p50 : lw_okq (⟨"TexelBankModel", "makes", "(I)V"⟩, 40) := ⟨⟨by decide +kernel, by decide +kernel⟩, List.mem_of_getElem? (i := 1148) (by decide +kernel), List.mem_of_getElem? (i := 1241) (by decide +kernel), List.mem_of_getElem? (i := 1242) (by decide +kernel)⟩
theorem lw_p51 : lw_okq (⟨"TexelBankModel", "below", "(IIII)I"⟩, 40) := ⟨⟨by decide +kernel, by decide +kernel⟩, List.mem_of_getElem? (i := 1148) (by decide +kernel), List.mem_of_getElem? (i := 1245) (by decide +kernel), List.mem_of_getElem? (i := 1246) (by decide +kernel)⟩
theorem lw_p52 : lw_okq (⟨"TexelBankModel", "isTexel", "(IIII)Z"⟩, 40) := ⟨⟨by decide +kernel, by decide +kernel⟩, List.mem_of_getElem? (i := 1148) (by decide +kernel), List.mem_of_getElem? (i := 1249) (by decide +kernel), List.mem_of_getElem? (i := 1250) (by decide +kernel)⟩
theorem lw_p53 : lw_okq (⟨"TexelBankModel", "isLevel", "(II)Z"⟩, 40) := ⟨⟨by decide +kernel, by decide +kernel⟩, List.mem_of_getElem? (i := 1148) (by decide +kernel), List.mem_of_getElem? (i := 1253) (by decide +kernel), List.mem_of_getElem? (i := 1254) (by decide +kernel)⟩
theorem lw_p54 : lw_okq (⟨"TexelBankModel", "isTexture", "(I)Z"⟩, 40) := ⟨⟨by decide +kernel, by decide +kernel⟩, List.mem_of_getElem? (i := 1148) (by decide +kernel), List.mem_of_getElem? (i := 1257) (by decide +kernel), List.mem_of_getElem? (i := 1258) (by decide +kernel)⟩
theorem lw_p55 : lw_okq (⟨"TexelBankModel", "texelAt", "(IIII)I"⟩, 40) := ⟨⟨by decide +kernel, by decide +kernel⟩, List.mem_of_getElem? (i := 1148) (by decide +kernel), List.mem_of_getElem? (i := 1261) (by decide +kernel), List.mem_of_getElem? (i := 1262) (by decide +kernel)⟩
theorem lw_p56 : lw_okq (⟨"TexelBankModel", "numberAt", "(II)I"⟩, 40) := ⟨⟨by decide +kernel, by decide +kernel⟩, List.mem_of_getElem? (i := 1148) (by decide +kernel), List.mem_of_getElem? (i := 1265) (by decide +kernel), List.mem_of_getElem? (i := 1266) (by decide +kernel)⟩
theorem lw_p57 : lw_okq (⟨"TexelBankModel", "empties", "()V"⟩, 40) := ⟨⟨by decide +kernel, by decide +kernel⟩, List.mem_of_getElem? (i := 1148) (by decide +kernel), List.mem_of_getElem? (i := 1269) (by decide +kernel), List.mem_of_getElem? (i := 1270) (by decide +kernel)⟩
theorem lw_p58 : lw_okq (⟨"TexelBankModel", "four", "(I)V"⟩, 40) := ⟨⟨by decide +kernel, by decide +kernel⟩, List.mem_of_getElem? (i := 1148) (by decide +kernel), List.mem_of_getElem? (i := 1398) (by decide +kernel), List.mem_of_getElem? (i := 1399) (by decide +kernel)⟩
theorem lw_p59 : lw_okq (⟨"TexelBankModel", "goOn", "()V"⟩, 40) := ⟨⟨by decide +kernel, by decide +kernel⟩, List.mem_of_getElem? (i := 1148) (by decide +kernel), List.mem_of_getElem? (i := 1410) (by decide +kernel), List.mem_of_getElem? (i := 1411) (by decide +kernel)⟩
theorem lw_p60 : lw_okq (⟨"TexelBankModel", "here", "(I)I"⟩, 40) := ⟨⟨by decide +kernel, by decide +kernel⟩, List.mem_of_getElem? (i := 1148) (by decide +kernel), List.mem_of_getElem? (i := 1414) (by decide +kernel), List.mem_of_getElem? (i := 1415) (by decide +kernel)⟩
theorem lw_p61 : lw_okq (⟨"TexelBankModel", "isGood", "()Z"⟩, 40) := ⟨⟨by decide +kernel, by decide +kernel⟩, List.mem_of_getElem? (i := 1148) (by decide +kernel), List.mem_of_getElem? (i := 1424) (by decide +kernel), List.mem_of_getElem? (i := 1425) (by decide +kernel)⟩
theorem lw_p62 : lw_okq (⟨"TexelBankModel", "line", "()V"⟩, 40) := ⟨⟨by decide +kernel, by decide +kernel⟩, List.mem_of_getElem? (i := 1148) (by decide +kernel), List.mem_of_getElem? (i := 1428) (by decide +kernel), List.mem_of_getElem? (i := 1429) (by decide +kernel)⟩
theorem lw_p63 : lw_okq (⟨"TexelBankModel", "isWord", "(J)Z"⟩, 40) := ⟨⟨by decide +kernel, by decide +kernel⟩, List.mem_of_getElem? (i := 1148) (by decide +kernel), List.mem_of_getElem? (i := 1433) (by decide +kernel), List.mem_of_getElem? (i := 1434) (by decide +kernel)⟩
def lw_privs_4 : List (MethodName × Nat) := [(⟨"TexelBankModel", "behind", "(IIII)I"⟩, 40), (⟨"TexelBankModel", "sets", "(III)V"⟩, 40), (⟨"TexelBankModel", "makes", "(I)V"⟩, 40), (⟨"TexelBankModel", "below", "(IIII)I"⟩, 40), (⟨"TexelBankModel", "isTexel", "(IIII)Z"⟩, 40), (⟨"TexelBankModel", "isLevel", "(II)Z"⟩, 40), (⟨"TexelBankModel", "isTexture", "(I)Z"⟩, 40), (⟨"TexelBankModel", "texelAt", "(IIII)I"⟩, 40), (⟨"TexelBankModel", "numberAt", "(II)I"⟩, 40), (⟨"TexelBankModel", "empties", "()V"⟩, 40), (⟨"TexelBankModel", "four", "(I)V"⟩, 40), (⟨"TexelBankModel", "goOn", "()V"⟩, 40), (⟨"TexelBankModel", "here", "(I)I"⟩, 40), (⟨"TexelBankModel", "isGood", "()Z"⟩, 40), (⟨"TexelBankModel", "line", "()V"⟩, 40), (⟨"TexelBankModel", "isWord", "(J)Z"⟩, 40)]
theorem lw_r4 : ∀ q ∈ lw_privs_4, lw_okq q := List.forall_mem_cons.mpr ⟨lw_p48, List.forall_mem_cons.mpr ⟨lw_p49, List.forall_mem_cons.mpr ⟨lw_p50, List.forall_mem_cons.mpr ⟨lw_p51, List.forall_mem_cons.mpr ⟨lw_p52, List.forall_mem_cons.mpr ⟨lw_p53, List.forall_mem_cons.mpr ⟨lw_p54, List.forall_mem_cons.mpr ⟨lw_p55, List.forall_mem_cons.mpr ⟨lw_p56, List.forall_mem_cons.mpr ⟨lw_p57, List.forall_mem_cons.mpr ⟨lw_p58, List.forall_mem_cons.mpr ⟨lw_p59, List.forall_mem_cons.mpr ⟨lw_p60, List.forall_mem_cons.mpr ⟨lw_p61, List.forall_mem_cons.mpr ⟨lw_p62, List.forall_mem_cons.mpr ⟨lw_p63, fun _ h => absurd h List.not_mem_nil⟩⟩⟩⟩⟩⟩⟩⟩⟩⟩⟩⟩⟩⟩⟩⟩
theorem lw_p64 : lw_okq (⟨"TexelBankModel", "cacheLine", "()V"⟩, 40) := ⟨⟨by decide +kernel, by decide +kernel⟩, List.mem_of_getElem? (i := 1148) (by decide +kernel), List.mem_of_getElem? (i := 1437) (by decide +kernel), List.mem_of_getElem? (i := 1438) (by decide +kernel)⟩
theorem lw_p65 : lw_okq (⟨"TexelBankModel", "wrong", "(I)V"⟩, 40) := ⟨⟨by decide +kernel, by decide +kernel⟩, List.mem_of_getElem? (i := 1148) (by decide +kernel), List.mem_of_getElem? (i := 1441) (by decide +kernel), List.mem_of_getElem? (i := 1442) (by decide +kernel)⟩
theorem lw_p66 : lw_okq (⟨"TexelBankModel", "power", "(I)I"⟩, 40) := ⟨⟨by decide +kernel, by decide +kernel⟩, List.mem_of_getElem? (i := 1148) (by decide +kernel), List.mem_of_getElem? (i := 1445) (by decide +kernel), List.mem_of_getElem? (i := 1446) (by decide +kernel)⟩
theorem lw_p67 : lw_okq (⟨"TexelBankModel", "numberHere", "(II)I"⟩, 40) := ⟨⟨by decide +kernel, by decide +kernel⟩, List.mem_of_getElem? (i := 1148) (by decide +kernel), List.mem_of_getElem? (i := 1449) (by decide +kernel), List.mem_of_getElem? (i := 1450) (by decide +kernel)⟩
theorem lw_p68 : lw_okq (⟨"TexelBankModel", "needs", "(J)V"⟩, 40) := ⟨⟨by decide +kernel, by decide +kernel⟩, List.mem_of_getElem? (i := 1148) (by decide +kernel), List.mem_of_getElem? (i := 1454) (by decide +kernel), List.mem_of_getElem? (i := 1455) (by decide +kernel)⟩
theorem lw_p69 : lw_okq (⟨"TexelBankModel", "number", "(II)I"⟩, 40) := ⟨⟨by decide +kernel, by decide +kernel⟩, List.mem_of_getElem? (i := 1148) (by decide +kernel), List.mem_of_getElem? (i := 1458) (by decide +kernel), List.mem_of_getElem? (i := 1459) (by decide +kernel)⟩
theorem lw_p70 : lw_okq (⟨"TexelBankModel", "storeLine", "(I)V"⟩, 40) := ⟨⟨by decide +kernel, by decide +kernel⟩, List.mem_of_getElem? (i := 1148) (by decide +kernel), List.mem_of_getElem? (i := 1464) (by decide +kernel), List.mem_of_getElem? (i := 1465) (by decide +kernel)⟩
theorem lw_p71 : lw_okq (⟨"TexelBankModel", "newName", "()J"⟩, 40) := ⟨⟨by decide +kernel, by decide +kernel⟩, List.mem_of_getElem? (i := 1148) (by decide +kernel), List.mem_of_getElem? (i := 1468) (by decide +kernel), List.mem_of_getElem? (i := 1469) (by decide +kernel)⟩
theorem lw_p72 : lw_okq (⟨"TexelBankModel", "nameHere", "()J"⟩, 40) := ⟨⟨by decide +kernel, by decide +kernel⟩, List.mem_of_getElem? (i := 1148) (by decide +kernel), List.mem_of_getElem? (i := 1472) (by decide +kernel), List.mem_of_getElem? (i := 1473) (by decide +kernel)⟩
theorem lw_p73 : lw_okq (⟨"TexelBankModel", "isOwn", "()Z"⟩, 40) := ⟨⟨by decide +kernel, by decide +kernel⟩, List.mem_of_getElem? (i := 1148) (by decide +kernel), List.mem_of_getElem? (i := 1476) (by decide +kernel), List.mem_of_getElem? (i := 1477) (by decide +kernel)⟩
theorem lw_p74 : lw_okq (⟨"TexelBankModel", "kindHere", "()I"⟩, 40) := ⟨⟨by decide +kernel, by decide +kernel⟩, List.mem_of_getElem? (i := 1148) (by decide +kernel), List.mem_of_getElem? (i := 1488) (by decide +kernel), List.mem_of_getElem? (i := 1489) (by decide +kernel)⟩
theorem lw_p75 : lw_okq (⟨"TexelBankModel", "orderHere", "()I"⟩, 40) := ⟨⟨by decide +kernel, by decide +kernel⟩, List.mem_of_getElem? (i := 1148) (by decide +kernel), List.mem_of_getElem? (i := 1502) (by decide +kernel), List.mem_of_getElem? (i := 1503) (by decide +kernel)⟩
theorem lw_p76 : lw_okq (⟨"TexelBankModel", "wrapHere", "()I"⟩, 40) := ⟨⟨by decide +kernel, by decide +kernel⟩, List.mem_of_getElem? (i := 1148) (by decide +kernel), List.mem_of_getElem? (i := 1509) (by decide +kernel), List.mem_of_getElem? (i := 1510) (by decide +kernel)⟩
theorem lw_p77 : lw_okq (⟨"TexelBankModel", "storeNamed", "(J)I"⟩, 40) := ⟨⟨by decide +kernel, by decide +kernel⟩, List.mem_of_getElem? (i := 1148) (by decide +kernel), List.mem_of_getElem? (i := 1516) (by decide +kernel), List.mem_of_getElem? (i := 1517) (by decide +kernel)⟩
theorem lw_p78 : lw_okq (⟨"TexelBankModel", "textureNamed", "(J)I"⟩, 40) := ⟨⟨by decide +kernel, by decide +kernel⟩, List.mem_of_getElem? (i := 1148) (by decide +kernel), List.mem_of_getElem? (i := 1520) (by decide +kernel), List.mem_of_getElem? (i := 1521) (by decide +kernel)⟩
theorem lw_p79 : lw_okq (⟨"TexelBankModel", "textureLine", "()V"⟩, 40) := ⟨⟨by decide +kernel, by decide +kernel⟩, List.mem_of_getElem? (i := 1148) (by decide +kernel), List.mem_of_getElem? (i := 1524) (by decide +kernel), List.mem_of_getElem? (i := 1525) (by decide +kernel)⟩
def lw_privs_5 : List (MethodName × Nat) := [(⟨"TexelBankModel", "cacheLine", "()V"⟩, 40), (⟨"TexelBankModel", "wrong", "(I)V"⟩, 40), (⟨"TexelBankModel", "power", "(I)I"⟩, 40), (⟨"TexelBankModel", "numberHere", "(II)I"⟩, 40), (⟨"TexelBankModel", "needs", "(J)V"⟩, 40), (⟨"TexelBankModel", "number", "(II)I"⟩, 40), (⟨"TexelBankModel", "storeLine", "(I)V"⟩, 40), (⟨"TexelBankModel", "newName", "()J"⟩, 40), (⟨"TexelBankModel", "nameHere", "()J"⟩, 40), (⟨"TexelBankModel", "isOwn", "()Z"⟩, 40), (⟨"TexelBankModel", "kindHere", "()I"⟩, 40), (⟨"TexelBankModel", "orderHere", "()I"⟩, 40), (⟨"TexelBankModel", "wrapHere", "()I"⟩, 40), (⟨"TexelBankModel", "storeNamed", "(J)I"⟩, 40), (⟨"TexelBankModel", "textureNamed", "(J)I"⟩, 40), (⟨"TexelBankModel", "textureLine", "()V"⟩, 40)]
theorem lw_r5 : ∀ q ∈ lw_privs_5, lw_okq q := List.forall_mem_cons.mpr ⟨lw_p64, List.forall_mem_cons.mpr ⟨lw_p65, List.forall_mem_cons.mpr ⟨lw_p66, List.forall_mem_cons.mpr ⟨lw_p67, List.forall_mem_cons.mpr ⟨lw_p68, List.forall_mem_cons.mpr ⟨lw_p69, List.forall_mem_cons.mpr ⟨lw_p70, List.forall_mem_cons.mpr ⟨lw_p71, List.forall_mem_cons.mpr ⟨lw_p72, List.forall_mem_cons.mpr ⟨lw_p73, List.forall_mem_cons.mpr ⟨lw_p74, List.forall_mem_cons.mpr ⟨lw_p75, List.forall_mem_cons.mpr ⟨lw_p76, List.forall_mem_cons.mpr ⟨lw_p77, List.forall_mem_cons.mpr ⟨lw_p78, List.forall_mem_cons.mpr ⟨lw_p79, fun _ h => absurd h List.not_mem_nil⟩⟩⟩⟩⟩⟩⟩⟩⟩⟩⟩⟩⟩⟩⟩⟩
theorem lw_p80 : lw_okq (⟨"TexelBankModel", "fillLine", "()V"⟩, 40) := ⟨⟨by decide +kernel, by decide +kernel⟩, List.mem_of_getElem? (i := 1148) (by decide +kernel), List.mem_of_getElem? (i := 1531) (by decide +kernel), List.mem_of_getElem? (i := 1532) (by decide +kernel)⟩
theorem lw_p81 : lw_okq (⟨"TexelBankModel", "begin", "()V"⟩, 40) := ⟨⟨by decide +kernel, by decide +kernel⟩, List.mem_of_getElem? (i := 1148) (by decide +kernel), List.mem_of_getElem? (i := 1571) (by decide +kernel), List.mem_of_getElem? (i := 1572) (by decide +kernel)⟩
theorem lw_p82 : lw_okq (⟨"TexelBankModel", "keeps", "()V"⟩, 40) := ⟨⟨by decide +kernel, by decide +kernel⟩, List.mem_of_getElem? (i := 1148) (by decide +kernel), List.mem_of_getElem? (i := 1575) (by decide +kernel), List.mem_of_getElem? (i := 1576) (by decide +kernel)⟩
theorem lw_p83 : lw_okq (⟨"TexelBankModel", "boxes", "(IIII)V"⟩, 40) := ⟨⟨by decide +kernel, by decide +kernel⟩, List.mem_of_getElem? (i := 1148) (by decide +kernel), List.mem_of_getElem? (i := 1589) (by decide +kernel), List.mem_of_getElem? (i := 1590) (by decide +kernel)⟩
theorem lw_p84 : lw_okq (⟨"TexelBankModel", "places", "(IIIZ)V"⟩, 40) := ⟨⟨by decide +kernel, by decide +kernel⟩, List.mem_of_getElem? (i := 1148) (by decide +kernel), List.mem_of_getElem? (i := 1593) (by decide +kernel), List.mem_of_getElem? (i := 1594) (by decide +kernel)⟩
theorem lw_p85 : lw_okq (⟨"TexelBankModel", "boxOf", "(II)I"⟩, 40) := ⟨⟨by decide +kernel, by decide +kernel⟩, List.mem_of_getElem? (i := 1148) (by decide +kernel), List.mem_of_getElem? (i := 1604) (by decide +kernel), List.mem_of_getElem? (i := 1605) (by decide +kernel)⟩
theorem lw_p86 : lw_okq (⟨"TexelBankModel", "kept", "(I)I"⟩, 40) := ⟨⟨by decide +kernel, by decide +kernel⟩, List.mem_of_getElem? (i := 1148) (by decide +kernel), List.mem_of_getElem? (i := 1653) (by decide +kernel), List.mem_of_getElem? (i := 1654) (by decide +kernel)⟩
theorem lw_p87 : lw_okq (⟨"TexelBankModel", "changedIn", "(I)I"⟩, 40) := ⟨⟨by decide +kernel, by decide +kernel⟩, List.mem_of_getElem? (i := 1148) (by decide +kernel), List.mem_of_getElem? (i := 1657) (by decide +kernel), List.mem_of_getElem? (i := 1658) (by decide +kernel)⟩
theorem lw_p88 : lw_okq (⟨"TexelBankModel", "wrapped", "(III)I"⟩, 40) := ⟨⟨by decide +kernel, by decide +kernel⟩, List.mem_of_getElem? (i := 1148) (by decide +kernel), List.mem_of_getElem? (i := 1682) (by decide +kernel), List.mem_of_getElem? (i := 1683) (by decide +kernel)⟩
theorem lw_p89 : lw_okq (⟨"TexelBankModel", "wrappedTexel", "(IIII)I"⟩, 40) := ⟨⟨by decide +kernel, by decide +kernel⟩, List.mem_of_getElem? (i := 1148) (by decide +kernel), List.mem_of_getElem? (i := 1699) (by decide +kernel), List.mem_of_getElem? (i := 1700) (by decide +kernel)⟩
theorem lw_p90 : lw_okq (⟨"TexelBankModel", "smoothAt", "(IIII)I"⟩, 40) := ⟨⟨by decide +kernel, by decide +kernel⟩, List.mem_of_getElem? (i := 1148) (by decide +kernel), List.mem_of_getElem? (i := 1707) (by decide +kernel), List.mem_of_getElem? (i := 1708) (by decide +kernel)⟩
theorem lw_p91 : lw_okq (⟨"TexelBankModel", "isBlock", "(IIII)Z"⟩, 40) := ⟨⟨by decide +kernel, by decide +kernel⟩, List.mem_of_getElem? (i := 1148) (by decide +kernel), List.mem_of_getElem? (i := 1763) (by decide +kernel), List.mem_of_getElem? (i := 1764) (by decide +kernel)⟩
theorem lw_p92 : lw_okq (⟨"TexelBankModel", "packed", "(IIII)J"⟩, 40) := ⟨⟨by decide +kernel, by decide +kernel⟩, List.mem_of_getElem? (i := 1148) (by decide +kernel), List.mem_of_getElem? (i := 1767) (by decide +kernel), List.mem_of_getElem? (i := 1768) (by decide +kernel)⟩
theorem lw_p93 : lw_okq (⟨"TexelBankModel", "heldTexel", "(IIII)I"⟩, 40) := ⟨⟨by decide +kernel, by decide +kernel⟩, List.mem_of_getElem? (i := 1148) (by decide +kernel), List.mem_of_getElem? (i := 1771) (by decide +kernel), List.mem_of_getElem? (i := 1772) (by decide +kernel)⟩
theorem lw_p94 : lw_okq (⟨"TexelBankModel", "lineOf", "(IIII)I"⟩, 40) := ⟨⟨by decide +kernel, by decide +kernel⟩, List.mem_of_getElem? (i := 1148) (by decide +kernel), List.mem_of_getElem? (i := 1787) (by decide +kernel), List.mem_of_getElem? (i := 1788) (by decide +kernel)⟩
theorem lw_p95 : lw_okq (⟨"TexelBankModel", "fetches", "(II)Z"⟩, 40) := ⟨⟨by decide +kernel, by decide +kernel⟩, List.mem_of_getElem? (i := 1148) (by decide +kernel), List.mem_of_getElem? (i := 1791) (by decide +kernel), List.mem_of_getElem? (i := 1792) (by decide +kernel)⟩
def lw_privs_6 : List (MethodName × Nat) := [(⟨"TexelBankModel", "fillLine", "()V"⟩, 40), (⟨"TexelBankModel", "begin", "()V"⟩, 40), (⟨"TexelBankModel", "keeps", "()V"⟩, 40), (⟨"TexelBankModel", "boxes", "(IIII)V"⟩, 40), (⟨"TexelBankModel", "places", "(IIIZ)V"⟩, 40), (⟨"TexelBankModel", "boxOf", "(II)I"⟩, 40), (⟨"TexelBankModel", "kept", "(I)I"⟩, 40), (⟨"TexelBankModel", "changedIn", "(I)I"⟩, 40), (⟨"TexelBankModel", "wrapped", "(III)I"⟩, 40), (⟨"TexelBankModel", "wrappedTexel", "(IIII)I"⟩, 40), (⟨"TexelBankModel", "smoothAt", "(IIII)I"⟩, 40), (⟨"TexelBankModel", "isBlock", "(IIII)Z"⟩, 40), (⟨"TexelBankModel", "packed", "(IIII)J"⟩, 40), (⟨"TexelBankModel", "heldTexel", "(IIII)I"⟩, 40), (⟨"TexelBankModel", "lineOf", "(IIII)I"⟩, 40), (⟨"TexelBankModel", "fetches", "(II)Z"⟩, 40)]
theorem lw_r6 : ∀ q ∈ lw_privs_6, lw_okq q := List.forall_mem_cons.mpr ⟨lw_p80, List.forall_mem_cons.mpr ⟨lw_p81, List.forall_mem_cons.mpr ⟨lw_p82, List.forall_mem_cons.mpr ⟨lw_p83, List.forall_mem_cons.mpr ⟨lw_p84, List.forall_mem_cons.mpr ⟨lw_p85, List.forall_mem_cons.mpr ⟨lw_p86, List.forall_mem_cons.mpr ⟨lw_p87, List.forall_mem_cons.mpr ⟨lw_p88, List.forall_mem_cons.mpr ⟨lw_p89, List.forall_mem_cons.mpr ⟨lw_p90, List.forall_mem_cons.mpr ⟨lw_p91, List.forall_mem_cons.mpr ⟨lw_p92, List.forall_mem_cons.mpr ⟨lw_p93, List.forall_mem_cons.mpr ⟨lw_p94, List.forall_mem_cons.mpr ⟨lw_p95, fun _ h => absurd h List.not_mem_nil⟩⟩⟩⟩⟩⟩⟩⟩⟩⟩⟩⟩⟩⟩⟩⟩
theorem lw_p96 : lw_okq (⟨"TexelBankModel", "heldLines", "()I"⟩, 40) := ⟨⟨by decide +kernel, by decide +kernel⟩, List.mem_of_getElem? (i := 1148) (by decide +kernel), List.mem_of_getElem? (i := 1799) (by decide +kernel), List.mem_of_getElem? (i := 1800) (by decide +kernel)⟩
theorem lw_p97 : lw_okq (⟨"TexelBankModel", "missesOf", "(III)I"⟩, 40) := ⟨⟨by decide +kernel, by decide +kernel⟩, List.mem_of_getElem? (i := 1148) (by decide +kernel), List.mem_of_getElem? (i := 1807) (by decide +kernel), List.mem_of_getElem? (i := 1808) (by decide +kernel)⟩
theorem lw_p98 : lw_okq (⟨"TexelBankModel", "step", "(IIII)I"⟩, 40) := ⟨⟨by decide +kernel, by decide +kernel⟩, List.mem_of_getElem? (i := 1148) (by decide +kernel), List.mem_of_getElem? (i := 1811) (by decide +kernel), List.mem_of_getElem? (i := 1812) (by decide +kernel)⟩
theorem lw_p99 : lw_okq (⟨"TexelBankModel", "isWalk", "(III)Z"⟩, 40) := ⟨⟨by decide +kernel, by decide +kernel⟩, List.mem_of_getElem? (i := 1148) (by decide +kernel), List.mem_of_getElem? (i := 1819) (by decide +kernel), List.mem_of_getElem? (i := 1820) (by decide +kernel)⟩
theorem lw_p100 : lw_okq (⟨"TexelBankModel", "missesAs", "(IIII)I"⟩, 40) := ⟨⟨by decide +kernel, by decide +kernel⟩, List.mem_of_getElem? (i := 1148) (by decide +kernel), List.mem_of_getElem? (i := 1823) (by decide +kernel), List.mem_of_getElem? (i := 1824) (by decide +kernel)⟩
theorem lw_p101 : lw_okq (⟨"TexelBankModel", "ahead", "(I)I"⟩, 40) := ⟨⟨by decide +kernel, by decide +kernel⟩, List.mem_of_getElem? (i := 1148) (by decide +kernel), List.mem_of_getElem? (i := 1843) (by decide +kernel), List.mem_of_getElem? (i := 1844) (by decide +kernel)⟩
theorem lw_p102 : lw_okq (⟨"TexelBankModel", "sumAll", "()I"⟩, 40) := ⟨⟨by decide +kernel, by decide +kernel⟩, List.mem_of_getElem? (i := 1148) (by decide +kernel), List.mem_of_getElem? (i := 1851) (by decide +kernel), List.mem_of_getElem? (i := 1852) (by decide +kernel)⟩
theorem lw_p103 : lw_okq (⟨"TexelBankModel", "allPlaces", "()I"⟩, 40) := ⟨⟨by decide +kernel, by decide +kernel⟩, List.mem_of_getElem? (i := 1148) (by decide +kernel), List.mem_of_getElem? (i := 1865) (by decide +kernel), List.mem_of_getElem? (i := 1866) (by decide +kernel)⟩
def lw_privs_7 : List (MethodName × Nat) := [(⟨"TexelBankModel", "heldLines", "()I"⟩, 40), (⟨"TexelBankModel", "missesOf", "(III)I"⟩, 40), (⟨"TexelBankModel", "step", "(IIII)I"⟩, 40), (⟨"TexelBankModel", "isWalk", "(III)Z"⟩, 40), (⟨"TexelBankModel", "missesAs", "(IIII)I"⟩, 40), (⟨"TexelBankModel", "ahead", "(I)I"⟩, 40), (⟨"TexelBankModel", "sumAll", "()I"⟩, 40), (⟨"TexelBankModel", "allPlaces", "()I"⟩, 40)]
theorem lw_r7 : ∀ q ∈ lw_privs_7, lw_okq q := List.forall_mem_cons.mpr ⟨lw_p96, List.forall_mem_cons.mpr ⟨lw_p97, List.forall_mem_cons.mpr ⟨lw_p98, List.forall_mem_cons.mpr ⟨lw_p99, List.forall_mem_cons.mpr ⟨lw_p100, List.forall_mem_cons.mpr ⟨lw_p101, List.forall_mem_cons.mpr ⟨lw_p102, List.forall_mem_cons.mpr ⟨lw_p103, fun _ h => absurd h List.not_mem_nil⟩⟩⟩⟩⟩⟩⟩⟩
def lw_privs : List (MethodName × Nat) := lw_privs_1 ++ (lw_privs_2 ++ (lw_privs_3 ++ (lw_privs_4 ++ (lw_privs_5 ++ (lw_privs_6 ++ (lw_privs_7))))))
def lw_tbl : List Cond := k2_sels lw_privs ++ tables_1
theorem lw_privs_ok : ∀ q ∈ lw_privs, lw_okq q := by
  show ∀ q ∈ lw_privs_1 ++ (lw_privs_2 ++ (lw_privs_3 ++ (lw_privs_4 ++ (lw_privs_5 ++ (lw_privs_6 ++ (lw_privs_7)))))), lw_okq q
  exact List.forall_mem_append.mpr ⟨lw_r1, List.forall_mem_append.mpr ⟨lw_r2, List.forall_mem_append.mpr ⟨lw_r3, List.forall_mem_append.mpr ⟨lw_r4, List.forall_mem_append.mpr ⟨lw_r5, List.forall_mem_append.mpr ⟨lw_r6, lw_r7⟩⟩⟩⟩⟩⟩
/-! ===== BEGIN new T[n][m]: the outer array a place, the inner ones among the pooled ===== -/
/-- f, but v at every address of l -/
def vr_up {α : Type} (f : Nat → α) (l : List Nat) (v : α) : Nat → α := fun a => if a ∈ l then v else f a
theorem vr_up_in {α : Type} {f : Nat → α} {l : List Nat} {v : α} {a : Nat} (h : a ∈ l) : vr_up f l v a = v := if_pos h
theorem vr_up_ne {α : Type} {f : Nat → α} {l : List Nat} {v : α} {a : Nat} (h : a ∉ l) : vr_up f l v a = f a := if_neg h
theorem vr_rows {L l : List Nat} {f : Nat → va_E} {e : va_E} (h : ∀ a, a ∈ l → a ∉ L) : va_pl L f ++ l.map (fun a => (a, e)) = va_pl (L ++ l) (vr_up f l e) := by
  unfold va_pl
  rw [List.map_append]
  congr 1
  · apply List.map_congr_left
    intro a ha
    rw [vr_up_ne (fun q => h a q ha)]
  · apply List.map_congr_left
    intro a ha
    rw [vr_up_in ha]
theorem vr_lay {X rows : va_W} {x : Nat × va_E} {pl : va_W} {D : va_G} {cl : List vw_C} {H : Heap} (hP : va_P D cl (((X ++ pl) ++ [x]) ++ rows) H) : va_P D cl ((X ++ [x]) ++ (pl ++ rows)) H := by
  rw [List.append_assoc (X ++ pl)] at hP
  have h := va_P.swap hP
  rw [← List.append_assoc X] at h
  have h2 := va_P.swap h
  rw [List.append_assoc (X ++ [x])] at h2
  exact h2
theorem vr_layD {X rows : va_W} {x : Nat × va_E} {pl : va_W} {A : Nat → Prop} (hD : va_D A (((X ++ pl) ++ [x]) ++ rows)) : va_D A ((X ++ [x]) ++ (pl ++ rows)) := by
  rw [List.append_assoc (X ++ pl)] at hD
  have h := va_D.swap hD
  rw [← List.append_assoc X] at h
  have h2 := va_D.swap h
  rw [List.append_assoc (X ++ [x])] at h2
  exact h2
theorem vr_outer (c : ClassId) (N h0 : Nat) : ∀ i : Nat, Jvm.Free.Multi.outerC c N h0 i = arrV c N (fun j => va_rf (if j < i then some (h0 + 1 + j) else none))
  | 0 => by
    show ({ cls := c, slots := Array.replicate N .null, vm := .none } : Cell) = _
    rw [arrV_new]
    refine congrArg (arrV c N) (funext fun j => ?_)
    simp [va_rf]
  | i + 1 => by
    show (Jvm.Free.Multi.outerC c N h0 i).setSlot i (.ref (h0 + 1 + i)) = _
    rw [vr_outer c N h0 i, arrV_store]
    refine congrArg (arrV c N) (funext fun j => ?_)
    by_cases e : j = i
    · subst e
      simp [updV, va_rf]
    · by_cases h : j < i
      · simp [updV, e, h, Nat.lt_succ_of_lt h]
      · simp [updV, e, h, show ¬ j < i + 1 by omega]
def va_AOA (ty : FieldType) (U : State) : Prop := (Jvm.Cond.arrayOver (.array ty)).before #[] U = true
theorem va_AOA.use {ty : FieldType} {A : Array Value} {U : State} (h : va_AOA ty U) : (Jvm.Cond.arrayOver (.array ty)).before A U = true := h
section VGM
variable {p : Program} {l : Launch} {e : Env} {R : Room} {s : State} {m : MethodId} {args : Array Value} {below : List Frame} {meth : Method} {c : Code} {H : Heap} {locs : List Loc} {cells slots : Nat} {Q : State → Prop}
variable {cc : ByteArray} {pc : Nat} {ls : Array Slot} {rest : List Value} {D : va_G} {cl : List vw_C} {A : Nat → Prop} {a : Nat} {tys : List (ClassId × FieldType)} {ws : va_W} {H0 : Heap}
theorem va_mna {X : va_W} {L : List Nat} {f : Nat → va_E} {cc : ByteArray} (hexec : p.tables.exec = Jvm.exec) (hb : c.code = cc) {own : String} {index : Nat} {ty : FieldType} {cy : ClassId} (hown : s.vm.findClass own = some m.cls) (hclink : (Cond.classLink own index ("[" ++ (FieldType.array ty).toString)).before args s = true) (hover : va_AOA ty s) (harr : (Cond.arrayClass ty).before args s = true) (hcy : s.vm.findClass (FieldType.array ty).toString = some cy)
    (hK : va_K D cl tys s) (hP : va_P D cl (X ++ va_pl L f) H) (hD : va_D A (X ++ va_pl L f)) (hS : va_S A H0 H locs) (hA : ∀ q, H0.size ≤ q → A q) {n k : Int32} {N' K' : Nat} {z : vp_A} (hn : ¬ n < 0) (hk : ¬ k < 0) (hN : n.toNatClampNeg = N') (hM : k.toNatClampNeg = K')
    (hb1 : N' * 4 ≤ 536870912) (hb2 : K' * componentBytes ty ≤ 536870912) (hb3 : K' ≤ 536870912) (hdf : fits ty (defaultValue ty) = true) (hdd : (defaultValue ty).isDefault = true) (hcells : cells + (1 + N') ≤ R.cells) (hslots : slots + (N' + N' * K') ≤ R.slots) (hz : ∀ c : ClassId, Jvm.Free.Multi.innerC c K' (defaultValue ty) = vp_cell c z) (hdg : decode cc pc = .ok (.multianewarray index 2, 4))
    (kk : ∀ (q : Nat) (r : Nat → Nat) (cA : ClassId) (H1 : Heap), (∀ i j : Nat, i < N' → j < N' → r i = r j → i = j) → (∀ i : Nat, i < N' → r i ∉ L) → va_K D cl (tys ++ [(cA, .array ty)]) s →
      va_P D cl ((X ++ [(q, .inl (cA, N', .inr (.inr (.inr (.inr (fun i => if i < N' then some (r i) else none))))))]) ++ va_pl (L ++ (List.range N').map r) (vr_up f ((List.range N').map r) (.inl (cy, z)))) H1 → va_D A ((X ++ [(q, .inl (cA, N', .inr (.inr (.inr (.inr (fun i => if i < N' then some (r i) else none))))))]) ++ va_pl (L ++ (List.range N').map r) (vr_up f ((List.range N').map r) (.inl (cy, z)))) → va_S A H0 H1 locs →
      W p l e R s m args below meth c H1 locs (cells + 1 + N') (slots + N' + N' * K') Q (F0 m (pc + 4) ls (.ref q :: rest))) : W p l e R s m args below meth c H locs cells slots Q (F0 m pc ls (.int k :: .int n :: rest)) := by
  subst hN
  subst hM
  intro T hT Xs
  obtain ⟨vm₁, cA, comp, -, fA, fC, hO, -, X', step⟩ := Xs.multianewarray2F hexec hown hclink (va_AOA.use hover) harr (g := F0 m pc ls (.int k :: .int n :: rest)) rfl (by rw [hb]; exact hdg) rfl hn hk hb1 hb2 hb3 hdf hdd hcells hslots
  have ec : some cy = some comp := hcy.symm.trans fC
  cases ec
  generalize hF : Jvm.Free.Multi.fill (T.setVm vm₁) cA cy n.toNatClampNeg k.toNatClampNeg (defaultValue ty) n.toNatClampNeg = F at X' step
  have hTh : (T.setVm vm₁).heap = H := hT
  obtain ⟨f1, f2, -, -⟩ := Jvm.Free.Multi.fill_facts (T.setVm vm₁) cA cy n.toNatClampNeg k.toNatClampNeg (defaultValue ty) n.toNatClampNeg
  rw [hF, hTh] at f1 f2
  have hold : ∀ x : Nat, x < H.size → F.heap[x]? = H[x]? := fun x hx => by
    have := Jvm.Free.Multi.fill_old (T.setVm vm₁) cA cy n.toNatClampNeg k.toNatClampNeg (defaultValue ty) (a := x) (by rw [hTh]; exact hx) n.toNatClampNeg
    rw [hF, hTh] at this
    exact this
  have hrow : ∀ j : Nat, j < n.toNatClampNeg → F.heap[H.size + 1 + j]? = some (vp_cell cy z) := fun j hj => by
    have := Jvm.Free.Multi.fill_inner (T.setVm vm₁) cA cy n.toNatClampNeg k.toNatClampNeg (defaultValue ty) n.toNatClampNeg j hj
    rw [hF, hTh, hz] at this
    exact this
  have hout : Jvm.Free.Multi.outerC cA n.toNatClampNeg H.size n.toNatClampNeg = vp_cell cA (n.toNatClampNeg, .inr (.inr (.inr (.inr (fun i => if i < n.toNatClampNeg then some (H.size + 1 + i) else none))))) := by
    rw [vp_cell_q]
    exact vr_outer cA n.toNatClampNeg H.size n.toNatClampNeg
  rw [hout] at f2
  have hlt : ∀ a, a ∈ L → a < H.size := fun a ha => by
    obtain ⟨k9, hk9⟩ := va_pl_get (X := X) (f := f) ha
    exact (hP k9 _ hk9).lt
  have hnl : ∀ i : Nat, i < n.toNatClampNeg → H.size + 1 + i ∉ L := fun i _ h => by
    have := hlt _ h
    omega
  have hnm : ∀ a, a ∈ (List.range n.toNatClampNeg).map (fun i => H.size + 1 + i) → a ∉ L := fun a ha h => by
    obtain ⟨i, -, rfl⟩ := List.mem_map.mp ha
    have := hlt _ h
    omega
  have hP0 : va_P D cl (X ++ va_pl L f) F.heap := hP.kept (fun k9 x hx => hold x.1 ((hP k9 x hx).lt))
  have hP1 : va_P D cl ((X ++ va_pl L f) ++ [(H.size, .inl (cA, n.toNatClampNeg, .inr (.inr (.inr (.inr (fun i => if i < n.toNatClampNeg then some (H.size + 1 + i) else none))))))]) F.heap := hP0.app (fun k9 x hx => by
    have h0 : k9 < 1 := (List.getElem?_eq_some_iff.mp hx).1
    rw [show k9 = 0 by omega] at hx
    cases hx
    exact f2)
  have hP2 : va_P D cl (((X ++ va_pl L f) ++ [(H.size, .inl (cA, n.toNatClampNeg, .inr (.inr (.inr (.inr (fun i => if i < n.toNatClampNeg then some (H.size + 1 + i) else none))))))]) ++ ((List.range n.toNatClampNeg).map (fun i => H.size + 1 + i)).map (fun a => (a, .inl (cy, z)))) F.heap := hP1.app (fun k9 x hx => by
    obtain ⟨a, ha, rfl⟩ := List.mem_map.mp (List.mem_of_getElem? hx)
    obtain ⟨i, hi, rfl⟩ := List.mem_map.mp ha
    exact hrow i (List.mem_range.mp hi))
  have hD2 : va_D A (((X ++ va_pl L f) ++ [(H.size, .inl (cA, n.toNatClampNeg, .inr (.inr (.inr (.inr (fun i => if i < n.toNatClampNeg then some (H.size + 1 + i) else none))))))]) ++ ((List.range n.toNatClampNeg).map (fun i => H.size + 1 + i)).map (fun a => (a, .inl (cy, z)))) := by
    have hD1 := hD.push (e := .inl (cA, n.toNatClampNeg, .inr (.inr (.inr (.inr (fun i => if i < n.toNatClampNeg then some (H.size + 1 + i) else none)))))) hP rfl (hA _ hS.1)
    generalize hW1 : (X ++ va_pl L f) ++ [(H.size, .inl (cA, n.toNatClampNeg, .inr (.inr (.inr (.inr (fun i => if i < n.toNatClampNeg then some (H.size + 1 + i) else none))))))] = W1 at hD1 hP1 ⊢
    have hle : ∀ (k9 : Nat) (x : Nat × va_E), W1[k9]? = some x → x.1 ≤ H.size := fun k9 x hx => by
      rw [← hW1] at hx
      by_cases hl : k9 < (X ++ va_pl L f).length
      · rw [List.getElem?_append_left hl] at hx
        exact Nat.le_of_lt ((hP k9 x hx).lt)
      · rw [List.getElem?_append_right (by omega)] at hx
        have h0 : k9 - (X ++ va_pl L f).length < 1 := (List.getElem?_eq_some_iff.mp hx).1
        rw [show k9 - (X ++ va_pl L f).length = 0 by omega] at hx
        cases hx
        exact Nat.le_refl _
    have hr : ∀ (k9 : Nat) (x : Nat × va_E), (((List.range n.toNatClampNeg).map (fun i => H.size + 1 + i)).map (fun a => ((a, .inl (cy, z)) : Nat × va_E)))[k9]? = some x → x.1 = H.size + 1 + k9 := fun k9 x hx => by
      rw [List.getElem?_map, List.getElem?_map] at hx
      by_cases h9 : k9 < n.toNatClampNeg
      · rw [List.getElem?_range h9] at hx
        cases hx
        rfl
      · have hn0 : (List.range n.toNatClampNeg)[k9]? = none := List.getElem?_eq_none (by rw [List.length_range]; omega)
        rw [hn0] at hx
        cases hx
    refine ⟨fun i j x y hi hj hxy => ?_, fun k9 x hx => ?_⟩
    · by_cases h1 : i < W1.length <;> by_cases h2 : j < W1.length
      · rw [List.getElem?_append_left h1] at hi
        rw [List.getElem?_append_left h2] at hj
        exact hD1.1 i j x y hi hj hxy
      · rw [List.getElem?_append_left h1] at hi
        rw [List.getElem?_append_right (by omega)] at hj
        have := hle _ _ hi
        have := hr _ _ hj
        omega
      · rw [List.getElem?_append_right (by omega)] at hi
        rw [List.getElem?_append_left h2] at hj
        have := hle _ _ hj
        have := hr _ _ hi
        omega
      · rw [List.getElem?_append_right (by omega)] at hi hj
        have := hr _ _ hi
        have := hr _ _ hj
        omega
    · by_cases h1 : k9 < W1.length
      · rw [List.getElem?_append_left h1] at hx
        exact hD1.2 k9 x hx
      · rw [List.getElem?_append_right (by omega)] at hx
        have := hr _ _ hx
        exact hA _ (by have := hS.1; omega)
  have hAr : ArrOfT s cA (.array ty) := fun N9 z9 => by
    obtain ⟨-, k9, hk9, cm9, hkk9⟩ := (hO 0 0 0).1
    exact ⟨(fun q hq => by cases hq), k9, hk9, cm9, hkk9⟩
  have hK2 : va_K D cl (tys ++ [(cA, .array ty)]) s := ⟨hK.1, fun k9 x hx => by
    by_cases hl : k9 < tys.length
    · rw [List.getElem?_append_left hl] at hx
      exact hK.2 k9 x hx
    · rw [List.getElem?_append_right (by omega)] at hx
      have h0 : k9 - tys.length < 1 := (List.getElem?_eq_some_iff.mp hx).1
      rw [show k9 - tys.length = 0 by omega] at hx
      cases hx
      exact ⟨hAr, fA⟩⟩
  obtain ⟨t, a1, b1⟩ := kk H.size (fun i => H.size + 1 + i) cA F.heap (fun i j _ _ h => by have h9 : H.size + 1 + i = H.size + 1 + j := h; omega) hnl hK2 (by rw [← vr_rows hnm]; exact vr_lay hP2) (by rw [← vr_rows hnm]; exact vr_layD hD2) ⟨by rw [f1]; have := hS.1; omega, fun x h1 h2 => (hold x (Nat.lt_of_lt_of_le h1 hS.1)).trans (hS.2.1 x h1 h2), hS.2.2⟩ F rfl X'
  refine ⟨t, step t ?_, b1⟩
  have e : T.heap.size = H.size := by rw [hT]
  rw [e]
  exact a1
end VGM

/-! ===== BEGIN printed: names, fields, word lists, decode rows ===== -/
def RX0 : String := "TexelBank$Acts"
def TX0 : u_T := fun k => match k with
  | 0 => ("TexelBank$Acts", "rows", "[[I", true)
  | 1 => ("TexelBank$Acts", "ofStore", "[I", true)
  | 2 => ("TexelBank$Acts", "oldest", "I", false)
  | _ => ("TexelBank$Acts", "count", "I", false)
def tyX0 : Nat → FieldType := fun k => match k with
  | 0 => .array (.array .int)
  | 1 => .array .int
  | 2 => .int
  | _ => .int
abbrev wsX00 : List Cond := u_ws RX0 TX0 4
theorem nmX0 : ∀ a, a < 4 → ∀ b, b < 4 → a ≠ b → (TX0 a).2.1 ≠ (TX0 b).2.1 := by decide +kernel
theorem tyX0_ok : ∀ k, k < 4 → parseFieldDescriptor (TX0 k).2.2.1 = some (tyX0 k) := by decide +kernel
abbrev cX0_init : ByteArray := prog_2_method_1_code
def yX0_init : MethodName := ⟨RX0, "<init>", "()V"⟩
abbrev cX0_clear : ByteArray := prog_2_method_2_code
def yX0_clear : MethodName := ⟨RX0, "clear", "()V"⟩
abbrev cX0_slot : ByteArray := prog_2_method_3_code
def yX0_slot : MethodName := ⟨RX0, "slot", "(I)I"⟩
abbrev cX0_begun : ByteArray := prog_2_method_4_code
def yX0_begun : MethodName := ⟨RX0, "begun", "()[I"⟩
abbrev cX0_begin : ByteArray := prog_2_method_5_code
def yX0_begin : MethodName := ⟨RX0, "begin", "(I[I)V"⟩
abbrev cX0_keep : ByteArray := prog_2_method_6_code
def yX0_keep : MethodName := ⟨RX0, "keep", "()V"⟩
abbrev cX0_takeBack : ByteArray := prog_2_method_7_code
def yX0_takeBack : MethodName := ⟨RX0, "takeBack", "(LTexelBank$Stores;)V"⟩
def RX1 : String := "TexelBank$Cache"
def TX1 : u_T := fun k => match k with
  | 0 => ("TexelBank$Cache", "lines", "[I", true)
  | 1 => ("TexelBank$Cache", "fetched", "[I", true)
  | 2 => ("TexelBank$Cache", "sets", "I", false)
  | 3 => ("TexelBank$Cache", "ways", "I", false)
  | 4 => ("TexelBank$Cache", "span", "I", false)
  | 5 => ("TexelBank$Cache", "clock", "I", false)
  | _ => ("TexelBank$Cache", "held", "I", false)
def tyX1 : Nat → FieldType := fun k => match k with
  | 0 => .array .int
  | 1 => .array .int
  | 2 => .int
  | 3 => .int
  | 4 => .int
  | 5 => .int
  | _ => .int
abbrev wsX10 : List Cond := u_ws RX1 TX1 7
theorem nmX1 : ∀ a, a < 7 → ∀ b, b < 7 → a ≠ b → (TX1 a).2.1 ≠ (TX1 b).2.1 := by decide +kernel
theorem tyX1_ok : ∀ k, k < 7 → parseFieldDescriptor (TX1 k).2.2.1 = some (tyX1 k) := by decide +kernel
abbrev cX1_init : ByteArray := prog_3_method_1_code
def yX1_init : MethodName := ⟨RX1, "<init>", "()V"⟩
abbrev cX1_shape : ByteArray := prog_3_method_2_code
def yX1_shape : MethodName := ⟨RX1, "shape", "(III)V"⟩
abbrev cX1_clear : ByteArray := prog_3_method_3_code
def yX1_clear : MethodName := ⟨RX1, "clear", "()V"⟩
abbrev cX1_lineOf : ByteArray := prog_3_method_4_code
def yX1_lineOf : MethodName := ⟨RX1, "lineOf", "(II)I"⟩
abbrev cX1_slotToGive : ByteArray := prog_3_method_5_code
def yX1_slotToGive : MethodName := ⟨RX1, "slotToGive", "(I)I"⟩
abbrev cX1_holdAgain : ByteArray := prog_3_method_6_code
def yX1_holdAgain : MethodName := ⟨RX1, "holdAgain", "(I)Z"⟩
abbrev cX1_missesOf : ByteArray := prog_3_method_7_code
def yX1_missesOf : MethodName := ⟨RX1, "missesOf", "(LTexelBank$Texture;III)I"⟩
def RX2 : String := "TexelBank$Footprint"
def TX2 : u_T := fun k => match k with
  | 0 => ("TexelBank$Footprint", "taps", "I", false)
  | 1 => ("TexelBank$Footprint", "longest", "I", false)
  | 2 => ("TexelBank$Footprint", "which", "I", false)
  | 3 => ("TexelBank$Footprint", "longU", "I", false)
  | 4 => ("TexelBank$Footprint", "longV", "I", false)
  | _ => ("TexelBank$Footprint", "halvings", "I", false)
def tyX2 : Nat → FieldType := fun k => match k with
  | 0 => .int
  | 1 => .int
  | 2 => .int
  | 3 => .int
  | 4 => .int
  | _ => .int
abbrev wsX20 : List Cond := u_ws RX2 TX2 6
theorem nmX2 : ∀ a, a < 6 → ∀ b, b < 6 → a ≠ b → (TX2 a).2.1 ≠ (TX2 b).2.1 := by decide +kernel
theorem tyX2_ok : ∀ k, k < 6 → parseFieldDescriptor (TX2 k).2.2.1 = some (tyX2 k) := by decide +kernel
abbrev cX2_init : ByteArray := prog_4_method_1_code
def yX2_init : MethodName := ⟨RX2, "<init>", "()V"⟩
abbrev cX2_measure : ByteArray := prog_4_method_2_code
def yX2_measure : MethodName := ⟨RX2, "measure", "(IIII)V"⟩
abbrev cX2_tapsOf : ByteArray := prog_4_method_3_code
def yX2_tapsOf : MethodName := ⟨RX2, "tapsOf", "(II)I"⟩
def RX3 : String := "TexelBank$Lexer"
def TX3 : u_T := fun k => match k with
  | 0 => ("TexelBank$Lexer", "vocabulary", "[J", true)
  | 1 => ("TexelBank$Lexer", "text", "[B", false)
  | 2 => ("TexelBank$Lexer", "end", "I", false)
  | 3 => ("TexelBank$Lexer", "next", "I", false)
  | 4 => ("TexelBank$Lexer", "sort", "I", false)
  | 5 => ("TexelBank$Lexer", "start", "I", false)
  | 6 => ("TexelBank$Lexer", "number", "I", false)
  | 7 => ("TexelBank$Lexer", "word", "J", false)
  | 8 => ("TexelBank$Lexer", "letters", "I", false)
  | _ => ("TexelBank$Lexer", "keyword", "I", false)
def tyX3 : Nat → FieldType := fun k => match k with
  | 0 => .array .long
  | 1 => .array .byte
  | 2 => .int
  | 3 => .int
  | 4 => .int
  | 5 => .int
  | 6 => .int
  | 7 => .long
  | 8 => .int
  | _ => .int
abbrev wsX30 : List Cond := u_ws RX3 TX3 10
theorem nmX3 : ∀ a, a < 10 → ∀ b, b < 10 → a ≠ b → (TX3 a).2.1 ≠ (TX3 b).2.1 := by decide +kernel
theorem tyX3_ok : ∀ k, k < 10 → parseFieldDescriptor (TX3 k).2.2.1 = some (tyX3 k) := by decide +kernel
abbrev cX3_init : ByteArray := prog_5_method_1_code
def yX3_init : MethodName := ⟨RX3, "<init>", "()V"⟩
abbrev cX3_learn : ByteArray := prog_5_method_2_code
def yX3_learn : MethodName := ⟨RX3, "learn", "(Ljava/lang/String;I)I"⟩
abbrev cX3_withLetter : ByteArray := prog_5_method_3_code
def yX3_withLetter : MethodName := ⟨RX3, "withLetter", "(JI)J"⟩
abbrev cX3_open : ByteArray := prog_5_method_4_code
def yX3_open : MethodName := ⟨RX3, "open", "([BI)V"⟩
abbrev cX3_step : ByteArray := prog_5_method_5_code
def yX3_step : MethodName := ⟨RX3, "step", "()V"⟩
abbrev cX3_isLetterNext : ByteArray := prog_5_method_6_code
def yX3_isLetterNext : MethodName := ⟨RX3, "isLetterNext", "()Z"⟩
abbrev cX3_isDigitNext : ByteArray := prog_5_method_7_code
def yX3_isDigitNext : MethodName := ⟨RX3, "isDigitNext", "()Z"⟩
abbrev cX3_readWord : ByteArray := prog_5_method_8_code
def yX3_readWord : MethodName := ⟨RX3, "readWord", "()V"⟩
abbrev cX3_readNumber : ByteArray := prog_5_method_9_code
def yX3_readNumber : MethodName := ⟨RX3, "readNumber", "()V"⟩
def RX4 : String := "TexelBank$Packer"
def TX4 : u_T := fun k => match k with
  | _ => ("TexelBank$Packer", "numbers", "[I", true)
def tyX4 : Nat → FieldType := fun k => match k with
  | _ => .array .int
abbrev wsX40 : List Cond := u_ws RX4 TX4 1
theorem nmX4 : ∀ a, a < 1 → ∀ b, b < 1 → a ≠ b → (TX4 a).2.1 ≠ (TX4 b).2.1 := by decide +kernel
theorem tyX4_ok : ∀ k, k < 1 → parseFieldDescriptor (TX4 k).2.2.1 = some (tyX4 k) := by decide +kernel
abbrev cX4_init : ByteArray := prog_6_method_1_code
def yX4_init : MethodName := ⟨RX4, "<init>", "()V"⟩
abbrev cX4_read : ByteArray := prog_6_method_2_code
def yX4_read : MethodName := ⟨RX4, "read", "(LTexelBank$Texture;III)V"⟩
abbrev cX4_packed : ByteArray := prog_6_method_3_code
def yX4_packed : MethodName := ⟨RX4, "packed", "()J"⟩
abbrev cX4_nearestChoice : ByteArray := prog_6_method_4_code
def yX4_nearestChoice : MethodName := ⟨RX4, "nearestChoice", "(III)I"⟩
abbrev cX4_chosen : ByteArray := prog_6_method_5_code
def yX4_chosen : MethodName := ⟨RX4, "chosen", "(III)I"⟩
abbrev cX4_unpacked : ByteArray := prog_6_method_6_code
def yX4_unpacked : MethodName := ⟨RX4, "unpacked", "(JI)I"⟩
abbrev cX4_distanceTo : ByteArray := prog_6_method_7_code
def yX4_distanceTo : MethodName := ⟨RX4, "distanceTo", "(J)I"⟩
def RX5 : String := "TexelBank$Plan"
def TX5 : u_T := fun k => match k with
  | 0 => ("TexelBank$Plan", "names", "[J", true)
  | 1 => ("TexelBank$Plan", "kinds", "[I", true)
  | 2 => ("TexelBank$Plan", "lengths", "[I", true)
  | 3 => ("TexelBank$Plan", "textures", "[LTexelBank$Texture;", true)
  | 4 => ("TexelBank$Plan", "fills", "[I", true)
  | 5 => ("TexelBank$Plan", "storeCount", "I", false)
  | 6 => ("TexelBank$Plan", "textureCount", "I", false)
  | 7 => ("TexelBank$Plan", "fillCount", "I", false)
  | 8 => ("TexelBank$Plan", "cacheTold", "Z", false)
  | 9 => ("TexelBank$Plan", "sets", "I", false)
  | 10 => ("TexelBank$Plan", "ways", "I", false)
  | _ => ("TexelBank$Plan", "span", "I", false)
def tyX5 : Nat → FieldType := fun k => match k with
  | 0 => .array .long
  | 1 => .array .int
  | 2 => .array .int
  | 3 => .array (.object "TexelBank$Texture")
  | 4 => .array .int
  | 5 => .int
  | 6 => .int
  | 7 => .int
  | 8 => .boolean
  | 9 => .int
  | 10 => .int
  | _ => .int
abbrev wsX50 : List Cond := u_ws RX5 TX5 12
theorem nmX5 : ∀ a, a < 12 → ∀ b, b < 12 → a ≠ b → (TX5 a).2.1 ≠ (TX5 b).2.1 := by decide +kernel
theorem tyX5_ok : ∀ k, k < 12 → parseFieldDescriptor (TX5 k).2.2.1 = some (tyX5 k) := by decide +kernel
abbrev cX5_init : ByteArray := prog_7_method_1_code
def yX5_init : MethodName := ⟨RX5, "<init>", "([I)V"⟩
abbrev cX5_clear : ByteArray := prog_7_method_2_code
def yX5_clear : MethodName := ⟨RX5, "clear", "()V"⟩
abbrev cX5_addStore : ByteArray := prog_7_method_3_code
def yX5_addStore : MethodName := ⟨RX5, "addStore", "(JII)V"⟩
abbrev cX5_storeNamed : ByteArray := prog_7_method_4_code
def yX5_storeNamed : MethodName := ⟨RX5, "storeNamed", "(J)I"⟩
abbrev cX5_textureNamed : ByteArray := prog_7_method_5_code
def yX5_textureNamed : MethodName := ⟨RX5, "textureNamed", "(J)I"⟩
def RX6 : String := "TexelBank$Sampler"
def TX6 : u_T := fun k => match k with
  | _ => ("", "", "", false)
def tyX6 : Nat → FieldType := fun k => match k with
  | _ => .int
abbrev wsX60 : List Cond := u_ws RX6 TX6 0
theorem nmX6 : ∀ a, a < 0 → ∀ b, b < 0 → a ≠ b → (TX6 a).2.1 ≠ (TX6 b).2.1 := by decide +kernel
theorem tyX6_ok : ∀ k, k < 0 → parseFieldDescriptor (TX6 k).2.2.1 = some (tyX6 k) := by decide +kernel
abbrev cX6_ofFour : ByteArray := prog_8_method_2_code
def yX6_ofFour : MethodName := ⟨RX6, "ofFour", "(LTexelBank$Texture;III)I"⟩
abbrev cX6_ofTwoLevels : ByteArray := prog_8_method_3_code
def yX6_ofTwoLevels : MethodName := ⟨RX6, "ofTwoLevels", "(LTexelBank$Texture;III)I"⟩
abbrev cX6_alongAxis : ByteArray := prog_8_method_4_code
def yX6_alongAxis : MethodName := ⟨RX6, "alongAxis", "(LTexelBank$Texture;LTexelBank$Footprint;II)I"⟩
def RX7 : String := "TexelBank$Stores"
def TX7 : u_T := fun k => match k with
  | 0 => ("TexelBank$Stores", "rows", "[[I", true)
  | 1 => ("TexelBank$Stores", "kinds", "[I", true)
  | 2 => ("TexelBank$Stores", "lengths", "[I", true)
  | 3 => ("TexelBank$Stores", "images", "[[I", true)
  | 4 => ("TexelBank$Stores", "hasImage", "[Z", true)
  | _ => ("TexelBank$Stores", "count", "I", false)
def tyX7 : Nat → FieldType := fun k => match k with
  | 0 => .array (.array .int)
  | 1 => .array .int
  | 2 => .array .int
  | 3 => .array (.array .int)
  | 4 => .array .boolean
  | _ => .int
abbrev wsX70 : List Cond := u_ws RX7 TX7 6
theorem nmX7 : ∀ a, a < 6 → ∀ b, b < 6 → a ≠ b → (TX7 a).2.1 ≠ (TX7 b).2.1 := by decide +kernel
theorem tyX7_ok : ∀ k, k < 6 → parseFieldDescriptor (TX7 k).2.2.1 = some (tyX7 k) := by decide +kernel
abbrev cX7_init : ByteArray := prog_9_method_1_code
def yX7_init : MethodName := ⟨RX7, "<init>", "()V"⟩
abbrev cX7_open : ByteArray := prog_9_method_2_code
def yX7_open : MethodName := ⟨RX7, "open", "(LTexelBank$Plan;)V"⟩
abbrev cX7_widens : ByteArray := prog_9_method_3_code
def yX7_widens : MethodName := ⟨RX7, "widens", "(II)Z"⟩
abbrev cX7_cut : ByteArray := prog_9_method_4_code
def yX7_cut : MethodName := ⟨RX7, "cut", "(II)I"⟩
abbrev cX7_has : ByteArray := prog_9_method_5_code
def yX7_has : MethodName := ⟨RX7, "has", "(I)Z"⟩
abbrev cX7_isRow : ByteArray := prog_9_method_6_code
def yX7_isRow : MethodName := ⟨RX7, "isRow", "(I)Z"⟩
abbrev cX7_numberAt : ByteArray := prog_9_method_7_code
def yX7_numberAt : MethodName := ⟨RX7, "numberAt", "(II)I"⟩
abbrev cX7_boxAt : ByteArray := prog_9_method_8_code
def yX7_boxAt : MethodName := ⟨RX7, "boxAt", "(II)I"⟩
abbrev cX7_sumOf : ByteArray := prog_9_method_9_code
def yX7_sumOf : MethodName := ⟨RX7, "sumOf", "(I)J"⟩
abbrev cX7_placeCount : ByteArray := prog_9_method_10_code
def yX7_placeCount : MethodName := ⟨RX7, "placeCount", "()I"⟩
abbrev cX7_refusedRow : ByteArray := prog_9_method_11_code
def yX7_refusedRow : MethodName := ⟨RX7, "refusedRow", "(IZ)I"⟩
abbrev cX7_refusedPlace : ByteArray := prog_9_method_12_code
def yX7_refusedPlace : MethodName := ⟨RX7, "refusedPlace", "(IIZ)I"⟩
abbrev cX7_refusedAsking : ByteArray := prog_9_method_13_code
def yX7_refusedAsking : MethodName := ⟨RX7, "refusedAsking", "(III)I"⟩
abbrev cX7_refusedPoking : ByteArray := prog_9_method_14_code
def yX7_refusedPoking : MethodName := ⟨RX7, "refusedPoking", "(III)I"⟩
abbrev cX7_refusedPutting : ByteArray := prog_9_method_15_code
def yX7_refusedPutting : MethodName := ⟨RX7, "refusedPutting", "(III)I"⟩
abbrev cX7_set : ByteArray := prog_9_method_16_code
def yX7_set : MethodName := ⟨RX7, "set", "(IIII)Z"⟩
abbrev cX7_keepImage : ByteArray := prog_9_method_17_code
def yX7_keepImage : MethodName := ⟨RX7, "keepImage", "(I)V"⟩
abbrev cX7_giveBackImage : ByteArray := prog_9_method_18_code
def yX7_giveBackImage : MethodName := ⟨RX7, "giveBackImage", "(I)V"⟩
def RX8 : String := "TexelBank$Tally"
def TX8 : u_T := fun k => match k with
  | 0 => ("TexelBank$Tally", "times", "[I", true)
  | 1 => ("TexelBank$Tally", "hits", "I", false)
  | _ => ("TexelBank$Tally", "misses", "I", false)
def tyX8 : Nat → FieldType := fun k => match k with
  | 0 => .array .int
  | 1 => .int
  | _ => .int
abbrev wsX80 : List Cond := u_ws RX8 TX8 3
theorem nmX8 : ∀ a, a < 3 → ∀ b, b < 3 → a ≠ b → (TX8 a).2.1 ≠ (TX8 b).2.1 := by decide +kernel
theorem tyX8_ok : ∀ k, k < 3 → parseFieldDescriptor (TX8 k).2.2.1 = some (tyX8 k) := by decide +kernel
abbrev cX8_init : ByteArray := prog_10_method_1_code
def yX8_init : MethodName := ⟨RX8, "<init>", "()V"⟩
abbrev cX8_clear : ByteArray := prog_10_method_2_code
def yX8_clear : MethodName := ⟨RX8, "clear", "()V"⟩
abbrev cX8_count : ByteArray := prog_10_method_3_code
def yX8_count : MethodName := ⟨RX8, "count", "(IZ)V"⟩
abbrev cX8_ranked : ByteArray := prog_10_method_4_code
def yX8_ranked : MethodName := ⟨RX8, "ranked", "(I)I"⟩
abbrev cX8_greatestBelow : ByteArray := prog_10_method_5_code
def yX8_greatestBelow : MethodName := ⟨RX8, "greatestBelow", "(I)I"⟩
def RX9 : String := "TexelBank$Teller"
def TX9 : u_T := fun k => match k with
  | 0 => ("TexelBank$Teller", "lexer", "LTexelBank$Lexer;", true)
  | 1 => ("TexelBank$Teller", "plan", "LTexelBank$Plan;", false)
  | 2 => ("TexelBank$Teller", "fault", "I", false)
  | 3 => ("TexelBank$Teller", "faultPlace", "I", false)
  | 4 => ("TexelBank$Teller", "value", "I", false)
  | _ => ("TexelBank$Teller", "name", "J", false)
def tyX9 : Nat → FieldType := fun k => match k with
  | 0 => .object "TexelBank$Lexer"
  | 1 => .object "TexelBank$Plan"
  | 2 => .int
  | 3 => .int
  | 4 => .int
  | _ => .long
abbrev wsX90 : List Cond := u_ws RX9 TX9 6
theorem nmX9 : ∀ a, a < 6 → ∀ b, b < 6 → a ≠ b → (TX9 a).2.1 ≠ (TX9 b).2.1 := by decide +kernel
theorem tyX9_ok : ∀ k, k < 6 → parseFieldDescriptor (TX9 k).2.2.1 = some (tyX9 k) := by decide +kernel
abbrev cX9_init : ByteArray := prog_11_method_1_code
def yX9_init : MethodName := ⟨RX9, "<init>", "()V"⟩
abbrev cX9_tells : ByteArray := prog_11_method_2_code
def yX9_tells : MethodName := ⟨RX9, "tells", "([BILTexelBank$Plan;)Z"⟩
abbrev cX9_refuse : ByteArray := prog_11_method_3_code
def yX9_refuse : MethodName := ⟨RX9, "refuse", "(I)Z"⟩
abbrev cX9_passOneOf : ByteArray := prog_11_method_4_code
def yX9_passOneOf : MethodName := ⟨RX9, "passOneOf", "(II)Z"⟩
abbrev cX9_passSign : ByteArray := prog_11_method_5_code
def yX9_passSign : MethodName := ⟨RX9, "passSign", "()Z"⟩
abbrev cX9_passNumber : ByteArray := prog_11_method_6_code
def yX9_passNumber : MethodName := ⟨RX9, "passNumber", "(II)Z"⟩
abbrev cX9_isNumber : ByteArray := prog_11_method_7_code
def yX9_isNumber : MethodName := ⟨RX9, "isNumber", "(II)Z"⟩
abbrev cX9_passPower : ByteArray := prog_11_method_8_code
def yX9_passPower : MethodName := ⟨RX9, "passPower", "(I)Z"⟩
abbrev cX9_isName : ByteArray := prog_11_method_9_code
def yX9_isName : MethodName := ⟨RX9, "isName", "()Z"⟩
abbrev cX9_takeName : ByteArray := prog_11_method_10_code
def yX9_takeName : MethodName := ⟨RX9, "takeName", "()Z"⟩
abbrev cX9_passNewName : ByteArray := prog_11_method_11_code
def yX9_passNewName : MethodName := ⟨RX9, "passNewName", "()Z"⟩
abbrev cX9_tellsCache : ByteArray := prog_11_method_12_code
def yX9_tellsCache : MethodName := ⟨RX9, "tellsCache", "()Z"⟩
abbrev cX9_tellsStore : ByteArray := prog_11_method_13_code
def yX9_tellsStore : MethodName := ⟨RX9, "tellsStore", "()Z"⟩
abbrev cX9_tellsNoRow : ByteArray := prog_11_method_14_code
def yX9_tellsNoRow : MethodName := ⟨RX9, "tellsNoRow", "(I)Z"⟩
abbrev cX9_tellsTexture : ByteArray := prog_11_method_15_code
def yX9_tellsTexture : MethodName := ⟨RX9, "tellsTexture", "()Z"⟩
abbrev cX9_passStoreOf : ByteArray := prog_11_method_16_code
def yX9_passStoreOf : MethodName := ⟨RX9, "passStoreOf", "(LTexelBank$Texture;)Z"⟩
abbrev cX9_passExtent : ByteArray := prog_11_method_17_code
def yX9_passExtent : MethodName := ⟨RX9, "passExtent", "(LTexelBank$Texture;)Z"⟩
abbrev cX9_tellsFill : ByteArray := prog_11_method_18_code
def yX9_tellsFill : MethodName := ⟨RX9, "tellsFill", "()Z"⟩
def RX10 : String := "TexelBank$Texture"
def TX10 : u_T := fun k => match k with
  | 0 => ("TexelBank$Texture", "firsts", "[I", true)
  | 1 => ("TexelBank$Texture", "wides", "[I", true)
  | 2 => ("TexelBank$Texture", "highs", "[I", true)
  | 3 => ("TexelBank$Texture", "name", "J", false)
  | 4 => ("TexelBank$Texture", "store", "I", false)
  | 5 => ("TexelBank$Texture", "kind", "I", false)
  | 6 => ("TexelBank$Texture", "row", "[I", false)
  | 7 => ("TexelBank$Texture", "width", "I", false)
  | 8 => ("TexelBank$Texture", "height", "I", false)
  | 9 => ("TexelBank$Texture", "levels", "I", false)
  | 10 => ("TexelBank$Texture", "order", "I", false)
  | _ => ("TexelBank$Texture", "wrapping", "I", false)
def tyX10 : Nat → FieldType := fun k => match k with
  | 0 => .array .int
  | 1 => .array .int
  | 2 => .array .int
  | 3 => .long
  | 4 => .int
  | 5 => .int
  | 6 => .array .int
  | 7 => .int
  | 8 => .int
  | 9 => .int
  | 10 => .int
  | _ => .int
abbrev wsX100 : List Cond := u_ws RX10 TX10 12
theorem nmX10 : ∀ a, a < 12 → ∀ b, b < 12 → a ≠ b → (TX10 a).2.1 ≠ (TX10 b).2.1 := by decide +kernel
theorem tyX10_ok : ∀ k, k < 12 → parseFieldDescriptor (TX10 k).2.2.1 = some (tyX10 k) := by decide +kernel
abbrev cX10_init : ByteArray := prog_12_method_1_code
def yX10_init : MethodName := ⟨RX10, "<init>", "([I)V"⟩
abbrev cX10_layLevels : ByteArray := prog_12_method_2_code
def yX10_layLevels : MethodName := ⟨RX10, "layLevels", "(II)V"⟩
abbrev cX10_texelCount : ByteArray := prog_12_method_3_code
def yX10_texelCount : MethodName := ⟨RX10, "texelCount", "(I)I"⟩
abbrev cX10_placeCount : ByteArray := prog_12_method_4_code
def yX10_placeCount : MethodName := ⟨RX10, "placeCount", "()I"⟩
abbrev cX10_hasLevel : ByteArray := prog_12_method_5_code
def yX10_hasLevel : MethodName := ⟨RX10, "hasLevel", "(I)Z"⟩
abbrev cX10_hasTexel : ByteArray := prog_12_method_6_code
def yX10_hasTexel : MethodName := ⟨RX10, "hasTexel", "(III)Z"⟩
abbrev cX10_hasBehind : ByteArray := prog_12_method_7_code
def yX10_hasBehind : MethodName := ⟨RX10, "hasBehind", "(II)Z"⟩
abbrev cX10_behind : ByteArray := prog_12_method_8_code
def yX10_behind : MethodName := ⟨RX10, "behind", "(IIII)I"⟩
abbrev cX10_alongCurve : ByteArray := prog_12_method_9_code
def yX10_alongCurve : MethodName := ⟨RX10, "alongCurve", "(IIII)I"⟩
abbrev cX10_behindOnWalk : ByteArray := prog_12_method_10_code
def yX10_behindOnWalk : MethodName := ⟨RX10, "behindOnWalk", "(IIII)I"⟩
abbrev cX10_texelBehind : ByteArray := prog_12_method_11_code
def yX10_texelBehind : MethodName := ⟨RX10, "texelBehind", "(II)I"⟩
abbrev cX10_texelOnCurve : ByteArray := prog_12_method_12_code
def yX10_texelOnCurve : MethodName := ⟨RX10, "texelOnCurve", "(III)I"⟩
abbrev cX10_placeOf : ByteArray := prog_12_method_13_code
def yX10_placeOf : MethodName := ⟨RX10, "placeOf", "(III)I"⟩
abbrev cX10_numberOf : ByteArray := prog_12_method_14_code
def yX10_numberOf : MethodName := ⟨RX10, "numberOf", "(III)I"⟩
abbrev cX10_wrappedNumber : ByteArray := prog_12_method_15_code
def yX10_wrappedNumber : MethodName := ⟨RX10, "wrappedNumber", "(III)I"⟩
abbrev cX10_wrapped : ByteArray := prog_12_method_16_code
def yX10_wrapped : MethodName := ⟨RX10, "wrapped", "(II)I"⟩
abbrev cX10_set : ByteArray := prog_12_method_17_code
def yX10_set : MethodName := ⟨RX10, "set", "(IIII)V"⟩
abbrev cX10_pour : ByteArray := prog_12_method_18_code
def yX10_pour : MethodName := ⟨RX10, "pour", "(III)V"⟩
abbrev cX10_remake : ByteArray := prog_12_method_19_code
def yX10_remake : MethodName := ⟨RX10, "remake", "()V"⟩
abbrev cX10_made : ByteArray := prog_12_method_20_code
def yX10_made : MethodName := ⟨RX10, "made", "(III)I"⟩
abbrev cX10_countStale : ByteArray := prog_12_method_21_code
def yX10_countStale : MethodName := ⟨RX10, "countStale", "()I"⟩
def RX11 : String := "TexelBank"
def TX11 : u_T := fun k => match k with
  | 0 => ("TexelBank", "tape", "[B", true)
  | 1 => ("TexelBank", "tapeLength", "I", false)
  | 2 => ("TexelBank", "teller", "LTexelBank$Teller;", true)
  | 3 => ("TexelBank", "plan", "LTexelBank$Plan;", false)
  | 4 => ("TexelBank", "draft", "LTexelBank$Plan;", false)
  | 5 => ("TexelBank", "stores", "LTexelBank$Stores;", true)
  | 6 => ("TexelBank", "acts", "LTexelBank$Acts;", true)
  | 7 => ("TexelBank", "cache", "LTexelBank$Cache;", true)
  | 8 => ("TexelBank", "trial", "LTexelBank$Cache;", true)
  | 9 => ("TexelBank", "tally", "LTexelBank$Tally;", true)
  | 10 => ("TexelBank", "footprint", "LTexelBank$Footprint;", true)
  | _ => ("TexelBank", "packer", "LTexelBank$Packer;", true)
def tyX11 : Nat → FieldType := fun k => match k with
  | 0 => .array .byte
  | 1 => .int
  | 2 => .object "TexelBank$Teller"
  | 3 => .object "TexelBank$Plan"
  | 4 => .object "TexelBank$Plan"
  | 5 => .object "TexelBank$Stores"
  | 6 => .object "TexelBank$Acts"
  | 7 => .object "TexelBank$Cache"
  | 8 => .object "TexelBank$Cache"
  | 9 => .object "TexelBank$Tally"
  | 10 => .object "TexelBank$Footprint"
  | _ => .object "TexelBank$Packer"
abbrev wsX110 : List Cond := u_ws RX11 TX11 12
theorem nmX11 : ∀ a, a < 12 → ∀ b, b < 12 → a ≠ b → (TX11 a).2.1 ≠ (TX11 b).2.1 := by decide +kernel
theorem tyX11_ok : ∀ k, k < 12 → parseFieldDescriptor (TX11 k).2.2.1 = some (tyX11 k) := by decide +kernel
abbrev cX11_init : ByteArray := prog_1_method_1_code
def yX11_init : MethodName := ⟨RX11, "<init>", "()V"⟩
abbrev cX11_feed : ByteArray := prog_1_method_2_code
def yX11_feed : MethodName := ⟨RX11, "feed", "(IIIII)I"⟩
abbrev cX11_append : ByteArray := prog_1_method_3_code
def yX11_append : MethodName := ⟨RX11, "append", "(I)V"⟩
abbrev cX11_end : ByteArray := prog_1_method_4_code
def yX11_end : MethodName := ⟨RX11, "end", "(I)I"⟩
abbrev cX11_bank : ByteArray := prog_1_method_5_code
def yX11_bank : MethodName := ⟨RX11, "bank", "()I"⟩
abbrev cX11_pourFills : ByteArray := prog_1_method_6_code
def yX11_pourFills : MethodName := ⟨RX11, "pourFills", "()V"⟩
abbrev cX11_fault : ByteArray := prog_1_method_7_code
def yX11_fault : MethodName := ⟨RX11, "fault", "(I)I"⟩
abbrev cX11_kind : ByteArray := prog_1_method_8_code
def yX11_kind : MethodName := ⟨RX11, "kind", "(I)I"⟩
abbrev cX11_length : ByteArray := prog_1_method_9_code
def yX11_length : MethodName := ⟨RX11, "length", "(I)I"⟩
abbrev cX11_peek : ByteArray := prog_1_method_10_code
def yX11_peek : MethodName := ⟨RX11, "peek", "(III)I"⟩
abbrev cX11_poke : ByteArray := prog_1_method_11_code
def yX11_poke : MethodName := ⟨RX11, "poke", "(IIII)I"⟩
abbrev cX11_put : ByteArray := prog_1_method_12_code
def yX11_put : MethodName := ⟨RX11, "put", "(IIII)I"⟩
abbrev cX11_setPlace : ByteArray := prog_1_method_13_code
def yX11_setPlace : MethodName := ⟨RX11, "setPlace", "(IIII)V"⟩
abbrev cX11_isBoxOf : ByteArray := prog_1_method_14_code
def yX11_isBoxOf : MethodName := ⟨RX11, "isBoxOf", "(II)Z"⟩
abbrev cX11_within : ByteArray := prog_1_method_15_code
def yX11_within : MethodName := ⟨RX11, "within", "(II)Z"⟩
abbrev cX11_convert : ByteArray := prog_1_method_16_code
def yX11_convert : MethodName := ⟨RX11, "convert", "(II)I"⟩
abbrev cX11_unlike : ByteArray := prog_1_method_17_code
def yX11_unlike : MethodName := ⟨RX11, "unlike", "(II)I"⟩
abbrev cX11_total : ByteArray := prog_1_method_18_code
def yX11_total : MethodName := ⟨RX11, "total", "(I)J"⟩
abbrev cX11_find : ByteArray := prog_1_method_19_code
def yX11_find : MethodName := ⟨RX11, "find", "(III)I"⟩
abbrev cX11_loses : ByteArray := prog_1_method_20_code
def yX11_loses : MethodName := ⟨RX11, "loses", "(II)I"⟩
abbrev cX11_undo : ByteArray := prog_1_method_21_code
def yX11_undo : MethodName := ⟨RX11, "undo", "()I"⟩
abbrev cX11_hasTexture : ByteArray := prog_1_method_22_code
def yX11_hasTexture : MethodName := ⟨RX11, "hasTexture", "(I)Z"⟩
abbrev cX11_hasLevel : ByteArray := prog_1_method_23_code
def yX11_hasLevel : MethodName := ⟨RX11, "hasLevel", "(II)Z"⟩
abbrev cX11_hasTexel : ByteArray := prog_1_method_24_code
def yX11_hasTexel : MethodName := ⟨RX11, "hasTexel", "(IIII)Z"⟩
abbrev cX11_texture : ByteArray := prog_1_method_25_code
def yX11_texture : MethodName := ⟨RX11, "texture", "(II)I"⟩
abbrev cX11_level : ByteArray := prog_1_method_26_code
def yX11_level : MethodName := ⟨RX11, "level", "(III)I"⟩
abbrev cX11_place : ByteArray := prog_1_method_27_code
def yX11_place : MethodName := ⟨RX11, "place", "(IIII)I"⟩
abbrev cX11_at : ByteArray := prog_1_method_28_code
def yX11_at : MethodName := ⟨RX11, "at", "(III)I"⟩
abbrev cX11_texel : ByteArray := prog_1_method_29_code
def yX11_texel : MethodName := ⟨RX11, "texel", "(IIII)I"⟩
abbrev cX11_paint : ByteArray := prog_1_method_30_code
def yX11_paint : MethodName := ⟨RX11, "paint", "(IIII)I"⟩
abbrev cX11_fill : ByteArray := prog_1_method_31_code
def yX11_fill : MethodName := ⟨RX11, "fill", "(IIII)I"⟩
abbrev cX11_make : ByteArray := prog_1_method_32_code
def yX11_make : MethodName := ⟨RX11, "make", "(I)I"⟩
abbrev cX11_settle : ByteArray := prog_1_method_33_code
def yX11_settle : MethodName := ⟨RX11, "settle", "(LTexelBank$Texture;)I"⟩
abbrev cX11_wrap : ByteArray := prog_1_method_34_code
def yX11_wrap : MethodName := ⟨RX11, "wrap", "(III)I"⟩
abbrev cX11_canSample : ByteArray := prog_1_method_35_code
def yX11_canSample : MethodName := ⟨RX11, "canSample", "(IIII)Z"⟩
abbrev cX11_nearest : ByteArray := prog_1_method_36_code
def yX11_nearest : MethodName := ⟨RX11, "nearest", "(IIII)I"⟩
abbrev cX11_smooth : ByteArray := prog_1_method_37_code
def yX11_smooth : MethodName := ⟨RX11, "smooth", "(IIII)I"⟩
abbrev cX11_blend : ByteArray := prog_1_method_38_code
def yX11_blend : MethodName := ⟨RX11, "blend", "(IIII)I"⟩
abbrev cX11_isFootprint : ByteArray := prog_1_method_39_code
def yX11_isFootprint : MethodName := ⟨RX11, "isFootprint", "(IIII)Z"⟩
abbrev cX11_axis : ByteArray := prog_1_method_40_code
def yX11_axis : MethodName := ⟨RX11, "axis", "(IIIII)I"⟩
abbrev cX11_filtered : ByteArray := prog_1_method_41_code
def yX11_filtered : MethodName := ⟨RX11, "filtered", "(IIIIIII)I"⟩
abbrev cX11_isInFour : ByteArray := prog_1_method_42_code
def yX11_isInFour : MethodName := ⟨RX11, "isInFour", "(II)Z"⟩
abbrev cX11_unpack : ByteArray := prog_1_method_43_code
def yX11_unpack : MethodName := ⟨RX11, "unpack", "(JII)I"⟩
abbrev cX11_pack : ByteArray := prog_1_method_44_code
def yX11_pack : MethodName := ⟨RX11, "pack", "(IIII)J"⟩
abbrev cX11_off : ByteArray := prog_1_method_45_code
def yX11_off : MethodName := ⟨RX11, "off", "(IIII)I"⟩
abbrev cX11_fetch : ByteArray := prog_1_method_46_code
def yX11_fetch : MethodName := ⟨RX11, "fetch", "(IIII)I"⟩
abbrev cX11_flush : ByteArray := prog_1_method_47_code
def yX11_flush : MethodName := ⟨RX11, "flush", "()I"⟩
abbrev cX11_walk : ByteArray := prog_1_method_48_code
def yX11_walk : MethodName := ⟨RX11, "walk", "(III)I"⟩
abbrev cX11_bestWalk : ByteArray := prog_1_method_49_code
def yX11_bestWalk : MethodName := ⟨RX11, "bestWalk", "(II)I"⟩
abbrev cX11_walkAs : ByteArray := prog_1_method_50_code
def yX11_walkAs : MethodName := ⟨RX11, "walkAs", "(IIII)I"⟩
abbrev cX11_bestOrder : ByteArray := prog_1_method_51_code
def yX11_bestOrder : MethodName := ⟨RX11, "bestOrder", "(III)I"⟩
abbrev cX11_moved : ByteArray := prog_1_method_52_code
def yX11_moved : MethodName := ⟨RX11, "moved", "(IIII)I"⟩
abbrev cX11_area : ByteArray := prog_1_method_53_code
def yX11_area : MethodName := ⟨RX11, "area", "(IIIIII)I"⟩
abbrev cX11_stale : ByteArray := prog_1_method_54_code
def yX11_stale : MethodName := ⟨RX11, "stale", "(I)I"⟩
abbrev cX11_leaves : ByteArray := prog_1_method_55_code
def yX11_leaves : MethodName := ⟨RX11, "leaves", "(I)I"⟩
abbrev cX11_hottest : ByteArray := prog_1_method_56_code
def yX11_hottest : MethodName := ⟨RX11, "hottest", "(II)I"⟩
abbrev cX11_image : ByteArray := prog_1_method_57_code
def yX11_image : MethodName := ⟨RX11, "image", "(I)I"⟩
abbrev cX11_back : ByteArray := prog_1_method_58_code
def yX11_back : MethodName := ⟨RX11, "back", "(I)I"⟩
abbrev cX11_remainder : ByteArray := prog_1_method_59_code
def yX11_remainder : MethodName := ⟨RX11, "remainder", "()I"⟩
abbrev cX11_about : ByteArray := prog_1_method_60_code
def yX11_about : MethodName := ⟨RX11, "about", "(I)I"⟩
abbrev cX11_takes : ByteArray := prog_1_method_61_code
def yX11_takes : MethodName := ⟨RX11, "takes", "(II)Z"⟩
def RX12 : String := "TexelBankModel"
def TX12 : u_T := fun k => match k with
  | 0 => ("TexelBankModel", "tape", "[I", true)
  | 1 => ("TexelBankModel", "taped", "I", false)
  | 2 => ("TexelBankModel", "size", "I", false)
  | 3 => ("TexelBankModel", "at", "I", false)
  | 4 => ("TexelBankModel", "place", "I", false)
  | 5 => ("TexelBankModel", "sort", "I", false)
  | 6 => ("TexelBankModel", "value", "I", false)
  | 7 => ("TexelBankModel", "letters", "I", false)
  | 8 => ("TexelBankModel", "fault", "I", false)
  | 9 => ("TexelBankModel", "faultPlace", "I", false)
  | 10 => ("TexelBankModel", "toldFault", "I", false)
  | 11 => ("TexelBankModel", "toldPlace", "I", false)
  | 12 => ("TexelBankModel", "word", "J", false)
  | 13 => ("TexelBankModel", "told", "[I", true)
  | 14 => ("TexelBankModel", "names", "[J", true)
  | 15 => ("TexelBankModel", "textureNames", "[J", true)
  | 16 => ("TexelBankModel", "kindOf", "[I", true)
  | 17 => ("TexelBankModel", "lengthOf", "[I", true)
  | 18 => ("TexelBankModel", "texture", "[I", true)
  | 19 => ("TexelBankModel", "fills", "[I", true)
  | 20 => ("TexelBankModel", "filled", "I", false)
  | 21 => ("TexelBankModel", "hasCache", "Z", false)
  | 22 => ("TexelBankModel", "num", "[I", true)
  | 23 => ("TexelBankModel", "there", "[I", true)
  | 24 => ("TexelBankModel", "pastNum", "[I", true)
  | 25 => ("TexelBankModel", "pastThere", "[I", true)
  | 26 => ("TexelBankModel", "acts", "I", false)
  | 27 => ("TexelBankModel", "wereNum", "[I", true)
  | 28 => ("TexelBankModel", "wereThere", "[I", true)
  | 29 => ("TexelBankModel", "isOther", "Z", false)
  | 30 => ("TexelBankModel", "asOrder", "I", false)
  | 31 => ("TexelBankModel", "lineAt", "[I", true)
  | 32 => ("TexelBankModel", "when", "[I", true)
  | 33 => ("TexelBankModel", "often", "[I", true)
  | 34 => ("TexelBankModel", "hits", "I", false)
  | 35 => ("TexelBankModel", "misses", "I", false)
  | 36 => ("TexelBankModel", "clock", "I", false)
  | 37 => ("TexelBankModel", "boxNum", "[I", true)
  | 38 => ("TexelBankModel", "boxThere", "[I", true)
  | _ => ("TexelBankModel", "isKept", "[Z", true)
def tyX12 : Nat → FieldType := fun k => match k with
  | 0 => .array .int
  | 1 => .int
  | 2 => .int
  | 3 => .int
  | 4 => .int
  | 5 => .int
  | 6 => .int
  | 7 => .int
  | 8 => .int
  | 9 => .int
  | 10 => .int
  | 11 => .int
  | 12 => .long
  | 13 => .array .int
  | 14 => .array .long
  | 15 => .array .long
  | 16 => .array .int
  | 17 => .array .int
  | 18 => .array .int
  | 19 => .array .int
  | 20 => .int
  | 21 => .boolean
  | 22 => .array .int
  | 23 => .array .int
  | 24 => .array .int
  | 25 => .array .int
  | 26 => .int
  | 27 => .array .int
  | 28 => .array .int
  | 29 => .boolean
  | 30 => .int
  | 31 => .array .int
  | 32 => .array .int
  | 33 => .array .int
  | 34 => .int
  | 35 => .int
  | 36 => .int
  | 37 => .array .int
  | 38 => .array .int
  | _ => .array .boolean
abbrev wsX120 : List Cond := u_ws RX12 TX12 40
theorem nmX12 : ∀ a, a < 40 → ∀ b, b < 40 → a ≠ b → (TX12 a).2.1 ≠ (TX12 b).2.1 := by decide +kernel
theorem tyX12_ok : ∀ k, k < 40 → parseFieldDescriptor (TX12 k).2.2.1 = some (tyX12 k) := by decide +kernel
abbrev cX12_init : ByteArray := prog_14_method_1_code
def yX12_init : MethodName := ⟨RX12, "<init>", "()V"⟩
abbrev cX12_isIn : ByteArray := prog_14_method_2_code
def yX12_isIn : MethodName := ⟨RX12, "isIn", "(III)Z"⟩
abbrev cX12_greater : ByteArray := prog_14_method_3_code
def yX12_greater : MethodName := ⟨RX12, "greater", "(II)I"⟩
abbrev cX12_lesser : ByteArray := prog_14_method_4_code
def yX12_lesser : MethodName := ⟨RX12, "lesser", "(II)I"⟩
abbrev cX12_truth : ByteArray := prog_14_method_5_code
def yX12_truth : MethodName := ⟨RX12, "truth", "(Z)I"⟩
abbrev cX12_plus : ByteArray := prog_14_method_6_code
def yX12_plus : MethodName := ⟨RX12, "plus", "(I)I"⟩
abbrev cX12_down : ByteArray := prog_14_method_7_code
def yX12_down : MethodName := ⟨RX12, "down", "(II)I"⟩
abbrev cX12_up : ByteArray := prog_14_method_8_code
def yX12_up : MethodName := ⟨RX12, "up", "(II)I"⟩
abbrev cX12_feed : ByteArray := prog_14_method_9_code
def yX12_feed : MethodName := ⟨RX12, "feed", "(IIIII)I"⟩
abbrev cX12_four : ByteArray := prog_14_method_10_code
def yX12_four : MethodName := ⟨RX12, "four", "(I)V"⟩
abbrev cX12_end : ByteArray := prog_14_method_11_code
def yX12_end : MethodName := ⟨RX12, "end", "(I)I"⟩
abbrev cX12_here : ByteArray := prog_14_method_12_code
def yX12_here : MethodName := ⟨RX12, "here", "(I)I"⟩
abbrev cX12_isLetter : ByteArray := prog_14_method_13_code
def yX12_isLetter : MethodName := ⟨RX12, "isLetter", "(I)Z"⟩
abbrev cX12_isDigit : ByteArray := prog_14_method_14_code
def yX12_isDigit : MethodName := ⟨RX12, "isDigit", "(I)Z"⟩
abbrev cX12_goOn : ByteArray := prog_14_method_15_code
def yX12_goOn : MethodName := ⟨RX12, "goOn", "()V"⟩
abbrev cX12_wrong : ByteArray := prog_14_method_16_code
def yX12_wrong : MethodName := ⟨RX12, "wrong", "(I)V"⟩
abbrev cX12_isGood : ByteArray := prog_14_method_17_code
def yX12_isGood : MethodName := ⟨RX12, "isGood", "()Z"⟩
abbrev cX12_isWord : ByteArray := prog_14_method_18_code
def yX12_isWord : MethodName := ⟨RX12, "isWord", "(J)Z"⟩
abbrev cX12_kindHere : ByteArray := prog_14_method_19_code
def yX12_kindHere : MethodName := ⟨RX12, "kindHere", "()I"⟩
abbrev cX12_orderHere : ByteArray := prog_14_method_20_code
def yX12_orderHere : MethodName := ⟨RX12, "orderHere", "()I"⟩
abbrev cX12_wrapHere : ByteArray := prog_14_method_21_code
def yX12_wrapHere : MethodName := ⟨RX12, "wrapHere", "()I"⟩
abbrev cX12_isOwn : ByteArray := prog_14_method_22_code
def yX12_isOwn : MethodName := ⟨RX12, "isOwn", "()Z"⟩
abbrev cX12_needs : ByteArray := prog_14_method_23_code
def yX12_needs : MethodName := ⟨RX12, "needs", "(J)V"⟩
abbrev cX12_numberHere : ByteArray := prog_14_method_24_code
def yX12_numberHere : MethodName := ⟨RX12, "numberHere", "(II)I"⟩
abbrev cX12_number : ByteArray := prog_14_method_25_code
def yX12_number : MethodName := ⟨RX12, "number", "(II)I"⟩
abbrev cX12_power : ByteArray := prog_14_method_26_code
def yX12_power : MethodName := ⟨RX12, "power", "(I)I"⟩
abbrev cX12_nameHere : ByteArray := prog_14_method_27_code
def yX12_nameHere : MethodName := ⟨RX12, "nameHere", "()J"⟩
abbrev cX12_begins : ByteArray := prog_14_method_28_code
def yX12_begins : MethodName := ⟨RX12, "begins", "()V"⟩
abbrev cX12_storeNamed : ByteArray := prog_14_method_29_code
def yX12_storeNamed : MethodName := ⟨RX12, "storeNamed", "(J)I"⟩
abbrev cX12_textureNamed : ByteArray := prog_14_method_30_code
def yX12_textureNamed : MethodName := ⟨RX12, "textureNamed", "(J)I"⟩
abbrev cX12_newName : ByteArray := prog_14_method_31_code
def yX12_newName : MethodName := ⟨RX12, "newName", "()J"⟩
abbrev cX12_cacheLine : ByteArray := prog_14_method_32_code
def yX12_cacheLine : MethodName := ⟨RX12, "cacheLine", "()V"⟩
abbrev cX12_storeLine : ByteArray := prog_14_method_33_code
def yX12_storeLine : MethodName := ⟨RX12, "storeLine", "(I)V"⟩
abbrev cX12_halvings : ByteArray := prog_14_method_34_code
def yX12_halvings : MethodName := ⟨RX12, "halvings", "(I)I"⟩
abbrev cX12_halved : ByteArray := prog_14_method_35_code
def yX12_halved : MethodName := ⟨RX12, "halved", "(II)I"⟩
abbrev cX12_placesOf : ByteArray := prog_14_method_36_code
def yX12_placesOf : MethodName := ⟨RX12, "placesOf", "(III)I"⟩
abbrev cX12_textureLine : ByteArray := prog_14_method_37_code
def yX12_textureLine : MethodName := ⟨RX12, "textureLine", "()V"⟩
abbrev cX12_fillLine : ByteArray := prog_14_method_38_code
def yX12_fillLine : MethodName := ⟨RX12, "fillLine", "()V"⟩
abbrev cX12_line : ByteArray := prog_14_method_39_code
def yX12_line : MethodName := ⟨RX12, "line", "()V"⟩
abbrev cX12_takesHalf : ByteArray := prog_14_method_40_code
def yX12_takesHalf : MethodName := ⟨RX12, "takesHalf", "([I)V"⟩
abbrev cX12_takesOver : ByteArray := prog_14_method_41_code
def yX12_takesOver : MethodName := ⟨RX12, "takesOver", "()V"⟩
abbrev cX12_bank : ByteArray := prog_14_method_42_code
def yX12_bank : MethodName := ⟨RX12, "bank", "()I"⟩
abbrev cX12_fault : ByteArray := prog_14_method_43_code
def yX12_fault : MethodName := ⟨RX12, "fault", "(I)I"⟩
abbrev cX12_stores : ByteArray := prog_14_method_44_code
def yX12_stores : MethodName := ⟨RX12, "stores", "()I"⟩
abbrev cX12_isStore : ByteArray := prog_14_method_45_code
def yX12_isStore : MethodName := ⟨RX12, "isStore", "(I)Z"⟩
abbrev cX12_isRow : ByteArray := prog_14_method_46_code
def yX12_isRow : MethodName := ⟨RX12, "isRow", "(I)Z"⟩
abbrev cX12_stands : ByteArray := prog_14_method_47_code
def yX12_stands : MethodName := ⟨RX12, "stands", "(II)Z"⟩
abbrev cX12_numberAt : ByteArray := prog_14_method_48_code
def yX12_numberAt : MethodName := ⟨RX12, "numberAt", "(II)I"⟩
abbrev cX12_isNumeric : ByteArray := prog_14_method_49_code
def yX12_isNumeric : MethodName := ⟨RX12, "isNumeric", "(I)Z"⟩
abbrev cX12_widens : ByteArray := prog_14_method_50_code
def yX12_widens : MethodName := ⟨RX12, "widens", "(II)Z"⟩
abbrev cX12_cut : ByteArray := prog_14_method_51_code
def yX12_cut : MethodName := ⟨RX12, "cut", "(II)I"⟩
abbrev cX12_kind : ByteArray := prog_14_method_52_code
def yX12_kind : MethodName := ⟨RX12, "kind", "(I)I"⟩
abbrev cX12_length : ByteArray := prog_14_method_53_code
def yX12_length : MethodName := ⟨RX12, "length", "(I)I"⟩
abbrev cX12_peek : ByteArray := prog_14_method_54_code
def yX12_peek : MethodName := ⟨RX12, "peek", "(III)I"⟩
abbrev cX12_begin : ByteArray := prog_14_method_55_code
def yX12_begin : MethodName := ⟨RX12, "begin", "()V"⟩
abbrev cX12_keeps : ByteArray := prog_14_method_56_code
def yX12_keeps : MethodName := ⟨RX12, "keeps", "()V"⟩
abbrev cX12_undo : ByteArray := prog_14_method_57_code
def yX12_undo : MethodName := ⟨RX12, "undo", "()I"⟩
abbrev cX12_sets : ByteArray := prog_14_method_58_code
def yX12_sets : MethodName := ⟨RX12, "sets", "(III)V"⟩
abbrev cX12_places : ByteArray := prog_14_method_59_code
def yX12_places : MethodName := ⟨RX12, "places", "(IIIZ)V"⟩
abbrev cX12_isValue : ByteArray := prog_14_method_60_code
def yX12_isValue : MethodName := ⟨RX12, "isValue", "(I)Z"⟩
abbrev cX12_poke : ByteArray := prog_14_method_61_code
def yX12_poke : MethodName := ⟨RX12, "poke", "(IIII)I"⟩
abbrev cX12_refusedBy : ByteArray := prog_14_method_62_code
def yX12_refusedBy : MethodName := ⟨RX12, "refusedBy", "(II)I"⟩
abbrev cX12_boxes : ByteArray := prog_14_method_63_code
def yX12_boxes : MethodName := ⟨RX12, "boxes", "(IIII)V"⟩
abbrev cX12_put : ByteArray := prog_14_method_64_code
def yX12_put : MethodName := ⟨RX12, "put", "(IIII)I"⟩
abbrev cX12_boxOf : ByteArray := prog_14_method_65_code
def yX12_boxOf : MethodName := ⟨RX12, "boxOf", "(II)I"⟩
abbrev cX12_convert : ByteArray := prog_14_method_66_code
def yX12_convert : MethodName := ⟨RX12, "convert", "(II)I"⟩
abbrev cX12_loses : ByteArray := prog_14_method_67_code
def yX12_loses : MethodName := ⟨RX12, "loses", "(II)I"⟩
abbrev cX12_unlike : ByteArray := prog_14_method_68_code
def yX12_unlike : MethodName := ⟨RX12, "unlike", "(II)I"⟩
abbrev cX12_total : ByteArray := prog_14_method_69_code
def yX12_total : MethodName := ⟨RX12, "total", "(I)J"⟩
abbrev cX12_find : ByteArray := prog_14_method_70_code
def yX12_find : MethodName := ⟨RX12, "find", "(III)I"⟩
abbrev cX12_of : ByteArray := prog_14_method_71_code
def yX12_of : MethodName := ⟨RX12, "of", "(II)I"⟩
abbrev cX12_isTexture : ByteArray := prog_14_method_72_code
def yX12_isTexture : MethodName := ⟨RX12, "isTexture", "(I)Z"⟩
abbrev cX12_isLevel : ByteArray := prog_14_method_73_code
def yX12_isLevel : MethodName := ⟨RX12, "isLevel", "(II)Z"⟩
abbrev cX12_wide : ByteArray := prog_14_method_74_code
def yX12_wide : MethodName := ⟨RX12, "wide", "(II)I"⟩
abbrev cX12_high : ByteArray := prog_14_method_75_code
def yX12_high : MethodName := ⟨RX12, "high", "(II)I"⟩
abbrev cX12_firstOf : ByteArray := prog_14_method_76_code
def yX12_firstOf : MethodName := ⟨RX12, "firstOf", "(II)I"⟩
abbrev cX12_isTexel : ByteArray := prog_14_method_77_code
def yX12_isTexel : MethodName := ⟨RX12, "isTexel", "(IIII)Z"⟩
abbrev cX12_texture : ByteArray := prog_14_method_78_code
def yX12_texture : MethodName := ⟨RX12, "texture", "(II)I"⟩
abbrev cX12_level : ByteArray := prog_14_method_79_code
def yX12_level : MethodName := ⟨RX12, "level", "(III)I"⟩
abbrev cX12_curve : ByteArray := prog_14_method_80_code
def yX12_curve : MethodName := ⟨RX12, "curve", "(IIII)I"⟩
abbrev cX12_behind : ByteArray := prog_14_method_81_code
def yX12_behind : MethodName := ⟨RX12, "behind", "(IIII)I"⟩
abbrev cX12_placeOf : ByteArray := prog_14_method_82_code
def yX12_placeOf : MethodName := ⟨RX12, "placeOf", "(IIII)I"⟩
abbrev cX12_place : ByteArray := prog_14_method_83_code
def yX12_place : MethodName := ⟨RX12, "place", "(IIII)I"⟩
abbrev cX12_at : ByteArray := prog_14_method_84_code
def yX12_at : MethodName := ⟨RX12, "at", "(III)I"⟩
abbrev cX12_texelAt : ByteArray := prog_14_method_85_code
def yX12_texelAt : MethodName := ⟨RX12, "texelAt", "(IIII)I"⟩
abbrev cX12_moved : ByteArray := prog_14_method_86_code
def yX12_moved : MethodName := ⟨RX12, "moved", "(IIII)I"⟩
abbrev cX12_texel : ByteArray := prog_14_method_87_code
def yX12_texel : MethodName := ⟨RX12, "texel", "(IIII)I"⟩
abbrev cX12_colours : ByteArray := prog_14_method_88_code
def yX12_colours : MethodName := ⟨RX12, "colours", "(IIIII)V"⟩
abbrev cX12_below : ByteArray := prog_14_method_89_code
def yX12_below : MethodName := ⟨RX12, "below", "(IIII)I"⟩
abbrev cX12_makes : ByteArray := prog_14_method_90_code
def yX12_makes : MethodName := ⟨RX12, "makes", "(I)V"⟩
abbrev cX12_fillsWith : ByteArray := prog_14_method_91_code
def yX12_fillsWith : MethodName := ⟨RX12, "fillsWith", "(IIII)V"⟩
abbrev cX12_changedIn : ByteArray := prog_14_method_92_code
def yX12_changedIn : MethodName := ⟨RX12, "changedIn", "(I)I"⟩
abbrev cX12_kept : ByteArray := prog_14_method_93_code
def yX12_kept : MethodName := ⟨RX12, "kept", "(I)I"⟩
abbrev cX12_paint : ByteArray := prog_14_method_94_code
def yX12_paint : MethodName := ⟨RX12, "paint", "(IIII)I"⟩
abbrev cX12_isFill : ByteArray := prog_14_method_95_code
def yX12_isFill : MethodName := ⟨RX12, "isFill", "(I)Z"⟩
abbrev cX12_fill : ByteArray := prog_14_method_96_code
def yX12_fill : MethodName := ⟨RX12, "fill", "(IIII)I"⟩
abbrev cX12_make : ByteArray := prog_14_method_97_code
def yX12_make : MethodName := ⟨RX12, "make", "(I)I"⟩
abbrev cX12_stale : ByteArray := prog_14_method_98_code
def yX12_stale : MethodName := ⟨RX12, "stale", "(I)I"⟩
abbrev cX12_rest : ByteArray := prog_14_method_99_code
def yX12_rest : MethodName := ⟨RX12, "rest", "(II)I"⟩
abbrev cX12_wrapped : ByteArray := prog_14_method_100_code
def yX12_wrapped : MethodName := ⟨RX12, "wrapped", "(III)I"⟩
abbrev cX12_wrap : ByteArray := prog_14_method_101_code
def yX12_wrap : MethodName := ⟨RX12, "wrap", "(III)I"⟩
abbrev cX12_wrappedTexel : ByteArray := prog_14_method_102_code
def yX12_wrappedTexel : MethodName := ⟨RX12, "wrappedTexel", "(IIII)I"⟩
abbrev cX12_isUv : ByteArray := prog_14_method_103_code
def yX12_isUv : MethodName := ⟨RX12, "isUv", "(II)Z"⟩
abbrev cX12_nearest : ByteArray := prog_14_method_104_code
def yX12_nearest : MethodName := ⟨RX12, "nearest", "(IIII)I"⟩
abbrev cX12_smoothAt : ByteArray := prog_14_method_105_code
def yX12_smoothAt : MethodName := ⟨RX12, "smoothAt", "(IIII)I"⟩
abbrev cX12_smooth : ByteArray := prog_14_method_106_code
def yX12_smooth : MethodName := ⟨RX12, "smooth", "(IIII)I"⟩
abbrev cX12_isFar : ByteArray := prog_14_method_107_code
def yX12_isFar : MethodName := ⟨RX12, "isFar", "(I)Z"⟩
abbrev cX12_area : ByteArray := prog_14_method_108_code
def yX12_area : MethodName := ⟨RX12, "area", "(IIIIII)I"⟩
abbrev cX12_blend : ByteArray := prog_14_method_109_code
def yX12_blend : MethodName := ⟨RX12, "blend", "(IIII)I"⟩
abbrev cX12_taps : ByteArray := prog_14_method_110_code
def yX12_taps : MethodName := ⟨RX12, "taps", "(II)I"⟩
abbrev cX12_halvedOften : ByteArray := prog_14_method_111_code
def yX12_halvedOften : MethodName := ⟨RX12, "halvedOften", "(II)I"⟩
abbrev cX12_isAxis : ByteArray := prog_14_method_112_code
def yX12_isAxis : MethodName := ⟨RX12, "isAxis", "(II)Z"⟩
abbrev cX12_axis : ByteArray := prog_14_method_113_code
def yX12_axis : MethodName := ⟨RX12, "axis", "(IIIII)I"⟩
abbrev cX12_filtered : ByteArray := prog_14_method_114_code
def yX12_filtered : MethodName := ⟨RX12, "filtered", "(IIIIIII)I"⟩
abbrev cX12_choice : ByteArray := prog_14_method_115_code
def yX12_choice : MethodName := ⟨RX12, "choice", "(III)I"⟩
abbrev cX12_endOf : ByteArray := prog_14_method_116_code
def yX12_endOf : MethodName := ⟨RX12, "endOf", "(JI)I"⟩
abbrev cX12_unpack : ByteArray := prog_14_method_117_code
def yX12_unpack : MethodName := ⟨RX12, "unpack", "(JII)I"⟩
abbrev cX12_heldTexel : ByteArray := prog_14_method_118_code
def yX12_heldTexel : MethodName := ⟨RX12, "heldTexel", "(IIII)I"⟩
abbrev cX12_nearestChoice : ByteArray := prog_14_method_119_code
def yX12_nearestChoice : MethodName := ⟨RX12, "nearestChoice", "(III)I"⟩
abbrev cX12_packed : ByteArray := prog_14_method_120_code
def yX12_packed : MethodName := ⟨RX12, "packed", "(IIII)J"⟩
abbrev cX12_isBlock : ByteArray := prog_14_method_121_code
def yX12_isBlock : MethodName := ⟨RX12, "isBlock", "(IIII)Z"⟩
abbrev cX12_pack : ByteArray := prog_14_method_122_code
def yX12_pack : MethodName := ⟨RX12, "pack", "(IIII)J"⟩
abbrev cX12_off : ByteArray := prog_14_method_123_code
def yX12_off : MethodName := ⟨RX12, "off", "(IIII)I"⟩
abbrev cX12_empties : ByteArray := prog_14_method_124_code
def yX12_empties : MethodName := ⟨RX12, "empties", "()V"⟩
abbrev cX12_lineOf : ByteArray := prog_14_method_125_code
def yX12_lineOf : MethodName := ⟨RX12, "lineOf", "(IIII)I"⟩
abbrev cX12_fetches : ByteArray := prog_14_method_126_code
def yX12_fetches : MethodName := ⟨RX12, "fetches", "(II)Z"⟩
abbrev cX12_fetch : ByteArray := prog_14_method_127_code
def yX12_fetch : MethodName := ⟨RX12, "fetch", "(IIII)I"⟩
abbrev cX12_heldLines : ByteArray := prog_14_method_128_code
def yX12_heldLines : MethodName := ⟨RX12, "heldLines", "()I"⟩
abbrev cX12_flush : ByteArray := prog_14_method_129_code
def yX12_flush : MethodName := ⟨RX12, "flush", "()I"⟩
abbrev cX12_step : ByteArray := prog_14_method_130_code
def yX12_step : MethodName := ⟨RX12, "step", "(IIII)I"⟩
abbrev cX12_missesOf : ByteArray := prog_14_method_131_code
def yX12_missesOf : MethodName := ⟨RX12, "missesOf", "(III)I"⟩
abbrev cX12_walk : ByteArray := prog_14_method_132_code
def yX12_walk : MethodName := ⟨RX12, "walk", "(III)I"⟩
abbrev cX12_missesAs : ByteArray := prog_14_method_133_code
def yX12_missesAs : MethodName := ⟨RX12, "missesAs", "(IIII)I"⟩
abbrev cX12_isWalk : ByteArray := prog_14_method_134_code
def yX12_isWalk : MethodName := ⟨RX12, "isWalk", "(III)Z"⟩
abbrev cX12_walkAs : ByteArray := prog_14_method_135_code
def yX12_walkAs : MethodName := ⟨RX12, "walkAs", "(IIII)I"⟩
abbrev cX12_bestOrder : ByteArray := prog_14_method_136_code
def yX12_bestOrder : MethodName := ⟨RX12, "bestOrder", "(III)I"⟩
abbrev cX12_bestWalk : ByteArray := prog_14_method_137_code
def yX12_bestWalk : MethodName := ⟨RX12, "bestWalk", "(II)I"⟩
abbrev cX12_leaves : ByteArray := prog_14_method_138_code
def yX12_leaves : MethodName := ⟨RX12, "leaves", "(I)I"⟩
abbrev cX12_ahead : ByteArray := prog_14_method_139_code
def yX12_ahead : MethodName := ⟨RX12, "ahead", "(I)I"⟩
abbrev cX12_hottest : ByteArray := prog_14_method_140_code
def yX12_hottest : MethodName := ⟨RX12, "hottest", "(II)I"⟩
abbrev cX12_sumAll : ByteArray := prog_14_method_141_code
def yX12_sumAll : MethodName := ⟨RX12, "sumAll", "()I"⟩
abbrev cX12_image : ByteArray := prog_14_method_142_code
def yX12_image : MethodName := ⟨RX12, "image", "(I)I"⟩
abbrev cX12_back : ByteArray := prog_14_method_143_code
def yX12_back : MethodName := ⟨RX12, "back", "(I)I"⟩
abbrev cX12_allPlaces : ByteArray := prog_14_method_144_code
def yX12_allPlaces : MethodName := ⟨RX12, "allPlaces", "()I"⟩
abbrev cX12_about : ByteArray := prog_14_method_145_code
def yX12_about : MethodName := ⟨RX12, "about", "(I)I"⟩
def RJ6 : String := "java/lang/Integer"
def TJ6 : u_T := fun k => match k with
  | _ => ("", "", "", false)
def tyJ6 : Nat → FieldType := fun k => match k with
  | _ => .int
abbrev wsJ60 : List Cond := u_ws RJ6 TJ6 0
theorem nmJ6 : ∀ a, a < 0 → ∀ b, b < 0 → a ≠ b → (TJ6 a).2.1 ≠ (TJ6 b).2.1 := by decide +kernel
theorem tyJ6_ok : ∀ k, k < 0 → parseFieldDescriptor (TJ6 k).2.2.1 = some (tyJ6 k) := by decide +kernel
abbrev cJ6_bitCount_0f7a4 : ByteArray := prog_15_method_49_code
def yJ6_bitCount_0f7a4 : MethodName := ⟨RJ6, "bitCount", "(I)I"⟩
def RJ9 : String := "java/lang/Math"
def TJ9 : u_T := fun k => match k with
  | _ => ("", "", "", false)
def tyJ9 : Nat → FieldType := fun k => match k with
  | _ => .int
abbrev wsJ90 : List Cond := u_ws RJ9 TJ9 0
theorem nmJ9 : ∀ a, a < 0 → ∀ b, b < 0 → a ≠ b → (TJ9 a).2.1 ≠ (TJ9 b).2.1 := by decide +kernel
theorem tyJ9_ok : ∀ k, k < 0 → parseFieldDescriptor (TJ9 k).2.2.1 = some (tyJ9 k) := by decide +kernel
abbrev cJ9_floorMod_7cf53 : ByteArray := prog_16_method_50_code
def yJ9_floorMod_7cf53 : MethodName := ⟨RJ9, "floorMod", "(II)I"⟩
abbrev cJ9_floorMod_f86c9 : ByteArray := prog_16_method_52_code
def yJ9_floorMod_f86c9 : MethodName := ⟨RJ9, "floorMod", "(JJ)J"⟩
abbrev cJ9_abs_0f7a4 : ByteArray := prog_16_method_59_code
def yJ9_abs_0f7a4 : MethodName := ⟨RJ9, "abs", "(I)I"⟩
abbrev cJ9_max_7cf53 : ByteArray := prog_16_method_65_code
def yJ9_max_7cf53 : MethodName := ⟨RJ9, "max", "(II)I"⟩
abbrev cJ9_min_7cf53 : ByteArray := prog_16_method_69_code
def yJ9_min_7cf53 : MethodName := ⟨RJ9, "min", "(II)I"⟩
def RJ0 : String := "java/lang/String"
def TJ0 : u_T := fun k => match k with
  | _ => ("", "", "", false)
def tyJ0 : Nat → FieldType := fun k => match k with
  | _ => .int
abbrev wsJ00 : List Cond := u_ws RJ0 TJ0 0
theorem nmJ0 : ∀ a, a < 0 → ∀ b, b < 0 → a ≠ b → (TJ0 a).2.1 ≠ (TJ0 b).2.1 := by decide +kernel
theorem tyJ0_ok : ∀ k, k < 0 → parseFieldDescriptor (TJ0 k).2.2.1 = some (tyJ0 k) := by decide +kernel
abbrev cJ0_length_8abf5 : ByteArray := prog_17_method_54_code
def yJ0_length_8abf5 : MethodName := ⟨RJ0, "length", "()I"⟩
abbrev cJ0_charAt_5068e : ByteArray := prog_17_method_56_code
def yJ0_charAt_5068e : MethodName := ⟨RJ0, "charAt", "(I)C"⟩
abbrev cJ0_coder_7d493 : ByteArray := prog_17_method_152_code
def yJ0_coder_7d493 : MethodName := ⟨RJ0, "coder", "()B"⟩
abbrev cJ0_isLatin1_aae02 : ByteArray := prog_17_method_154_code
def yJ0_isLatin1_aae02 : MethodName := ⟨RJ0, "isLatin1", "()Z"⟩
abbrev cJ0_checkIndex_df160 : ByteArray := prog_17_method_155_code
def yJ0_checkIndex_df160 : MethodName := ⟨RJ0, "checkIndex", "(II)V"⟩
def RJ1 : String := "java/lang/StringLatin1"
def TJ1 : u_T := fun k => match k with
  | _ => ("", "", "", false)
def tyJ1 : Nat → FieldType := fun k => match k with
  | _ => .int
abbrev wsJ10 : List Cond := u_ws RJ1 TJ1 0
theorem nmJ1 : ∀ a, a < 0 → ∀ b, b < 0 → a ≠ b → (TJ1 a).2.1 ≠ (TJ1 b).2.1 := by decide +kernel
theorem tyJ1_ok : ∀ k, k < 0 → parseFieldDescriptor (TJ1 k).2.2.1 = some (tyJ1 k) := by decide +kernel
abbrev cJ1_charAt_3b067 : ByteArray := prog_18_method_2_code
def yJ1_charAt_3b067 : MethodName := ⟨RJ1, "charAt", "([BI)C"⟩
def RJ2 : String := "java/lang/StringUTF16"
def TJ2 : u_T := fun k => match k with
  | _ => ("", "", "", false)
def tyJ2 : Nat → FieldType := fun k => match k with
  | _ => .int
abbrev wsJ20 : List Cond := u_ws RJ2 TJ2 0
theorem nmJ2 : ∀ a, a < 0 → ∀ b, b < 0 → a ≠ b → (TJ2 a).2.1 ≠ (TJ2 b).2.1 := by decide +kernel
theorem tyJ2_ok : ∀ k, k < 0 → parseFieldDescriptor (TJ2 k).2.2.1 = some (tyJ2 k) := by decide +kernel
abbrev cJ2_getChar_3b067 : ByteArray := prog_19_method_5_code
def yJ2_getChar_3b067 : MethodName := ⟨RJ2, "getChar", "([BI)C"⟩
abbrev cJ2_length_9d52b : ByteArray := prog_19_method_6_code
def yJ2_length_9d52b : MethodName := ⟨RJ2, "length", "([B)I"⟩
abbrev cJ2_charAt_3b067 : ByteArray := prog_19_method_83_code
def yJ2_charAt_3b067 : MethodName := ⟨RJ2, "charAt", "([BI)C"⟩
abbrev cJ2_checkIndex_2214a : ByteArray := prog_19_method_91_code
def yJ2_checkIndex_2214a : MethodName := ⟨RJ2, "checkIndex", "(I[B)V"⟩
def RJ10 : String := "java/lang/System"
def TJ10 : u_T := fun k => match k with
  | _ => ("", "", "", false)
def tyJ10 : Nat → FieldType := fun k => match k with
  | _ => .int
abbrev wsJ100 : List Cond := u_ws RJ10 TJ10 0
theorem nmJ10 : ∀ a, a < 0 → ∀ b, b < 0 → a ≠ b → (TJ10 a).2.1 ≠ (TJ10 b).2.1 := by decide +kernel
theorem tyJ10_ok : ∀ k, k < 0 → parseFieldDescriptor (TJ10 k).2.2.1 = some (tyJ10 k) := by decide +kernel
def RJ7 : String := "java/util/Arrays"
def TJ7 : u_T := fun k => match k with
  | _ => ("", "", "", false)
def tyJ7 : Nat → FieldType := fun k => match k with
  | _ => .int
abbrev wsJ70 : List Cond := u_ws RJ7 TJ7 0
theorem nmJ7 : ∀ a, a < 0 → ∀ b, b < 0 → a ≠ b → (TJ7 a).2.1 ≠ (TJ7 b).2.1 := by decide +kernel
theorem tyJ7_ok : ∀ k, k < 0 → parseFieldDescriptor (TJ7 k).2.2.1 = some (tyJ7 k) := by decide +kernel
abbrev cJ7_fill_53178 : ByteArray := prog_21_method_103_code
def yJ7_fill_53178 : MethodName := ⟨RJ7, "fill", "([II)V"⟩
def RJ3 : String := "jdk/internal/util/Preconditions"
def TJ3 : u_T := fun k => match k with
  | _ => ("", "", "", false)
def tyJ3 : Nat → FieldType := fun k => match k with
  | _ => .int
abbrev wsJ30 : List Cond := u_ws RJ3 TJ3 0
theorem nmJ3 : ∀ a, a < 0 → ∀ b, b < 0 → a ≠ b → (TJ3 a).2.1 ≠ (TJ3 b).2.1 := by decide +kernel
theorem tyJ3_ok : ∀ k, k < 0 → parseFieldDescriptor (TJ3 k).2.2.1 = some (tyJ3 k) := by decide +kernel
abbrev cJ3_checkIndex_8e157 : ByteArray := prog_22_method_11_code
def yJ3_checkIndex_8e157 : MethodName := ⟨RJ3, "checkIndex", "(IILjava/util/function/BiFunction;)I"⟩
def RL : String := "TexelBankLaw"
abbrev cL_law : ByteArray := code
def yL_law : MethodName := ⟨RL, "law", "([I)Z"⟩
