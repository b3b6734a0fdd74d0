section
-- ===== PART A: goes FIRST, ahead of the names: the tables' words, and 'selects' of the private methods out of them =====
/-- a private method of a class that the tables say can be made, by its rows of tables_1 -/
def lw_okq (q : MethodName × Nat) : Prop := (q.1.cls ≠ "java/lang/invoke/MethodHandle" ∧ q.1.cls ≠ "java/lang/invoke/VarHandle") ∧ Cond.instantiable q.1.cls q.2 ∈ tables_1 ∧ Cond.privateMethod q.1 ∈ tables_1 ∧ Cond.instanceMethod q.1 ∈ tables_1
theorem lw_p0 : lw_okq (⟨"MarkTree", "isKnownEdition", "(I)Z"⟩, 12) := ⟨⟨by decide +kernel, by decide +kernel⟩, List.mem_of_getElem? (i := 21) (by decide +kernel), List.mem_of_getElem? (i := 471) (by decide +kernel), List.mem_of_getElem? (i := 472) (by decide +kernel)⟩
theorem lw_p1 : lw_okq (⟨"MarkTree$Force", "clear", "()V"⟩, 8) := ⟨⟨by decide +kernel, by decide +kernel⟩, List.mem_of_getElem? (i := 194) (by decide +kernel), List.mem_of_getElem? (i := 492) (by decide +kernel), List.mem_of_getElem? (i := 493) (by decide +kernel)⟩
theorem lw_p2 : lw_okq (⟨"MarkTree$Force", "apply", "(LMarkTree$Rules;I)V"⟩, 8) := ⟨⟨by decide +kernel, by decide +kernel⟩, List.mem_of_getElem? (i := 194) (by decide +kernel), List.mem_of_getElem? (i := 504) (by decide +kernel), List.mem_of_getElem? (i := 505) (by decide +kernel)⟩
theorem lw_p3 : lw_okq (⟨"MarkTree$Force", "applyClause", "(III)V"⟩, 8) := ⟨⟨by decide +kernel, by decide +kernel⟩, List.mem_of_getElem? (i := 194) (by decide +kernel), List.mem_of_getElem? (i := 508) (by decide +kernel), List.mem_of_getElem? (i := 509) (by decide +kernel)⟩
theorem lw_p4 : lw_okq (⟨"MarkTree$View", "whyWrong", "(II)I"⟩, 13) := ⟨⟨by decide +kernel, by decide +kernel⟩, List.mem_of_getElem? (i := 311) (by decide +kernel), List.mem_of_getElem? (i := 512) (by decide +kernel), List.mem_of_getElem? (i := 513) (by decide +kernel)⟩
theorem lw_p5 : lw_okq (⟨"MarkTree$View", "setMeaning", "(I)V"⟩, 13) := ⟨⟨by decide +kernel, by decide +kernel⟩, List.mem_of_getElem? (i := 311) (by decide +kernel), List.mem_of_getElem? (i := 534) (by decide +kernel), List.mem_of_getElem? (i := 535) (by decide +kernel)⟩
theorem lw_p6 : lw_okq (⟨"MarkTree$Text", "byteAt", "(I)I"⟩, 7) := ⟨⟨by decide +kernel, by decide +kernel⟩, List.mem_of_getElem? (i := 124) (by decide +kernel), List.mem_of_getElem? (i := 681) (by decide +kernel), List.mem_of_getElem? (i := 682) (by decide +kernel)⟩
theorem lw_p7 : lw_okq (⟨"MarkTree$Rules", "readClause", "(LMarkTree$Text;I)V"⟩, 6) := ⟨⟨by decide +kernel, by decide +kernel⟩, List.mem_of_getElem? (i := 161) (by decide +kernel), List.mem_of_getElem? (i := 688) (by decide +kernel), List.mem_of_getElem? (i := 689) (by decide +kernel)⟩
theorem lw_p8 : lw_okq (⟨"MarkTree", "afterReading", "(I)I"⟩, 12) := ⟨⟨by decide +kernel, by decide +kernel⟩, List.mem_of_getElem? (i := 21) (by decide +kernel), List.mem_of_getElem? (i := 791) (by decide +kernel), List.mem_of_getElem? (i := 792) (by decide +kernel)⟩
theorem lw_p9 : lw_okq (⟨"MarkTree$Asks", "readUpToOne", "(LMarkTree$Text;)V"⟩, 7) := ⟨⟨by decide +kernel, by decide +kernel⟩, List.mem_of_getElem? (i := 253) (by decide +kernel), List.mem_of_getElem? (i := 837) (by decide +kernel), List.mem_of_getElem? (i := 838) (by decide +kernel)⟩
theorem lw_p10 : lw_okq (⟨"MarkTree$Asks", "openBracket", "(LMarkTree$Text;)V"⟩, 7) := ⟨⟨by decide +kernel, by decide +kernel⟩, List.mem_of_getElem? (i := 253) (by decide +kernel), List.mem_of_getElem? (i := 842) (by decide +kernel), List.mem_of_getElem? (i := 843) (by decide +kernel)⟩
theorem lw_p11 : lw_okq (⟨"MarkTree$Asks", "hold", "(I)V"⟩, 7) := ⟨⟨by decide +kernel, by decide +kernel⟩, List.mem_of_getElem? (i := 253) (by decide +kernel), List.mem_of_getElem? (i := 847) (by decide +kernel), List.mem_of_getElem? (i := 848) (by decide +kernel)⟩
theorem lw_p12 : lw_okq (⟨"MarkTree$Asks", "readOne", "(LMarkTree$Text;)V"⟩, 7) := ⟨⟨by decide +kernel, by decide +kernel⟩, List.mem_of_getElem? (i := 253) (by decide +kernel), List.mem_of_getElem? (i := 854) (by decide +kernel), List.mem_of_getElem? (i := 855) (by decide +kernel)⟩
theorem lw_p13 : lw_okq (⟨"MarkTree$Asks", "emit", "(I)V"⟩, 7) := ⟨⟨by decide +kernel, by decide +kernel⟩, List.mem_of_getElem? (i := 253) (by decide +kernel), List.mem_of_getElem? (i := 870) (by decide +kernel), List.mem_of_getElem? (i := 871) (by decide +kernel)⟩
theorem lw_p14 : lw_okq (⟨"MarkTree$Asks", "readUpToJoin", "(LMarkTree$Text;)Z"⟩, 7) := ⟨⟨by decide +kernel, by decide +kernel⟩, List.mem_of_getElem? (i := 253) (by decide +kernel), List.mem_of_getElem? (i := 874) (by decide +kernel), List.mem_of_getElem? (i := 875) (by decide +kernel)⟩
theorem lw_p15 : lw_okq (⟨"MarkTree$Asks", "closeBracket", "()V"⟩, 7) := ⟨⟨by decide +kernel, by decide +kernel⟩, List.mem_of_getElem? (i := 253) (by decide +kernel), List.mem_of_getElem? (i := 878) (by decide +kernel), List.mem_of_getElem? (i := 879) (by decide +kernel)⟩
def lw_privs_1 : List (MethodName × Nat) := [(⟨"MarkTree", "isKnownEdition", "(I)Z"⟩, 12), (⟨"MarkTree$Force", "clear", "()V"⟩, 8), (⟨"MarkTree$Force", "apply", "(LMarkTree$Rules;I)V"⟩, 8), (⟨"MarkTree$Force", "applyClause", "(III)V"⟩, 8), (⟨"MarkTree$View", "whyWrong", "(II)I"⟩, 13), (⟨"MarkTree$View", "setMeaning", "(I)V"⟩, 13), (⟨"MarkTree$Text", "byteAt", "(I)I"⟩, 7), (⟨"MarkTree$Rules", "readClause", "(LMarkTree$Text;I)V"⟩, 6), (⟨"MarkTree", "afterReading", "(I)I"⟩, 12), (⟨"MarkTree$Asks", "readUpToOne", "(LMarkTree$Text;)V"⟩, 7), (⟨"MarkTree$Asks", "openBracket", "(LMarkTree$Text;)V"⟩, 7), (⟨"MarkTree$Asks", "hold", "(I)V"⟩, 7), (⟨"MarkTree$Asks", "readOne", "(LMarkTree$Text;)V"⟩, 7), (⟨"MarkTree$Asks", "emit", "(I)V"⟩, 7), (⟨"MarkTree$Asks", "readUpToJoin", "(LMarkTree$Text;)Z"⟩, 7), (⟨"MarkTree$Asks", "closeBracket", "()V"⟩, 7)]
theorem lw_r1 : ∀ q ∈ lw_privs_1, lw_okq q := List.forall_mem_cons.mpr ⟨lw_p0, List.forall_mem_cons.mpr ⟨lw_p1, List.forall_mem_cons.mpr ⟨lw_p2, List.forall_mem_cons.mpr ⟨lw_p3, List.forall_mem_cons.mpr ⟨lw_p4, List.forall_mem_cons.mpr ⟨lw_p5, List.forall_mem_cons.mpr ⟨lw_p6, List.forall_mem_cons.mpr ⟨lw_p7, List.forall_mem_cons.mpr ⟨lw_p8, List.forall_mem_cons.mpr ⟨lw_p9, List.forall_mem_cons.mpr ⟨lw_p10, List.forall_mem_cons.mpr ⟨lw_p11, List.forall_mem_cons.mpr ⟨lw_p12, List.forall_mem_cons.mpr ⟨lw_p13, List.forall_mem_cons.mpr ⟨lw_p14, List.forall_mem_cons.mpr ⟨lw_p15, fun _ h => absurd h List.not_mem_nil⟩⟩⟩⟩⟩⟩⟩⟩⟩⟩⟩⟩⟩⟩⟩⟩
theorem lw_p16 : lw_okq (⟨"MarkTree$Asks", "releaseDownTo", "(I)V"⟩, 7) := ⟨⟨by decide +kernel, by decide +kernel⟩, List.mem_of_getElem? (i := 253) (by decide +kernel), List.mem_of_getElem? (i := 882) (by decide +kernel), List.mem_of_getElem? (i := 883) (by decide +kernel)⟩
theorem lw_p17 : lw_okq (⟨"MarkTree$Asks", "joinBy", "(I)V"⟩, 7) := ⟨⟨by decide +kernel, by decide +kernel⟩, List.mem_of_getElem? (i := 253) (by decide +kernel), List.mem_of_getElem? (i := 887) (by decide +kernel), List.mem_of_getElem? (i := 888) (by decide +kernel)⟩
theorem lw_p18 : lw_okq (⟨"MarkTree", "metBy", "(II)J"⟩, 12) := ⟨⟨by decide +kernel, by decide +kernel⟩, List.mem_of_getElem? (i := 21) (by decide +kernel), List.mem_of_getElem? (i := 900) (by decide +kernel), List.mem_of_getElem? (i := 901) (by decide +kernel)⟩
theorem lw_p19 : lw_okq (⟨"MarkTree", "metByOne", "(III)J"⟩, 12) := ⟨⟨by decide +kernel, by decide +kernel⟩, List.mem_of_getElem? (i := 21) (by decide +kernel), List.mem_of_getElem? (i := 904) (by decide +kernel), List.mem_of_getElem? (i := 905) (by decide +kernel)⟩
theorem lw_p20 : lw_okq (⟨"MarkTree", "goingAlong", "(II)J"⟩, 12) := ⟨⟨by decide +kernel, by decide +kernel⟩, List.mem_of_getElem? (i := 21) (by decide +kernel), List.mem_of_getElem? (i := 953) (by decide +kernel), List.mem_of_getElem? (i := 954) (by decide +kernel)⟩
theorem lw_p21 : lw_okq (⟨"MarkTree", "isApart", "(III)Z"⟩, 12) := ⟨⟨by decide +kernel, by decide +kernel⟩, List.mem_of_getElem? (i := 21) (by decide +kernel), List.mem_of_getElem? (i := 957) (by decide +kernel), List.mem_of_getElem? (i := 958) (by decide +kernel)⟩
theorem lw_p22 : lw_okq (⟨"MarkTreeModel", "tell", "(I)V"⟩, 62) := ⟨⟨by decide +kernel, by decide +kernel⟩, List.mem_of_getElem? (i := 1004) (by decide +kernel), List.mem_of_getElem? (i := 1010) (by decide +kernel), List.mem_of_getElem? (i := 1011) (by decide +kernel)⟩
theorem lw_p23 : lw_okq (⟨"MarkTreeModel", "hang", "(II)V"⟩, 62) := ⟨⟨by decide +kernel, by decide +kernel⟩, List.mem_of_getElem? (i := 1004) (by decide +kernel), List.mem_of_getElem? (i := 1014) (by decide +kernel), List.mem_of_getElem? (i := 1015) (by decide +kernel)⟩
theorem lw_p24 : lw_okq (⟨"MarkTreeModel", "isMark", "(I)Z"⟩, 62) := ⟨⟨by decide +kernel, by decide +kernel⟩, List.mem_of_getElem? (i := 1004) (by decide +kernel), List.mem_of_getElem? (i := 1213) (by decide +kernel), List.mem_of_getElem? (i := 1214) (by decide +kernel)⟩
theorem lw_p25 : lw_okq (⟨"MarkTreeModel", "isThere", "(II)Z"⟩, 62) := ⟨⟨by decide +kernel, by decide +kernel⟩, List.mem_of_getElem? (i := 1004) (by decide +kernel), List.mem_of_getElem? (i := 1220) (by decide +kernel), List.mem_of_getElem? (i := 1221) (by decide +kernel)⟩
theorem lw_p26 : lw_okq (⟨"MarkTreeModel", "isTold", "(II)Z"⟩, 62) := ⟨⟨by decide +kernel, by decide +kernel⟩, List.mem_of_getElem? (i := 1004) (by decide +kernel), List.mem_of_getElem? (i := 1224) (by decide +kernel), List.mem_of_getElem? (i := 1225) (by decide +kernel)⟩
theorem lw_p27 : lw_okq (⟨"MarkTreeModel", "isBelow", "(III)Z"⟩, 62) := ⟨⟨by decide +kernel, by decide +kernel⟩, List.mem_of_getElem? (i := 1004) (by decide +kernel), List.mem_of_getElem? (i := 1232) (by decide +kernel), List.mem_of_getElem? (i := 1233) (by decide +kernel)⟩
theorem lw_p28 : lw_okq (⟨"MarkTreeModel", "belowMany", "(II)I"⟩, 62) := ⟨⟨by decide +kernel, by decide +kernel⟩, List.mem_of_getElem? (i := 1004) (by decide +kernel), List.mem_of_getElem? (i := 1240) (by decide +kernel), List.mem_of_getElem? (i := 1241) (by decide +kernel)⟩
theorem lw_p29 : lw_okq (⟨"MarkTreeModel", "isEdition", "(I)Z"⟩, 62) := ⟨⟨by decide +kernel, by decide +kernel⟩, List.mem_of_getElem? (i := 1004) (by decide +kernel), List.mem_of_getElem? (i := 1248) (by decide +kernel), List.mem_of_getElem? (i := 1249) (by decide +kernel)⟩
theorem lw_p30 : lw_okq (⟨"MarkTreeModel", "showing", "(II)I"⟩, 62) := ⟨⟨by decide +kernel, by decide +kernel⟩, List.mem_of_getElem? (i := 1004) (by decide +kernel), List.mem_of_getElem? (i := 1253) (by decide +kernel), List.mem_of_getElem? (i := 1254) (by decide +kernel)⟩
theorem lw_p31 : lw_okq (⟨"MarkTreeModel", "find", "(I)V"⟩, 62) := ⟨⟨by decide +kernel, by decide +kernel⟩, List.mem_of_getElem? (i := 1004) (by decide +kernel), List.mem_of_getElem? (i := 1257) (by decide +kernel), List.mem_of_getElem? (i := 1258) (by decide +kernel)⟩
def lw_privs_2 : List (MethodName × Nat) := [(⟨"MarkTree$Asks", "releaseDownTo", "(I)V"⟩, 7), (⟨"MarkTree$Asks", "joinBy", "(I)V"⟩, 7), (⟨"MarkTree", "metBy", "(II)J"⟩, 12), (⟨"MarkTree", "metByOne", "(III)J"⟩, 12), (⟨"MarkTree", "goingAlong", "(II)J"⟩, 12), (⟨"MarkTree", "isApart", "(III)Z"⟩, 12), (⟨"MarkTreeModel", "tell", "(I)V"⟩, 62), (⟨"MarkTreeModel", "hang", "(II)V"⟩, 62), (⟨"MarkTreeModel", "isMark", "(I)Z"⟩, 62), (⟨"MarkTreeModel", "isThere", "(II)Z"⟩, 62), (⟨"MarkTreeModel", "isTold", "(II)Z"⟩, 62), (⟨"MarkTreeModel", "isBelow", "(III)Z"⟩, 62), (⟨"MarkTreeModel", "belowMany", "(II)I"⟩, 62), (⟨"MarkTreeModel", "isEdition", "(I)Z"⟩, 62), (⟨"MarkTreeModel", "showing", "(II)I"⟩, 62), (⟨"MarkTreeModel", "find", "(I)V"⟩, 62)]
theorem lw_r2 : ∀ q ∈ lw_privs_2, lw_okq q := List.forall_mem_cons.mpr ⟨lw_p16, List.forall_mem_cons.mpr ⟨lw_p17, List.forall_mem_cons.mpr ⟨lw_p18, List.forall_mem_cons.mpr ⟨lw_p19, List.forall_mem_cons.mpr ⟨lw_p20, List.forall_mem_cons.mpr ⟨lw_p21, List.forall_mem_cons.mpr ⟨lw_p22, List.forall_mem_cons.mpr ⟨lw_p23, List.forall_mem_cons.mpr ⟨lw_p24, List.forall_mem_cons.mpr ⟨lw_p25, List.forall_mem_cons.mpr ⟨lw_p26, List.forall_mem_cons.mpr ⟨lw_p27, List.forall_mem_cons.mpr ⟨lw_p28, List.forall_mem_cons.mpr ⟨lw_p29, List.forall_mem_cons.mpr ⟨lw_p30, List.forall_mem_cons.mpr ⟨lw_p31, fun _ h => absurd h List.not_mem_nil⟩⟩⟩⟩⟩⟩⟩⟩⟩⟩⟩⟩⟩⟩⟩⟩
theorem lw_p32 : lw_okq (⟨"MarkTreeModel", "findWrong", "()V"⟩, 62) := ⟨⟨by decide +kernel, by decide +kernel⟩, List.mem_of_getElem? (i := 1004) (by decide +kernel), List.mem_of_getElem? (i := 1261) (by decide +kernel), List.mem_of_getElem? (i := 1262) (by decide +kernel)⟩
theorem lw_p33 : lw_okq (⟨"MarkTreeModel", "findRules", "(I)V"⟩, 62) := ⟨⟨by decide +kernel, by decide +kernel⟩, List.mem_of_getElem? (i := 1004) (by decide +kernel), List.mem_of_getElem? (i := 1265) (by decide +kernel), List.mem_of_getElem? (i := 1266) (by decide +kernel)⟩
theorem lw_p34 : lw_okq (⟨"MarkTreeModel", "strikes", "(II)Z"⟩, 62) := ⟨⟨by decide +kernel, by decide +kernel⟩, List.mem_of_getElem? (i := 1004) (by decide +kernel), List.mem_of_getElem? (i := 1269) (by decide +kernel), List.mem_of_getElem? (i := 1270) (by decide +kernel)⟩
theorem lw_p35 : lw_okq (⟨"MarkTreeModel", "whyWrong", "(I)I"⟩, 62) := ⟨⟨by decide +kernel, by decide +kernel⟩, List.mem_of_getElem? (i := 1004) (by decide +kernel), List.mem_of_getElem? (i := 1273) (by decide +kernel), List.mem_of_getElem? (i := 1274) (by decide +kernel)⟩
theorem lw_p36 : lw_okq (⟨"MarkTreeModel", "isAllowed", "(III)Z"⟩, 62) := ⟨⟨by decide +kernel, by decide +kernel⟩, List.mem_of_getElem? (i := 1004) (by decide +kernel), List.mem_of_getElem? (i := 1277) (by decide +kernel), List.mem_of_getElem? (i := 1278) (by decide +kernel)⟩
theorem lw_p37 : lw_okq (⟨"MarkTreeModel", "holds", "(II)Z"⟩, 62) := ⟨⟨by decide +kernel, by decide +kernel⟩, List.mem_of_getElem? (i := 1004) (by decide +kernel), List.mem_of_getElem? (i := 1281) (by decide +kernel), List.mem_of_getElem? (i := 1282) (by decide +kernel)⟩
theorem lw_p38 : lw_okq (⟨"MarkTreeModel", "ruleOf", "(I)I"⟩, 62) := ⟨⟨by decide +kernel, by decide +kernel⟩, List.mem_of_getElem? (i := 1004) (by decide +kernel), List.mem_of_getElem? (i := 1285) (by decide +kernel), List.mem_of_getElem? (i := 1286) (by decide +kernel)⟩
theorem lw_p39 : lw_okq (⟨"MarkTreeModel", "isBarred", "(I)Z"⟩, 62) := ⟨⟨by decide +kernel, by decide +kernel⟩, List.mem_of_getElem? (i := 1004) (by decide +kernel), List.mem_of_getElem? (i := 1289) (by decide +kernel), List.mem_of_getElem? (i := 1290) (by decide +kernel)⟩
theorem lw_p40 : lw_okq (⟨"MarkTreeModel", "findMeant", "(II)V"⟩, 62) := ⟨⟨by decide +kernel, by decide +kernel⟩, List.mem_of_getElem? (i := 1004) (by decide +kernel), List.mem_of_getElem? (i := 1293) (by decide +kernel), List.mem_of_getElem? (i := 1294) (by decide +kernel)⟩
theorem lw_p41 : lw_okq (⟨"MarkTreeModel", "doubts", "(II)I"⟩, 62) := ⟨⟨by decide +kernel, by decide +kernel⟩, List.mem_of_getElem? (i := 1004) (by decide +kernel), List.mem_of_getElem? (i := 1297) (by decide +kernel), List.mem_of_getElem? (i := 1298) (by decide +kernel)⟩
theorem lw_p42 : lw_okq (⟨"MarkTreeModel", "shows", "(II)Z"⟩, 62) := ⟨⟨by decide +kernel, by decide +kernel⟩, List.mem_of_getElem? (i := 1004) (by decide +kernel), List.mem_of_getElem? (i := 1301) (by decide +kernel), List.mem_of_getElem? (i := 1302) (by decide +kernel)⟩
theorem lw_p43 : lw_okq (⟨"MarkTreeModel", "isPicture", "(I)Z"⟩, 62) := ⟨⟨by decide +kernel, by decide +kernel⟩, List.mem_of_getElem? (i := 1004) (by decide +kernel), List.mem_of_getElem? (i := 1313) (by decide +kernel), List.mem_of_getElem? (i := 1314) (by decide +kernel)⟩
theorem lw_p44 : lw_okq (⟨"MarkTreeModel", "isGiving", "(I)Z"⟩, 62) := ⟨⟨by decide +kernel, by decide +kernel⟩, List.mem_of_getElem? (i := 1004) (by decide +kernel), List.mem_of_getElem? (i := 1332) (by decide +kernel), List.mem_of_getElem? (i := 1333) (by decide +kernel)⟩
theorem lw_p45 : lw_okq (⟨"MarkTreeModel", "lacks", "(II)Z"⟩, 62) := ⟨⟨by decide +kernel, by decide +kernel⟩, List.mem_of_getElem? (i := 1004) (by decide +kernel), List.mem_of_getElem? (i := 1345) (by decide +kernel), List.mem_of_getElem? (i := 1346) (by decide +kernel)⟩
theorem lw_p46 : lw_okq (⟨"MarkTreeModel", "here", "()I"⟩, 62) := ⟨⟨by decide +kernel, by decide +kernel⟩, List.mem_of_getElem? (i := 1004) (by decide +kernel), List.mem_of_getElem? (i := 1367) (by decide +kernel), List.mem_of_getElem? (i := 1368) (by decide +kernel)⟩
theorem lw_p47 : lw_okq (⟨"MarkTreeModel", "readClause", "(IZ)I"⟩, 62) := ⟨⟨by decide +kernel, by decide +kernel⟩, List.mem_of_getElem? (i := 1004) (by decide +kernel), List.mem_of_getElem? (i := 1371) (by decide +kernel), List.mem_of_getElem? (i := 1372) (by decide +kernel)⟩
def lw_privs_3 : List (MethodName × Nat) := [(⟨"MarkTreeModel", "findWrong", "()V"⟩, 62), (⟨"MarkTreeModel", "findRules", "(I)V"⟩, 62), (⟨"MarkTreeModel", "strikes", "(II)Z"⟩, 62), (⟨"MarkTreeModel", "whyWrong", "(I)I"⟩, 62), (⟨"MarkTreeModel", "isAllowed", "(III)Z"⟩, 62), (⟨"MarkTreeModel", "holds", "(II)Z"⟩, 62), (⟨"MarkTreeModel", "ruleOf", "(I)I"⟩, 62), (⟨"MarkTreeModel", "isBarred", "(I)Z"⟩, 62), (⟨"MarkTreeModel", "findMeant", "(II)V"⟩, 62), (⟨"MarkTreeModel", "doubts", "(II)I"⟩, 62), (⟨"MarkTreeModel", "shows", "(II)Z"⟩, 62), (⟨"MarkTreeModel", "isPicture", "(I)Z"⟩, 62), (⟨"MarkTreeModel", "isGiving", "(I)Z"⟩, 62), (⟨"MarkTreeModel", "lacks", "(II)Z"⟩, 62), (⟨"MarkTreeModel", "here", "()I"⟩, 62), (⟨"MarkTreeModel", "readClause", "(IZ)I"⟩, 62)]
theorem lw_r3 : ∀ q ∈ lw_privs_3, lw_okq q := List.forall_mem_cons.mpr ⟨lw_p32, List.forall_mem_cons.mpr ⟨lw_p33, List.forall_mem_cons.mpr ⟨lw_p34, List.forall_mem_cons.mpr ⟨lw_p35, List.forall_mem_cons.mpr ⟨lw_p36, List.forall_mem_cons.mpr ⟨lw_p37, List.forall_mem_cons.mpr ⟨lw_p38, List.forall_mem_cons.mpr ⟨lw_p39, List.forall_mem_cons.mpr ⟨lw_p40, List.forall_mem_cons.mpr ⟨lw_p41, List.forall_mem_cons.mpr ⟨lw_p42, List.forall_mem_cons.mpr ⟨lw_p43, List.forall_mem_cons.mpr ⟨lw_p44, List.forall_mem_cons.mpr ⟨lw_p45, List.forall_mem_cons.mpr ⟨lw_p46, List.forall_mem_cons.mpr ⟨lw_p47, fun _ h => absurd h List.not_mem_nil⟩⟩⟩⟩⟩⟩⟩⟩⟩⟩⟩⟩⟩⟩⟩⟩
theorem lw_p48 : lw_okq (⟨"MarkTreeModel", "readWord", "()V"⟩, 62) := ⟨⟨by decide +kernel, by decide +kernel⟩, List.mem_of_getElem? (i := 1004) (by decide +kernel), List.mem_of_getElem? (i := 1375) (by decide +kernel), List.mem_of_getElem? (i := 1376) (by decide +kernel)⟩
theorem lw_p49 : lw_okq (⟨"MarkTreeModel", "keyOf", "()I"⟩, 62) := ⟨⟨by decide +kernel, by decide +kernel⟩, List.mem_of_getElem? (i := 1004) (by decide +kernel), List.mem_of_getElem? (i := 1385) (by decide +kernel), List.mem_of_getElem? (i := 1386) (by decide +kernel)⟩
theorem lw_p50 : lw_okq (⟨"MarkTreeModel", "fails", "(II)I"⟩, 62) := ⟨⟨by decide +kernel, by decide +kernel⟩, List.mem_of_getElem? (i := 1004) (by decide +kernel), List.mem_of_getElem? (i := 1392) (by decide +kernel), List.mem_of_getElem? (i := 1393) (by decide +kernel)⟩
theorem lw_p51 : lw_okq (⟨"MarkTreeModel", "readSense", "(I)I"⟩, 62) := ⟨⟨by decide +kernel, by decide +kernel⟩, List.mem_of_getElem? (i := 1004) (by decide +kernel), List.mem_of_getElem? (i := 1396) (by decide +kernel), List.mem_of_getElem? (i := 1397) (by decide +kernel)⟩
theorem lw_p52 : lw_okq (⟨"MarkTreeModel", "readNumber", "(IIII)I"⟩, 62) := ⟨⟨by decide +kernel, by decide +kernel⟩, List.mem_of_getElem? (i := 1004) (by decide +kernel), List.mem_of_getElem? (i := 1400) (by decide +kernel), List.mem_of_getElem? (i := 1401) (by decide +kernel)⟩
theorem lw_p53 : lw_okq (⟨"MarkTreeModel", "senseOf", "()I"⟩, 62) := ⟨⟨by decide +kernel, by decide +kernel⟩, List.mem_of_getElem? (i := 1004) (by decide +kernel), List.mem_of_getElem? (i := 1407) (by decide +kernel), List.mem_of_getElem? (i := 1408) (by decide +kernel)⟩
theorem lw_p54 : lw_okq (⟨"MarkTreeModel", "readPair", "(II)I"⟩, 62) := ⟨⟨by decide +kernel, by decide +kernel⟩, List.mem_of_getElem? (i := 1004) (by decide +kernel), List.mem_of_getElem? (i := 1411) (by decide +kernel), List.mem_of_getElem? (i := 1412) (by decide +kernel)⟩
theorem lw_p55 : lw_okq (⟨"MarkTreeModel", "needs", "(J)I"⟩, 62) := ⟨⟨by decide +kernel, by decide +kernel⟩, List.mem_of_getElem? (i := 1004) (by decide +kernel), List.mem_of_getElem? (i := 1415) (by decide +kernel), List.mem_of_getElem? (i := 1416) (by decide +kernel)⟩
theorem lw_p56 : lw_okq (⟨"MarkTreeModel", "leadsMany", "(II)I"⟩, 62) := ⟨⟨by decide +kernel, by decide +kernel⟩, List.mem_of_getElem? (i := 1004) (by decide +kernel), List.mem_of_getElem? (i := 1436) (by decide +kernel), List.mem_of_getElem? (i := 1437) (by decide +kernel)⟩
theorem lw_p57 : lw_okq (⟨"MarkTreeModel", "readOne", "()I"⟩, 62) := ⟨⟨by decide +kernel, by decide +kernel⟩, List.mem_of_getElem? (i := 1004) (by decide +kernel), List.mem_of_getElem? (i := 1448) (by decide +kernel), List.mem_of_getElem? (i := 1449) (by decide +kernel)⟩
theorem lw_p58 : lw_okq (⟨"MarkTreeModel", "hold", "(I)V"⟩, 62) := ⟨⟨by decide +kernel, by decide +kernel⟩, List.mem_of_getElem? (i := 1004) (by decide +kernel), List.mem_of_getElem? (i := 1452) (by decide +kernel), List.mem_of_getElem? (i := 1453) (by decide +kernel)⟩
theorem lw_p59 : lw_okq (⟨"MarkTreeModel", "readLeaf", "()I"⟩, 62) := ⟨⟨by decide +kernel, by decide +kernel⟩, List.mem_of_getElem? (i := 1004) (by decide +kernel), List.mem_of_getElem? (i := 1456) (by decide +kernel), List.mem_of_getElem? (i := 1457) (by decide +kernel)⟩
theorem lw_p60 : lw_okq (⟨"MarkTreeModel", "put", "(II)V"⟩, 62) := ⟨⟨by decide +kernel, by decide +kernel⟩, List.mem_of_getElem? (i := 1004) (by decide +kernel), List.mem_of_getElem? (i := 1460) (by decide +kernel), List.mem_of_getElem? (i := 1461) (by decide +kernel)⟩
theorem lw_p61 : lw_okq (⟨"MarkTreeModel", "work", "(I)V"⟩, 62) := ⟨⟨by decide +kernel, by decide +kernel⟩, List.mem_of_getElem? (i := 1004) (by decide +kernel), List.mem_of_getElem? (i := 1464) (by decide +kernel), List.mem_of_getElem? (i := 1465) (by decide +kernel)⟩
theorem lw_p62 : lw_okq (⟨"MarkTreeModel", "readBehind", "()I"⟩, 62) := ⟨⟨by decide +kernel, by decide +kernel⟩, List.mem_of_getElem? (i := 1004) (by decide +kernel), List.mem_of_getElem? (i := 1468) (by decide +kernel), List.mem_of_getElem? (i := 1469) (by decide +kernel)⟩
theorem lw_p63 : lw_okq (⟨"MarkTreeModel", "isMet", "(III)Z"⟩, 62) := ⟨⟨by decide +kernel, by decide +kernel⟩, List.mem_of_getElem? (i := 1004) (by decide +kernel), List.mem_of_getElem? (i := 1476) (by decide +kernel), List.mem_of_getElem? (i := 1477) (by decide +kernel)⟩
def lw_privs_4 : List (MethodName × Nat) := [(⟨"MarkTreeModel", "readWord", "()V"⟩, 62), (⟨"MarkTreeModel", "keyOf", "()I"⟩, 62), (⟨"MarkTreeModel", "fails", "(II)I"⟩, 62), (⟨"MarkTreeModel", "readSense", "(I)I"⟩, 62), (⟨"MarkTreeModel", "readNumber", "(IIII)I"⟩, 62), (⟨"MarkTreeModel", "senseOf", "()I"⟩, 62), (⟨"MarkTreeModel", "readPair", "(II)I"⟩, 62), (⟨"MarkTreeModel", "needs", "(J)I"⟩, 62), (⟨"MarkTreeModel", "leadsMany", "(II)I"⟩, 62), (⟨"MarkTreeModel", "readOne", "()I"⟩, 62), (⟨"MarkTreeModel", "hold", "(I)V"⟩, 62), (⟨"MarkTreeModel", "readLeaf", "()I"⟩, 62), (⟨"MarkTreeModel", "put", "(II)V"⟩, 62), (⟨"MarkTreeModel", "work", "(I)V"⟩, 62), (⟨"MarkTreeModel", "readBehind", "()I"⟩, 62), (⟨"MarkTreeModel", "isMet", "(III)Z"⟩, 62)]
theorem lw_r4 : ∀ q ∈ lw_privs_4, lw_okq q := List.forall_mem_cons.mpr ⟨lw_p48, List.forall_mem_cons.mpr ⟨lw_p49, List.forall_mem_cons.mpr ⟨lw_p50, List.forall_mem_cons.mpr ⟨lw_p51, List.forall_mem_cons.mpr ⟨lw_p52, List.forall_mem_cons.mpr ⟨lw_p53, List.forall_mem_cons.mpr ⟨lw_p54, List.forall_mem_cons.mpr ⟨lw_p55, List.forall_mem_cons.mpr ⟨lw_p56, List.forall_mem_cons.mpr ⟨lw_p57, List.forall_mem_cons.mpr ⟨lw_p58, List.forall_mem_cons.mpr ⟨lw_p59, List.forall_mem_cons.mpr ⟨lw_p60, List.forall_mem_cons.mpr ⟨lw_p61, List.forall_mem_cons.mpr ⟨lw_p62, List.forall_mem_cons.mpr ⟨lw_p63, fun _ h => absurd h List.not_mem_nil⟩⟩⟩⟩⟩⟩⟩⟩⟩⟩⟩⟩⟩⟩⟩⟩
theorem lw_p64 : lw_okq (⟨"MarkTreeModel", "showsWord", "(II)Z"⟩, 62) := ⟨⟨by decide +kernel, by decide +kernel⟩, List.mem_of_getElem? (i := 1004) (by decide +kernel), List.mem_of_getElem? (i := 1480) (by decide +kernel), List.mem_of_getElem? (i := 1481) (by decide +kernel)⟩
theorem lw_p65 : lw_okq (⟨"MarkTreeModel", "hasHand", "(III)Z"⟩, 62) := ⟨⟨by decide +kernel, by decide +kernel⟩, List.mem_of_getElem? (i := 1004) (by decide +kernel), List.mem_of_getElem? (i := 1484) (by decide +kernel), List.mem_of_getElem? (i := 1485) (by decide +kernel)⟩
theorem lw_p66 : lw_okq (⟨"MarkTreeModel", "saw", "(IIII)Z"⟩, 62) := ⟨⟨by decide +kernel, by decide +kernel⟩, List.mem_of_getElem? (i := 1004) (by decide +kernel), List.mem_of_getElem? (i := 1493) (by decide +kernel), List.mem_of_getElem? (i := 1494) (by decide +kernel)⟩
theorem lw_p67 : lw_okq (⟨"MarkTreeModel", "isBeyond", "(IIII)Z"⟩, 62) := ⟨⟨by decide +kernel, by decide +kernel⟩, List.mem_of_getElem? (i := 1004) (by decide +kernel), List.mem_of_getElem? (i := 1501) (by decide +kernel), List.mem_of_getElem? (i := 1502) (by decide +kernel)⟩
theorem lw_p68 : lw_okq (⟨"MarkTreeModel", "goesAlong", "(III)Z"⟩, 62) := ⟨⟨by decide +kernel, by decide +kernel⟩, List.mem_of_getElem? (i := 1004) (by decide +kernel), List.mem_of_getElem? (i := 1509) (by decide +kernel), List.mem_of_getElem? (i := 1510) (by decide +kernel)⟩
theorem lw_p69 : lw_okq (⟨"MarkTreeModel", "areApart", "(III)Z"⟩, 62) := ⟨⟨by decide +kernel, by decide +kernel⟩, List.mem_of_getElem? (i := 1004) (by decide +kernel), List.mem_of_getElem? (i := 1513) (by decide +kernel), List.mem_of_getElem? (i := 1514) (by decide +kernel)⟩
theorem lw_p70 : lw_okq (⟨"MarkTreeModel", "firstOf", "(I)I"⟩, 62) := ⟨⟨by decide +kernel, by decide +kernel⟩, List.mem_of_getElem? (i := 1004) (by decide +kernel), List.mem_of_getElem? (i := 1527) (by decide +kernel), List.mem_of_getElem? (i := 1528) (by decide +kernel)⟩
def lw_privs_5 : List (MethodName × Nat) := [(⟨"MarkTreeModel", "showsWord", "(II)Z"⟩, 62), (⟨"MarkTreeModel", "hasHand", "(III)Z"⟩, 62), (⟨"MarkTreeModel", "saw", "(IIII)Z"⟩, 62), (⟨"MarkTreeModel", "isBeyond", "(IIII)Z"⟩, 62), (⟨"MarkTreeModel", "goesAlong", "(III)Z"⟩, 62), (⟨"MarkTreeModel", "areApart", "(III)Z"⟩, 62), (⟨"MarkTreeModel", "firstOf", "(I)I"⟩, 62)]
theorem lw_r5 : ∀ q ∈ lw_privs_5, lw_okq q := List.forall_mem_cons.mpr ⟨lw_p64, List.forall_mem_cons.mpr ⟨lw_p65, List.forall_mem_cons.mpr ⟨lw_p66, List.forall_mem_cons.mpr ⟨lw_p67, List.forall_mem_cons.mpr ⟨lw_p68, List.forall_mem_cons.mpr ⟨lw_p69, List.forall_mem_cons.mpr ⟨lw_p70, fun _ h => absurd h List.not_mem_nil⟩⟩⟩⟩⟩⟩⟩
def lw_privs : List (MethodName × Nat) := lw_privs_1 ++ (lw_privs_2 ++ (lw_privs_3 ++ (lw_privs_4 ++ (lw_privs_5))))
def lw_tbl : List Cond := k2_sels lw_privs ++ tables_1
theorem lw_privs_ok : ∀ q ∈ lw_privs, lw_okq q := by
  show ∀ q ∈ lw_privs_1 ++ (lw_privs_2 ++ (lw_privs_3 ++ (lw_privs_4 ++ (lw_privs_5)))), lw_okq q
  exact List.forall_mem_append.mpr ⟨lw_r1, List.forall_mem_append.mpr ⟨lw_r2, List.forall_mem_append.mpr ⟨lw_r3, List.forall_mem_append.mpr ⟨lw_r4, lw_r5⟩⟩⟩⟩
end
section
/-- words of a list, each at its place of another -/
theorem pm_sub {big ws : List Cond} (ps : List Nat) (h : decide (ws.map some = ps.map (fun i => big[i]?)) = true) : ∀ w ∈ ws, w ∈ big := by
  intro w hw
  have h := of_decide_eq_true h
  have h1 : some w ∈ ws.map some := List.mem_map.mpr ⟨w, hw, rfl⟩
  rw [h] at h1
  obtain ⟨i, -, hi⟩ := List.mem_map.mp h1
  exact List.mem_of_getElem? hi
def RX0 : String := "MarkTree$Asks"
def TX0 : u_T := fun k => match k with
  | 0 => ("MarkTree$Asks", "lengths", "[I", true)
  | 1 => ("MarkTree$Asks", "codes", "[[I", true)
  | 2 => ("MarkTree$Asks", "stack", "[J", true)
  | 3 => ("MarkTree$Asks", "waiting", "[I", true)
  | 4 => ("MarkTree$Asks", "waits", "I", false)
  | 5 => ("MarkTree$Asks", "brackets", "I", false)
  | _ => ("MarkTree$Asks", "size", "I", false)
def tyX0 : Nat → FieldType := fun k => match k with
  | 0 => .array .int
  | 1 => .array (.array .int)
  | 2 => .array .long
  | 3 => .array .int
  | 4 => .int
  | 5 => .int
  | _ => .int
theorem nmX0 : ∀ a, a < 7 → ∀ b, b < 7 → a ≠ b → (TX0 a).2.1 ≠ (TX0 b).2.1 := by decide +kernel
theorem tyX0_ok : ∀ k, k < 7 → parseFieldDescriptor (TX0 k).2.2.1 = some (tyX0 k) := by decide +kernel
def RX1 : String := "MarkTree$Force"
def TX1 : u_T := fun k => match k with
  | 0 => ("MarkTree$Force", "most", "I", false)
  | 1 => ("MarkTree$Force", "senses", "[I", true)
  | 2 => ("MarkTree$Force", "allowed", "[J", true)
  | 3 => ("MarkTree$Force", "barred", "[I", true)
  | 4 => ("MarkTree$Force", "needed", "[J", true)
  | 5 => ("MarkTree$Force", "allows", "I", false)
  | 6 => ("MarkTree$Force", "bars", "I", false)
  | _ => ("MarkTree$Force", "needs", "I", false)
def tyX1 : Nat → FieldType := fun k => match k with
  | 0 => .int
  | 1 => .array .int
  | 2 => .array .long
  | 3 => .array .int
  | 4 => .array .long
  | 5 => .int
  | 6 => .int
  | _ => .int
theorem nmX1 : ∀ a, a < 8 → ∀ b, b < 8 → a ≠ b → (TX1 a).2.1 ≠ (TX1 b).2.1 := by decide +kernel
theorem tyX1_ok : ∀ k, k < 8 → parseFieldDescriptor (TX1 k).2.2.1 = some (tyX1 k) := by decide +kernel
def RX2 : String := "MarkTree$Givings"
def TX2 : u_T := fun k => match k with
  | 0 => ("MarkTree$Givings", "picture", "[I", true)
  | 1 => ("MarkTree$Givings", "mark", "[I", true)
  | 2 => ("MarkTree$Givings", "hand", "[I", true)
  | 3 => ("MarkTree$Givings", "keys", "[I", true)
  | 4 => ("MarkTree$Givings", "edition", "[I", true)
  | 5 => ("MarkTree$Givings", "doubted", "[[I", true)
  | _ => ("MarkTree$Givings", "size", "I", false)
def tyX2 : Nat → FieldType := fun k => match k with
  | 0 => .array .int
  | 1 => .array .int
  | 2 => .array .int
  | 3 => .array .int
  | 4 => .array .int
  | 5 => .array (.array .int)
  | _ => .int
theorem nmX2 : ∀ a, a < 7 → ∀ b, b < 7 → a ≠ b → (TX2 a).2.1 ≠ (TX2 b).2.1 := by decide +kernel
theorem tyX2_ok : ∀ k, k < 7 → parseFieldDescriptor (TX2 k).2.2.1 = some (tyX2 k) := by decide +kernel
def RX3 : String := "MarkTree$Pictures"
def TX3 : u_T := fun k => match k with
  | 0 => ("MarkTree$Pictures", "year", "[I", true)
  | 1 => ("MarkTree$Pictures", "place", "[I", true)
  | 2 => ("MarkTree$Pictures", "first", "[I", true)
  | _ => ("MarkTree$Pictures", "size", "I", false)
def tyX3 : Nat → FieldType := fun k => match k with
  | 0 => .array .int
  | 1 => .array .int
  | 2 => .array .int
  | _ => .int
theorem nmX3 : ∀ a, a < 4 → ∀ b, b < 4 → a ≠ b → (TX3 a).2.1 ≠ (TX3 b).2.1 := by decide +kernel
theorem tyX3_ok : ∀ k, k < 4 → parseFieldDescriptor (TX3 k).2.2.1 = some (tyX3 k) := by decide +kernel
def RX4 : String := "MarkTree$Rules"
def TX4 : u_T := fun k => match k with
  | 0 => ("MarkTree$Rules", "edition", "[I", true)
  | 1 => ("MarkTree$Rules", "clauses", "[I", true)
  | 2 => ("MarkTree$Rules", "kind", "[[I", true)
  | 3 => ("MarkTree$Rules", "first", "[[I", true)
  | 4 => ("MarkTree$Rules", "second", "[[I", true)
  | _ => ("MarkTree$Rules", "size", "I", false)
def tyX4 : Nat → FieldType := fun k => match k with
  | 0 => .array .int
  | 1 => .array .int
  | 2 => .array (.array .int)
  | 3 => .array (.array .int)
  | 4 => .array (.array .int)
  | _ => .int
theorem nmX4 : ∀ a, a < 6 → ∀ b, b < 6 → a ≠ b → (TX4 a).2.1 ≠ (TX4 b).2.1 := by decide +kernel
theorem tyX4_ok : ∀ k, k < 6 → parseFieldDescriptor (TX4 k).2.2.1 = some (tyX4 k) := by decide +kernel
def RX5 : String := "MarkTree$Stories"
def TX5 : u_T := fun k => match k with
  | 0 => ("MarkTree$Stories", "moments", "[I", true)
  | 1 => ("MarkTree$Stories", "sizes", "[[I", true)
  | 2 => ("MarkTree$Stories", "marks", "[[J", true)
  | _ => ("MarkTree$Stories", "size", "I", false)
def tyX5 : Nat → FieldType := fun k => match k with
  | 0 => .array .int
  | 1 => .array (.array .int)
  | 2 => .array (.array .long)
  | _ => .int
theorem nmX5 : ∀ a, a < 4 → ∀ b, b < 4 → a ≠ b → (TX5 a).2.1 ≠ (TX5 b).2.1 := by decide +kernel
theorem tyX5_ok : ∀ k, k < 4 → parseFieldDescriptor (TX5 k).2.2.1 = some (tyX5 k) := by decide +kernel
def RX6 : String := "MarkTree$Text"
def TX6 : u_T := fun k => match k with
  | 0 => ("MarkTree$Text", "bytes", "[I", true)
  | 1 => ("MarkTree$Text", "length", "I", false)
  | 2 => ("MarkTree$Text", "kind", "I", false)
  | 3 => ("MarkTree$Text", "start", "I", false)
  | 4 => ("MarkTree$Text", "stop", "I", false)
  | 5 => ("MarkTree$Text", "fault", "I", false)
  | _ => ("MarkTree$Text", "faultAt", "I", false)
def tyX6 : Nat → FieldType := fun k => match k with
  | 0 => .array .int
  | 1 => .int
  | 2 => .int
  | 3 => .int
  | 4 => .int
  | 5 => .int
  | _ => .int
theorem nmX6 : ∀ a, a < 7 → ∀ b, b < 7 → a ≠ b → (TX6 a).2.1 ≠ (TX6 b).2.1 := by decide +kernel
theorem tyX6_ok : ∀ k, k < 7 → parseFieldDescriptor (TX6 k).2.2.1 = some (tyX6 k) := by decide +kernel
def RX7 : String := "MarkTree$Tree"
def TX7 : u_T := fun k => match k with
  | 0 => ("MarkTree$Tree", "told", "[I", true)
  | 1 => ("MarkTree$Tree", "ended", "[I", true)
  | 2 => ("MarkTree$Tree", "joined", "[I", true)
  | 3 => ("MarkTree$Tree", "parents", "[[I", true)
  | _ => ("MarkTree$Tree", "size", "I", false)
def tyX7 : Nat → FieldType := fun k => match k with
  | 0 => .array .int
  | 1 => .array .int
  | 2 => .array .int
  | 3 => .array (.array .int)
  | _ => .int
theorem nmX7 : ∀ a, a < 5 → ∀ b, b < 5 → a ≠ b → (TX7 a).2.1 ≠ (TX7 b).2.1 := by decide +kernel
theorem tyX7_ok : ∀ k, k < 5 → parseFieldDescriptor (TX7 k).2.2.1 = some (tyX7 k) := by decide +kernel
def RX8 : String := "MarkTree$View"
def TX8 : u_T := fun k => match k with
  | 0 => ("MarkTree$View", "tree", "LMarkTree$Tree;", true)
  | 1 => ("MarkTree$View", "givings", "LMarkTree$Givings;", true)
  | 2 => ("MarkTree$View", "rules", "LMarkTree$Rules;", true)
  | 3 => ("MarkTree$View", "own", "LMarkTree$Force;", true)
  | 4 => ("MarkTree$View", "right", "[I", true)
  | 5 => ("MarkTree$View", "turns", "[Z", true)
  | 6 => ("MarkTree$View", "raises", "[I", true)
  | 7 => ("MarkTree$View", "wrong", "[I", true)
  | 8 => ("MarkTree$View", "meaning", "[I", true)
  | 9 => ("MarkTree$View", "needsLook", "[Z", true)
  | 10 => ("MarkTree$View", "shown", "[J", true)
  | 11 => ("MarkTree$View", "judged", "Z", false)
  | _ => ("MarkTree$View", "looksIn", "I", false)
def tyX8 : Nat → FieldType := fun k => match k with
  | 0 => .object "MarkTree$Tree"
  | 1 => .object "MarkTree$Givings"
  | 2 => .object "MarkTree$Rules"
  | 3 => .object "MarkTree$Force"
  | 4 => .array .int
  | 5 => .array .boolean
  | 6 => .array .int
  | 7 => .array .int
  | 8 => .array .int
  | 9 => .array .boolean
  | 10 => .array .long
  | 11 => .boolean
  | _ => .int
theorem nmX8 : ∀ a, a < 13 → ∀ b, b < 13 → a ≠ b → (TX8 a).2.1 ≠ (TX8 b).2.1 := by decide +kernel
theorem tyX8_ok : ∀ k, k < 13 → parseFieldDescriptor (TX8 k).2.2.1 = some (tyX8 k) := by decide +kernel
def RX9 : String := "MarkTree$Words"
def TX9 : u_T := fun k => match k with
  | 0 => ("MarkTree$Words", "tongue", "[I", true)
  | 1 => ("MarkTree$Words", "number", "[I", true)
  | 2 => ("MarkTree$Words", "mark", "[I", true)
  | _ => ("MarkTree$Words", "size", "I", false)
def tyX9 : Nat → FieldType := fun k => match k with
  | 0 => .array .int
  | 1 => .array .int
  | 2 => .array .int
  | _ => .int
theorem nmX9 : ∀ a, a < 4 → ∀ b, b < 4 → a ≠ b → (TX9 a).2.1 ≠ (TX9 b).2.1 := by decide +kernel
theorem tyX9_ok : ∀ k, k < 4 → parseFieldDescriptor (TX9 k).2.2.1 = some (tyX9 k) := by decide +kernel
def RX10 : String := "MarkTree"
def TX10 : u_T := fun k => match k with
  | 0 => ("MarkTree", "tree", "LMarkTree$Tree;", true)
  | 1 => ("MarkTree", "pictures", "LMarkTree$Pictures;", true)
  | 2 => ("MarkTree", "givings", "LMarkTree$Givings;", true)
  | 3 => ("MarkTree", "text", "LMarkTree$Text;", true)
  | 4 => ("MarkTree", "rules", "LMarkTree$Rules;", true)
  | 5 => ("MarkTree", "force", "LMarkTree$Force;", true)
  | 6 => ("MarkTree", "words", "LMarkTree$Words;", true)
  | 7 => ("MarkTree", "asks", "LMarkTree$Asks;", true)
  | 8 => ("MarkTree", "stories", "LMarkTree$Stories;", true)
  | 9 => ("MarkTree", "view", "LMarkTree$View;", true)
  | 10 => ("MarkTree", "now", "I", false)
  | _ => ("MarkTree", "faultAt", "I", false)
def tyX10 : Nat → FieldType := fun k => match k with
  | 0 => .object "MarkTree$Tree"
  | 1 => .object "MarkTree$Pictures"
  | 2 => .object "MarkTree$Givings"
  | 3 => .object "MarkTree$Text"
  | 4 => .object "MarkTree$Rules"
  | 5 => .object "MarkTree$Force"
  | 6 => .object "MarkTree$Words"
  | 7 => .object "MarkTree$Asks"
  | 8 => .object "MarkTree$Stories"
  | 9 => .object "MarkTree$View"
  | 10 => .int
  | _ => .int
theorem nmX10 : ∀ a, a < 12 → ∀ b, b < 12 → a ≠ b → (TX10 a).2.1 ≠ (TX10 b).2.1 := by decide +kernel
theorem tyX10_ok : ∀ k, k < 12 → parseFieldDescriptor (TX10 k).2.2.1 = some (tyX10 k) := by decide +kernel
def RX11 : String := "MarkTreeModel"
def TX11 : u_T := fun k => match k with
  | 0 => ("MarkTreeModel", "now", "I", false)
  | 1 => ("MarkTreeModel", "marks", "I", false)
  | 2 => ("MarkTreeModel", "begun", "[I", true)
  | 3 => ("MarkTreeModel", "ended", "[I", true)
  | 4 => ("MarkTreeModel", "joined", "[I", true)
  | 5 => ("MarkTreeModel", "parents", "[I", true)
  | 6 => ("MarkTreeModel", "pictures", "I", false)
  | 7 => ("MarkTreeModel", "years", "[I", true)
  | 8 => ("MarkTreeModel", "places", "[I", true)
  | 9 => ("MarkTreeModel", "copies", "[I", true)
  | 10 => ("MarkTreeModel", "givings", "I", false)
  | 11 => ("MarkTreeModel", "pictureOf", "[I", true)
  | 12 => ("MarkTreeModel", "markOf", "[I", true)
  | 13 => ("MarkTreeModel", "handOf", "[I", true)
  | 14 => ("MarkTreeModel", "keysOf", "[I", true)
  | 15 => ("MarkTreeModel", "givenIn", "[I", true)
  | 16 => ("MarkTreeModel", "doubted", "[I", true)
  | 17 => ("MarkTreeModel", "rules", "I", false)
  | 18 => ("MarkTreeModel", "ruleEdition", "[I", true)
  | 19 => ("MarkTreeModel", "ruleFirst", "[I", true)
  | 20 => ("MarkTreeModel", "clauses", "I", false)
  | 21 => ("MarkTreeModel", "clauseKind", "[I", true)
  | 22 => ("MarkTreeModel", "clauseA", "[I", true)
  | 23 => ("MarkTreeModel", "clauseB", "[I", true)
  | 24 => ("MarkTreeModel", "counts", "[Z", true)
  | 25 => ("MarkTreeModel", "senses", "[I", true)
  | 26 => ("MarkTreeModel", "most", "I", false)
  | 27 => ("MarkTreeModel", "wrong", "[I", true)
  | 28 => ("MarkTreeModel", "turns", "[Z", true)
  | 29 => ("MarkTreeModel", "raises", "[I", true)
  | 30 => ("MarkTreeModel", "meant", "[I", true)
  | 31 => ("MarkTreeModel", "looks", "[Z", true)
  | 32 => ("MarkTreeModel", "shown", "[J", true)
  | 33 => ("MarkTreeModel", "text", "[I", true)
  | 34 => ("MarkTreeModel", "texted", "I", false)
  | 35 => ("MarkTreeModel", "faultPlace", "I", false)
  | 36 => ("MarkTreeModel", "at0", "I", false)
  | 37 => ("MarkTreeModel", "word", "J", false)
  | 38 => ("MarkTreeModel", "wordEnd", "I", false)
  | 39 => ("MarkTreeModel", "number", "I", false)
  | 40 => ("MarkTreeModel", "words", "I", false)
  | 41 => ("MarkTreeModel", "wordOf", "[I", true)
  | 42 => ("MarkTreeModel", "wordMark", "[I", true)
  | 43 => ("MarkTreeModel", "asks", "I", false)
  | 44 => ("MarkTreeModel", "askMany", "[I", true)
  | 45 => ("MarkTreeModel", "askKind", "[I", true)
  | 46 => ("MarkTreeModel", "askA", "[I", true)
  | 47 => ("MarkTreeModel", "steps", "I", false)
  | 48 => ("MarkTreeModel", "waits", "I", false)
  | 49 => ("MarkTreeModel", "wait", "[I", true)
  | 50 => ("MarkTreeModel", "open", "I", false)
  | 51 => ("MarkTreeModel", "wantsOne", "Z", false)
  | 52 => ("MarkTreeModel", "pile", "[Z", true)
  | 53 => ("MarkTreeModel", "countX", "I", false)
  | 54 => ("MarkTreeModel", "countY", "I", false)
  | 55 => ("MarkTreeModel", "countZ", "I", false)
  | 56 => ("MarkTreeModel", "countN", "I", false)
  | 57 => ("MarkTreeModel", "likes", "[I", true)
  | 58 => ("MarkTreeModel", "stories", "I", false)
  | 59 => ("MarkTreeModel", "momentMany", "[I", true)
  | 60 => ("MarkTreeModel", "momentMarks", "[I", true)
  | _ => ("MarkTreeModel", "momentMark", "[I", true)
def tyX11 : Nat → FieldType := fun k => match k with
  | 0 => .int
  | 1 => .int
  | 2 => .array .int
  | 3 => .array .int
  | 4 => .array .int
  | 5 => .array .int
  | 6 => .int
  | 7 => .array .int
  | 8 => .array .int
  | 9 => .array .int
  | 10 => .int
  | 11 => .array .int
  | 12 => .array .int
  | 13 => .array .int
  | 14 => .array .int
  | 15 => .array .int
  | 16 => .array .int
  | 17 => .int
  | 18 => .array .int
  | 19 => .array .int
  | 20 => .int
  | 21 => .array .int
  | 22 => .array .int
  | 23 => .array .int
  | 24 => .array .boolean
  | 25 => .array .int
  | 26 => .int
  | 27 => .array .int
  | 28 => .array .boolean
  | 29 => .array .int
  | 30 => .array .int
  | 31 => .array .boolean
  | 32 => .array .long
  | 33 => .array .int
  | 34 => .int
  | 35 => .int
  | 36 => .int
  | 37 => .long
  | 38 => .int
  | 39 => .int
  | 40 => .int
  | 41 => .array .int
  | 42 => .array .int
  | 43 => .int
  | 44 => .array .int
  | 45 => .array .int
  | 46 => .array .int
  | 47 => .int
  | 48 => .int
  | 49 => .array .int
  | 50 => .int
  | 51 => .boolean
  | 52 => .array .boolean
  | 53 => .int
  | 54 => .int
  | 55 => .int
  | 56 => .int
  | 57 => .array .int
  | 58 => .int
  | 59 => .array .int
  | 60 => .array .int
  | _ => .array .int
theorem nmX11 : ∀ a, a < 62 → ∀ b, b < 62 → a ≠ b → (TX11 a).2.1 ≠ (TX11 b).2.1 := by decide +kernel
theorem tyX11_ok : ∀ k, k < 62 → parseFieldDescriptor (TX11 k).2.2.1 = some (tyX11 k) := by decide +kernel
def RJ13 : String := "java/lang/Long"
def RJ7 : String := "java/util/Arrays"
def RJ9 : String := "java/lang/Math"
def RL : String := "MarkTreeLaw"
abbrev cX0_init : ByteArray := prog_2_method_1_code
def yX0_init : MethodName := ⟨RX0, "<init>", "()V"⟩
abbrev cX0_has : ByteArray := prog_2_method_2_code
def yX0_has : MethodName := ⟨RX0, "has", "(I)Z"⟩
abbrev cX0_read : ByteArray := prog_2_method_3_code
def yX0_read : MethodName := ⟨RX0, "read", "(LMarkTree$Text;)V"⟩
abbrev cX0_readUpToOne : ByteArray := prog_2_method_4_code
def yX0_readUpToOne : MethodName := ⟨RX0, "readUpToOne", "(LMarkTree$Text;)V"⟩
abbrev cX0_openBracket : ByteArray := prog_2_method_5_code
def yX0_openBracket : MethodName := ⟨RX0, "openBracket", "(LMarkTree$Text;)V"⟩
abbrev cX0_readOne : ByteArray := prog_2_method_6_code
def yX0_readOne : MethodName := ⟨RX0, "readOne", "(LMarkTree$Text;)V"⟩
abbrev cX0_oneKind : ByteArray := prog_2_method_7_code
def yX0_oneKind : MethodName := ⟨RX0, "oneKind", "(LMarkTree$Text;)I"⟩
abbrev cX0_readNumber : ByteArray := prog_2_method_8_code
def yX0_readNumber : MethodName := ⟨RX0, "readNumber", "(LMarkTree$Text;I)I"⟩
abbrev cX0_readUpToJoin : ByteArray := prog_2_method_9_code
def yX0_readUpToJoin : MethodName := ⟨RX0, "readUpToJoin", "(LMarkTree$Text;)Z"⟩
abbrev cX0_closeBracket : ByteArray := prog_2_method_10_code
def yX0_closeBracket : MethodName := ⟨RX0, "closeBracket", "()V"⟩
abbrev cX0_joinBy : ByteArray := prog_2_method_11_code
def yX0_joinBy : MethodName := ⟨RX0, "joinBy", "(I)V"⟩
abbrev cX0_hold : ByteArray := prog_2_method_12_code
def yX0_hold : MethodName := ⟨RX0, "hold", "(I)V"⟩
abbrev cX0_releaseDownTo : ByteArray := prog_2_method_13_code
def yX0_releaseDownTo : MethodName := ⟨RX0, "releaseDownTo", "(I)V"⟩
abbrev cX0_emit : ByteArray := prog_2_method_14_code
def yX0_emit : MethodName := ⟨RX0, "emit", "(I)V"⟩
abbrev cX1_init : ByteArray := prog_3_method_1_code
def yX1_init : MethodName := ⟨RX1, "<init>", "()V"⟩
abbrev cX1_clear : ByteArray := prog_3_method_2_code
def yX1_clear : MethodName := ⟨RX1, "clear", "()V"⟩
abbrev cX1_setTo : ByteArray := prog_3_method_3_code
def yX1_setTo : MethodName := ⟨RX1, "setTo", "(LMarkTree$Rules;I)V"⟩
abbrev cX1_apply : ByteArray := prog_3_method_4_code
def yX1_apply : MethodName := ⟨RX1, "apply", "(LMarkTree$Rules;I)V"⟩
abbrev cX1_applyClause : ByteArray := prog_3_method_5_code
def yX1_applyClause : MethodName := ⟨RX1, "applyClause", "(III)V"⟩
abbrev cX1_hasKey : ByteArray := prog_3_method_6_code
def yX1_hasKey : MethodName := ⟨RX1, "hasKey", "(II)Z"⟩
abbrev cX1_disallows : ByteArray := prog_3_method_7_code
def yX1_disallows : MethodName := ⟨RX1, "disallows", "(IJ)Z"⟩
abbrev cX1_barsTwo : ByteArray := prog_3_method_8_code
def yX1_barsTwo : MethodName := ⟨RX1, "barsTwo", "(I)Z"⟩
abbrev cX1_countSense : ByteArray := prog_3_method_9_code
def yX1_countSense : MethodName := ⟨RX1, "countSense", "(II)I"⟩
abbrev cX2_init : ByteArray := prog_4_method_1_code
def yX2_init : MethodName := ⟨RX2, "<init>", "()V"⟩
abbrev cX2_has : ByteArray := prog_4_method_2_code
def yX2_has : MethodName := ⟨RX2, "has", "(I)Z"⟩
abbrev cX2_add : ByteArray := prog_4_method_3_code
def yX2_add : MethodName := ⟨RX2, "add", "(IIIII)I"⟩
abbrev cX2_doubters : ByteArray := prog_4_method_4_code
def yX2_doubters : MethodName := ⟨RX2, "doubters", "(II)I"⟩
abbrev cX2_picturesOf : ByteArray := prog_4_method_5_code
def yX2_picturesOf : MethodName := ⟨RX2, "picturesOf", "(II)J"⟩
abbrev cX3_init : ByteArray := prog_5_method_1_code
def yX3_init : MethodName := ⟨RX3, "<init>", "()V"⟩
abbrev cX3_has : ByteArray := prog_5_method_2_code
def yX3_has : MethodName := ⟨RX3, "has", "(I)Z"⟩
abbrev cX3_add : ByteArray := prog_5_method_3_code
def yX3_add : MethodName := ⟨RX3, "add", "(III)I"⟩
abbrev cX3_all : ByteArray := prog_5_method_4_code
def yX3_all : MethodName := ⟨RX3, "all", "()J"⟩
abbrev cX3_ofYears : ByteArray := prog_5_method_5_code
def yX3_ofYears : MethodName := ⟨RX3, "ofYears", "(II)J"⟩
abbrev cX3_atPlace : ByteArray := prog_5_method_6_code
def yX3_atPlace : MethodName := ⟨RX3, "atPlace", "(I)J"⟩
abbrev cX4_init : ByteArray := prog_6_method_1_code
def yX4_init : MethodName := ⟨RX4, "<init>", "()V"⟩
abbrev cX4_read : ByteArray := prog_6_method_2_code
def yX4_read : MethodName := ⟨RX4, "read", "(LMarkTree$Text;I)V"⟩
abbrev cX4_clauseKind : ByteArray := prog_6_method_3_code
def yX4_clauseKind : MethodName := ⟨RX4, "clauseKind", "(LMarkTree$Text;)I"⟩
abbrev cX4_readClause : ByteArray := prog_6_method_4_code
def yX4_readClause : MethodName := ⟨RX4, "readClause", "(LMarkTree$Text;I)V"⟩
abbrev cX4_readFirst : ByteArray := prog_6_method_5_code
def yX4_readFirst : MethodName := ⟨RX4, "readFirst", "(LMarkTree$Text;I)I"⟩
abbrev cX4_readSecond : ByteArray := prog_6_method_6_code
def yX4_readSecond : MethodName := ⟨RX4, "readSecond", "(LMarkTree$Text;I)I"⟩
abbrev cX4_readSense : ByteArray := prog_6_method_7_code
def yX4_readSense : MethodName := ⟨RX4, "readSense", "(LMarkTree$Text;)I"⟩
abbrev cX4_counting : ByteArray := prog_6_method_8_code
def yX4_counting : MethodName := ⟨RX4, "counting", "(I)I"⟩
abbrev cX5_init : ByteArray := prog_7_method_1_code
def yX5_init : MethodName := ⟨RX5, "<init>", "()V"⟩
abbrev cX5_has : ByteArray := prog_7_method_2_code
def yX5_has : MethodName := ⟨RX5, "has", "(I)Z"⟩
abbrev cX5_add : ByteArray := prog_7_method_3_code
def yX5_add : MethodName := ⟨RX5, "add", "()I"⟩
abbrev cX5_addMark : ByteArray := prog_7_method_4_code
def yX5_addMark : MethodName := ⟨RX5, "addMark", "(III)I"⟩
abbrev cX6_init : ByteArray := prog_8_method_1_code
def yX6_init : MethodName := ⟨RX6, "<init>", "()V"⟩
abbrev cX6_add : ByteArray := prog_8_method_2_code
def yX6_add : MethodName := ⟨RX6, "add", "(I)V"⟩
abbrev cX6_startReading : ByteArray := prog_8_method_3_code
def yX6_startReading : MethodName := ⟨RX6, "startReading", "()V"⟩
abbrev cX6_byteAt : ByteArray := prog_8_method_4_code
def yX6_byteAt : MethodName := ⟨RX6, "byteAt", "(I)I"⟩
abbrev cX6_kindOf : ByteArray := prog_8_method_5_code
def yX6_kindOf : MethodName := ⟨RX6, "kindOf", "(I)I"⟩
abbrev cX6_advance : ByteArray := prog_8_method_6_code
def yX6_advance : MethodName := ⟨RX6, "advance", "()V"⟩
abbrev cX6_fail : ByteArray := prog_8_method_7_code
def yX6_fail : MethodName := ⟨RX6, "fail", "(II)V"⟩
abbrev cX6_isWord : ByteArray := prog_8_method_8_code
def yX6_isWord : MethodName := ⟨RX6, "isWord", "(Ljava/lang/String;)Z"⟩
abbrev cX6_isSign : ByteArray := prog_8_method_9_code
def yX6_isSign : MethodName := ⟨RX6, "isSign", "(C)Z"⟩
abbrev cX6_takeWord : ByteArray := prog_8_method_10_code
def yX6_takeWord : MethodName := ⟨RX6, "takeWord", "(Ljava/lang/String;)V"⟩
abbrev cX6_takeSign : ByteArray := prog_8_method_11_code
def yX6_takeSign : MethodName := ⟨RX6, "takeSign", "(C)V"⟩
abbrev cX6_takeNumber : ByteArray := prog_8_method_12_code
def yX6_takeNumber : MethodName := ⟨RX6, "takeNumber", "(III)I"⟩
abbrev cX7_init : ByteArray := prog_9_method_1_code
def yX7_init : MethodName := ⟨RX7, "<init>", "()V"⟩
abbrev cX7_has : ByteArray := prog_9_method_2_code
def yX7_has : MethodName := ⟨RX7, "has", "(I)Z"⟩
abbrev cX7_add : ByteArray := prog_9_method_3_code
def yX7_add : MethodName := ⟨RX7, "add", "(II)I"⟩
abbrev cX7_setParent : ByteArray := prog_9_method_4_code
def yX7_setParent : MethodName := ⟨RX7, "setParent", "(III)V"⟩
abbrev cX7_parentIn : ByteArray := prog_9_method_5_code
def yX7_parentIn : MethodName := ⟨RX7, "parentIn", "(II)I"⟩
abbrev cX7_isEnded : ByteArray := prog_9_method_6_code
def yX7_isEnded : MethodName := ⟨RX7, "isEnded", "(II)Z"⟩
abbrev cX7_isThere : ByteArray := prog_9_method_7_code
def yX7_isThere : MethodName := ⟨RX7, "isThere", "(II)Z"⟩
abbrev cX7_pathUp : ByteArray := prog_9_method_8_code
def yX7_pathUp : MethodName := ⟨RX7, "pathUp", "(II)J"⟩
abbrev cX7_isBelow : ByteArray := prog_9_method_9_code
def yX7_isBelow : MethodName := ⟨RX7, "isBelow", "(III)Z"⟩
abbrev cX7_countBelow : ByteArray := prog_9_method_10_code
def yX7_countBelow : MethodName := ⟨RX7, "countBelow", "(II)I"⟩
abbrev cX7_countThere : ByteArray := prog_9_method_11_code
def yX7_countThere : MethodName := ⟨RX7, "countThere", "(I)I"⟩
abbrev cX7_followJoins : ByteArray := prog_9_method_12_code
def yX7_followJoins : MethodName := ⟨RX7, "followJoins", "(II)I"⟩
abbrev cX7_firstThere : ByteArray := prog_9_method_13_code
def yX7_firstThere : MethodName := ⟨RX7, "firstThere", "(II)I"⟩
abbrev cX7_raised : ByteArray := prog_9_method_14_code
def yX7_raised : MethodName := ⟨RX7, "raised", "(III)I"⟩
abbrev cX8_init : ByteArray := prog_10_method_1_code
def yX8_init : MethodName := ⟨RX8, "<init>", "(LMarkTree$Tree;LMarkTree$Givings;LMarkTree$Rules;)V"⟩
abbrev cX8_forget : ByteArray := prog_10_method_2_code
def yX8_forget : MethodName := ⟨RX8, "forget", "()V"⟩
abbrev cX8_judge : ByteArray := prog_10_method_3_code
def yX8_judge : MethodName := ⟨RX8, "judge", "()V"⟩
abbrev cX8_whyWrong : ByteArray := prog_10_method_4_code
def yX8_whyWrong : MethodName := ⟨RX8, "whyWrong", "(II)I"⟩
abbrev cX8_lookIn : ByteArray := prog_10_method_5_code
def yX8_lookIn : MethodName := ⟨RX8, "lookIn", "(I)V"⟩
abbrev cX8_setMeaning : ByteArray := prog_10_method_6_code
def yX8_setMeaning : MethodName := ⟨RX8, "setMeaning", "(I)V"⟩
abbrev cX8_shows : ByteArray := prog_10_method_7_code
def yX8_shows : MethodName := ⟨RX8, "shows", "(II)Z"⟩
abbrev cX8_showing : ByteArray := prog_10_method_8_code
def yX8_showing : MethodName := ⟨RX8, "showing", "(I)J"⟩
abbrev cX8_showingAny : ByteArray := prog_10_method_9_code
def yX8_showingAny : MethodName := ⟨RX8, "showingAny", "(J)J"⟩
abbrev cX8_meansBelow : ByteArray := prog_10_method_10_code
def yX8_meansBelow : MethodName := ⟨RX8, "meansBelow", "(II)Z"⟩
abbrev cX8_seenBy : ByteArray := prog_10_method_11_code
def yX8_seenBy : MethodName := ⟨RX8, "seenBy", "(II)J"⟩
abbrev cX8_isLacking : ByteArray := prog_10_method_12_code
def yX8_isLacking : MethodName := ⟨RX8, "isLacking", "(ILMarkTree$Force;)Z"⟩
abbrev cX8_countWrong : ByteArray := prog_10_method_13_code
def yX8_countWrong : MethodName := ⟨RX8, "countWrong", "()I"⟩
abbrev cX8_countNeedingLook : ByteArray := prog_10_method_14_code
def yX8_countNeedingLook : MethodName := ⟨RX8, "countNeedingLook", "()I"⟩
abbrev cX8_countLacking : ByteArray := prog_10_method_15_code
def yX8_countLacking : MethodName := ⟨RX8, "countLacking", "(LMarkTree$Force;)I"⟩
abbrev cX9_init : ByteArray := prog_11_method_1_code
def yX9_init : MethodName := ⟨RX9, "<init>", "()V"⟩
abbrev cX9_add : ByteArray := prog_11_method_2_code
def yX9_add : MethodName := ⟨RX9, "add", "(III)I"⟩
abbrev cX9_marksOf : ByteArray := prog_11_method_3_code
def yX9_marksOf : MethodName := ⟨RX9, "marksOf", "(II)J"⟩
abbrev cX10_init : ByteArray := prog_1_method_1_code
def yX10_init : MethodName := ⟨RX10, "<init>", "()V"⟩
abbrev cX10_edition : ByteArray := prog_1_method_2_code
def yX10_edition : MethodName := ⟨RX10, "edition", "()I"⟩
abbrev cX10_mark : ByteArray := prog_1_method_3_code
def yX10_mark : MethodName := ⟨RX10, "mark", "(I)I"⟩
abbrev cX10_move : ByteArray := prog_1_method_4_code
def yX10_move : MethodName := ⟨RX10, "move", "(II)I"⟩
abbrev cX10_end : ByteArray := prog_1_method_5_code
def yX10_end : MethodName := ⟨RX10, "end", "(II)I"⟩
abbrev cX10_tree : ByteArray := prog_1_method_6_code
def yX10_tree : MethodName := ⟨RX10, "tree", "(III)I"⟩
abbrev cX10_below : ByteArray := prog_1_method_7_code
def yX10_below : MethodName := ⟨RX10, "below", "(III)I"⟩
abbrev cX10_picture : ByteArray := prog_1_method_8_code
def yX10_picture : MethodName := ⟨RX10, "picture", "(III)I"⟩
abbrev cX10_give : ByteArray := prog_1_method_9_code
def yX10_give : MethodName := ⟨RX10, "give", "(IIII)I"⟩
abbrev cX10_doubt : ByteArray := prog_1_method_10_code
def yX10_doubt : MethodName := ⟨RX10, "doubt", "(II)I"⟩
abbrev cX10_told : ByteArray := prog_1_method_11_code
def yX10_told : MethodName := ⟨RX10, "told", "(II)I"⟩
abbrev cX10_means : ByteArray := prog_1_method_12_code
def yX10_means : MethodName := ⟨RX10, "means", "(III)I"⟩
abbrev cX10_led : ByteArray := prog_1_method_13_code
def yX10_led : MethodName := ⟨RX10, "led", "(III)I"⟩
abbrev cX10_count : ByteArray := prog_1_method_14_code
def yX10_count : MethodName := ⟨RX10, "count", "(I)I"⟩
abbrev cX10_feed : ByteArray := prog_1_method_15_code
def yX10_feed : MethodName := ⟨RX10, "feed", "(IJ)I"⟩
abbrev cX10_rule : ByteArray := prog_1_method_16_code
def yX10_rule : MethodName := ⟨RX10, "rule", "(I)I"⟩
abbrev cX10_fault : ByteArray := prog_1_method_17_code
def yX10_fault : MethodName := ⟨RX10, "fault", "()I"⟩
abbrev cX10_force : ByteArray := prog_1_method_18_code
def yX10_force : MethodName := ⟨RX10, "force", "(II)I"⟩
abbrev cX10_word : ByteArray := prog_1_method_19_code
def yX10_word : MethodName := ⟨RX10, "word", "(III)I"⟩
abbrev cX10_leads : ByteArray := prog_1_method_20_code
def yX10_leads : MethodName := ⟨RX10, "leads", "(II)I"⟩
abbrev cX10_ask : ByteArray := prog_1_method_21_code
def yX10_ask : MethodName := ⟨RX10, "ask", "()I"⟩
abbrev cX10_met : ByteArray := prog_1_method_22_code
def yX10_met : MethodName := ⟨RX10, "met", "(III)I"⟩
abbrev cX10_hands : ByteArray := prog_1_method_23_code
def yX10_hands : MethodName := ⟨RX10, "hands", "(IIIII)I"⟩
abbrev cX10_together : ByteArray := prog_1_method_24_code
def yX10_together : MethodName := ⟨RX10, "together", "(IIIIII)I"⟩
abbrev cX10_along : ByteArray := prog_1_method_25_code
def yX10_along : MethodName := ⟨RX10, "along", "(III)I"⟩
abbrev cX10_likely : ByteArray := prog_1_method_26_code
def yX10_likely : MethodName := ⟨RX10, "likely", "(III)I"⟩
abbrev cX10_lacking : ByteArray := prog_1_method_27_code
def yX10_lacking : MethodName := ⟨RX10, "lacking", "(II)J"⟩
abbrev cX10_story : ByteArray := prog_1_method_28_code
def yX10_story : MethodName := ⟨RX10, "story", "()I"⟩
abbrev cX10_moment : ByteArray := prog_1_method_29_code
def yX10_moment : MethodName := ⟨RX10, "moment", "(III)I"⟩
abbrev cX10_of : ByteArray := prog_1_method_30_code
def yX10_of : MethodName := ⟨RX10, "of", "(IIII)I"⟩
abbrev cX10_split : ByteArray := prog_1_method_31_code
def yX10_split : MethodName := ⟨RX10, "split", "(III)I"⟩
abbrev cX10_isWithin : ByteArray := prog_1_method_32_code
def yX10_isWithin : MethodName := ⟨RX10, "isWithin", "(III)Z"⟩
abbrev cX10_isYear : ByteArray := prog_1_method_33_code
def yX10_isYear : MethodName := ⟨RX10, "isYear", "(I)Z"⟩
abbrev cX10_isHand : ByteArray := prog_1_method_34_code
def yX10_isHand : MethodName := ⟨RX10, "isHand", "(I)Z"⟩
abbrev cX10_isWord : ByteArray := prog_1_method_35_code
def yX10_isWord : MethodName := ⟨RX10, "isWord", "(II)Z"⟩
abbrev cX10_isKnownEdition : ByteArray := prog_1_method_36_code
def yX10_isKnownEdition : MethodName := ⟨RX10, "isKnownEdition", "(I)Z"⟩
abbrev cX10_oneIf : ByteArray := prog_1_method_37_code
def yX10_oneIf : MethodName := ⟨RX10, "oneIf", "(Z)I"⟩
abbrev cX10_pick : ByteArray := prog_1_method_38_code
def yX10_pick : MethodName := ⟨RX10, "pick", "(JI)I"⟩
abbrev cX10_afterReading : ByteArray := prog_1_method_39_code
def yX10_afterReading : MethodName := ⟨RX10, "afterReading", "(I)I"⟩
abbrev cX10_missed : ByteArray := prog_1_method_40_code
def yX10_missed : MethodName := ⟨RX10, "missed", "(JJ)I"⟩
abbrev cX10_isBeyondChance : ByteArray := prog_1_method_41_code
def yX10_isBeyondChance : MethodName := ⟨RX10, "isBeyondChance", "(JJI)Z"⟩
abbrev cX10_isApart : ByteArray := prog_1_method_42_code
def yX10_isApart : MethodName := ⟨RX10, "isApart", "(III)Z"⟩
abbrev cX10_goingAlong : ByteArray := prog_1_method_43_code
def yX10_goingAlong : MethodName := ⟨RX10, "goingAlong", "(II)J"⟩
abbrev cX10_metBy : ByteArray := prog_1_method_44_code
def yX10_metBy : MethodName := ⟨RX10, "metBy", "(II)J"⟩
abbrev cX10_metByOne : ByteArray := prog_1_method_45_code
def yX10_metByOne : MethodName := ⟨RX10, "metByOne", "(III)J"⟩
abbrev cX11_init : ByteArray := prog_13_method_1_code
def yX11_init : MethodName := ⟨RX11, "<init>", "()V"⟩
abbrev cX11_in : ByteArray := prog_13_method_3_code
def yX11_in : MethodName := ⟨RX11, "in", "(JJJ)Z"⟩
abbrev cX11_isMark : ByteArray := prog_13_method_4_code
def yX11_isMark : MethodName := ⟨RX11, "isMark", "(I)Z"⟩
abbrev cX11_isEdition : ByteArray := prog_13_method_5_code
def yX11_isEdition : MethodName := ⟨RX11, "isEdition", "(I)Z"⟩
abbrev cX11_tell : ByteArray := prog_13_method_6_code
def yX11_tell : MethodName := ⟨RX11, "tell", "(I)V"⟩
abbrev cX11_hang : ByteArray := prog_13_method_7_code
def yX11_hang : MethodName := ⟨RX11, "hang", "(II)V"⟩
abbrev cX11_isTold : ByteArray := prog_13_method_8_code
def yX11_isTold : MethodName := ⟨RX11, "isTold", "(II)Z"⟩
abbrev cX11_isThere : ByteArray := prog_13_method_9_code
def yX11_isThere : MethodName := ⟨RX11, "isThere", "(II)Z"⟩
abbrev cX11_isBelow : ByteArray := prog_13_method_10_code
def yX11_isBelow : MethodName := ⟨RX11, "isBelow", "(III)Z"⟩
abbrev cX11_belowMany : ByteArray := prog_13_method_11_code
def yX11_belowMany : MethodName := ⟨RX11, "belowMany", "(II)I"⟩
abbrev cX11_edition : ByteArray := prog_13_method_12_code
def yX11_edition : MethodName := ⟨RX11, "edition", "()I"⟩
abbrev cX11_mark : ByteArray := prog_13_method_13_code
def yX11_mark : MethodName := ⟨RX11, "mark", "(I)I"⟩
abbrev cX11_move : ByteArray := prog_13_method_14_code
def yX11_move : MethodName := ⟨RX11, "move", "(II)I"⟩
abbrev cX11_end : ByteArray := prog_13_method_15_code
def yX11_end : MethodName := ⟨RX11, "end", "(II)I"⟩
abbrev cX11_tree : ByteArray := prog_13_method_16_code
def yX11_tree : MethodName := ⟨RX11, "tree", "(III)I"⟩
abbrev cX11_below : ByteArray := prog_13_method_17_code
def yX11_below : MethodName := ⟨RX11, "below", "(III)I"⟩
abbrev cX11_isPicture : ByteArray := prog_13_method_18_code
def yX11_isPicture : MethodName := ⟨RX11, "isPicture", "(I)Z"⟩
abbrev cX11_isGiving : ByteArray := prog_13_method_19_code
def yX11_isGiving : MethodName := ⟨RX11, "isGiving", "(I)Z"⟩
abbrev cX11_isHand : ByteArray := prog_13_method_20_code
def yX11_isHand : MethodName := ⟨RX11, "isHand", "(I)Z"⟩
abbrev cX11_picture : ByteArray := prog_13_method_21_code
def yX11_picture : MethodName := ⟨RX11, "picture", "(III)I"⟩
abbrev cX11_give : ByteArray := prog_13_method_22_code
def yX11_give : MethodName := ⟨RX11, "give", "(IIII)I"⟩
abbrev cX11_doubts : ByteArray := prog_13_method_23_code
def yX11_doubts : MethodName := ⟨RX11, "doubts", "(II)I"⟩
abbrev cX11_doubt : ByteArray := prog_13_method_24_code
def yX11_doubt : MethodName := ⟨RX11, "doubt", "(II)I"⟩
abbrev cX11_told : ByteArray := prog_13_method_25_code
def yX11_told : MethodName := ⟨RX11, "told", "(II)I"⟩
abbrev cX11_strikes : ByteArray := prog_13_method_26_code
def yX11_strikes : MethodName := ⟨RX11, "strikes", "(II)Z"⟩
abbrev cX11_findRules : ByteArray := prog_13_method_27_code
def yX11_findRules : MethodName := ⟨RX11, "findRules", "(I)V"⟩
abbrev cX11_ruleOf : ByteArray := prog_13_method_28_code
def yX11_ruleOf : MethodName := ⟨RX11, "ruleOf", "(I)I"⟩
abbrev cX11_holds : ByteArray := prog_13_method_29_code
def yX11_holds : MethodName := ⟨RX11, "holds", "(II)Z"⟩
abbrev cX11_isBarred : ByteArray := prog_13_method_30_code
def yX11_isBarred : MethodName := ⟨RX11, "isBarred", "(I)Z"⟩
abbrev cX11_isAllowed : ByteArray := prog_13_method_31_code
def yX11_isAllowed : MethodName := ⟨RX11, "isAllowed", "(III)Z"⟩
abbrev cX11_whyWrong : ByteArray := prog_13_method_32_code
def yX11_whyWrong : MethodName := ⟨RX11, "whyWrong", "(I)I"⟩
abbrev cX11_findWrong : ByteArray := prog_13_method_33_code
def yX11_findWrong : MethodName := ⟨RX11, "findWrong", "()V"⟩
abbrev cX11_findMeant : ByteArray := prog_13_method_34_code
def yX11_findMeant : MethodName := ⟨RX11, "findMeant", "(II)V"⟩
abbrev cX11_find : ByteArray := prog_13_method_35_code
def yX11_find : MethodName := ⟨RX11, "find", "(I)V"⟩
abbrev cX11_shows : ByteArray := prog_13_method_36_code
def yX11_shows : MethodName := ⟨RX11, "shows", "(II)Z"⟩
abbrev cX11_showing : ByteArray := prog_13_method_37_code
def yX11_showing : MethodName := ⟨RX11, "showing", "(II)I"⟩
abbrev cX11_lacks : ByteArray := prog_13_method_38_code
def yX11_lacks : MethodName := ⟨RX11, "lacks", "(II)Z"⟩
abbrev cX11_means : ByteArray := prog_13_method_39_code
def yX11_means : MethodName := ⟨RX11, "means", "(III)I"⟩
abbrev cX11_led : ByteArray := prog_13_method_40_code
def yX11_led : MethodName := ⟨RX11, "led", "(III)I"⟩
abbrev cX11_count : ByteArray := prog_13_method_41_code
def yX11_count : MethodName := ⟨RX11, "count", "(I)I"⟩
abbrev cX11_feed : ByteArray := prog_13_method_42_code
def yX11_feed : MethodName := ⟨RX11, "feed", "(IJ)I"⟩
abbrev cX11_here : ByteArray := prog_13_method_43_code
def yX11_here : MethodName := ⟨RX11, "here", "()I"⟩
abbrev cX11_fails : ByteArray := prog_13_method_44_code
def yX11_fails : MethodName := ⟨RX11, "fails", "(II)I"⟩
abbrev cX11_readWord : ByteArray := prog_13_method_45_code
def yX11_readWord : MethodName := ⟨RX11, "readWord", "()V"⟩
abbrev cX11_code : ByteArray := prog_13_method_46_code
def yX11_code : MethodName := ⟨RX11, "code", "(IIIIII)J"⟩
abbrev cX11_readNumber : ByteArray := prog_13_method_47_code
def yX11_readNumber : MethodName := ⟨RX11, "readNumber", "(IIII)I"⟩
abbrev cX11_needs : ByteArray := prog_13_method_48_code
def yX11_needs : MethodName := ⟨RX11, "needs", "(J)I"⟩
abbrev cX11_senseOf : ByteArray := prog_13_method_49_code
def yX11_senseOf : MethodName := ⟨RX11, "senseOf", "()I"⟩
abbrev cX11_keyOf : ByteArray := prog_13_method_50_code
def yX11_keyOf : MethodName := ⟨RX11, "keyOf", "()I"⟩
abbrev cX11_readSense : ByteArray := prog_13_method_51_code
def yX11_readSense : MethodName := ⟨RX11, "readSense", "(I)I"⟩
abbrev cX11_readPair : ByteArray := prog_13_method_52_code
def yX11_readPair : MethodName := ⟨RX11, "readPair", "(II)I"⟩
abbrev cX11_readClause : ByteArray := prog_13_method_53_code
def yX11_readClause : MethodName := ⟨RX11, "readClause", "(IZ)I"⟩
abbrev cX11_rule : ByteArray := prog_13_method_54_code
def yX11_rule : MethodName := ⟨RX11, "rule", "(I)I"⟩
abbrev cX11_fault : ByteArray := prog_13_method_55_code
def yX11_fault : MethodName := ⟨RX11, "fault", "()I"⟩
abbrev cX11_force : ByteArray := prog_13_method_56_code
def yX11_force : MethodName := ⟨RX11, "force", "(II)I"⟩
abbrev cX11_isWord : ByteArray := prog_13_method_57_code
def yX11_isWord : MethodName := ⟨RX11, "isWord", "(II)Z"⟩
abbrev cX11_leadsMany : ByteArray := prog_13_method_58_code
def yX11_leadsMany : MethodName := ⟨RX11, "leadsMany", "(II)I"⟩
abbrev cX11_word : ByteArray := prog_13_method_59_code
def yX11_word : MethodName := ⟨RX11, "word", "(III)I"⟩
abbrev cX11_leads : ByteArray := prog_13_method_60_code
def yX11_leads : MethodName := ⟨RX11, "leads", "(II)I"⟩
abbrev cX11_put : ByteArray := prog_13_method_61_code
def yX11_put : MethodName := ⟨RX11, "put", "(II)V"⟩
abbrev cX11_work : ByteArray := prog_13_method_62_code
def yX11_work : MethodName := ⟨RX11, "work", "(I)V"⟩
abbrev cX11_hold : ByteArray := prog_13_method_63_code
def yX11_hold : MethodName := ⟨RX11, "hold", "(I)V"⟩
abbrev cX11_readLeaf : ByteArray := prog_13_method_64_code
def yX11_readLeaf : MethodName := ⟨RX11, "readLeaf", "()I"⟩
abbrev cX11_readOne : ByteArray := prog_13_method_65_code
def yX11_readOne : MethodName := ⟨RX11, "readOne", "()I"⟩
abbrev cX11_readBehind : ByteArray := prog_13_method_66_code
def yX11_readBehind : MethodName := ⟨RX11, "readBehind", "()I"⟩
abbrev cX11_ask : ByteArray := prog_13_method_67_code
def yX11_ask : MethodName := ⟨RX11, "ask", "()I"⟩
abbrev cX11_hasHand : ByteArray := prog_13_method_68_code
def yX11_hasHand : MethodName := ⟨RX11, "hasHand", "(III)Z"⟩
abbrev cX11_showsWord : ByteArray := prog_13_method_69_code
def yX11_showsWord : MethodName := ⟨RX11, "showsWord", "(II)Z"⟩
abbrev cX11_isMet : ByteArray := prog_13_method_70_code
def yX11_isMet : MethodName := ⟨RX11, "isMet", "(III)Z"⟩
abbrev cX11_met : ByteArray := prog_13_method_71_code
def yX11_met : MethodName := ⟨RX11, "met", "(III)I"⟩
abbrev cX11_saw : ByteArray := prog_13_method_72_code
def yX11_saw : MethodName := ⟨RX11, "saw", "(IIII)Z"⟩
abbrev cX11_hands : ByteArray := prog_13_method_73_code
def yX11_hands : MethodName := ⟨RX11, "hands", "(IIIII)I"⟩
abbrev cX11_isBeyond : ByteArray := prog_13_method_74_code
def yX11_isBeyond : MethodName := ⟨RX11, "isBeyond", "(IIII)Z"⟩
abbrev cX11_together : ByteArray := prog_13_method_75_code
def yX11_together : MethodName := ⟨RX11, "together", "(IIIIII)I"⟩
abbrev cX11_areApart : ByteArray := prog_13_method_76_code
def yX11_areApart : MethodName := ⟨RX11, "areApart", "(III)Z"⟩
abbrev cX11_goesAlong : ByteArray := prog_13_method_77_code
def yX11_goesAlong : MethodName := ⟨RX11, "goesAlong", "(III)Z"⟩
abbrev cX11_along : ByteArray := prog_13_method_78_code
def yX11_along : MethodName := ⟨RX11, "along", "(III)I"⟩
abbrev cX11_likely : ByteArray := prog_13_method_79_code
def yX11_likely : MethodName := ⟨RX11, "likely", "(III)I"⟩
abbrev cX11_firstOf : ByteArray := prog_13_method_80_code
def yX11_firstOf : MethodName := ⟨RX11, "firstOf", "(I)I"⟩
abbrev cX11_lacking : ByteArray := prog_13_method_81_code
def yX11_lacking : MethodName := ⟨RX11, "lacking", "(II)J"⟩
abbrev cX11_story : ByteArray := prog_13_method_82_code
def yX11_story : MethodName := ⟨RX11, "story", "()I"⟩
abbrev cX11_moment : ByteArray := prog_13_method_83_code
def yX11_moment : MethodName := ⟨RX11, "moment", "(III)I"⟩
abbrev cX11_of : ByteArray := prog_13_method_84_code
def yX11_of : MethodName := ⟨RX11, "of", "(IIII)I"⟩
abbrev cX11_split : ByteArray := prog_13_method_85_code
def yX11_split : MethodName := ⟨RX11, "split", "(III)I"⟩
abbrev cJ13_bitCount_95d88 : ByteArray := prog_14_method_50_code
def yJ13_bitCount_95d88 : MethodName := ⟨RJ13, "bitCount", "(J)I"⟩
abbrev cJ9_max_7cf53 : ByteArray := prog_15_method_65_code
def yJ9_max_7cf53 : MethodName := ⟨RJ9, "max", "(II)I"⟩
abbrev cJ9_min_7cf53 : ByteArray := prog_15_method_69_code
def yJ9_min_7cf53 : MethodName := ⟨RJ9, "min", "(II)I"⟩
abbrev cJ7_fill_d0a16 : ByteArray := prog_19_method_101_code
def yJ7_fill_d0a16 : MethodName := ⟨RJ7, "fill", "([JJ)V"⟩
abbrev cJ7_fill_53178 : ByteArray := prog_19_method_103_code
def yJ7_fill_53178 : MethodName := ⟨RJ7, "fill", "([II)V"⟩
abbrev cL_law : ByteArray := code
def yL_law : MethodName := ⟨RL, "law", "([I)Z"⟩
abbrev pm_cl : List vw_C := [(RX0, TX0, 7), (RX1, TX1, 8), (RX2, TX2, 7), (RX3, TX3, 4), (RX4, TX4, 6), (RX5, TX5, 4), (RX6, TX6, 7), (RX7, TX7, 5), (RX8, TX8, 13), (RX9, TX9, 4), (RX10, TX10, 12), (RX11, TX11, 62)]
theorem wiX0 : ∀ w ∈ u_ws RX0 TX0 7, w ∈ lw_tbl := pm_sub [341, 343, 345, 347, 349, 351, 353] (by decide +kernel)
theorem wiX1 : ∀ w ∈ u_ws RX1 TX1 8, w ∈ lw_tbl := pm_sub [285, 287, 289, 291, 293, 295, 297, 299] (by decide +kernel)
theorem wiX2 : ∀ w ∈ u_ws RX2 TX2 7, w ∈ lw_tbl := pm_sub [179, 181, 183, 185, 187, 189, 191] (by decide +kernel)
theorem wiX3 : ∀ w ∈ u_ws RX3 TX3 4, w ∈ lw_tbl := pm_sub [143, 145, 147, 149] (by decide +kernel)
theorem wiX4 : ∀ w ∈ u_ws RX4 TX4 6, w ∈ lw_tbl := pm_sub [251, 253, 255, 257, 259, 261] (by decide +kernel)
theorem wiX5 : ∀ w ∈ u_ws RX5 TX5 4, w ∈ lw_tbl := pm_sub [372, 374, 376, 378] (by decide +kernel)
theorem wiX6 : ∀ w ∈ u_ws RX6 TX6 7, w ∈ lw_tbl := pm_sub [216, 218, 220, 222, 224, 226, 228] (by decide +kernel)
theorem wiX7 : ∀ w ∈ u_ws RX7 TX7 5, w ∈ lw_tbl := pm_sub [119, 121, 123, 125, 127] (by decide +kernel)
theorem wiX8 : ∀ w ∈ u_ws RX8 TX8 13, w ∈ lw_tbl := pm_sub [406, 408, 410, 412, 414, 416, 418, 420, 422, 424, 426, 428, 430] (by decide +kernel)
theorem wiX9 : ∀ w ∈ u_ws RX9 TX9 4, w ∈ lw_tbl := pm_sub [314, 316, 318, 320] (by decide +kernel)
theorem wiX10 : ∀ w ∈ u_ws RX10 TX10 12, w ∈ lw_tbl := pm_sub [446, 448, 450, 452, 454, 456, 458, 460, 462, 464, 466, 468] (by decide +kernel)
theorem wiX11 : ∀ w ∈ u_ws RX11 TX11 62, w ∈ lw_tbl := pm_sub [1150, 1152, 1154, 1156, 1158, 1160, 1162, 1164, 1166, 1168, 1170, 1172, 1174, 1176, 1178, 1180, 1182, 1184, 1186, 1188, 1190, 1192, 1194, 1196, 1198, 1200, 1202, 1204, 1206, 1208, 1210, 1212, 1214, 1216, 1218, 1220, 1222, 1224, 1226, 1228, 1230, 1232, 1234, 1236, 1238, 1240, 1242, 1244, 1246, 1248, 1250, 1252, 1254, 1256, 1258, 1260, 1262, 1264, 1266, 1268, 1270, 1272] (by decide +kernel)
end
section
def pmk0 : List (Nat × Instr × Nat) := [(0, .aload_n 0, 1), (1, .invokespecial 5, 3), (4, .aload_n 0, 1), (5, .bipush 8, 2), (7, .newarray .int, 2), (9, .putfield 11, 3), (12, .aload_n 0, 1), (13, .bipush 8, 2), (15, .bipush 100, 2), (17, .multianewarray 15 2, 4), (21, .putfield 17, 3), (24, .aload_n 0, 1), (25, .bipush 100, 2), (27, .newarray .long, 2), (29, .putfield 20, 3), (32, .aload_n 0, 1), (33, .bipush 100, 2), (35, .newarray .int, 2), (37, .putfield 24, 3), (40, .return_, 1)]
def pmk1 : List (Nat × Instr × Nat) := [(0, .iload_n 1, 1), (1, .ifCond .lt 15, 3), (4, .iload_n 1, 1), (5, .aload_n 0, 1), (6, .getfield 27, 3), (9, .if_icmp .ge 7, 3), (12, .iconst 1, 1), (13, .goto 4, 3), (16, .iconst 0, 1), (17, .ireturn, 1)]
def pmk2 : List (Nat × Instr × Nat) := [(0, .aload_n 1, 1), (1, .invokevirtual 31, 3), (4, .aload_n 0, 1), (5, .getfield 27, 3), (8, .bipush 8, 2), (10, .if_icmp .lt 4, 3), (13, .return_, 1), (14, .aload_n 0, 1), (15, .getfield 11, 3), (18, .aload_n 0, 1), (19, .getfield 27, 3), (22, .iconst 0, 1), (23, .iastore, 1), (24, .aload_n 0, 1), (25, .iconst 0, 1), (26, .putfield 36, 3), (29, .aload_n 0, 1), (30, .iconst 0, 1), (31, .putfield 39, 3), (34, .iconst 1, 1), (35, .istore_n 2, 1), (36, .iconst 0, 1), (37, .istore_n 3, 1), (38, .iload_n 2, 1), (39, .ifCond .eq 31, 3), (42, .iload_n 3, 1), (43, .bipush 100, 2), (45, .if_icmp .ge 25, 3), (48, .aload_n 0, 1), (49, .aload_n 1, 1), (50, .invokevirtual 42, 3), (53, .aload_n 0, 1), (54, .aload_n 1, 1), (55, .invokevirtual 46, 3), (58, .aload_n 0, 1), (59, .aload_n 1, 1), (60, .invokevirtual 49, 3), (63, .istore_n 2, 1), (64, .iinc 3 1, 3), (67, .goto (-29), 3), (70, .aload_n 1, 1), (71, .getfield 53, 3), (74, .ifCond .eq 4, 3), (77, .return_, 1), (78, .aload_n 0, 1), (79, .bipush 7, 2), (81, .invokevirtual 56, 3), (84, .aload_n 0, 1), (85, .dup, 1), (86, .getfield 27, 3), (89, .iconst 1, 1), (90, .iadd, 1), (91, .putfield 27, 3), (94, .return_, 1)]
def pmk3 : List (Nat × Instr × Nat) := [(0, .iconst 0, 1), (1, .istore_n 2, 1), (2, .iload_n 2, 1), (3, .bipush 100, 2), (5, .if_icmp .ge 56, 3), (8, .aload_n 1, 1), (9, .getfield 53, 3), (12, .ifCond .ne 49, 3), (15, .aload_n 1, 1), (16, .bipush 40, 2), (18, .invokevirtual 60, 3), (21, .ifCond .eq 11, 3), (24, .aload_n 0, 1), (25, .aload_n 1, 1), (26, .invokevirtual 64, 3), (29, .goto 22, 3), (32, .aload_n 1, 1), (33, .ldc 67, 2), (35, .invokevirtual 69, 3), (38, .ifCond .eq 12, 3), (41, .aload_n 0, 1), (42, .bipush 9, 2), (44, .invokevirtual 73, 3), (47, .goto 4, 3), (50, .return_, 1), (51, .aload_n 1, 1), (52, .invokevirtual 76, 3), (55, .iinc 2 1, 3), (58, .goto (-56), 3), (61, .return_, 1)]
def pmk4 : List (Nat × Instr × Nat) := [(0, .aload_n 0, 1), (1, .getfield 39, 3), (4, .iconst 5, 1), (5, .if_icmp .lt 12, 3), (8, .aload_n 1, 1), (9, .iconst 5, 1), (10, .aload_n 1, 1), (11, .getfield 79, 3), (14, .invokevirtual 82, 3), (17, .aload_n 0, 1), (18, .dup, 1), (19, .getfield 39, 3), (22, .iconst 1, 1), (23, .iadd, 1), (24, .putfield 39, 3), (27, .aload_n 0, 1), (28, .bipush 6, 2), (30, .invokevirtual 73, 3), (33, .return_, 1)]
def pmk5 : List (Nat × Instr × Nat) := [(0, .aload_n 1, 1), (1, .getfield 53, 3), (4, .ifCond .eq 4, 3), (7, .return_, 1), (8, .aload_n 1, 1), (9, .invokestatic 86, 3), (12, .istore_n 2, 1), (13, .iload_n 2, 1), (14, .iconst (-1), 1), (15, .if_icmp .ne 15, 3), (18, .aload_n 1, 1), (19, .iconst 1, 1), (20, .aload_n 1, 1), (21, .getfield 79, 3), (24, .invokevirtual 82, 3), (27, .goto 7, 3), (30, .aload_n 1, 1), (31, .invokevirtual 76, 3), (34, .aload_n 1, 1), (35, .iload_n 2, 1), (36, .invokestatic 90, 3), (39, .istore_n 3, 1), (40, .aload_n 1, 1), (41, .getfield 53, 3), (44, .ifCond .ne 14, 3), (47, .aload_n 0, 1), (48, .iload_n 2, 1), (49, .sipush 1000, 3), (52, .imul, 1), (53, .iload_n 3, 1), (54, .iadd, 1), (55, .invokevirtual 94, 3), (58, .return_, 1)]
def pmk6 : List (Nat × Instr × Nat) := [(0, .aload_n 0, 1), (1, .ldc 97, 2), (3, .invokevirtual 69, 3), (6, .ifCond .eq 5, 3), (9, .iconst 1, 1), (10, .ireturn, 1), (11, .aload_n 0, 1), (12, .ldc 99, 2), (14, .invokevirtual 69, 3), (17, .ifCond .eq 5, 3), (20, .iconst 2, 1), (21, .ireturn, 1), (22, .aload_n 0, 1), (23, .ldc 101, 2), (25, .invokevirtual 69, 3), (28, .ifCond .eq 5, 3), (31, .iconst 3, 1), (32, .ireturn, 1), (33, .aload_n 0, 1), (34, .ldc 103, 2), (36, .invokevirtual 69, 3), (39, .ifCond .eq 5, 3), (42, .iconst 4, 1), (43, .ireturn, 1), (44, .aload_n 0, 1), (45, .ldc 105, 2), (47, .invokevirtual 69, 3), (50, .ifCond .eq 5, 3), (53, .iconst 5, 1), (54, .ireturn, 1), (55, .iconst (-1), 1), (56, .ireturn, 1)]
def pmk7 : List (Nat × Instr × Nat) := [(0, .iload_n 1, 1), (1, .tableswitch 92 1 5 #[35, 44, 64, 73, 83], 35), (36, .aload_n 0, 1), (37, .iconst 0, 1), (38, .bipush 39, 2), (40, .iconst 3, 1), (41, .invokevirtual 107, 3), (44, .ireturn, 1), (45, .bipush 100, 2), (47, .aload_n 0, 1), (48, .iconst 0, 1), (49, .iconst 3, 1), (50, .iconst 3, 1), (51, .invokevirtual 107, 3), (54, .imul, 1), (55, .aload_n 0, 1), (56, .iconst 0, 1), (57, .bipush 99, 2), (59, .iconst 3, 1), (60, .invokevirtual 107, 3), (63, .iadd, 1), (64, .ireturn, 1), (65, .aload_n 0, 1), (66, .iconst 0, 1), (67, .bipush 7, 2), (69, .iconst 3, 1), (70, .invokevirtual 107, 3), (73, .ireturn, 1), (74, .aload_n 0, 1), (75, .iconst 0, 1), (76, .sipush 999, 3), (79, .iconst 3, 1), (80, .invokevirtual 107, 3), (83, .ireturn, 1), (84, .aload_n 0, 1), (85, .iconst 0, 1), (86, .bipush 9, 2), (88, .iconst 3, 1), (89, .invokevirtual 107, 3), (92, .ireturn, 1), (93, .iconst (-1), 1), (94, .ireturn, 1)]
def pmk8 : List (Nat × Instr × Nat) := [(0, .iconst 0, 1), (1, .istore_n 2, 1), (2, .iload_n 2, 1), (3, .iconst 5, 1), (4, .if_icmp .gt 43, 3), (7, .aload_n 1, 1), (8, .getfield 53, 3), (11, .ifCond .ne 36, 3), (14, .aload_n 1, 1), (15, .bipush 41, 2), (17, .invokevirtual 60, 3), (20, .ifCond .eq 27, 3), (23, .aload_n 0, 1), (24, .getfield 39, 3), (27, .ifCond .ne 6, 3), (30, .goto 17, 3), (33, .aload_n 0, 1), (34, .invokevirtual 111, 3), (37, .aload_n 1, 1), (38, .invokevirtual 76, 3), (41, .iinc 2 1, 3), (44, .goto (-42), 3), (47, .aload_n 1, 1), (48, .getfield 53, 3), (51, .ifCond .eq 5, 3), (54, .iconst 0, 1), (55, .ireturn, 1), (56, .aload_n 1, 1), (57, .getfield 114, 3), (60, .ifCond .ne 12, 3), (63, .aload_n 0, 1), (64, .getfield 39, 3), (67, .ifCond .ne 5, 3), (70, .iconst 0, 1), (71, .ireturn, 1), (72, .aload_n 1, 1), (73, .ldc 117, 2), (75, .invokevirtual 69, 3), (78, .ifCond .eq 12, 3), (81, .aload_n 0, 1), (82, .bipush 8, 2), (84, .invokevirtual 119, 3), (87, .goto 30, 3), (90, .aload_n 1, 1), (91, .ldc 122, 2), (93, .invokevirtual 69, 3), (96, .ifCond .eq 12, 3), (99, .aload_n 0, 1), (100, .bipush 7, 2), (102, .invokevirtual 119, 3), (105, .goto 12, 3), (108, .aload_n 1, 1), (109, .iconst 1, 1), (110, .aload_n 1, 1), (111, .getfield 79, 3), (114, .invokevirtual 82, 3), (117, .aload_n 1, 1), (118, .getfield 53, 3), (121, .ifCond .eq 5, 3), (124, .iconst 0, 1), (125, .ireturn, 1), (126, .aload_n 1, 1), (127, .invokevirtual 76, 3), (130, .iconst 1, 1), (131, .ireturn, 1)]
def pmk9 : List (Nat × Instr × Nat) := [(0, .aload_n 0, 1), (1, .bipush 7, 2), (3, .invokevirtual 56, 3), (6, .aload_n 0, 1), (7, .getfield 36, 3), (10, .ifCond .le 13, 3), (13, .aload_n 0, 1), (14, .dup, 1), (15, .getfield 36, 3), (18, .iconst 1, 1), (19, .isub, 1), (20, .putfield 36, 3), (23, .aload_n 0, 1), (24, .dup, 1), (25, .getfield 39, 3), (28, .iconst 1, 1), (29, .isub, 1), (30, .putfield 39, 3), (33, .return_, 1)]
def pmk10 : List (Nat × Instr × Nat) := [(0, .aload_n 0, 1), (1, .iload_n 1, 1), (2, .invokevirtual 56, 3), (5, .aload_n 0, 1), (6, .iload_n 1, 1), (7, .invokevirtual 73, 3), (10, .return_, 1)]
def pmk11 : List (Nat × Instr × Nat) := [(0, .aload_n 0, 1), (1, .getfield 36, 3), (4, .aload_n 0, 1), (5, .getfield 24, 3), (8, .arraylength, 1), (9, .if_icmp .lt 4, 3), (12, .return_, 1), (13, .aload_n 0, 1), (14, .getfield 24, 3), (17, .aload_n 0, 1), (18, .getfield 36, 3), (21, .iload_n 1, 1), (22, .iastore, 1), (23, .aload_n 0, 1), (24, .dup, 1), (25, .getfield 36, 3), (28, .iconst 1, 1), (29, .iadd, 1), (30, .putfield 36, 3), (33, .return_, 1)]
def pmk12 : List (Nat × Instr × Nat) := [(0, .aload_n 0, 1), (1, .getfield 36, 3), (4, .ifCond .le 48, 3), (7, .aload_n 0, 1), (8, .getfield 24, 3), (11, .aload_n 0, 1), (12, .getfield 36, 3), (15, .iconst 1, 1), (16, .isub, 1), (17, .iaload, 1), (18, .iload_n 1, 1), (19, .if_icmp .lt 33, 3), (22, .aload_n 0, 1), (23, .dup, 1), (24, .getfield 36, 3), (27, .iconst 1, 1), (28, .isub, 1), (29, .putfield 36, 3), (32, .aload_n 0, 1), (33, .aload_n 0, 1), (34, .getfield 24, 3), (37, .aload_n 0, 1), (38, .getfield 36, 3), (41, .iaload, 1), (42, .sipush 1000, 3), (45, .imul, 1), (46, .invokevirtual 94, 3), (49, .goto (-49), 3), (52, .return_, 1)]
def pmk13 : List (Nat × Instr × Nat) := [(0, .aload_n 0, 1), (1, .getfield 27, 3), (4, .bipush 8, 2), (6, .if_icmp .ge 17, 3), (9, .aload_n 0, 1), (10, .getfield 11, 3), (13, .aload_n 0, 1), (14, .getfield 27, 3), (17, .iaload, 1), (18, .bipush 100, 2), (20, .if_icmp .lt 4, 3), (23, .return_, 1), (24, .aload_n 0, 1), (25, .getfield 17, 3), (28, .aload_n 0, 1), (29, .getfield 27, 3), (32, .aaload, 1), (33, .aload_n 0, 1), (34, .getfield 11, 3), (37, .aload_n 0, 1), (38, .getfield 27, 3), (41, .iaload, 1), (42, .iload_n 1, 1), (43, .iastore, 1), (44, .aload_n 0, 1), (45, .getfield 11, 3), (48, .aload_n 0, 1), (49, .getfield 27, 3), (52, .dup2, 1), (53, .iaload, 1), (54, .iconst 1, 1), (55, .iadd, 1), (56, .iastore, 1), (57, .return_, 1)]
def pmk14 : List (Nat × Instr × Nat) := [(0, .aload_n 0, 1), (1, .invokespecial 3, 3), (4, .aload_n 0, 1), (5, .bipush 6, 2), (7, .newarray .int, 2), (9, .putfield 9, 3), (12, .aload_n 0, 1), (13, .bipush 6, 2), (15, .newarray .long, 2), (17, .putfield 15, 3), (20, .aload_n 0, 1), (21, .bipush 6, 2), (23, .newarray .int, 2), (25, .putfield 19, 3), (28, .aload_n 0, 1), (29, .bipush 40, 2), (31, .newarray .long, 2), (33, .putfield 22, 3), (36, .return_, 1)]
def pmk15 : List (Nat × Instr × Nat) := [(0, .aload_n 0, 1), (1, .bipush 20, 2), (3, .putfield 27, 3), (6, .aload_n 0, 1), (7, .getfield 9, 3), (10, .iconst 0, 1), (11, .invokestatic 31, 3), (14, .aload_n 0, 1), (15, .getfield 15, 3), (18, .lconst 0, 1), (19, .invokestatic 37, 3), (22, .aload_n 0, 1), (23, .getfield 19, 3), (26, .iconst 0, 1), (27, .invokestatic 31, 3), (30, .aload_n 0, 1), (31, .getfield 22, 3), (34, .lconst 0, 1), (35, .invokestatic 37, 3), (38, .aload_n 0, 1), (39, .iconst 0, 1), (40, .putfield 40, 3), (43, .aload_n 0, 1), (44, .iconst 0, 1), (45, .putfield 43, 3), (48, .aload_n 0, 1), (49, .iconst 0, 1), (50, .putfield 46, 3), (53, .return_, 1)]
def pmk16 : List (Nat × Instr × Nat) := [(0, .aload_n 0, 1), (1, .invokevirtual 49, 3), (4, .aload_n 1, 1), (5, .iload_n 2, 1), (6, .invokevirtual 52, 3), (9, .istore_n 3, 1), (10, .iconst 0, 1), (11, .istore 4, 2), (13, .iload 4, 2), (15, .iload_n 2, 1), (16, .if_icmp .gt 62, 3), (19, .iload 4, 2), (21, .bipush 10, 2), (23, .if_icmp .ge 55, 3), (26, .iconst 0, 1), (27, .istore 5, 2), (29, .iload 5, 2), (31, .aload_n 1, 1), (32, .getfield 56, 3), (35, .if_icmp .ge 37, 3), (38, .aload_n 1, 1), (39, .getfield 59, 3), (42, .iload 5, 2), (44, .iaload, 1), (45, .iload 4, 2), (47, .if_icmp .ne 19, 3), (50, .iload_n 3, 1), (51, .iload 5, 2), (53, .iushr, 1), (54, .iconst 1, 1), (55, .iand, 1), (56, .ifCond .eq 10, 3), (59, .aload_n 0, 1), (60, .aload_n 1, 1), (61, .iload 5, 2), (63, .invokevirtual 62, 3), (66, .iinc 5 1, 3), (69, .goto (-40), 3), (72, .iinc 4 1, 3), (75, .goto (-62), 3), (78, .return_, 1)]
def pmk17 : List (Nat × Instr × Nat) := [(0, .iconst 0, 1), (1, .istore_n 3, 1), (2, .iload_n 3, 1), (3, .aload_n 1, 1), (4, .getfield 66, 3), (7, .iload_n 2, 1), (8, .iaload, 1), (9, .if_icmp .ge 37, 3), (12, .aload_n 0, 1), (13, .aload_n 1, 1), (14, .getfield 69, 3), (17, .iload_n 2, 1), (18, .aaload, 1), (19, .iload_n 3, 1), (20, .iaload, 1), (21, .aload_n 1, 1), (22, .getfield 73, 3), (25, .iload_n 2, 1), (26, .aaload, 1), (27, .iload_n 3, 1), (28, .iaload, 1), (29, .aload_n 1, 1), (30, .getfield 76, 3), (33, .iload_n 2, 1), (34, .aaload, 1), (35, .iload_n 3, 1), (36, .iaload, 1), (37, .invokevirtual 79, 3), (40, .iinc 3 1, 3), (43, .goto (-41), 3), (46, .return_, 1)]
def pmk18 : List (Nat × Instr × Nat) := [(0, .iload_n 1, 1), (1, .tableswitch 133 1 5 #[35, 45, 70, 100, 125], 35), (36, .aload_n 0, 1), (37, .getfield 9, 3), (40, .iload_n 2, 1), (41, .iload_n 3, 1), (42, .iastore, 1), (43, .goto 91, 3), (46, .aload_n 0, 1), (47, .getfield 15, 3), (50, .iload_n 2, 1), (51, .dup2, 1), (52, .laload, 1), (53, .lconst 1, 1), (54, .iload_n 3, 1), (55, .lshl, 1), (56, .lor, 1), (57, .lastore, 1), (58, .aload_n 0, 1), (59, .dup, 1), (60, .getfield 40, 3), (63, .iconst 1, 1), (64, .iadd, 1), (65, .putfield 40, 3), (68, .goto 66, 3), (71, .iload_n 2, 1), (72, .iload_n 3, 1), (73, .if_icmp .eq 15, 3), (76, .aload_n 0, 1), (77, .getfield 19, 3), (80, .iload_n 2, 1), (81, .dup2, 1), (82, .iaload, 1), (83, .iconst 1, 1), (84, .iload_n 3, 1), (85, .ishl, 1), (86, .ior, 1), (87, .iastore, 1), (88, .aload_n 0, 1), (89, .dup, 1), (90, .getfield 43, 3), (93, .iconst 1, 1), (94, .iadd, 1), (95, .putfield 43, 3), (98, .goto 36, 3), (101, .aload_n 0, 1), (102, .getfield 22, 3), (105, .iload_n 2, 1), (106, .dup2, 1), (107, .laload, 1), (108, .lconst 1, 1), (109, .iload_n 3, 1), (110, .lshl, 1), (111, .lor, 1), (112, .lastore, 1), (113, .aload_n 0, 1), (114, .dup, 1), (115, .getfield 46, 3), (118, .iconst 1, 1), (119, .iadd, 1), (120, .putfield 46, 3), (123, .goto 11, 3), (126, .aload_n 0, 1), (127, .iload_n 2, 1), (128, .putfield 27, 3), (131, .goto 3, 3), (134, .return_, 1)]
def pmk19 : List (Nat × Instr × Nat) := [(0, .iload_n 0, 1), (1, .iload_n 1, 1), (2, .iushr, 1), (3, .iconst 1, 1), (4, .iand, 1), (5, .ifCond .eq 7, 3), (8, .iconst 1, 1), (9, .goto 4, 3), (12, .iconst 0, 1), (13, .ireturn, 1)]
def pmk20 : List (Nat × Instr × Nat) := [(0, .iconst 0, 1), (1, .istore 4, 2), (3, .iload 4, 2), (5, .bipush 6, 2), (7, .if_icmp .ge 46, 3), (10, .iload_n 1, 1), (11, .iload 4, 2), (13, .invokestatic 83, 3), (16, .ifCond .eq 31, 3), (19, .aload_n 0, 1), (20, .getfield 15, 3), (23, .iload 4, 2), (25, .laload, 1), (26, .lconst 0, 1), (27, .lcmp, 1), (28, .ifCond .eq 19, 3), (31, .aload_n 0, 1), (32, .getfield 15, 3), (35, .iload 4, 2), (37, .laload, 1), (38, .lload_n 2, 1), (39, .land, 1), (40, .lconst 0, 1), (41, .lcmp, 1), (42, .ifCond .ne 5, 3), (45, .iconst 1, 1), (46, .ireturn, 1), (47, .iinc 4 1, 3), (50, .goto (-47), 3), (53, .iconst 0, 1), (54, .ireturn, 1)]
def pmk21 : List (Nat × Instr × Nat) := [(0, .iconst 0, 1), (1, .istore_n 2, 1), (2, .iload_n 2, 1), (3, .bipush 6, 2), (5, .if_icmp .ge 30, 3), (8, .iload_n 1, 1), (9, .iload_n 2, 1), (10, .invokestatic 83, 3), (13, .ifCond .eq 16, 3), (16, .aload_n 0, 1), (17, .getfield 19, 3), (20, .iload_n 2, 1), (21, .iaload, 1), (22, .iload_n 1, 1), (23, .iand, 1), (24, .ifCond .eq 5, 3), (27, .iconst 1, 1), (28, .ireturn, 1), (29, .iinc 2 1, 3), (32, .goto (-30), 3), (35, .iconst 0, 1), (36, .ireturn, 1)]
def pmk22 : List (Nat × Instr × Nat) := [(0, .iconst 0, 1), (1, .istore_n 3, 1), (2, .iconst 0, 1), (3, .istore 4, 2), (5, .iload 4, 2), (7, .bipush 6, 2), (9, .if_icmp .ge 32, 3), (12, .iload_n 1, 1), (13, .iload 4, 2), (15, .invokestatic 83, 3), (18, .ifCond .eq 17, 3), (21, .aload_n 0, 1), (22, .getfield 9, 3), (25, .iload 4, 2), (27, .iaload, 1), (28, .iload_n 2, 1), (29, .if_icmp .ne 6, 3), (32, .iinc 3 1, 3), (35, .iinc 4 1, 3), (38, .goto (-33), 3), (41, .iload_n 3, 1), (42, .ireturn, 1)]
def pmk23 : List (Nat × Instr × Nat) := [(0, .aload_n 0, 1), (1, .invokespecial 3, 3), (4, .aload_n 0, 1), (5, .bipush 120, 2), (7, .newarray .int, 2), (9, .putfield 9, 3), (12, .aload_n 0, 1), (13, .bipush 120, 2), (15, .newarray .int, 2), (17, .putfield 15, 3), (20, .aload_n 0, 1), (21, .bipush 120, 2), (23, .newarray .int, 2), (25, .putfield 18, 3), (28, .aload_n 0, 1), (29, .bipush 120, 2), (31, .newarray .int, 2), (33, .putfield 21, 3), (36, .aload_n 0, 1), (37, .bipush 120, 2), (39, .newarray .int, 2), (41, .putfield 24, 3), (44, .aload_n 0, 1), (45, .bipush 120, 2), (47, .bipush 8, 2), (49, .multianewarray 27 2, 4), (53, .putfield 29, 3), (56, .return_, 1)]
def pmk24 : List (Nat × Instr × Nat) := [(0, .iload_n 1, 1), (1, .ifCond .lt 15, 3), (4, .iload_n 1, 1), (5, .aload_n 0, 1), (6, .getfield 32, 3), (9, .if_icmp .ge 7, 3), (12, .iconst 1, 1), (13, .goto 4, 3), (16, .iconst 0, 1), (17, .ireturn, 1)]
def pmk25 : List (Nat × Instr × Nat) := [(0, .aload_n 0, 1), (1, .getfield 32, 3), (4, .istore 6, 2), (6, .iload 6, 2), (8, .bipush 120, 2), (10, .if_icmp .lt 7, 3), (13, .sipush (-1004), 3), (16, .ireturn, 1), (17, .aload_n 0, 1), (18, .getfield 9, 3), (21, .iload 6, 2), (23, .iload_n 1, 1), (24, .iastore, 1), (25, .aload_n 0, 1), (26, .getfield 15, 3), (29, .iload 6, 2), (31, .iload_n 2, 1), (32, .iastore, 1), (33, .aload_n 0, 1), (34, .getfield 18, 3), (37, .iload 6, 2), (39, .iload_n 3, 1), (40, .iastore, 1), (41, .aload_n 0, 1), (42, .getfield 21, 3), (45, .iload 6, 2), (47, .iload 4, 2), (49, .iastore, 1), (50, .aload_n 0, 1), (51, .getfield 24, 3), (54, .iload 6, 2), (56, .iload 5, 2), (58, .iastore, 1), (59, .aload_n 0, 1), (60, .getfield 29, 3), (63, .iload 6, 2), (65, .aaload, 1), (66, .iconst (-1), 1), (67, .invokestatic 36, 3), (70, .aload_n 0, 1), (71, .dup, 1), (72, .getfield 32, 3), (75, .iconst 1, 1), (76, .iadd, 1), (77, .putfield 32, 3), (80, .iload 6, 2), (82, .ireturn, 1)]
def pmk26 : List (Nat × Instr × Nat) := [(0, .aload_n 0, 1), (1, .iload_n 1, 1), (2, .invokevirtual 42, 3), (5, .ifCond .ne 5, 3), (8, .iconst 0, 1), (9, .ireturn, 1), (10, .iconst 0, 1), (11, .istore_n 3, 1), (12, .iconst 0, 1), (13, .istore 4, 2), (15, .iload 4, 2), (17, .bipush 8, 2), (19, .if_icmp .ge 38, 3), (22, .aload_n 0, 1), (23, .getfield 29, 3), (26, .iload_n 1, 1), (27, .aaload, 1), (28, .iload 4, 2), (30, .iaload, 1), (31, .iconst (-1), 1), (32, .if_icmp .eq 19, 3), (35, .aload_n 0, 1), (36, .getfield 29, 3), (39, .iload_n 1, 1), (40, .aaload, 1), (41, .iload 4, 2), (43, .iaload, 1), (44, .iload_n 2, 1), (45, .if_icmp .gt 6, 3), (48, .iinc 3 1, 3), (51, .iinc 4 1, 3), (54, .goto (-39), 3), (57, .iload_n 3, 1), (58, .ireturn, 1)]
def pmk27 : List (Nat × Instr × Nat) := [(0, .lconst 0, 1), (1, .lstore_n 3, 1), (2, .iconst 0, 1), (3, .istore 5, 2), (5, .iload 5, 2), (7, .aload_n 0, 1), (8, .getfield 32, 3), (11, .if_icmp .ge 43, 3), (14, .aload_n 0, 1), (15, .getfield 18, 3), (18, .iload 5, 2), (20, .iaload, 1), (21, .iload_n 1, 1), (22, .if_icmp .ne 26, 3), (25, .aload_n 0, 1), (26, .getfield 24, 3), (29, .iload 5, 2), (31, .iaload, 1), (32, .iload_n 2, 1), (33, .if_icmp .gt 15, 3), (36, .lload_n 3, 1), (37, .lconst 1, 1), (38, .aload_n 0, 1), (39, .getfield 9, 3), (42, .iload 5, 2), (44, .iaload, 1), (45, .lshl, 1), (46, .lor, 1), (47, .lstore_n 3, 1), (48, .iinc 5 1, 3), (51, .goto (-46), 3), (54, .lload_n 3, 1), (55, .lreturn, 1)]
def pmk28 : List (Nat × Instr × Nat) := [(0, .aload_n 0, 1), (1, .invokespecial 3, 3), (4, .aload_n 0, 1), (5, .bipush 40, 2), (7, .newarray .int, 2), (9, .putfield 9, 3), (12, .aload_n 0, 1), (13, .bipush 40, 2), (15, .newarray .int, 2), (17, .putfield 15, 3), (20, .aload_n 0, 1), (21, .bipush 40, 2), (23, .newarray .int, 2), (25, .putfield 18, 3), (28, .return_, 1)]
def pmk29 : List (Nat × Instr × Nat) := [(0, .iload_n 1, 1), (1, .ifCond .lt 15, 3), (4, .iload_n 1, 1), (5, .aload_n 0, 1), (6, .getfield 21, 3), (9, .if_icmp .ge 7, 3), (12, .iconst 1, 1), (13, .goto 4, 3), (16, .iconst 0, 1), (17, .ireturn, 1)]
def pmk30 : List (Nat × Instr × Nat) := [(0, .aload_n 0, 1), (1, .getfield 21, 3), (4, .istore 4, 2), (6, .iload 4, 2), (8, .bipush 40, 2), (10, .if_icmp .lt 7, 3), (13, .sipush (-1004), 3), (16, .ireturn, 1), (17, .aload_n 0, 1), (18, .getfield 9, 3), (21, .iload 4, 2), (23, .iload_n 1, 1), (24, .iastore, 1), (25, .aload_n 0, 1), (26, .getfield 15, 3), (29, .iload 4, 2), (31, .iload_n 2, 1), (32, .iastore, 1), (33, .aload_n 0, 1), (34, .getfield 18, 3), (37, .iload 4, 2), (39, .aload_n 0, 1), (40, .iload_n 3, 1), (41, .invokevirtual 25, 3), (44, .ifCond .eq 12, 3), (47, .aload_n 0, 1), (48, .getfield 18, 3), (51, .iload_n 3, 1), (52, .iaload, 1), (53, .goto 5, 3), (56, .iload 4, 2), (58, .iastore, 1), (59, .aload_n 0, 1), (60, .dup, 1), (61, .getfield 21, 3), (64, .iconst 1, 1), (65, .iadd, 1), (66, .putfield 21, 3), (69, .iload 4, 2), (71, .ireturn, 1)]
def pmk31 : List (Nat × Instr × Nat) := [(0, .lconst 1, 1), (1, .aload_n 0, 1), (2, .getfield 21, 3), (5, .lshl, 1), (6, .lconst 1, 1), (7, .lsub, 1), (8, .lreturn, 1)]
def pmk32 : List (Nat × Instr × Nat) := [(0, .lconst 0, 1), (1, .lstore_n 3, 1), (2, .iconst 0, 1), (3, .istore 5, 2), (5, .iload 5, 2), (7, .aload_n 0, 1), (8, .getfield 21, 3), (11, .if_icmp .ge 31, 3), (14, .aload_n 0, 1), (15, .getfield 9, 3), (18, .iload 5, 2), (20, .iaload, 1), (21, .iload_n 1, 1), (22, .iload_n 2, 1), (23, .invokestatic 29, 3), (26, .ifCond .eq 10, 3), (29, .lload_n 3, 1), (30, .lconst 1, 1), (31, .iload 5, 2), (33, .lshl, 1), (34, .lor, 1), (35, .lstore_n 3, 1), (36, .iinc 5 1, 3), (39, .goto (-34), 3), (42, .lload_n 3, 1), (43, .lreturn, 1)]
def pmk33 : List (Nat × Instr × Nat) := [(0, .lconst 0, 1), (1, .lstore_n 2, 1), (2, .iconst 0, 1), (3, .istore 4, 2), (5, .iload 4, 2), (7, .aload_n 0, 1), (8, .getfield 21, 3), (11, .if_icmp .ge 27, 3), (14, .aload_n 0, 1), (15, .getfield 15, 3), (18, .iload 4, 2), (20, .iaload, 1), (21, .iload_n 1, 1), (22, .if_icmp .ne 10, 3), (25, .lload_n 2, 1), (26, .lconst 1, 1), (27, .iload 4, 2), (29, .lshl, 1), (30, .lor, 1), (31, .lstore_n 2, 1), (32, .iinc 4 1, 3), (35, .goto (-30), 3), (38, .lload_n 2, 1), (39, .lreturn, 1)]
def pmk34 : List (Nat × Instr × Nat) := [(0, .aload_n 0, 1), (1, .invokespecial 3, 3), (4, .aload_n 0, 1), (5, .bipush 8, 2), (7, .newarray .int, 2), (9, .putfield 9, 3), (12, .aload_n 0, 1), (13, .bipush 8, 2), (15, .newarray .int, 2), (17, .putfield 15, 3), (20, .aload_n 0, 1), (21, .bipush 8, 2), (23, .bipush 8, 2), (25, .multianewarray 18 2, 4), (29, .putfield 20, 3), (32, .aload_n 0, 1), (33, .bipush 8, 2), (35, .bipush 8, 2), (37, .multianewarray 18 2, 4), (41, .putfield 23, 3), (44, .aload_n 0, 1), (45, .bipush 8, 2), (47, .bipush 8, 2), (49, .multianewarray 18 2, 4), (53, .putfield 26, 3), (56, .return_, 1)]
def pmk35 : List (Nat × Instr × Nat) := [(0, .aload_n 1, 1), (1, .invokevirtual 29, 3), (4, .aload_n 0, 1), (5, .getfield 34, 3), (8, .bipush 8, 2), (10, .if_icmp .lt 4, 3), (13, .return_, 1), (14, .iconst 0, 1), (15, .istore_n 3, 1), (16, .iload_n 3, 1), (17, .bipush 8, 2), (19, .if_icmp .gt 29, 3), (22, .aload_n 1, 1), (23, .getfield 38, 3), (26, .ifCond .ne 22, 3), (29, .aload_n 1, 1), (30, .getfield 41, 3), (33, .ifCond .eq 15, 3), (36, .aload_n 0, 1), (37, .aload_n 1, 1), (38, .iload_n 3, 1), (39, .invokevirtual 43, 3), (42, .iinc 3 1, 3), (45, .goto (-29), 3), (48, .aload_n 1, 1), (49, .getfield 38, 3), (52, .ifCond .eq 4, 3), (55, .return_, 1), (56, .aload_n 0, 1), (57, .getfield 9, 3), (60, .aload_n 0, 1), (61, .getfield 34, 3), (64, .iload_n 2, 1), (65, .iastore, 1), (66, .aload_n 0, 1), (67, .getfield 15, 3), (70, .aload_n 0, 1), (71, .getfield 34, 3), (74, .iload_n 3, 1), (75, .iastore, 1), (76, .aload_n 0, 1), (77, .dup, 1), (78, .getfield 34, 3), (81, .iconst 1, 1), (82, .iadd, 1), (83, .putfield 34, 3), (86, .return_, 1)]
def pmk36 : List (Nat × Instr × Nat) := [(0, .aload_n 0, 1), (1, .ldc 47, 2), (3, .invokevirtual 49, 3), (6, .ifCond .eq 5, 3), (9, .iconst 1, 1), (10, .ireturn, 1), (11, .aload_n 0, 1), (12, .ldc 53, 2), (14, .invokevirtual 49, 3), (17, .ifCond .eq 5, 3), (20, .iconst 2, 1), (21, .ireturn, 1), (22, .aload_n 0, 1), (23, .ldc 55, 2), (25, .invokevirtual 49, 3), (28, .ifCond .eq 5, 3), (31, .iconst 3, 1), (32, .ireturn, 1), (33, .aload_n 0, 1), (34, .ldc 57, 2), (36, .invokevirtual 49, 3), (39, .ifCond .eq 5, 3), (42, .iconst 4, 1), (43, .ireturn, 1), (44, .aload_n 0, 1), (45, .ldc 59, 2), (47, .invokevirtual 49, 3), (50, .ifCond .eq 5, 3), (53, .iconst 5, 1), (54, .ireturn, 1), (55, .aload_n 0, 1), (56, .ldc 61, 2), (58, .invokevirtual 49, 3), (61, .ifCond .eq 6, 3), (64, .bipush 6, 2), (66, .ireturn, 1), (67, .iconst (-1), 1), (68, .ireturn, 1)]
def pmk37 : List (Nat × Instr × Nat) := [(0, .aload_n 1, 1), (1, .invokestatic 63, 3), (4, .istore_n 3, 1), (5, .iload_n 3, 1), (6, .iconst (-1), 1), (7, .if_icmp .ne 12, 3), (10, .aload_n 1, 1), (11, .iconst 1, 1), (12, .aload_n 1, 1), (13, .getfield 67, 3), (16, .invokevirtual 70, 3), (19, .iload_n 2, 1), (20, .bipush 8, 2), (22, .if_icmp .lt 12, 3), (25, .aload_n 1, 1), (26, .iconst 4, 1), (27, .aload_n 1, 1), (28, .getfield 67, 3), (31, .invokevirtual 70, 3), (34, .aload_n 1, 1), (35, .getfield 38, 3), (38, .ifCond .eq 4, 3), (41, .return_, 1), (42, .aload_n 1, 1), (43, .invokevirtual 74, 3), (46, .aload_n 1, 1), (47, .getfield 67, 3), (50, .istore 4, 2), (52, .aload_n 0, 1), (53, .getfield 20, 3), (56, .aload_n 0, 1), (57, .getfield 34, 3), (60, .aaload, 1), (61, .iload_n 2, 1), (62, .iload_n 3, 1), (63, .iastore, 1), (64, .aload_n 0, 1), (65, .getfield 23, 3), (68, .aload_n 0, 1), (69, .getfield 34, 3), (72, .aaload, 1), (73, .iload_n 2, 1), (74, .aload_n 1, 1), (75, .iload_n 3, 1), (76, .invokestatic 77, 3), (79, .iastore, 1), (80, .iload_n 3, 1), (81, .bipush 6, 2), (83, .if_icmp .ne 28, 3), (86, .aload_n 0, 1), (87, .getfield 23, 3), (90, .aload_n 0, 1), (91, .getfield 34, 3), (94, .aaload, 1), (95, .iload_n 2, 1), (96, .iaload, 1), (97, .aload_n 0, 1), (98, .getfield 34, 3), (101, .if_icmp .lt 10, 3), (104, .aload_n 1, 1), (105, .iconst 3, 1), (106, .iload 4, 2), (108, .invokevirtual 70, 3), (111, .aload_n 0, 1), (112, .getfield 26, 3), (115, .aload_n 0, 1), (116, .getfield 34, 3), (119, .aaload, 1), (120, .iload_n 2, 1), (121, .aload_n 1, 1), (122, .iload_n 3, 1), (123, .invokestatic 81, 3), (126, .iastore, 1), (127, .aload_n 1, 1), (128, .bipush 59, 2), (130, .invokevirtual 84, 3), (133, .return_, 1)]
def pmk38 : List (Nat × Instr × Nat) := [(0, .iload_n 1, 1), (1, .tableswitch 54 4 6 #[27, 36, 45], 27), (28, .aload_n 0, 1), (29, .iconst 0, 1), (30, .bipush 39, 2), (32, .iconst 2, 1), (33, .invokevirtual 88, 3), (36, .ireturn, 1), (37, .aload_n 0, 1), (38, .iconst 1, 1), (39, .bipush 20, 2), (41, .iconst 2, 1), (42, .invokevirtual 88, 3), (45, .ireturn, 1), (46, .aload_n 0, 1), (47, .iconst 0, 1), (48, .bipush 99, 2), (50, .iconst 2, 1), (51, .invokevirtual 88, 3), (54, .ireturn, 1), (55, .aload_n 0, 1), (56, .iconst 0, 1), (57, .iconst 5, 1), (58, .iconst 2, 1), (59, .invokevirtual 88, 3), (62, .ireturn, 1)]
def pmk39 : List (Nat × Instr × Nat) := [(0, .iload_n 1, 1), (1, .tableswitch 80 1 4 #[31, 36, 51, 65], 31), (32, .aload_n 0, 1), (33, .invokestatic 92, 3), (36, .ireturn, 1), (37, .aload_n 0, 1), (38, .ldc 95, 2), (40, .invokevirtual 97, 3), (43, .aload_n 0, 1), (44, .iconst 0, 1), (45, .bipush 39, 2), (47, .iconst 2, 1), (48, .invokevirtual 88, 3), (51, .ireturn, 1), (52, .aload_n 0, 1), (53, .ldc 101, 2), (55, .invokevirtual 97, 3), (58, .aload_n 0, 1), (59, .iconst 0, 1), (60, .iconst 5, 1), (61, .iconst 2, 1), (62, .invokevirtual 88, 3), (65, .ireturn, 1), (66, .aload_n 0, 1), (67, .ldc 101, 2), (69, .invokevirtual 97, 3), (72, .aload_n 0, 1), (73, .iconst 0, 1), (74, .bipush 39, 2), (76, .iconst 2, 1), (77, .invokevirtual 88, 3), (80, .ireturn, 1), (81, .iconst (-1), 1), (82, .ireturn, 1)]
def pmk40 : List (Nat × Instr × Nat) := [(0, .iconst (-1), 1), (1, .istore_n 1, 1), (2, .aload_n 0, 1), (3, .ldc 103, 2), (5, .invokevirtual 49, 3), (8, .ifCond .eq 5, 3), (11, .iconst 0, 1), (12, .istore_n 1, 1), (13, .aload_n 0, 1), (14, .ldc 105, 2), (16, .invokevirtual 49, 3), (19, .ifCond .eq 5, 3), (22, .iconst 1, 1), (23, .istore_n 1, 1), (24, .aload_n 0, 1), (25, .ldc 107, 2), (27, .invokevirtual 49, 3), (30, .ifCond .eq 5, 3), (33, .iconst 2, 1), (34, .istore_n 1, 1), (35, .iload_n 1, 1), (36, .iconst (-1), 1), (37, .if_icmp .ne 12, 3), (40, .aload_n 0, 1), (41, .iconst 1, 1), (42, .aload_n 0, 1), (43, .getfield 67, 3), (46, .invokevirtual 70, 3), (49, .aload_n 0, 1), (50, .getfield 38, 3), (53, .ifCond .ne 7, 3), (56, .aload_n 0, 1), (57, .invokevirtual 74, 3), (60, .iload_n 1, 1), (61, .ireturn, 1)]
def pmk41 : List (Nat × Instr × Nat) := [(0, .iconst 0, 1), (1, .istore_n 2, 1), (2, .iconst 0, 1), (3, .istore_n 3, 1), (4, .aload_n 0, 1), (5, .getfield 34, 3), (8, .iconst 1, 1), (9, .isub, 1), (10, .istore 4, 2), (12, .iload 4, 2), (14, .ifCond .lt 90, 3), (17, .aload_n 0, 1), (18, .getfield 9, 3), (21, .iload 4, 2), (23, .iaload, 1), (24, .iload_n 1, 1), (25, .if_icmp .gt 73, 3), (28, .iload_n 3, 1), (29, .iload 4, 2), (31, .iushr, 1), (32, .iconst 1, 1), (33, .iand, 1), (34, .ifCond .eq 6, 3), (37, .goto 61, 3), (40, .iload_n 2, 1), (41, .iconst 1, 1), (42, .iload 4, 2), (44, .ishl, 1), (45, .ior, 1), (46, .istore_n 2, 1), (47, .iconst 0, 1), (48, .istore 5, 2), (50, .iload 5, 2), (52, .aload_n 0, 1), (53, .getfield 15, 3), (56, .iload 4, 2), (58, .iaload, 1), (59, .if_icmp .ge 39, 3), (62, .aload_n 0, 1), (63, .getfield 20, 3), (66, .iload 4, 2), (68, .aaload, 1), (69, .iload 5, 2), (71, .iaload, 1), (72, .bipush 6, 2), (74, .if_icmp .ne 18, 3), (77, .iload_n 3, 1), (78, .iconst 1, 1), (79, .aload_n 0, 1), (80, .getfield 23, 3), (83, .iload 4, 2), (85, .aaload, 1), (86, .iload 5, 2), (88, .iaload, 1), (89, .ishl, 1), (90, .ior, 1), (91, .istore_n 3, 1), (92, .iinc 5 1, 3), (95, .goto (-45), 3), (98, .iinc 4 (-1), 3), (101, .goto (-89), 3), (104, .iload_n 2, 1), (105, .ireturn, 1)]
def pmk42 : List (Nat × Instr × Nat) := [(0, .aload_n 0, 1), (1, .invokespecial 3, 3), (4, .aload_n 0, 1), (5, .iconst 4, 1), (6, .newarray .int, 2), (8, .putfield 9, 3), (11, .aload_n 0, 1), (12, .iconst 4, 1), (13, .iconst 5, 1), (14, .multianewarray 15 2, 4), (18, .putfield 17, 3), (21, .aload_n 0, 1), (22, .iconst 4, 1), (23, .iconst 5, 1), (24, .multianewarray 20 2, 4), (28, .putfield 22, 3), (31, .return_, 1)]
def pmk43 : List (Nat × Instr × Nat) := [(0, .iload_n 1, 1), (1, .ifCond .lt 15, 3), (4, .iload_n 1, 1), (5, .aload_n 0, 1), (6, .getfield 25, 3), (9, .if_icmp .ge 7, 3), (12, .iconst 1, 1), (13, .goto 4, 3), (16, .iconst 0, 1), (17, .ireturn, 1)]
def pmk44 : List (Nat × Instr × Nat) := [(0, .aload_n 0, 1), (1, .getfield 25, 3), (4, .iconst 4, 1), (5, .if_icmp .lt 7, 3), (8, .sipush (-1004), 3), (11, .ireturn, 1), (12, .aload_n 0, 1), (13, .dup, 1), (14, .getfield 25, 3), (17, .iconst 1, 1), (18, .iadd, 1), (19, .putfield 25, 3), (22, .aload_n 0, 1), (23, .getfield 25, 3), (26, .iconst 1, 1), (27, .isub, 1), (28, .ireturn, 1)]
def pmk45 : List (Nat × Instr × Nat) := [(0, .iload_n 2, 1), (1, .iconst 5, 1), (2, .if_icmp .ge 15, 3), (5, .aload_n 0, 1), (6, .getfield 17, 3), (9, .iload_n 1, 1), (10, .aaload, 1), (11, .iload_n 2, 1), (12, .iaload, 1), (13, .iconst 3, 1), (14, .if_icmp .lt 7, 3), (17, .sipush (-1004), 3), (20, .ireturn, 1), (21, .iload_n 2, 1), (22, .aload_n 0, 1), (23, .getfield 9, 3), (26, .iload_n 1, 1), (27, .iaload, 1), (28, .if_icmp .ne 13, 3), (31, .aload_n 0, 1), (32, .getfield 9, 3), (35, .iload_n 1, 1), (36, .dup2, 1), (37, .iaload, 1), (38, .iconst 1, 1), (39, .iadd, 1), (40, .iastore, 1), (41, .aload_n 0, 1), (42, .getfield 22, 3), (45, .iload_n 1, 1), (46, .aaload, 1), (47, .iload_n 2, 1), (48, .dup2, 1), (49, .laload, 1), (50, .lconst 1, 1), (51, .iload_n 3, 1), (52, .lshl, 1), (53, .lor, 1), (54, .lastore, 1), (55, .aload_n 0, 1), (56, .getfield 17, 3), (59, .iload_n 1, 1), (60, .aaload, 1), (61, .iload_n 2, 1), (62, .dup2, 1), (63, .iaload, 1), (64, .iconst 1, 1), (65, .iadd, 1), (66, .iastore, 1), (67, .aload_n 0, 1), (68, .getfield 17, 3), (71, .iload_n 1, 1), (72, .aaload, 1), (73, .iload_n 2, 1), (74, .iaload, 1), (75, .ireturn, 1)]
def pmk46 : List (Nat × Instr × Nat) := [(0, .aload_n 0, 1), (1, .invokespecial 3, 3), (4, .aload_n 0, 1), (5, .sipush 160, 3), (8, .newarray .int, 2), (10, .putfield 9, 3), (13, .return_, 1)]
def pmk47 : List (Nat × Instr × Nat) := [(0, .aload_n 0, 1), (1, .getfield 15, 3), (4, .sipush 160, 3), (7, .if_icmp .lt 4, 3), (10, .return_, 1), (11, .aload_n 0, 1), (12, .getfield 9, 3), (15, .aload_n 0, 1), (16, .getfield 15, 3), (19, .iload_n 1, 1), (20, .iastore, 1), (21, .aload_n 0, 1), (22, .dup, 1), (23, .getfield 15, 3), (26, .iconst 1, 1), (27, .iadd, 1), (28, .putfield 15, 3), (31, .return_, 1)]
def pmk48 : List (Nat × Instr × Nat) := [(0, .aload_n 0, 1), (1, .iconst 0, 1), (2, .putfield 19, 3), (5, .aload_n 0, 1), (6, .iconst (-1), 1), (7, .putfield 22, 3), (10, .aload_n 0, 1), (11, .iconst 0, 1), (12, .putfield 25, 3), (15, .aload_n 0, 1), (16, .invokevirtual 28, 3), (19, .return_, 1)]
def pmk49 : List (Nat × Instr × Nat) := [(0, .iload_n 1, 1), (1, .ifCond .lt 20, 3), (4, .iload_n 1, 1), (5, .aload_n 0, 1), (6, .getfield 15, 3), (9, .if_icmp .ge 12, 3), (12, .aload_n 0, 1), (13, .getfield 9, 3), (16, .iload_n 1, 1), (17, .iaload, 1), (18, .goto 4, 3), (21, .iconst (-1), 1), (22, .ireturn, 1)]
def pmk50 : List (Nat × Instr × Nat) := [(0, .iload_n 0, 1), (1, .iconst (-1), 1), (2, .if_icmp .ne 5, 3), (5, .iconst 0, 1), (6, .ireturn, 1), (7, .iload_n 0, 1), (8, .bipush 97, 2), (10, .if_icmp .lt 11, 3), (13, .iload_n 0, 1), (14, .bipush 122, 2), (16, .if_icmp .gt 5, 3), (19, .iconst 1, 1), (20, .ireturn, 1), (21, .iload_n 0, 1), (22, .bipush 48, 2), (24, .if_icmp .lt 11, 3), (27, .iload_n 0, 1), (28, .bipush 57, 2), (30, .if_icmp .gt 5, 3), (33, .iconst 2, 1), (34, .ireturn, 1), (35, .iconst 3, 1), (36, .ireturn, 1)]
def pmk51 : List (Nat × Instr × Nat) := [(0, .aload_n 0, 1), (1, .aload_n 0, 1), (2, .getfield 25, 3), (5, .putfield 31, 3), (8, .aload_n 0, 1), (9, .getfield 31, 3), (12, .aload_n 0, 1), (13, .getfield 15, 3), (16, .if_icmp .ge 29, 3), (19, .aload_n 0, 1), (20, .aload_n 0, 1), (21, .getfield 31, 3), (24, .invokevirtual 34, 3), (27, .bipush 32, 2), (29, .if_icmp .ne 16, 3), (32, .aload_n 0, 1), (33, .dup, 1), (34, .getfield 31, 3), (37, .iconst 1, 1), (38, .iadd, 1), (39, .putfield 31, 3), (42, .goto (-34), 3), (45, .aload_n 0, 1), (46, .aload_n 0, 1), (47, .aload_n 0, 1), (48, .getfield 31, 3), (51, .invokevirtual 34, 3), (54, .invokestatic 38, 3), (57, .putfield 41, 3), (60, .aload_n 0, 1), (61, .aload_n 0, 1), (62, .getfield 31, 3), (65, .putfield 25, 3), (68, .aload_n 0, 1), (69, .getfield 41, 3), (72, .ifCond .ne 4, 3), (75, .return_, 1), (76, .aload_n 0, 1), (77, .dup, 1), (78, .getfield 25, 3), (81, .iconst 1, 1), (82, .iadd, 1), (83, .putfield 25, 3), (86, .aload_n 0, 1), (87, .getfield 41, 3), (90, .iconst 3, 1), (91, .if_icmp .ne 4, 3), (94, .return_, 1), (95, .aload_n 0, 1), (96, .getfield 25, 3), (99, .aload_n 0, 1), (100, .getfield 15, 3), (103, .if_icmp .ge 34, 3), (106, .aload_n 0, 1), (107, .aload_n 0, 1), (108, .getfield 25, 3), (111, .invokevirtual 34, 3), (114, .invokestatic 38, 3), (117, .aload_n 0, 1), (118, .getfield 41, 3), (121, .if_icmp .ne 16, 3), (124, .aload_n 0, 1), (125, .dup, 1), (126, .getfield 25, 3), (129, .iconst 1, 1), (130, .iadd, 1), (131, .putfield 25, 3), (134, .goto (-39), 3), (137, .return_, 1)]
def pmk52 : List (Nat × Instr × Nat) := [(0, .aload_n 0, 1), (1, .getfield 19, 3), (4, .ifCond .eq 4, 3), (7, .return_, 1), (8, .aload_n 0, 1), (9, .iload_n 1, 1), (10, .putfield 19, 3), (13, .aload_n 0, 1), (14, .iload_n 2, 1), (15, .putfield 22, 3), (18, .return_, 1)]
def pmk53 : List (Nat × Instr × Nat) := [(0, .aload_n 0, 1), (1, .getfield 41, 3), (4, .iconst 1, 1), (5, .if_icmp .ne 19, 3), (8, .aload_n 0, 1), (9, .getfield 25, 3), (12, .aload_n 0, 1), (13, .getfield 31, 3), (16, .isub, 1), (17, .aload_n 1, 1), (18, .invokevirtual 44, 3), (21, .if_icmp .eq 5, 3), (24, .iconst 0, 1), (25, .ireturn, 1), (26, .iconst 0, 1), (27, .istore_n 2, 1), (28, .iload_n 2, 1), (29, .aload_n 1, 1), (30, .invokevirtual 44, 3), (33, .if_icmp .ge 29, 3), (36, .aload_n 0, 1), (37, .aload_n 0, 1), (38, .getfield 31, 3), (41, .iload_n 2, 1), (42, .iadd, 1), (43, .invokevirtual 34, 3), (46, .aload_n 1, 1), (47, .iload_n 2, 1), (48, .invokevirtual 49, 3), (51, .if_icmp .eq 5, 3), (54, .iconst 0, 1), (55, .ireturn, 1), (56, .iinc 2 1, 3), (59, .goto (-31), 3), (62, .iconst 1, 1), (63, .ireturn, 1)]
def pmk54 : List (Nat × Instr × Nat) := [(0, .aload_n 0, 1), (1, .getfield 41, 3), (4, .iconst 3, 1), (5, .if_icmp .ne 19, 3), (8, .aload_n 0, 1), (9, .aload_n 0, 1), (10, .getfield 31, 3), (13, .invokevirtual 34, 3), (16, .iload_n 1, 1), (17, .if_icmp .ne 7, 3), (20, .iconst 1, 1), (21, .goto 4, 3), (24, .iconst 0, 1), (25, .ireturn, 1)]
def pmk55 : List (Nat × Instr × Nat) := [(0, .aload_n 0, 1), (1, .aload_n 1, 1), (2, .invokevirtual 53, 3), (5, .ifCond .ne 12, 3), (8, .aload_n 0, 1), (9, .iconst 1, 1), (10, .aload_n 0, 1), (11, .getfield 31, 3), (14, .invokevirtual 57, 3), (17, .aload_n 0, 1), (18, .getfield 19, 3), (21, .ifCond .ne 7, 3), (24, .aload_n 0, 1), (25, .invokevirtual 28, 3), (28, .return_, 1)]
def pmk56 : List (Nat × Instr × Nat) := [(0, .aload_n 0, 1), (1, .iload_n 1, 1), (2, .invokevirtual 61, 3), (5, .ifCond .ne 12, 3), (8, .aload_n 0, 1), (9, .iconst 1, 1), (10, .aload_n 0, 1), (11, .getfield 31, 3), (14, .invokevirtual 57, 3), (17, .aload_n 0, 1), (18, .getfield 19, 3), (21, .ifCond .ne 7, 3), (24, .aload_n 0, 1), (25, .invokevirtual 28, 3), (28, .return_, 1)]
def pmk57 : List (Nat × Instr × Nat) := [(0, .aload_n 0, 1), (1, .getfield 41, 3), (4, .iconst 2, 1), (5, .if_icmp .eq 12, 3), (8, .aload_n 0, 1), (9, .iconst 1, 1), (10, .aload_n 0, 1), (11, .getfield 31, 3), (14, .invokevirtual 57, 3), (17, .aload_n 0, 1), (18, .getfield 25, 3), (21, .aload_n 0, 1), (22, .getfield 31, 3), (25, .isub, 1), (26, .iload_n 3, 1), (27, .if_icmp .le 12, 3), (30, .aload_n 0, 1), (31, .iconst 2, 1), (32, .aload_n 0, 1), (33, .getfield 31, 3), (36, .invokevirtual 57, 3), (39, .aload_n 0, 1), (40, .getfield 19, 3), (43, .ifCond .eq 5, 3), (46, .iconst (-1), 1), (47, .ireturn, 1), (48, .iconst 0, 1), (49, .istore 4, 2), (51, .aload_n 0, 1), (52, .getfield 31, 3), (55, .istore 5, 2), (57, .iload 5, 2), (59, .aload_n 0, 1), (60, .getfield 25, 3), (63, .if_icmp .ge 26, 3), (66, .bipush 10, 2), (68, .iload 4, 2), (70, .imul, 1), (71, .aload_n 0, 1), (72, .iload 5, 2), (74, .invokevirtual 34, 3), (77, .iadd, 1), (78, .bipush 48, 2), (80, .isub, 1), (81, .istore 4, 2), (83, .iinc 5 1, 3), (86, .goto (-29), 3), (89, .iload 4, 2), (91, .iload_n 1, 1), (92, .iload_n 2, 1), (93, .invokestatic 65, 3), (96, .ifCond .ne 12, 3), (99, .aload_n 0, 1), (100, .iconst 2, 1), (101, .aload_n 0, 1), (102, .getfield 31, 3), (105, .invokevirtual 57, 3), (108, .aload_n 0, 1), (109, .getfield 19, 3), (112, .ifCond .eq 5, 3), (115, .iconst (-1), 1), (116, .ireturn, 1), (117, .aload_n 0, 1), (118, .invokevirtual 28, 3), (121, .iload 4, 2), (123, .ireturn, 1)]
def pmk58 : List (Nat × Instr × Nat) := [(0, .aload_n 0, 1), (1, .invokespecial 3, 3), (4, .aload_n 0, 1), (5, .bipush 40, 2), (7, .newarray .int, 2), (9, .putfield 9, 3), (12, .aload_n 0, 1), (13, .bipush 40, 2), (15, .newarray .int, 2), (17, .putfield 15, 3), (20, .aload_n 0, 1), (21, .bipush 40, 2), (23, .newarray .int, 2), (25, .putfield 18, 3), (28, .aload_n 0, 1), (29, .bipush 40, 2), (31, .bipush 10, 2), (33, .multianewarray 21 2, 4), (37, .putfield 23, 3), (40, .aload_n 0, 1), (41, .getfield 15, 3), (44, .iconst (-1), 1), (45, .invokestatic 26, 3), (48, .aload_n 0, 1), (49, .getfield 18, 3), (52, .iconst (-1), 1), (53, .invokestatic 26, 3), (56, .iconst 0, 1), (57, .istore_n 1, 1), (58, .iload_n 1, 1), (59, .bipush 40, 2), (61, .if_icmp .ge 19, 3), (64, .aload_n 0, 1), (65, .getfield 23, 3), (68, .iload_n 1, 1), (69, .aaload, 1), (70, .iconst (-1), 1), (71, .invokestatic 26, 3), (74, .iinc 1 1, 3), (77, .goto (-19), 3), (80, .aload_n 0, 1), (81, .iconst 1, 1), (82, .putfield 32, 3), (85, .return_, 1)]
def pmk59 : List (Nat × Instr × Nat) := [(0, .iload_n 1, 1), (1, .ifCond .lt 15, 3), (4, .iload_n 1, 1), (5, .aload_n 0, 1), (6, .getfield 32, 3), (9, .if_icmp .ge 7, 3), (12, .iconst 1, 1), (13, .goto 4, 3), (16, .iconst 0, 1), (17, .ireturn, 1)]
def pmk60 : List (Nat × Instr × Nat) := [(0, .aload_n 0, 1), (1, .getfield 32, 3), (4, .istore_n 3, 1), (5, .iload_n 3, 1), (6, .bipush 40, 2), (8, .if_icmp .lt 7, 3), (11, .sipush (-1004), 3), (14, .ireturn, 1), (15, .aload_n 0, 1), (16, .getfield 9, 3), (19, .iload_n 3, 1), (20, .iload_n 2, 1), (21, .iastore, 1), (22, .aload_n 0, 1), (23, .dup, 1), (24, .getfield 32, 3), (27, .iconst 1, 1), (28, .iadd, 1), (29, .putfield 32, 3), (32, .aload_n 0, 1), (33, .iload_n 3, 1), (34, .iload_n 1, 1), (35, .iload_n 2, 1), (36, .invokevirtual 36, 3), (39, .iload_n 3, 1), (40, .ireturn, 1)]
def pmk61 : List (Nat × Instr × Nat) := [(0, .aload_n 0, 1), (1, .iload_n 1, 1), (2, .invokevirtual 40, 3), (5, .ifCond .ne 4, 3), (8, .return_, 1), (9, .iconst 0, 1), (10, .iload_n 3, 1), (11, .invokestatic 44, 3), (14, .istore 4, 2), (16, .iload 4, 2), (18, .bipush 10, 2), (20, .if_icmp .ge 19, 3), (23, .aload_n 0, 1), (24, .getfield 23, 3), (27, .iload_n 1, 1), (28, .aaload, 1), (29, .iload 4, 2), (31, .iload_n 2, 1), (32, .iastore, 1), (33, .iinc 4 1, 3), (36, .goto (-20), 3), (39, .return_, 1)]
def pmk62 : List (Nat × Instr × Nat) := [(0, .aload_n 0, 1), (1, .iload_n 1, 1), (2, .invokevirtual 40, 3), (5, .ifCond .eq 24, 3), (8, .iload_n 2, 1), (9, .iconst 0, 1), (10, .bipush 9, 2), (12, .invokestatic 50, 3), (15, .ifCond .eq 14, 3), (18, .aload_n 0, 1), (19, .getfield 23, 3), (22, .iload_n 1, 1), (23, .aaload, 1), (24, .iload_n 2, 1), (25, .iaload, 1), (26, .goto 4, 3), (29, .iconst (-1), 1), (30, .ireturn, 1)]
def pmk63 : List (Nat × Instr × Nat) := [(0, .aload_n 0, 1), (1, .iload_n 1, 1), (2, .invokevirtual 40, 3), (5, .ifCond .eq 27, 3), (8, .aload_n 0, 1), (9, .getfield 15, 3), (12, .iload_n 1, 1), (13, .iaload, 1), (14, .iconst (-1), 1), (15, .if_icmp .eq 17, 3), (18, .aload_n 0, 1), (19, .getfield 15, 3), (22, .iload_n 1, 1), (23, .iaload, 1), (24, .iload_n 2, 1), (25, .if_icmp .gt 7, 3), (28, .iconst 1, 1), (29, .goto 4, 3), (32, .iconst 0, 1), (33, .ireturn, 1)]
def pmk64 : List (Nat × Instr × Nat) := [(0, .aload_n 0, 1), (1, .iload_n 1, 1), (2, .invokevirtual 40, 3), (5, .ifCond .eq 26, 3), (8, .aload_n 0, 1), (9, .getfield 9, 3), (12, .iload_n 1, 1), (13, .iaload, 1), (14, .iload_n 2, 1), (15, .if_icmp .gt 16, 3), (18, .aload_n 0, 1), (19, .iload_n 1, 1), (20, .iload_n 2, 1), (21, .invokevirtual 54, 3), (24, .ifCond .ne 7, 3), (27, .iconst 1, 1), (28, .goto 4, 3), (31, .iconst 0, 1), (32, .ireturn, 1)]
def pmk65 : List (Nat × Instr × Nat) := [(0, .lconst 0, 1), (1, .lstore_n 3, 1), (2, .iload_n 1, 1), (3, .istore 5, 2), (5, .iconst 0, 1), (6, .istore 6, 2), (8, .iload 6, 2), (10, .bipush 40, 2), (12, .if_icmp .ge 34, 3), (15, .aload_n 0, 1), (16, .iload 5, 2), (18, .invokevirtual 40, 3), (21, .ifCond .eq 25, 3), (24, .lload_n 3, 1), (25, .lconst 1, 1), (26, .iload 5, 2), (28, .lshl, 1), (29, .lor, 1), (30, .lstore_n 3, 1), (31, .aload_n 0, 1), (32, .iload 5, 2), (34, .iload_n 2, 1), (35, .invokevirtual 58, 3), (38, .istore 5, 2), (40, .iinc 6 1, 3), (43, .goto (-35), 3), (46, .lload_n 3, 1), (47, .lreturn, 1)]
def pmk66 : List (Nat × Instr × Nat) := [(0, .aload_n 0, 1), (1, .iload_n 2, 1), (2, .invokevirtual 40, 3), (5, .ifCond .eq 22, 3), (8, .aload_n 0, 1), (9, .iload_n 1, 1), (10, .iload_n 3, 1), (11, .invokevirtual 61, 3), (14, .iload_n 2, 1), (15, .lushr, 1), (16, .lconst 1, 1), (17, .land, 1), (18, .lconst 0, 1), (19, .lcmp, 1), (20, .ifCond .eq 7, 3), (23, .iconst 1, 1), (24, .goto 4, 3), (27, .iconst 0, 1), (28, .ireturn, 1)]
def pmk67 : List (Nat × Instr × Nat) := [(0, .iconst 0, 1), (1, .istore_n 3, 1), (2, .iconst 0, 1), (3, .istore 4, 2), (5, .iload 4, 2), (7, .aload_n 0, 1), (8, .getfield 32, 3), (11, .if_icmp .ge 23, 3), (14, .aload_n 0, 1), (15, .iload 4, 2), (17, .iload_n 1, 1), (18, .iload_n 2, 1), (19, .invokevirtual 65, 3), (22, .ifCond .eq 6, 3), (25, .iinc 3 1, 3), (28, .iinc 4 1, 3), (31, .goto (-26), 3), (34, .iload_n 3, 1), (35, .ireturn, 1)]
def pmk68 : List (Nat × Instr × Nat) := [(0, .iconst 0, 1), (1, .istore_n 2, 1), (2, .iconst 0, 1), (3, .istore_n 3, 1), (4, .iload_n 3, 1), (5, .aload_n 0, 1), (6, .getfield 32, 3), (9, .if_icmp .ge 21, 3), (12, .aload_n 0, 1), (13, .iload_n 3, 1), (14, .iload_n 1, 1), (15, .invokevirtual 68, 3), (18, .ifCond .eq 6, 3), (21, .iinc 2 1, 3), (24, .iinc 3 1, 3), (27, .goto (-23), 3), (30, .iload_n 2, 1), (31, .ireturn, 1)]
def pmk69 : List (Nat × Instr × Nat) := [(0, .iload_n 1, 1), (1, .istore_n 3, 1), (2, .iconst 0, 1), (3, .istore 4, 2), (5, .iload 4, 2), (7, .bipush 40, 2), (9, .if_icmp .ge 38, 3), (12, .aload_n 0, 1), (13, .iload_n 3, 1), (14, .iload_n 2, 1), (15, .invokevirtual 54, 3), (18, .ifCond .eq 29, 3), (21, .aload_n 0, 1), (22, .aload_n 0, 1), (23, .getfield 18, 3), (26, .iload_n 3, 1), (27, .iaload, 1), (28, .invokevirtual 40, 3), (31, .ifCond .eq 16, 3), (34, .aload_n 0, 1), (35, .getfield 18, 3), (38, .iload_n 3, 1), (39, .iaload, 1), (40, .istore_n 3, 1), (41, .iinc 4 1, 3), (44, .goto (-39), 3), (47, .iload_n 3, 1), (48, .ireturn, 1)]
def pmk70 : List (Nat × Instr × Nat) := [(0, .iload_n 1, 1), (1, .istore_n 3, 1), (2, .iconst 0, 1), (3, .istore 4, 2), (5, .iload 4, 2), (7, .bipush 40, 2), (9, .if_icmp .ge 33, 3), (12, .aload_n 0, 1), (13, .iload_n 3, 1), (14, .invokevirtual 40, 3), (17, .ifCond .eq 25, 3), (20, .aload_n 0, 1), (21, .iload_n 3, 1), (22, .iload_n 2, 1), (23, .invokevirtual 68, 3), (26, .ifCond .ne 16, 3), (29, .aload_n 0, 1), (30, .iload_n 3, 1), (31, .iload_n 2, 1), (32, .invokevirtual 58, 3), (35, .istore_n 3, 1), (36, .iinc 4 1, 3), (39, .goto (-34), 3), (42, .iload_n 3, 1), (43, .ireturn, 1)]
def pmk71 : List (Nat × Instr × Nat) := [(0, .iload_n 1, 1), (1, .istore 4, 2), (3, .iconst 0, 1), (4, .istore 5, 2), (6, .iload 5, 2), (8, .iload_n 2, 1), (9, .if_icmp .ge 23, 3), (12, .iload 4, 2), (14, .ifCond .eq 18, 3), (17, .aload_n 0, 1), (18, .iload 4, 2), (20, .iload_n 3, 1), (21, .invokevirtual 58, 3), (24, .istore 4, 2), (26, .iinc 5 1, 3), (29, .goto (-23), 3), (32, .iload 4, 2), (34, .ireturn, 1)]
def pmk72 : List (Nat × Instr × Nat) := [(0, .aload_n 0, 1), (1, .invokespecial 3, 3), (4, .aload_n 0, 1), (5, .new 9, 3), (8, .dup, 1), (9, .invokespecial 11, 3), (12, .putfield 12, 3), (15, .aload_n 0, 1), (16, .bipush 40, 2), (18, .newarray .int, 2), (20, .putfield 18, 3), (23, .aload_n 0, 1), (24, .bipush 120, 2), (26, .newarray .boolean, 2), (28, .putfield 22, 3), (31, .aload_n 0, 1), (32, .bipush 120, 2), (34, .newarray .int, 2), (36, .putfield 26, 3), (39, .aload_n 0, 1), (40, .bipush 120, 2), (42, .newarray .int, 2), (44, .putfield 29, 3), (47, .aload_n 0, 1), (48, .bipush 120, 2), (50, .newarray .int, 2), (52, .putfield 32, 3), (55, .aload_n 0, 1), (56, .bipush 120, 2), (58, .newarray .boolean, 2), (60, .putfield 35, 3), (63, .aload_n 0, 1), (64, .bipush 40, 2), (66, .newarray .long, 2), (68, .putfield 38, 3), (71, .aload_n 0, 1), (72, .aload_n 1, 1), (73, .putfield 42, 3), (76, .aload_n 0, 1), (77, .aload_n 2, 1), (78, .putfield 46, 3), (81, .aload_n 0, 1), (82, .aload_n 3, 1), (83, .putfield 50, 3), (86, .aload_n 0, 1), (87, .iconst 0, 1), (88, .putfield 54, 3), (91, .aload_n 0, 1), (92, .iconst (-1), 1), (93, .putfield 58, 3), (96, .return_, 1)]
def pmk73 : List (Nat × Instr × Nat) := [(0, .aload_n 0, 1), (1, .iconst 0, 1), (2, .putfield 54, 3), (5, .aload_n 0, 1), (6, .iconst (-1), 1), (7, .putfield 58, 3), (10, .return_, 1)]
def pmk74 : List (Nat × Instr × Nat) := [(0, .aload_n 0, 1), (1, .getfield 54, 3), (4, .ifCond .eq 4, 3), (7, .return_, 1), (8, .aload_n 0, 1), (9, .iconst 1, 1), (10, .putfield 54, 3), (13, .aload_n 0, 1), (14, .getfield 18, 3), (17, .iconst 0, 1), (18, .invokestatic 62, 3), (21, .iconst (-1), 1), (22, .istore_n 1, 1), (23, .iconst 0, 1), (24, .istore_n 2, 1), (25, .iload_n 2, 1), (26, .aload_n 0, 1), (27, .getfield 46, 3), (30, .getfield 68, 3), (33, .if_icmp .ge 142, 3), (36, .aload_n 0, 1), (37, .getfield 46, 3), (40, .getfield 73, 3), (43, .iload_n 2, 1), (44, .iaload, 1), (45, .istore_n 3, 1), (46, .iload_n 3, 1), (47, .iload_n 1, 1), (48, .if_icmp .eq 15, 3), (51, .aload_n 0, 1), (52, .getfield 12, 3), (55, .aload_n 0, 1), (56, .getfield 50, 3), (59, .iload_n 3, 1), (60, .invokevirtual 76, 3), (63, .iload_n 3, 1), (64, .istore_n 1, 1), (65, .aload_n 0, 1), (66, .getfield 29, 3), (69, .iload_n 2, 1), (70, .aload_n 0, 1), (71, .iload_n 2, 1), (72, .iload_n 3, 1), (73, .invokevirtual 80, 3), (76, .iastore, 1), (77, .aload_n 0, 1), (78, .getfield 46, 3), (81, .getfield 84, 3), (84, .iload_n 2, 1), (85, .iaload, 1), (86, .istore 4, 2), (88, .aload_n 0, 1), (89, .getfield 22, 3), (92, .iload_n 2, 1), (93, .iload 4, 2), (95, .ifCond .eq 20, 3), (98, .aload_n 0, 1), (99, .getfield 12, 3), (102, .iload 4, 2), (104, .iconst 1, 1), (105, .invokevirtual 87, 3), (108, .ifCond .le 7, 3), (111, .iconst 1, 1), (112, .goto 4, 3), (115, .iconst 0, 1), (116, .bastore, 1), (117, .aload_n 0, 1), (118, .getfield 26, 3), (121, .iload_n 2, 1), (122, .iload 4, 2), (124, .ifCond .ne 7, 3), (127, .iconst 0, 1), (128, .goto 13, 3), (131, .aload_n 0, 1), (132, .getfield 12, 3), (135, .iload 4, 2), (137, .iconst 2, 1), (138, .invokevirtual 87, 3), (141, .iastore, 1), (142, .aload_n 0, 1), (143, .getfield 29, 3), (146, .iload_n 2, 1), (147, .iaload, 1), (148, .ifCond .ne 21, 3), (151, .aload_n 0, 1), (152, .getfield 18, 3), (155, .aload_n 0, 1), (156, .getfield 46, 3), (159, .getfield 90, 3), (162, .iload_n 2, 1), (163, .iaload, 1), (164, .dup2, 1), (165, .iaload, 1), (166, .iconst 1, 1), (167, .iadd, 1), (168, .iastore, 1), (169, .iinc 2 1, 3), (172, .goto (-147), 3), (175, .return_, 1)]
def pmk75 : List (Nat × Instr × Nat) := [(0, .aload_n 0, 1), (1, .getfield 46, 3), (4, .getfield 93, 3), (7, .iload_n 1, 1), (8, .iaload, 1), (9, .istore_n 3, 1), (10, .aload_n 0, 1), (11, .getfield 46, 3), (14, .getfield 84, 3), (17, .iload_n 1, 1), (18, .iaload, 1), (19, .istore 4, 2), (21, .aload_n 0, 1), (22, .getfield 42, 3), (25, .iload_n 3, 1), (26, .iload_n 2, 1), (27, .invokevirtual 96, 3), (30, .ifCond .ne 5, 3), (33, .iconst 1, 1), (34, .ireturn, 1), (35, .iload 4, 2), (37, .ifCond .eq 26, 3), (40, .aload_n 0, 1), (41, .getfield 12, 3), (44, .iload 4, 2), (46, .aload_n 0, 1), (47, .getfield 42, 3), (50, .iload_n 3, 1), (51, .iload_n 2, 1), (52, .invokevirtual 102, 3), (55, .invokevirtual 106, 3), (58, .ifCond .eq 5, 3), (61, .iconst 2, 1), (62, .ireturn, 1), (63, .iload 4, 2), (65, .ifCond .eq 17, 3), (68, .aload_n 0, 1), (69, .getfield 12, 3), (72, .iload 4, 2), (74, .invokevirtual 110, 3), (77, .ifCond .eq 5, 3), (80, .iconst 3, 1), (81, .ireturn, 1), (82, .aload_n 0, 1), (83, .getfield 18, 3), (86, .aload_n 0, 1), (87, .getfield 46, 3), (90, .getfield 90, 3), (93, .iload_n 1, 1), (94, .iaload, 1), (95, .iaload, 1), (96, .aload_n 0, 1), (97, .getfield 12, 3), (100, .getfield 114, 3), (103, .if_icmp .lt 5, 3), (106, .iconst 4, 1), (107, .ireturn, 1), (108, .iconst 0, 1), (109, .ireturn, 1)]
def pmk76 : List (Nat × Instr × Nat) := [(0, .aload_n 0, 1), (1, .getfield 58, 3), (4, .iload_n 1, 1), (5, .if_icmp .ne 4, 3), (8, .return_, 1), (9, .aload_n 0, 1), (10, .iload_n 1, 1), (11, .putfield 58, 3), (14, .aload_n 0, 1), (15, .invokevirtual 117, 3), (18, .aload_n 0, 1), (19, .getfield 38, 3), (22, .lconst 0, 1), (23, .invokestatic 120, 3), (26, .iconst 0, 1), (27, .istore_n 2, 1), (28, .iload_n 2, 1), (29, .aload_n 0, 1), (30, .getfield 46, 3), (33, .getfield 68, 3), (36, .if_icmp .ge 55, 3), (39, .aload_n 0, 1), (40, .iload_n 2, 1), (41, .invokevirtual 123, 3), (44, .aload_n 0, 1), (45, .getfield 32, 3), (48, .iload_n 2, 1), (49, .iaload, 1), (50, .iconst (-1), 1), (51, .if_icmp .eq 34, 3), (54, .aload_n 0, 1), (55, .getfield 38, 3), (58, .aload_n 0, 1), (59, .getfield 46, 3), (62, .getfield 90, 3), (65, .iload_n 2, 1), (66, .iaload, 1), (67, .dup2, 1), (68, .laload, 1), (69, .aload_n 0, 1), (70, .getfield 42, 3), (73, .aload_n 0, 1), (74, .getfield 32, 3), (77, .iload_n 2, 1), (78, .iaload, 1), (79, .iload_n 1, 1), (80, .invokevirtual 102, 3), (83, .lor, 1), (84, .lastore, 1), (85, .iinc 2 1, 3), (88, .goto (-60), 3), (91, .return_, 1)]
def pmk77 : List (Nat × Instr × Nat) := [(0, .aload_n 0, 1), (1, .getfield 58, 3), (4, .istore_n 2, 1), (5, .aload_n 0, 1), (6, .getfield 32, 3), (9, .iload_n 1, 1), (10, .iconst (-1), 1), (11, .iastore, 1), (12, .aload_n 0, 1), (13, .getfield 35, 3), (16, .iload_n 1, 1), (17, .iconst 0, 1), (18, .bastore, 1), (19, .aload_n 0, 1), (20, .getfield 46, 3), (23, .getfield 73, 3), (26, .iload_n 1, 1), (27, .iaload, 1), (28, .iload_n 2, 1), (29, .if_icmp .gt 21, 3), (32, .aload_n 0, 1), (33, .getfield 29, 3), (36, .iload_n 1, 1), (37, .iaload, 1), (38, .ifCond .ne 12, 3), (41, .aload_n 0, 1), (42, .getfield 22, 3), (45, .iload_n 1, 1), (46, .baload, 1), (47, .ifCond .eq 4, 3), (50, .return_, 1), (51, .aload_n 0, 1), (52, .getfield 46, 3), (55, .iload_n 1, 1), (56, .iload_n 2, 1), (57, .invokevirtual 127, 3), (60, .iconst 1, 1), (61, .if_icmp .le 4, 3), (64, .return_, 1), (65, .aload_n 0, 1), (66, .getfield 42, 3), (69, .aload_n 0, 1), (70, .getfield 46, 3), (73, .getfield 93, 3), (76, .iload_n 1, 1), (77, .iaload, 1), (78, .iload_n 2, 1), (79, .invokevirtual 130, 3), (82, .istore_n 3, 1), (83, .aload_n 0, 1), (84, .getfield 35, 3), (87, .iload_n 1, 1), (88, .aload_n 0, 1), (89, .getfield 42, 3), (92, .iload_n 3, 1), (93, .iload_n 2, 1), (94, .invokevirtual 133, 3), (97, .bastore, 1), (98, .aload_n 0, 1), (99, .getfield 32, 3), (102, .iload_n 1, 1), (103, .aload_n 0, 1), (104, .getfield 42, 3), (107, .aload_n 0, 1), (108, .getfield 42, 3), (111, .iload_n 3, 1), (112, .iload_n 2, 1), (113, .invokevirtual 136, 3), (116, .aload_n 0, 1), (117, .getfield 26, 3), (120, .iload_n 1, 1), (121, .iaload, 1), (122, .iload_n 2, 1), (123, .invokevirtual 139, 3), (126, .iastore, 1), (127, .return_, 1)]
def pmk78 : List (Nat × Instr × Nat) := [(0, .aload_n 0, 1), (1, .getfield 38, 3), (4, .iload_n 1, 1), (5, .laload, 1), (6, .iload_n 2, 1), (7, .lushr, 1), (8, .lconst 1, 1), (9, .land, 1), (10, .lconst 0, 1), (11, .lcmp, 1), (12, .ifCond .eq 7, 3), (15, .iconst 1, 1), (16, .goto 4, 3), (19, .iconst 0, 1), (20, .ireturn, 1)]
def pmk79 : List (Nat × Instr × Nat) := [(0, .aload_n 0, 1), (1, .lconst 1, 1), (2, .iload_n 1, 1), (3, .lshl, 1), (4, .invokevirtual 143, 3), (7, .lreturn, 1)]
def pmk80 : List (Nat × Instr × Nat) := [(0, .lconst 0, 1), (1, .lstore_n 3, 1), (2, .iconst 0, 1), (3, .istore 5, 2), (5, .iload 5, 2), (7, .bipush 40, 2), (9, .if_icmp .ge 30, 3), (12, .aload_n 0, 1), (13, .getfield 38, 3), (16, .iload 5, 2), (18, .laload, 1), (19, .lload_n 1, 1), (20, .land, 1), (21, .lconst 0, 1), (22, .lcmp, 1), (23, .ifCond .eq 10, 3), (26, .lload_n 3, 1), (27, .lconst 1, 1), (28, .iload 5, 2), (30, .lshl, 1), (31, .lor, 1), (32, .lstore_n 3, 1), (33, .iinc 5 1, 3), (36, .goto (-31), 3), (39, .lload_n 3, 1), (40, .lreturn, 1)]
def pmk81 : List (Nat × Instr × Nat) := [(0, .aload_n 0, 1), (1, .getfield 32, 3), (4, .iload_n 1, 1), (5, .iaload, 1), (6, .iconst (-1), 1), (7, .if_icmp .eq 28, 3), (10, .aload_n 0, 1), (11, .getfield 42, 3), (14, .aload_n 0, 1), (15, .getfield 32, 3), (18, .iload_n 1, 1), (19, .iaload, 1), (20, .iload_n 2, 1), (21, .aload_n 0, 1), (22, .getfield 58, 3), (25, .invokevirtual 147, 3), (28, .ifCond .eq 7, 3), (31, .iconst 1, 1), (32, .goto 4, 3), (35, .iconst 0, 1), (36, .ireturn, 1)]
def pmk82 : List (Nat × Instr × Nat) := [(0, .lconst 0, 1), (1, .lstore_n 3, 1), (2, .iconst 0, 1), (3, .istore 5, 2), (5, .iload 5, 2), (7, .aload_n 0, 1), (8, .getfield 46, 3), (11, .getfield 68, 3), (14, .if_icmp .ge 48, 3), (17, .aload_n 0, 1), (18, .getfield 46, 3), (21, .getfield 151, 3), (24, .iload 5, 2), (26, .iaload, 1), (27, .iload_n 1, 1), (28, .if_icmp .ne 28, 3), (31, .aload_n 0, 1), (32, .iload 5, 2), (34, .iload_n 2, 1), (35, .invokevirtual 154, 3), (38, .ifCond .eq 18, 3), (41, .lload_n 3, 1), (42, .lconst 1, 1), (43, .aload_n 0, 1), (44, .getfield 46, 3), (47, .getfield 90, 3), (50, .iload 5, 2), (52, .iaload, 1), (53, .lshl, 1), (54, .lor, 1), (55, .lstore_n 3, 1), (56, .iinc 5 1, 3), (59, .goto (-54), 3), (62, .lload_n 3, 1), (63, .lreturn, 1)]
def pmk83 : List (Nat × Instr × Nat) := [(0, .aload_n 0, 1), (1, .getfield 46, 3), (4, .getfield 73, 3), (7, .iload_n 1, 1), (8, .iaload, 1), (9, .aload_n 0, 1), (10, .getfield 58, 3), (13, .if_icmp .gt 12, 3), (16, .aload_n 0, 1), (17, .getfield 29, 3), (20, .iload_n 1, 1), (21, .iaload, 1), (22, .ifCond .eq 5, 3), (25, .iconst 0, 1), (26, .ireturn, 1), (27, .aload_n 0, 1), (28, .getfield 42, 3), (31, .aload_n 0, 1), (32, .getfield 46, 3), (35, .getfield 93, 3), (38, .iload_n 1, 1), (39, .iaload, 1), (40, .aload_n 0, 1), (41, .getfield 58, 3), (44, .invokevirtual 102, 3), (47, .lstore_n 3, 1), (48, .iconst 0, 1), (49, .istore 5, 2), (51, .iload 5, 2), (53, .bipush 40, 2), (55, .if_icmp .ge 56, 3), (58, .lload_n 3, 1), (59, .iload 5, 2), (61, .lushr, 1), (62, .lconst 1, 1), (63, .land, 1), (64, .lconst 0, 1), (65, .lcmp, 1), (66, .ifCond .ne 6, 3), (69, .goto 36, 3), (72, .aload_n 2, 1), (73, .getfield 157, 3), (76, .iload 5, 2), (78, .laload, 1), (79, .aload_n 0, 1), (80, .getfield 38, 3), (83, .aload_n 0, 1), (84, .getfield 46, 3), (87, .getfield 90, 3), (90, .iload_n 1, 1), (91, .iaload, 1), (92, .laload, 1), (93, .ldc2_w 160, 3), (96, .lxor, 1), (97, .land, 1), (98, .lconst 0, 1), (99, .lcmp, 1), (100, .ifCond .eq 5, 3), (103, .iconst 1, 1), (104, .ireturn, 1), (105, .iinc 5 1, 3), (108, .goto (-57), 3), (111, .iconst 0, 1), (112, .ireturn, 1)]
def pmk84 : List (Nat × Instr × Nat) := [(0, .iconst 0, 1), (1, .istore_n 1, 1), (2, .iconst 0, 1), (3, .istore_n 2, 1), (4, .iload_n 2, 1), (5, .aload_n 0, 1), (6, .getfield 46, 3), (9, .getfield 68, 3), (12, .if_icmp .ge 21, 3), (15, .aload_n 0, 1), (16, .getfield 29, 3), (19, .iload_n 2, 1), (20, .iaload, 1), (21, .ifCond .eq 6, 3), (24, .iinc 1 1, 3), (27, .iinc 2 1, 3), (30, .goto (-26), 3), (33, .iload_n 1, 1), (34, .ireturn, 1)]
def pmk85 : List (Nat × Instr × Nat) := [(0, .iconst 0, 1), (1, .istore_n 1, 1), (2, .iconst 0, 1), (3, .istore_n 2, 1), (4, .iload_n 2, 1), (5, .aload_n 0, 1), (6, .getfield 46, 3), (9, .getfield 68, 3), (12, .if_icmp .ge 21, 3), (15, .aload_n 0, 1), (16, .getfield 35, 3), (19, .iload_n 2, 1), (20, .baload, 1), (21, .ifCond .eq 6, 3), (24, .iinc 1 1, 3), (27, .iinc 2 1, 3), (30, .goto (-26), 3), (33, .iload_n 1, 1), (34, .ireturn, 1)]
def pmk86 : List (Nat × Instr × Nat) := [(0, .iconst 0, 1), (1, .istore_n 2, 1), (2, .iconst 0, 1), (3, .istore_n 3, 1), (4, .iload_n 3, 1), (5, .aload_n 0, 1), (6, .getfield 46, 3), (9, .getfield 68, 3), (12, .if_icmp .ge 21, 3), (15, .aload_n 0, 1), (16, .iload_n 3, 1), (17, .aload_n 1, 1), (18, .invokevirtual 162, 3), (21, .ifCond .eq 6, 3), (24, .iinc 2 1, 3), (27, .iinc 3 1, 3), (30, .goto (-26), 3), (33, .iload_n 2, 1), (34, .ireturn, 1)]
def pmk87 : List (Nat × Instr × Nat) := [(0, .aload_n 0, 1), (1, .invokespecial 3, 3), (4, .aload_n 0, 1), (5, .bipush 60, 2), (7, .newarray .int, 2), (9, .putfield 9, 3), (12, .aload_n 0, 1), (13, .bipush 60, 2), (15, .newarray .int, 2), (17, .putfield 15, 3), (20, .aload_n 0, 1), (21, .bipush 60, 2), (23, .newarray .int, 2), (25, .putfield 18, 3), (28, .return_, 1)]
def pmk88 : List (Nat × Instr × Nat) := [(0, .aload_n 0, 1), (1, .getfield 21, 3), (4, .bipush 60, 2), (6, .if_icmp .lt 7, 3), (9, .sipush (-1004), 3), (12, .ireturn, 1), (13, .aload_n 0, 1), (14, .getfield 9, 3), (17, .aload_n 0, 1), (18, .getfield 21, 3), (21, .iload_n 1, 1), (22, .iastore, 1), (23, .aload_n 0, 1), (24, .getfield 15, 3), (27, .aload_n 0, 1), (28, .getfield 21, 3), (31, .iload_n 2, 1), (32, .iastore, 1), (33, .aload_n 0, 1), (34, .getfield 18, 3), (37, .aload_n 0, 1), (38, .getfield 21, 3), (41, .iload_n 3, 1), (42, .iastore, 1), (43, .aload_n 0, 1), (44, .dup, 1), (45, .getfield 21, 3), (48, .iconst 1, 1), (49, .iadd, 1), (50, .putfield 21, 3), (53, .aload_n 0, 1), (54, .iload_n 1, 1), (55, .iload_n 2, 1), (56, .invokevirtual 25, 3), (59, .invokestatic 29, 3), (62, .ireturn, 1)]
def pmk89 : List (Nat × Instr × Nat) := [(0, .lconst 0, 1), (1, .lstore_n 3, 1), (2, .iconst 0, 1), (3, .istore 5, 2), (5, .iload 5, 2), (7, .aload_n 0, 1), (8, .getfield 21, 3), (11, .if_icmp .ge 43, 3), (14, .aload_n 0, 1), (15, .getfield 9, 3), (18, .iload 5, 2), (20, .iaload, 1), (21, .iload_n 1, 1), (22, .if_icmp .ne 26, 3), (25, .aload_n 0, 1), (26, .getfield 15, 3), (29, .iload 5, 2), (31, .iaload, 1), (32, .iload_n 2, 1), (33, .if_icmp .ne 15, 3), (36, .lload_n 3, 1), (37, .lconst 1, 1), (38, .aload_n 0, 1), (39, .getfield 18, 3), (42, .iload 5, 2), (44, .iaload, 1), (45, .lshl, 1), (46, .lor, 1), (47, .lstore_n 3, 1), (48, .iinc 5 1, 3), (51, .goto (-46), 3), (54, .lload_n 3, 1), (55, .lreturn, 1)]
def pmk90 : List (Nat × Instr × Nat) := [(0, .aload_n 0, 1), (1, .invokespecial 1, 3), (4, .aload_n 0, 1), (5, .new 7, 3), (8, .dup, 1), (9, .invokespecial 9, 3), (12, .putfield 10, 3), (15, .aload_n 0, 1), (16, .new 16, 3), (19, .dup, 1), (20, .invokespecial 18, 3), (23, .putfield 19, 3), (26, .aload_n 0, 1), (27, .new 23, 3), (30, .dup, 1), (31, .invokespecial 25, 3), (34, .putfield 26, 3), (37, .aload_n 0, 1), (38, .new 30, 3), (41, .dup, 1), (42, .invokespecial 32, 3), (45, .putfield 33, 3), (48, .aload_n 0, 1), (49, .new 37, 3), (52, .dup, 1), (53, .invokespecial 39, 3), (56, .putfield 40, 3), (59, .aload_n 0, 1), (60, .new 44, 3), (63, .dup, 1), (64, .invokespecial 46, 3), (67, .putfield 47, 3), (70, .aload_n 0, 1), (71, .new 51, 3), (74, .dup, 1), (75, .invokespecial 53, 3), (78, .putfield 54, 3), (81, .aload_n 0, 1), (82, .new 58, 3), (85, .dup, 1), (86, .invokespecial 60, 3), (89, .putfield 61, 3), (92, .aload_n 0, 1), (93, .new 65, 3), (96, .dup, 1), (97, .invokespecial 67, 3), (100, .putfield 68, 3), (103, .aload_n 0, 1), (104, .new 72, 3), (107, .dup, 1), (108, .aload_n 0, 1), (109, .getfield 10, 3), (112, .aload_n 0, 1), (113, .getfield 26, 3), (116, .aload_n 0, 1), (117, .getfield 40, 3), (120, .invokespecial 74, 3), (123, .putfield 77, 3), (126, .aload_n 0, 1), (127, .iconst 0, 1), (128, .putfield 81, 3), (131, .aload_n 0, 1), (132, .iconst (-1), 1), (133, .putfield 85, 3), (136, .return_, 1)]
def pmk91 : List (Nat × Instr × Nat) := [(0, .aload_n 0, 1), (1, .getfield 81, 3), (4, .bipush 9, 2), (6, .if_icmp .lt 7, 3), (9, .sipush (-1003), 3), (12, .ireturn, 1), (13, .aload_n 0, 1), (14, .dup, 1), (15, .getfield 81, 3), (18, .iconst 1, 1), (19, .iadd, 1), (20, .putfield 81, 3), (23, .aload_n 0, 1), (24, .getfield 81, 3), (27, .ireturn, 1)]
def pmk92 : List (Nat × Instr × Nat) := [(0, .aload_n 0, 1), (1, .getfield 10, 3), (4, .iload_n 1, 1), (5, .invokevirtual 88, 3), (8, .ifCond .ne 7, 3), (11, .sipush (-1001), 3), (14, .ireturn, 1), (15, .aload_n 0, 1), (16, .getfield 10, 3), (19, .iload_n 1, 1), (20, .aload_n 0, 1), (21, .getfield 81, 3), (24, .invokevirtual 92, 3), (27, .ifCond .ne 7, 3), (30, .sipush (-1003), 3), (33, .ireturn, 1), (34, .aload_n 0, 1), (35, .getfield 77, 3), (38, .invokevirtual 96, 3), (41, .aload_n 0, 1), (42, .getfield 10, 3), (45, .iload_n 1, 1), (46, .aload_n 0, 1), (47, .getfield 81, 3), (50, .invokevirtual 99, 3), (53, .ireturn, 1)]
def pmk93 : List (Nat × Instr × Nat) := [(0, .aload_n 0, 1), (1, .getfield 10, 3), (4, .iload_n 1, 1), (5, .invokevirtual 88, 3), (8, .ifCond .eq 14, 3), (11, .aload_n 0, 1), (12, .getfield 10, 3), (15, .iload_n 2, 1), (16, .invokevirtual 88, 3), (19, .ifCond .ne 7, 3), (22, .sipush (-1001), 3), (25, .ireturn, 1), (26, .iload_n 1, 1), (27, .ifCond .eq 33, 3), (30, .aload_n 0, 1), (31, .getfield 10, 3), (34, .iload_n 1, 1), (35, .aload_n 0, 1), (36, .getfield 81, 3), (39, .invokevirtual 92, 3), (42, .ifCond .eq 18, 3), (45, .aload_n 0, 1), (46, .getfield 10, 3), (49, .iload_n 2, 1), (50, .aload_n 0, 1), (51, .getfield 81, 3), (54, .invokevirtual 92, 3), (57, .ifCond .ne 7, 3), (60, .sipush (-1003), 3), (63, .ireturn, 1), (64, .aload_n 0, 1), (65, .getfield 10, 3), (68, .iload_n 2, 1), (69, .iload_n 1, 1), (70, .aload_n 0, 1), (71, .getfield 81, 3), (74, .invokevirtual 103, 3), (77, .ifCond .eq 7, 3), (80, .sipush (-1003), 3), (83, .ireturn, 1), (84, .aload_n 0, 1), (85, .getfield 77, 3), (88, .invokevirtual 96, 3), (91, .aload_n 0, 1), (92, .getfield 10, 3), (95, .iload_n 1, 1), (96, .aload_n 0, 1), (97, .getfield 81, 3), (100, .invokevirtual 107, 3), (103, .istore_n 3, 1), (104, .aload_n 0, 1), (105, .getfield 10, 3), (108, .iload_n 1, 1), (109, .iload_n 2, 1), (110, .aload_n 0, 1), (111, .getfield 81, 3), (114, .invokevirtual 110, 3), (117, .iload_n 3, 1), (118, .ireturn, 1)]
def pmk94 : List (Nat × Instr × Nat) := [(0, .aload_n 0, 1), (1, .getfield 10, 3), (4, .iload_n 1, 1), (5, .invokevirtual 88, 3), (8, .ifCond .eq 19, 3), (11, .iload_n 2, 1), (12, .iconst (-1), 1), (13, .if_icmp .eq 18, 3), (16, .aload_n 0, 1), (17, .getfield 10, 3), (20, .iload_n 2, 1), (21, .invokevirtual 88, 3), (24, .ifCond .ne 7, 3), (27, .sipush (-1001), 3), (30, .ireturn, 1), (31, .iload_n 1, 1), (32, .ifCond .eq 23, 3), (35, .iload_n 1, 1), (36, .iload_n 2, 1), (37, .if_icmp .eq 18, 3), (40, .aload_n 0, 1), (41, .getfield 10, 3), (44, .iload_n 1, 1), (45, .aload_n 0, 1), (46, .getfield 81, 3), (49, .invokevirtual 92, 3), (52, .ifCond .ne 7, 3), (55, .sipush (-1003), 3), (58, .ireturn, 1), (59, .iload_n 2, 1), (60, .iconst (-1), 1), (61, .if_icmp .eq 22, 3), (64, .aload_n 0, 1), (65, .getfield 10, 3), (68, .iload_n 2, 1), (69, .aload_n 0, 1), (70, .getfield 81, 3), (73, .invokevirtual 92, 3), (76, .ifCond .ne 7, 3), (79, .sipush (-1003), 3), (82, .ireturn, 1), (83, .aload_n 0, 1), (84, .getfield 77, 3), (87, .invokevirtual 96, 3), (90, .aload_n 0, 1), (91, .getfield 10, 3), (94, .getfield 114, 3), (97, .iload_n 1, 1), (98, .aload_n 0, 1), (99, .getfield 81, 3), (102, .iastore, 1), (103, .aload_n 0, 1), (104, .getfield 10, 3), (107, .getfield 118, 3), (110, .iload_n 1, 1), (111, .iload_n 2, 1), (112, .iastore, 1), (113, .aload_n 0, 1), (114, .getfield 10, 3), (117, .iload_n 1, 1), (118, .aload_n 0, 1), (119, .getfield 81, 3), (122, .invokevirtual 121, 3), (125, .iconst 1, 1), (126, .isub, 1), (127, .ireturn, 1)]
def pmk95 : List (Nat × Instr × Nat) := [(0, .aload_n 0, 1), (1, .getfield 10, 3), (4, .iload_n 1, 1), (5, .invokevirtual 88, 3), (8, .ifCond .ne 7, 3), (11, .sipush (-1001), 3), (14, .ireturn, 1), (15, .aload_n 0, 1), (16, .iload_n 2, 1), (17, .invokevirtual 124, 3), (20, .ifCond .eq 13, 3), (23, .iload_n 3, 1), (24, .iconst 0, 1), (25, .bipush 6, 2), (27, .invokestatic 127, 3), (30, .ifCond .ne 7, 3), (33, .sipush (-1002), 3), (36, .ireturn, 1), (37, .iload_n 3, 1), (38, .tableswitch 101 0 5 #[38, 51, 61, 71, 81, 91], 38), (76, .aload_n 0, 1), (77, .getfield 10, 3), (80, .iload_n 1, 1), (81, .iload_n 2, 1), (82, .invokevirtual 92, 3), (85, .invokestatic 130, 3), (88, .ireturn, 1), (89, .aload_n 0, 1), (90, .getfield 10, 3), (93, .iload_n 1, 1), (94, .iload_n 2, 1), (95, .invokevirtual 107, 3), (98, .ireturn, 1), (99, .aload_n 0, 1), (100, .getfield 10, 3), (103, .iload_n 1, 1), (104, .iload_n 2, 1), (105, .invokevirtual 121, 3), (108, .ireturn, 1), (109, .aload_n 0, 1), (110, .getfield 10, 3), (113, .getfield 118, 3), (116, .iload_n 1, 1), (117, .iaload, 1), (118, .ireturn, 1), (119, .aload_n 0, 1), (120, .getfield 10, 3), (123, .getfield 134, 3), (126, .iload_n 1, 1), (127, .iaload, 1), (128, .ireturn, 1), (129, .aload_n 0, 1), (130, .getfield 10, 3), (133, .getfield 114, 3), (136, .iload_n 1, 1), (137, .iaload, 1), (138, .ireturn, 1), (139, .aload_n 0, 1), (140, .getfield 77, 3), (143, .iload_n 2, 1), (144, .invokevirtual 137, 3), (147, .aload_n 0, 1), (148, .getfield 77, 3), (151, .iload_n 1, 1), (152, .invokevirtual 141, 3), (155, .invokestatic 145, 3), (158, .ireturn, 1)]
def pmk96 : List (Nat × Instr × Nat) := [(0, .aload_n 0, 1), (1, .getfield 10, 3), (4, .iload_n 1, 1), (5, .invokevirtual 88, 3), (8, .ifCond .eq 14, 3), (11, .aload_n 0, 1), (12, .getfield 10, 3), (15, .iload_n 2, 1), (16, .invokevirtual 88, 3), (19, .ifCond .ne 7, 3), (22, .sipush (-1001), 3), (25, .ireturn, 1), (26, .aload_n 0, 1), (27, .iload_n 3, 1), (28, .invokevirtual 124, 3), (31, .ifCond .ne 7, 3), (34, .sipush (-1002), 3), (37, .ireturn, 1), (38, .aload_n 0, 1), (39, .getfield 10, 3), (42, .iload_n 1, 1), (43, .iload_n 2, 1), (44, .iload_n 3, 1), (45, .invokevirtual 103, 3), (48, .invokestatic 130, 3), (51, .ireturn, 1)]
def pmk97 : List (Nat × Instr × Nat) := [(0, .iload_n 3, 1), (1, .iconst (-1), 1), (2, .if_icmp .eq 18, 3), (5, .aload_n 0, 1), (6, .getfield 19, 3), (9, .iload_n 3, 1), (10, .invokevirtual 151, 3), (13, .ifCond .ne 7, 3), (16, .sipush (-1001), 3), (19, .ireturn, 1), (20, .iload_n 1, 1), (21, .invokestatic 152, 3), (24, .ifCond .eq 13, 3), (27, .iload_n 2, 1), (28, .iconst 0, 1), (29, .bipush 9, 2), (31, .invokestatic 127, 3), (34, .ifCond .ne 7, 3), (37, .sipush (-1002), 3), (40, .ireturn, 1), (41, .aload_n 0, 1), (42, .getfield 19, 3), (45, .iload_n 1, 1), (46, .iload_n 2, 1), (47, .iload_n 3, 1), (48, .invokevirtual 155, 3), (51, .ireturn, 1)]
def pmk98 : List (Nat × Instr × Nat) := [(0, .aload_n 0, 1), (1, .getfield 19, 3), (4, .iload_n 1, 1), (5, .invokevirtual 151, 3), (8, .ifCond .eq 14, 3), (11, .aload_n 0, 1), (12, .getfield 10, 3), (15, .iload_n 2, 1), (16, .invokevirtual 88, 3), (19, .ifCond .ne 7, 3), (22, .sipush (-1001), 3), (25, .ireturn, 1), (26, .iload_n 3, 1), (27, .invokestatic 158, 3), (30, .ifCond .eq 14, 3), (33, .iload 4, 2), (35, .iconst 0, 1), (36, .bipush 63, 2), (38, .invokestatic 127, 3), (41, .ifCond .ne 7, 3), (44, .sipush (-1002), 3), (47, .ireturn, 1), (48, .aload_n 0, 1), (49, .getfield 77, 3), (52, .invokevirtual 96, 3), (55, .aload_n 0, 1), (56, .getfield 26, 3), (59, .iload_n 1, 1), (60, .iload_n 2, 1), (61, .iload_n 3, 1), (62, .iload 4, 2), (64, .aload_n 0, 1), (65, .getfield 81, 3), (68, .invokevirtual 161, 3), (71, .ireturn, 1)]
def pmk99 : List (Nat × Instr × Nat) := [(0, .aload_n 0, 1), (1, .getfield 26, 3), (4, .iload_n 1, 1), (5, .invokevirtual 164, 3), (8, .ifCond .ne 7, 3), (11, .sipush (-1001), 3), (14, .ireturn, 1), (15, .iload_n 2, 1), (16, .invokestatic 158, 3), (19, .ifCond .ne 7, 3), (22, .sipush (-1002), 3), (25, .ireturn, 1), (26, .aload_n 0, 1), (27, .getfield 26, 3), (30, .getfield 165, 3), (33, .iload_n 1, 1), (34, .iaload, 1), (35, .iload_n 2, 1), (36, .if_icmp .eq 18, 3), (39, .aload_n 0, 1), (40, .getfield 26, 3), (43, .getfield 168, 3), (46, .iload_n 1, 1), (47, .aaload, 1), (48, .iload_n 2, 1), (49, .iaload, 1), (50, .iconst (-1), 1), (51, .if_icmp .eq 7, 3), (54, .sipush (-1003), 3), (57, .ireturn, 1), (58, .aload_n 0, 1), (59, .getfield 77, 3), (62, .invokevirtual 96, 3), (65, .aload_n 0, 1), (66, .getfield 26, 3), (69, .getfield 168, 3), (72, .iload_n 1, 1), (73, .aaload, 1), (74, .iload_n 2, 1), (75, .aload_n 0, 1), (76, .getfield 81, 3), (79, .iastore, 1), (80, .aload_n 0, 1), (81, .getfield 26, 3), (84, .iload_n 1, 1), (85, .aload_n 0, 1), (86, .getfield 81, 3), (89, .invokevirtual 172, 3), (92, .ireturn, 1)]
def pmk100 : List (Nat × Instr × Nat) := [(0, .aload_n 0, 1), (1, .getfield 26, 3), (4, .iload_n 1, 1), (5, .invokevirtual 164, 3), (8, .ifCond .ne 7, 3), (11, .sipush (-1001), 3), (14, .ireturn, 1), (15, .iload_n 2, 1), (16, .iconst 0, 1), (17, .bipush 6, 2), (19, .invokestatic 127, 3), (22, .ifCond .ne 7, 3), (25, .sipush (-1002), 3), (28, .ireturn, 1), (29, .iload_n 2, 1), (30, .tableswitch 105 0 5 #[38, 48, 58, 68, 78, 88], 38), (68, .aload_n 0, 1), (69, .getfield 26, 3), (72, .getfield 175, 3), (75, .iload_n 1, 1), (76, .iaload, 1), (77, .ireturn, 1), (78, .aload_n 0, 1), (79, .getfield 26, 3), (82, .getfield 178, 3), (85, .iload_n 1, 1), (86, .iaload, 1), (87, .ireturn, 1), (88, .aload_n 0, 1), (89, .getfield 26, 3), (92, .getfield 165, 3), (95, .iload_n 1, 1), (96, .iaload, 1), (97, .ireturn, 1), (98, .aload_n 0, 1), (99, .getfield 26, 3), (102, .getfield 181, 3), (105, .iload_n 1, 1), (106, .iaload, 1), (107, .ireturn, 1), (108, .aload_n 0, 1), (109, .getfield 26, 3), (112, .getfield 184, 3), (115, .iload_n 1, 1), (116, .iaload, 1), (117, .ireturn, 1), (118, .aload_n 0, 1), (119, .getfield 77, 3), (122, .invokevirtual 187, 3), (125, .aload_n 0, 1), (126, .getfield 77, 3), (129, .getfield 190, 3), (132, .iload_n 1, 1), (133, .iaload, 1), (134, .ireturn, 1), (135, .aload_n 0, 1), (136, .getfield 26, 3), (139, .iload_n 1, 1), (140, .aload_n 0, 1), (141, .getfield 81, 3), (144, .invokevirtual 172, 3), (147, .ireturn, 1)]
def pmk101 : List (Nat × Instr × Nat) := [(0, .aload_n 0, 1), (1, .getfield 26, 3), (4, .iload_n 1, 1), (5, .invokevirtual 164, 3), (8, .ifCond .ne 7, 3), (11, .sipush (-1001), 3), (14, .ireturn, 1), (15, .aload_n 0, 1), (16, .iload_n 2, 1), (17, .invokevirtual 124, 3), (20, .ifCond .eq 12, 3), (23, .iload_n 3, 1), (24, .iconst 0, 1), (25, .iconst 2, 1), (26, .invokestatic 127, 3), (29, .ifCond .ne 7, 3), (32, .sipush (-1002), 3), (35, .ireturn, 1), (36, .aload_n 0, 1), (37, .getfield 26, 3), (40, .getfield 184, 3), (43, .iload_n 1, 1), (44, .iaload, 1), (45, .iload_n 2, 1), (46, .if_icmp .le 7, 3), (49, .sipush (-1003), 3), (52, .ireturn, 1), (53, .aload_n 0, 1), (54, .getfield 77, 3), (57, .iload_n 2, 1), (58, .invokevirtual 137, 3), (61, .iload_n 3, 1), (62, .lookupswitch 49 #[(0, 26), (1, 36)], 26), (88, .aload_n 0, 1), (89, .getfield 77, 3), (92, .getfield 193, 3), (95, .iload_n 1, 1), (96, .iaload, 1), (97, .ireturn, 1), (98, .aload_n 0, 1), (99, .getfield 77, 3), (102, .getfield 196, 3), (105, .iload_n 1, 1), (106, .baload, 1), (107, .invokestatic 130, 3), (110, .ireturn, 1), (111, .aload_n 0, 1), (112, .getfield 47, 3), (115, .aload_n 0, 1), (116, .getfield 40, 3), (119, .iload_n 2, 1), (120, .invokevirtual 200, 3), (123, .aload_n 0, 1), (124, .getfield 77, 3), (127, .iload_n 1, 1), (128, .aload_n 0, 1), (129, .getfield 47, 3), (132, .invokevirtual 204, 3), (135, .invokestatic 130, 3), (138, .ireturn, 1)]
def pmk102 : List (Nat × Instr × Nat) := [(0, .aload_n 0, 1), (1, .getfield 19, 3), (4, .iload_n 1, 1), (5, .invokevirtual 151, 3), (8, .ifCond .eq 14, 3), (11, .aload_n 0, 1), (12, .getfield 10, 3), (15, .iload_n 2, 1), (16, .invokevirtual 88, 3), (19, .ifCond .ne 7, 3), (22, .sipush (-1001), 3), (25, .ireturn, 1), (26, .aload_n 0, 1), (27, .iload_n 3, 1), (28, .invokevirtual 124, 3), (31, .ifCond .ne 7, 3), (34, .sipush (-1002), 3), (37, .ireturn, 1), (38, .aload_n 0, 1), (39, .getfield 77, 3), (42, .iload_n 3, 1), (43, .invokevirtual 137, 3), (46, .iconst 0, 1), (47, .istore 4, 2), (49, .iload 4, 2), (51, .aload_n 0, 1), (52, .getfield 26, 3), (55, .getfield 208, 3), (58, .if_icmp .ge 39, 3), (61, .aload_n 0, 1), (62, .getfield 26, 3), (65, .getfield 175, 3), (68, .iload 4, 2), (70, .iaload, 1), (71, .iload_n 1, 1), (72, .if_icmp .ne 19, 3), (75, .aload_n 0, 1), (76, .getfield 77, 3), (79, .iload 4, 2), (81, .iload_n 2, 1), (82, .invokevirtual 211, 3), (85, .ifCond .eq 6, 3), (88, .iload 4, 2), (90, .ireturn, 1), (91, .iinc 4 1, 3), (94, .goto (-45), 3), (97, .iconst (-1), 1), (98, .ireturn, 1)]
def pmk103 : List (Nat × Instr × Nat) := [(0, .iload_n 1, 1), (1, .iconst 0, 1), (2, .bipush 12, 2), (4, .invokestatic 127, 3), (7, .ifCond .ne 7, 3), (10, .sipush (-1002), 3), (13, .ireturn, 1), (14, .iload_n 1, 1), (15, .tableswitch 206 0 11 #[61, 66, 74, 86, 94, 102, 117, 136, 174, 182, 190, 198], 61), (76, .aload_n 0, 1), (77, .getfield 81, 3), (80, .ireturn, 1), (81, .aload_n 0, 1), (82, .getfield 10, 3), (85, .getfield 214, 3), (88, .ireturn, 1), (89, .aload_n 0, 1), (90, .getfield 10, 3), (93, .aload_n 0, 1), (94, .getfield 81, 3), (97, .invokevirtual 215, 3), (100, .ireturn, 1), (101, .aload_n 0, 1), (102, .getfield 19, 3), (105, .getfield 219, 3), (108, .ireturn, 1), (109, .aload_n 0, 1), (110, .getfield 26, 3), (113, .getfield 208, 3), (116, .ireturn, 1), (117, .aload_n 0, 1), (118, .getfield 77, 3), (121, .invokevirtual 187, 3), (124, .aload_n 0, 1), (125, .getfield 77, 3), (128, .invokevirtual 220, 3), (131, .ireturn, 1), (132, .aload_n 0, 1), (133, .getfield 77, 3), (136, .aload_n 0, 1), (137, .getfield 81, 3), (140, .invokevirtual 137, 3), (143, .aload_n 0, 1), (144, .getfield 77, 3), (147, .invokevirtual 224, 3), (150, .ireturn, 1), (151, .aload_n 0, 1), (152, .getfield 77, 3), (155, .aload_n 0, 1), (156, .getfield 81, 3), (159, .invokevirtual 137, 3), (162, .aload_n 0, 1), (163, .getfield 47, 3), (166, .aload_n 0, 1), (167, .getfield 40, 3), (170, .aload_n 0, 1), (171, .getfield 81, 3), (174, .invokevirtual 200, 3), (177, .aload_n 0, 1), (178, .getfield 77, 3), (181, .aload_n 0, 1), (182, .getfield 47, 3), (185, .invokevirtual 227, 3), (188, .ireturn, 1), (189, .aload_n 0, 1), (190, .getfield 40, 3), (193, .getfield 231, 3), (196, .ireturn, 1), (197, .aload_n 0, 1), (198, .getfield 33, 3), (201, .getfield 232, 3), (204, .ireturn, 1), (205, .aload_n 0, 1), (206, .getfield 54, 3), (209, .getfield 235, 3), (212, .ireturn, 1), (213, .aload_n 0, 1), (214, .getfield 61, 3), (217, .getfield 236, 3), (220, .ireturn, 1), (221, .aload_n 0, 1), (222, .getfield 68, 3), (225, .getfield 237, 3), (228, .ireturn, 1)]
def pmk104 : List (Nat × Instr × Nat) := [(0, .iload_n 1, 1), (1, .iconst 1, 1), (2, .bipush 8, 2), (4, .invokestatic 127, 3), (7, .ifCond .ne 7, 3), (10, .sipush (-1002), 3), (13, .ireturn, 1), (14, .aload_n 0, 1), (15, .getfield 33, 3), (18, .getfield 232, 3), (21, .iload_n 1, 1), (22, .iadd, 1), (23, .sipush 160, 3), (26, .if_icmp .le 7, 3), (29, .sipush (-1004), 3), (32, .ireturn, 1), (33, .iload_n 1, 1), (34, .iconst 1, 1), (35, .isub, 1), (36, .istore 4, 2), (38, .iload 4, 2), (40, .ifCond .lt 28, 3), (43, .aload_n 0, 1), (44, .getfield 33, 3), (47, .lload_n 2, 1), (48, .bipush 8, 2), (50, .iload 4, 2), (52, .imul, 1), (53, .lushr, 1), (54, .l2i, 1), (55, .sipush 255, 3), (58, .iand, 1), (59, .invokevirtual 238, 3), (62, .iinc 4 (-1), 3), (65, .goto (-27), 3), (68, .aload_n 0, 1), (69, .getfield 33, 3), (72, .getfield 232, 3), (75, .ireturn, 1)]
def pmk105 : List (Nat × Instr × Nat) := [(0, .iload_n 1, 1), (1, .iconst 0, 1), (2, .bipush 9, 2), (4, .invokestatic 127, 3), (7, .ifCond .ne 7, 3), (10, .sipush (-1002), 3), (13, .ireturn, 1), (14, .aload_n 0, 1), (15, .getfield 40, 3), (18, .getfield 231, 3), (21, .bipush 8, 2), (23, .if_icmp .lt 7, 3), (26, .sipush (-1004), 3), (29, .ireturn, 1), (30, .aload_n 0, 1), (31, .getfield 77, 3), (34, .invokevirtual 96, 3), (37, .aload_n 0, 1), (38, .getfield 40, 3), (41, .getfield 231, 3), (44, .istore_n 2, 1), (45, .aload_n 0, 1), (46, .getfield 40, 3), (49, .aload_n 0, 1), (50, .getfield 33, 3), (53, .iload_n 1, 1), (54, .invokevirtual 240, 3), (57, .aload_n 0, 1), (58, .iload_n 2, 1), (59, .invokevirtual 244, 3), (62, .ireturn, 1)]
def pmk106 : List (Nat × Instr × Nat) := [(0, .aload_n 0, 1), (1, .getfield 85, 3), (4, .ireturn, 1)]
def pmk107 : List (Nat × Instr × Nat) := [(0, .iload_n 1, 1), (1, .iconst 0, 1), (2, .bipush 9, 2), (4, .invokestatic 127, 3), (7, .ifCond .eq 13, 3), (10, .iload_n 2, 1), (11, .iconst 0, 1), (12, .bipush 9, 2), (14, .invokestatic 127, 3), (17, .ifCond .ne 7, 3), (20, .sipush (-1002), 3), (23, .ireturn, 1), (24, .aload_n 0, 1), (25, .getfield 47, 3), (28, .aload_n 0, 1), (29, .getfield 40, 3), (32, .iload_n 1, 1), (33, .invokevirtual 200, 3), (36, .iload_n 2, 1), (37, .tableswitch 87 0 9 #[55, 87, 87, 87, 87, 87, 87, 63, 71, 79], 55), (92, .aload_n 0, 1), (93, .getfield 47, 3), (96, .getfield 247, 3), (99, .ireturn, 1), (100, .aload_n 0, 1), (101, .getfield 47, 3), (104, .getfield 250, 3), (107, .ireturn, 1), (108, .aload_n 0, 1), (109, .getfield 47, 3), (112, .getfield 253, 3), (115, .ireturn, 1), (116, .aload_n 0, 1), (117, .getfield 47, 3), (120, .getfield 256, 3), (123, .ireturn, 1), (124, .aload_n 0, 1), (125, .getfield 47, 3), (128, .getfield 259, 3), (131, .iload_n 2, 1), (132, .iconst 1, 1), (133, .isub, 1), (134, .iaload, 1), (135, .ireturn, 1)]
def pmk108 : List (Nat × Instr × Nat) := [(0, .aload_n 0, 1), (1, .getfield 10, 3), (4, .iload_n 3, 1), (5, .invokevirtual 88, 3), (8, .ifCond .ne 7, 3), (11, .sipush (-1001), 3), (14, .ireturn, 1), (15, .iload_n 1, 1), (16, .iload_n 2, 1), (17, .invokestatic 262, 3), (20, .ifCond .ne 7, 3), (23, .sipush (-1002), 3), (26, .ireturn, 1), (27, .aload_n 0, 1), (28, .getfield 54, 3), (31, .iload_n 1, 1), (32, .iload_n 2, 1), (33, .invokevirtual 265, 3), (36, .iload_n 3, 1), (37, .lushr, 1), (38, .lconst 1, 1), (39, .land, 1), (40, .lconst 0, 1), (41, .lcmp, 1), (42, .ifCond .eq 7, 3), (45, .sipush (-1003), 3), (48, .ireturn, 1), (49, .aload_n 0, 1), (50, .getfield 54, 3), (53, .iload_n 1, 1), (54, .iload_n 2, 1), (55, .iload_n 3, 1), (56, .invokevirtual 269, 3), (59, .ireturn, 1)]
def pmk109 : List (Nat × Instr × Nat) := [(0, .iload_n 1, 1), (1, .iload_n 2, 1), (2, .invokestatic 262, 3), (5, .ifCond .ne 7, 3), (8, .sipush (-1002), 3), (11, .ireturn, 1), (12, .iconst 2, 1), (13, .aload_n 0, 1), (14, .getfield 54, 3), (17, .iload_n 1, 1), (18, .iload_n 2, 1), (19, .invokevirtual 265, 3), (22, .invokestatic 145, 3), (25, .invokestatic 270, 3), (28, .ireturn, 1)]
def pmk110 : List (Nat × Instr × Nat) := [(0, .aload_n 0, 1), (1, .getfield 33, 3), (4, .getfield 232, 3), (7, .bipush 100, 2), (9, .if_icmp .le 7, 3), (12, .sipush (-1003), 3), (15, .ireturn, 1), (16, .aload_n 0, 1), (17, .getfield 61, 3), (20, .getfield 236, 3), (23, .bipush 8, 2), (25, .if_icmp .lt 7, 3), (28, .sipush (-1004), 3), (31, .ireturn, 1), (32, .aload_n 0, 1), (33, .getfield 61, 3), (36, .getfield 236, 3), (39, .istore_n 1, 1), (40, .aload_n 0, 1), (41, .getfield 61, 3), (44, .aload_n 0, 1), (45, .getfield 33, 3), (48, .invokevirtual 275, 3), (51, .aload_n 0, 1), (52, .iload_n 1, 1), (53, .invokevirtual 244, 3), (56, .ireturn, 1)]
def pmk111 : List (Nat × Instr × Nat) := [(0, .aload_n 0, 1), (1, .getfield 61, 3), (4, .iload_n 1, 1), (5, .invokevirtual 278, 3), (8, .ifCond .ne 7, 3), (11, .sipush (-1001), 3), (14, .ireturn, 1), (15, .aload_n 0, 1), (16, .iload_n 2, 1), (17, .invokevirtual 124, 3), (20, .ifCond .ne 7, 3), (23, .sipush (-1002), 3), (26, .ireturn, 1), (27, .aload_n 0, 1), (28, .getfield 77, 3), (31, .iload_n 2, 1), (32, .invokevirtual 137, 3), (35, .aload_n 0, 1), (36, .iload_n 1, 1), (37, .iload_n 2, 1), (38, .invokevirtual 279, 3), (41, .iload_n 3, 1), (42, .invokestatic 282, 3), (45, .ireturn, 1)]
def pmk112 : List (Nat × Instr × Nat) := [(0, .aload_n 0, 1), (1, .getfield 10, 3), (4, .iload_n 3, 1), (5, .invokevirtual 88, 3), (8, .ifCond .ne 7, 3), (11, .sipush (-1001), 3), (14, .ireturn, 1), (15, .iload_n 1, 1), (16, .invokestatic 158, 3), (19, .ifCond .eq 15, 3), (22, .iload_n 2, 1), (23, .invokestatic 158, 3), (26, .ifCond .eq 8, 3), (29, .iload_n 1, 1), (30, .iload_n 2, 1), (31, .if_icmp .ne 7, 3), (34, .sipush (-1002), 3), (37, .ireturn, 1), (38, .aload_n 0, 1), (39, .iload 4, 2), (41, .invokevirtual 124, 3), (44, .ifCond .eq 13, 3), (47, .iload 5, 2), (49, .iconst 0, 1), (50, .iconst 4, 1), (51, .invokestatic 127, 3), (54, .ifCond .ne 7, 3), (57, .sipush (-1002), 3), (60, .ireturn, 1), (61, .aload_n 0, 1), (62, .getfield 77, 3), (65, .iload 4, 2), (67, .invokevirtual 137, 3), (70, .aload_n 0, 1), (71, .getfield 26, 3), (74, .iload_n 1, 1), (75, .iload 4, 2), (77, .invokevirtual 286, 3), (80, .aload_n 0, 1), (81, .getfield 26, 3), (84, .iload_n 2, 1), (85, .iload 4, 2), (87, .invokevirtual 286, 3), (90, .land, 1), (91, .lstore 6, 2), (93, .aload_n 0, 1), (94, .getfield 77, 3), (97, .iload_n 1, 1), (98, .iload_n 3, 1), (99, .invokevirtual 289, 3), (102, .lload 6, 2), (104, .land, 1), (105, .lstore 8, 2), (107, .aload_n 0, 1), (108, .getfield 77, 3), (111, .iload_n 2, 1), (112, .iload_n 3, 1), (113, .invokevirtual 289, 3), (116, .lload 6, 2), (118, .land, 1), (119, .lstore 10, 2), (121, .iload 5, 2), (123, .tableswitch 56 0 3 #[29, 35, 41, 47], 29), (152, .lload 6, 2), (154, .invokestatic 145, 3), (157, .ireturn, 1), (158, .lload 8, 2), (160, .invokestatic 145, 3), (163, .ireturn, 1), (164, .lload 10, 2), (166, .invokestatic 145, 3), (169, .ireturn, 1), (170, .lload 8, 2), (172, .lload 10, 2), (174, .land, 1), (175, .invokestatic 145, 3), (178, .ireturn, 1), (179, .lload 8, 2), (181, .lload 10, 2), (183, .invokestatic 292, 3), (186, .ireturn, 1)]
def pmk113 : List (Nat × Instr × Nat) := [(0, .aload_n 0, 1), (1, .getfield 10, 3), (4, .iload_n 1, 1), (5, .invokevirtual 88, 3), (8, .ifCond .eq 14, 3), (11, .aload_n 0, 1), (12, .getfield 10, 3), (15, .iload_n 2, 1), (16, .invokevirtual 88, 3), (19, .ifCond .ne 7, 3), (22, .sipush (-1001), 3), (25, .ireturn, 1), (26, .aload_n 0, 1), (27, .iload_n 3, 1), (28, .invokevirtual 124, 3), (31, .ifCond .eq 13, 3), (34, .iload 6, 2), (36, .iconst 0, 1), (37, .iconst 4, 1), (38, .invokestatic 127, 3), (41, .ifCond .ne 7, 3), (44, .sipush (-1002), 3), (47, .ireturn, 1), (48, .iload 4, 2), (50, .invokestatic 152, 3), (53, .ifCond .eq 18, 3), (56, .iload 5, 2), (58, .invokestatic 152, 3), (61, .ifCond .eq 10, 3), (64, .iload 5, 2), (66, .iload 4, 2), (68, .if_icmp .ge 7, 3), (71, .sipush (-1002), 3), (74, .ireturn, 1), (75, .aload_n 0, 1), (76, .getfield 77, 3), (79, .iload_n 3, 1), (80, .invokevirtual 137, 3), (83, .aload_n 0, 1), (84, .getfield 19, 3), (87, .iload 4, 2), (89, .iload 5, 2), (91, .invokevirtual 296, 3), (94, .lstore 7, 2), (96, .aload_n 0, 1), (97, .getfield 77, 3), (100, .iload_n 1, 1), (101, .invokevirtual 141, 3), (104, .lload 7, 2), (106, .land, 1), (107, .lstore 9, 2), (109, .aload_n 0, 1), (110, .getfield 77, 3), (113, .iload_n 2, 1), (114, .invokevirtual 141, 3), (117, .lload 7, 2), (119, .land, 1), (120, .lstore 11, 2), (122, .iload 6, 2), (124, .tableswitch 59 0 3 #[32, 38, 44, 53], 32), (156, .lload 9, 2), (158, .invokestatic 145, 3), (161, .ireturn, 1), (162, .lload 11, 2), (164, .invokestatic 145, 3), (167, .ireturn, 1), (168, .lload 9, 2), (170, .lload 11, 2), (172, .land, 1), (173, .invokestatic 145, 3), (176, .ireturn, 1), (177, .lload 7, 2), (179, .invokestatic 145, 3), (182, .ireturn, 1), (183, .lload 9, 2), (185, .lload 11, 2), (187, .lload 7, 2), (189, .invokestatic 145, 3), (192, .invokestatic 299, 3), (195, .invokestatic 130, 3), (198, .ireturn, 1)]
def pmk114 : List (Nat × Instr × Nat) := [(0, .aload_n 0, 1), (1, .getfield 10, 3), (4, .iload_n 1, 1), (5, .invokevirtual 88, 3), (8, .ifCond .ne 7, 3), (11, .sipush (-1001), 3), (14, .ireturn, 1), (15, .aload_n 0, 1), (16, .iload_n 2, 1), (17, .invokevirtual 124, 3), (20, .ifCond .ne 7, 3), (23, .sipush (-1002), 3), (26, .ireturn, 1), (27, .aload_n 0, 1), (28, .getfield 77, 3), (31, .iload_n 2, 1), (32, .invokevirtual 137, 3), (35, .aload_n 0, 1), (36, .iload_n 1, 1), (37, .iload_n 2, 1), (38, .invokevirtual 303, 3), (41, .iload_n 3, 1), (42, .invokestatic 282, 3), (45, .ireturn, 1)]
def pmk115 : List (Nat × Instr × Nat) := [(0, .aload_n 0, 1), (1, .getfield 10, 3), (4, .iload_n 1, 1), (5, .invokevirtual 88, 3), (8, .ifCond .ne 7, 3), (11, .sipush (-1001), 3), (14, .ireturn, 1), (15, .aload_n 0, 1), (16, .iload_n 2, 1), (17, .invokevirtual 124, 3), (20, .ifCond .ne 7, 3), (23, .sipush (-1002), 3), (26, .ireturn, 1), (27, .aload_n 0, 1), (28, .getfield 77, 3), (31, .iload_n 2, 1), (32, .invokevirtual 137, 3), (35, .aload_n 0, 1), (36, .iload_n 1, 1), (37, .iload_n 2, 1), (38, .invokevirtual 303, 3), (41, .lstore 4, 2), (43, .iconst 0, 1), (44, .istore 6, 2), (46, .lload 4, 2), (48, .invokestatic 145, 3), (51, .istore 7, 2), (53, .iload 7, 2), (55, .ifCond .le 79, 3), (58, .iconst 0, 1), (59, .istore 8, 2), (61, .iload 8, 2), (63, .aload_n 0, 1), (64, .getfield 19, 3), (67, .getfield 219, 3), (70, .if_icmp .ge 58, 3), (73, .aload_n 0, 1), (74, .getfield 77, 3), (77, .iload 8, 2), (79, .iload_n 1, 1), (80, .invokevirtual 306, 3), (83, .ifCond .ne 39, 3), (86, .aload_n 0, 1), (87, .getfield 77, 3), (90, .getfield 309, 3), (93, .iload 8, 2), (95, .laload, 1), (96, .lload 4, 2), (98, .land, 1), (99, .invokestatic 145, 3), (102, .iload 7, 2), (104, .if_icmp .eq 6, 3), (107, .goto 15, 3), (110, .iload 6, 2), (112, .iload_n 3, 1), (113, .if_icmp .ne 6, 3), (116, .iload 8, 2), (118, .ireturn, 1), (119, .iinc 6 1, 3), (122, .iinc 8 1, 3), (125, .goto (-64), 3), (128, .iinc 7 (-1), 3), (131, .goto (-78), 3), (134, .iload_n 3, 1), (135, .iconst (-1), 1), (136, .if_icmp .ne 8, 3), (139, .iload 6, 2), (141, .goto 4, 3), (144, .iconst (-1), 1), (145, .ireturn, 1)]
def pmk116 : List (Nat × Instr × Nat) := [(0, .aload_n 0, 1), (1, .getfield 19, 3), (4, .iload_n 1, 1), (5, .invokevirtual 151, 3), (8, .ifCond .ne 7, 3), (11, .ldc2_w 313, 3), (14, .lreturn, 1), (15, .aload_n 0, 1), (16, .iload_n 2, 1), (17, .invokevirtual 124, 3), (20, .ifCond .ne 7, 3), (23, .ldc2_w 315, 3), (26, .lreturn, 1), (27, .aload_n 0, 1), (28, .getfield 77, 3), (31, .iload_n 2, 1), (32, .invokevirtual 137, 3), (35, .lconst 0, 1), (36, .lstore_n 3, 1), (37, .iconst 0, 1), (38, .istore 5, 2), (40, .iload 5, 2), (42, .aload_n 0, 1), (43, .getfield 26, 3), (46, .getfield 208, 3), (49, .if_icmp .ge 81, 3), (52, .aload_n 0, 1), (53, .getfield 26, 3), (56, .getfield 175, 3), (59, .iload 5, 2), (61, .iaload, 1), (62, .istore 6, 2), (64, .iload 6, 2), (66, .iload_n 1, 1), (67, .if_icmp .eq 57, 3), (70, .aload_n 0, 1), (71, .getfield 19, 3), (74, .getfield 317, 3), (77, .iload 6, 2), (79, .iaload, 1), (80, .aload_n 0, 1), (81, .getfield 19, 3), (84, .getfield 317, 3), (87, .iload_n 1, 1), (88, .iaload, 1), (89, .if_icmp .eq 6, 3), (92, .goto 32, 3), (95, .aload_n 0, 1), (96, .getfield 77, 3), (99, .getfield 193, 3), (102, .iload 5, 2), (104, .iaload, 1), (105, .iconst (-1), 1), (106, .if_icmp .eq 18, 3), (109, .lload_n 3, 1), (110, .lconst 1, 1), (111, .aload_n 0, 1), (112, .getfield 77, 3), (115, .getfield 193, 3), (118, .iload 5, 2), (120, .iaload, 1), (121, .lshl, 1), (122, .lor, 1), (123, .lstore_n 3, 1), (124, .iinc 5 1, 3), (127, .goto (-87), 3), (130, .lload_n 3, 1), (131, .aload_n 0, 1), (132, .getfield 77, 3), (135, .getfield 309, 3), (138, .iload_n 1, 1), (139, .laload, 1), (140, .ldc2_w 320, 3), (143, .lxor, 1), (144, .land, 1), (145, .lreturn, 1)]
def pmk117 : List (Nat × Instr × Nat) := [(0, .aload_n 0, 1), (1, .getfield 68, 3), (4, .invokevirtual 322, 3), (7, .ireturn, 1)]
def pmk118 : List (Nat × Instr × Nat) := [(0, .aload_n 0, 1), (1, .getfield 68, 3), (4, .iload_n 1, 1), (5, .invokevirtual 324, 3), (8, .ifCond .eq 14, 3), (11, .aload_n 0, 1), (12, .getfield 10, 3), (15, .iload_n 3, 1), (16, .invokevirtual 88, 3), (19, .ifCond .ne 7, 3), (22, .sipush (-1001), 3), (25, .ireturn, 1), (26, .iload_n 2, 1), (27, .iconst 0, 1), (28, .aload_n 0, 1), (29, .getfield 68, 3), (32, .getfield 325, 3), (35, .iload_n 1, 1), (36, .iaload, 1), (37, .invokestatic 127, 3), (40, .ifCond .ne 7, 3), (43, .sipush (-1002), 3), (46, .ireturn, 1), (47, .aload_n 0, 1), (48, .getfield 68, 3), (51, .iload_n 1, 1), (52, .iload_n 2, 1), (53, .iload_n 3, 1), (54, .invokevirtual 328, 3), (57, .ireturn, 1)]
def pmk119 : List (Nat × Instr × Nat) := [(0, .aload_n 0, 1), (1, .getfield 19, 3), (4, .iload_n 1, 1), (5, .invokevirtual 151, 3), (8, .ifCond .eq 14, 3), (11, .aload_n 0, 1), (12, .getfield 68, 3), (15, .iload_n 2, 1), (16, .invokevirtual 324, 3), (19, .ifCond .ne 7, 3), (22, .sipush (-1001), 3), (25, .ireturn, 1), (26, .aload_n 0, 1), (27, .iload_n 3, 1), (28, .invokevirtual 124, 3), (31, .ifCond .eq 13, 3), (34, .iload 4, 2), (36, .iconst 0, 1), (37, .iconst 2, 1), (38, .invokestatic 127, 3), (41, .ifCond .ne 7, 3), (44, .sipush (-1002), 3), (47, .ireturn, 1), (48, .aload_n 0, 1), (49, .getfield 77, 3), (52, .iload_n 3, 1), (53, .invokevirtual 137, 3), (56, .iconst 0, 1), (57, .istore 5, 2), (59, .iconst (-1), 1), (60, .istore 6, 2), (62, .aload_n 0, 1), (63, .getfield 68, 3), (66, .getfield 325, 3), (69, .iload_n 2, 1), (70, .iaload, 1), (71, .iconst 1, 1), (72, .isub, 1), (73, .istore 7, 2), (75, .iload 7, 2), (77, .ifCond .lt 50, 3), (80, .aload_n 0, 1), (81, .getfield 68, 3), (84, .getfield 331, 3), (87, .iload_n 2, 1), (88, .aaload, 1), (89, .iload 7, 2), (91, .laload, 1), (92, .aload_n 0, 1), (93, .getfield 77, 3), (96, .getfield 309, 3), (99, .iload_n 1, 1), (100, .laload, 1), (101, .ldc2_w 320, 3), (104, .lxor, 1), (105, .land, 1), (106, .lconst 0, 1), (107, .lcmp, 1), (108, .ifCond .eq 6, 3), (111, .goto 10, 3), (114, .iinc 5 1, 3), (117, .iload 7, 2), (119, .istore 6, 2), (121, .iinc 7 (-1), 3), (124, .goto (-49), 3), (127, .iload 4, 2), (129, .lookupswitch 33 #[(0, 27), (1, 30)], 27), (156, .iload 5, 2), (158, .ireturn, 1), (159, .iload 6, 2), (161, .ireturn, 1), (162, .iload 5, 2), (164, .iconst 1, 1), (165, .if_icmp .ne 7, 3), (168, .iconst 1, 1), (169, .goto 4, 3), (172, .iconst 0, 1), (173, .invokestatic 130, 3), (176, .ireturn, 1)]
def pmk120 : List (Nat × Instr × Nat) := [(0, .aload_n 0, 1), (1, .getfield 10, 3), (4, .iload_n 1, 1), (5, .invokevirtual 88, 3), (8, .ifCond .ne 7, 3), (11, .sipush (-1001), 3), (14, .ireturn, 1), (15, .aload_n 0, 1), (16, .iload_n 2, 1), (17, .invokevirtual 124, 3), (20, .ifCond .eq 12, 3), (23, .iload_n 3, 1), (24, .iconst 0, 1), (25, .iconst 1, 1), (26, .invokestatic 127, 3), (29, .ifCond .ne 7, 3), (32, .sipush (-1002), 3), (35, .ireturn, 1), (36, .aload_n 0, 1), (37, .getfield 77, 3), (40, .iload_n 2, 1), (41, .invokevirtual 137, 3), (44, .aload_n 0, 1), (45, .getfield 77, 3), (48, .iload_n 1, 1), (49, .invokevirtual 141, 3), (52, .lstore 4, 2), (54, .iconst (-1), 1), (55, .istore 6, 2), (57, .iconst (-1), 1), (58, .istore 7, 2), (60, .iconst 0, 1), (61, .istore 8, 2), (63, .iload 8, 2), (65, .aload_n 0, 1), (66, .getfield 10, 3), (69, .getfield 214, 3), (72, .if_icmp .ge 76, 3), (75, .aload_n 0, 1), (76, .iload 8, 2), (78, .iload_n 1, 1), (79, .iload_n 2, 1), (80, .invokevirtual 335, 3), (83, .ifCond .ne 6, 3), (86, .goto 56, 3), (89, .lload 4, 2), (91, .aload_n 0, 1), (92, .getfield 77, 3), (95, .iload 8, 2), (97, .invokevirtual 141, 3), (100, .land, 1), (101, .invokestatic 145, 3), (104, .istore 9, 2), (106, .iload 9, 2), (108, .lload 4, 2), (110, .invokestatic 145, 3), (113, .iload 9, 2), (115, .isub, 1), (116, .invokestatic 338, 3), (119, .istore 10, 2), (121, .iload 6, 2), (123, .iconst (-1), 1), (124, .if_icmp .eq 10, 3), (127, .iload 10, 2), (129, .iload 7, 2), (131, .if_icmp .ge 11, 3), (134, .iload 8, 2), (136, .istore 6, 2), (138, .iload 10, 2), (140, .istore 7, 2), (142, .iinc 8 1, 3), (145, .goto (-82), 3), (148, .iload_n 3, 1), (149, .ifCond .ne 8, 3), (152, .iload 6, 2), (154, .goto 5, 3), (157, .iload 7, 2), (159, .ireturn, 1)]
def pmk121 : List (Nat × Instr × Nat) := [(0, .iload_n 0, 1), (1, .iload_n 1, 1), (2, .if_icmp .lt 12, 3), (5, .iload_n 0, 1), (6, .iload_n 2, 1), (7, .if_icmp .gt 7, 3), (10, .iconst 1, 1), (11, .goto 4, 3), (14, .iconst 0, 1), (15, .ireturn, 1)]
def pmk122 : List (Nat × Instr × Nat) := [(0, .iload_n 0, 1), (1, .iconst 0, 1), (2, .sipush 999, 3), (5, .invokestatic 127, 3), (8, .ireturn, 1)]
def pmk123 : List (Nat × Instr × Nat) := [(0, .iload_n 0, 1), (1, .iconst 0, 1), (2, .bipush 7, 2), (4, .invokestatic 127, 3), (7, .ireturn, 1)]
def pmk124 : List (Nat × Instr × Nat) := [(0, .iload_n 0, 1), (1, .iconst 0, 1), (2, .iconst 3, 1), (3, .invokestatic 127, 3), (6, .ifCond .eq 17, 3), (9, .iload_n 1, 1), (10, .iconst 0, 1), (11, .bipush 99, 2), (13, .invokestatic 127, 3), (16, .ifCond .eq 7, 3), (19, .iconst 1, 1), (20, .goto 4, 3), (23, .iconst 0, 1), (24, .ireturn, 1)]
def pmk125 : List (Nat × Instr × Nat) := [(0, .iload_n 1, 1), (1, .iconst 0, 1), (2, .aload_n 0, 1), (3, .getfield 81, 3), (6, .invokestatic 127, 3), (9, .ireturn, 1)]
def pmk126 : List (Nat × Instr × Nat) := [(0, .iload_n 0, 1), (1, .ifCond .eq 7, 3), (4, .iconst 1, 1), (5, .goto 4, 3), (8, .iconst 0, 1), (9, .ireturn, 1)]
def pmk127 : List (Nat × Instr × Nat) := [(0, .iload_n 2, 1), (1, .iconst (-1), 1), (2, .if_icmp .ne 8, 3), (5, .lload_n 0, 1), (6, .invokestatic 145, 3), (9, .ireturn, 1), (10, .iconst 0, 1), (11, .istore_n 3, 1), (12, .iconst 0, 1), (13, .istore 4, 2), (15, .iload 4, 2), (17, .bipush 40, 2), (19, .if_icmp .ge 34, 3), (22, .lload_n 0, 1), (23, .iload 4, 2), (25, .lushr, 1), (26, .lconst 1, 1), (27, .land, 1), (28, .lconst 0, 1), (29, .lcmp, 1), (30, .ifCond .ne 6, 3), (33, .goto 14, 3), (36, .iload_n 3, 1), (37, .iload_n 2, 1), (38, .if_icmp .ne 6, 3), (41, .iload 4, 2), (43, .ireturn, 1), (44, .iinc 3 1, 3), (47, .iinc 4 1, 3), (50, .goto (-35), 3), (53, .iconst (-1), 1), (54, .ireturn, 1)]
def pmk128 : List (Nat × Instr × Nat) := [(0, .aload_n 0, 1), (1, .getfield 33, 3), (4, .getfield 341, 3), (7, .ifCond .ne 7, 3), (10, .iconst 1, 1), (11, .goto 4, 3), (14, .iconst 0, 1), (15, .istore_n 2, 1), (16, .aload_n 0, 1), (17, .iload_n 2, 1), (18, .ifCond .eq 7, 3), (21, .iconst (-1), 1), (22, .goto 10, 3), (25, .aload_n 0, 1), (26, .getfield 33, 3), (29, .getfield 344, 3), (32, .putfield 85, 3), (35, .aload_n 0, 1), (36, .getfield 33, 3), (39, .iconst 0, 1), (40, .putfield 232, 3), (43, .iload_n 2, 1), (44, .ifCond .eq 7, 3), (47, .iload_n 1, 1), (48, .goto 13, 3), (51, .bipush (-10), 2), (53, .aload_n 0, 1), (54, .getfield 33, 3), (57, .getfield 341, 3), (60, .isub, 1), (61, .ireturn, 1)]
def pmk129 : List (Nat × Instr × Nat) := [(0, .lload_n 0, 1), (1, .lload_n 2, 1), (2, .land, 1), (3, .invokestatic 145, 3), (6, .istore 4, 2), (8, .iload 4, 2), (10, .ifCond .ne 5, 3), (13, .iconst (-1), 1), (14, .ireturn, 1), (15, .lload_n 0, 1), (16, .lload_n 2, 1), (17, .ldc2_w 320, 3), (20, .lxor, 1), (21, .land, 1), (22, .invokestatic 145, 3), (25, .lload_n 2, 1), (26, .lload_n 0, 1), (27, .ldc2_w 320, 3), (30, .lxor, 1), (31, .land, 1), (32, .invokestatic 145, 3), (35, .imul, 1), (36, .iload 4, 2), (38, .idiv, 1), (39, .ireturn, 1)]
def pmk130 : List (Nat × Instr × Nat) := [(0, .lload_n 0, 1), (1, .lload_n 2, 1), (2, .land, 1), (3, .invokestatic 145, 3), (6, .iload 4, 2), (8, .imul, 1), (9, .lload_n 0, 1), (10, .invokestatic 145, 3), (13, .lload_n 2, 1), (14, .invokestatic 145, 3), (17, .imul, 1), (18, .if_icmp .le 7, 3), (21, .iconst 1, 1), (22, .goto 4, 3), (25, .iconst 0, 1), (26, .ireturn, 1)]
def pmk131 : List (Nat × Instr × Nat) := [(0, .aload_n 0, 1), (1, .getfield 10, 3), (4, .iload_n 1, 1), (5, .iload_n 3, 1), (6, .invokevirtual 92, 3), (9, .ifCond .eq 33, 3), (12, .aload_n 0, 1), (13, .getfield 10, 3), (16, .iload_n 1, 1), (17, .iload_n 2, 1), (18, .iload_n 3, 1), (19, .invokevirtual 103, 3), (22, .ifCond .ne 20, 3), (25, .aload_n 0, 1), (26, .getfield 10, 3), (29, .iload_n 2, 1), (30, .iload_n 1, 1), (31, .iload_n 3, 1), (32, .invokevirtual 103, 3), (35, .ifCond .ne 7, 3), (38, .iconst 1, 1), (39, .goto 4, 3), (42, .iconst 0, 1), (43, .ireturn, 1)]
def pmk132 : List (Nat × Instr × Nat) := [(0, .aload_n 0, 1), (1, .getfield 77, 3), (4, .iload_n 1, 1), (5, .invokevirtual 141, 3), (8, .lstore_n 3, 1), (9, .lconst 0, 1), (10, .lstore 5, 2), (12, .iconst 0, 1), (13, .istore 7, 2), (15, .iload 7, 2), (17, .aload_n 0, 1), (18, .getfield 10, 3), (21, .getfield 214, 3), (24, .if_icmp .ge 55, 3), (27, .aload_n 0, 1), (28, .iload 7, 2), (30, .iload_n 1, 1), (31, .iload_n 2, 1), (32, .invokevirtual 335, 3), (35, .ifCond .ne 6, 3), (38, .goto 35, 3), (41, .lload_n 3, 1), (42, .aload_n 0, 1), (43, .getfield 77, 3), (46, .iload 7, 2), (48, .invokevirtual 141, 3), (51, .aload_n 0, 1), (52, .getfield 19, 3), (55, .getfield 219, 3), (58, .invokestatic 299, 3), (61, .ifCond .eq 12, 3), (64, .lload 5, 2), (66, .lconst 1, 1), (67, .iload 7, 2), (69, .lshl, 1), (70, .lor, 1), (71, .lstore 5, 2), (73, .iinc 7 1, 3), (76, .goto (-61), 3), (79, .lload 5, 2), (81, .lreturn, 1)]
def pmk133 : List (Nat × Instr × Nat) := [(0, .aload_n 0, 1), (1, .getfield 61, 3), (4, .getfield 345, 3), (7, .astore_n 3, 1), (8, .iconst 0, 1), (9, .istore 4, 2), (11, .iconst 0, 1), (12, .istore 5, 2), (14, .iload 5, 2), (16, .aload_n 0, 1), (17, .getfield 61, 3), (20, .getfield 348, 3), (23, .iload_n 1, 1), (24, .iaload, 1), (25, .if_icmp .ge 163, 3), (28, .iload 4, 2), (30, .aload_n 3, 1), (31, .arraylength, 1), (32, .if_icmp .ge 156, 3), (35, .aload_n 0, 1), (36, .getfield 61, 3), (39, .getfield 351, 3), (42, .iload_n 1, 1), (43, .aaload, 1), (44, .iload 5, 2), (46, .iaload, 1), (47, .sipush 1000, 3), (50, .idiv, 1), (51, .istore 6, 2), (53, .iload 6, 2), (55, .bipush 6, 2), (57, .if_icmp .ge 36, 3), (60, .aload_n 3, 1), (61, .iload 4, 2), (63, .iinc 4 1, 3), (66, .aload_n 0, 1), (67, .iload 6, 2), (69, .aload_n 0, 1), (70, .getfield 61, 3), (73, .getfield 351, 3), (76, .iload_n 1, 1), (77, .aaload, 1), (78, .iload 5, 2), (80, .iaload, 1), (81, .sipush 1000, 3), (84, .irem, 1), (85, .iload_n 2, 1), (86, .invokevirtual 354, 3), (89, .lastore, 1), (90, .goto 92, 3), (93, .iload 6, 2), (95, .bipush 9, 2), (97, .if_icmp .ne 36, 3), (100, .iload 4, 2), (102, .iconst 1, 1), (103, .if_icmp .lt 30, 3), (106, .aload_n 3, 1), (107, .iload 4, 2), (109, .iconst 1, 1), (110, .isub, 1), (111, .aload_n 0, 1), (112, .getfield 19, 3), (115, .invokevirtual 358, 3), (118, .aload_n 3, 1), (119, .iload 4, 2), (121, .iconst 1, 1), (122, .isub, 1), (123, .laload, 1), (124, .ldc2_w 320, 3), (127, .lxor, 1), (128, .land, 1), (129, .lastore, 1), (130, .goto 52, 3), (133, .iload 4, 2), (135, .iconst 2, 1), (136, .if_icmp .lt 46, 3), (139, .iinc 4 (-1), 3), (142, .aload_n 3, 1), (143, .iload 4, 2), (145, .laload, 1), (146, .lstore 7, 2), (148, .aload_n 3, 1), (149, .iload 4, 2), (151, .iconst 1, 1), (152, .isub, 1), (153, .iload 6, 2), (155, .bipush 8, 2), (157, .if_icmp .ne 15, 3), (160, .aload_n 3, 1), (161, .iload 4, 2), (163, .iconst 1, 1), (164, .isub, 1), (165, .laload, 1), (166, .lload 7, 2), (168, .land, 1), (169, .goto 12, 3), (172, .aload_n 3, 1), (173, .iload 4, 2), (175, .iconst 1, 1), (176, .isub, 1), (177, .laload, 1), (178, .lload 7, 2), (180, .lor, 1), (181, .lastore, 1), (182, .iinc 5 1, 3), (185, .goto (-171), 3), (188, .iload 4, 2), (190, .iconst 1, 1), (191, .if_icmp .ne 9, 3), (194, .aload_n 3, 1), (195, .iconst 0, 1), (196, .laload, 1), (197, .goto 4, 3), (200, .lconst 0, 1), (201, .lreturn, 1)]
def pmk134 : List (Nat × Instr × Nat) := [(0, .iload_n 1, 1), (1, .tableswitch 85 1 4 #[31, 40, 63, 73], 31), (32, .aload_n 0, 1), (33, .getfield 77, 3), (36, .iload_n 2, 1), (37, .invokevirtual 141, 3), (40, .lreturn, 1), (41, .aload_n 0, 1), (42, .getfield 77, 3), (45, .aload_n 0, 1), (46, .getfield 54, 3), (49, .iload_n 2, 1), (50, .bipush 100, 2), (52, .idiv, 1), (53, .iload_n 2, 1), (54, .bipush 100, 2), (56, .irem, 1), (57, .invokevirtual 265, 3), (60, .invokevirtual 362, 3), (63, .lreturn, 1), (64, .aload_n 0, 1), (65, .getfield 26, 3), (68, .iload_n 2, 1), (69, .iload_n 3, 1), (70, .invokevirtual 286, 3), (73, .lreturn, 1), (74, .aload_n 0, 1), (75, .getfield 19, 3), (78, .iconst 0, 1), (79, .iload_n 2, 1), (80, .iconst 1, 1), (81, .isub, 1), (82, .invokevirtual 296, 3), (85, .lreturn, 1), (86, .aload_n 0, 1), (87, .getfield 19, 3), (90, .iload_n 2, 1), (91, .invokevirtual 366, 3), (94, .lreturn, 1)]
def pmk135 : List (Nat × Instr × Nat) := [(0, .aload_n 0, 1), (1, .invokespecial 1, 3), (4, .aload_n 0, 1), (5, .bipush 40, 2), (7, .newarray .int, 2), (9, .putfield 7, 3), (12, .aload_n 0, 1), (13, .bipush 40, 2), (15, .newarray .int, 2), (17, .putfield 13, 3), (20, .aload_n 0, 1), (21, .bipush 40, 2), (23, .newarray .int, 2), (25, .putfield 16, 3), (28, .aload_n 0, 1), (29, .sipush 400, 3), (32, .newarray .int, 2), (34, .putfield 19, 3), (37, .aload_n 0, 1), (38, .bipush 40, 2), (40, .newarray .int, 2), (42, .putfield 22, 3), (45, .aload_n 0, 1), (46, .bipush 40, 2), (48, .newarray .int, 2), (50, .putfield 25, 3), (53, .aload_n 0, 1), (54, .bipush 40, 2), (56, .newarray .int, 2), (58, .putfield 28, 3), (61, .aload_n 0, 1), (62, .bipush 120, 2), (64, .newarray .int, 2), (66, .putfield 31, 3), (69, .aload_n 0, 1), (70, .bipush 120, 2), (72, .newarray .int, 2), (74, .putfield 34, 3), (77, .aload_n 0, 1), (78, .bipush 120, 2), (80, .newarray .int, 2), (82, .putfield 37, 3), (85, .aload_n 0, 1), (86, .bipush 120, 2), (88, .newarray .int, 2), (90, .putfield 40, 3), (93, .aload_n 0, 1), (94, .bipush 120, 2), (96, .newarray .int, 2), (98, .putfield 43, 3), (101, .aload_n 0, 1), (102, .sipush 960, 3), (105, .newarray .int, 2), (107, .putfield 46, 3), (110, .aload_n 0, 1), (111, .bipush 8, 2), (113, .newarray .int, 2), (115, .putfield 49, 3), (118, .aload_n 0, 1), (119, .bipush 9, 2), (121, .newarray .int, 2), (123, .putfield 52, 3), (126, .aload_n 0, 1), (127, .bipush 72, 2), (129, .newarray .int, 2), (131, .putfield 55, 3), (134, .aload_n 0, 1), (135, .bipush 72, 2), (137, .newarray .int, 2), (139, .putfield 58, 3), (142, .aload_n 0, 1), (143, .bipush 72, 2), (145, .newarray .int, 2), (147, .putfield 61, 3), (150, .aload_n 0, 1), (151, .bipush 8, 2), (153, .newarray .boolean, 2), (155, .putfield 64, 3), (158, .aload_n 0, 1), (159, .bipush 6, 2), (161, .newarray .int, 2), (163, .putfield 68, 3), (166, .aload_n 0, 1), (167, .bipush 120, 2), (169, .newarray .int, 2), (171, .putfield 71, 3), (174, .aload_n 0, 1), (175, .bipush 120, 2), (177, .newarray .boolean, 2), (179, .putfield 74, 3), (182, .aload_n 0, 1), (183, .bipush 120, 2), (185, .newarray .int, 2), (187, .putfield 77, 3), (190, .aload_n 0, 1), (191, .bipush 120, 2), (193, .newarray .int, 2), (195, .putfield 80, 3), (198, .aload_n 0, 1), (199, .bipush 120, 2), (201, .newarray .boolean, 2), (203, .putfield 83, 3), (206, .aload_n 0, 1), (207, .bipush 40, 2), (209, .newarray .long, 2), (211, .putfield 86, 3), (214, .aload_n 0, 1), (215, .sipush 160, 3), (218, .newarray .int, 2), (220, .putfield 90, 3), (223, .aload_n 0, 1), (224, .iconst (-1), 1), (225, .putfield 93, 3), (228, .aload_n 0, 1), (229, .bipush 60, 2), (231, .newarray .int, 2), (233, .putfield 97, 3), (236, .aload_n 0, 1), (237, .bipush 60, 2), (239, .newarray .int, 2), (241, .putfield 100, 3), (244, .aload_n 0, 1), (245, .bipush 8, 2), (247, .newarray .int, 2), (249, .putfield 103, 3), (252, .aload_n 0, 1), (253, .sipush 880, 3), (256, .newarray .int, 2), (258, .putfield 106, 3), (261, .aload_n 0, 1), (262, .sipush 880, 3), (265, .newarray .int, 2), (267, .putfield 109, 3), (270, .aload_n 0, 1), (271, .bipush 120, 2), (273, .newarray .int, 2), (275, .putfield 112, 3), (278, .aload_n 0, 1), (279, .bipush 120, 2), (281, .newarray .boolean, 2), (283, .putfield 115, 3), (286, .aload_n 0, 1), (287, .bipush 40, 2), (289, .newarray .int, 2), (291, .putfield 118, 3), (294, .aload_n 0, 1), (295, .iconst 4, 1), (296, .newarray .int, 2), (298, .putfield 121, 3), (301, .aload_n 0, 1), (302, .bipush 20, 2), (304, .newarray .int, 2), (306, .putfield 124, 3), (309, .aload_n 0, 1), (310, .bipush 60, 2), (312, .newarray .int, 2), (314, .putfield 127, 3), (317, .aload_n 0, 1), (318, .iconst (-1), 1), (319, .invokevirtual 130, 3), (322, .return_, 1)]
def pmk136 : List (Nat × Instr × Nat) := [(0, .lload_n 0, 1), (1, .lload_n 2, 1), (2, .lcmp, 1), (3, .ifCond .lt 14, 3), (6, .lload_n 0, 1), (7, .lload 4, 2), (9, .lcmp, 1), (10, .ifCond .gt 7, 3), (13, .iconst 1, 1), (14, .goto 4, 3), (17, .iconst 0, 1), (18, .ireturn, 1)]
def pmk137 : List (Nat × Instr × Nat) := [(0, .iload_n 1, 1), (1, .i2l, 1), (2, .lconst 0, 1), (3, .aload_n 0, 1), (4, .getfield 134, 3), (7, .iconst 1, 1), (8, .isub, 1), (9, .i2l, 1), (10, .invokestatic 137, 3), (13, .ireturn, 1)]
def pmk138 : List (Nat × Instr × Nat) := [(0, .iload_n 1, 1), (1, .i2l, 1), (2, .lconst 0, 1), (3, .aload_n 0, 1), (4, .getfield 141, 3), (7, .i2l, 1), (8, .invokestatic 137, 3), (11, .ireturn, 1)]
def pmk139 : List (Nat × Instr × Nat) := [(0, .aload_n 0, 1), (1, .getfield 7, 3), (4, .aload_n 0, 1), (5, .getfield 134, 3), (8, .aload_n 0, 1), (9, .getfield 141, 3), (12, .iastore, 1), (13, .aload_n 0, 1), (14, .getfield 13, 3), (17, .aload_n 0, 1), (18, .getfield 134, 3), (21, .iconst (-1), 1), (22, .iastore, 1), (23, .aload_n 0, 1), (24, .getfield 16, 3), (27, .aload_n 0, 1), (28, .getfield 134, 3), (31, .iconst (-1), 1), (32, .iastore, 1), (33, .aload_n 0, 1), (34, .dup, 1), (35, .getfield 134, 3), (38, .iconst 1, 1), (39, .iadd, 1), (40, .putfield 134, 3), (43, .aload_n 0, 1), (44, .aload_n 0, 1), (45, .getfield 134, 3), (48, .iconst 1, 1), (49, .isub, 1), (50, .iload_n 1, 1), (51, .invokevirtual 144, 3), (54, .return_, 1)]
def pmk140 : List (Nat × Instr × Nat) := [(0, .aload_n 0, 1), (1, .getfield 141, 3), (4, .istore_n 3, 1), (5, .iload_n 3, 1), (6, .bipush 10, 2), (8, .if_icmp .ge 21, 3), (11, .aload_n 0, 1), (12, .getfield 19, 3), (15, .bipush 10, 2), (17, .iload_n 1, 1), (18, .imul, 1), (19, .iload_n 3, 1), (20, .iadd, 1), (21, .iload_n 2, 1), (22, .iastore, 1), (23, .iinc 3 1, 3), (26, .goto (-21), 3), (29, .return_, 1)]
def pmk141 : List (Nat × Instr × Nat) := [(0, .aload_n 0, 1), (1, .iload_n 1, 1), (2, .invokevirtual 148, 3), (5, .ifCond .eq 17, 3), (8, .aload_n 0, 1), (9, .getfield 7, 3), (12, .iload_n 1, 1), (13, .iaload, 1), (14, .iload_n 2, 1), (15, .if_icmp .gt 7, 3), (18, .iconst 1, 1), (19, .goto 4, 3), (22, .iconst 0, 1), (23, .ireturn, 1)]
def pmk142 : List (Nat × Instr × Nat) := [(0, .aload_n 0, 1), (1, .iload_n 1, 1), (2, .iload_n 2, 1), (3, .invokevirtual 152, 3), (6, .ifCond .eq 26, 3), (9, .aload_n 0, 1), (10, .getfield 13, 3), (13, .iload_n 1, 1), (14, .iaload, 1), (15, .ifCond .lt 13, 3), (18, .aload_n 0, 1), (19, .getfield 13, 3), (22, .iload_n 1, 1), (23, .iaload, 1), (24, .iload_n 2, 1), (25, .if_icmp .le 7, 3), (28, .iconst 1, 1), (29, .goto 4, 3), (32, .iconst 0, 1), (33, .ireturn, 1)]
def pmk143 : List (Nat × Instr × Nat) := [(0, .aload_n 0, 1), (1, .iload_n 1, 1), (2, .iload_n 3, 1), (3, .invokevirtual 152, 3), (6, .ifCond .eq 16, 3), (9, .aload_n 0, 1), (10, .iload_n 2, 1), (11, .iload_n 3, 1), (12, .invokevirtual 152, 3), (15, .ifCond .eq 7, 3), (18, .iload_n 1, 1), (19, .goto 4, 3), (22, .iconst (-1), 1), (23, .istore 4, 2), (25, .iload 4, 2), (27, .ifCond .lt 26, 3), (30, .iload 4, 2), (32, .iload_n 2, 1), (33, .if_icmp .eq 20, 3), (36, .aload_n 0, 1), (37, .getfield 19, 3), (40, .bipush 10, 2), (42, .iload 4, 2), (44, .imul, 1), (45, .iload_n 3, 1), (46, .iadd, 1), (47, .iaload, 1), (48, .istore 4, 2), (50, .goto (-25), 3), (53, .iload 4, 2), (55, .ifCond .lt 7, 3), (58, .iconst 1, 1), (59, .goto 4, 3), (62, .iconst 0, 1), (63, .ireturn, 1)]
def pmk144 : List (Nat × Instr × Nat) := [(0, .iconst 0, 1), (1, .istore_n 3, 1), (2, .iconst 0, 1), (3, .istore 4, 2), (5, .iload 4, 2), (7, .aload_n 0, 1), (8, .getfield 134, 3), (11, .if_icmp .ge 28, 3), (14, .iload_n 3, 1), (15, .aload_n 0, 1), (16, .iload 4, 2), (18, .iload_n 1, 1), (19, .iload_n 2, 1), (20, .invokevirtual 156, 3), (23, .ifCond .eq 7, 3), (26, .iconst 1, 1), (27, .goto 4, 3), (30, .iconst 0, 1), (31, .iadd, 1), (32, .istore_n 3, 1), (33, .iinc 4 1, 3), (36, .goto (-31), 3), (39, .iload_n 3, 1), (40, .ireturn, 1)]
def pmk145 : List (Nat × Instr × Nat) := [(0, .aload_n 0, 1), (1, .getfield 141, 3), (4, .bipush 9, 2), (6, .if_icmp .ne 7, 3), (9, .sipush (-1003), 3), (12, .ireturn, 1), (13, .aload_n 0, 1), (14, .dup, 1), (15, .getfield 141, 3), (18, .iconst 1, 1), (19, .iadd, 1), (20, .putfield 141, 3), (23, .aload_n 0, 1), (24, .getfield 141, 3), (27, .ireturn, 1)]
def pmk146 : List (Nat × Instr × Nat) := [(0, .aload_n 0, 1), (1, .iload_n 1, 1), (2, .invokevirtual 148, 3), (5, .ifCond .ne 7, 3), (8, .sipush (-1001), 3), (11, .ireturn, 1), (12, .aload_n 0, 1), (13, .iload_n 1, 1), (14, .aload_n 0, 1), (15, .getfield 141, 3), (18, .invokevirtual 160, 3), (21, .ifCond .ne 7, 3), (24, .sipush (-1003), 3), (27, .ireturn, 1), (28, .aload_n 0, 1), (29, .getfield 134, 3), (32, .bipush 40, 2), (34, .if_icmp .ne 7, 3), (37, .sipush (-1004), 3), (40, .ireturn, 1), (41, .aload_n 0, 1), (42, .iload_n 1, 1), (43, .invokevirtual 130, 3), (46, .aload_n 0, 1), (47, .getfield 134, 3), (50, .iconst 1, 1), (51, .isub, 1), (52, .ireturn, 1)]
def pmk147 : List (Nat × Instr × Nat) := [(0, .aload_n 0, 1), (1, .iload_n 1, 1), (2, .invokevirtual 148, 3), (5, .ifCond .eq 11, 3), (8, .aload_n 0, 1), (9, .iload_n 2, 1), (10, .invokevirtual 148, 3), (13, .ifCond .ne 7, 3), (16, .sipush (-1001), 3), (19, .ireturn, 1), (20, .iload_n 1, 1), (21, .ifCond .eq 40, 3), (24, .aload_n 0, 1), (25, .iload_n 1, 1), (26, .aload_n 0, 1), (27, .getfield 141, 3), (30, .invokevirtual 160, 3), (33, .ifCond .eq 28, 3), (36, .aload_n 0, 1), (37, .iload_n 2, 1), (38, .aload_n 0, 1), (39, .getfield 141, 3), (42, .invokevirtual 160, 3), (45, .ifCond .eq 16, 3), (48, .aload_n 0, 1), (49, .iload_n 2, 1), (50, .iload_n 1, 1), (51, .aload_n 0, 1), (52, .getfield 141, 3), (55, .invokevirtual 156, 3), (58, .ifCond .eq 7, 3), (61, .sipush (-1003), 3), (64, .ireturn, 1), (65, .aload_n 0, 1), (66, .getfield 19, 3), (69, .bipush 10, 2), (71, .iload_n 1, 1), (72, .imul, 1), (73, .aload_n 0, 1), (74, .getfield 141, 3), (77, .iadd, 1), (78, .iaload, 1), (79, .istore_n 3, 1), (80, .aload_n 0, 1), (81, .iload_n 1, 1), (82, .iload_n 2, 1), (83, .invokevirtual 144, 3), (86, .iload_n 3, 1), (87, .ireturn, 1)]
def pmk148 : List (Nat × Instr × Nat) := [(0, .aload_n 0, 1), (1, .iload_n 1, 1), (2, .invokevirtual 148, 3), (5, .ifCond .eq 16, 3), (8, .iload_n 2, 1), (9, .iconst (-1), 1), (10, .if_icmp .eq 15, 3), (13, .aload_n 0, 1), (14, .iload_n 2, 1), (15, .invokevirtual 148, 3), (18, .ifCond .ne 7, 3), (21, .sipush (-1001), 3), (24, .ireturn, 1), (25, .iload_n 1, 1), (26, .ifCond .eq 37, 3), (29, .iload_n 1, 1), (30, .iload_n 2, 1), (31, .if_icmp .eq 32, 3), (34, .aload_n 0, 1), (35, .iload_n 1, 1), (36, .aload_n 0, 1), (37, .getfield 141, 3), (40, .invokevirtual 160, 3), (43, .ifCond .eq 20, 3), (46, .iload_n 2, 1), (47, .iconst (-1), 1), (48, .if_icmp .eq 19, 3), (51, .aload_n 0, 1), (52, .iload_n 2, 1), (53, .aload_n 0, 1), (54, .getfield 141, 3), (57, .invokevirtual 160, 3), (60, .ifCond .ne 7, 3), (63, .sipush (-1003), 3), (66, .ireturn, 1), (67, .aload_n 0, 1), (68, .getfield 13, 3), (71, .iload_n 1, 1), (72, .aload_n 0, 1), (73, .getfield 141, 3), (76, .iastore, 1), (77, .aload_n 0, 1), (78, .getfield 16, 3), (81, .iload_n 1, 1), (82, .iload_n 2, 1), (83, .iastore, 1), (84, .aload_n 0, 1), (85, .iload_n 1, 1), (86, .aload_n 0, 1), (87, .getfield 141, 3), (90, .invokevirtual 163, 3), (93, .iconst 1, 1), (94, .isub, 1), (95, .ireturn, 1)]
def pmk149 : List (Nat × Instr × Nat) := [(0, .aload_n 0, 1), (1, .iload_n 1, 1), (2, .invokevirtual 148, 3), (5, .ifCond .ne 7, 3), (8, .sipush (-1001), 3), (11, .ireturn, 1), (12, .aload_n 0, 1), (13, .iload_n 2, 1), (14, .invokevirtual 167, 3), (17, .ifCond .eq 15, 3), (20, .iload_n 3, 1), (21, .i2l, 1), (22, .lconst 0, 1), (23, .ldc2_w 170, 3), (26, .invokestatic 137, 3), (29, .ifCond .ne 7, 3), (32, .sipush (-1002), 3), (35, .ireturn, 1), (36, .iload_n 3, 1), (37, .tableswitch 107 0 5 #[39, 54, 79, 86, 93, 100], 39), (76, .aload_n 0, 1), (77, .iload_n 1, 1), (78, .iload_n 2, 1), (79, .invokevirtual 160, 3), (82, .ifCond .eq 7, 3), (85, .iconst 1, 1), (86, .goto 4, 3), (89, .iconst 0, 1), (90, .ireturn, 1), (91, .aload_n 0, 1), (92, .iload_n 1, 1), (93, .iload_n 2, 1), (94, .invokevirtual 152, 3), (97, .ifCond .eq 17, 3), (100, .aload_n 0, 1), (101, .getfield 19, 3), (104, .bipush 10, 2), (106, .iload_n 1, 1), (107, .imul, 1), (108, .iload_n 2, 1), (109, .iadd, 1), (110, .iaload, 1), (111, .goto 4, 3), (114, .iconst (-1), 1), (115, .ireturn, 1), (116, .aload_n 0, 1), (117, .iload_n 1, 1), (118, .iload_n 2, 1), (119, .invokevirtual 163, 3), (122, .ireturn, 1), (123, .aload_n 0, 1), (124, .getfield 16, 3), (127, .iload_n 1, 1), (128, .iaload, 1), (129, .ireturn, 1), (130, .aload_n 0, 1), (131, .getfield 7, 3), (134, .iload_n 1, 1), (135, .iaload, 1), (136, .ireturn, 1), (137, .aload_n 0, 1), (138, .getfield 13, 3), (141, .iload_n 1, 1), (142, .iaload, 1), (143, .ireturn, 1), (144, .aload_n 0, 1), (145, .iload_n 1, 1), (146, .iload_n 2, 1), (147, .invokevirtual 172, 3), (150, .ireturn, 1)]
def pmk150 : List (Nat × Instr × Nat) := [(0, .aload_n 0, 1), (1, .iload_n 1, 1), (2, .invokevirtual 148, 3), (5, .ifCond .eq 11, 3), (8, .aload_n 0, 1), (9, .iload_n 2, 1), (10, .invokevirtual 148, 3), (13, .ifCond .ne 7, 3), (16, .sipush (-1001), 3), (19, .ireturn, 1), (20, .aload_n 0, 1), (21, .iload_n 3, 1), (22, .invokevirtual 167, 3), (25, .ifCond .ne 7, 3), (28, .sipush (-1002), 3), (31, .ireturn, 1), (32, .aload_n 0, 1), (33, .iload_n 1, 1), (34, .iload_n 2, 1), (35, .iload_n 3, 1), (36, .invokevirtual 156, 3), (39, .ifCond .eq 7, 3), (42, .iconst 1, 1), (43, .goto 4, 3), (46, .iconst 0, 1), (47, .ireturn, 1)]
def pmk151 : List (Nat × Instr × Nat) := [(0, .iload_n 1, 1), (1, .i2l, 1), (2, .lconst 0, 1), (3, .aload_n 0, 1), (4, .getfield 175, 3), (7, .iconst 1, 1), (8, .isub, 1), (9, .i2l, 1), (10, .invokestatic 137, 3), (13, .ireturn, 1)]
def pmk152 : List (Nat × Instr × Nat) := [(0, .iload_n 1, 1), (1, .i2l, 1), (2, .lconst 0, 1), (3, .aload_n 0, 1), (4, .getfield 178, 3), (7, .iconst 1, 1), (8, .isub, 1), (9, .i2l, 1), (10, .invokestatic 137, 3), (13, .ireturn, 1)]
def pmk153 : List (Nat × Instr × Nat) := [(0, .iload_n 0, 1), (1, .i2l, 1), (2, .lconst 0, 1), (3, .ldc2_w 181, 3), (6, .invokestatic 137, 3), (9, .ireturn, 1)]
def pmk154 : List (Nat × Instr × Nat) := [(0, .iload_n 3, 1), (1, .iconst (-1), 1), (2, .if_icmp .eq 15, 3), (5, .aload_n 0, 1), (6, .iload_n 3, 1), (7, .invokevirtual 183, 3), (10, .ifCond .ne 7, 3), (13, .sipush (-1001), 3), (16, .ireturn, 1), (17, .iload_n 1, 1), (18, .i2l, 1), (19, .lconst 0, 1), (20, .ldc2_w 186, 3), (23, .invokestatic 137, 3), (26, .ifCond .eq 15, 3), (29, .iload_n 2, 1), (30, .i2l, 1), (31, .lconst 0, 1), (32, .ldc2_w 188, 3), (35, .invokestatic 137, 3), (38, .ifCond .ne 7, 3), (41, .sipush (-1002), 3), (44, .ireturn, 1), (45, .aload_n 0, 1), (46, .getfield 175, 3), (49, .bipush 40, 2), (51, .if_icmp .ne 7, 3), (54, .sipush (-1004), 3), (57, .ireturn, 1), (58, .aload_n 0, 1), (59, .getfield 22, 3), (62, .aload_n 0, 1), (63, .getfield 175, 3), (66, .iload_n 1, 1), (67, .iastore, 1), (68, .aload_n 0, 1), (69, .getfield 25, 3), (72, .aload_n 0, 1), (73, .getfield 175, 3), (76, .iload_n 2, 1), (77, .iastore, 1), (78, .aload_n 0, 1), (79, .getfield 28, 3), (82, .aload_n 0, 1), (83, .getfield 175, 3), (86, .iload_n 3, 1), (87, .iastore, 1), (88, .aload_n 0, 1), (89, .dup, 1), (90, .getfield 175, 3), (93, .iconst 1, 1), (94, .iadd, 1), (95, .putfield 175, 3), (98, .aload_n 0, 1), (99, .getfield 175, 3), (102, .iconst 1, 1), (103, .isub, 1), (104, .ireturn, 1)]
def pmk155 : List (Nat × Instr × Nat) := [(0, .aload_n 0, 1), (1, .iload_n 1, 1), (2, .invokevirtual 183, 3), (5, .ifCond .eq 11, 3), (8, .aload_n 0, 1), (9, .iload_n 2, 1), (10, .invokevirtual 148, 3), (13, .ifCond .ne 7, 3), (16, .sipush (-1001), 3), (19, .ireturn, 1), (20, .iload_n 3, 1), (21, .invokestatic 190, 3), (24, .ifCond .eq 16, 3), (27, .iload 4, 2), (29, .i2l, 1), (30, .lconst 0, 1), (31, .ldc2_w 193, 3), (34, .invokestatic 137, 3), (37, .ifCond .ne 7, 3), (40, .sipush (-1002), 3), (43, .ireturn, 1), (44, .aload_n 0, 1), (45, .getfield 178, 3), (48, .bipush 120, 2), (50, .if_icmp .ne 7, 3), (53, .sipush (-1004), 3), (56, .ireturn, 1), (57, .aload_n 0, 1), (58, .getfield 31, 3), (61, .aload_n 0, 1), (62, .getfield 178, 3), (65, .iload_n 1, 1), (66, .iastore, 1), (67, .aload_n 0, 1), (68, .getfield 34, 3), (71, .aload_n 0, 1), (72, .getfield 178, 3), (75, .iload_n 2, 1), (76, .iastore, 1), (77, .aload_n 0, 1), (78, .getfield 37, 3), (81, .aload_n 0, 1), (82, .getfield 178, 3), (85, .iload_n 3, 1), (86, .iastore, 1), (87, .aload_n 0, 1), (88, .getfield 40, 3), (91, .aload_n 0, 1), (92, .getfield 178, 3), (95, .iload 4, 2), (97, .iastore, 1), (98, .aload_n 0, 1), (99, .getfield 43, 3), (102, .aload_n 0, 1), (103, .getfield 178, 3), (106, .aload_n 0, 1), (107, .getfield 141, 3), (110, .iastore, 1), (111, .iconst 0, 1), (112, .istore 5, 2), (114, .iload 5, 2), (116, .bipush 8, 2), (118, .if_icmp .ge 25, 3), (121, .aload_n 0, 1), (122, .getfield 46, 3), (125, .bipush 8, 2), (127, .aload_n 0, 1), (128, .getfield 178, 3), (131, .imul, 1), (132, .iload 5, 2), (134, .iadd, 1), (135, .iconst (-1), 1), (136, .iastore, 1), (137, .iinc 5 1, 3), (140, .goto (-26), 3), (143, .aload_n 0, 1), (144, .dup, 1), (145, .getfield 178, 3), (148, .iconst 1, 1), (149, .iadd, 1), (150, .putfield 178, 3), (153, .aload_n 0, 1), (154, .getfield 178, 3), (157, .iconst 1, 1), (158, .isub, 1), (159, .ireturn, 1)]
def pmk156 : List (Nat × Instr × Nat) := [(0, .iconst 0, 1), (1, .istore_n 3, 1), (2, .iconst 0, 1), (3, .istore 4, 2), (5, .iload 4, 2), (7, .bipush 8, 2), (9, .if_icmp .ge 39, 3), (12, .iload_n 3, 1), (13, .aload_n 0, 1), (14, .getfield 46, 3), (17, .bipush 8, 2), (19, .iload_n 1, 1), (20, .imul, 1), (21, .iload 4, 2), (23, .iadd, 1), (24, .iaload, 1), (25, .i2l, 1), (26, .lconst 0, 1), (27, .iload_n 2, 1), (28, .i2l, 1), (29, .invokestatic 137, 3), (32, .ifCond .eq 7, 3), (35, .iconst 1, 1), (36, .goto 4, 3), (39, .iconst 0, 1), (40, .iadd, 1), (41, .istore_n 3, 1), (42, .iinc 4 1, 3), (45, .goto (-40), 3), (48, .iload_n 3, 1), (49, .ireturn, 1)]
def pmk157 : List (Nat × Instr × Nat) := [(0, .aload_n 0, 1), (1, .iload_n 1, 1), (2, .invokevirtual 195, 3), (5, .ifCond .ne 7, 3), (8, .sipush (-1001), 3), (11, .ireturn, 1), (12, .iload_n 2, 1), (13, .invokestatic 190, 3), (16, .ifCond .ne 7, 3), (19, .sipush (-1002), 3), (22, .ireturn, 1), (23, .iload_n 2, 1), (24, .aload_n 0, 1), (25, .getfield 37, 3), (28, .iload_n 1, 1), (29, .iaload, 1), (30, .if_icmp .eq 17, 3), (33, .aload_n 0, 1), (34, .getfield 46, 3), (37, .bipush 8, 2), (39, .iload_n 1, 1), (40, .imul, 1), (41, .iload_n 2, 1), (42, .iadd, 1), (43, .iaload, 1), (44, .ifCond .lt 7, 3), (47, .sipush (-1003), 3), (50, .ireturn, 1), (51, .aload_n 0, 1), (52, .getfield 46, 3), (55, .bipush 8, 2), (57, .iload_n 1, 1), (58, .imul, 1), (59, .iload_n 2, 1), (60, .iadd, 1), (61, .aload_n 0, 1), (62, .getfield 141, 3), (65, .iastore, 1), (66, .aload_n 0, 1), (67, .iload_n 1, 1), (68, .aload_n 0, 1), (69, .getfield 141, 3), (72, .invokevirtual 198, 3), (75, .ireturn, 1)]
def pmk158 : List (Nat × Instr × Nat) := [(0, .aload_n 0, 1), (1, .iload_n 1, 1), (2, .invokevirtual 195, 3), (5, .ifCond .ne 7, 3), (8, .sipush (-1001), 3), (11, .ireturn, 1), (12, .aload_n 0, 1), (13, .invokevirtual 201, 3), (16, .iload_n 2, 1), (17, .tableswitch 95 0 6 #[43, 50, 57, 64, 71, 78, 85], 43), (60, .aload_n 0, 1), (61, .getfield 31, 3), (64, .iload_n 1, 1), (65, .iaload, 1), (66, .ireturn, 1), (67, .aload_n 0, 1), (68, .getfield 34, 3), (71, .iload_n 1, 1), (72, .iaload, 1), (73, .ireturn, 1), (74, .aload_n 0, 1), (75, .getfield 37, 3), (78, .iload_n 1, 1), (79, .iaload, 1), (80, .ireturn, 1), (81, .aload_n 0, 1), (82, .getfield 40, 3), (85, .iload_n 1, 1), (86, .iaload, 1), (87, .ireturn, 1), (88, .aload_n 0, 1), (89, .getfield 43, 3), (92, .iload_n 1, 1), (93, .iaload, 1), (94, .ireturn, 1), (95, .aload_n 0, 1), (96, .getfield 71, 3), (99, .iload_n 1, 1), (100, .iaload, 1), (101, .ireturn, 1), (102, .aload_n 0, 1), (103, .iload_n 1, 1), (104, .aload_n 0, 1), (105, .getfield 141, 3), (108, .invokevirtual 198, 3), (111, .ireturn, 1), (112, .sipush (-1002), 3), (115, .ireturn, 1)]
def pmk159 : List (Nat × Instr × Nat) := [(0, .iconst 0, 1), (1, .istore_n 3, 1), (2, .aload_n 0, 1), (3, .getfield 52, 3), (6, .iload_n 1, 1), (7, .iaload, 1), (8, .istore 4, 2), (10, .iload 4, 2), (12, .aload_n 0, 1), (13, .getfield 52, 3), (16, .iload_n 1, 1), (17, .iconst 1, 1), (18, .iadd, 1), (19, .iaload, 1), (20, .if_icmp .ge 41, 3), (23, .iload_n 3, 1), (24, .ifCond .ne 25, 3), (27, .aload_n 0, 1), (28, .getfield 55, 3), (31, .iload 4, 2), (33, .iaload, 1), (34, .iconst 5, 1), (35, .if_icmp .ne 18, 3), (38, .aload_n 0, 1), (39, .getfield 58, 3), (42, .iload 4, 2), (44, .iaload, 1), (45, .iload_n 2, 1), (46, .if_icmp .ne 7, 3), (49, .iconst 1, 1), (50, .goto 4, 3), (53, .iconst 0, 1), (54, .istore_n 3, 1), (55, .iinc 4 1, 3), (58, .goto (-48), 3), (61, .iload_n 3, 1), (62, .ireturn, 1)]
def pmk160 : List (Nat × Instr × Nat) := [(0, .aload_n 0, 1), (1, .getfield 204, 3), (4, .iconst 1, 1), (5, .isub, 1), (6, .istore_n 2, 1), (7, .iload_n 2, 1), (8, .ifCond .lt 86, 3), (11, .aload_n 0, 1), (12, .getfield 64, 3), (15, .iload_n 2, 1), (16, .aload_n 0, 1), (17, .getfield 49, 3), (20, .iload_n 2, 1), (21, .iaload, 1), (22, .iload_n 1, 1), (23, .if_icmp .gt 7, 3), (26, .iconst 1, 1), (27, .goto 4, 3), (30, .iconst 0, 1), (31, .bastore, 1), (32, .iload_n 2, 1), (33, .iconst 1, 1), (34, .iadd, 1), (35, .istore_n 3, 1), (36, .iload_n 3, 1), (37, .aload_n 0, 1), (38, .getfield 204, 3), (41, .if_icmp .ge 47, 3), (44, .aload_n 0, 1), (45, .getfield 64, 3), (48, .iload_n 2, 1), (49, .aload_n 0, 1), (50, .getfield 64, 3), (53, .iload_n 2, 1), (54, .baload, 1), (55, .ifCond .eq 25, 3), (58, .aload_n 0, 1), (59, .getfield 64, 3), (62, .iload_n 3, 1), (63, .baload, 1), (64, .ifCond .eq 12, 3), (67, .aload_n 0, 1), (68, .iload_n 3, 1), (69, .iload_n 2, 1), (70, .invokevirtual 207, 3), (73, .ifCond .ne 7, 3), (76, .iconst 1, 1), (77, .goto 4, 3), (80, .iconst 0, 1), (81, .bastore, 1), (82, .iinc 3 1, 3), (85, .goto (-49), 3), (88, .iinc 2 (-1), 3), (91, .goto (-84), 3), (94, .iconst 0, 1), (95, .istore_n 2, 1), (96, .iload_n 2, 1), (97, .bipush 6, 2), (99, .if_icmp .ge 16, 3), (102, .aload_n 0, 1), (103, .getfield 68, 3), (106, .iload_n 2, 1), (107, .iconst 0, 1), (108, .iastore, 1), (109, .iinc 2 1, 3), (112, .goto (-16), 3), (115, .aload_n 0, 1), (116, .bipush 20, 2), (118, .putfield 210, 3), (121, .iconst 0, 1), (122, .istore_n 2, 1), (123, .iload_n 2, 1), (124, .iload_n 1, 1), (125, .if_icmp .gt 129, 3), (128, .iconst 0, 1), (129, .istore_n 3, 1), (130, .iload_n 3, 1), (131, .aload_n 0, 1), (132, .getfield 204, 3), (135, .if_icmp .ge 113, 3), (138, .aload_n 0, 1), (139, .getfield 52, 3), (142, .iload_n 3, 1), (143, .iaload, 1), (144, .istore 4, 2), (146, .iload 4, 2), (148, .aload_n 0, 1), (149, .getfield 52, 3), (152, .iload_n 3, 1), (153, .iconst 1, 1), (154, .iadd, 1), (155, .iaload, 1), (156, .if_icmp .ge 86, 3), (159, .aload_n 0, 1), (160, .getfield 64, 3), (163, .iload_n 3, 1), (164, .baload, 1), (165, .ifCond .eq 77, 3), (168, .aload_n 0, 1), (169, .getfield 49, 3), (172, .iload_n 3, 1), (173, .iaload, 1), (174, .iload_n 2, 1), (175, .if_icmp .ne 67, 3), (178, .aload_n 0, 1), (179, .getfield 55, 3), (182, .iload 4, 2), (184, .iaload, 1), (185, .ifCond .ne 22, 3), (188, .aload_n 0, 1), (189, .getfield 68, 3), (192, .aload_n 0, 1), (193, .getfield 58, 3), (196, .iload 4, 2), (198, .iaload, 1), (199, .aload_n 0, 1), (200, .getfield 61, 3), (203, .iload 4, 2), (205, .iaload, 1), (206, .iastore, 1), (207, .aload_n 0, 1), (208, .aload_n 0, 1), (209, .getfield 55, 3), (212, .iload 4, 2), (214, .iaload, 1), (215, .iconst 4, 1), (216, .if_icmp .ne 13, 3), (219, .aload_n 0, 1), (220, .getfield 58, 3), (223, .iload 4, 2), (225, .iaload, 1), (226, .goto 7, 3), (229, .aload_n 0, 1), (230, .getfield 210, 3), (233, .putfield 210, 3), (236, .iinc 4 1, 3), (239, .goto (-93), 3), (242, .iinc 3 1, 3), (245, .goto (-115), 3), (248, .iinc 2 1, 3), (251, .goto (-128), 3), (254, .return_, 1)]
def pmk161 : List (Nat × Instr × Nat) := [(0, .iconst 0, 1), (1, .istore_n 2, 1), (2, .iload_n 1, 1), (3, .aload_n 0, 1), (4, .getfield 52, 3), (7, .iload_n 2, 1), (8, .iconst 1, 1), (9, .iadd, 1), (10, .iaload, 1), (11, .if_icmp .lt 9, 3), (14, .iinc 2 1, 3), (17, .goto (-15), 3), (20, .iload_n 2, 1), (21, .ireturn, 1)]
def pmk162 : List (Nat × Instr × Nat) := [(0, .aload_n 0, 1), (1, .getfield 55, 3), (4, .iload_n 1, 1), (5, .iaload, 1), (6, .iload_n 2, 1), (7, .if_icmp .ne 20, 3), (10, .aload_n 0, 1), (11, .getfield 64, 3), (14, .aload_n 0, 1), (15, .iload_n 1, 1), (16, .invokevirtual 213, 3), (19, .baload, 1), (20, .ifCond .eq 7, 3), (23, .iconst 1, 1), (24, .goto 4, 3), (27, .iconst 0, 1), (28, .ireturn, 1)]
def pmk163 : List (Nat × Instr × Nat) := [(0, .iconst 0, 1), (1, .istore_n 2, 1), (2, .iconst 0, 1), (3, .istore_n 3, 1), (4, .iload_n 3, 1), (5, .aload_n 0, 1), (6, .getfield 217, 3), (9, .if_icmp .ge 78, 3), (12, .iload_n 1, 1), (13, .aload_n 0, 1), (14, .getfield 58, 3), (17, .iload_n 3, 1), (18, .iaload, 1), (19, .ishr, 1), (20, .iload_n 1, 1), (21, .aload_n 0, 1), (22, .getfield 61, 3), (25, .iload_n 3, 1), (26, .iaload, 1), (27, .ishr, 1), (28, .iand, 1), (29, .iconst 1, 1), (30, .iand, 1), (31, .iconst 1, 1), (32, .if_icmp .ne 7, 3), (35, .iconst 1, 1), (36, .goto 4, 3), (39, .iconst 0, 1), (40, .istore 4, 2), (42, .iload_n 2, 1), (43, .ifCond .ne 32, 3), (46, .aload_n 0, 1), (47, .iload_n 3, 1), (48, .iconst 2, 1), (49, .invokevirtual 220, 3), (52, .ifCond .eq 27, 3), (55, .aload_n 0, 1), (56, .getfield 58, 3), (59, .iload_n 3, 1), (60, .iaload, 1), (61, .aload_n 0, 1), (62, .getfield 61, 3), (65, .iload_n 3, 1), (66, .iaload, 1), (67, .if_icmp .eq 12, 3), (70, .iload 4, 2), (72, .ifCond .eq 7, 3), (75, .iconst 1, 1), (76, .goto 4, 3), (79, .iconst 0, 1), (80, .istore_n 2, 1), (81, .iinc 3 1, 3), (84, .goto (-80), 3), (87, .iload_n 2, 1), (88, .ireturn, 1)]
def pmk164 : List (Nat × Instr × Nat) := [(0, .iconst 0, 1), (1, .istore 4, 2), (3, .iconst 0, 1), (4, .istore 5, 2), (6, .iconst 0, 1), (7, .istore 6, 2), (9, .iload 6, 2), (11, .aload_n 0, 1), (12, .getfield 217, 3), (15, .if_icmp .ge 87, 3), (18, .aload_n 0, 1), (19, .iload 6, 2), (21, .iconst 1, 1), (22, .invokevirtual 220, 3), (25, .ifCond .eq 18, 3), (28, .aload_n 0, 1), (29, .getfield 58, 3), (32, .iload 6, 2), (34, .iaload, 1), (35, .iload_n 1, 1), (36, .if_icmp .ne 7, 3), (39, .iconst 1, 1), (40, .goto 4, 3), (43, .iconst 0, 1), (44, .istore 7, 2), (46, .iload 4, 2), (48, .ifCond .ne 8, 3), (51, .iload 7, 2), (53, .ifCond .eq 7, 3), (56, .iconst 1, 1), (57, .goto 4, 3), (60, .iconst 0, 1), (61, .istore 4, 2), (63, .iload 5, 2), (65, .ifCond .ne 24, 3), (68, .iload 7, 2), (70, .ifCond .eq 23, 3), (73, .aload_n 0, 1), (74, .iload_n 2, 1), (75, .aload_n 0, 1), (76, .getfield 61, 3), (79, .iload 6, 2), (81, .iaload, 1), (82, .iload_n 3, 1), (83, .invokevirtual 156, 3), (86, .ifCond .eq 7, 3), (89, .iconst 1, 1), (90, .goto 4, 3), (93, .iconst 0, 1), (94, .istore 5, 2), (96, .iinc 6 1, 3), (99, .goto (-90), 3), (102, .iload 5, 2), (104, .ifCond .ne 8, 3), (107, .iload 4, 2), (109, .ifCond .ne 7, 3), (112, .iconst 1, 1), (113, .goto 4, 3), (116, .iconst 0, 1), (117, .ireturn, 1)]
def pmk165 : List (Nat × Instr × Nat) := [(0, .aload_n 0, 1), (1, .getfield 43, 3), (4, .iload_n 1, 1), (5, .iaload, 1), (6, .istore_n 2, 1), (7, .aload_n 0, 1), (8, .aload_n 0, 1), (9, .getfield 34, 3), (12, .iload_n 1, 1), (13, .iaload, 1), (14, .iload_n 2, 1), (15, .invokevirtual 160, 3), (18, .ifCond .ne 5, 3), (21, .iconst 1, 1), (22, .ireturn, 1), (23, .iconst 0, 1), (24, .istore_n 3, 1), (25, .iload_n 3, 1), (26, .bipush 6, 2), (28, .if_icmp .ge 40, 3), (31, .aload_n 0, 1), (32, .getfield 40, 3), (35, .iload_n 1, 1), (36, .iaload, 1), (37, .iload_n 3, 1), (38, .ishr, 1), (39, .iconst 1, 1), (40, .iand, 1), (41, .iconst 1, 1), (42, .if_icmp .ne 20, 3), (45, .aload_n 0, 1), (46, .iload_n 3, 1), (47, .aload_n 0, 1), (48, .getfield 34, 3), (51, .iload_n 1, 1), (52, .iaload, 1), (53, .iload_n 2, 1), (54, .invokevirtual 223, 3), (57, .ifCond .ne 5, 3), (60, .iconst 2, 1), (61, .ireturn, 1), (62, .iinc 3 1, 3), (65, .goto (-40), 3), (68, .aload_n 0, 1), (69, .aload_n 0, 1), (70, .getfield 40, 3), (73, .iload_n 1, 1), (74, .iaload, 1), (75, .invokevirtual 226, 3), (78, .ifCond .eq 5, 3), (81, .iconst 3, 1), (82, .ireturn, 1), (83, .iconst 0, 1), (84, .istore_n 3, 1), (85, .iconst 0, 1), (86, .istore 4, 2), (88, .iload 4, 2), (90, .iload_n 1, 1), (91, .if_icmp .ge 43, 3), (94, .iload_n 3, 1), (95, .aload_n 0, 1), (96, .getfield 31, 3), (99, .iload 4, 2), (101, .iaload, 1), (102, .aload_n 0, 1), (103, .getfield 31, 3), (106, .iload_n 1, 1), (107, .iaload, 1), (108, .if_icmp .ne 17, 3), (111, .aload_n 0, 1), (112, .getfield 71, 3), (115, .iload 4, 2), (117, .iaload, 1), (118, .ifCond .ne 7, 3), (121, .iconst 1, 1), (122, .goto 4, 3), (125, .iconst 0, 1), (126, .iadd, 1), (127, .istore_n 3, 1), (128, .iinc 4 1, 3), (131, .goto (-43), 3), (134, .iload_n 3, 1), (135, .aload_n 0, 1), (136, .getfield 210, 3), (139, .if_icmp .lt 7, 3), (142, .iconst 4, 1), (143, .goto 4, 3), (146, .iconst 0, 1), (147, .ireturn, 1)]
def pmk166 : List (Nat × Instr × Nat) := [(0, .iconst (-1), 1), (1, .istore_n 1, 1), (2, .iconst 0, 1), (3, .istore_n 2, 1), (4, .iload_n 2, 1), (5, .aload_n 0, 1), (6, .getfield 178, 3), (9, .if_icmp .ge 155, 3), (12, .aload_n 0, 1), (13, .getfield 43, 3), (16, .iload_n 2, 1), (17, .iaload, 1), (18, .iload_n 1, 1), (19, .if_icmp .eq 15, 3), (22, .aload_n 0, 1), (23, .getfield 43, 3), (26, .iload_n 2, 1), (27, .iaload, 1), (28, .istore_n 1, 1), (29, .aload_n 0, 1), (30, .iload_n 1, 1), (31, .invokevirtual 229, 3), (34, .aload_n 0, 1), (35, .getfield 71, 3), (38, .iload_n 2, 1), (39, .aload_n 0, 1), (40, .iload_n 2, 1), (41, .invokevirtual 232, 3), (44, .iastore, 1), (45, .aload_n 0, 1), (46, .getfield 74, 3), (49, .iload_n 2, 1), (50, .iconst 0, 1), (51, .bastore, 1), (52, .aload_n 0, 1), (53, .getfield 77, 3), (56, .iload_n 2, 1), (57, .iconst 0, 1), (58, .iastore, 1), (59, .iconst 0, 1), (60, .istore_n 3, 1), (61, .iload_n 3, 1), (62, .bipush 6, 2), (64, .if_icmp .ge 94, 3), (67, .aload_n 0, 1), (68, .getfield 40, 3), (71, .iload_n 2, 1), (72, .iaload, 1), (73, .iload_n 3, 1), (74, .ishr, 1), (75, .iconst 1, 1), (76, .iand, 1), (77, .iconst 1, 1), (78, .if_icmp .ne 7, 3), (81, .iconst 1, 1), (82, .goto 4, 3), (85, .iconst 0, 1), (86, .istore 4, 2), (88, .aload_n 0, 1), (89, .getfield 74, 3), (92, .iload_n 2, 1), (93, .aload_n 0, 1), (94, .getfield 74, 3), (97, .iload_n 2, 1), (98, .baload, 1), (99, .ifCond .ne 18, 3), (102, .iload 4, 2), (104, .ifCond .eq 17, 3), (107, .aload_n 0, 1), (108, .getfield 68, 3), (111, .iload_n 3, 1), (112, .iaload, 1), (113, .iconst 1, 1), (114, .if_icmp .ne 7, 3), (117, .iconst 1, 1), (118, .goto 4, 3), (121, .iconst 0, 1), (122, .bastore, 1), (123, .aload_n 0, 1), (124, .getfield 77, 3), (127, .iload_n 2, 1), (128, .dup2, 1), (129, .iaload, 1), (130, .iload 4, 2), (132, .ifCond .eq 17, 3), (135, .aload_n 0, 1), (136, .getfield 68, 3), (139, .iload_n 3, 1), (140, .iaload, 1), (141, .iconst 2, 1), (142, .if_icmp .ne 7, 3), (145, .iconst 1, 1), (146, .goto 4, 3), (149, .iconst 0, 1), (150, .iadd, 1), (151, .iastore, 1), (152, .iinc 3 1, 3), (155, .goto (-94), 3), (158, .iinc 2 1, 3), (161, .goto (-157), 3), (164, .return_, 1)]
def pmk167 : List (Nat × Instr × Nat) := [(0, .aload_n 0, 1), (1, .getfield 83, 3), (4, .iload_n 1, 1), (5, .iconst 0, 1), (6, .bastore, 1), (7, .aload_n 0, 1), (8, .getfield 80, 3), (11, .iload_n 1, 1), (12, .iconst (-1), 1), (13, .iastore, 1), (14, .aload_n 0, 1), (15, .getfield 43, 3), (18, .iload_n 1, 1), (19, .iaload, 1), (20, .iload_n 2, 1), (21, .if_icmp .gt 31, 3), (24, .aload_n 0, 1), (25, .getfield 71, 3), (28, .iload_n 1, 1), (29, .iaload, 1), (30, .ifCond .gt 22, 3), (33, .aload_n 0, 1), (34, .getfield 74, 3), (37, .iload_n 1, 1), (38, .baload, 1), (39, .ifCond .ne 13, 3), (42, .aload_n 0, 1), (43, .iload_n 1, 1), (44, .iload_n 2, 1), (45, .invokevirtual 198, 3), (48, .iconst 1, 1), (49, .if_icmp .le 4, 3), (52, .return_, 1), (53, .aload_n 0, 1), (54, .getfield 34, 3), (57, .iload_n 1, 1), (58, .iaload, 1), (59, .istore_n 3, 1), (60, .aload_n 0, 1), (61, .getfield 13, 3), (64, .iload_n 3, 1), (65, .iaload, 1), (66, .ifCond .lt 63, 3), (69, .aload_n 0, 1), (70, .getfield 13, 3), (73, .iload_n 3, 1), (74, .iaload, 1), (75, .iload_n 2, 1), (76, .if_icmp .gt 53, 3), (79, .aload_n 0, 1), (80, .getfield 16, 3), (83, .iload_n 3, 1), (84, .iaload, 1), (85, .ifCond .lt 13, 3), (88, .aload_n 0, 1), (89, .getfield 16, 3), (92, .iload_n 3, 1), (93, .iaload, 1), (94, .istore_n 3, 1), (95, .goto (-35), 3), (98, .aload_n 0, 1), (99, .getfield 83, 3), (102, .iload_n 1, 1), (103, .iconst 1, 1), (104, .bastore, 1), (105, .aload_n 0, 1), (106, .iload_n 3, 1), (107, .iload_n 2, 1), (108, .invokevirtual 160, 3), (111, .ifCond .ne (-51), 3), (114, .aload_n 0, 1), (115, .getfield 19, 3), (118, .bipush 10, 2), (120, .iload_n 3, 1), (121, .imul, 1), (122, .iload_n 2, 1), (123, .iadd, 1), (124, .iaload, 1), (125, .istore_n 3, 1), (126, .goto (-21), 3), (129, .iconst 0, 1), (130, .istore 4, 2), (132, .iload 4, 2), (134, .aload_n 0, 1), (135, .getfield 77, 3), (138, .iload_n 1, 1), (139, .iaload, 1), (140, .if_icmp .ge 29, 3), (143, .iload_n 3, 1), (144, .ifCond .ne 7, 3), (147, .iconst 0, 1), (148, .goto 14, 3), (151, .aload_n 0, 1), (152, .getfield 19, 3), (155, .bipush 10, 2), (157, .iload_n 3, 1), (158, .imul, 1), (159, .iload_n 2, 1), (160, .iadd, 1), (161, .iaload, 1), (162, .istore_n 3, 1), (163, .iinc 4 1, 3), (166, .goto (-34), 3), (169, .aload_n 0, 1), (170, .getfield 80, 3), (173, .iload_n 1, 1), (174, .iload_n 3, 1), (175, .iastore, 1), (176, .return_, 1)]
def pmk168 : List (Nat × Instr × Nat) := [(0, .aload_n 0, 1), (1, .invokevirtual 201, 3), (4, .iconst 0, 1), (5, .istore_n 2, 1), (6, .iload_n 2, 1), (7, .aload_n 0, 1), (8, .getfield 175, 3), (11, .if_icmp .ge 16, 3), (14, .aload_n 0, 1), (15, .getfield 86, 3), (18, .iload_n 2, 1), (19, .lconst 0, 1), (20, .lastore, 1), (21, .iinc 2 1, 3), (24, .goto (-18), 3), (27, .iconst 0, 1), (28, .istore_n 2, 1), (29, .iload_n 2, 1), (30, .aload_n 0, 1), (31, .getfield 178, 3), (34, .if_icmp .ge 58, 3), (37, .aload_n 0, 1), (38, .iload_n 2, 1), (39, .iload_n 1, 1), (40, .invokevirtual 235, 3), (43, .aload_n 0, 1), (44, .getfield 80, 3), (47, .iload_n 2, 1), (48, .iaload, 1), (49, .istore_n 3, 1), (50, .iload_n 3, 1), (51, .ifCond .lt 35, 3), (54, .aload_n 0, 1), (55, .getfield 86, 3), (58, .aload_n 0, 1), (59, .getfield 31, 3), (62, .iload_n 2, 1), (63, .iaload, 1), (64, .dup2, 1), (65, .laload, 1), (66, .lconst 1, 1), (67, .iload_n 3, 1), (68, .lshl, 1), (69, .lor, 1), (70, .lastore, 1), (71, .aload_n 0, 1), (72, .getfield 19, 3), (75, .bipush 10, 2), (77, .iload_n 3, 1), (78, .imul, 1), (79, .iload_n 1, 1), (80, .iadd, 1), (81, .iaload, 1), (82, .istore_n 3, 1), (83, .goto (-33), 3), (86, .iinc 2 1, 3), (89, .goto (-60), 3), (92, .return_, 1)]
def pmk169 : List (Nat × Instr × Nat) := [(0, .iload_n 2, 1), (1, .bipush 40, 2), (3, .if_icmp .ge 22, 3), (6, .aload_n 0, 1), (7, .getfield 86, 3), (10, .iload_n 1, 1), (11, .laload, 1), (12, .iload_n 2, 1), (13, .lshr, 1), (14, .lconst 1, 1), (15, .land, 1), (16, .lconst 1, 1), (17, .lcmp, 1), (18, .ifCond .ne 7, 3), (21, .iconst 1, 1), (22, .goto 4, 3), (25, .iconst 0, 1), (26, .ireturn, 1)]
def pmk170 : List (Nat × Instr × Nat) := [(0, .aload_n 0, 1), (1, .iload_n 2, 1), (2, .invokevirtual 238, 3), (5, .iconst 0, 1), (6, .istore_n 3, 1), (7, .iconst 0, 1), (8, .istore 4, 2), (10, .iload 4, 2), (12, .aload_n 0, 1), (13, .getfield 175, 3), (16, .if_icmp .ge 27, 3), (19, .iload_n 3, 1), (20, .aload_n 0, 1), (21, .iload 4, 2), (23, .iload_n 1, 1), (24, .invokevirtual 241, 3), (27, .ifCond .eq 7, 3), (30, .iconst 1, 1), (31, .goto 4, 3), (34, .iconst 0, 1), (35, .iadd, 1), (36, .istore_n 3, 1), (37, .iinc 4 1, 3), (40, .goto (-30), 3), (43, .iload_n 3, 1), (44, .ireturn, 1)]
def pmk171 : List (Nat × Instr × Nat) := [(0, .iconst 0, 1), (1, .istore_n 3, 1), (2, .aload_n 0, 1), (3, .iload_n 2, 1), (4, .invokevirtual 229, 3), (7, .iconst 0, 1), (8, .istore 4, 2), (10, .iload 4, 2), (12, .aload_n 0, 1), (13, .getfield 217, 3), (16, .if_icmp .ge 70, 3), (19, .iload_n 3, 1), (20, .ifCond .ne 54, 3), (23, .aload_n 0, 1), (24, .iload 4, 2), (26, .iconst 3, 1), (27, .invokevirtual 220, 3), (30, .ifCond .eq 48, 3), (33, .aload_n 0, 1), (34, .aload_n 0, 1), (35, .getfield 34, 3), (38, .iload_n 1, 1), (39, .iaload, 1), (40, .aload_n 0, 1), (41, .getfield 58, 3), (44, .iload 4, 2), (46, .iaload, 1), (47, .iload_n 2, 1), (48, .invokevirtual 156, 3), (51, .ifCond .eq 27, 3), (54, .aload_n 0, 1), (55, .aload_n 0, 1), (56, .getfield 31, 3), (59, .iload_n 1, 1), (60, .iaload, 1), (61, .aload_n 0, 1), (62, .getfield 61, 3), (65, .iload 4, 2), (67, .iaload, 1), (68, .invokevirtual 241, 3), (71, .ifCond .ne 7, 3), (74, .iconst 1, 1), (75, .goto 4, 3), (78, .iconst 0, 1), (79, .istore_n 3, 1), (80, .iinc 4 1, 3), (83, .goto (-73), 3), (86, .iload_n 3, 1), (87, .ifCond .eq 16, 3), (90, .aload_n 0, 1), (91, .getfield 71, 3), (94, .iload_n 1, 1), (95, .iaload, 1), (96, .ifCond .ne 7, 3), (99, .iconst 1, 1), (100, .goto 4, 3), (103, .iconst 0, 1), (104, .ireturn, 1)]
def pmk172 : List (Nat × Instr × Nat) := [(0, .aload_n 0, 1), (1, .iload_n 1, 1), (2, .invokevirtual 195, 3), (5, .ifCond .ne 7, 3), (8, .sipush (-1001), 3), (11, .ireturn, 1), (12, .aload_n 0, 1), (13, .iload_n 2, 1), (14, .invokevirtual 167, 3), (17, .ifCond .eq 15, 3), (20, .iload_n 3, 1), (21, .i2l, 1), (22, .lconst 0, 1), (23, .ldc2_w 244, 3), (26, .invokestatic 137, 3), (29, .ifCond .ne 7, 3), (32, .sipush (-1002), 3), (35, .ireturn, 1), (36, .aload_n 0, 1), (37, .getfield 43, 3), (40, .iload_n 1, 1), (41, .iaload, 1), (42, .iload_n 2, 1), (43, .if_icmp .le 7, 3), (46, .sipush (-1003), 3), (49, .ireturn, 1), (50, .aload_n 0, 1), (51, .iload_n 2, 1), (52, .invokevirtual 238, 3), (55, .iload_n 3, 1), (56, .ifCond .ne 12, 3), (59, .aload_n 0, 1), (60, .getfield 80, 3), (63, .iload_n 1, 1), (64, .iaload, 1), (65, .goto 34, 3), (68, .iload_n 3, 1), (69, .iconst 1, 1), (70, .if_icmp .ne 15, 3), (73, .aload_n 0, 1), (74, .getfield 83, 3), (77, .iload_n 1, 1), (78, .baload, 1), (79, .ifCond .eq 19, 3), (82, .goto 12, 3), (85, .aload_n 0, 1), (86, .iload_n 1, 1), (87, .iload_n 2, 1), (88, .invokevirtual 246, 3), (91, .ifCond .eq 7, 3), (94, .iconst 1, 1), (95, .goto 4, 3), (98, .iconst 0, 1), (99, .ireturn, 1)]
def pmk173 : List (Nat × Instr × Nat) := [(0, .aload_n 0, 1), (1, .iload_n 1, 1), (2, .invokevirtual 183, 3), (5, .ifCond .eq 11, 3), (8, .aload_n 0, 1), (9, .iload_n 2, 1), (10, .invokevirtual 148, 3), (13, .ifCond .ne 7, 3), (16, .sipush (-1001), 3), (19, .ireturn, 1), (20, .aload_n 0, 1), (21, .iload_n 3, 1), (22, .invokevirtual 167, 3), (25, .ifCond .ne 7, 3), (28, .sipush (-1002), 3), (31, .ireturn, 1), (32, .aload_n 0, 1), (33, .iload_n 3, 1), (34, .invokevirtual 238, 3), (37, .iconst 0, 1), (38, .istore 4, 2), (40, .iload 4, 2), (42, .aload_n 0, 1), (43, .getfield 178, 3), (46, .if_icmp .ge 49, 3), (49, .aload_n 0, 1), (50, .getfield 31, 3), (53, .iload 4, 2), (55, .iaload, 1), (56, .iload_n 1, 1), (57, .if_icmp .ne 32, 3), (60, .aload_n 0, 1), (61, .getfield 80, 3), (64, .iload 4, 2), (66, .iaload, 1), (67, .ifCond .lt 22, 3), (70, .aload_n 0, 1), (71, .aload_n 0, 1), (72, .getfield 80, 3), (75, .iload 4, 2), (77, .iaload, 1), (78, .iload_n 2, 1), (79, .iload_n 3, 1), (80, .invokevirtual 156, 3), (83, .ifCond .eq 6, 3), (86, .iload 4, 2), (88, .ireturn, 1), (89, .iinc 4 1, 3), (92, .goto (-52), 3), (95, .iconst (-1), 1), (96, .ireturn, 1)]
def pmk174 : List (Nat × Instr × Nat) := [(0, .aload_n 0, 1), (1, .aload_n 0, 1), (2, .getfield 141, 3), (5, .invokevirtual 238, 3), (8, .iconst 0, 1), (9, .istore_n 2, 1), (10, .iconst 0, 1), (11, .istore_n 3, 1), (12, .iload_n 3, 1), (13, .aload_n 0, 1), (14, .getfield 134, 3), (17, .if_icmp .ge 29, 3), (20, .iload_n 2, 1), (21, .aload_n 0, 1), (22, .iload_n 3, 1), (23, .aload_n 0, 1), (24, .getfield 141, 3), (27, .invokevirtual 160, 3), (30, .ifCond .eq 7, 3), (33, .iconst 1, 1), (34, .goto 4, 3), (37, .iconst 0, 1), (38, .iadd, 1), (39, .istore_n 2, 1), (40, .iinc 3 1, 3), (43, .goto (-31), 3), (46, .iconst 0, 1), (47, .istore_n 3, 1), (48, .iconst 0, 1), (49, .istore 4, 2), (51, .iconst 0, 1), (52, .istore 5, 2), (54, .iconst 0, 1), (55, .istore 6, 2), (57, .iload 6, 2), (59, .aload_n 0, 1), (60, .getfield 178, 3), (63, .if_icmp .ge 76, 3), (66, .iload_n 3, 1), (67, .aload_n 0, 1), (68, .getfield 71, 3), (71, .iload 6, 2), (73, .iaload, 1), (74, .ifCond .le 7, 3), (77, .iconst 1, 1), (78, .goto 4, 3), (81, .iconst 0, 1), (82, .iadd, 1), (83, .istore_n 3, 1), (84, .iload 4, 2), (86, .aload_n 0, 1), (87, .getfield 83, 3), (90, .iload 6, 2), (92, .baload, 1), (93, .ifCond .eq 7, 3), (96, .iconst 1, 1), (97, .goto 4, 3), (100, .iconst 0, 1), (101, .iadd, 1), (102, .istore 4, 2), (104, .iload 5, 2), (106, .iload_n 1, 1), (107, .bipush 7, 2), (109, .if_icmp .ne 20, 3), (112, .aload_n 0, 1), (113, .iload 6, 2), (115, .aload_n 0, 1), (116, .getfield 141, 3), (119, .invokevirtual 246, 3), (122, .ifCond .eq 7, 3), (125, .iconst 1, 1), (126, .goto 4, 3), (129, .iconst 0, 1), (130, .iadd, 1), (131, .istore 5, 2), (133, .iinc 6 1, 3), (136, .goto (-79), 3), (139, .iload_n 1, 1), (140, .tableswitch 123 0 12 #[68, 73, 78, 80, 85, 90, 92, 95, 98, 103, 108, 113, 118], 68), (208, .aload_n 0, 1), (209, .getfield 141, 3), (212, .ireturn, 1), (213, .aload_n 0, 1), (214, .getfield 134, 3), (217, .ireturn, 1), (218, .iload_n 2, 1), (219, .ireturn, 1), (220, .aload_n 0, 1), (221, .getfield 175, 3), (224, .ireturn, 1), (225, .aload_n 0, 1), (226, .getfield 178, 3), (229, .ireturn, 1), (230, .iload_n 3, 1), (231, .ireturn, 1), (232, .iload 4, 2), (234, .ireturn, 1), (235, .iload 5, 2), (237, .ireturn, 1), (238, .aload_n 0, 1), (239, .getfield 204, 3), (242, .ireturn, 1), (243, .aload_n 0, 1), (244, .getfield 249, 3), (247, .ireturn, 1), (248, .aload_n 0, 1), (249, .getfield 252, 3), (252, .ireturn, 1), (253, .aload_n 0, 1), (254, .getfield 255, 3), (257, .ireturn, 1), (258, .aload_n 0, 1), (259, .getfield 258, 3), (262, .ireturn, 1), (263, .sipush (-1002), 3), (266, .ireturn, 1)]
def pmk175 : List (Nat × Instr × Nat) := [(0, .iload_n 1, 1), (1, .i2l, 1), (2, .lconst 1, 1), (3, .ldc2_w 261, 3), (6, .invokestatic 137, 3), (9, .ifCond .ne 7, 3), (12, .sipush (-1002), 3), (15, .ireturn, 1), (16, .aload_n 0, 1), (17, .getfield 249, 3), (20, .iload_n 1, 1), (21, .iadd, 1), (22, .sipush 160, 3), (25, .if_icmp .le 7, 3), (28, .sipush (-1004), 3), (31, .ireturn, 1), (32, .iload_n 1, 1), (33, .iconst 1, 1), (34, .isub, 1), (35, .istore 4, 2), (37, .iload 4, 2), (39, .ifCond .lt 40, 3), (42, .aload_n 0, 1), (43, .getfield 90, 3), (46, .aload_n 0, 1), (47, .getfield 249, 3), (50, .lload_n 2, 1), (51, .bipush 8, 2), (53, .iload 4, 2), (55, .imul, 1), (56, .lshr, 1), (57, .ldc2_w 263, 3), (60, .land, 1), (61, .l2i, 1), (62, .iastore, 1), (63, .aload_n 0, 1), (64, .dup, 1), (65, .getfield 249, 3), (68, .iconst 1, 1), (69, .iadd, 1), (70, .putfield 249, 3), (73, .iinc 4 (-1), 3), (76, .goto (-39), 3), (79, .aload_n 0, 1), (80, .getfield 249, 3), (83, .ireturn, 1)]
def pmk176 : List (Nat × Instr × Nat) := [(0, .aload_n 0, 1), (1, .getfield 265, 3), (4, .aload_n 0, 1), (5, .getfield 249, 3), (8, .if_icmp .ge 30, 3), (11, .aload_n 0, 1), (12, .getfield 90, 3), (15, .aload_n 0, 1), (16, .getfield 265, 3), (19, .iaload, 1), (20, .bipush 32, 2), (22, .if_icmp .ne 16, 3), (25, .aload_n 0, 1), (26, .dup, 1), (27, .getfield 265, 3), (30, .iconst 1, 1), (31, .iadd, 1), (32, .putfield 265, 3), (35, .goto (-35), 3), (38, .aload_n 0, 1), (39, .getfield 265, 3), (42, .aload_n 0, 1), (43, .getfield 249, 3), (46, .if_icmp .ge 15, 3), (49, .aload_n 0, 1), (50, .getfield 90, 3), (53, .aload_n 0, 1), (54, .getfield 265, 3), (57, .iaload, 1), (58, .goto 4, 3), (61, .iconst (-1), 1), (62, .ireturn, 1)]
def pmk177 : List (Nat × Instr × Nat) := [(0, .aload_n 0, 1), (1, .iload_n 2, 1), (2, .putfield 93, 3), (5, .iload_n 1, 1), (6, .ireturn, 1)]
def pmk178 : List (Nat × Instr × Nat) := [(0, .aload_n 0, 1), (1, .invokevirtual 268, 3), (4, .istore_n 1, 1), (5, .aload_n 0, 1), (6, .lconst 0, 1), (7, .putfield 272, 3), (10, .aload_n 0, 1), (11, .aload_n 0, 1), (12, .getfield 265, 3), (15, .putfield 276, 3), (18, .aload_n 0, 1), (19, .getfield 276, 3), (22, .aload_n 0, 1), (23, .getfield 249, 3), (26, .if_icmp .ge 82, 3), (29, .aload_n 0, 1), (30, .getfield 90, 3), (33, .aload_n 0, 1), (34, .getfield 276, 3), (37, .iaload, 1), (38, .i2l, 1), (39, .ldc2_w 279, 3), (42, .ldc2_w 281, 3), (45, .invokestatic 137, 3), (48, .ifCond .eq 60, 3), (51, .aload_n 0, 1), (52, .aload_n 0, 1), (53, .getfield 272, 3), (56, .ldc2_w 283, 3), (59, .lcmp, 1), (60, .ifCond .le 9, 3), (63, .ldc2_w 285, 3), (66, .goto 26, 3), (69, .ldc2_w 287, 3), (72, .aload_n 0, 1), (73, .getfield 272, 3), (76, .lmul, 1), (77, .aload_n 0, 1), (78, .getfield 90, 3), (81, .aload_n 0, 1), (82, .getfield 276, 3), (85, .iaload, 1), (86, .i2l, 1), (87, .ladd, 1), (88, .ldc2_w 289, 3), (91, .lsub, 1), (92, .putfield 272, 3), (95, .aload_n 0, 1), (96, .dup, 1), (97, .getfield 276, 3), (100, .iconst 1, 1), (101, .iadd, 1), (102, .putfield 276, 3), (105, .goto (-87), 3), (108, .return_, 1)]
def pmk179 : List (Nat × Instr × Nat) := [(0, .ldc2_w 287, 3), (3, .iload_n 0, 1), (4, .i2l, 1), (5, .ldc2_w 289, 3), (8, .lsub, 1), (9, .lmul, 1), (10, .iload_n 1, 1), (11, .i2l, 1), (12, .ladd, 1), (13, .ldc2_w 289, 3), (16, .lsub, 1), (17, .lstore 6, 2), (19, .iload_n 2, 1), (20, .ifCond .ne 8, 3), (23, .lload 6, 2), (25, .goto 16, 3), (28, .ldc2_w 287, 3), (31, .lload 6, 2), (33, .lmul, 1), (34, .iload_n 2, 1), (35, .i2l, 1), (36, .ladd, 1), (37, .ldc2_w 289, 3), (40, .lsub, 1), (41, .lstore 6, 2), (43, .iload_n 3, 1), (44, .ifCond .ne 8, 3), (47, .lload 6, 2), (49, .goto 16, 3), (52, .ldc2_w 287, 3), (55, .lload 6, 2), (57, .lmul, 1), (58, .iload_n 3, 1), (59, .i2l, 1), (60, .ladd, 1), (61, .ldc2_w 289, 3), (64, .lsub, 1), (65, .lstore 6, 2), (67, .iload 4, 2), (69, .ifCond .ne 8, 3), (72, .lload 6, 2), (74, .goto 17, 3), (77, .ldc2_w 287, 3), (80, .lload 6, 2), (82, .lmul, 1), (83, .iload 4, 2), (85, .i2l, 1), (86, .ladd, 1), (87, .ldc2_w 289, 3), (90, .lsub, 1), (91, .lstore 6, 2), (93, .iload 5, 2), (95, .ifCond .ne 8, 3), (98, .lload 6, 2), (100, .goto 17, 3), (103, .ldc2_w 287, 3), (106, .lload 6, 2), (108, .lmul, 1), (109, .iload 5, 2), (111, .i2l, 1), (112, .ladd, 1), (113, .ldc2_w 289, 3), (116, .lsub, 1), (117, .lreturn, 1)]
def pmk180 : List (Nat × Instr × Nat) := [(0, .aload_n 0, 1), (1, .invokevirtual 268, 3), (4, .istore 5, 2), (6, .iload 5, 2), (8, .i2l, 1), (9, .ldc2_w 291, 3), (12, .ldc2_w 293, 3), (15, .invokestatic 137, 3), (18, .ifCond .ne 13, 3), (21, .aload_n 0, 1), (22, .iconst 1, 1), (23, .aload_n 0, 1), (24, .getfield 265, 3), (27, .invokevirtual 295, 3), (30, .ireturn, 1), (31, .aload_n 0, 1), (32, .getfield 265, 3), (35, .istore 6, 2), (37, .aload_n 0, 1), (38, .iconst 0, 1), (39, .putfield 298, 3), (42, .aload_n 0, 1), (43, .getfield 265, 3), (46, .aload_n 0, 1), (47, .getfield 249, 3), (50, .if_icmp .ge 79, 3), (53, .aload_n 0, 1), (54, .getfield 90, 3), (57, .aload_n 0, 1), (58, .getfield 265, 3), (61, .iaload, 1), (62, .i2l, 1), (63, .ldc2_w 291, 3), (66, .ldc2_w 293, 3), (69, .invokestatic 137, 3), (72, .ifCond .eq 57, 3), (75, .aload_n 0, 1), (76, .aload_n 0, 1), (77, .getfield 298, 3), (80, .ldc_w 301, 3), (83, .if_icmp .le 10, 3), (86, .aload_n 0, 1), (87, .getfield 298, 3), (90, .goto 23, 3), (93, .bipush 10, 2), (95, .aload_n 0, 1), (96, .getfield 298, 3), (99, .imul, 1), (100, .aload_n 0, 1), (101, .getfield 90, 3), (104, .aload_n 0, 1), (105, .getfield 265, 3), (108, .iaload, 1), (109, .iadd, 1), (110, .bipush 48, 2), (112, .isub, 1), (113, .putfield 298, 3), (116, .aload_n 0, 1), (117, .dup, 1), (118, .getfield 265, 3), (121, .iconst 1, 1), (122, .iadd, 1), (123, .putfield 265, 3), (126, .goto (-84), 3), (129, .aload_n 0, 1), (130, .getfield 265, 3), (133, .iload 6, 2), (135, .isub, 1), (136, .iload_n 3, 1), (137, .if_icmp .le 11, 3), (140, .aload_n 0, 1), (141, .iconst 2, 1), (142, .iload 6, 2), (144, .invokevirtual 295, 3), (147, .ireturn, 1), (148, .aload_n 0, 1), (149, .getfield 298, 3), (152, .i2l, 1), (153, .iload_n 1, 1), (154, .i2l, 1), (155, .iload_n 2, 1), (156, .i2l, 1), (157, .invokestatic 137, 3), (160, .ifCond .eq 7, 3), (163, .iconst 0, 1), (164, .goto 11, 3), (167, .aload_n 0, 1), (168, .iload 4, 2), (170, .iload 6, 2), (172, .invokevirtual 295, 3), (175, .ireturn, 1)]
def pmk181 : List (Nat × Instr × Nat) := [(0, .aload_n 0, 1), (1, .invokevirtual 302, 3), (4, .aload_n 0, 1), (5, .getfield 272, 3), (8, .lload_n 1, 1), (9, .lcmp, 1), (10, .ifCond .eq 13, 3), (13, .aload_n 0, 1), (14, .iconst 1, 1), (15, .aload_n 0, 1), (16, .getfield 265, 3), (19, .invokevirtual 295, 3), (22, .ireturn, 1), (23, .aload_n 0, 1), (24, .aload_n 0, 1), (25, .getfield 276, 3), (28, .putfield 265, 3), (31, .iconst 0, 1), (32, .ireturn, 1)]
def pmk182 : List (Nat × Instr × Nat) := [(0, .aload_n 0, 1), (1, .getfield 272, 3), (4, .bipush 107, 2), (6, .bipush 101, 2), (8, .bipush 101, 2), (10, .bipush 112, 2), (12, .bipush 115, 2), (14, .iconst 0, 1), (15, .invokestatic 305, 3), (18, .lcmp, 1), (19, .ifCond .ne 7, 3), (22, .iconst 0, 1), (23, .goto 57, 3), (26, .aload_n 0, 1), (27, .getfield 272, 3), (30, .bipush 116, 2), (32, .bipush 117, 2), (34, .bipush 114, 2), (36, .bipush 110, 2), (38, .bipush 115, 2), (40, .iconst 0, 1), (41, .invokestatic 305, 3), (44, .lcmp, 1), (45, .ifCond .ne 7, 3), (48, .iconst 1, 1), (49, .goto 31, 3), (52, .aload_n 0, 1), (53, .getfield 272, 3), (56, .bipush 114, 2), (58, .bipush 97, 2), (60, .bipush 105, 2), (62, .bipush 115, 2), (64, .bipush 101, 2), (66, .bipush 115, 2), (68, .invokestatic 305, 3), (71, .lcmp, 1), (72, .ifCond .ne 7, 3), (75, .iconst 2, 1), (76, .goto 4, 3), (79, .iconst (-1), 1), (80, .ireturn, 1)]
def pmk183 : List (Nat × Instr × Nat) := [(0, .aload_n 0, 1), (1, .getfield 272, 3), (4, .bipush 107, 2), (6, .bipush 101, 2), (8, .bipush 121, 2), (10, .iconst 0, 1), (11, .iconst 0, 1), (12, .iconst 0, 1), (13, .invokestatic 305, 3), (16, .lcmp, 1), (17, .ifCond .ne 7, 3), (20, .iconst 0, 1), (21, .goto 131, 3), (24, .aload_n 0, 1), (25, .getfield 272, 3), (28, .bipush 97, 2), (30, .bipush 108, 2), (32, .bipush 108, 2), (34, .bipush 111, 2), (36, .bipush 119, 2), (38, .iconst 0, 1), (39, .invokestatic 305, 3), (42, .lcmp, 1), (43, .ifCond .ne 7, 3), (46, .iconst 1, 1), (47, .goto 105, 3), (50, .aload_n 0, 1), (51, .getfield 272, 3), (54, .bipush 98, 2), (56, .bipush 97, 2), (58, .bipush 114, 2), (60, .iconst 0, 1), (61, .iconst 0, 1), (62, .iconst 0, 1), (63, .invokestatic 305, 3), (66, .lcmp, 1), (67, .ifCond .ne 7, 3), (70, .iconst 2, 1), (71, .goto 81, 3), (74, .aload_n 0, 1), (75, .getfield 272, 3), (78, .bipush 110, 2), (80, .bipush 101, 2), (82, .bipush 101, 2), (84, .bipush 100, 2), (86, .iconst 0, 1), (87, .iconst 0, 1), (88, .invokestatic 305, 3), (91, .lcmp, 1), (92, .ifCond .ne 7, 3), (95, .iconst 3, 1), (96, .goto 56, 3), (99, .aload_n 0, 1), (100, .getfield 272, 3), (103, .bipush 109, 2), (105, .bipush 111, 2), (107, .bipush 115, 2), (109, .bipush 116, 2), (111, .iconst 0, 1), (112, .iconst 0, 1), (113, .invokestatic 305, 3), (116, .lcmp, 1), (117, .ifCond .ne 7, 3), (120, .iconst 4, 1), (121, .goto 31, 3), (124, .aload_n 0, 1), (125, .getfield 272, 3), (128, .bipush 115, 2), (130, .bipush 116, 2), (132, .bipush 114, 2), (134, .bipush 105, 2), (136, .bipush 107, 2), (138, .bipush 101, 2), (140, .invokestatic 305, 3), (143, .lcmp, 1), (144, .ifCond .ne 7, 3), (147, .iconst 5, 1), (148, .goto 4, 3), (151, .iconst (-1), 1), (152, .ireturn, 1)]
def pmk184 : List (Nat × Instr × Nat) := [(0, .aload_n 0, 1), (1, .iconst 0, 1), (2, .iconst 5, 1), (3, .iconst 2, 1), (4, .iconst 2, 1), (5, .invokevirtual 309, 3), (8, .istore_n 2, 1), (9, .iload_n 2, 1), (10, .ifCond .le 5, 3), (13, .iload_n 2, 1), (14, .ireturn, 1), (15, .aload_n 0, 1), (16, .getfield 58, 3), (19, .iload_n 1, 1), (20, .aload_n 0, 1), (21, .getfield 298, 3), (24, .iastore, 1), (25, .aload_n 0, 1), (26, .invokevirtual 302, 3), (29, .aload_n 0, 1), (30, .invokevirtual 313, 3), (33, .ifCond .ge 13, 3), (36, .aload_n 0, 1), (37, .iconst 1, 1), (38, .aload_n 0, 1), (39, .getfield 265, 3), (42, .invokevirtual 295, 3), (45, .ireturn, 1), (46, .aload_n 0, 1), (47, .getfield 61, 3), (50, .iload_n 1, 1), (51, .aload_n 0, 1), (52, .invokevirtual 313, 3), (55, .iastore, 1), (56, .aload_n 0, 1), (57, .aload_n 0, 1), (58, .getfield 276, 3), (61, .putfield 265, 3), (64, .iconst 0, 1), (65, .ireturn, 1)]
def pmk185 : List (Nat × Instr × Nat) := [(0, .aload_n 0, 1), (1, .iconst 0, 1), (2, .iload_n 2, 1), (3, .iconst 3, 1), (4, .if_icmp .ne 8, 3), (7, .bipush 39, 2), (9, .goto 4, 3), (12, .iconst 5, 1), (13, .iconst 2, 1), (14, .iconst 2, 1), (15, .invokevirtual 309, 3), (18, .istore_n 3, 1), (19, .aload_n 0, 1), (20, .getfield 58, 3), (23, .iload_n 1, 1), (24, .aload_n 0, 1), (25, .getfield 298, 3), (28, .iastore, 1), (29, .iload_n 3, 1), (30, .ifCond .le 7, 3), (33, .iload_n 3, 1), (34, .goto 42, 3), (37, .aload_n 0, 1), (38, .iload_n 2, 1), (39, .iconst 1, 1), (40, .if_icmp .ne 20, 3), (43, .bipush 117, 2), (45, .bipush 110, 2), (47, .bipush 100, 2), (49, .bipush 101, 2), (51, .bipush 114, 2), (53, .iconst 0, 1), (54, .invokestatic 305, 3), (57, .goto 16, 3), (60, .bipush 119, 2), (62, .bipush 105, 2), (64, .bipush 116, 2), (66, .bipush 104, 2), (68, .iconst 0, 1), (69, .iconst 0, 1), (70, .invokestatic 305, 3), (73, .invokevirtual 316, 3), (76, .istore_n 3, 1), (77, .iload_n 3, 1), (78, .ifCond .le 7, 3), (81, .iload_n 3, 1), (82, .goto 21, 3), (85, .aload_n 0, 1), (86, .iconst 0, 1), (87, .iload_n 2, 1), (88, .iconst 2, 1), (89, .if_icmp .ne 7, 3), (92, .iconst 5, 1), (93, .goto 5, 3), (96, .bipush 39, 2), (98, .iconst 2, 1), (99, .iconst 2, 1), (100, .invokevirtual 309, 3), (103, .istore_n 3, 1), (104, .aload_n 0, 1), (105, .getfield 61, 3), (108, .iload_n 1, 1), (109, .aload_n 0, 1), (110, .getfield 298, 3), (113, .iastore, 1), (114, .iload_n 3, 1), (115, .ireturn, 1)]
def pmk186 : List (Nat × Instr × Nat) := [(0, .aload_n 0, 1), (1, .invokevirtual 302, 3), (4, .aload_n 0, 1), (5, .invokevirtual 320, 3), (8, .istore_n 3, 1), (9, .iload_n 3, 1), (10, .ifCond .lt 7, 3), (13, .iload_n 2, 1), (14, .ifCond .eq 21, 3), (17, .aload_n 0, 1), (18, .iload_n 3, 1), (19, .ifCond .ge 7, 3), (22, .iconst 1, 1), (23, .goto 4, 3), (26, .iconst 4, 1), (27, .aload_n 0, 1), (28, .getfield 265, 3), (31, .invokevirtual 295, 3), (34, .ireturn, 1), (35, .aload_n 0, 1), (36, .aload_n 0, 1), (37, .getfield 276, 3), (40, .putfield 265, 3), (43, .iconst 0, 1), (44, .istore 4, 2), (46, .iload_n 3, 1), (47, .ifCond .ne 13, 3), (50, .aload_n 0, 1), (51, .iload_n 1, 1), (52, .invokevirtual 323, 3), (55, .istore 4, 2), (57, .goto 68, 3), (60, .iload_n 3, 1), (61, .iconst 4, 1), (62, .if_icmp .ge 14, 3), (65, .aload_n 0, 1), (66, .iload_n 1, 1), (67, .iload_n 3, 1), (68, .invokevirtual 326, 3), (71, .istore 4, 2), (73, .goto 52, 3), (76, .iload_n 3, 1), (77, .iconst 4, 1), (78, .if_icmp .ne 15, 3), (81, .aload_n 0, 1), (82, .iconst 1, 1), (83, .bipush 20, 2), (85, .iconst 2, 1), (86, .iconst 2, 1), (87, .invokevirtual 309, 3), (90, .goto 16, 3), (93, .aload_n 0, 1), (94, .iconst 0, 1), (95, .aload_n 0, 1), (96, .getfield 204, 3), (99, .iconst 1, 1), (100, .isub, 1), (101, .iconst 2, 1), (102, .iconst 3, 1), (103, .invokevirtual 309, 3), (106, .istore 4, 2), (108, .aload_n 0, 1), (109, .getfield 58, 3), (112, .iload_n 1, 1), (113, .aload_n 0, 1), (114, .getfield 298, 3), (117, .iastore, 1), (118, .aload_n 0, 1), (119, .getfield 61, 3), (122, .iload_n 1, 1), (123, .iconst 0, 1), (124, .iastore, 1), (125, .iload 4, 2), (127, .ifCond .le 6, 3), (130, .iload 4, 2), (132, .ireturn, 1), (133, .aload_n 0, 1), (134, .invokevirtual 268, 3), (137, .bipush 59, 2), (139, .if_icmp .eq 13, 3), (142, .aload_n 0, 1), (143, .iconst 1, 1), (144, .aload_n 0, 1), (145, .getfield 265, 3), (148, .invokevirtual 295, 3), (151, .ireturn, 1), (152, .aload_n 0, 1), (153, .dup, 1), (154, .getfield 265, 3), (157, .iconst 1, 1), (158, .iadd, 1), (159, .putfield 265, 3), (162, .aload_n 0, 1), (163, .getfield 55, 3), (166, .iload_n 1, 1), (167, .iload_n 3, 1), (168, .iastore, 1), (169, .iconst 0, 1), (170, .ireturn, 1)]
def pmk187 : List (Nat × Instr × Nat) := [(0, .iload_n 1, 1), (1, .i2l, 1), (2, .lconst 0, 1), (3, .ldc2_w 188, 3), (6, .invokestatic 137, 3), (9, .ifCond .ne 7, 3), (12, .sipush (-1002), 3), (15, .ireturn, 1), (16, .aload_n 0, 1), (17, .getfield 204, 3), (20, .bipush 8, 2), (22, .if_icmp .ne 7, 3), (25, .sipush (-1004), 3), (28, .ireturn, 1), (29, .aload_n 0, 1), (30, .iconst (-1), 1), (31, .putfield 93, 3), (34, .aload_n 0, 1), (35, .iconst 0, 1), (36, .putfield 265, 3), (39, .iconst 0, 1), (40, .istore_n 2, 1), (41, .iconst 0, 1), (42, .istore_n 3, 1), (43, .iload_n 3, 1), (44, .ifCond .ne 47, 3), (47, .aload_n 0, 1), (48, .invokevirtual 268, 3), (51, .ifCond .lt 40, 3), (54, .aload_n 0, 1), (55, .aload_n 0, 1), (56, .getfield 217, 3), (59, .iload_n 2, 1), (60, .iadd, 1), (61, .iload_n 2, 1), (62, .bipush 8, 2), (64, .if_icmp .ne 7, 3), (67, .iconst 1, 1), (68, .goto 4, 3), (71, .iconst 0, 1), (72, .invokevirtual 329, 3), (75, .istore_n 3, 1), (76, .iload_n 2, 1), (77, .iload_n 3, 1), (78, .ifCond .ne 7, 3), (81, .iconst 1, 1), (82, .goto 4, 3), (85, .iconst 0, 1), (86, .iadd, 1), (87, .istore_n 2, 1), (88, .goto (-45), 3), (91, .aload_n 0, 1), (92, .iconst 0, 1), (93, .putfield 249, 3), (96, .iload_n 3, 1), (97, .ifCond .le 8, 3), (100, .bipush (-10), 2), (102, .iload_n 3, 1), (103, .isub, 1), (104, .ireturn, 1), (105, .aload_n 0, 1), (106, .getfield 49, 3), (109, .aload_n 0, 1), (110, .getfield 204, 3), (113, .iload_n 1, 1), (114, .iastore, 1), (115, .aload_n 0, 1), (116, .getfield 52, 3), (119, .aload_n 0, 1), (120, .getfield 204, 3), (123, .aload_n 0, 1), (124, .getfield 217, 3), (127, .iastore, 1), (128, .aload_n 0, 1), (129, .dup, 1), (130, .getfield 217, 3), (133, .iload_n 2, 1), (134, .iadd, 1), (135, .putfield 217, 3), (138, .aload_n 0, 1), (139, .dup, 1), (140, .getfield 204, 3), (143, .iconst 1, 1), (144, .iadd, 1), (145, .putfield 204, 3), (148, .aload_n 0, 1), (149, .getfield 52, 3), (152, .aload_n 0, 1), (153, .getfield 204, 3), (156, .aload_n 0, 1), (157, .getfield 217, 3), (160, .iastore, 1), (161, .aload_n 0, 1), (162, .getfield 204, 3), (165, .iconst 1, 1), (166, .isub, 1), (167, .ireturn, 1)]
def pmk188 : List (Nat × Instr × Nat) := [(0, .aload_n 0, 1), (1, .getfield 93, 3), (4, .ireturn, 1)]
def pmk189 : List (Nat × Instr × Nat) := [(0, .iload_n 1, 1), (1, .i2l, 1), (2, .lconst 0, 1), (3, .ldc2_w 188, 3), (6, .invokestatic 137, 3), (9, .ifCond .eq 15, 3), (12, .iload_n 2, 1), (13, .i2l, 1), (14, .lconst 0, 1), (15, .ldc2_w 188, 3), (18, .invokestatic 137, 3), (21, .ifCond .ne 7, 3), (24, .sipush (-1002), 3), (27, .ireturn, 1), (28, .aload_n 0, 1), (29, .iload_n 1, 1), (30, .invokevirtual 229, 3), (33, .iload_n 2, 1), (34, .bipush 7, 2), (36, .if_icmp .ge 23, 3), (39, .iload_n 2, 1), (40, .ifCond .ne 10, 3), (43, .aload_n 0, 1), (44, .getfield 210, 3), (47, .goto 11, 3), (50, .aload_n 0, 1), (51, .getfield 68, 3), (54, .iload_n 2, 1), (55, .iconst 1, 1), (56, .isub, 1), (57, .iaload, 1), (58, .ireturn, 1), (59, .iconst 0, 1), (60, .istore_n 3, 1), (61, .iconst 0, 1), (62, .istore 4, 2), (64, .iload 4, 2), (66, .aload_n 0, 1), (67, .getfield 217, 3), (70, .if_icmp .ge 30, 3), (73, .iload_n 3, 1), (74, .aload_n 0, 1), (75, .iload 4, 2), (77, .iload_n 2, 1), (78, .bipush 6, 2), (80, .isub, 1), (81, .invokevirtual 220, 3), (84, .ifCond .eq 7, 3), (87, .iconst 1, 1), (88, .goto 4, 3), (91, .iconst 0, 1), (92, .iadd, 1), (93, .istore_n 3, 1), (94, .iinc 4 1, 3), (97, .goto (-33), 3), (100, .iload_n 3, 1), (101, .ireturn, 1)]
def pmk190 : List (Nat × Instr × Nat) := [(0, .iload_n 0, 1), (1, .i2l, 1), (2, .lconst 0, 1), (3, .ldc2_w 333, 3), (6, .invokestatic 137, 3), (9, .ifCond .eq 19, 3), (12, .iload_n 1, 1), (13, .i2l, 1), (14, .lconst 0, 1), (15, .ldc2_w 335, 3), (18, .invokestatic 137, 3), (21, .ifCond .eq 7, 3), (24, .iconst 1, 1), (25, .goto 4, 3), (28, .iconst 0, 1), (29, .ireturn, 1)]
def pmk191 : List (Nat × Instr × Nat) := [(0, .iconst 0, 1), (1, .istore_n 3, 1), (2, .iconst 0, 1), (3, .istore 4, 2), (5, .iload 4, 2), (7, .aload_n 0, 1), (8, .getfield 252, 3), (11, .if_icmp .ge 33, 3), (14, .iload_n 3, 1), (15, .aload_n 0, 1), (16, .getfield 97, 3), (19, .iload 4, 2), (21, .iaload, 1), (22, .bipush 100, 2), (24, .iload_n 1, 1), (25, .imul, 1), (26, .iload_n 2, 1), (27, .iadd, 1), (28, .if_icmp .ne 7, 3), (31, .iconst 1, 1), (32, .goto 4, 3), (35, .iconst 0, 1), (36, .iadd, 1), (37, .istore_n 3, 1), (38, .iinc 4 1, 3), (41, .goto (-36), 3), (44, .iload_n 3, 1), (45, .ireturn, 1)]
def pmk192 : List (Nat × Instr × Nat) := [(0, .aload_n 0, 1), (1, .iload_n 3, 1), (2, .invokevirtual 148, 3), (5, .ifCond .ne 7, 3), (8, .sipush (-1001), 3), (11, .ireturn, 1), (12, .iload_n 1, 1), (13, .iload_n 2, 1), (14, .invokestatic 337, 3), (17, .ifCond .ne 7, 3), (20, .sipush (-1002), 3), (23, .ireturn, 1), (24, .iconst 0, 1), (25, .istore 4, 2), (27, .iload 4, 2), (29, .aload_n 0, 1), (30, .getfield 252, 3), (33, .if_icmp .ge 40, 3), (36, .aload_n 0, 1), (37, .getfield 97, 3), (40, .iload 4, 2), (42, .iaload, 1), (43, .bipush 100, 2), (45, .iload_n 1, 1), (46, .imul, 1), (47, .iload_n 2, 1), (48, .iadd, 1), (49, .if_icmp .ne 18, 3), (52, .aload_n 0, 1), (53, .getfield 100, 3), (56, .iload 4, 2), (58, .iaload, 1), (59, .iload_n 3, 1), (60, .if_icmp .ne 7, 3), (63, .sipush (-1003), 3), (66, .ireturn, 1), (67, .iinc 4 1, 3), (70, .goto (-43), 3), (73, .aload_n 0, 1), (74, .getfield 252, 3), (77, .bipush 60, 2), (79, .if_icmp .ne 7, 3), (82, .sipush (-1004), 3), (85, .ireturn, 1), (86, .aload_n 0, 1), (87, .getfield 97, 3), (90, .aload_n 0, 1), (91, .getfield 252, 3), (94, .bipush 100, 2), (96, .iload_n 1, 1), (97, .imul, 1), (98, .iload_n 2, 1), (99, .iadd, 1), (100, .iastore, 1), (101, .aload_n 0, 1), (102, .getfield 100, 3), (105, .aload_n 0, 1), (106, .getfield 252, 3), (109, .iload_n 3, 1), (110, .iastore, 1), (111, .aload_n 0, 1), (112, .dup, 1), (113, .getfield 252, 3), (116, .iconst 1, 1), (117, .iadd, 1), (118, .putfield 252, 3), (121, .aload_n 0, 1), (122, .iload_n 1, 1), (123, .iload_n 2, 1), (124, .invokevirtual 340, 3), (127, .ireturn, 1)]
def pmk193 : List (Nat × Instr × Nat) := [(0, .iload_n 1, 1), (1, .iload_n 2, 1), (2, .invokestatic 337, 3), (5, .ifCond .ne 7, 3), (8, .sipush (-1002), 3), (11, .ireturn, 1), (12, .aload_n 0, 1), (13, .iload_n 1, 1), (14, .iload_n 2, 1), (15, .invokevirtual 340, 3), (18, .istore_n 3, 1), (19, .iload_n 3, 1), (20, .iconst 2, 1), (21, .if_icmp .le 7, 3), (24, .iconst 2, 1), (25, .goto 4, 3), (28, .iload_n 3, 1), (29, .ireturn, 1)]
def pmk194 : List (Nat × Instr × Nat) := [(0, .aload_n 0, 1), (1, .getfield 106, 3), (4, .bipush 110, 2), (6, .aload_n 0, 1), (7, .getfield 255, 3), (10, .imul, 1), (11, .aload_n 0, 1), (12, .getfield 343, 3), (15, .iadd, 1), (16, .iload_n 1, 1), (17, .iastore, 1), (18, .aload_n 0, 1), (19, .getfield 109, 3), (22, .bipush 110, 2), (24, .aload_n 0, 1), (25, .getfield 255, 3), (28, .imul, 1), (29, .aload_n 0, 1), (30, .getfield 343, 3), (33, .iadd, 1), (34, .iload_n 2, 1), (35, .iastore, 1), (36, .aload_n 0, 1), (37, .dup, 1), (38, .getfield 343, 3), (41, .iconst 1, 1), (42, .iadd, 1), (43, .putfield 343, 3), (46, .return_, 1)]
def pmk195 : List (Nat × Instr × Nat) := [(0, .aload_n 0, 1), (1, .getfield 346, 3), (4, .ifCond .le 60, 3), (7, .aload_n 0, 1), (8, .getfield 112, 3), (11, .aload_n 0, 1), (12, .getfield 346, 3), (15, .iconst 1, 1), (16, .isub, 1), (17, .iaload, 1), (18, .iconst 3, 1), (19, .if_icmp .eq 45, 3), (22, .aload_n 0, 1), (23, .getfield 112, 3), (26, .aload_n 0, 1), (27, .getfield 346, 3), (30, .iconst 1, 1), (31, .isub, 1), (32, .iaload, 1), (33, .iload_n 1, 1), (34, .if_icmp .lt 30, 3), (37, .aload_n 0, 1), (38, .dup, 1), (39, .getfield 346, 3), (42, .iconst 1, 1), (43, .isub, 1), (44, .putfield 346, 3), (47, .aload_n 0, 1), (48, .aload_n 0, 1), (49, .getfield 112, 3), (52, .aload_n 0, 1), (53, .getfield 346, 3), (56, .iaload, 1), (57, .iconst 0, 1), (58, .invokevirtual 349, 3), (61, .goto (-61), 3), (64, .return_, 1)]
def pmk196 : List (Nat × Instr × Nat) := [(0, .aload_n 0, 1), (1, .getfield 112, 3), (4, .aload_n 0, 1), (5, .getfield 346, 3), (8, .iload_n 1, 1), (9, .iastore, 1), (10, .aload_n 0, 1), (11, .dup, 1), (12, .getfield 346, 3), (15, .iconst 1, 1), (16, .iadd, 1), (17, .putfield 346, 3), (20, .return_, 1)]
def pmk197 : List (Nat × Instr × Nat) := [(0, .aload_n 0, 1), (1, .getfield 272, 3), (4, .bipush 109, 2), (6, .bipush 97, 2), (8, .bipush 114, 2), (10, .bipush 107, 2), (12, .iconst 0, 1), (13, .iconst 0, 1), (14, .invokestatic 305, 3), (17, .lcmp, 1), (18, .ifCond .ne 7, 3), (21, .iconst 3, 1), (22, .goto 106, 3), (25, .aload_n 0, 1), (26, .getfield 272, 3), (29, .bipush 119, 2), (31, .bipush 111, 2), (33, .bipush 114, 2), (35, .bipush 100, 2), (37, .iconst 0, 1), (38, .iconst 0, 1), (39, .invokestatic 305, 3), (42, .lcmp, 1), (43, .ifCond .ne 7, 3), (46, .iconst 4, 1), (47, .goto 81, 3), (50, .aload_n 0, 1), (51, .getfield 272, 3), (54, .bipush 104, 2), (56, .bipush 97, 2), (58, .bipush 110, 2), (60, .bipush 100, 2), (62, .iconst 0, 1), (63, .iconst 0, 1), (64, .invokestatic 305, 3), (67, .lcmp, 1), (68, .ifCond .ne 7, 3), (71, .iconst 5, 1), (72, .goto 56, 3), (75, .aload_n 0, 1), (76, .getfield 272, 3), (79, .bipush 98, 2), (81, .bipush 101, 2), (83, .bipush 102, 2), (85, .bipush 111, 2), (87, .bipush 114, 2), (89, .bipush 101, 2), (91, .invokestatic 305, 3), (94, .lcmp, 1), (95, .ifCond .ne 8, 3), (98, .bipush 6, 2), (100, .goto 28, 3), (103, .aload_n 0, 1), (104, .getfield 272, 3), (107, .bipush 97, 2), (109, .bipush 116, 2), (111, .iconst 0, 1), (112, .iconst 0, 1), (113, .iconst 0, 1), (114, .iconst 0, 1), (115, .invokestatic 305, 3), (118, .lcmp, 1), (119, .ifCond .ne 8, 3), (122, .bipush 7, 2), (124, .goto 4, 3), (127, .iconst (-1), 1), (128, .istore_n 1, 1), (129, .iload_n 1, 1), (130, .ifCond .ge 13, 3), (133, .aload_n 0, 1), (134, .iconst 1, 1), (135, .aload_n 0, 1), (136, .getfield 265, 3), (139, .invokevirtual 295, 3), (142, .ireturn, 1), (143, .aload_n 0, 1), (144, .aload_n 0, 1), (145, .getfield 276, 3), (148, .putfield 265, 3), (151, .aload_n 0, 1), (152, .iconst 0, 1), (153, .iload_n 1, 1), (154, .iconst 3, 1), (155, .if_icmp .ne 8, 3), (158, .bipush 39, 2), (160, .goto 36, 3), (163, .iload_n 1, 1), (164, .iconst 4, 1), (165, .if_icmp .ne 7, 3), (168, .iconst 3, 1), (169, .goto 27, 3), (172, .iload_n 1, 1), (173, .iconst 5, 1), (174, .if_icmp .ne 8, 3), (177, .bipush 7, 2), (179, .goto 17, 3), (182, .iload_n 1, 1), (183, .bipush 6, 2), (185, .if_icmp .ne 9, 3), (188, .sipush 999, 3), (191, .goto 5, 3), (194, .bipush 9, 2), (196, .iconst 3, 1), (197, .iconst 2, 1), (198, .invokevirtual 309, 3), (201, .istore_n 2, 1), (202, .aload_n 0, 1), (203, .getfield 298, 3), (206, .istore_n 3, 1), (207, .iload_n 1, 1), (208, .iconst 4, 1), (209, .if_icmp .ne 27, 3), (212, .iload_n 2, 1), (213, .ifCond .ne 23, 3), (216, .aload_n 0, 1), (217, .iconst 0, 1), (218, .bipush 99, 2), (220, .iconst 3, 1), (221, .iconst 2, 1), (222, .invokevirtual 309, 3), (225, .istore_n 2, 1), (226, .bipush 100, 2), (228, .iload_n 3, 1), (229, .imul, 1), (230, .aload_n 0, 1), (231, .getfield 298, 3), (234, .iadd, 1), (235, .istore_n 3, 1), (236, .iload_n 2, 1), (237, .ifCond .ne 19, 3), (240, .aload_n 0, 1), (241, .iload_n 1, 1), (242, .iload_n 3, 1), (243, .invokevirtual 349, 3), (246, .aload_n 0, 1), (247, .iconst 2, 1), (248, .invokevirtual 352, 3), (251, .aload_n 0, 1), (252, .iconst 0, 1), (253, .putfield 355, 3), (256, .iload_n 2, 1), (257, .ireturn, 1)]
def pmk198 : List (Nat × Instr × Nat) := [(0, .aload_n 0, 1), (1, .invokevirtual 302, 3), (4, .aload_n 0, 1), (5, .getfield 272, 3), (8, .bipush 110, 2), (10, .bipush 111, 2), (12, .bipush 116, 2), (14, .iconst 0, 1), (15, .iconst 0, 1), (16, .iconst 0, 1), (17, .invokestatic 305, 3), (20, .lcmp, 1), (21, .ifCond .ne 18, 3), (24, .aload_n 0, 1), (25, .aload_n 0, 1), (26, .getfield 276, 3), (29, .putfield 265, 3), (32, .aload_n 0, 1), (33, .iconst 2, 1), (34, .invokevirtual 359, 3), (37, .iconst 0, 1), (38, .ireturn, 1), (39, .aload_n 0, 1), (40, .invokevirtual 268, 3), (43, .bipush 40, 2), (45, .if_icmp .ne 48, 3), (48, .aload_n 0, 1), (49, .getfield 362, 3), (52, .iconst 5, 1), (53, .if_icmp .ne 13, 3), (56, .aload_n 0, 1), (57, .iconst 5, 1), (58, .aload_n 0, 1), (59, .getfield 265, 3), (62, .invokevirtual 295, 3), (65, .ireturn, 1), (66, .aload_n 0, 1), (67, .dup, 1), (68, .getfield 362, 3), (71, .iconst 1, 1), (72, .iadd, 1), (73, .putfield 362, 3), (76, .aload_n 0, 1), (77, .dup, 1), (78, .getfield 265, 3), (81, .iconst 1, 1), (82, .iadd, 1), (83, .putfield 265, 3), (86, .aload_n 0, 1), (87, .iconst 3, 1), (88, .invokevirtual 359, 3), (91, .iconst 0, 1), (92, .ireturn, 1), (93, .aload_n 0, 1), (94, .invokevirtual 365, 3), (97, .ireturn, 1)]
def pmk199 : List (Nat × Instr × Nat) := [(0, .aload_n 0, 1), (1, .invokevirtual 302, 3), (4, .aload_n 0, 1), (5, .getfield 272, 3), (8, .bipush 97, 2), (10, .bipush 110, 2), (12, .bipush 100, 2), (14, .iconst 0, 1), (15, .iconst 0, 1), (16, .iconst 0, 1), (17, .invokestatic 305, 3), (20, .lcmp, 1), (21, .ifCond .ne 7, 3), (24, .iconst 1, 1), (25, .goto 4, 3), (28, .iconst 0, 1), (29, .istore_n 1, 1), (30, .iload_n 1, 1), (31, .ifCond .ne 22, 3), (34, .aload_n 0, 1), (35, .getfield 272, 3), (38, .bipush 111, 2), (40, .bipush 114, 2), (42, .iconst 0, 1), (43, .iconst 0, 1), (44, .iconst 0, 1), (45, .iconst 0, 1), (46, .invokestatic 305, 3), (49, .lcmp, 1), (50, .ifCond .ne 44, 3), (53, .aload_n 0, 1), (54, .aload_n 0, 1), (55, .getfield 276, 3), (58, .putfield 265, 3), (61, .aload_n 0, 1), (62, .iload_n 1, 1), (63, .ifCond .eq 7, 3), (66, .iconst 1, 1), (67, .goto 4, 3), (70, .iconst 0, 1), (71, .invokevirtual 352, 3), (74, .aload_n 0, 1), (75, .iload_n 1, 1), (76, .ifCond .eq 7, 3), (79, .iconst 1, 1), (80, .goto 4, 3), (83, .iconst 0, 1), (84, .invokevirtual 359, 3), (87, .aload_n 0, 1), (88, .iconst 1, 1), (89, .putfield 355, 3), (92, .iconst 0, 1), (93, .ireturn, 1), (94, .aload_n 0, 1), (95, .invokevirtual 268, 3), (98, .bipush 41, 2), (100, .if_icmp .ne 52, 3), (103, .aload_n 0, 1), (104, .getfield 362, 3), (107, .ifCond .le 45, 3), (110, .aload_n 0, 1), (111, .dup, 1), (112, .getfield 265, 3), (115, .iconst 1, 1), (116, .iadd, 1), (117, .putfield 265, 3), (120, .aload_n 0, 1), (121, .dup, 1), (122, .getfield 362, 3), (125, .iconst 1, 1), (126, .isub, 1), (127, .putfield 362, 3), (130, .aload_n 0, 1), (131, .iconst 0, 1), (132, .invokevirtual 352, 3), (135, .aload_n 0, 1), (136, .dup, 1), (137, .getfield 346, 3), (140, .iconst 1, 1), (141, .isub, 1), (142, .putfield 346, 3), (145, .aload_n 0, 1), (146, .iconst 2, 1), (147, .invokevirtual 352, 3), (150, .iconst 0, 1), (151, .ireturn, 1), (152, .aload_n 0, 1), (153, .iconst 1, 1), (154, .aload_n 0, 1), (155, .getfield 265, 3), (158, .invokevirtual 295, 3), (161, .ireturn, 1)]
def pmk200 : List (Nat × Instr × Nat) := [(0, .aload_n 0, 1), (1, .getfield 249, 3), (4, .bipush 100, 2), (6, .if_icmp .le 7, 3), (9, .sipush (-1003), 3), (12, .ireturn, 1), (13, .aload_n 0, 1), (14, .getfield 255, 3), (17, .bipush 8, 2), (19, .if_icmp .ne 7, 3), (22, .sipush (-1004), 3), (25, .ireturn, 1), (26, .aload_n 0, 1), (27, .iconst (-1), 1), (28, .putfield 93, 3), (31, .aload_n 0, 1), (32, .iconst 0, 1), (33, .putfield 265, 3), (36, .aload_n 0, 1), (37, .iconst 0, 1), (38, .putfield 343, 3), (41, .aload_n 0, 1), (42, .iconst 0, 1), (43, .putfield 346, 3), (46, .aload_n 0, 1), (47, .iconst 0, 1), (48, .putfield 362, 3), (51, .aload_n 0, 1), (52, .iconst 1, 1), (53, .putfield 355, 3), (56, .iconst 0, 1), (57, .istore_n 1, 1), (58, .iload_n 1, 1), (59, .ifCond .ne 46, 3), (62, .aload_n 0, 1), (63, .getfield 355, 3), (66, .ifCond .ne 17, 3), (69, .aload_n 0, 1), (70, .getfield 362, 3), (73, .ifCond .gt 10, 3), (76, .aload_n 0, 1), (77, .invokevirtual 268, 3), (80, .ifCond .lt 25, 3), (83, .aload_n 0, 1), (84, .getfield 355, 3), (87, .ifCond .eq 10, 3), (90, .aload_n 0, 1), (91, .invokevirtual 368, 3), (94, .goto 7, 3), (97, .aload_n 0, 1), (98, .invokevirtual 371, 3), (101, .istore_n 1, 1), (102, .goto (-44), 3), (105, .aload_n 0, 1), (106, .iconst 0, 1), (107, .putfield 249, 3), (110, .iload_n 1, 1), (111, .ifCond .le 8, 3), (114, .bipush (-10), 2), (116, .iload_n 1, 1), (117, .isub, 1), (118, .ireturn, 1), (119, .aload_n 0, 1), (120, .iconst 0, 1), (121, .invokevirtual 352, 3), (124, .aload_n 0, 1), (125, .getfield 103, 3), (128, .aload_n 0, 1), (129, .getfield 255, 3), (132, .aload_n 0, 1), (133, .getfield 343, 3), (136, .iastore, 1), (137, .aload_n 0, 1), (138, .dup, 1), (139, .getfield 255, 3), (142, .iconst 1, 1), (143, .iadd, 1), (144, .putfield 255, 3), (147, .aload_n 0, 1), (148, .getfield 255, 3), (151, .iconst 1, 1), (152, .isub, 1), (153, .ireturn, 1)]
def pmk201 : List (Nat × Instr × Nat) := [(0, .iconst 0, 1), (1, .istore 4, 2), (3, .iconst 0, 1), (4, .istore 5, 2), (6, .iload 5, 2), (8, .aload_n 0, 1), (9, .getfield 178, 3), (12, .if_icmp .ge 54, 3), (15, .iload 4, 2), (17, .ifCond .ne 36, 3), (20, .aload_n 0, 1), (21, .getfield 31, 3), (24, .iload 5, 2), (26, .iaload, 1), (27, .iload_n 1, 1), (28, .if_icmp .ne 29, 3), (31, .aload_n 0, 1), (32, .getfield 37, 3), (35, .iload 5, 2), (37, .iaload, 1), (38, .iload_n 2, 1), (39, .if_icmp .ne 18, 3), (42, .aload_n 0, 1), (43, .getfield 43, 3), (46, .iload 5, 2), (48, .iaload, 1), (49, .iload_n 3, 1), (50, .if_icmp .gt 7, 3), (53, .iconst 1, 1), (54, .goto 4, 3), (57, .iconst 0, 1), (58, .istore 4, 2), (60, .iinc 5 1, 3), (63, .goto (-57), 3), (66, .iload 4, 2), (68, .ireturn, 1)]
def pmk202 : List (Nat × Instr × Nat) := [(0, .iconst 0, 1), (1, .istore_n 3, 1), (2, .iconst 0, 1), (3, .istore 4, 2), (5, .iload 4, 2), (7, .aload_n 0, 1), (8, .getfield 252, 3), (11, .if_icmp .ge 45, 3), (14, .iload_n 3, 1), (15, .ifCond .ne 29, 3), (18, .aload_n 0, 1), (19, .getfield 97, 3), (22, .iload 4, 2), (24, .iaload, 1), (25, .iload_n 2, 1), (26, .if_icmp .ne 22, 3), (29, .aload_n 0, 1), (30, .iload_n 1, 1), (31, .aload_n 0, 1), (32, .getfield 100, 3), (35, .iload 4, 2), (37, .iaload, 1), (38, .invokevirtual 241, 3), (41, .ifCond .eq 7, 3), (44, .iconst 1, 1), (45, .goto 4, 3), (48, .iconst 0, 1), (49, .istore_n 3, 1), (50, .iinc 4 1, 3), (53, .goto (-48), 3), (56, .iload_n 3, 1), (57, .ireturn, 1)]
def pmk203 : List (Nat × Instr × Nat) := [(0, .iconst 0, 1), (1, .istore 4, 2), (3, .iconst 0, 1), (4, .istore 5, 2), (6, .iload 5, 2), (8, .aload_n 0, 1), (9, .getfield 103, 3), (12, .iload_n 1, 1), (13, .iaload, 1), (14, .if_icmp .ge 256, 3), (17, .aload_n 0, 1), (18, .getfield 106, 3), (21, .bipush 110, 2), (23, .iload_n 1, 1), (24, .imul, 1), (25, .iload 5, 2), (27, .iadd, 1), (28, .iaload, 1), (29, .istore 6, 2), (31, .aload_n 0, 1), (32, .getfield 109, 3), (35, .bipush 110, 2), (37, .iload_n 1, 1), (38, .imul, 1), (39, .iload 5, 2), (41, .iadd, 1), (42, .iaload, 1), (43, .istore 7, 2), (45, .iload 6, 2), (47, .iconst 2, 1), (48, .if_icmp .ge 80, 3), (51, .iinc 4 (-1), 3), (54, .aload_n 0, 1), (55, .getfield 115, 3), (58, .iload 4, 2), (60, .iconst 1, 1), (61, .isub, 1), (62, .iload 6, 2), (64, .ifCond .ne 33, 3), (67, .aload_n 0, 1), (68, .getfield 115, 3), (71, .iload 4, 2), (73, .iconst 1, 1), (74, .isub, 1), (75, .baload, 1), (76, .ifCond .ne 13, 3), (79, .aload_n 0, 1), (80, .getfield 115, 3), (83, .iload 4, 2), (85, .baload, 1), (86, .ifCond .eq 7, 3), (89, .iconst 1, 1), (90, .goto 34, 3), (93, .iconst 0, 1), (94, .goto 30, 3), (97, .aload_n 0, 1), (98, .getfield 115, 3), (101, .iload 4, 2), (103, .iconst 1, 1), (104, .isub, 1), (105, .baload, 1), (106, .ifCond .eq 17, 3), (109, .aload_n 0, 1), (110, .getfield 115, 3), (113, .iload 4, 2), (115, .baload, 1), (116, .ifCond .eq 7, 3), (119, .iconst 1, 1), (120, .goto 4, 3), (123, .iconst 0, 1), (124, .bastore, 1), (125, .goto 139, 3), (128, .iload 6, 2), (130, .iconst 2, 1), (131, .if_icmp .ne 32, 3), (134, .aload_n 0, 1), (135, .getfield 115, 3), (138, .iload 4, 2), (140, .iconst 1, 1), (141, .isub, 1), (142, .aload_n 0, 1), (143, .getfield 115, 3), (146, .iload 4, 2), (148, .iconst 1, 1), (149, .isub, 1), (150, .baload, 1), (151, .ifCond .ne 7, 3), (154, .iconst 1, 1), (155, .goto 4, 3), (158, .iconst 0, 1), (159, .bastore, 1), (160, .goto 104, 3), (163, .aload_n 0, 1), (164, .getfield 115, 3), (167, .iload 4, 2), (169, .iload 6, 2), (171, .iconst 3, 1), (172, .if_icmp .ne 13, 3), (175, .aload_n 0, 1), (176, .iload_n 2, 1), (177, .iload 7, 2), (179, .invokevirtual 241, 3), (182, .goto 78, 3), (185, .iload 6, 2), (187, .iconst 4, 1), (188, .if_icmp .ne 13, 3), (191, .aload_n 0, 1), (192, .iload_n 2, 1), (193, .iload 7, 2), (195, .invokevirtual 374, 3), (198, .goto 62, 3), (201, .iload 6, 2), (203, .iconst 5, 1), (204, .if_icmp .ne 14, 3), (207, .aload_n 0, 1), (208, .iload_n 2, 1), (209, .iload 7, 2), (211, .iload_n 3, 1), (212, .invokevirtual 377, 3), (215, .goto 45, 3), (218, .iload 6, 2), (220, .bipush 6, 2), (222, .if_icmp .ne 22, 3), (225, .aload_n 0, 1), (226, .getfield 22, 3), (229, .iload_n 2, 1), (230, .iaload, 1), (231, .iload 7, 2), (233, .if_icmp .ge 7, 3), (236, .iconst 1, 1), (237, .goto 23, 3), (240, .iconst 0, 1), (241, .goto 19, 3), (244, .aload_n 0, 1), (245, .getfield 25, 3), (248, .iload_n 2, 1), (249, .iaload, 1), (250, .iload 7, 2), (252, .if_icmp .ne 7, 3), (255, .iconst 1, 1), (256, .goto 4, 3), (259, .iconst 0, 1), (260, .bastore, 1), (261, .iinc 4 1, 3), (264, .iinc 5 1, 3), (267, .goto (-261), 3), (270, .aload_n 0, 1), (271, .getfield 115, 3), (274, .iconst 0, 1), (275, .baload, 1), (276, .ireturn, 1)]
def pmk204 : List (Nat × Instr × Nat) := [(0, .iload_n 1, 1), (1, .i2l, 1), (2, .lconst 0, 1), (3, .aload_n 0, 1), (4, .getfield 255, 3), (7, .iconst 1, 1), (8, .isub, 1), (9, .i2l, 1), (10, .invokestatic 137, 3), (13, .ifCond .ne 7, 3), (16, .sipush (-1001), 3), (19, .ireturn, 1), (20, .aload_n 0, 1), (21, .iload_n 2, 1), (22, .invokevirtual 167, 3), (25, .ifCond .ne 7, 3), (28, .sipush (-1002), 3), (31, .ireturn, 1), (32, .aload_n 0, 1), (33, .iload_n 2, 1), (34, .invokevirtual 238, 3), (37, .iconst 0, 1), (38, .istore 4, 2), (40, .iconst 0, 1), (41, .istore 5, 2), (43, .iload 5, 2), (45, .aload_n 0, 1), (46, .getfield 175, 3), (49, .if_icmp .ge 32, 3), (52, .aload_n 0, 1), (53, .iload_n 1, 1), (54, .iload 5, 2), (56, .iload_n 2, 1), (57, .invokevirtual 380, 3), (60, .ifCond .eq 15, 3), (63, .iload 4, 2), (65, .iload_n 3, 1), (66, .if_icmp .ne 6, 3), (69, .iload 5, 2), (71, .ireturn, 1), (72, .iinc 4 1, 3), (75, .iinc 5 1, 3), (78, .goto (-35), 3), (81, .iload_n 3, 1), (82, .iconst (-1), 1), (83, .if_icmp .ne 8, 3), (86, .iload 4, 2), (88, .goto 4, 3), (91, .iconst (-1), 1), (92, .ireturn, 1)]
def pmk205 : List (Nat × Instr × Nat) := [(0, .iconst 0, 1), (1, .istore 5, 2), (3, .iconst 0, 1), (4, .istore 6, 2), (6, .iload 6, 2), (8, .aload_n 0, 1), (9, .getfield 178, 3), (12, .if_icmp .ge 70, 3), (15, .iload 5, 2), (17, .ifCond .ne 52, 3), (20, .aload_n 0, 1), (21, .getfield 31, 3), (24, .iload 6, 2), (26, .iaload, 1), (27, .iload_n 2, 1), (28, .if_icmp .ne 45, 3), (31, .aload_n 0, 1), (32, .getfield 37, 3), (35, .iload 6, 2), (37, .iaload, 1), (38, .iload_n 1, 1), (39, .if_icmp .ne 34, 3), (42, .aload_n 0, 1), (43, .getfield 80, 3), (46, .iload 6, 2), (48, .iaload, 1), (49, .ifCond .lt 24, 3), (52, .aload_n 0, 1), (53, .aload_n 0, 1), (54, .getfield 80, 3), (57, .iload 6, 2), (59, .iaload, 1), (60, .iload_n 3, 1), (61, .iload 4, 2), (63, .invokevirtual 156, 3), (66, .ifCond .eq 7, 3), (69, .iconst 1, 1), (70, .goto 4, 3), (73, .iconst 0, 1), (74, .istore 5, 2), (76, .iinc 6 1, 3), (79, .goto (-73), 3), (82, .iload 5, 2), (84, .ireturn, 1)]
def pmk206 : List (Nat × Instr × Nat) := [(0, .aload_n 0, 1), (1, .iload_n 3, 1), (2, .invokevirtual 148, 3), (5, .ifCond .ne 7, 3), (8, .sipush (-1001), 3), (11, .ireturn, 1), (12, .iload_n 1, 1), (13, .invokestatic 190, 3), (16, .ifCond .eq 37, 3), (19, .iload_n 2, 1), (20, .invokestatic 190, 3), (23, .ifCond .eq 30, 3), (26, .iload_n 1, 1), (27, .iload_n 2, 1), (28, .if_icmp .eq 25, 3), (31, .aload_n 0, 1), (32, .iload 4, 2), (34, .invokevirtual 167, 3), (37, .ifCond .eq 16, 3), (40, .iload 5, 2), (42, .i2l, 1), (43, .lconst 0, 1), (44, .ldc2_w 383, 3), (47, .invokestatic 137, 3), (50, .ifCond .ne 7, 3), (53, .sipush (-1002), 3), (56, .ireturn, 1), (57, .aload_n 0, 1), (58, .iload 4, 2), (60, .invokevirtual 238, 3), (63, .iconst 0, 1), (64, .istore 6, 2), (66, .iconst 0, 1), (67, .istore 7, 2), (69, .iconst 0, 1), (70, .istore 8, 2), (72, .iconst 0, 1), (73, .istore 9, 2), (75, .iconst 0, 1), (76, .istore 10, 2), (78, .iload 10, 2), (80, .aload_n 0, 1), (81, .getfield 175, 3), (84, .if_icmp .ge 110, 3), (87, .aload_n 0, 1), (88, .iload 10, 2), (90, .iload_n 1, 1), (91, .iload 4, 2), (93, .invokevirtual 377, 3), (96, .ifCond .eq 92, 3), (99, .aload_n 0, 1), (100, .iload 10, 2), (102, .iload_n 2, 1), (103, .iload 4, 2), (105, .invokevirtual 377, 3), (108, .ifCond .eq 80, 3), (111, .aload_n 0, 1), (112, .iload_n 1, 1), (113, .iload 10, 2), (115, .iload_n 3, 1), (116, .iload 4, 2), (118, .invokevirtual 385, 3), (121, .istore 11, 2), (123, .aload_n 0, 1), (124, .iload_n 2, 1), (125, .iload 10, 2), (127, .iload_n 3, 1), (128, .iload 4, 2), (130, .invokevirtual 385, 3), (133, .istore 12, 2), (135, .iinc 6 1, 3), (138, .iload 7, 2), (140, .iload 11, 2), (142, .ifCond .eq 7, 3), (145, .iconst 1, 1), (146, .goto 4, 3), (149, .iconst 0, 1), (150, .iadd, 1), (151, .istore 7, 2), (153, .iload 8, 2), (155, .iload 12, 2), (157, .ifCond .eq 7, 3), (160, .iconst 1, 1), (161, .goto 4, 3), (164, .iconst 0, 1), (165, .iadd, 1), (166, .istore 8, 2), (168, .iload 9, 2), (170, .iload 11, 2), (172, .ifCond .eq 12, 3), (175, .iload 12, 2), (177, .ifCond .eq 7, 3), (180, .iconst 1, 1), (181, .goto 4, 3), (184, .iconst 0, 1), (185, .iadd, 1), (186, .istore 9, 2), (188, .iinc 10 1, 3), (191, .goto (-113), 3), (194, .iload 9, 2), (196, .ifCond .ne 7, 3), (199, .iconst (-1), 1), (200, .goto 17, 3), (203, .iload 7, 2), (205, .iload 9, 2), (207, .isub, 1), (208, .iload 8, 2), (210, .iload 9, 2), (212, .isub, 1), (213, .imul, 1), (214, .iload 9, 2), (216, .idiv, 1), (217, .istore 10, 2), (219, .iload 5, 2), (221, .ifCond .ne 8, 3), (224, .iload 6, 2), (226, .goto 38, 3), (229, .iload 5, 2), (231, .iconst 1, 1), (232, .if_icmp .ne 8, 3), (235, .iload 7, 2), (237, .goto 27, 3), (240, .iload 5, 2), (242, .iconst 2, 1), (243, .if_icmp .ne 8, 3), (246, .iload 8, 2), (248, .goto 16, 3), (251, .iload 5, 2), (253, .iconst 3, 1), (254, .if_icmp .ne 8, 3), (257, .iload 9, 2), (259, .goto 5, 3), (262, .iload 10, 2), (264, .ireturn, 1)]
def pmk207 : List (Nat × Instr × Nat) := [(0, .aload_n 0, 1), (1, .iconst 0, 1), (2, .putfield 389, 3), (5, .aload_n 0, 1), (6, .iconst 0, 1), (7, .putfield 392, 3), (10, .aload_n 0, 1), (11, .iconst 0, 1), (12, .putfield 395, 3), (15, .aload_n 0, 1), (16, .iconst 0, 1), (17, .putfield 398, 3), (20, .iconst 0, 1), (21, .istore 5, 2), (23, .iload 5, 2), (25, .aload_n 0, 1), (26, .getfield 175, 3), (29, .if_icmp .ge 120, 3), (32, .aload_n 0, 1), (33, .getfield 22, 3), (36, .iload 5, 2), (38, .iaload, 1), (39, .i2l, 1), (40, .iload_n 3, 1), (41, .i2l, 1), (42, .iload 4, 2), (44, .i2l, 1), (45, .invokestatic 137, 3), (48, .ifCond .eq 95, 3), (51, .aload_n 0, 1), (52, .dup, 1), (53, .getfield 398, 3), (56, .iconst 1, 1), (57, .iadd, 1), (58, .putfield 398, 3), (61, .aload_n 0, 1), (62, .dup, 1), (63, .getfield 389, 3), (66, .aload_n 0, 1), (67, .iload 5, 2), (69, .iload_n 1, 1), (70, .invokevirtual 241, 3), (73, .ifCond .eq 7, 3), (76, .iconst 1, 1), (77, .goto 4, 3), (80, .iconst 0, 1), (81, .iadd, 1), (82, .putfield 389, 3), (85, .aload_n 0, 1), (86, .dup, 1), (87, .getfield 392, 3), (90, .aload_n 0, 1), (91, .iload 5, 2), (93, .iload_n 2, 1), (94, .invokevirtual 241, 3), (97, .ifCond .eq 7, 3), (100, .iconst 1, 1), (101, .goto 4, 3), (104, .iconst 0, 1), (105, .iadd, 1), (106, .putfield 392, 3), (109, .aload_n 0, 1), (110, .dup, 1), (111, .getfield 395, 3), (114, .aload_n 0, 1), (115, .iload 5, 2), (117, .iload_n 1, 1), (118, .invokevirtual 241, 3), (121, .ifCond .eq 17, 3), (124, .aload_n 0, 1), (125, .iload 5, 2), (127, .iload_n 2, 1), (128, .invokevirtual 241, 3), (131, .ifCond .eq 7, 3), (134, .iconst 1, 1), (135, .goto 4, 3), (138, .iconst 0, 1), (139, .iadd, 1), (140, .putfield 395, 3), (143, .iinc 5 1, 3), (146, .goto (-123), 3), (149, .aload_n 0, 1), (150, .getfield 395, 3), (153, .aload_n 0, 1), (154, .getfield 398, 3), (157, .imul, 1), (158, .aload_n 0, 1), (159, .getfield 389, 3), (162, .aload_n 0, 1), (163, .getfield 392, 3), (166, .imul, 1), (167, .if_icmp .le 7, 3), (170, .iconst 1, 1), (171, .goto 4, 3), (174, .iconst 0, 1), (175, .ireturn, 1)]
def pmk208 : List (Nat × Instr × Nat) := [(0, .aload_n 0, 1), (1, .iload_n 1, 1), (2, .invokevirtual 148, 3), (5, .ifCond .eq 11, 3), (8, .aload_n 0, 1), (9, .iload_n 2, 1), (10, .invokevirtual 148, 3), (13, .ifCond .ne 7, 3), (16, .sipush (-1001), 3), (19, .ireturn, 1), (20, .aload_n 0, 1), (21, .iload_n 3, 1), (22, .invokevirtual 167, 3), (25, .ifCond .eq 42, 3), (28, .iload 5, 2), (30, .i2l, 1), (31, .lconst 0, 1), (32, .ldc2_w 186, 3), (35, .invokestatic 137, 3), (38, .ifCond .eq 29, 3), (41, .iload 4, 2), (43, .i2l, 1), (44, .lconst 0, 1), (45, .iload 5, 2), (47, .i2l, 1), (48, .invokestatic 137, 3), (51, .ifCond .eq 16, 3), (54, .iload 6, 2), (56, .i2l, 1), (57, .lconst 0, 1), (58, .ldc2_w 383, 3), (61, .invokestatic 137, 3), (64, .ifCond .ne 7, 3), (67, .sipush (-1002), 3), (70, .ireturn, 1), (71, .aload_n 0, 1), (72, .iload_n 3, 1), (73, .invokevirtual 238, 3), (76, .aload_n 0, 1), (77, .iload_n 1, 1), (78, .iload_n 2, 1), (79, .iload 4, 2), (81, .iload 5, 2), (83, .invokevirtual 401, 3), (86, .istore 7, 2), (88, .iload 6, 2), (90, .ifCond .ne 10, 3), (93, .aload_n 0, 1), (94, .getfield 389, 3), (97, .goto 52, 3), (100, .iload 6, 2), (102, .iconst 1, 1), (103, .if_icmp .ne 10, 3), (106, .aload_n 0, 1), (107, .getfield 392, 3), (110, .goto 39, 3), (113, .iload 6, 2), (115, .iconst 2, 1), (116, .if_icmp .ne 10, 3), (119, .aload_n 0, 1), (120, .getfield 395, 3), (123, .goto 26, 3), (126, .iload 6, 2), (128, .iconst 3, 1), (129, .if_icmp .ne 10, 3), (132, .aload_n 0, 1), (133, .getfield 398, 3), (136, .goto 13, 3), (139, .iload 7, 2), (141, .ifCond .eq 7, 3), (144, .iconst 1, 1), (145, .goto 4, 3), (148, .iconst 0, 1), (149, .ireturn, 1)]
def pmk209 : List (Nat × Instr × Nat) := [(0, .aload_n 0, 1), (1, .iload_n 2, 1), (2, .iload_n 3, 1), (3, .invokevirtual 160, 3), (6, .ifCond .eq 27, 3), (9, .aload_n 0, 1), (10, .iload_n 2, 1), (11, .iload_n 1, 1), (12, .iload_n 3, 1), (13, .invokevirtual 156, 3), (16, .ifCond .ne 17, 3), (19, .aload_n 0, 1), (20, .iload_n 1, 1), (21, .iload_n 2, 1), (22, .iload_n 3, 1), (23, .invokevirtual 156, 3), (26, .ifCond .ne 7, 3), (29, .iconst 1, 1), (30, .goto 4, 3), (33, .iconst 0, 1), (34, .ireturn, 1)]
def pmk210 : List (Nat × Instr × Nat) := [(0, .aload_n 0, 1), (1, .iload_n 1, 1), (2, .iload_n 2, 1), (3, .iload_n 3, 1), (4, .invokevirtual 404, 3), (7, .ifCond .eq 20, 3), (10, .aload_n 0, 1), (11, .iload_n 1, 1), (12, .iload_n 2, 1), (13, .iconst 0, 1), (14, .sipush 999, 3), (17, .invokevirtual 401, 3), (20, .ifCond .eq 7, 3), (23, .iconst 1, 1), (24, .goto 4, 3), (27, .iconst 0, 1), (28, .ireturn, 1)]
def pmk211 : List (Nat × Instr × Nat) := [(0, .aload_n 0, 1), (1, .iload_n 1, 1), (2, .invokevirtual 148, 3), (5, .ifCond .ne 7, 3), (8, .sipush (-1001), 3), (11, .ireturn, 1), (12, .aload_n 0, 1), (13, .iload_n 2, 1), (14, .invokevirtual 167, 3), (17, .ifCond .ne 7, 3), (20, .sipush (-1002), 3), (23, .ireturn, 1), (24, .aload_n 0, 1), (25, .iload_n 2, 1), (26, .invokevirtual 238, 3), (29, .iconst 0, 1), (30, .istore 4, 2), (32, .iconst 0, 1), (33, .istore 5, 2), (35, .iload 5, 2), (37, .aload_n 0, 1), (38, .getfield 134, 3), (41, .if_icmp .ge 32, 3), (44, .aload_n 0, 1), (45, .iload_n 1, 1), (46, .iload 5, 2), (48, .iload_n 2, 1), (49, .invokevirtual 407, 3), (52, .ifCond .eq 15, 3), (55, .iload 4, 2), (57, .iload_n 3, 1), (58, .if_icmp .ne 6, 3), (61, .iload 5, 2), (63, .ireturn, 1), (64, .iinc 4 1, 3), (67, .iinc 5 1, 3), (70, .goto (-35), 3), (73, .iload_n 3, 1), (74, .iconst (-1), 1), (75, .if_icmp .ne 8, 3), (78, .iload 4, 2), (80, .goto 4, 3), (83, .iconst (-1), 1), (84, .ireturn, 1)]
def pmk212 : List (Nat × Instr × Nat) := [(0, .aload_n 0, 1), (1, .iload_n 1, 1), (2, .invokevirtual 148, 3), (5, .ifCond .ne 7, 3), (8, .sipush (-1001), 3), (11, .ireturn, 1), (12, .aload_n 0, 1), (13, .iload_n 2, 1), (14, .invokevirtual 167, 3), (17, .ifCond .ne 7, 3), (20, .sipush (-1002), 3), (23, .ireturn, 1), (24, .aload_n 0, 1), (25, .iload_n 2, 1), (26, .invokevirtual 238, 3), (29, .iconst 0, 1), (30, .istore 4, 2), (32, .iload 4, 2), (34, .aload_n 0, 1), (35, .getfield 175, 3), (38, .if_icmp .ge 17, 3), (41, .aload_n 0, 1), (42, .getfield 118, 3), (45, .iload 4, 2), (47, .iconst 0, 1), (48, .iastore, 1), (49, .iinc 4 1, 3), (52, .goto (-20), 3), (55, .iconst 0, 1), (56, .istore 4, 2), (58, .iload 4, 2), (60, .aload_n 0, 1), (61, .getfield 134, 3), (64, .if_icmp .ge 78, 3), (67, .aload_n 0, 1), (68, .iload_n 1, 1), (69, .iload 4, 2), (71, .iload_n 2, 1), (72, .invokevirtual 407, 3), (75, .istore 5, 2), (77, .iconst 0, 1), (78, .istore 6, 2), (80, .iload 6, 2), (82, .aload_n 0, 1), (83, .getfield 175, 3), (86, .if_icmp .ge 50, 3), (89, .iload 5, 2), (91, .ifCond .eq 45, 3), (94, .aload_n 0, 1), (95, .getfield 118, 3), (98, .iload 6, 2), (100, .dup2, 1), (101, .iaload, 1), (102, .aload_n 0, 1), (103, .iload 6, 2), (105, .iload_n 1, 1), (106, .invokevirtual 241, 3), (109, .ifCond .ne 18, 3), (112, .aload_n 0, 1), (113, .iload 6, 2), (115, .iload 4, 2), (117, .invokevirtual 241, 3), (120, .ifCond .eq 7, 3), (123, .iconst 1, 1), (124, .goto 4, 3), (127, .iconst 0, 1), (128, .iadd, 1), (129, .iastore, 1), (130, .iinc 6 1, 3), (133, .goto (-53), 3), (136, .iinc 4 1, 3), (139, .goto (-81), 3), (142, .iconst 0, 1), (143, .istore 4, 2), (145, .bipush 40, 2), (147, .istore 5, 2), (149, .iload 5, 2), (151, .ifCond .le 51, 3), (154, .iconst 0, 1), (155, .istore 6, 2), (157, .iload 6, 2), (159, .aload_n 0, 1), (160, .getfield 175, 3), (163, .if_icmp .ge 33, 3), (166, .aload_n 0, 1), (167, .getfield 118, 3), (170, .iload 6, 2), (172, .iaload, 1), (173, .iload 5, 2), (175, .if_icmp .ne 15, 3), (178, .iload 4, 2), (180, .iload_n 3, 1), (181, .if_icmp .ne 6, 3), (184, .iload 6, 2), (186, .ireturn, 1), (187, .iinc 4 1, 3), (190, .iinc 6 1, 3), (193, .goto (-36), 3), (196, .iinc 5 (-1), 3), (199, .goto (-50), 3), (202, .iload_n 3, 1), (203, .iconst (-1), 1), (204, .if_icmp .ne 8, 3), (207, .iload 4, 2), (209, .goto 4, 3), (212, .iconst (-1), 1), (213, .ireturn, 1)]
def pmk213 : List (Nat × Instr × Nat) := [(0, .iload_n 1, 1), (1, .istore_n 2, 1), (2, .aload_n 0, 1), (3, .getfield 28, 3), (6, .iload_n 2, 1), (7, .iaload, 1), (8, .ifCond .lt 13, 3), (11, .aload_n 0, 1), (12, .getfield 28, 3), (15, .iload_n 2, 1), (16, .iaload, 1), (17, .istore_n 2, 1), (18, .goto (-16), 3), (21, .iload_n 2, 1), (22, .ireturn, 1)]
def pmk214 : List (Nat × Instr × Nat) := [(0, .aload_n 0, 1), (1, .iload_n 1, 1), (2, .invokevirtual 183, 3), (5, .ifCond .ne 7, 3), (8, .ldc2_w 410, 3), (11, .lreturn, 1), (12, .aload_n 0, 1), (13, .iload_n 2, 1), (14, .invokevirtual 167, 3), (17, .ifCond .ne 7, 3), (20, .ldc2_w 412, 3), (23, .lreturn, 1), (24, .aload_n 0, 1), (25, .iload_n 2, 1), (26, .invokevirtual 238, 3), (29, .lconst 0, 1), (30, .lstore_n 3, 1), (31, .iconst 0, 1), (32, .istore 5, 2), (34, .iload 5, 2), (36, .aload_n 0, 1), (37, .getfield 178, 3), (40, .if_icmp .ge 92, 3), (43, .aload_n 0, 1), (44, .getfield 31, 3), (47, .iload 5, 2), (49, .iaload, 1), (50, .iload_n 1, 1), (51, .if_icmp .eq 36, 3), (54, .aload_n 0, 1), (55, .aload_n 0, 1), (56, .getfield 31, 3), (59, .iload 5, 2), (61, .iaload, 1), (62, .invokevirtual 414, 3), (65, .aload_n 0, 1), (66, .iload_n 1, 1), (67, .invokevirtual 414, 3), (70, .if_icmp .ne 17, 3), (73, .aload_n 0, 1), (74, .getfield 80, 3), (77, .iload 5, 2), (79, .iaload, 1), (80, .ifCond .lt 7, 3), (83, .iconst 1, 1), (84, .goto 4, 3), (87, .iconst 0, 1), (88, .istore 6, 2), (90, .lload_n 3, 1), (91, .iload 6, 2), (93, .ifCond .eq 30, 3), (96, .aload_n 0, 1), (97, .iload_n 1, 1), (98, .aload_n 0, 1), (99, .getfield 80, 3), (102, .iload 5, 2), (104, .iaload, 1), (105, .invokevirtual 241, 3), (108, .ifCond .ne 15, 3), (111, .lconst 1, 1), (112, .aload_n 0, 1), (113, .getfield 80, 3), (116, .iload 5, 2), (118, .iaload, 1), (119, .lshl, 1), (120, .goto 4, 3), (123, .lconst 0, 1), (124, .lor, 1), (125, .lstore_n 3, 1), (126, .iinc 5 1, 3), (129, .goto (-95), 3), (132, .lload_n 3, 1), (133, .lreturn, 1)]
def pmk215 : List (Nat × Instr × Nat) := [(0, .aload_n 0, 1), (1, .getfield 258, 3), (4, .iconst 4, 1), (5, .if_icmp .ne 7, 3), (8, .sipush (-1004), 3), (11, .ireturn, 1), (12, .aload_n 0, 1), (13, .getfield 121, 3), (16, .aload_n 0, 1), (17, .getfield 258, 3), (20, .iconst 0, 1), (21, .iastore, 1), (22, .aload_n 0, 1), (23, .dup, 1), (24, .getfield 258, 3), (27, .iconst 1, 1), (28, .iadd, 1), (29, .putfield 258, 3), (32, .aload_n 0, 1), (33, .getfield 258, 3), (36, .iconst 1, 1), (37, .isub, 1), (38, .ireturn, 1)]
def pmk216 : List (Nat × Instr × Nat) := [(0, .iload_n 1, 1), (1, .i2l, 1), (2, .lconst 0, 1), (3, .aload_n 0, 1), (4, .getfield 258, 3), (7, .iconst 1, 1), (8, .isub, 1), (9, .i2l, 1), (10, .invokestatic 137, 3), (13, .ifCond .eq 11, 3), (16, .aload_n 0, 1), (17, .iload_n 3, 1), (18, .invokevirtual 148, 3), (21, .ifCond .ne 7, 3), (24, .sipush (-1001), 3), (27, .ireturn, 1), (28, .iload_n 2, 1), (29, .i2l, 1), (30, .lconst 0, 1), (31, .aload_n 0, 1), (32, .getfield 121, 3), (35, .iload_n 1, 1), (36, .iaload, 1), (37, .i2l, 1), (38, .invokestatic 137, 3), (41, .ifCond .ne 7, 3), (44, .sipush (-1002), 3), (47, .ireturn, 1), (48, .iconst 5, 1), (49, .iload_n 1, 1), (50, .imul, 1), (51, .iload_n 2, 1), (52, .iadd, 1), (53, .istore 4, 2), (55, .iload_n 2, 1), (56, .iconst 5, 1), (57, .if_icmp .eq 24, 3), (60, .iload_n 2, 1), (61, .aload_n 0, 1), (62, .getfield 121, 3), (65, .iload_n 1, 1), (66, .iaload, 1), (67, .if_icmp .ge 18, 3), (70, .aload_n 0, 1), (71, .getfield 124, 3), (74, .iload 4, 2), (76, .iaload, 1), (77, .iconst 3, 1), (78, .if_icmp .ne 7, 3), (81, .sipush (-1004), 3), (84, .ireturn, 1), (85, .iload_n 2, 1), (86, .aload_n 0, 1), (87, .getfield 121, 3), (90, .iload_n 1, 1), (91, .iaload, 1), (92, .if_icmp .ne 21, 3), (95, .aload_n 0, 1), (96, .getfield 121, 3), (99, .iload_n 1, 1), (100, .dup2, 1), (101, .iaload, 1), (102, .iconst 1, 1), (103, .iadd, 1), (104, .iastore, 1), (105, .aload_n 0, 1), (106, .getfield 124, 3), (109, .iload 4, 2), (111, .iconst 0, 1), (112, .iastore, 1), (113, .aload_n 0, 1), (114, .getfield 127, 3), (117, .iconst 3, 1), (118, .iload 4, 2), (120, .imul, 1), (121, .aload_n 0, 1), (122, .getfield 124, 3), (125, .iload 4, 2), (127, .iaload, 1), (128, .iadd, 1), (129, .iload_n 3, 1), (130, .iastore, 1), (131, .aload_n 0, 1), (132, .getfield 124, 3), (135, .iload 4, 2), (137, .dup2, 1), (138, .iaload, 1), (139, .iconst 1, 1), (140, .iadd, 1), (141, .iastore, 1), (142, .aload_n 0, 1), (143, .getfield 124, 3), (146, .iload 4, 2), (148, .iaload, 1), (149, .ireturn, 1)]
def pmk217 : List (Nat × Instr × Nat) := [(0, .aload_n 0, 1), (1, .iload_n 1, 1), (2, .invokevirtual 183, 3), (5, .ifCond .eq 19, 3), (8, .iload_n 2, 1), (9, .i2l, 1), (10, .lconst 0, 1), (11, .aload_n 0, 1), (12, .getfield 258, 3), (15, .iconst 1, 1), (16, .isub, 1), (17, .i2l, 1), (18, .invokestatic 137, 3), (21, .ifCond .ne 7, 3), (24, .sipush (-1001), 3), (27, .ireturn, 1), (28, .aload_n 0, 1), (29, .iload_n 3, 1), (30, .invokevirtual 167, 3), (33, .ifCond .eq 16, 3), (36, .iload 4, 2), (38, .i2l, 1), (39, .lconst 0, 1), (40, .ldc2_w 244, 3), (43, .invokestatic 137, 3), (46, .ifCond .ne 7, 3), (49, .sipush (-1002), 3), (52, .ireturn, 1), (53, .aload_n 0, 1), (54, .iload_n 3, 1), (55, .invokevirtual 238, 3), (58, .iconst 0, 1), (59, .istore 5, 2), (61, .iconst (-1), 1), (62, .istore 6, 2), (64, .iconst 0, 1), (65, .istore 7, 2), (67, .iload 7, 2), (69, .aload_n 0, 1), (70, .getfield 121, 3), (73, .iload_n 2, 1), (74, .iaload, 1), (75, .if_icmp .ge 125, 3), (78, .aload_n 0, 1), (79, .getfield 124, 3), (82, .iconst 5, 1), (83, .iload_n 2, 1), (84, .imul, 1), (85, .iload 7, 2), (87, .iadd, 1), (88, .iaload, 1), (89, .ifCond .le 7, 3), (92, .iconst 1, 1), (93, .goto 4, 3), (96, .iconst 0, 1), (97, .istore 8, 2), (99, .iconst 0, 1), (100, .istore 9, 2), (102, .iload 9, 2), (104, .aload_n 0, 1), (105, .getfield 124, 3), (108, .iconst 5, 1), (109, .iload_n 2, 1), (110, .imul, 1), (111, .iload 7, 2), (113, .iadd, 1), (114, .iaload, 1), (115, .if_icmp .ge 45, 3), (118, .iload 8, 2), (120, .ifCond .eq 31, 3), (123, .aload_n 0, 1), (124, .iload_n 1, 1), (125, .aload_n 0, 1), (126, .getfield 127, 3), (129, .iconst 3, 1), (130, .iconst 5, 1), (131, .iload_n 2, 1), (132, .imul, 1), (133, .iload 7, 2), (135, .iadd, 1), (136, .imul, 1), (137, .iload 9, 2), (139, .iadd, 1), (140, .iaload, 1), (141, .invokevirtual 241, 3), (144, .ifCond .eq 7, 3), (147, .iconst 1, 1), (148, .goto 4, 3), (151, .iconst 0, 1), (152, .istore 8, 2), (154, .iinc 9 1, 3), (157, .goto (-55), 3), (160, .iload 5, 2), (162, .iload 8, 2), (164, .ifCond .eq 7, 3), (167, .iconst 1, 1), (168, .goto 4, 3), (171, .iconst 0, 1), (172, .iadd, 1), (173, .istore 5, 2), (175, .iload 8, 2), (177, .ifCond .eq 13, 3), (180, .iload 6, 2), (182, .ifCond .ge 8, 3), (185, .iload 7, 2), (187, .goto 5, 3), (190, .iload 6, 2), (192, .istore 6, 2), (194, .iinc 7 1, 3), (197, .goto (-130), 3), (200, .iload 4, 2), (202, .ifCond .ne 8, 3), (205, .iload 5, 2), (207, .goto 25, 3), (210, .iload 4, 2), (212, .iconst 1, 1), (213, .if_icmp .ne 8, 3), (216, .iload 6, 2), (218, .goto 14, 3), (221, .iload 5, 2), (223, .iconst 1, 1), (224, .if_icmp .ne 7, 3), (227, .iconst 1, 1), (228, .goto 4, 3), (231, .iconst 0, 1), (232, .ireturn, 1)]
def pmk218 : List (Nat × Instr × Nat) := [(0, .aload_n 0, 1), (1, .iload_n 1, 1), (2, .invokevirtual 148, 3), (5, .ifCond .ne 7, 3), (8, .sipush (-1001), 3), (11, .ireturn, 1), (12, .aload_n 0, 1), (13, .iload_n 2, 1), (14, .invokevirtual 167, 3), (17, .ifCond .eq 13, 3), (20, .iload_n 3, 1), (21, .i2l, 1), (22, .lconst 0, 1), (23, .lconst 1, 1), (24, .invokestatic 137, 3), (27, .ifCond .ne 7, 3), (30, .sipush (-1002), 3), (33, .ireturn, 1), (34, .aload_n 0, 1), (35, .iload_n 2, 1), (36, .invokevirtual 238, 3), (39, .iconst (-1), 1), (40, .istore 4, 2), (42, .iconst (-1), 1), (43, .istore 5, 2), (45, .iconst 0, 1), (46, .istore 6, 2), (48, .iload 6, 2), (50, .aload_n 0, 1), (51, .getfield 134, 3), (54, .if_icmp .ge 142, 3), (57, .iconst 0, 1), (58, .istore 7, 2), (60, .iconst 0, 1), (61, .istore 8, 2), (63, .iconst 0, 1), (64, .istore 9, 2), (66, .iload 9, 2), (68, .aload_n 0, 1), (69, .getfield 175, 3), (72, .if_icmp .ge 71, 3), (75, .iload 7, 2), (77, .aload_n 0, 1), (78, .iload 9, 2), (80, .iload_n 1, 1), (81, .invokevirtual 241, 3), (84, .ifCond .eq 18, 3), (87, .aload_n 0, 1), (88, .iload 9, 2), (90, .iload 6, 2), (92, .invokevirtual 241, 3), (95, .ifCond .eq 7, 3), (98, .iconst 1, 1), (99, .goto 4, 3), (102, .iconst 0, 1), (103, .iadd, 1), (104, .istore 7, 2), (106, .iload 8, 2), (108, .aload_n 0, 1), (109, .iload 9, 2), (111, .iload_n 1, 1), (112, .invokevirtual 241, 3), (115, .ifCond .eq 18, 3), (118, .aload_n 0, 1), (119, .iload 9, 2), (121, .iload 6, 2), (123, .invokevirtual 241, 3), (126, .ifCond .ne 7, 3), (129, .iconst 1, 1), (130, .goto 4, 3), (133, .iconst 0, 1), (134, .iadd, 1), (135, .istore 8, 2), (137, .iinc 9 1, 3), (140, .goto (-74), 3), (143, .iload 7, 2), (145, .iload 8, 2), (147, .if_icmp .le 8, 3), (150, .iload 7, 2), (152, .goto 5, 3), (155, .iload 8, 2), (157, .istore 9, 2), (159, .aload_n 0, 1), (160, .iload_n 1, 1), (161, .iload 6, 2), (163, .iload_n 2, 1), (164, .invokevirtual 404, 3), (167, .ifCond .eq 23, 3), (170, .iload 4, 2), (172, .ifCond .lt 10, 3), (175, .iload 9, 2), (177, .iload 5, 2), (179, .if_icmp .ge 11, 3), (182, .iload 6, 2), (184, .istore 4, 2), (186, .iload 9, 2), (188, .istore 5, 2), (190, .iinc 6 1, 3), (193, .goto (-145), 3), (196, .iload_n 3, 1), (197, .ifCond .ne 8, 3), (200, .iload 4, 2), (202, .goto 5, 3), (205, .iload 5, 2), (207, .ireturn, 1)]
def pmk219 : List (Nat × Instr × Nat) := [(0, .lload_n 0, 1), (1, .lload_n 0, 1), (2, .iconst 1, 1), (3, .lushr, 1), (4, .ldc2_w 314, 3), (7, .land, 1), (8, .lsub, 1), (9, .lstore_n 0, 1), (10, .lload_n 0, 1), (11, .ldc2_w 316, 3), (14, .land, 1), (15, .lload_n 0, 1), (16, .iconst 2, 1), (17, .lushr, 1), (18, .ldc2_w 316, 3), (21, .land, 1), (22, .ladd, 1), (23, .lstore_n 0, 1), (24, .lload_n 0, 1), (25, .lload_n 0, 1), (26, .iconst 4, 1), (27, .lushr, 1), (28, .ladd, 1), (29, .ldc2_w 318, 3), (32, .land, 1), (33, .lstore_n 0, 1), (34, .lload_n 0, 1), (35, .lload_n 0, 1), (36, .bipush 8, 2), (38, .lushr, 1), (39, .ladd, 1), (40, .lstore_n 0, 1), (41, .lload_n 0, 1), (42, .lload_n 0, 1), (43, .bipush 16, 2), (45, .lushr, 1), (46, .ladd, 1), (47, .lstore_n 0, 1), (48, .lload_n 0, 1), (49, .lload_n 0, 1), (50, .bipush 32, 2), (52, .lushr, 1), (53, .ladd, 1), (54, .lstore_n 0, 1), (55, .lload_n 0, 1), (56, .l2i, 1), (57, .bipush 127, 2), (59, .iand, 1), (60, .ireturn, 1)]
def pmk220 : List (Nat × Instr × Nat) := [(0, .iload_n 0, 1), (1, .iload_n 1, 1), (2, .if_icmp .lt 7, 3), (5, .iload_n 0, 1), (6, .goto 4, 3), (9, .iload_n 1, 1), (10, .ireturn, 1)]
def pmk221 : List (Nat × Instr × Nat) := [(0, .iload_n 0, 1), (1, .iload_n 1, 1), (2, .if_icmp .gt 7, 3), (5, .iload_n 0, 1), (6, .goto 4, 3), (9, .iload_n 1, 1), (10, .ireturn, 1)]
def pmk222 : List (Nat × Instr × Nat) := [(0, .iconst 0, 1), (1, .istore_n 3, 1), (2, .aload_n 0, 1), (3, .arraylength, 1), (4, .istore 4, 2), (6, .iload_n 3, 1), (7, .iload 4, 2), (9, .if_icmp .ge 13, 3), (12, .aload_n 0, 1), (13, .iload_n 3, 1), (14, .lload_n 1, 1), (15, .lastore, 1), (16, .iinc 3 1, 3), (19, .goto (-13), 3), (22, .return_, 1)]
def pmk223 : List (Nat × Instr × Nat) := [(0, .iconst 0, 1), (1, .istore_n 2, 1), (2, .aload_n 0, 1), (3, .arraylength, 1), (4, .istore_n 3, 1), (5, .iload_n 2, 1), (6, .iload_n 3, 1), (7, .if_icmp .ge 13, 3), (10, .aload_n 0, 1), (11, .iload_n 2, 1), (12, .iload_n 1, 1), (13, .iastore, 1), (14, .iinc 2 1, 3), (17, .goto (-12), 3), (20, .return_, 1)]
def pmk224_0 : List (Nat × Instr × Nat) := [(0, .new 7, 3), (3, .dup, 1), (4, .invokespecial 9, 3), (7, .astore_n 1, 1), (8, .new 10, 3), (11, .dup, 1), (12, .invokespecial 12, 3), (15, .astore_n 2, 1), (16, .iconst 0, 1), (17, .istore_n 3, 1), (18, .iload_n 3, 1), (19, .aload_n 0, 1), (20, .arraylength, 1), (21, .bipush 7, 2), (23, .isub, 1), (24, .if_icmp .gt 1283, 3), (27, .aload_n 0, 1), (28, .iload_n 3, 1), (29, .iaload, 1), (30, .bipush 31, 2), (32, .iand, 1), (33, .tableswitch 1268 0 29 #[135, 148, 171, 204, 237, 280, 323, 366, 419, 452, 485, 528, 571, 594, 657, 680, 693, 726, 769, 802, 815, 858, 921, 996, 1039, 1082, 1116, 1129, 1172, 1225], 135), (168, .aload_n 1, 1), (169, .invokevirtual 13, 3), (172, .aload_n 2, 1), (173, .invokevirtual 17, 3), (176, .if_icmp .eq 1125, 3), (179, .iconst 0, 1), (180, .ireturn, 1), (181, .aload_n 1, 1), (182, .aload_n 0, 1), (183, .iload_n 3, 1), (184, .iconst 1, 1), (185, .iadd, 1), (186, .iaload, 1), (187, .invokevirtual 18, 3), (190, .aload_n 2, 1), (191, .aload_n 0, 1), (192, .iload_n 3, 1), (193, .iconst 1, 1), (194, .iadd, 1), (195, .iaload, 1), (196, .invokevirtual 22, 3), (199, .if_icmp .eq 1102, 3), (202, .iconst 0, 1), (203, .ireturn, 1), (204, .aload_n 1, 1), (205, .aload_n 0, 1), (206, .iload_n 3, 1), (207, .iconst 1, 1), (208, .iadd, 1), (209, .iaload, 1), (210, .aload_n 0, 1), (211, .iload_n 3, 1), (212, .iconst 2, 1), (213, .iadd, 1), (214, .iaload, 1), (215, .invokevirtual 23, 3), (218, .aload_n 2, 1), (219, .aload_n 0, 1), (220, .iload_n 3, 1), (221, .iconst 1, 1), (222, .iadd, 1), (223, .iaload, 1), (224, .aload_n 0, 1), (225, .iload_n 3, 1), (226, .iconst 2, 1), (227, .iadd, 1), (228, .iaload, 1), (229, .invokevirtual 27, 3), (232, .if_icmp .eq 1069, 3), (235, .iconst 0, 1), (236, .ireturn, 1), (237, .aload_n 1, 1), (238, .aload_n 0, 1), (239, .iload_n 3, 1), (240, .iconst 1, 1), (241, .iadd, 1), (242, .iaload, 1), (243, .aload_n 0, 1)]
def pmk224_1 : List (Nat × Instr × Nat) := [(244, .iload_n 3, 1), (245, .iconst 2, 1), (246, .iadd, 1), (247, .iaload, 1), (248, .invokevirtual 28, 3), (251, .aload_n 2, 1), (252, .aload_n 0, 1), (253, .iload_n 3, 1), (254, .iconst 1, 1), (255, .iadd, 1), (256, .iaload, 1), (257, .aload_n 0, 1), (258, .iload_n 3, 1), (259, .iconst 2, 1), (260, .iadd, 1), (261, .iaload, 1), (262, .invokevirtual 31, 3), (265, .if_icmp .eq 1036, 3), (268, .iconst 0, 1), (269, .ireturn, 1), (270, .aload_n 1, 1), (271, .aload_n 0, 1), (272, .iload_n 3, 1), (273, .iconst 1, 1), (274, .iadd, 1), (275, .iaload, 1), (276, .aload_n 0, 1), (277, .iload_n 3, 1), (278, .iconst 2, 1), (279, .iadd, 1), (280, .iaload, 1), (281, .aload_n 0, 1), (282, .iload_n 3, 1), (283, .iconst 3, 1), (284, .iadd, 1), (285, .iaload, 1), (286, .invokevirtual 32, 3), (289, .aload_n 2, 1), (290, .aload_n 0, 1), (291, .iload_n 3, 1), (292, .iconst 1, 1), (293, .iadd, 1), (294, .iaload, 1), (295, .aload_n 0, 1), (296, .iload_n 3, 1), (297, .iconst 2, 1), (298, .iadd, 1), (299, .iaload, 1), (300, .aload_n 0, 1), (301, .iload_n 3, 1), (302, .iconst 3, 1), (303, .iadd, 1), (304, .iaload, 1), (305, .invokevirtual 36, 3), (308, .if_icmp .eq 993, 3), (311, .iconst 0, 1), (312, .ireturn, 1), (313, .aload_n 1, 1), (314, .aload_n 0, 1), (315, .iload_n 3, 1), (316, .iconst 1, 1), (317, .iadd, 1), (318, .iaload, 1), (319, .aload_n 0, 1), (320, .iload_n 3, 1), (321, .iconst 2, 1), (322, .iadd, 1), (323, .iaload, 1), (324, .aload_n 0, 1), (325, .iload_n 3, 1), (326, .iconst 3, 1), (327, .iadd, 1), (328, .iaload, 1), (329, .invokevirtual 37, 3), (332, .aload_n 2, 1), (333, .aload_n 0, 1), (334, .iload_n 3, 1), (335, .iconst 1, 1), (336, .iadd, 1), (337, .iaload, 1)]
def pmk224_2 : List (Nat × Instr × Nat) := [(338, .aload_n 0, 1), (339, .iload_n 3, 1), (340, .iconst 2, 1), (341, .iadd, 1), (342, .iaload, 1), (343, .aload_n 0, 1), (344, .iload_n 3, 1), (345, .iconst 3, 1), (346, .iadd, 1), (347, .iaload, 1), (348, .invokevirtual 40, 3), (351, .if_icmp .eq 950, 3), (354, .iconst 0, 1), (355, .ireturn, 1), (356, .aload_n 1, 1), (357, .aload_n 0, 1), (358, .iload_n 3, 1), (359, .iconst 1, 1), (360, .iadd, 1), (361, .iaload, 1), (362, .aload_n 0, 1), (363, .iload_n 3, 1), (364, .iconst 2, 1), (365, .iadd, 1), (366, .iaload, 1), (367, .aload_n 0, 1), (368, .iload_n 3, 1), (369, .iconst 3, 1), (370, .iadd, 1), (371, .iaload, 1), (372, .invokevirtual 41, 3), (375, .aload_n 2, 1), (376, .aload_n 0, 1), (377, .iload_n 3, 1), (378, .iconst 1, 1), (379, .iadd, 1), (380, .iaload, 1), (381, .aload_n 0, 1), (382, .iload_n 3, 1), (383, .iconst 2, 1), (384, .iadd, 1), (385, .iaload, 1), (386, .aload_n 0, 1), (387, .iload_n 3, 1), (388, .iconst 3, 1), (389, .iadd, 1), (390, .iaload, 1), (391, .invokevirtual 44, 3), (394, .if_icmp .eq 907, 3), (397, .iconst 0, 1), (398, .ireturn, 1), (399, .aload_n 1, 1), (400, .aload_n 0, 1), (401, .iload_n 3, 1), (402, .iconst 1, 1), (403, .iadd, 1), (404, .iaload, 1), (405, .aload_n 0, 1), (406, .iload_n 3, 1), (407, .iconst 2, 1), (408, .iadd, 1), (409, .iaload, 1), (410, .aload_n 0, 1), (411, .iload_n 3, 1), (412, .iconst 3, 1), (413, .iadd, 1), (414, .iaload, 1), (415, .aload_n 0, 1), (416, .iload_n 3, 1), (417, .iconst 4, 1), (418, .iadd, 1), (419, .iaload, 1), (420, .invokevirtual 45, 3), (423, .aload_n 2, 1), (424, .aload_n 0, 1), (425, .iload_n 3, 1), (426, .iconst 1, 1), (427, .iadd, 1), (428, .iaload, 1), (429, .aload_n 0, 1)]
def pmk224_3 : List (Nat × Instr × Nat) := [(430, .iload_n 3, 1), (431, .iconst 2, 1), (432, .iadd, 1), (433, .iaload, 1), (434, .aload_n 0, 1), (435, .iload_n 3, 1), (436, .iconst 3, 1), (437, .iadd, 1), (438, .iaload, 1), (439, .aload_n 0, 1), (440, .iload_n 3, 1), (441, .iconst 4, 1), (442, .iadd, 1), (443, .iaload, 1), (444, .invokevirtual 49, 3), (447, .if_icmp .eq 854, 3), (450, .iconst 0, 1), (451, .ireturn, 1), (452, .aload_n 1, 1), (453, .aload_n 0, 1), (454, .iload_n 3, 1), (455, .iconst 1, 1), (456, .iadd, 1), (457, .iaload, 1), (458, .aload_n 0, 1), (459, .iload_n 3, 1), (460, .iconst 2, 1), (461, .iadd, 1), (462, .iaload, 1), (463, .invokevirtual 50, 3), (466, .aload_n 2, 1), (467, .aload_n 0, 1), (468, .iload_n 3, 1), (469, .iconst 1, 1), (470, .iadd, 1), (471, .iaload, 1), (472, .aload_n 0, 1), (473, .iload_n 3, 1), (474, .iconst 2, 1), (475, .iadd, 1), (476, .iaload, 1), (477, .invokevirtual 53, 3), (480, .if_icmp .eq 821, 3), (483, .iconst 0, 1), (484, .ireturn, 1), (485, .aload_n 1, 1), (486, .aload_n 0, 1), (487, .iload_n 3, 1), (488, .iconst 1, 1), (489, .iadd, 1), (490, .iaload, 1), (491, .aload_n 0, 1), (492, .iload_n 3, 1), (493, .iconst 2, 1), (494, .iadd, 1), (495, .iaload, 1), (496, .invokevirtual 54, 3), (499, .aload_n 2, 1), (500, .aload_n 0, 1), (501, .iload_n 3, 1), (502, .iconst 1, 1), (503, .iadd, 1), (504, .iaload, 1), (505, .aload_n 0, 1), (506, .iload_n 3, 1), (507, .iconst 2, 1), (508, .iadd, 1), (509, .iaload, 1), (510, .invokevirtual 57, 3), (513, .if_icmp .eq 788, 3), (516, .iconst 0, 1), (517, .ireturn, 1), (518, .aload_n 1, 1), (519, .aload_n 0, 1), (520, .iload_n 3, 1), (521, .iconst 1, 1), (522, .iadd, 1), (523, .iaload, 1), (524, .aload_n 0, 1), (525, .iload_n 3, 1)]
def pmk224_4 : List (Nat × Instr × Nat) := [(526, .iconst 2, 1), (527, .iadd, 1), (528, .iaload, 1), (529, .aload_n 0, 1), (530, .iload_n 3, 1), (531, .iconst 3, 1), (532, .iadd, 1), (533, .iaload, 1), (534, .invokevirtual 58, 3), (537, .aload_n 2, 1), (538, .aload_n 0, 1), (539, .iload_n 3, 1), (540, .iconst 1, 1), (541, .iadd, 1), (542, .iaload, 1), (543, .aload_n 0, 1), (544, .iload_n 3, 1), (545, .iconst 2, 1), (546, .iadd, 1), (547, .iaload, 1), (548, .aload_n 0, 1), (549, .iload_n 3, 1), (550, .iconst 3, 1), (551, .iadd, 1), (552, .iaload, 1), (553, .invokevirtual 61, 3), (556, .if_icmp .eq 745, 3), (559, .iconst 0, 1), (560, .ireturn, 1), (561, .aload_n 1, 1), (562, .aload_n 0, 1), (563, .iload_n 3, 1), (564, .iconst 1, 1), (565, .iadd, 1), (566, .iaload, 1), (567, .aload_n 0, 1), (568, .iload_n 3, 1), (569, .iconst 2, 1), (570, .iadd, 1), (571, .iaload, 1), (572, .aload_n 0, 1), (573, .iload_n 3, 1), (574, .iconst 3, 1), (575, .iadd, 1), (576, .iaload, 1), (577, .invokevirtual 62, 3), (580, .aload_n 2, 1), (581, .aload_n 0, 1), (582, .iload_n 3, 1), (583, .iconst 1, 1), (584, .iadd, 1), (585, .iaload, 1), (586, .aload_n 0, 1), (587, .iload_n 3, 1), (588, .iconst 2, 1), (589, .iadd, 1), (590, .iaload, 1), (591, .aload_n 0, 1), (592, .iload_n 3, 1), (593, .iconst 3, 1), (594, .iadd, 1), (595, .iaload, 1), (596, .invokevirtual 65, 3), (599, .if_icmp .eq 702, 3), (602, .iconst 0, 1), (603, .ireturn, 1), (604, .aload_n 1, 1), (605, .aload_n 0, 1), (606, .iload_n 3, 1), (607, .iconst 1, 1), (608, .iadd, 1), (609, .iaload, 1), (610, .invokevirtual 66, 3), (613, .aload_n 2, 1), (614, .aload_n 0, 1), (615, .iload_n 3, 1), (616, .iconst 1, 1), (617, .iadd, 1), (618, .iaload, 1), (619, .invokevirtual 69, 3)]
def pmk224_5 : List (Nat × Instr × Nat) := [(622, .if_icmp .eq 679, 3), (625, .iconst 0, 1), (626, .ireturn, 1), (627, .aload_n 1, 1), (628, .aload_n 0, 1), (629, .iload_n 3, 1), (630, .iconst 1, 1), (631, .iadd, 1), (632, .iaload, 1), (633, .aload_n 0, 1), (634, .iload_n 3, 1), (635, .iconst 2, 1), (636, .iadd, 1), (637, .iaload, 1), (638, .i2l, 1), (639, .bipush 32, 2), (641, .lshl, 1), (642, .aload_n 0, 1), (643, .iload_n 3, 1), (644, .iconst 3, 1), (645, .iadd, 1), (646, .iaload, 1), (647, .i2l, 1), (648, .ldc2_w 70, 3), (651, .land, 1), (652, .lor, 1), (653, .invokevirtual 72, 3), (656, .aload_n 2, 1), (657, .aload_n 0, 1), (658, .iload_n 3, 1), (659, .iconst 1, 1), (660, .iadd, 1), (661, .iaload, 1), (662, .aload_n 0, 1), (663, .iload_n 3, 1), (664, .iconst 2, 1), (665, .iadd, 1), (666, .iaload, 1), (667, .i2l, 1), (668, .bipush 32, 2), (670, .lshl, 1), (671, .aload_n 0, 1), (672, .iload_n 3, 1), (673, .iconst 3, 1), (674, .iadd, 1), (675, .iaload, 1), (676, .i2l, 1), (677, .ldc2_w 70, 3), (680, .land, 1), (681, .lor, 1), (682, .invokevirtual 76, 3), (685, .if_icmp .eq 616, 3), (688, .iconst 0, 1), (689, .ireturn, 1), (690, .aload_n 1, 1), (691, .aload_n 0, 1), (692, .iload_n 3, 1), (693, .iconst 1, 1), (694, .iadd, 1), (695, .iaload, 1), (696, .invokevirtual 77, 3), (699, .aload_n 2, 1), (700, .aload_n 0, 1), (701, .iload_n 3, 1), (702, .iconst 1, 1), (703, .iadd, 1), (704, .iaload, 1), (705, .invokevirtual 80, 3), (708, .if_icmp .eq 593, 3), (711, .iconst 0, 1), (712, .ireturn, 1), (713, .aload_n 1, 1), (714, .invokevirtual 81, 3), (717, .aload_n 2, 1), (718, .invokevirtual 84, 3), (721, .if_icmp .eq 580, 3), (724, .iconst 0, 1), (725, .ireturn, 1), (726, .aload_n 1, 1), (727, .aload_n 0, 1)]
def pmk224_6 : List (Nat × Instr × Nat) := [(728, .iload_n 3, 1), (729, .iconst 1, 1), (730, .iadd, 1), (731, .iaload, 1), (732, .aload_n 0, 1), (733, .iload_n 3, 1), (734, .iconst 2, 1), (735, .iadd, 1), (736, .iaload, 1), (737, .invokevirtual 85, 3), (740, .aload_n 2, 1), (741, .aload_n 0, 1), (742, .iload_n 3, 1), (743, .iconst 1, 1), (744, .iadd, 1), (745, .iaload, 1), (746, .aload_n 0, 1), (747, .iload_n 3, 1), (748, .iconst 2, 1), (749, .iadd, 1), (750, .iaload, 1), (751, .invokevirtual 88, 3), (754, .if_icmp .eq 547, 3), (757, .iconst 0, 1), (758, .ireturn, 1), (759, .aload_n 1, 1), (760, .aload_n 0, 1), (761, .iload_n 3, 1), (762, .iconst 1, 1), (763, .iadd, 1), (764, .iaload, 1), (765, .aload_n 0, 1), (766, .iload_n 3, 1), (767, .iconst 2, 1), (768, .iadd, 1), (769, .iaload, 1), (770, .aload_n 0, 1), (771, .iload_n 3, 1), (772, .iconst 3, 1), (773, .iadd, 1), (774, .iaload, 1), (775, .invokevirtual 89, 3), (778, .aload_n 2, 1), (779, .aload_n 0, 1), (780, .iload_n 3, 1), (781, .iconst 1, 1), (782, .iadd, 1), (783, .iaload, 1), (784, .aload_n 0, 1), (785, .iload_n 3, 1), (786, .iconst 2, 1), (787, .iadd, 1), (788, .iaload, 1), (789, .aload_n 0, 1), (790, .iload_n 3, 1), (791, .iconst 3, 1), (792, .iadd, 1), (793, .iaload, 1), (794, .invokevirtual 92, 3), (797, .if_icmp .eq 504, 3), (800, .iconst 0, 1), (801, .ireturn, 1), (802, .aload_n 1, 1), (803, .aload_n 0, 1), (804, .iload_n 3, 1), (805, .iconst 1, 1), (806, .iadd, 1), (807, .iaload, 1), (808, .aload_n 0, 1), (809, .iload_n 3, 1), (810, .iconst 2, 1), (811, .iadd, 1), (812, .iaload, 1), (813, .invokevirtual 93, 3), (816, .aload_n 2, 1), (817, .aload_n 0, 1), (818, .iload_n 3, 1), (819, .iconst 1, 1), (820, .iadd, 1), (821, .iaload, 1)]
def pmk224_7 : List (Nat × Instr × Nat) := [(822, .aload_n 0, 1), (823, .iload_n 3, 1), (824, .iconst 2, 1), (825, .iadd, 1), (826, .iaload, 1), (827, .invokevirtual 96, 3), (830, .if_icmp .eq 471, 3), (833, .iconst 0, 1), (834, .ireturn, 1), (835, .aload_n 1, 1), (836, .invokevirtual 97, 3), (839, .aload_n 2, 1), (840, .invokevirtual 100, 3), (843, .if_icmp .eq 458, 3), (846, .iconst 0, 1), (847, .ireturn, 1), (848, .aload_n 1, 1), (849, .aload_n 0, 1), (850, .iload_n 3, 1), (851, .iconst 1, 1), (852, .iadd, 1), (853, .iaload, 1), (854, .aload_n 0, 1), (855, .iload_n 3, 1), (856, .iconst 2, 1), (857, .iadd, 1), (858, .iaload, 1), (859, .aload_n 0, 1), (860, .iload_n 3, 1), (861, .iconst 3, 1), (862, .iadd, 1), (863, .iaload, 1), (864, .invokevirtual 101, 3), (867, .aload_n 2, 1), (868, .aload_n 0, 1), (869, .iload_n 3, 1), (870, .iconst 1, 1), (871, .iadd, 1), (872, .iaload, 1), (873, .aload_n 0, 1), (874, .iload_n 3, 1), (875, .iconst 2, 1), (876, .iadd, 1), (877, .iaload, 1), (878, .aload_n 0, 1), (879, .iload_n 3, 1), (880, .iconst 3, 1), (881, .iadd, 1), (882, .iaload, 1), (883, .invokevirtual 104, 3), (886, .if_icmp .eq 415, 3), (889, .iconst 0, 1), (890, .ireturn, 1), (891, .aload_n 1, 1), (892, .aload_n 0, 1), (893, .iload_n 3, 1), (894, .iconst 1, 1), (895, .iadd, 1), (896, .iaload, 1), (897, .aload_n 0, 1), (898, .iload_n 3, 1), (899, .iconst 2, 1), (900, .iadd, 1), (901, .iaload, 1), (902, .aload_n 0, 1), (903, .iload_n 3, 1), (904, .iconst 3, 1), (905, .iadd, 1), (906, .iaload, 1), (907, .aload_n 0, 1), (908, .iload_n 3, 1), (909, .iconst 4, 1), (910, .iadd, 1), (911, .iaload, 1), (912, .aload_n 0, 1), (913, .iload_n 3, 1), (914, .iconst 5, 1), (915, .iadd, 1), (916, .iaload, 1), (917, .invokevirtual 105, 3)]
def pmk224_8 : List (Nat × Instr × Nat) := [(920, .aload_n 2, 1), (921, .aload_n 0, 1), (922, .iload_n 3, 1), (923, .iconst 1, 1), (924, .iadd, 1), (925, .iaload, 1), (926, .aload_n 0, 1), (927, .iload_n 3, 1), (928, .iconst 2, 1), (929, .iadd, 1), (930, .iaload, 1), (931, .aload_n 0, 1), (932, .iload_n 3, 1), (933, .iconst 3, 1), (934, .iadd, 1), (935, .iaload, 1), (936, .aload_n 0, 1), (937, .iload_n 3, 1), (938, .iconst 4, 1), (939, .iadd, 1), (940, .iaload, 1), (941, .aload_n 0, 1), (942, .iload_n 3, 1), (943, .iconst 5, 1), (944, .iadd, 1), (945, .iaload, 1), (946, .invokevirtual 109, 3), (949, .if_icmp .eq 352, 3), (952, .iconst 0, 1), (953, .ireturn, 1), (954, .aload_n 1, 1), (955, .aload_n 0, 1), (956, .iload_n 3, 1), (957, .iconst 1, 1), (958, .iadd, 1), (959, .iaload, 1), (960, .aload_n 0, 1), (961, .iload_n 3, 1), (962, .iconst 2, 1), (963, .iadd, 1), (964, .iaload, 1), (965, .aload_n 0, 1), (966, .iload_n 3, 1), (967, .iconst 3, 1), (968, .iadd, 1), (969, .iaload, 1), (970, .aload_n 0, 1), (971, .iload_n 3, 1), (972, .iconst 4, 1), (973, .iadd, 1), (974, .iaload, 1), (975, .aload_n 0, 1), (976, .iload_n 3, 1), (977, .iconst 5, 1), (978, .iadd, 1), (979, .iaload, 1), (980, .aload_n 0, 1), (981, .iload_n 3, 1), (982, .bipush 6, 2), (984, .iadd, 1), (985, .iaload, 1), (986, .invokevirtual 110, 3), (989, .aload_n 2, 1), (990, .aload_n 0, 1), (991, .iload_n 3, 1), (992, .iconst 1, 1), (993, .iadd, 1), (994, .iaload, 1), (995, .aload_n 0, 1), (996, .iload_n 3, 1), (997, .iconst 2, 1), (998, .iadd, 1), (999, .iaload, 1), (1000, .aload_n 0, 1), (1001, .iload_n 3, 1), (1002, .iconst 3, 1), (1003, .iadd, 1), (1004, .iaload, 1), (1005, .aload_n 0, 1), (1006, .iload_n 3, 1)]
def pmk224_9 : List (Nat × Instr × Nat) := [(1007, .iconst 4, 1), (1008, .iadd, 1), (1009, .iaload, 1), (1010, .aload_n 0, 1), (1011, .iload_n 3, 1), (1012, .iconst 5, 1), (1013, .iadd, 1), (1014, .iaload, 1), (1015, .aload_n 0, 1), (1016, .iload_n 3, 1), (1017, .bipush 6, 2), (1019, .iadd, 1), (1020, .iaload, 1), (1021, .invokevirtual 114, 3), (1024, .if_icmp .eq 277, 3), (1027, .iconst 0, 1), (1028, .ireturn, 1), (1029, .aload_n 1, 1), (1030, .aload_n 0, 1), (1031, .iload_n 3, 1), (1032, .iconst 1, 1), (1033, .iadd, 1), (1034, .iaload, 1), (1035, .aload_n 0, 1), (1036, .iload_n 3, 1), (1037, .iconst 2, 1), (1038, .iadd, 1), (1039, .iaload, 1), (1040, .aload_n 0, 1), (1041, .iload_n 3, 1), (1042, .iconst 3, 1), (1043, .iadd, 1), (1044, .iaload, 1), (1045, .invokevirtual 115, 3), (1048, .aload_n 2, 1), (1049, .aload_n 0, 1), (1050, .iload_n 3, 1), (1051, .iconst 1, 1), (1052, .iadd, 1), (1053, .iaload, 1), (1054, .aload_n 0, 1), (1055, .iload_n 3, 1), (1056, .iconst 2, 1), (1057, .iadd, 1), (1058, .iaload, 1), (1059, .aload_n 0, 1), (1060, .iload_n 3, 1), (1061, .iconst 3, 1), (1062, .iadd, 1), (1063, .iaload, 1), (1064, .invokevirtual 118, 3), (1067, .if_icmp .eq 234, 3), (1070, .iconst 0, 1), (1071, .ireturn, 1), (1072, .aload_n 1, 1), (1073, .aload_n 0, 1), (1074, .iload_n 3, 1), (1075, .iconst 1, 1), (1076, .iadd, 1), (1077, .iaload, 1), (1078, .aload_n 0, 1), (1079, .iload_n 3, 1), (1080, .iconst 2, 1), (1081, .iadd, 1), (1082, .iaload, 1), (1083, .aload_n 0, 1), (1084, .iload_n 3, 1), (1085, .iconst 3, 1), (1086, .iadd, 1), (1087, .iaload, 1), (1088, .invokevirtual 119, 3), (1091, .aload_n 2, 1), (1092, .aload_n 0, 1), (1093, .iload_n 3, 1), (1094, .iconst 1, 1), (1095, .iadd, 1), (1096, .iaload, 1), (1097, .aload_n 0, 1), (1098, .iload_n 3, 1), (1099, .iconst 2, 1)]
def pmk224_10 : List (Nat × Instr × Nat) := [(1100, .iadd, 1), (1101, .iaload, 1), (1102, .aload_n 0, 1), (1103, .iload_n 3, 1), (1104, .iconst 3, 1), (1105, .iadd, 1), (1106, .iaload, 1), (1107, .invokevirtual 122, 3), (1110, .if_icmp .eq 191, 3), (1113, .iconst 0, 1), (1114, .ireturn, 1), (1115, .aload_n 1, 1), (1116, .aload_n 0, 1), (1117, .iload_n 3, 1), (1118, .iconst 1, 1), (1119, .iadd, 1), (1120, .iaload, 1), (1121, .aload_n 0, 1), (1122, .iload_n 3, 1), (1123, .iconst 2, 1), (1124, .iadd, 1), (1125, .iaload, 1), (1126, .invokevirtual 123, 3), (1129, .aload_n 2, 1), (1130, .aload_n 0, 1), (1131, .iload_n 3, 1), (1132, .iconst 1, 1), (1133, .iadd, 1), (1134, .iaload, 1), (1135, .aload_n 0, 1), (1136, .iload_n 3, 1), (1137, .iconst 2, 1), (1138, .iadd, 1), (1139, .iaload, 1), (1140, .invokevirtual 127, 3), (1143, .lcmp, 1), (1144, .ifCond .eq 157, 3), (1147, .iconst 0, 1), (1148, .ireturn, 1), (1149, .aload_n 1, 1), (1150, .invokevirtual 128, 3), (1153, .aload_n 2, 1), (1154, .invokevirtual 131, 3), (1157, .if_icmp .eq 144, 3), (1160, .iconst 0, 1), (1161, .ireturn, 1), (1162, .aload_n 1, 1), (1163, .aload_n 0, 1), (1164, .iload_n 3, 1), (1165, .iconst 1, 1), (1166, .iadd, 1), (1167, .iaload, 1), (1168, .aload_n 0, 1), (1169, .iload_n 3, 1), (1170, .iconst 2, 1), (1171, .iadd, 1), (1172, .iaload, 1), (1173, .aload_n 0, 1), (1174, .iload_n 3, 1), (1175, .iconst 3, 1), (1176, .iadd, 1), (1177, .iaload, 1), (1178, .invokevirtual 132, 3), (1181, .aload_n 2, 1), (1182, .aload_n 0, 1), (1183, .iload_n 3, 1), (1184, .iconst 1, 1), (1185, .iadd, 1), (1186, .iaload, 1), (1187, .aload_n 0, 1), (1188, .iload_n 3, 1), (1189, .iconst 2, 1), (1190, .iadd, 1), (1191, .iaload, 1), (1192, .aload_n 0, 1), (1193, .iload_n 3, 1), (1194, .iconst 3, 1), (1195, .iadd, 1), (1196, .iaload, 1), (1197, .invokevirtual 135, 3)]
def pmk224_11 : List (Nat × Instr × Nat) := [(1200, .if_icmp .eq 101, 3), (1203, .iconst 0, 1), (1204, .ireturn, 1), (1205, .aload_n 1, 1), (1206, .aload_n 0, 1), (1207, .iload_n 3, 1), (1208, .iconst 1, 1), (1209, .iadd, 1), (1210, .iaload, 1), (1211, .aload_n 0, 1), (1212, .iload_n 3, 1), (1213, .iconst 2, 1), (1214, .iadd, 1), (1215, .iaload, 1), (1216, .aload_n 0, 1), (1217, .iload_n 3, 1), (1218, .iconst 3, 1), (1219, .iadd, 1), (1220, .iaload, 1), (1221, .aload_n 0, 1), (1222, .iload_n 3, 1), (1223, .iconst 4, 1), (1224, .iadd, 1), (1225, .iaload, 1), (1226, .invokevirtual 136, 3), (1229, .aload_n 2, 1), (1230, .aload_n 0, 1), (1231, .iload_n 3, 1), (1232, .iconst 1, 1), (1233, .iadd, 1), (1234, .iaload, 1), (1235, .aload_n 0, 1), (1236, .iload_n 3, 1), (1237, .iconst 2, 1), (1238, .iadd, 1), (1239, .iaload, 1), (1240, .aload_n 0, 1), (1241, .iload_n 3, 1), (1242, .iconst 3, 1), (1243, .iadd, 1), (1244, .iaload, 1), (1245, .aload_n 0, 1), (1246, .iload_n 3, 1), (1247, .iconst 4, 1), (1248, .iadd, 1), (1249, .iaload, 1), (1250, .invokevirtual 139, 3), (1253, .if_icmp .eq 48, 3), (1256, .iconst 0, 1), (1257, .ireturn, 1), (1258, .aload_n 1, 1), (1259, .aload_n 0, 1), (1260, .iload_n 3, 1), (1261, .iconst 1, 1), (1262, .iadd, 1), (1263, .iaload, 1), (1264, .aload_n 0, 1), (1265, .iload_n 3, 1), (1266, .iconst 2, 1), (1267, .iadd, 1), (1268, .iaload, 1), (1269, .aload_n 0, 1), (1270, .iload_n 3, 1), (1271, .iconst 3, 1), (1272, .iadd, 1), (1273, .iaload, 1), (1274, .invokevirtual 140, 3), (1277, .aload_n 2, 1), (1278, .aload_n 0, 1), (1279, .iload_n 3, 1), (1280, .iconst 1, 1), (1281, .iadd, 1), (1282, .iaload, 1), (1283, .aload_n 0, 1), (1284, .iload_n 3, 1), (1285, .iconst 2, 1), (1286, .iadd, 1), (1287, .iaload, 1), (1288, .aload_n 0, 1), (1289, .iload_n 3, 1)]
def pmk224_12 : List (Nat × Instr × Nat) := [(1290, .iconst 3, 1), (1291, .iadd, 1), (1292, .iaload, 1), (1293, .invokevirtual 143, 3), (1296, .if_icmp .eq 5, 3), (1299, .iconst 0, 1), (1300, .ireturn, 1), (1301, .iinc 3 7, 3), (1304, .goto (-1286), 3), (1307, .iconst 1, 1), (1308, .ireturn, 1)]
def pmk224 : List (Nat × Instr × Nat) := pmk224_0 ++ (pmk224_1 ++ (pmk224_2 ++ (pmk224_3 ++ (pmk224_4 ++ (pmk224_5 ++ (pmk224_6 ++ (pmk224_7 ++ (pmk224_8 ++ (pmk224_9 ++ (pmk224_10 ++ (pmk224_11 ++ (pmk224_12))))))))))))
abbrev pmM : Type := MethodName × ByteArray × Nat × Option FieldType × Nat × Nat × Nat × Nat × Nat × Nat × List (Nat × Instr × Nat)
def pmm0 : pmM := (yX0_init, cX0_init, 1, none, 12, 1016, 1, 12, 0, 1, pmk0)
def pmm1 : pmM := (yX0_has, cX0_has, 2, (some .boolean), 0, 0, 0, 0, 0, 0, pmk1)
def pmm2 : pmM := (yX0_read, cX0_read, 4, none, 0, 0, 5, 110, 0, 0, pmk2)
def pmm3 : pmM := (yX0_readUpToOne, cX0_readUpToOne, 3, none, 0, 0, 2, 43, 0, 0, pmk3)
def pmm4 : pmM := (yX0_openBracket, cX0_openBracket, 2, none, 0, 0, 1, 22, 0, 0, pmk4)
def pmm5 : pmM := (yX0_readOne, cX0_readOne, 4, none, 0, 0, 4, 87, 0, 0, pmk5)
def pmm6 : pmM := (yX0_oneKind, cX0_oneKind, 1, (some .int), 0, 0, 2, 43, 0, 0, pmk6)
def pmm7 : pmM := (yX0_readNumber, cX0_readNumber, 2, (some .int), 0, 0, 3, 66, 0, 0, pmk7)
def pmm8 : pmM := (yX0_readUpToJoin, cX0_readUpToJoin, 3, (some .boolean), 0, 0, 3, 63, 0, 0, pmk8)
def pmm9 : pmM := (yX0_closeBracket, cX0_closeBracket, 1, none, 0, 0, 2, 42, 0, 0, pmk9)
def pmm10 : pmM := (yX0_joinBy, cX0_joinBy, 2, none, 0, 0, 2, 42, 0, 0, pmk10)
def pmm11 : pmM := (yX0_hold, cX0_hold, 2, none, 0, 0, 0, 0, 0, 0, pmk11)
def pmm12 : pmM := (yX0_releaseDownTo, cX0_releaseDownTo, 2, none, 0, 0, 1, 21, 0, 0, pmk12)
def pmm13 : pmM := (yX0_emit, cX0_emit, 2, none, 0, 0, 0, 0, 0, 0, pmk13)
def pmm14 : pmM := (yX1_init, cX1_init, 1, none, 4, 58, 1, 12, 1, 1, pmk14)
def pmm15 : pmM := (yX1_clear, cX1_clear, 1, none, 0, 0, 1, 24, 1, 0, pmk15)
def pmm16 : pmM := (yX1_setTo, cX1_setTo, 6, none, 0, 0, 2, 46, 1, 0, pmk16)
def pmm17 : pmM := (yX1_apply, cX1_apply, 4, none, 0, 0, 1, 23, 1, 0, pmk17)
def pmm18 : pmM := (yX1_applyClause, cX1_applyClause, 4, none, 0, 0, 0, 0, 1, 0, pmk18)
def pmm19 : pmM := (yX1_hasKey, cX1_hasKey, 2, (some .boolean), 0, 0, 0, 0, 1, 0, pmk19)
def pmm20 : pmM := (yX1_disallows, cX1_disallows, 5, (some .boolean), 0, 0, 1, 21, 1, 0, pmk20)
def pmm21 : pmM := (yX1_barsTwo, cX1_barsTwo, 3, (some .boolean), 0, 0, 1, 21, 1, 0, pmk21)
def pmm22 : pmM := (yX1_countSense, cX1_countSense, 5, (some .int), 0, 0, 1, 21, 1, 0, pmk22)
def pmm23 : pmM := (yX2_init, cX2_init, 1, none, 126, 1680, 1, 12, 2, 1, pmk23)
def pmm24 : pmM := (yX2_has, cX2_has, 2, (some .boolean), 0, 0, 0, 0, 2, 0, pmk24)
def pmm25 : pmM := (yX2_add, cX2_add, 7, (some .int), 0, 0, 1, 23, 2, 0, pmk25)
def pmm26 : pmM := (yX2_doubters, cX2_doubters, 5, (some .int), 0, 0, 1, 21, 2, 0, pmk26)
def pmm27 : pmM := (yX2_picturesOf, cX2_picturesOf, 6, (some .long), 0, 0, 0, 0, 2, 0, pmk27)
def pmm28 : pmM := (yX3_init, cX3_init, 1, none, 3, 120, 1, 12, 3, 1, pmk28)
def pmm29 : pmM := (yX3_has, cX3_has, 2, (some .boolean), 0, 0, 0, 0, 3, 0, pmk29)
def pmm30 : pmM := (yX3_add, cX3_add, 5, (some .int), 0, 0, 1, 21, 3, 0, pmk30)
def pmm31 : pmM := (yX3_all, cX3_all, 1, (some .long), 0, 0, 0, 0, 3, 0, pmk31)
def pmm32 : pmM := (yX3_ofYears, cX3_ofYears, 6, (some .long), 0, 0, 1, 22, 3, 0, pmk32)
def pmm33 : pmM := (yX3_atPlace, cX3_atPlace, 5, (some .long), 0, 0, 0, 0, 3, 0, pmk33)
def pmm34 : pmM := (yX4_init, cX4_init, 1, none, 29, 232, 1, 12, 4, 1, pmk34)
def pmm35 : pmM := (yX4_read, cX4_read, 4, none, 0, 0, 5, 111, 4, 0, pmk35)
def pmm36 : pmM := (yX4_clauseKind, cX4_clauseKind, 1, (some .int), 0, 0, 2, 43, 4, 0, pmk36)
def pmm37 : pmM := (yX4_readClause, cX4_readClause, 5, none, 0, 0, 4, 87, 4, 0, pmk37)
def pmm38 : pmM := (yX4_readFirst, cX4_readFirst, 2, (some .int), 0, 0, 3, 66, 4, 0, pmk38)
def pmm39 : pmM := (yX4_readSecond, cX4_readSecond, 2, (some .int), 0, 0, 3, 66, 4, 0, pmk39)
def pmm40 : pmM := (yX4_readSense, cX4_readSense, 2, (some .int), 0, 0, 2, 43, 4, 0, pmk40)
def pmm41 : pmM := (yX4_counting, cX4_counting, 6, (some .int), 0, 0, 0, 0, 4, 0, pmk41)
def pmm42 : pmM := (yX5_init, cX5_init, 1, none, 11, 52, 1, 12, 5, 1, pmk42)
def pmm43 : pmM := (yX5_has, cX5_has, 2, (some .boolean), 0, 0, 0, 0, 5, 0, pmk43)
def pmm44 : pmM := (yX5_add, cX5_add, 1, (some .int), 0, 0, 0, 0, 5, 0, pmk44)
def pmm45 : pmM := (yX5_addMark, cX5_addMark, 4, (some .int), 0, 0, 0, 0, 5, 0, pmk45)
def pmm46 : pmM := (yX6_init, cX6_init, 1, none, 1, 160, 1, 12, 6, 1, pmk46)
def pmm47 : pmM := (yX6_add, cX6_add, 2, none, 0, 0, 0, 0, 6, 0, pmk47)
def pmm48 : pmM := (yX6_startReading, cX6_startReading, 1, none, 0, 0, 2, 41, 6, 0, pmk48)
def pmm49 : pmM := (yX6_byteAt, cX6_byteAt, 2, (some .int), 0, 0, 0, 0, 6, 0, pmk49)
def pmm50 : pmM := (yX6_kindOf, cX6_kindOf, 1, (some .int), 0, 0, 0, 0, 6, 0, pmk50)
def pmm51 : pmM := (yX6_advance, cX6_advance, 1, none, 0, 0, 1, 21, 6, 0, pmk51)
def pmm52 : pmM := (yX6_fail, cX6_fail, 3, none, 0, 0, 0, 0, 6, 0, pmk52)
def pmm53 : pmM := (yX6_isWord, cX6_isWord, 3, (some .boolean), 0, 0, 1, 21, 6, 0, pmk53)
def pmm54 : pmM := (yX6_isSign, cX6_isSign, 2, (some .boolean), 0, 0, 1, 21, 6, 0, pmk54)
def pmm55 : pmM := (yX6_takeWord, cX6_takeWord, 2, none, 0, 0, 2, 43, 6, 0, pmk55)
def pmm56 : pmM := (yX6_takeSign, cX6_takeSign, 2, none, 0, 0, 2, 42, 6, 0, pmk56)
def pmm57 : pmM := (yX6_takeNumber, cX6_takeNumber, 6, (some .int), 0, 0, 2, 41, 6, 0, pmk57)
def pmm58 : pmM := (yX7_init, cX7_init, 2, none, 44, 560, 1, 23, 7, 1, pmk58)
def pmm59 : pmM := (yX7_has, cX7_has, 2, (some .boolean), 0, 0, 0, 0, 7, 0, pmk59)
def pmm60 : pmM := (yX7_add, cX7_add, 4, (some .int), 0, 0, 2, 45, 7, 0, pmk60)
def pmm61 : pmM := (yX7_setParent, cX7_setParent, 5, none, 0, 0, 1, 21, 7, 0, pmk61)
def pmm62 : pmM := (yX7_parentIn, cX7_parentIn, 3, (some .int), 0, 0, 1, 22, 7, 0, pmk62)
def pmm63 : pmM := (yX7_isEnded, cX7_isEnded, 3, (some .boolean), 0, 0, 1, 21, 7, 0, pmk63)
def pmm64 : pmM := (yX7_isThere, cX7_isThere, 3, (some .boolean), 0, 0, 2, 43, 7, 0, pmk64)
def pmm65 : pmM := (yX7_pathUp, cX7_pathUp, 7, (some .long), 0, 0, 2, 44, 7, 0, pmk65)
def pmm66 : pmM := (yX7_isBelow, cX7_isBelow, 4, (some .boolean), 0, 0, 3, 70, 7, 0, pmk66)
def pmm67 : pmM := (yX7_countBelow, cX7_countBelow, 5, (some .int), 0, 0, 4, 93, 7, 0, pmk67)
def pmm68 : pmM := (yX7_countThere, cX7_countThere, 4, (some .int), 0, 0, 3, 65, 7, 0, pmk68)
def pmm69 : pmM := (yX7_followJoins, cX7_followJoins, 5, (some .int), 0, 0, 2, 43, 7, 0, pmk69)
def pmm70 : pmM := (yX7_firstThere, cX7_firstThere, 5, (some .int), 0, 0, 3, 65, 7, 0, pmk70)
def pmm71 : pmM := (yX7_raised, cX7_raised, 6, (some .int), 0, 0, 2, 44, 7, 0, pmk71)
def pmm72 : pmM := (yX8_init, cX8_init, 4, none, 12, 746, 2, 32, 8, 1, pmk72)
def pmm73 : pmM := (yX8_forget, cX8_forget, 1, none, 0, 0, 0, 0, 8, 0, pmk73)
def pmm74 : pmM := (yX8_judge, cX8_judge, 5, none, 0, 0, 4, 94, 8, 0, pmk74)
def pmm75 : pmM := (yX8_whyWrong, cX8_whyWrong, 5, (some .int), 0, 0, 3, 70, 8, 0, pmk75)
def pmm76 : pmM := (yX8_lookIn, cX8_lookIn, 3, none, 0, 0, 5, 118, 8, 0, pmk76)
def pmm77 : pmM := (yX8_setMeaning, cX8_setMeaning, 4, none, 0, 0, 4, 89, 8, 0, pmk77)
def pmm78 : pmM := (yX8_shows, cX8_shows, 3, (some .boolean), 0, 0, 0, 0, 8, 0, pmk78)
def pmm79 : pmM := (yX8_showing, cX8_showing, 2, (some .long), 0, 0, 1, 25, 8, 0, pmk79)
def pmm80 : pmM := (yX8_showingAny, cX8_showingAny, 6, (some .long), 0, 0, 0, 0, 8, 0, pmk80)
def pmm81 : pmM := (yX8_meansBelow, cX8_meansBelow, 3, (some .boolean), 0, 0, 4, 93, 8, 0, pmk81)
def pmm82 : pmM := (yX8_seenBy, cX8_seenBy, 6, (some .long), 0, 0, 5, 115, 8, 0, pmk82)
def pmm83 : pmM := (yX8_isLacking, cX8_isLacking, 6, (some .boolean), 0, 0, 3, 70, 8, 0, pmk83)
def pmm84 : pmM := (yX8_countWrong, cX8_countWrong, 3, (some .int), 0, 0, 0, 0, 8, 0, pmk84)
def pmm85 : pmM := (yX8_countNeedingLook, cX8_countNeedingLook, 3, (some .int), 0, 0, 0, 0, 8, 0, pmk85)
def pmm86 : pmM := (yX8_countLacking, cX8_countLacking, 4, (some .int), 0, 0, 4, 95, 8, 0, pmk86)
def pmm87 : pmM := (yX9_init, cX9_init, 1, none, 3, 180, 1, 12, 9, 1, pmk87)
def pmm88 : pmM := (yX9_add, cX9_add, 4, (some .int), 0, 0, 1, 25, 9, 0, pmk88)
def pmm89 : pmM := (yX9_marksOf, cX9_marksOf, 6, (some .long), 0, 0, 0, 0, 9, 0, pmk89)
def pmm90 : pmM := (yX10_init, cX10_init, 1, none, 255, 4869, 3, 55, 10, 1, pmk90)
def pmm91 : pmM := (yX10_edition, cX10_edition, 1, (some .int), 0, 0, 0, 0, 10, 0, pmk91)
def pmm92 : pmM := (yX10_mark, cX10_mark, 2, (some .int), 0, 0, 3, 68, 10, 0, pmk92)
def pmm93 : pmM := (yX10_move, cX10_move, 4, (some .int), 0, 0, 4, 93, 10, 0, pmk93)
def pmm94 : pmM := (yX10_end, cX10_end, 3, (some .int), 0, 0, 5, 117, 10, 0, pmk94)
def pmm95 : pmM := (yX10_tree, cX10_tree, 4, (some .int), 0, 0, 6, 140, 10, 0, pmk95)
def pmm96 : pmM := (yX10_below, cX10_below, 4, (some .int), 0, 0, 4, 93, 10, 0, pmk96)
def pmm97 : pmM := (yX10_picture, cX10_picture, 4, (some .int), 0, 0, 2, 45, 10, 0, pmk97)
def pmm98 : pmM := (yX10_give, cX10_give, 5, (some .int), 0, 0, 2, 49, 10, 0, pmk98)
def pmm99 : pmM := (yX10_doubt, cX10_doubt, 3, (some .int), 0, 0, 2, 45, 10, 0, pmk99)
def pmm100 : pmM := (yX10_told, cX10_told, 3, (some .int), 0, 0, 5, 118, 10, 0, pmk100)
def pmm101 : pmM := (yX10_means, cX10_means, 4, (some .int), 0, 0, 6, 140, 10, 0, pmk101)
def pmm102 : pmM := (yX10_led, cX10_led, 5, (some .int), 0, 0, 6, 140, 10, 0, pmk102)
def pmm103 : pmM := (yX10_count, cX10_count, 2, (some .int), 0, 0, 6, 140, 10, 0, pmk103)
def pmm104 : pmM := (yX10_feed, cX10_feed, 5, (some .int), 0, 0, 1, 22, 10, 0, pmk104)
def pmm105 : pmM := (yX10_rule, cX10_rule, 3, (some .int), 0, 0, 6, 134, 10, 0, pmk105)
def pmm106 : pmM := (yX10_fault, cX10_fault, 1, (some .int), 0, 0, 0, 0, 10, 0, pmk106)
def pmm107 : pmM := (yX10_force, cX10_force, 3, (some .int), 0, 0, 3, 71, 10, 0, pmk107)
def pmm108 : pmM := (yX10_word, cX10_word, 4, (some .int), 0, 0, 2, 48, 10, 0, pmk108)
def pmm109 : pmM := (yX10_leads, cX10_leads, 3, (some .int), 0, 0, 2, 43, 10, 0, pmk109)
def pmm110 : pmM := (yX10_ask, cX10_ask, 2, (some .int), 0, 0, 6, 133, 10, 0, pmk110)
def pmm111 : pmM := (yX10_met, cX10_met, 4, (some .int), 0, 0, 6, 140, 10, 0, pmk111)
def pmm112 : pmM := (yX10_hands, cX10_hands, 12, (some .int), 0, 0, 6, 140, 10, 0, pmk112)
def pmm113 : pmM := (yX10_together, cX10_together, 13, (some .int), 0, 0, 6, 140, 10, 0, pmk113)
def pmm114 : pmM := (yX10_along, cX10_along, 4, (some .int), 0, 0, 6, 143, 10, 0, pmk114)
def pmm115 : pmM := (yX10_likely, cX10_likely, 9, (some .int), 0, 0, 6, 143, 10, 0, pmk115)
def pmm116 : pmM := (yX10_lacking, cX10_lacking, 7, (some .long), 0, 0, 6, 140, 10, 0, pmk116)
def pmm117 : pmM := (yX10_story, cX10_story, 1, (some .int), 0, 0, 1, 20, 10, 0, pmk117)
def pmm118 : pmM := (yX10_moment, cX10_moment, 4, (some .int), 0, 0, 1, 23, 10, 0, pmk118)
def pmm119 : pmM := (yX10_of, cX10_of, 8, (some .int), 0, 0, 6, 140, 10, 0, pmk119)
def pmm120 : pmM := (yX10_split, cX10_split, 11, (some .int), 0, 0, 6, 140, 10, 0, pmk120)
def pmm121 : pmM := (yX10_isWithin, cX10_isWithin, 3, (some .boolean), 0, 0, 0, 0, 10, 0, pmk121)
def pmm122 : pmM := (yX10_isYear, cX10_isYear, 1, (some .boolean), 0, 0, 1, 22, 10, 0, pmk122)
def pmm123 : pmM := (yX10_isHand, cX10_isHand, 1, (some .boolean), 0, 0, 1, 22, 10, 0, pmk123)
def pmm124 : pmM := (yX10_isWord, cX10_isWord, 2, (some .boolean), 0, 0, 1, 22, 10, 0, pmk124)
def pmm125 : pmM := (yX10_isKnownEdition, cX10_isKnownEdition, 2, (some .boolean), 0, 0, 1, 22, 10, 0, pmk125)
def pmm126 : pmM := (yX10_oneIf, cX10_oneIf, 1, (some .int), 0, 0, 0, 0, 10, 0, pmk126)
def pmm127 : pmM := (yX10_pick, cX10_pick, 5, (some .int), 0, 0, 1, 21, 10, 0, pmk127)
def pmm128 : pmM := (yX10_afterReading, cX10_afterReading, 3, (some .int), 0, 0, 0, 0, 10, 0, pmk128)
def pmm129 : pmM := (yX10_missed, cX10_missed, 5, (some .int), 0, 0, 1, 21, 10, 0, pmk129)
def pmm130 : pmM := (yX10_isBeyondChance, cX10_isBeyondChance, 5, (some .boolean), 0, 0, 1, 21, 10, 0, pmk130)
def pmm131 : pmM := (yX10_isApart, cX10_isApart, 4, (some .boolean), 0, 0, 4, 93, 10, 0, pmk131)
def pmm132 : pmM := (yX10_goingAlong, cX10_goingAlong, 8, (some .long), 0, 0, 5, 116, 10, 0, pmk132)
def pmm133 : pmM := (yX10_metBy, cX10_metBy, 9, (some .long), 0, 0, 3, 70, 10, 0, pmk133)
def pmm134 : pmM := (yX10_metByOne, cX10_metByOne, 4, (some .long), 0, 0, 2, 47, 10, 0, pmk134)
def pmm135 : pmM := (yX11_init, cX11_init, 1, none, 38, 5499, 2, 44, 11, 1, pmk135)
def pmm136 : pmM := (yX11_in, cX11_in, 6, (some .boolean), 0, 0, 0, 0, 11, 0, pmk136)
def pmm137 : pmM := (yX11_isMark, cX11_isMark, 2, (some .boolean), 0, 0, 1, 25, 11, 0, pmk137)
def pmm138 : pmM := (yX11_isEdition, cX11_isEdition, 2, (some .boolean), 0, 0, 1, 25, 11, 0, pmk138)
def pmm139 : pmM := (yX11_tell, cX11_tell, 2, none, 0, 0, 1, 23, 11, 0, pmk139)
def pmm140 : pmM := (yX11_hang, cX11_hang, 4, none, 0, 0, 0, 0, 11, 0, pmk140)
def pmm141 : pmM := (yX11_isTold, cX11_isTold, 3, (some .boolean), 0, 0, 2, 46, 11, 0, pmk141)
def pmm142 : pmM := (yX11_isThere, cX11_isThere, 3, (some .boolean), 0, 0, 3, 68, 11, 0, pmk142)
def pmm143 : pmM := (yX11_isBelow, cX11_isBelow, 5, (some .boolean), 0, 0, 3, 68, 11, 0, pmk143)
def pmm144 : pmM := (yX11_belowMany, cX11_belowMany, 5, (some .int), 0, 0, 4, 92, 11, 0, pmk144)
def pmm145 : pmM := (yX11_edition, cX11_edition, 1, (some .int), 0, 0, 0, 0, 11, 0, pmk145)
def pmm146 : pmM := (yX11_mark, cX11_mark, 2, (some .int), 0, 0, 4, 90, 11, 0, pmk146)
def pmm147 : pmM := (yX11_move, cX11_move, 4, (some .int), 0, 0, 4, 92, 11, 0, pmk147)
def pmm148 : pmM := (yX11_end, cX11_end, 3, (some .int), 0, 0, 5, 116, 11, 0, pmk148)
def pmm149 : pmM := (yX11_tree, cX11_tree, 4, (some .int), 0, 0, 9, 214, 11, 0, pmk149)
def pmm150 : pmM := (yX11_below, cX11_below, 4, (some .int), 0, 0, 4, 92, 11, 0, pmk150)
def pmm151 : pmM := (yX11_isPicture, cX11_isPicture, 2, (some .boolean), 0, 0, 1, 25, 11, 0, pmk151)
def pmm152 : pmM := (yX11_isGiving, cX11_isGiving, 2, (some .boolean), 0, 0, 1, 25, 11, 0, pmk152)
def pmm153 : pmM := (yX11_isHand, cX11_isHand, 1, (some .boolean), 0, 0, 1, 25, 11, 0, pmk153)
def pmm154 : pmM := (yX11_picture, cX11_picture, 4, (some .int), 0, 0, 2, 46, 11, 0, pmk154)
def pmm155 : pmM := (yX11_give, cX11_give, 6, (some .int), 0, 0, 2, 46, 11, 0, pmk155)
def pmm156 : pmM := (yX11_doubts, cX11_doubts, 5, (some .int), 0, 0, 1, 25, 11, 0, pmk156)
def pmm157 : pmM := (yX11_doubt, cX11_doubt, 3, (some .int), 0, 0, 2, 49, 11, 0, pmk157)
def pmm158 : pmM := (yX11_told, cX11_told, 3, (some .int), 0, 0, 7, 167, 11, 0, pmk158)
def pmm159 : pmM := (yX11_strikes, cX11_strikes, 5, (some .boolean), 0, 0, 0, 0, 11, 0, pmk159)
def pmm160 : pmM := (yX11_findRules, cX11_findRules, 5, none, 0, 0, 1, 24, 11, 0, pmk160)
def pmm161 : pmM := (yX11_ruleOf, cX11_ruleOf, 3, (some .int), 0, 0, 0, 0, 11, 0, pmk161)
def pmm162 : pmM := (yX11_holds, cX11_holds, 3, (some .boolean), 0, 0, 1, 22, 11, 0, pmk162)
def pmm163 : pmM := (yX11_isBarred, cX11_isBarred, 5, (some .boolean), 0, 0, 2, 44, 11, 0, pmk163)
def pmm164 : pmM := (yX11_isAllowed, cX11_isAllowed, 8, (some .boolean), 0, 0, 4, 92, 11, 0, pmk164)
def pmm165 : pmM := (yX11_whyWrong, cX11_whyWrong, 5, (some .int), 0, 0, 5, 119, 11, 0, pmk165)
def pmm166 : pmM := (yX11_findWrong, cX11_findWrong, 5, none, 0, 0, 6, 143, 11, 0, pmk166)
def pmm167 : pmM := (yX11_findMeant, cX11_findMeant, 5, none, 0, 0, 4, 90, 11, 0, pmk167)
def pmm168 : pmM := (yX11_find, cX11_find, 4, none, 0, 0, 7, 167, 11, 0, pmk168)
def pmm169 : pmM := (yX11_shows, cX11_shows, 3, (some .boolean), 0, 0, 0, 0, 11, 0, pmk169)
def pmm170 : pmM := (yX11_showing, cX11_showing, 5, (some .int), 0, 0, 8, 190, 11, 0, pmk170)
def pmm171 : pmM := (yX11_lacks, cX11_lacks, 5, (some .boolean), 0, 0, 4, 92, 11, 0, pmk171)
def pmm172 : pmM := (yX11_means, cX11_means, 4, (some .int), 0, 0, 8, 190, 11, 0, pmk172)
def pmm173 : pmM := (yX11_led, cX11_led, 5, (some .int), 0, 0, 8, 190, 11, 0, pmk173)
def pmm174 : pmM := (yX11_count, cX11_count, 7, (some .int), 0, 0, 8, 190, 11, 0, pmk174)
def pmm175 : pmM := (yX11_feed, cX11_feed, 5, (some .int), 0, 0, 1, 25, 11, 0, pmk175)
def pmm176 : pmM := (yX11_here, cX11_here, 1, (some .int), 0, 0, 0, 0, 11, 0, pmk176)
def pmm177 : pmM := (yX11_fails, cX11_fails, 3, (some .int), 0, 0, 0, 0, 11, 0, pmk177)
def pmm178 : pmM := (yX11_readWord, cX11_readWord, 2, none, 0, 0, 1, 25, 11, 0, pmk178)
def pmm179 : pmM := (yX11_code, cX11_code, 8, (some .long), 0, 0, 0, 0, 11, 0, pmk179)
def pmm180 : pmM := (yX11_readNumber, cX11_readNumber, 7, (some .int), 0, 0, 1, 25, 11, 0, pmk180)
def pmm181 : pmM := (yX11_needs, cX11_needs, 3, (some .int), 0, 0, 2, 46, 11, 0, pmk181)
def pmm182 : pmM := (yX11_senseOf, cX11_senseOf, 1, (some .int), 0, 0, 1, 27, 11, 0, pmk182)
def pmm183 : pmM := (yX11_keyOf, cX11_keyOf, 1, (some .int), 0, 0, 1, 27, 11, 0, pmk183)
def pmm184 : pmM := (yX11_readSense, cX11_readSense, 3, (some .int), 0, 0, 2, 51, 11, 0, pmk184)
def pmm185 : pmM := (yX11_readPair, cX11_readPair, 4, (some .int), 0, 0, 3, 68, 11, 0, pmk185)
def pmm186 : pmM := (yX11_readClause, cX11_readClause, 5, (some .int), 0, 0, 4, 91, 11, 0, pmk186)
def pmm187 : pmM := (yX11_rule, cX11_rule, 4, (some .int), 0, 0, 5, 115, 11, 0, pmk187)
def pmm188 : pmM := (yX11_fault, cX11_fault, 1, (some .int), 0, 0, 0, 0, 11, 0, pmk188)
def pmm189 : pmM := (yX11_force, cX11_force, 5, (some .int), 0, 0, 2, 48, 11, 0, pmk189)
def pmm190 : pmM := (yX11_isWord, cX11_isWord, 2, (some .boolean), 0, 0, 1, 25, 11, 0, pmk190)
def pmm191 : pmM := (yX11_leadsMany, cX11_leadsMany, 5, (some .int), 0, 0, 0, 0, 11, 0, pmk191)
def pmm192 : pmM := (yX11_word, cX11_word, 5, (some .int), 0, 0, 2, 46, 11, 0, pmk192)
def pmm193 : pmM := (yX11_leads, cX11_leads, 4, (some .int), 0, 0, 2, 46, 11, 0, pmk193)
def pmm194 : pmM := (yX11_put, cX11_put, 3, none, 0, 0, 0, 0, 11, 0, pmk194)
def pmm195 : pmM := (yX11_work, cX11_work, 2, none, 0, 0, 1, 22, 11, 0, pmk195)
def pmm196 : pmM := (yX11_hold, cX11_hold, 2, none, 0, 0, 0, 0, 11, 0, pmk196)
def pmm197 : pmM := (yX11_readLeaf, cX11_readLeaf, 4, (some .int), 0, 0, 2, 51, 11, 0, pmk197)
def pmm198 : pmM := (yX11_readOne, cX11_readOne, 1, (some .int), 0, 0, 3, 74, 11, 0, pmk198)
def pmm199 : pmM := (yX11_readBehind, cX11_readBehind, 2, (some .int), 0, 0, 2, 46, 11, 0, pmk199)
def pmm200 : pmM := (yX11_ask, cX11_ask, 2, (some .int), 0, 0, 4, 94, 11, 0, pmk200)
def pmm201 : pmM := (yX11_hasHand, cX11_hasHand, 6, (some .boolean), 0, 0, 0, 0, 11, 0, pmk201)
def pmm202 : pmM := (yX11_showsWord, cX11_showsWord, 5, (some .boolean), 0, 0, 1, 22, 11, 0, pmk202)
def pmm203 : pmM := (yX11_isMet, cX11_isMet, 8, (some .boolean), 0, 0, 2, 46, 11, 0, pmk203)
def pmm204 : pmM := (yX11_met, cX11_met, 6, (some .int), 0, 0, 8, 190, 11, 0, pmk204)
def pmm205 : pmM := (yX11_saw, cX11_saw, 7, (some .boolean), 0, 0, 4, 92, 11, 0, pmk205)
def pmm206 : pmM := (yX11_hands, cX11_hands, 13, (some .int), 0, 0, 8, 190, 11, 0, pmk206)
def pmm207 : pmM := (yX11_isBeyond, cX11_isBeyond, 6, (some .boolean), 0, 0, 1, 25, 11, 0, pmk207)
def pmm208 : pmM := (yX11_together, cX11_together, 8, (some .int), 0, 0, 8, 190, 11, 0, pmk208)
def pmm209 : pmM := (yX11_areApart, cX11_areApart, 4, (some .boolean), 0, 0, 4, 92, 11, 0, pmk209)
def pmm210 : pmM := (yX11_goesAlong, cX11_goesAlong, 4, (some .boolean), 0, 0, 5, 115, 11, 0, pmk210)
def pmm211 : pmM := (yX11_along, cX11_along, 6, (some .int), 0, 0, 8, 190, 11, 0, pmk211)
def pmm212 : pmM := (yX11_likely, cX11_likely, 7, (some .int), 0, 0, 8, 190, 11, 0, pmk212)
def pmm213 : pmM := (yX11_firstOf, cX11_firstOf, 3, (some .int), 0, 0, 0, 0, 11, 0, pmk213)
def pmm214 : pmM := (yX11_lacking, cX11_lacking, 7, (some .long), 0, 0, 8, 190, 11, 0, pmk214)
def pmm215 : pmM := (yX11_story, cX11_story, 1, (some .int), 0, 0, 0, 0, 11, 0, pmk215)
def pmm216 : pmM := (yX11_moment, cX11_moment, 5, (some .int), 0, 0, 2, 46, 11, 0, pmk216)
def pmm217 : pmM := (yX11_of, cX11_of, 10, (some .int), 0, 0, 8, 190, 11, 0, pmk217)
def pmm218 : pmM := (yX11_split, cX11_split, 10, (some .int), 0, 0, 8, 190, 11, 0, pmk218)
def pmm219 : pmM := (yJ13_bitCount_95d88, cJ13_bitCount_95d88, 2, (some .int), 0, 0, 0, 0, 12, 0, pmk219)
def pmm220 : pmM := (yJ9_max_7cf53, cJ9_max_7cf53, 2, (some .int), 0, 0, 0, 0, 14, 0, pmk220)
def pmm221 : pmM := (yJ9_min_7cf53, cJ9_min_7cf53, 2, (some .int), 0, 0, 0, 0, 14, 0, pmk221)
def pmm222 : pmM := (yJ7_fill_d0a16, cJ7_fill_d0a16, 5, none, 0, 0, 0, 0, 13, 0, pmk222)
def pmm223 : pmM := (yJ7_fill_53178, cJ7_fill_53178, 4, none, 0, 0, 0, 0, 13, 0, pmk223)
def pmm224 : pmM := (yL_law, cL_law, 4, (some .boolean), 600000, 7302250, 13, 482, 15, 0, pmk224)
def pm_all : List pmM := [pmm0, pmm1, pmm2, pmm3, pmm4, pmm5, pmm6, pmm7, pmm8, pmm9, pmm10, pmm11, pmm12, pmm13, pmm14, pmm15, pmm16, pmm17, pmm18, pmm19, pmm20, pmm21, pmm22, pmm23, pmm24, pmm25, pmm26, pmm27, pmm28, pmm29, pmm30, pmm31, pmm32, pmm33, pmm34, pmm35, pmm36, pmm37, pmm38, pmm39, pmm40, pmm41, pmm42, pmm43, pmm44, pmm45, pmm46, pmm47, pmm48, pmm49, pmm50, pmm51, pmm52, pmm53, pmm54, pmm55, pmm56, pmm57, pmm58, pmm59, pmm60, pmm61, pmm62, pmm63, pmm64, pmm65, pmm66, pmm67, pmm68, pmm69, pmm70, pmm71, pmm72, pmm73, pmm74, pmm75, pmm76, pmm77, pmm78, pmm79, pmm80, pmm81, pmm82, pmm83, pmm84, pmm85, pmm86, pmm87, pmm88, pmm89, pmm90, pmm91, pmm92, pmm93, pmm94, pmm95, pmm96, pmm97, pmm98, pmm99, pmm100, pmm101, pmm102, pmm103, pmm104, pmm105, pmm106, pmm107, pmm108, pmm109, pmm110, pmm111, pmm112, pmm113, pmm114, pmm115, pmm116, pmm117, pmm118, pmm119, pmm120, pmm121, pmm122, pmm123, pmm124, pmm125, pmm126, pmm127, pmm128, pmm129, pmm130, pmm131, pmm132, pmm133, pmm134, pmm135, pmm136, pmm137, pmm138, pmm139, pmm140, pmm141, pmm142, pmm143, pmm144, pmm145, pmm146, pmm147, pmm148, pmm149, pmm150, pmm151, pmm152, pmm153, pmm154, pmm155, pmm156, pmm157, pmm158, pmm159, pmm160, pmm161, pmm162, pmm163, pmm164, pmm165, pmm166, pmm167, pmm168, pmm169, pmm170, pmm171, pmm172, pmm173, pmm174, pmm175, pmm176, pmm177, pmm178, pmm179, pmm180, pmm181, pmm182, pmm183, pmm184, pmm185, pmm186, pmm187, pmm188, pmm189, pmm190, pmm191, pmm192, pmm193, pmm194, pmm195, pmm196, pmm197, pmm198, pmm199, pmm200, pmm201, pmm202, pmm203, pmm204, pmm205, pmm206, pmm207, pmm208, pmm209, pmm210, pmm211, pmm212, pmm213, pmm214, pmm215, pmm216, pmm217, pmm218, pmm219, pmm220, pmm221, pmm222, pmm223, pmm224]
def pm_m (m : Nat) : pmM := if m < 112 then (if m < 56 then (if m < 28 then (if m < 14 then (if m < 7 then (if m < 3 then (if m < 1 then (pmm0) else (if m < 2 then (pmm1) else (pmm2))) else (if m < 5 then (if m < 4 then (pmm3) else (pmm4)) else (if m < 6 then (pmm5) else (pmm6)))) else (if m < 10 then (if m < 8 then (pmm7) else (if m < 9 then (pmm8) else (pmm9))) else (if m < 12 then (if m < 11 then (pmm10) else (pmm11)) else (if m < 13 then (pmm12) else (pmm13))))) else (if m < 21 then (if m < 17 then (if m < 15 then (pmm14) else (if m < 16 then (pmm15) else (pmm16))) else (if m < 19 then (if m < 18 then (pmm17) else (pmm18)) else (if m < 20 then (pmm19) else (pmm20)))) else (if m < 24 then (if m < 22 then (pmm21) else (if m < 23 then (pmm22) else (pmm23))) else (if m < 26 then (if m < 25 then (pmm24) else (pmm25)) else (if m < 27 then (pmm26) else (pmm27)))))) else (if m < 42 then (if m < 35 then (if m < 31 then (if m < 29 then (pmm28) else (if m < 30 then (pmm29) else (pmm30))) else (if m < 33 then (if m < 32 then (pmm31) else (pmm32)) else (if m < 34 then (pmm33) else (pmm34)))) else (if m < 38 then (if m < 36 then (pmm35) else (if m < 37 then (pmm36) else (pmm37))) else (if m < 40 then (if m < 39 then (pmm38) else (pmm39)) else (if m < 41 then (pmm40) else (pmm41))))) else (if m < 49 then (if m < 45 then (if m < 43 then (pmm42) else (if m < 44 then (pmm43) else (pmm44))) else (if m < 47 then (if m < 46 then (pmm45) else (pmm46)) else (if m < 48 then (pmm47) else (pmm48)))) else (if m < 52 then (if m < 50 then (pmm49) else (if m < 51 then (pmm50) else (pmm51))) else (if m < 54 then (if m < 53 then (pmm52) else (pmm53)) else (if m < 55 then (pmm54) else (pmm55))))))) else (if m < 84 then (if m < 70 then (if m < 63 then (if m < 59 then (if m < 57 then (pmm56) else (if m < 58 then (pmm57) else (pmm58))) else (if m < 61 then (if m < 60 then (pmm59) else (pmm60)) else (if m < 62 then (pmm61) else (pmm62)))) else (if m < 66 then (if m < 64 then (pmm63) else (if m < 65 then (pmm64) else (pmm65))) else (if m < 68 then (if m < 67 then (pmm66) else (pmm67)) else (if m < 69 then (pmm68) else (pmm69))))) else (if m < 77 then (if m < 73 then (if m < 71 then (pmm70) else (if m < 72 then (pmm71) else (pmm72))) else (if m < 75 then (if m < 74 then (pmm73) else (pmm74)) else (if m < 76 then (pmm75) else (pmm76)))) else (if m < 80 then (if m < 78 then (pmm77) else (if m < 79 then (pmm78) else (pmm79))) else (if m < 82 then (if m < 81 then (pmm80) else (pmm81)) else (if m < 83 then (pmm82) else (pmm83)))))) else (if m < 98 then (if m < 91 then (if m < 87 then (if m < 85 then (pmm84) else (if m < 86 then (pmm85) else (pmm86))) else (if m < 89 then (if m < 88 then (pmm87) else (pmm88)) else (if m < 90 then (pmm89) else (pmm90)))) else (if m < 94 then (if m < 92 then (pmm91) else (if m < 93 then (pmm92) else (pmm93))) else (if m < 96 then (if m < 95 then (pmm94) else (pmm95)) else (if m < 97 then (pmm96) else (pmm97))))) else (if m < 105 then (if m < 101 then (if m < 99 then (pmm98) else (if m < 100 then (pmm99) else (pmm100))) else (if m < 103 then (if m < 102 then (pmm101) else (pmm102)) else (if m < 104 then (pmm103) else (pmm104)))) else (if m < 108 then (if m < 106 then (pmm105) else (if m < 107 then (pmm106) else (pmm107))) else (if m < 110 then (if m < 109 then (pmm108) else (pmm109)) else (if m < 111 then (pmm110) else (pmm111)))))))) else (if m < 168 then (if m < 140 then (if m < 126 then (if m < 119 then (if m < 115 then (if m < 113 then (pmm112) else (if m < 114 then (pmm113) else (pmm114))) else (if m < 117 then (if m < 116 then (pmm115) else (pmm116)) else (if m < 118 then (pmm117) else (pmm118)))) else (if m < 122 then (if m < 120 then (pmm119) else (if m < 121 then (pmm120) else (pmm121))) else (if m < 124 then (if m < 123 then (pmm122) else (pmm123)) else (if m < 125 then (pmm124) else (pmm125))))) else (if m < 133 then (if m < 129 then (if m < 127 then (pmm126) else (if m < 128 then (pmm127) else (pmm128))) else (if m < 131 then (if m < 130 then (pmm129) else (pmm130)) else (if m < 132 then (pmm131) else (pmm132)))) else (if m < 136 then (if m < 134 then (pmm133) else (if m < 135 then (pmm134) else (pmm135))) else (if m < 138 then (if m < 137 then (pmm136) else (pmm137)) else (if m < 139 then (pmm138) else (pmm139)))))) else (if m < 154 then (if m < 147 then (if m < 143 then (if m < 141 then (pmm140) else (if m < 142 then (pmm141) else (pmm142))) else (if m < 145 then (if m < 144 then (pmm143) else (pmm144)) else (if m < 146 then (pmm145) else (pmm146)))) else (if m < 150 then (if m < 148 then (pmm147) else (if m < 149 then (pmm148) else (pmm149))) else (if m < 152 then (if m < 151 then (pmm150) else (pmm151)) else (if m < 153 then (pmm152) else (pmm153))))) else (if m < 161 then (if m < 157 then (if m < 155 then (pmm154) else (if m < 156 then (pmm155) else (pmm156))) else (if m < 159 then (if m < 158 then (pmm157) else (pmm158)) else (if m < 160 then (pmm159) else (pmm160)))) else (if m < 164 then (if m < 162 then (pmm161) else (if m < 163 then (pmm162) else (pmm163))) else (if m < 166 then (if m < 165 then (pmm164) else (pmm165)) else (if m < 167 then (pmm166) else (pmm167))))))) else (if m < 196 then (if m < 182 then (if m < 175 then (if m < 171 then (if m < 169 then (pmm168) else (if m < 170 then (pmm169) else (pmm170))) else (if m < 173 then (if m < 172 then (pmm171) else (pmm172)) else (if m < 174 then (pmm173) else (pmm174)))) else (if m < 178 then (if m < 176 then (pmm175) else (if m < 177 then (pmm176) else (pmm177))) else (if m < 180 then (if m < 179 then (pmm178) else (pmm179)) else (if m < 181 then (pmm180) else (pmm181))))) else (if m < 189 then (if m < 185 then (if m < 183 then (pmm182) else (if m < 184 then (pmm183) else (pmm184))) else (if m < 187 then (if m < 186 then (pmm185) else (pmm186)) else (if m < 188 then (pmm187) else (pmm188)))) else (if m < 192 then (if m < 190 then (pmm189) else (if m < 191 then (pmm190) else (pmm191))) else (if m < 194 then (if m < 193 then (pmm192) else (pmm193)) else (if m < 195 then (pmm194) else (pmm195)))))) else (if m < 210 then (if m < 203 then (if m < 199 then (if m < 197 then (pmm196) else (if m < 198 then (pmm197) else (pmm198))) else (if m < 201 then (if m < 200 then (pmm199) else (pmm200)) else (if m < 202 then (pmm201) else (pmm202)))) else (if m < 206 then (if m < 204 then (pmm203) else (if m < 205 then (pmm204) else (pmm205))) else (if m < 208 then (if m < 207 then (pmm206) else (pmm207)) else (if m < 209 then (pmm208) else (pmm209))))) else (if m < 217 then (if m < 213 then (if m < 211 then (pmm210) else (if m < 212 then (pmm211) else (pmm212))) else (if m < 215 then (if m < 214 then (pmm213) else (pmm214)) else (if m < 216 then (pmm215) else (pmm216)))) else (if m < 221 then (if m < 219 then (if m < 218 then (pmm217) else (pmm218)) else (if m < 220 then (pmm219) else (pmm220))) else (if m < 223 then (if m < 222 then (pmm221) else (pmm222)) else (if m < 224 then (pmm223) else (pmm224))))))))
def pm_flds (k : Nat) : List (Nat × (Nat × Nat)) := match k with
  | 0 => [(11, (0, 0)), (17, (0, 1)), (20, (0, 2)), (24, (0, 3)), (27, (0, 6)), (36, (0, 4)), (39, (0, 5)), (53, (6, 5)), (79, (6, 3)), (114, (6, 2))]
  | 1 => [(9, (1, 1)), (15, (1, 2)), (19, (1, 3)), (22, (1, 4)), (27, (1, 0)), (40, (1, 5)), (43, (1, 6)), (46, (1, 7)), (56, (4, 5)), (59, (4, 0)), (66, (4, 1)), (69, (4, 2)), (73, (4, 3)), (76, (4, 4))]
  | 2 => [(9, (2, 0)), (15, (2, 1)), (18, (2, 2)), (21, (2, 3)), (24, (2, 4)), (29, (2, 5)), (32, (2, 6))]
  | 3 => [(9, (3, 0)), (15, (3, 1)), (18, (3, 2)), (21, (3, 3))]
  | 4 => [(9, (4, 0)), (15, (4, 1)), (20, (4, 2)), (23, (4, 3)), (26, (4, 4)), (34, (4, 5)), (38, (6, 5)), (41, (6, 2)), (67, (6, 3))]
  | 5 => [(9, (5, 0)), (17, (5, 1)), (22, (5, 2)), (25, (5, 3))]
  | 6 => [(9, (6, 0)), (15, (6, 1)), (19, (6, 5)), (22, (6, 6)), (25, (6, 4)), (31, (6, 3)), (41, (6, 2))]
  | 7 => [(9, (7, 0)), (15, (7, 1)), (18, (7, 2)), (23, (7, 3)), (32, (7, 4))]
  | 8 => [(12, (8, 3)), (18, (8, 4)), (22, (8, 5)), (26, (8, 6)), (29, (8, 7)), (32, (8, 8)), (35, (8, 9)), (38, (8, 10)), (42, (8, 0)), (46, (8, 1)), (50, (8, 2)), (54, (8, 11)), (58, (8, 12)), (68, (2, 6)), (73, (2, 4)), (84, (2, 3)), (90, (2, 0)), (93, (2, 1)), (114, (1, 0)), (151, (2, 2)), (157, (1, 4))]
  | 9 => [(9, (9, 0)), (15, (9, 1)), (18, (9, 2)), (21, (9, 3))]
  | 10 => [(10, (10, 0)), (19, (10, 1)), (26, (10, 2)), (33, (10, 3)), (40, (10, 4)), (47, (10, 5)), (54, (10, 6)), (61, (10, 7)), (68, (10, 8)), (77, (10, 9)), (81, (10, 10)), (85, (10, 11)), (114, (7, 1)), (118, (7, 2)), (134, (7, 0)), (165, (2, 2)), (168, (2, 5)), (175, (2, 0)), (178, (2, 1)), (181, (2, 3)), (184, (2, 4)), (190, (8, 7)), (193, (8, 8)), (196, (8, 9)), (208, (2, 6)), (214, (7, 4)), (219, (3, 3)), (231, (4, 5)), (232, (6, 1)), (235, (9, 3)), (236, (0, 6)), (237, (5, 3)), (247, (1, 0)), (250, (1, 5)), (253, (1, 6)), (256, (1, 7)), (259, (1, 1)), (309, (8, 10)), (317, (3, 2)), (325, (5, 0)), (331, (5, 2)), (341, (6, 5)), (344, (6, 6)), (345, (0, 2)), (348, (0, 0)), (351, (0, 1))]
  | 11 => [(7, (11, 2)), (13, (11, 3)), (16, (11, 4)), (19, (11, 5)), (22, (11, 7)), (25, (11, 8)), (28, (11, 9)), (31, (11, 11)), (34, (11, 12)), (37, (11, 13)), (40, (11, 14)), (43, (11, 15)), (46, (11, 16)), (49, (11, 18)), (52, (11, 19)), (55, (11, 21)), (58, (11, 22)), (61, (11, 23)), (64, (11, 24)), (68, (11, 25)), (71, (11, 27)), (74, (11, 28)), (77, (11, 29)), (80, (11, 30)), (83, (11, 31)), (86, (11, 32)), (90, (11, 33)), (93, (11, 35)), (97, (11, 41)), (100, (11, 42)), (103, (11, 44)), (106, (11, 45)), (109, (11, 46)), (112, (11, 49)), (115, (11, 52)), (118, (11, 57)), (121, (11, 59)), (124, (11, 60)), (127, (11, 61)), (134, (11, 1)), (141, (11, 0)), (175, (11, 6)), (178, (11, 10)), (204, (11, 17)), (210, (11, 26)), (217, (11, 20)), (249, (11, 34)), (252, (11, 40)), (255, (11, 43)), (258, (11, 58)), (265, (11, 36)), (272, (11, 37)), (276, (11, 38)), (298, (11, 39)), (343, (11, 47)), (346, (11, 48)), (355, (11, 51)), (362, (11, 50)), (389, (11, 53)), (392, (11, 54)), (395, (11, 55)), (398, (11, 56))]
  | _ => []
def pm_calls (k : Nat) : List (Nat × (Nat × Nat × Nat)) := match k with
  | 0 => [(5, (0, 3, 0)), (31, (48, 0, 0)), (42, (3, 0, 1)), (46, (5, 0, 1)), (49, (8, 0, 1)), (56, (12, 0, 1)), (60, (54, 0, 1)), (64, (4, 0, 1)), (69, (53, 0, 1)), (73, (11, 0, 1)), (76, (51, 0, 0)), (82, (52, 0, 2)), (86, (6, 1, 1)), (90, (7, 1, 2)), (94, (13, 0, 1)), (107, (57, 0, 3)), (111, (9, 0, 0)), (119, (10, 0, 1))]
  | 1 => [(3, (0, 3, 0)), (31, (223, 1, 2)), (37, (222, 1, 2)), (49, (15, 0, 0)), (52, (41, 0, 1)), (62, (17, 0, 2)), (79, (18, 0, 3)), (83, (19, 1, 2))]
  | 2 => [(3, (0, 3, 0)), (36, (223, 1, 2)), (42, (24, 0, 1))]
  | 3 => [(3, (0, 3, 0)), (25, (29, 0, 1)), (29, (121, 11, 3))]
  | 4 => [(3, (0, 3, 0)), (29, (48, 0, 0)), (43, (37, 0, 2)), (49, (53, 0, 1)), (63, (36, 1, 1)), (70, (52, 0, 2)), (74, (51, 0, 0)), (77, (38, 1, 2)), (81, (39, 1, 2)), (84, (56, 0, 1)), (88, (57, 0, 3)), (92, (40, 1, 1)), (97, (55, 0, 1))]
  | 5 => [(3, (0, 3, 0))]
  | 6 => [(3, (0, 3, 0)), (28, (51, 0, 0)), (34, (49, 0, 1)), (38, (50, 1, 1)), (53, (53, 0, 1)), (57, (52, 0, 2)), (61, (54, 0, 1)), (65, (121, 11, 3))]
  | 7 => [(3, (0, 3, 0)), (26, (223, 1, 2)), (36, (61, 0, 3)), (40, (59, 0, 1)), (44, (220, 1, 2)), (50, (121, 11, 3)), (54, (63, 0, 2)), (58, (62, 0, 2)), (61, (65, 0, 2)), (65, (66, 0, 3)), (68, (64, 0, 2))]
  | 8 => [(3, (0, 3, 0)), (11, (14, 12, 0)), (62, (223, 1, 2)), (76, (16, 0, 2)), (80, (75, 0, 2)), (87, (22, 0, 2)), (96, (64, 0, 2)), (102, (65, 0, 2)), (106, (20, 0, 2)), (110, (21, 0, 1)), (117, (74, 0, 0)), (120, (222, 1, 2)), (123, (77, 0, 1)), (127, (26, 0, 2)), (130, (69, 0, 2)), (133, (63, 0, 2)), (136, (70, 0, 2)), (139, (71, 0, 3)), (143, (80, 0, 1)), (147, (66, 0, 3)), (154, (81, 0, 2)), (162, (83, 0, 2))]
  | 9 => [(3, (0, 3, 0)), (25, (89, 0, 2)), (29, (219, 1, 1))]
  | 10 => [(1, (0, 3, 0)), (9, (58, 2, 0)), (18, (28, 12, 0)), (25, (23, 12, 0)), (32, (46, 12, 0)), (39, (34, 12, 0)), (46, (14, 12, 0)), (53, (87, 12, 0)), (60, (0, 12, 0)), (67, (42, 12, 0)), (74, (72, 2, 3)), (88, (59, 0, 1)), (92, (64, 0, 2)), (96, (73, 0, 0)), (99, (60, 0, 2)), (103, (66, 0, 3)), (107, (62, 0, 2)), (110, (61, 0, 3)), (121, (67, 0, 2)), (124, (125, 0, 1)), (127, (121, 1, 3)), (130, (126, 1, 1)), (137, (76, 0, 1)), (141, (79, 0, 1)), (145, (219, 1, 1)), (151, (29, 0, 1)), (152, (122, 1, 1)), (155, (30, 0, 3)), (158, (123, 1, 1)), (161, (25, 0, 5)), (164, (24, 0, 1)), (172, (26, 0, 2)), (187, (74, 0, 0)), (200, (16, 0, 2)), (204, (83, 0, 2)), (211, (81, 0, 2)), (215, (68, 0, 1)), (220, (84, 0, 0)), (224, (85, 0, 0)), (227, (86, 0, 1)), (238, (47, 0, 1)), (240, (35, 0, 2)), (244, (128, 0, 1)), (262, (124, 1, 2)), (265, (89, 0, 2)), (269, (88, 0, 3)), (270, (221, 1, 2)), (275, (2, 0, 1)), (278, (1, 0, 1)), (279, (133, 0, 2)), (282, (127, 1, 2)), (286, (27, 0, 2)), (289, (82, 0, 2)), (292, (129, 1, 2)), (296, (32, 0, 2)), (299, (130, 1, 3)), (303, (132, 0, 2)), (306, (78, 0, 2)), (322, (44, 0, 0)), (324, (43, 0, 1)), (328, (45, 0, 3)), (335, (131, 0, 3)), (338, (220, 1, 2)), (354, (134, 0, 3)), (358, (31, 0, 0)), (362, (80, 0, 1)), (366, (33, 0, 1))]
  | 11 => [(1, (0, 3, 0)), (130, (139, 0, 1)), (137, (136, 1, 3)), (144, (140, 0, 2)), (148, (137, 0, 1)), (152, (141, 0, 2)), (156, (143, 0, 3)), (160, (142, 0, 2)), (163, (144, 0, 2)), (167, (138, 0, 1)), (172, (170, 0, 2)), (183, (151, 0, 1)), (190, (153, 1, 1)), (195, (152, 0, 1)), (198, (156, 0, 2)), (201, (166, 0, 0)), (207, (159, 0, 2)), (213, (161, 0, 1)), (220, (162, 0, 2)), (223, (164, 0, 3)), (226, (163, 0, 1)), (229, (160, 0, 1)), (232, (165, 0, 1)), (235, (167, 0, 2)), (238, (168, 0, 1)), (241, (169, 0, 2)), (246, (171, 0, 2)), (268, (176, 0, 0)), (295, (177, 0, 2)), (302, (178, 0, 0)), (305, (179, 1, 6)), (309, (180, 0, 4)), (313, (182, 0, 0)), (316, (181, 0, 1)), (320, (183, 0, 0)), (323, (184, 0, 1)), (326, (185, 0, 2)), (329, (186, 0, 2)), (337, (190, 1, 2)), (340, (191, 0, 2)), (349, (194, 0, 2)), (352, (195, 0, 1)), (359, (196, 0, 1)), (365, (197, 0, 0)), (368, (198, 0, 0)), (371, (199, 0, 0)), (374, (202, 0, 2)), (377, (201, 0, 3)), (380, (203, 0, 3)), (385, (205, 0, 4)), (401, (207, 0, 4)), (404, (209, 0, 3)), (407, (210, 0, 3)), (414, (213, 0, 1))]
  | 15 => [(9, (90, 2, 0)), (12, (135, 2, 0)), (13, (91, 0, 0)), (17, (145, 0, 0)), (18, (92, 0, 1)), (22, (146, 0, 1)), (23, (93, 0, 2)), (27, (147, 0, 2)), (28, (94, 0, 2)), (31, (148, 0, 2)), (32, (95, 0, 3)), (36, (149, 0, 3)), (37, (96, 0, 3)), (40, (150, 0, 3)), (41, (97, 0, 3)), (44, (154, 0, 3)), (45, (98, 0, 4)), (49, (155, 0, 4)), (50, (99, 0, 2)), (53, (157, 0, 2)), (54, (100, 0, 2)), (57, (158, 0, 2)), (58, (101, 0, 3)), (61, (172, 0, 3)), (62, (102, 0, 3)), (65, (173, 0, 3)), (66, (103, 0, 1)), (69, (174, 0, 1)), (72, (104, 0, 2)), (76, (175, 0, 2)), (77, (105, 0, 1)), (80, (187, 0, 1)), (81, (106, 0, 0)), (84, (188, 0, 0)), (85, (107, 0, 2)), (88, (189, 0, 2)), (89, (108, 0, 3)), (92, (192, 0, 3)), (93, (109, 0, 2)), (96, (193, 0, 2)), (97, (110, 0, 0)), (100, (200, 0, 0)), (101, (111, 0, 3)), (104, (204, 0, 3)), (105, (112, 0, 5)), (109, (206, 0, 5)), (110, (113, 0, 6)), (114, (208, 0, 6)), (115, (114, 0, 3)), (118, (211, 0, 3)), (119, (115, 0, 3)), (122, (212, 0, 3)), (123, (116, 0, 2)), (127, (214, 0, 2)), (128, (117, 0, 0)), (131, (215, 0, 0)), (132, (118, 0, 3)), (135, (216, 0, 3)), (136, (119, 0, 4)), (139, (217, 0, 4)), (140, (120, 0, 3)), (143, (218, 0, 3))]
  | _ => []
def pm_news (k : Nat) : List (Nat × Nat) := match k with
  | 8 => [(9, 1)]
  | 10 => [(7, 7), (16, 3), (23, 2), (30, 6), (37, 4), (44, 1), (51, 9), (58, 0), (65, 5), (72, 8)]
  | 15 => [(7, 10), (10, 11)]
  | _ => []
def pm_mnas (k : Nat) : List (Nat × Nat) := match k with
  | 0 => [(15, 20)]
  | 2 => [(27, 20)]
  | 4 => [(18, 20)]
  | 5 => [(15, 20), (20, 21)]
  | 7 => [(21, 20)]
  | _ => []
def pm_cons (k : Nat) : List (Nat × Value) := match k with
  | 0 => [(67, .ref 2001), (97, .ref 2002), (99, .ref 2003), (101, .ref 2004), (103, .ref 2005), (105, .ref 2006), (117, .ref 2007), (122, .ref 2008)]
  | 4 => [(47, .ref 2009), (53, .ref 2010), (55, .ref 2011), (57, .ref 2012), (59, .ref 2013), (61, .ref 2014), (95, .ref 2015), (101, .ref 2016), (103, .ref 2017), (105, .ref 2018), (107, .ref 2019)]
  | 8 => [(160, .long (-1))]
  | 10 => [(313, .long (-1001)), (315, .long (-1002)), (320, .long (-1))]
  | 11 => [(170, .long (6)), (181, .long (7)), (186, .long (999)), (188, .long (9)), (193, .long (63)), (244, .long (2)), (261, .long (8)), (263, .long (255)), (279, .long (97)), (281, .long (122)), (283, .long (10000000000)), (285, .long (20000000000)), (287, .long (27)), (289, .long (96)), (291, .long (48)), (293, .long (57)), (301, .int (100000)), (333, .long (3)), (335, .long (99)), (383, .long (4)), (410, .long (-1001)), (412, .long (-1002))]
  | 12 => [(314, .long (6148914691236517205)), (316, .long (3689348814741910323)), (318, .long (1085102592571150095))]
  | 15 => [(70, .long (4294967295))]
  | _ => []
def pm_own (k : Nat) : String := match k with
  | 0 => RX0
  | 1 => RX1
  | 2 => RX2
  | 3 => RX3
  | 4 => RX4
  | 5 => RX5
  | 6 => RX6
  | 7 => RX7
  | 8 => RX8
  | 9 => RX9
  | 10 => RX10
  | 11 => RX11
  | 12 => RJ13
  | 13 => RJ7
  | 14 => RJ9
  | 15 => RL
  | _ => ""
def pm_ty (c : Nat) : Nat → FieldType := match c with
  | 0 => tyX0
  | 1 => tyX1
  | 2 => tyX2
  | 3 => tyX3
  | 4 => tyX4
  | 5 => tyX5
  | 6 => tyX6
  | 7 => tyX7
  | 8 => tyX8
  | 9 => tyX9
  | 10 => tyX10
  | 11 => tyX11
  | _ => fun _ => .int
def pm_fin (c f : Nat) : Bool := match c with
  | 0 => (TX0 f).2.2.2
  | 1 => (TX1 f).2.2.2
  | 2 => (TX2 f).2.2.2
  | 3 => (TX3 f).2.2.2
  | 4 => (TX4 f).2.2.2
  | 5 => (TX5 f).2.2.2
  | 6 => (TX6 f).2.2.2
  | 7 => (TX7 f).2.2.2
  | 8 => (TX8 f).2.2.2
  | 9 => (TX9 f).2.2.2
  | 10 => (TX10 f).2.2.2
  | 11 => (TX11 f).2.2.2
  | _ => true
end
section
/-! THE PURE MACHINE: the claim's bytecode over numbered cells. A cell: its class's number (20 int[], 21 long[], 22 boolean[], 23 int[][], 24 long[][]), its length, its contents; a reference is a cell's number (2000: the script; from 2001 on: texts). -/
abbrev pmC : Type := Nat × Nat × (Nat → Value)
abbrev pmH : Type := List pmC
abbrev pmL : Type := List (Nat × Value)
abbrev pmX : Type := Option (Nat × (Nat → Int32))
abbrev pmS : Type := Nat × pmL × List Value × pmH × Nat × Nat
abbrev pm_y (m : Nat) : MethodName := (pm_m m).1
abbrev pm_bytes (m : Nat) : ByteArray := (pm_m m).2.1
abbrev pm_maxL (m : Nat) : Nat := (pm_m m).2.2.1
abbrev pm_ret (m : Nat) : Option FieldType := (pm_m m).2.2.2.1
abbrev pm_mc (m : Nat) : Nat := (pm_m m).2.2.2.2.1
abbrev pm_ms (m : Nat) : Nat := (pm_m m).2.2.2.2.2.1
abbrev pm_fr (m : Nat) : Nat := (pm_m m).2.2.2.2.2.2.1
abbrev pm_lo (m : Nat) : Nat := (pm_m m).2.2.2.2.2.2.2.1
abbrev pm_oc (m : Nat) : Nat := (pm_m m).2.2.2.2.2.2.2.2.1
abbrev pm_in (m : Nat) : Nat := (pm_m m).2.2.2.2.2.2.2.2.2.1
abbrev pm_kl (m : Nat) : List (Nat × Instr × Nat) := (pm_m m).2.2.2.2.2.2.2.2.2.2
def pm_look {α : Type} (l : List (Nat × α)) (i : Nat) : Option α := match l with
  | [] => none
  | (j, a) :: r => if j = i then some a else pm_look r i
def pm_get (ls : pmL) (i : Nat) : Option Value := pm_look ls i
def pm_st1 (ls : pmL) (i : Nat) (v : Value) : pmL := (i, v) :: ls.filter (fun q => !(q.1 == i) && !(q.1 + 1 == i && q.2.category == 2))
def pm_st2 (ls : pmL) (i : Nat) (v : Value) : pmL := (i, v) :: ls.filter (fun q => !(q.1 == i) && (!(q.1 == i + 1) && !(q.1 + 1 == i && q.2.category == 2)))
def pm_tgt (pc : Nat) (off : Int) : Option Nat := match (pc : Int) + off with
  | .ofNat t => some t
  | _ => none
def pm_ix (i : Int32) (n : Nat) : Bool := decide (0 ≤ i) && decide (i.toNatClampNeg < n)
def pm_fld (m i : Nat) : Option (Nat × Nat) := pm_look (pm_flds (pm_oc m)) i
/-- branch: to off if b -/
def pm_br (b : Bool) (pc : Nat) (off : Int) (ls : pmL) (st : List Value) (h : pmH) (c k : Nat) : Option pmS :=
  match pm_tgt pc off with
  | some t => some (cond b t (pc + 3), ls, st, h, c, k)
  | none => none
/-- how long an instruction is (a switch: as it is written) -/
def pm_len (i : Instr) (n : Nat) : Nat := match i with
  | .bipush _ => 2
  | .iload _ => 2
  | .lload _ => 2
  | .aload _ => 2
  | .istore _ => 2
  | .lstore _ => 2
  | .astore _ => 2
  | .ldc _ => 2
  | .newarray _ => 2
  | .sipush _ => 3
  | .iinc _ _ => 3
  | .goto _ => 3
  | .if_icmp _ _ => 3
  | .ifCond _ _ => 3
  | .ldc2_w _ => 3
  | .ldc_w _ => 3
  | .getfield _ => 3
  | .putfield _ => 3
  | .invokevirtual _ => 3
  | .invokestatic _ => 3
  | .invokespecial _ => 3
  | .new _ => 3
  | .multianewarray _ _ => 4
  | .tableswitch _ _ _ _ => n
  | .lookupswitch _ _ => n
  | _ => 1
/-- stack, locals, numbers -/
def pm_stepA (m : Nat) (i : Instr) (pc : Nat) (ls : pmL) (st : List Value) (h : pmH) (c k : Nat) : Option pmS :=
  match i with
  | .iconst n => some (pc + 1, ls, .int (Int32.ofInt n) :: st, h, c, k)
  | .bipush n => some (pc + 2, ls, .int (Int8.ofInt n).toInt32 :: st, h, c, k)
  | .sipush n => some (pc + 3, ls, .int (Int16.ofInt n).toInt32 :: st, h, c, k)
  | .lconst n => some (pc + 1, ls, .long (Int64.ofNat n) :: st, h, c, k)
  | .iload_n j => match pm_get ls j with
    | some (.int x) => some (pc + 1, ls, .int x :: st, h, c, k)
    | _ => none
  | .iload j => match pm_get ls j with
    | some (.int x) => some (pc + 2, ls, .int x :: st, h, c, k)
    | _ => none
  | .lload_n j => match pm_get ls j with
    | some (.long x) => some (pc + 1, ls, .long x :: st, h, c, k)
    | _ => none
  | .lload j => match pm_get ls j with
    | some (.long x) => some (pc + 2, ls, .long x :: st, h, c, k)
    | _ => none
  | .aload_n j => match pm_get ls j with
    | some (.ref x) => some (pc + 1, ls, .ref x :: st, h, c, k)
    | _ => none
  | .aload j => match pm_get ls j with
    | some (.ref x) => some (pc + 2, ls, .ref x :: st, h, c, k)
    | _ => none
  | .istore_n j => match st with
    | .int x :: r => if (j : Nat) < pm_maxL m then some (pc + 1, pm_st1 ls j (.int x), r, h, c, k) else none
    | _ => none
  | .istore j => match st with
    | .int x :: r => if j < pm_maxL m then some (pc + 2, pm_st1 ls j (.int x), r, h, c, k) else none
    | _ => none
  | .lstore_n j => match st with
    | .long x :: r => if (j : Nat) + 1 < pm_maxL m then some (pc + 1, pm_st2 ls j (.long x), r, h, c, k) else none
    | _ => none
  | .lstore j => match st with
    | .long x :: r => if j + 1 < pm_maxL m then some (pc + 2, pm_st2 ls j (.long x), r, h, c, k) else none
    | _ => none
  | .astore_n j => match st with
    | .ref x :: r => if (j : Nat) < pm_maxL m then some (pc + 1, pm_st1 ls j (.ref x), r, h, c, k) else none
    | _ => none
  | .astore j => match st with
    | .ref x :: r => if j < pm_maxL m then some (pc + 2, pm_st1 ls j (.ref x), r, h, c, k) else none
    | _ => none
  | .iinc j n => match pm_get ls j with
    | some (.int x) => if j < pm_maxL m then some (pc + 3, pm_st1 ls j (.int (x + Int32.ofInt n)), st, h, c, k) else none
    | _ => none
  | .dup => match st with
    | .int x :: r => some (pc + 1, ls, .int x :: .int x :: r, h, c, k)
    | .ref x :: r => some (pc + 1, ls, .ref x :: .ref x :: r, h, c, k)
    | _ => none
  | .dup2 => match st with
    | .int x :: .ref y :: r => some (pc + 1, ls, .int x :: .ref y :: .int x :: .ref y :: r, h, c, k)
    | _ => none
  | .iadd => match st with
    | .int y :: .int x :: r => some (pc + 1, ls, .int (x + y) :: r, h, c, k)
    | _ => none
  | .isub => match st with
    | .int y :: .int x :: r => some (pc + 1, ls, .int (x - y) :: r, h, c, k)
    | _ => none
  | .imul => match st with
    | .int y :: .int x :: r => some (pc + 1, ls, .int (x * y) :: r, h, c, k)
    | _ => none
  | .idiv => match st with
    | .int y :: .int x :: r => if y = 0 then none else some (pc + 1, ls, .int (x / y) :: r, h, c, k)
    | _ => none
  | .irem => match st with
    | .int y :: .int x :: r => if y = 0 then none else some (pc + 1, ls, .int (x - x / y * y) :: r, h, c, k)
    | _ => none
  | .iand => match st with
    | .int y :: .int x :: r => some (pc + 1, ls, .int (x &&& y) :: r, h, c, k)
    | _ => none
  | .ior => match st with
    | .int y :: .int x :: r => some (pc + 1, ls, .int (x ||| y) :: r, h, c, k)
    | _ => none
  | .ishl => match st with
    | .int y :: .int x :: r => some (pc + 1, ls, .int (x <<< (y &&& 31)) :: r, h, c, k)
    | _ => none
  | .ishr => match st with
    | .int y :: .int x :: r => some (pc + 1, ls, .int (x >>> (y &&& 31)) :: r, h, c, k)
    | _ => none
  | .iushr => match st with
    | .int y :: .int x :: r => some (pc + 1, ls, .int (x.toUInt32 >>> (y.toUInt32 &&& Int32.toUInt32 31)).toInt32 :: r, h, c, k)
    | _ => none
  | .ladd => match st with
    | .long y :: .long x :: r => some (pc + 1, ls, .long (x + y) :: r, h, c, k)
    | _ => none
  | .lsub => match st with
    | .long y :: .long x :: r => some (pc + 1, ls, .long (x - y) :: r, h, c, k)
    | _ => none
  | .lmul => match st with
    | .long y :: .long x :: r => some (pc + 1, ls, .long (x * y) :: r, h, c, k)
    | _ => none
  | .land => match st with
    | .long y :: .long x :: r => some (pc + 1, ls, .long (x &&& y) :: r, h, c, k)
    | _ => none
  | .lor => match st with
    | .long y :: .long x :: r => some (pc + 1, ls, .long (x ||| y) :: r, h, c, k)
    | _ => none
  | .lxor => match st with
    | .long y :: .long x :: r => some (pc + 1, ls, .long (x ^^^ y) :: r, h, c, k)
    | _ => none
  | .lshl => match st with
    | .int y :: .long x :: r => some (pc + 1, ls, .long (x <<< (y.toInt64 &&& 63)) :: r, h, c, k)
    | _ => none
  | .lshr => match st with
    | .int y :: .long x :: r => some (pc + 1, ls, .long (x >>> (y.toInt64 &&& 63)) :: r, h, c, k)
    | _ => none
  | .lushr => match st with
    | .int y :: .long x :: r => some (pc + 1, ls, .long (x.toUInt64 >>> (y.toInt64.toUInt64 &&& Int64.toUInt64 63)).toInt64 :: r, h, c, k)
    | _ => none
  | .i2l => match st with
    | .int x :: r => some (pc + 1, ls, .long x.toInt64 :: r, h, c, k)
    | _ => none
  | .l2i => match st with
    | .long x :: r => some (pc + 1, ls, .int x.toInt32 :: r, h, c, k)
    | _ => none
  | .lcmp => match st with
    | .long y :: .long x :: r => some (pc + 1, ls, .int (lg_cmp x y) :: r, h, c, k)
    | _ => none
  | .goto off => match pm_tgt pc off with
    | some t => some (t, ls, st, h, c, k)
    | none => none
  | .if_icmp cd off => match st with
    | .int y :: .int x :: r => match cd with
      | .eq => pm_br (decide (x = y)) pc off ls r h c k
      | .ne => pm_br (decide (¬ x = y)) pc off ls r h c k
      | .lt => pm_br (decide (x < y)) pc off ls r h c k
      | .ge => pm_br (decide (y ≤ x)) pc off ls r h c k
      | .gt => pm_br (decide (y < x)) pc off ls r h c k
      | .le => pm_br (decide (x ≤ y)) pc off ls r h c k
    | _ => none
  | .ifCond cd off => match st with
    | .int x :: r => match cd with
      | .eq => pm_br (decide (x = 0)) pc off ls r h c k
      | .ne => pm_br (decide (¬ x = 0)) pc off ls r h c k
      | .lt => pm_br (decide (x < 0)) pc off ls r h c k
      | .ge => pm_br (decide (0 ≤ x)) pc off ls r h c k
      | .gt => pm_br (decide (0 < x)) pc off ls r h c k
      | .le => pm_br (decide (x ≤ 0)) pc off ls r h c k
    | _ => none
  | _ => none
end
section
def pm_ws : List Cond := lw_tbl.filter goodWord
theorem pm_wsin {w : Cond} (h : w ∈ lw_tbl) (hg : goodWord w = true) : w ∈ pm_ws := List.mem_filter.mpr ⟨h, hg⟩
theorem pm_wstbl {w : Cond} (h : w ∈ pm_ws) : w ∈ lw_tbl := (List.mem_filter.mp h).1
theorem pm_wsgood {w : Cond} (h : w ∈ pm_ws) : goodWord w = true := (List.mem_filter.mp h).2
theorem pm_look_mem {α : Type} : ∀ {l : List (Nat × α)} {i : Nat} {a : α}, pm_look l i = some a → (i, a) ∈ l
  | [], _, _, h => by simp [pm_look] at h
  | (j, b) :: r, i, a, h => by
    unfold pm_look at h
    split at h
    · next e => cases h; subst e; exact List.mem_cons_self
    · exact List.mem_cons_of_mem _ (pm_look_mem h)
/-- of all elements of a list: a word at its place among the tables', good -/
theorem pm_subg {ws : List Cond} (ps : List Nat) (h : decide (ws.map some = ps.map (fun i => lw_tbl[i]?)) = true) (hg : ws.all goodWord = true) : ∀ w ∈ ws, w ∈ pm_ws := fun w hw => pm_wsin (pm_sub ps h w hw) (List.all_eq_true.mp hg w hw)
theorem pm_iteP {α : Type} {P : α → Prop} {c : Prop} [Decidable c] {a b : α} (ha : P a) (hb : P b) : P (if c then a else b) := by split <;> assumption
def pm_wf (k : Nat) (e : Nat × Nat × Nat) : Cond := .fieldLink (pm_own k) e.1 (((pm_cl.getD e.2.1 ("", fun _ => ("", "", "", false), 0)).2.1 e.2.2).1) (((pm_cl.getD e.2.1 ("", fun _ => ("", "", "", false), 0)).2.1 e.2.2).2.1) (((pm_cl.getD e.2.1 ("", fun _ => ("", "", "", false), 0)).2.1 e.2.2).2.2.1)
theorem pm_f0 : ∀ w ∈ (pm_flds 0).map (pm_wf 0), w ∈ pm_ws := pm_subg [330, 332, 334, 336, 339, 337, 338, 212, 207, 205] (by decide +kernel) (by decide +kernel)
theorem pm_fb0 : ∀ e ∈ pm_flds 0, e.2.1 < 12 ∧ e.2.2 < (pm_cl.getD e.2.1 ("", fun _ => ("", "", "", false), 0)).2.2 := by decide +kernel
theorem pm_f1 : ∀ w ∈ (pm_flds 1).map (pm_wf 1), w ∈ pm_ws := pm_subg [273, 275, 276, 277, 270, 279, 281, 283, 249, 239, 241, 243, 245, 247] (by decide +kernel) (by decide +kernel)
theorem pm_fb1 : ∀ e ∈ pm_flds 1, e.2.1 < 12 ∧ e.2.2 < (pm_cl.getD e.2.1 ("", fun _ => ("", "", "", false), 0)).2.2 := by decide +kernel
theorem pm_f2 : ∀ w ∈ (pm_flds 2).map (pm_wf 2), w ∈ pm_ws := pm_subg [159, 162, 165, 168, 171, 174, 176] (by decide +kernel) (by decide +kernel)
theorem pm_fb2 : ∀ e ∈ pm_flds 2, e.2.1 < 12 ∧ e.2.2 < (pm_cl.getD e.2.1 ("", fun _ => ("", "", "", false), 0)).2.2 := by decide +kernel
theorem pm_f3 : ∀ w ∈ (pm_flds 3).map (pm_wf 3), w ∈ pm_ws := pm_subg [137, 138, 139, 141] (by decide +kernel) (by decide +kernel)
theorem pm_fb3 : ∀ e ∈ pm_flds 3, e.2.1 < 12 ∧ e.2.2 < (pm_cl.getD e.2.1 ("", fun _ => ("", "", "", false), 0)).2.2 := by decide +kernel
theorem pm_f4 : ∀ w ∈ (pm_flds 4).map (pm_wf 4), w ∈ pm_ws := pm_subg [238, 240, 242, 244, 246, 248, 210, 203, 206] (by decide +kernel) (by decide +kernel)
theorem pm_fb4 : ∀ e ∈ pm_flds 4, e.2.1 < 12 ∧ e.2.2 < (pm_cl.getD e.2.1 ("", fun _ => ("", "", "", false), 0)).2.2 := by decide +kernel
theorem pm_f5 : ∀ w ∈ (pm_flds 5).map (pm_wf 5), w ∈ pm_ws := pm_subg [365, 367, 368, 370] (by decide +kernel) (by decide +kernel)
theorem pm_fb5 : ∀ e ∈ pm_flds 5, e.2.1 < 12 ∧ e.2.2 < (pm_cl.getD e.2.1 ("", fun _ => ("", "", "", false), 0)).2.2 := by decide +kernel
theorem pm_f6 : ∀ w ∈ (pm_flds 6).map (pm_wf 6), w ∈ pm_ws := pm_subg [200, 201, 211, 214, 209, 208, 204] (by decide +kernel) (by decide +kernel)
theorem pm_fb6 : ∀ e ∈ pm_flds 6, e.2.1 < 12 ∧ e.2.2 < (pm_cl.getD e.2.1 ("", fun _ => ("", "", "", false), 0)).2.2 := by decide +kernel
theorem pm_f7 : ∀ w ∈ (pm_flds 7).map (pm_wf 7), w ∈ pm_ws := pm_subg [110, 112, 114, 116, 117] (by decide +kernel) (by decide +kernel)
theorem pm_fb7 : ∀ e ∈ pm_flds 7, e.2.1 < 12 ∧ e.2.2 < (pm_cl.getD e.2.1 ("", fun _ => ("", "", "", false), 0)).2.2 := by decide +kernel
theorem pm_f8 : ∀ w ∈ (pm_flds 8).map (pm_wf 8), w ∈ pm_ws := pm_subg [392, 393, 394, 395, 396, 398, 400, 402, 389, 390, 391, 404, 405, 177, 172, 169, 160, 163, 271, 167, 278] (by decide +kernel) (by decide +kernel)
theorem pm_fb8 : ∀ e ∈ pm_flds 8, e.2.1 < 12 ∧ e.2.2 < (pm_cl.getD e.2.1 ("", fun _ => ("", "", "", false), 0)).2.2 := by decide +kernel
theorem pm_f9 : ∀ w ∈ (pm_flds 9).map (pm_wf 9), w ∈ pm_ws := pm_subg [309, 310, 311, 312] (by decide +kernel) (by decide +kernel)
theorem pm_fb9 : ∀ e ∈ pm_flds 9, e.2.1 < 12 ∧ e.2.2 < (pm_cl.getD e.2.1 ("", fun _ => ("", "", "", false), 0)).2.2 := by decide +kernel
theorem pm_f10 : ∀ w ∈ (pm_flds 10).map (pm_wf 10), w ∈ pm_ws := pm_subg [434, 435, 436, 437, 438, 439, 440, 441, 442, 443, 444, 445, 113, 115, 111, 166, 175, 161, 164, 170, 173, 397, 399, 401, 178, 118, 142, 250, 202, 313, 340, 371, 272, 280, 282, 284, 274, 403, 140, 366, 369, 213, 215, 335, 331, 333] (by decide +kernel) (by decide +kernel)
theorem pm_fb10 : ∀ e ∈ pm_flds 10, e.2.1 < 12 ∧ e.2.2 < (pm_cl.getD e.2.1 ("", fun _ => ("", "", "", false), 0)).2.2 := by decide +kernel
theorem pm_f11 : ∀ w ∈ (pm_flds 11).map (pm_wf 11), w ∈ pm_ws := pm_subg [1090, 1091, 1092, 1093, 1095, 1096, 1097, 1099, 1100, 1101, 1102, 1103, 1104, 1106, 1107, 1109, 1110, 1111, 1112, 1113, 1115, 1116, 1117, 1118, 1119, 1120, 1121, 1123, 1129, 1130, 1132, 1133, 1134, 1137, 1140, 1145, 1147, 1148, 1149, 1089, 1088, 1094, 1098, 1105, 1114, 1108, 1122, 1128, 1131, 1146, 1124, 1125, 1126, 1127, 1135, 1136, 1139, 1138, 1141, 1142, 1143, 1144] (by decide +kernel) (by decide +kernel)
theorem pm_fb11 : ∀ e ∈ pm_flds 11, e.2.1 < 12 ∧ e.2.2 < (pm_cl.getD e.2.1 ("", fun _ => ("", "", "", false), 0)).2.2 := by decide +kernel
theorem pm_f12 : ∀ w ∈ (pm_flds 12).map (pm_wf 12), w ∈ pm_ws := pm_subg [] (by decide +kernel) (by decide +kernel)
theorem pm_fb12 : ∀ e ∈ pm_flds 12, e.2.1 < 12 ∧ e.2.2 < (pm_cl.getD e.2.1 ("", fun _ => ("", "", "", false), 0)).2.2 := by decide +kernel
theorem pm_f13 : ∀ w ∈ (pm_flds 13).map (pm_wf 13), w ∈ pm_ws := pm_subg [] (by decide +kernel) (by decide +kernel)
theorem pm_fb13 : ∀ e ∈ pm_flds 13, e.2.1 < 12 ∧ e.2.2 < (pm_cl.getD e.2.1 ("", fun _ => ("", "", "", false), 0)).2.2 := by decide +kernel
theorem pm_f14 : ∀ w ∈ (pm_flds 14).map (pm_wf 14), w ∈ pm_ws := pm_subg [] (by decide +kernel) (by decide +kernel)
theorem pm_fb14 : ∀ e ∈ pm_flds 14, e.2.1 < 12 ∧ e.2.2 < (pm_cl.getD e.2.1 ("", fun _ => ("", "", "", false), 0)).2.2 := by decide +kernel
theorem pm_f15 : ∀ w ∈ (pm_flds 15).map (pm_wf 15), w ∈ pm_ws := pm_subg [] (by decide +kernel) (by decide +kernel)
theorem pm_fb15 : ∀ e ∈ pm_flds 15, e.2.1 < 12 ∧ e.2.2 < (pm_cl.getD e.2.1 ("", fun _ => ("", "", "", false), 0)).2.2 := by decide +kernel
theorem pm_fA : ∀ k : Nat, ∀ w ∈ (pm_flds k).map (pm_wf k), w ∈ pm_ws := fun k => match k with
  | 0 => pm_f0
  | 1 => pm_f1
  | 2 => pm_f2
  | 3 => pm_f3
  | 4 => pm_f4
  | 5 => pm_f5
  | 6 => pm_f6
  | 7 => pm_f7
  | 8 => pm_f8
  | 9 => pm_f9
  | 10 => pm_f10
  | 11 => pm_f11
  | 12 => pm_f12
  | 13 => pm_f13
  | 14 => pm_f14
  | 15 => pm_f15
  | _ + 16 => fun w h => by simp [pm_flds] at h
theorem pm_fB : ∀ k : Nat, ∀ e ∈ pm_flds k, e.2.1 < 12 ∧ e.2.2 < (pm_cl.getD e.2.1 ("", fun _ => ("", "", "", false), 0)).2.2 := fun k => match k with
  | 0 => pm_fb0
  | 1 => pm_fb1
  | 2 => pm_fb2
  | 3 => pm_fb3
  | 4 => pm_fb4
  | 5 => pm_fb5
  | 6 => pm_fb6
  | 7 => pm_fb7
  | 8 => pm_fb8
  | 9 => pm_fb9
  | 10 => pm_fb10
  | 11 => pm_fb11
  | 12 => pm_fb12
  | 13 => pm_fb13
  | 14 => pm_fb14
  | 15 => pm_fb15
  | _ + 16 => fun w h => by simp [pm_flds] at h
def pm_wc (k : Nat) (e : Nat × Nat × Nat × Nat) : List Cond := if e.2.2.1 = 3 then [.methodLink (pm_own k) e.1 objectInit, .instanceMethod objectInit, .code objectInit ⟨#[0xb1]⟩ 1 none] else
  ([.initialized (pm_y e.2.1).cls] ++ (if e.2.2.1 < 10 then [.methodLink (pm_own k) e.1 (pm_y e.2.1)] else [])) ++ (match e.2.2.1 % 10 with
    | 0 => [.instanceMethod (pm_y e.2.1), .selects (pm_y e.2.1).cls (pm_y e.2.1) (pm_y e.2.1)]
    | 1 => [.static (pm_y e.2.1)]
    | _ => [.instanceMethod (pm_y e.2.1)])
def pm_chkc (e : Nat × Nat × Nat × Nat) : Bool := e.2.2.1 == 3 || (decide ((pm_y e.2.1).cls ≠ "java/lang/invoke/MethodHandle" ∧ (pm_y e.2.1).cls ≠ "java/lang/invoke/VarHandle" ∧ (parseMethodDescriptor (pm_y e.2.1).desc).map (fun d => d.parameters.length) = some e.2.2.2) && (!(e.2.2.1 % 10 == 2) || (decide ((pm_y e.2.1).name = "<init>") && decide (pm_ret e.2.1 = none))))
theorem pm_c0 : ∀ w ∈ (pm_calls 0).flatMap (pm_wc 0), w ∈ pm_ws := pm_subg [328, 97, 98, 77, 906, 744, 745, 81, 907, 909, 9, 81, 924, 926, 12, 81, 944, 946, 14, 81, 952, 954, 16, 77, 911, 858, 859, 81, 912, 914, 10, 77, 922, 767, 768, 81, 917, 919, 11, 77, 923, 748, 749, 77, 916, 824, 825, 81, 928, 929, 81, 936, 937, 81, 940, 942, 13, 77, 939, 832, 833, 81, 948, 950, 15, 81, 957, 959, 17] (by decide +kernel) (by decide +kernel)
theorem pm_cc0 : ∀ e ∈ pm_calls 0, pm_chkc e = true := by decide +kernel
theorem pm_c1 : ∀ w ∈ (pm_calls 1).flatMap (pm_wc 1), w ∈ pm_ws := pm_subg [269, 97, 98, 74, 566, 108, 74, 567, 568, 79, 562, 564, 1, 78, 570, 571, 572, 79, 574, 576, 2, 79, 578, 580, 3, 79, 592, 593] (by decide +kernel) (by decide +kernel)
theorem pm_cc1 : ∀ e ∈ pm_calls 1, pm_chkc e = true := by decide +kernel
theorem pm_c2 : ∀ w ∈ (pm_calls 2).flatMap (pm_wc 2), w ∈ pm_ws := pm_subg [157, 97, 98, 74, 675, 108, 76, 612, 613, 614] (by decide +kernel) (by decide +kernel)
theorem pm_cc2 : ∀ e ∈ pm_calls 2, pm_chkc e = true := by decide +kernel
theorem pm_c3 : ∀ w ∈ (pm_calls 3).flatMap (pm_wc 3), w ∈ pm_ws := pm_subg [136, 97, 98, 75, 663, 653, 654, 72, 524] (by decide +kernel) (by decide +kernel)
theorem pm_cc3 : ∀ e ∈ pm_calls 3, pm_chkc e = true := by decide +kernel
theorem pm_c4 : ∀ w ∈ (pm_calls 4).flatMap (pm_wc 4), w ∈ pm_ws := pm_subg [236, 97, 98, 77, 743, 744, 745, 78, 758, 760, 7, 77, 766, 767, 768, 78, 762, 763, 77, 823, 824, 825, 77, 827, 748, 749, 78, 828, 829, 78, 837, 838, 77, 853, 854, 855, 77, 831, 832, 833, 78, 840, 841, 77, 847, 848, 849] (by decide +kernel) (by decide +kernel)
theorem pm_cc4 : ∀ e ∈ pm_calls 4, pm_chkc e = true := by decide +kernel
theorem pm_c5 : ∀ w ∈ (pm_calls 5).flatMap (pm_wc 5), w ∈ pm_ws := pm_subg [361, 97, 98] (by decide +kernel) (by decide +kernel)
theorem pm_cc5 : ∀ e ∈ pm_calls 5, pm_chkc e = true := by decide +kernel
theorem pm_c6 : ∀ w ∈ (pm_calls 6).flatMap (pm_wc 6), w ∈ pm_ws := pm_subg [199, 97, 98, 77, 747, 748, 749, 77, 751, 753, 6, 77, 755, 756, 77, 851, 767, 768, 77, 835, 824, 825, 77, 857, 858, 859, 72, 524] (by decide +kernel) (by decide +kernel)
theorem pm_cc6 : ∀ e ∈ pm_calls 6, pm_chkc e = true := by decide +kernel
theorem pm_c7 : ∀ w ∈ (pm_calls 7).flatMap (pm_wc 7), w ∈ pm_ws := pm_subg [104, 97, 98, 74, 107, 108, 73, 500, 501, 502, 73, 487, 480, 481, 85, 504, 505, 72, 524, 73, 488, 489, 490, 73, 519, 520, 521, 73, 515, 516, 517, 73, 536, 512, 513, 73, 625, 484, 485] (by decide +kernel) (by decide +kernel)
theorem pm_cc7 : ∀ e ∈ pm_calls 7, pm_chkc e = true := by decide +kernel
theorem pm_c8 : ∀ w ∈ (pm_calls 8).flatMap (pm_wc 8), w ∈ pm_ws := pm_subg [386, 97, 98, 79, 267, 74, 557, 108, 79, 558, 559, 560, 83, 582, 584, 4, 79, 599, 600, 601, 73, 586, 484, 485, 73, 587, 516, 517, 79, 588, 589, 590, 79, 595, 596, 597, 83, 553, 554, 555, 74, 603, 568, 83, 604, 606, 5, 76, 608, 609, 610, 73, 616, 617, 618, 73, 620, 489, 490, 73, 621, 622, 623, 73, 626, 627, 628, 83, 634, 635, 636, 73, 705, 512, 513, 83, 1008, 702, 703, 83, 726, 693, 694] (by decide +kernel) (by decide +kernel)
theorem pm_cc8 : ∀ e ∈ pm_calls 8, pm_chkc e = true := by decide +kernel
theorem pm_c9 : ∀ w ∈ (pm_calls 9).flatMap (pm_wc 9), w ∈ pm_ws := pm_subg [308, 97, 98, 80, 889, 882, 883, 86, 890, 639] (by decide +kernel) (by decide +kernel)
theorem pm_cc9 : ∀ e ∈ pm_calls 9, pm_chkc e = true := by decide +kernel
theorem pm_c10 : ∀ w ∈ (pm_calls 10).flatMap (pm_wc 10), w ∈ pm_ws := pm_subg [96, 97, 98, 73, 101, 102, 75, 134, 76, 155, 77, 197, 78, 234, 79, 267, 80, 306, 81, 326, 82, 359, 83, 383, 384, 73, 479, 480, 481, 73, 483, 484, 485, 83, 492, 493, 494, 73, 496, 497, 498, 73, 511, 512, 513, 73, 526, 520, 521, 73, 527, 501, 502, 73, 532, 533, 534, 72, 541, 543, 0, 72, 545, 524, 72, 546, 547, 83, 549, 550, 551, 83, 630, 631, 632, 86, 638, 639, 75, 652, 653, 654, 72, 656, 657, 75, 659, 660, 661, 72, 668, 669, 76, 671, 672, 673, 76, 680, 613, 614, 76, 681, 609, 610, 83, 686, 554, 555, 79, 691, 559, 560, 83, 692, 693, 694, 83, 701, 702, 703, 73, 710, 711, 712, 83, 714, 715, 716, 83, 718, 719, 720, 83, 722, 723, 724, 77, 731, 732, 733, 78, 739, 740, 741, 72, 861, 863, 8, 72, 878, 879, 80, 881, 882, 883, 80, 885, 886, 887, 85, 895, 896, 81, 902, 903, 904, 81, 966, 967, 968, 72, 970, 972, 18, 72, 997, 998, 76, 979, 980, 981, 83, 1004, 1005, 1006, 72, 1009, 1010, 75, 983, 984, 985, 72, 1016, 1017, 72, 1023, 1025, 20, 83, 1035, 1036, 1037, 82, 1049, 1050, 1051, 82, 1057, 1058, 1059, 82, 1061, 1062, 1063, 72, 1027, 1029, 21, 85, 1073, 505, 72, 974, 976, 19, 75, 992, 993, 994, 83, 978, 635, 636, 75, 988, 989, 990] (by decide +kernel) (by decide +kernel)
theorem pm_cc10 : ∀ e ∈ pm_calls 10, pm_chkc e = true := by decide +kernel
theorem pm_c11 : ∀ w ∈ (pm_calls 11).flatMap (pm_wc 11), w ∈ pm_ws := pm_subg [1079, 97, 98, 84, 1080, 1082, 22, 84, 1287, 1288, 84, 1084, 1086, 23, 84, 1283, 1285, 24, 84, 1294, 1296, 26, 84, 1302, 1304, 27, 84, 1290, 1292, 25, 84, 1310, 1312, 28, 84, 1318, 1320, 29, 84, 1323, 1325, 30, 84, 1383, 1385, 43, 84, 1393, 1394, 84, 1402, 1404, 44, 84, 1367, 1369, 41, 84, 1331, 1333, 32, 84, 1339, 1341, 34, 84, 1355, 1357, 38, 84, 1351, 1353, 37, 84, 1347, 1349, 36, 84, 1359, 1361, 39, 84, 1335, 1337, 33, 84, 1343, 1345, 35, 84, 1363, 1365, 40, 84, 1327, 1329, 31, 84, 1371, 1373, 42, 84, 1415, 1417, 45, 84, 1437, 1439, 46, 84, 1462, 1464, 50, 84, 1445, 1447, 48, 84, 1459, 1460, 84, 1470, 1472, 52, 84, 1477, 1479, 53, 84, 1485, 1487, 55, 84, 1455, 1457, 49, 84, 1466, 1468, 51, 84, 1481, 1483, 54, 84, 1441, 1443, 47, 84, 1501, 1502, 84, 1506, 1508, 56, 84, 1530, 1532, 60, 84, 1534, 1536, 61, 84, 1522, 1524, 58, 84, 1526, 1528, 59, 84, 1518, 1520, 57, 84, 1538, 1540, 62, 84, 1550, 1552, 64, 84, 1554, 1556, 65, 84, 1546, 1548, 63, 84, 1563, 1565, 66, 84, 1571, 1573, 67, 84, 1583, 1585, 69, 84, 1579, 1581, 68, 84, 1597, 1599, 70] (by decide +kernel) (by decide +kernel)
theorem pm_cc11 : ∀ e ∈ pm_calls 11, pm_chkc e = true := by decide +kernel
theorem pm_c12 : ∀ w ∈ (pm_calls 12).flatMap (pm_wc 12), w ∈ pm_ws := pm_subg [] (by decide +kernel) (by decide +kernel)
theorem pm_cc12 : ∀ e ∈ pm_calls 12, pm_chkc e = true := by decide +kernel
theorem pm_c13 : ∀ w ∈ (pm_calls 13).flatMap (pm_wc 13), w ∈ pm_ws := pm_subg [] (by decide +kernel) (by decide +kernel)
theorem pm_cc13 : ∀ e ∈ pm_calls 13, pm_chkc e = true := by decide +kernel
theorem pm_c14 : ∀ w ∈ (pm_calls 14).flatMap (pm_wc 14), w ∈ pm_ws := pm_subg [] (by decide +kernel) (by decide +kernel)
theorem pm_cc14 : ∀ e ∈ pm_calls 14, pm_chkc e = true := by decide +kernel
theorem pm_c15 : ∀ w ∈ (pm_calls 15).flatMap (pm_wc 15), w ∈ pm_ws := pm_subg [72, 93, 94, 84, 1076, 1077, 72, 471, 472, 473, 84, 1275, 1276, 1277, 72, 475, 476, 477, 84, 1279, 1280, 1281, 72, 507, 508, 509, 84, 1298, 1299, 1300, 72, 528, 529, 530, 84, 1306, 1307, 1308, 72, 537, 538, 539, 84, 1314, 1315, 1316, 72, 644, 645, 646, 84, 1375, 1376, 1377, 72, 648, 649, 650, 84, 1379, 1380, 1381, 72, 664, 665, 666, 84, 1389, 1390, 1391, 72, 676, 677, 678, 84, 1398, 1399, 1400, 72, 682, 683, 684, 84, 1406, 1407, 1408, 72, 687, 688, 689, 84, 1410, 1411, 1412, 72, 697, 698, 699, 84, 1419, 1420, 1421, 72, 706, 707, 708, 84, 1423, 1424, 1425, 72, 727, 728, 729, 84, 1427, 1428, 1429, 72, 735, 736, 737, 84, 1433, 1434, 1435, 72, 866, 867, 868, 84, 1489, 1490, 1491, 72, 870, 871, 872, 84, 1493, 1494, 1495, 72, 874, 875, 876, 84, 1497, 1498, 1499, 72, 891, 892, 893, 84, 1510, 1511, 1512, 72, 898, 899, 900, 84, 1514, 1515, 1516, 72, 962, 963, 964, 84, 1542, 1543, 1544, 72, 1000, 1001, 1002, 84, 1558, 1559, 1560, 72, 1012, 1013, 1014, 84, 1567, 1568, 1569, 72, 1019, 1020, 1021, 84, 1575, 1576, 1577, 72, 1031, 1032, 1033, 84, 1587, 1588, 1589, 72, 1039, 1040, 1041, 84, 1591, 1592, 1593, 72, 1045, 1046, 1047, 84, 1601, 1602, 1603, 72, 1053, 1054, 1055, 84, 1605, 1606, 1607, 72, 1065, 1066, 1067, 84, 1609, 1610, 1611, 72, 1069, 1070, 1071, 84, 1613, 1614, 1615] (by decide +kernel) (by decide +kernel)
theorem pm_cc15 : ∀ e ∈ pm_calls 15, pm_chkc e = true := by decide +kernel
theorem pm_cA : ∀ k : Nat, ∀ w ∈ (pm_calls k).flatMap (pm_wc k), w ∈ pm_ws := fun k => match k with
  | 0 => pm_c0
  | 1 => pm_c1
  | 2 => pm_c2
  | 3 => pm_c3
  | 4 => pm_c4
  | 5 => pm_c5
  | 6 => pm_c6
  | 7 => pm_c7
  | 8 => pm_c8
  | 9 => pm_c9
  | 10 => pm_c10
  | 11 => pm_c11
  | 12 => pm_c12
  | 13 => pm_c13
  | 14 => pm_c14
  | 15 => pm_c15
  | _ + 16 => fun w h => by simp [pm_calls] at h
theorem pm_cB : ∀ k : Nat, ∀ e ∈ pm_calls k, pm_chkc e = true := fun k => match k with
  | 0 => pm_cc0
  | 1 => pm_cc1
  | 2 => pm_cc2
  | 3 => pm_cc3
  | 4 => pm_cc4
  | 5 => pm_cc5
  | 6 => pm_cc6
  | 7 => pm_cc7
  | 8 => pm_cc8
  | 9 => pm_cc9
  | 10 => pm_cc10
  | 11 => pm_cc11
  | 12 => pm_cc12
  | 13 => pm_cc13
  | 14 => pm_cc14
  | 15 => pm_cc15
  | _ + 16 => fun w h => by simp [pm_calls] at h
def pm_nest : List (Nat × Nat × Nat) := [(3, 29, 121), (6, 65, 121), (7, 50, 121), (8, 11, 14), (10, 18, 28), (10, 25, 23), (10, 32, 46), (10, 39, 34), (10, 46, 14), (10, 53, 87), (10, 60, 0), (10, 67, 42)]
def pm_wn (e : Nat × Nat × Nat) : Cond := .methodLinkNest (pm_own e.1) e.2.1 (pm_y e.2.2) "MarkTree"
theorem pm_nA : ∀ w ∈ pm_nest.map pm_wn, w ∈ lw_tbl := pm_sub [987, 836, 523, 388, 133, 154, 196, 233, 266, 305, 325, 358] (by decide +kernel)
theorem pm_nB : ∀ k : Nat, ∀ e ∈ pm_calls k, ¬ e.2.2.1 < 10 → (k, e.1, e.2.1) ∈ pm_nest := fun k => match k with
  | 0 => by decide +kernel
  | 1 => by decide +kernel
  | 2 => by decide +kernel
  | 3 => by decide +kernel
  | 4 => by decide +kernel
  | 5 => by decide +kernel
  | 6 => by decide +kernel
  | 7 => by decide +kernel
  | 8 => by decide +kernel
  | 9 => by decide +kernel
  | 10 => by decide +kernel
  | 11 => by decide +kernel
  | 12 => by decide +kernel
  | 13 => by decide +kernel
  | 14 => by decide +kernel
  | 15 => by decide +kernel
  | _ + 16 => fun w h => by simp [pm_calls] at h
def pm_wnw (k : Nat) (e : Nat × Nat) : Cond := .classLink (pm_own k) e.1 (pm_own e.2)
theorem pm_w0 : ∀ w ∈ (pm_news 0).map (pm_wnw 0), w ∈ pm_ws := pm_subg [] (by decide +kernel) (by decide +kernel)
theorem pm_w1 : ∀ w ∈ (pm_news 1).map (pm_wnw 1), w ∈ pm_ws := pm_subg [] (by decide +kernel) (by decide +kernel)
theorem pm_w2 : ∀ w ∈ (pm_news 2).map (pm_wnw 2), w ∈ pm_ws := pm_subg [] (by decide +kernel) (by decide +kernel)
theorem pm_w3 : ∀ w ∈ (pm_news 3).map (pm_wnw 3), w ∈ pm_ws := pm_subg [] (by decide +kernel) (by decide +kernel)
theorem pm_w4 : ∀ w ∈ (pm_news 4).map (pm_wnw 4), w ∈ pm_ws := pm_subg [] (by decide +kernel) (by decide +kernel)
theorem pm_w5 : ∀ w ∈ (pm_news 5).map (pm_wnw 5), w ∈ pm_ws := pm_subg [] (by decide +kernel) (by decide +kernel)
theorem pm_w6 : ∀ w ∈ (pm_news 6).map (pm_wnw 6), w ∈ pm_ws := pm_subg [] (by decide +kernel) (by decide +kernel)
theorem pm_w7 : ∀ w ∈ (pm_news 7).map (pm_wnw 7), w ∈ pm_ws := pm_subg [] (by decide +kernel) (by decide +kernel)
theorem pm_w8 : ∀ w ∈ (pm_news 8).map (pm_wnw 8), w ∈ pm_ws := pm_subg [387] (by decide +kernel) (by decide +kernel)
theorem pm_w9 : ∀ w ∈ (pm_news 9).map (pm_wnw 9), w ∈ pm_ws := pm_subg [] (by decide +kernel) (by decide +kernel)
theorem pm_w10 : ∀ w ∈ (pm_news 10).map (pm_wnw 10), w ∈ pm_ws := pm_subg [99, 131, 152, 194, 231, 264, 303, 323, 356, 381] (by decide +kernel) (by decide +kernel)
theorem pm_w11 : ∀ w ∈ (pm_news 11).map (pm_wnw 11), w ∈ pm_ws := pm_subg [] (by decide +kernel) (by decide +kernel)
theorem pm_w12 : ∀ w ∈ (pm_news 12).map (pm_wnw 12), w ∈ pm_ws := pm_subg [] (by decide +kernel) (by decide +kernel)
theorem pm_w13 : ∀ w ∈ (pm_news 13).map (pm_wnw 13), w ∈ pm_ws := pm_subg [] (by decide +kernel) (by decide +kernel)
theorem pm_w14 : ∀ w ∈ (pm_news 14).map (pm_wnw 14), w ∈ pm_ws := pm_subg [] (by decide +kernel) (by decide +kernel)
theorem pm_w15 : ∀ w ∈ (pm_news 15).map (pm_wnw 15), w ∈ pm_ws := pm_subg [91, 1074] (by decide +kernel) (by decide +kernel)
theorem pm_wA : ∀ k : Nat, ∀ w ∈ (pm_news k).map (pm_wnw k), w ∈ pm_ws := fun k => match k with
  | 0 => pm_w0
  | 1 => pm_w1
  | 2 => pm_w2
  | 3 => pm_w3
  | 4 => pm_w4
  | 5 => pm_w5
  | 6 => pm_w6
  | 7 => pm_w7
  | 8 => pm_w8
  | 9 => pm_w9
  | 10 => pm_w10
  | 11 => pm_w11
  | 12 => pm_w12
  | 13 => pm_w13
  | 14 => pm_w14
  | 15 => pm_w15
  | _ + 16 => fun w h => by simp [pm_news] at h
def pm_wmn (k : Nat) (e : Nat × Nat) : Cond := .classLink (pm_own k) e.1 (if e.2 = 20 then "[[I" else "[[J")
theorem pm_mn0 : ∀ w ∈ (pm_mnas 0).map (pm_wmn 0), w ∈ pm_ws := pm_subg [329] (by decide +kernel) (by decide +kernel)
theorem pm_mn1 : ∀ w ∈ (pm_mnas 1).map (pm_wmn 1), w ∈ pm_ws := pm_subg [] (by decide +kernel) (by decide +kernel)
theorem pm_mn2 : ∀ w ∈ (pm_mnas 2).map (pm_wmn 2), w ∈ pm_ws := pm_subg [158] (by decide +kernel) (by decide +kernel)
theorem pm_mn3 : ∀ w ∈ (pm_mnas 3).map (pm_wmn 3), w ∈ pm_ws := pm_subg [] (by decide +kernel) (by decide +kernel)
theorem pm_mn4 : ∀ w ∈ (pm_mnas 4).map (pm_wmn 4), w ∈ pm_ws := pm_subg [237] (by decide +kernel) (by decide +kernel)
theorem pm_mn5 : ∀ w ∈ (pm_mnas 5).map (pm_wmn 5), w ∈ pm_ws := pm_subg [362, 363] (by decide +kernel) (by decide +kernel)
theorem pm_mn6 : ∀ w ∈ (pm_mnas 6).map (pm_wmn 6), w ∈ pm_ws := pm_subg [] (by decide +kernel) (by decide +kernel)
theorem pm_mn7 : ∀ w ∈ (pm_mnas 7).map (pm_wmn 7), w ∈ pm_ws := pm_subg [105] (by decide +kernel) (by decide +kernel)
theorem pm_mn8 : ∀ w ∈ (pm_mnas 8).map (pm_wmn 8), w ∈ pm_ws := pm_subg [] (by decide +kernel) (by decide +kernel)
theorem pm_mn9 : ∀ w ∈ (pm_mnas 9).map (pm_wmn 9), w ∈ pm_ws := pm_subg [] (by decide +kernel) (by decide +kernel)
theorem pm_mn10 : ∀ w ∈ (pm_mnas 10).map (pm_wmn 10), w ∈ pm_ws := pm_subg [] (by decide +kernel) (by decide +kernel)
theorem pm_mn11 : ∀ w ∈ (pm_mnas 11).map (pm_wmn 11), w ∈ pm_ws := pm_subg [] (by decide +kernel) (by decide +kernel)
theorem pm_mn12 : ∀ w ∈ (pm_mnas 12).map (pm_wmn 12), w ∈ pm_ws := pm_subg [] (by decide +kernel) (by decide +kernel)
theorem pm_mn13 : ∀ w ∈ (pm_mnas 13).map (pm_wmn 13), w ∈ pm_ws := pm_subg [] (by decide +kernel) (by decide +kernel)
theorem pm_mn14 : ∀ w ∈ (pm_mnas 14).map (pm_wmn 14), w ∈ pm_ws := pm_subg [] (by decide +kernel) (by decide +kernel)
theorem pm_mn15 : ∀ w ∈ (pm_mnas 15).map (pm_wmn 15), w ∈ pm_ws := pm_subg [] (by decide +kernel) (by decide +kernel)
theorem pm_mnA : ∀ k : Nat, ∀ w ∈ (pm_mnas k).map (pm_wmn k), w ∈ pm_ws := fun k => match k with
  | 0 => pm_mn0
  | 1 => pm_mn1
  | 2 => pm_mn2
  | 3 => pm_mn3
  | 4 => pm_mn4
  | 5 => pm_mn5
  | 6 => pm_mn6
  | 7 => pm_mn7
  | 8 => pm_mn8
  | 9 => pm_mn9
  | 10 => pm_mn10
  | 11 => pm_mn11
  | 12 => pm_mn12
  | 13 => pm_mn13
  | 14 => pm_mn14
  | 15 => pm_mn15
  | _ + 16 => fun w h => by simp [pm_mnas] at h
def pm_strs : List (Nat × Nat × String) := [(0, 67, "not"), (0, 97, "mark"), (0, 99, "word"), (0, 101, "hand"), (0, 103, "before"), (0, 105, "at"), (0, 117, "and"), (0, 122, "or"), (4, 47, "key"), (4, 53, "allow"), (4, 55, "bar"), (4, 57, "need"), (4, 59, "most"), (4, 61, "strike"), (4, 95, "under"), (4, 101, "with"), (4, 103, "keeps"), (4, 105, "turns"), (4, 107, "raises")]
def pm_wk (k : Nat) (e : Nat × Value) : List Cond := match e.2 with
  | .int v => [.constant (pm_own k) e.1 v]
  | .long v => [.constantLong (pm_own k) e.1 v]
  | _ => []
def pm_chk (k : Nat) (e : Nat × Value) : Bool := match e.2 with
  | .int _ => true
  | .long _ => true
  | .ref j => decide (2001 ≤ j) && (match pm_strs[j - 2001]? with
    | some q => decide (q.1 = k ∧ q.2.1 = e.1)
    | none => false)
  | _ => false
theorem pm_k0 : ∀ w ∈ (pm_cons 0).flatMap (pm_wk 0), w ∈ pm_ws := pm_subg [] (by decide +kernel) (by decide +kernel)
theorem pm_kc0 : ∀ e ∈ pm_cons 0, pm_chk 0 e = true := by decide +kernel
theorem pm_k1 : ∀ w ∈ (pm_cons 1).flatMap (pm_wk 1), w ∈ pm_ws := pm_subg [] (by decide +kernel) (by decide +kernel)
theorem pm_kc1 : ∀ e ∈ pm_cons 1, pm_chk 1 e = true := by decide +kernel
theorem pm_k2 : ∀ w ∈ (pm_cons 2).flatMap (pm_wk 2), w ∈ pm_ws := pm_subg [] (by decide +kernel) (by decide +kernel)
theorem pm_kc2 : ∀ e ∈ pm_cons 2, pm_chk 2 e = true := by decide +kernel
theorem pm_k3 : ∀ w ∈ (pm_cons 3).flatMap (pm_wk 3), w ∈ pm_ws := pm_subg [] (by decide +kernel) (by decide +kernel)
theorem pm_kc3 : ∀ e ∈ pm_cons 3, pm_chk 3 e = true := by decide +kernel
theorem pm_k4 : ∀ w ∈ (pm_cons 4).flatMap (pm_wk 4), w ∈ pm_ws := pm_subg [] (by decide +kernel) (by decide +kernel)
theorem pm_kc4 : ∀ e ∈ pm_cons 4, pm_chk 4 e = true := by decide +kernel
theorem pm_k5 : ∀ w ∈ (pm_cons 5).flatMap (pm_wk 5), w ∈ pm_ws := pm_subg [] (by decide +kernel) (by decide +kernel)
theorem pm_kc5 : ∀ e ∈ pm_cons 5, pm_chk 5 e = true := by decide +kernel
theorem pm_k6 : ∀ w ∈ (pm_cons 6).flatMap (pm_wk 6), w ∈ pm_ws := pm_subg [] (by decide +kernel) (by decide +kernel)
theorem pm_kc6 : ∀ e ∈ pm_cons 6, pm_chk 6 e = true := by decide +kernel
theorem pm_k7 : ∀ w ∈ (pm_cons 7).flatMap (pm_wk 7), w ∈ pm_ws := pm_subg [] (by decide +kernel) (by decide +kernel)
theorem pm_kc7 : ∀ e ∈ pm_cons 7, pm_chk 7 e = true := by decide +kernel
theorem pm_k8 : ∀ w ∈ (pm_cons 8).flatMap (pm_wk 8), w ∈ pm_ws := pm_subg [696] (by decide +kernel) (by decide +kernel)
theorem pm_kc8 : ∀ e ∈ pm_cons 8, pm_chk 8 e = true := by decide +kernel
theorem pm_k9 : ∀ w ∈ (pm_cons 9).flatMap (pm_wk 9), w ∈ pm_ws := pm_subg [] (by decide +kernel) (by decide +kernel)
theorem pm_kc9 : ∀ e ∈ pm_cons 9, pm_chk 9 e = true := by decide +kernel
theorem pm_k10 : ∀ w ∈ (pm_cons 10).flatMap (pm_wk 10), w ∈ pm_ws := pm_subg [1043, 1044, 996] (by decide +kernel) (by decide +kernel)
theorem pm_kc10 : ∀ e ∈ pm_cons 10, pm_chk 10 e = true := by decide +kernel
theorem pm_k11 : ∀ w ∈ (pm_cons 11).flatMap (pm_wk 11), w ∈ pm_ws := pm_subg [1322, 1396, 1387, 1388, 1397, 1414, 1431, 1432, 1449, 1450, 1451, 1452, 1453, 1454, 1474, 1475, 1476, 1504, 1505, 1562, 1595, 1596] (by decide +kernel) (by decide +kernel)
theorem pm_kc11 : ∀ e ∈ pm_cons 11, pm_chk 11 e = true := by decide +kernel
theorem pm_k12 : ∀ w ∈ (pm_cons 12).flatMap (pm_wk 12), w ∈ pm_ws := pm_subg [641, 642, 643] (by decide +kernel) (by decide +kernel)
theorem pm_kc12 : ∀ e ∈ pm_cons 12, pm_chk 12 e = true := by decide +kernel
theorem pm_k13 : ∀ w ∈ (pm_cons 13).flatMap (pm_wk 13), w ∈ pm_ws := pm_subg [] (by decide +kernel) (by decide +kernel)
theorem pm_kc13 : ∀ e ∈ pm_cons 13, pm_chk 13 e = true := by decide +kernel
theorem pm_k14 : ∀ w ∈ (pm_cons 14).flatMap (pm_wk 14), w ∈ pm_ws := pm_subg [] (by decide +kernel) (by decide +kernel)
theorem pm_kc14 : ∀ e ∈ pm_cons 14, pm_chk 14 e = true := by decide +kernel
theorem pm_k15 : ∀ w ∈ (pm_cons 15).flatMap (pm_wk 15), w ∈ pm_ws := pm_subg [1617] (by decide +kernel) (by decide +kernel)
theorem pm_kc15 : ∀ e ∈ pm_cons 15, pm_chk 15 e = true := by decide +kernel
theorem pm_kA : ∀ k : Nat, ∀ w ∈ (pm_cons k).flatMap (pm_wk k), w ∈ pm_ws := fun k => match k with
  | 0 => pm_k0
  | 1 => pm_k1
  | 2 => pm_k2
  | 3 => pm_k3
  | 4 => pm_k4
  | 5 => pm_k5
  | 6 => pm_k6
  | 7 => pm_k7
  | 8 => pm_k8
  | 9 => pm_k9
  | 10 => pm_k10
  | 11 => pm_k11
  | 12 => pm_k12
  | 13 => pm_k13
  | 14 => pm_k14
  | 15 => pm_k15
  | _ + 16 => fun w h => by simp [pm_cons] at h
theorem pm_kB : ∀ k : Nat, ∀ e ∈ pm_cons k, pm_chk k e = true := fun k => match k with
  | 0 => pm_kc0
  | 1 => pm_kc1
  | 2 => pm_kc2
  | 3 => pm_kc3
  | 4 => pm_kc4
  | 5 => pm_kc5
  | 6 => pm_kc6
  | 7 => pm_kc7
  | 8 => pm_kc8
  | 9 => pm_kc9
  | 10 => pm_kc10
  | 11 => pm_kc11
  | 12 => pm_kc12
  | 13 => pm_kc13
  | 14 => pm_kc14
  | 15 => pm_kc15
  | _ + 16 => fun w h => by simp [pm_cons] at h
theorem pm_sA : ∀ w ∈ pm_strs.map (fun q => Cond.stringRef (pm_own q.1) q.2.1 q.2.2), w ∈ lw_tbl := pm_sub [921, 931, 932, 933, 934, 935, 956, 961, 765, 818, 819, 820, 821, 822, 846, 852, 843, 844, 845] (by decide +kernel)
def pm_okc (ci : Nat) (q : vw_C) : Prop := (∀ w ∈ u_ws q.1 q.2.1 q.2.2, w ∈ pm_ws) ∧ (∀ k, k < q.2.2 → parseFieldDescriptor (q.2.1 k).2.2.1 = some (pm_ty ci k)) ∧ (∀ a, a < q.2.2 → ∀ b, b < q.2.2 → a ≠ b → (q.2.1 a).2.1 ≠ (q.2.1 b).2.1) ∧ pm_own ci = q.1 ∧ (∀ k, pm_fin ci k = (q.2.1 k).2.2.2) ∧ (Cond.instantiable q.1 q.2.2 ∈ pm_ws ∧ Cond.initialized q.1 ∈ pm_ws) ∧ (∀ k, k < q.2.2 → (q.2.1 k).1 = q.1)
theorem pm_usg {C : String} {T : u_T} {N : Nat} (h : ∀ w ∈ u_ws C T N, w ∈ lw_tbl) : ∀ w ∈ u_ws C T N, w ∈ pm_ws := fun w hw => pm_wsin (h w hw) (by
  obtain ⟨k, -, rfl⟩ := List.mem_map.mp hw
  unfold u_lay
  split <;> rfl)
theorem pm_okc0 : pm_okc 0 (RX0, TX0, 7) := ⟨pm_usg wiX0, tyX0_ok, nmX0, rfl, fun _ => rfl, ⟨pm_wsin (List.mem_of_getElem? (i := 324) (by decide +kernel)) rfl, pm_wsin (List.mem_of_getElem? (i := 81) (by decide +kernel)) rfl⟩, by decide +kernel⟩
theorem pm_okc1 : pm_okc 1 (RX1, TX1, 8) := ⟨pm_usg wiX1, tyX1_ok, nmX1, rfl, fun _ => rfl, ⟨pm_wsin (List.mem_of_getElem? (i := 265) (by decide +kernel)) rfl, pm_wsin (List.mem_of_getElem? (i := 79) (by decide +kernel)) rfl⟩, by decide +kernel⟩
theorem pm_okc2 : pm_okc 2 (RX2, TX2, 7) := ⟨pm_usg wiX2, tyX2_ok, nmX2, rfl, fun _ => rfl, ⟨pm_wsin (List.mem_of_getElem? (i := 153) (by decide +kernel)) rfl, pm_wsin (List.mem_of_getElem? (i := 76) (by decide +kernel)) rfl⟩, by decide +kernel⟩
theorem pm_okc3 : pm_okc 3 (RX3, TX3, 4) := ⟨pm_usg wiX3, tyX3_ok, nmX3, rfl, fun _ => rfl, ⟨pm_wsin (List.mem_of_getElem? (i := 132) (by decide +kernel)) rfl, pm_wsin (List.mem_of_getElem? (i := 75) (by decide +kernel)) rfl⟩, by decide +kernel⟩
theorem pm_okc4 : pm_okc 4 (RX4, TX4, 6) := ⟨pm_usg wiX4, tyX4_ok, nmX4, rfl, fun _ => rfl, ⟨pm_wsin (List.mem_of_getElem? (i := 232) (by decide +kernel)) rfl, pm_wsin (List.mem_of_getElem? (i := 78) (by decide +kernel)) rfl⟩, by decide +kernel⟩
theorem pm_okc5 : pm_okc 5 (RX5, TX5, 4) := ⟨pm_usg wiX5, tyX5_ok, nmX5, rfl, fun _ => rfl, ⟨pm_wsin (List.mem_of_getElem? (i := 357) (by decide +kernel)) rfl, pm_wsin (List.mem_of_getElem? (i := 82) (by decide +kernel)) rfl⟩, by decide +kernel⟩
theorem pm_okc6 : pm_okc 6 (RX6, TX6, 7) := ⟨pm_usg wiX6, tyX6_ok, nmX6, rfl, fun _ => rfl, ⟨pm_wsin (List.mem_of_getElem? (i := 195) (by decide +kernel)) rfl, pm_wsin (List.mem_of_getElem? (i := 77) (by decide +kernel)) rfl⟩, by decide +kernel⟩
theorem pm_okc7 : pm_okc 7 (RX7, TX7, 5) := ⟨pm_usg wiX7, tyX7_ok, nmX7, rfl, fun _ => rfl, ⟨pm_wsin (List.mem_of_getElem? (i := 100) (by decide +kernel)) rfl, pm_wsin (List.mem_of_getElem? (i := 73) (by decide +kernel)) rfl⟩, by decide +kernel⟩
theorem pm_okc8 : pm_okc 8 (RX8, TX8, 13) := ⟨pm_usg wiX8, tyX8_ok, nmX8, rfl, fun _ => rfl, ⟨pm_wsin (List.mem_of_getElem? (i := 382) (by decide +kernel)) rfl, pm_wsin (List.mem_of_getElem? (i := 83) (by decide +kernel)) rfl⟩, by decide +kernel⟩
theorem pm_okc9 : pm_okc 9 (RX9, TX9, 4) := ⟨pm_usg wiX9, tyX9_ok, nmX9, rfl, fun _ => rfl, ⟨pm_wsin (List.mem_of_getElem? (i := 304) (by decide +kernel)) rfl, pm_wsin (List.mem_of_getElem? (i := 80) (by decide +kernel)) rfl⟩, by decide +kernel⟩
theorem pm_okc10 : pm_okc 10 (RX10, TX10, 12) := ⟨pm_usg wiX10, tyX10_ok, nmX10, rfl, fun _ => rfl, ⟨pm_wsin (List.mem_of_getElem? (i := 92) (by decide +kernel)) rfl, pm_wsin (List.mem_of_getElem? (i := 72) (by decide +kernel)) rfl⟩, by decide +kernel⟩
theorem pm_okc11 : pm_okc 11 (RX11, TX11, 62) := ⟨pm_usg wiX11, tyX11_ok, nmX11, rfl, fun _ => rfl, ⟨pm_wsin (List.mem_of_getElem? (i := 1075) (by decide +kernel)) rfl, pm_wsin (List.mem_of_getElem? (i := 84) (by decide +kernel)) rfl⟩, by decide +kernel⟩
theorem pm_clok : ∀ (ci : Nat) (q : vw_C), pm_cl[ci]? = some q → pm_okc ci q := fun ci q h => match ci, h with
  | 0, h => by cases h; exact pm_okc0
  | 1, h => by cases h; exact pm_okc1
  | 2, h => by cases h; exact pm_okc2
  | 3, h => by cases h; exact pm_okc3
  | 4, h => by cases h; exact pm_okc4
  | 5, h => by cases h; exact pm_okc5
  | 6, h => by cases h; exact pm_okc6
  | 7, h => by cases h; exact pm_okc7
  | 8, h => by cases h; exact pm_okc8
  | 9, h => by cases h; exact pm_okc9
  | 10, h => by cases h; exact pm_okc10
  | 11, h => by cases h; exact pm_okc11
  | n + 12, h => by simp [pm_cl] at h
end
section
theorem pm_t1 {w : Cond} (h : w ∈ tables_1_1) : w ∈ lw_tbl := List.mem_append_right _ (show w ∈ tables_1 from List.mem_append_left _ h)
theorem pm_t2 {w : Cond} (h : w ∈ tables_1_2) : w ∈ lw_tbl := List.mem_append_right _ (show w ∈ tables_1 from List.mem_append_right _ (List.mem_append_left _ h))
theorem pm_t3 {w : Cond} (h : w ∈ tables_1_3) : w ∈ lw_tbl := List.mem_append_right _ (show w ∈ tables_1 from List.mem_append_right _ (List.mem_append_right _ (List.mem_append_left _ h)))
theorem pm_t4 {w : Cond} (h : w ∈ tables_1_4) : w ∈ lw_tbl := List.mem_append_right _ (show w ∈ tables_1 from List.mem_append_right _ (List.mem_append_right _ (List.mem_append_right _ (List.mem_append_left _ h))))
theorem pm_t5 {w : Cond} (h : w ∈ tables_1_5) : w ∈ lw_tbl := List.mem_append_right _ (show w ∈ tables_1 from List.mem_append_right _ (List.mem_append_right _ (List.mem_append_right _ (List.mem_append_right _ (List.mem_append_left _ h)))))
theorem pm_t6 {w : Cond} (h : w ∈ tables_1_6) : w ∈ lw_tbl := List.mem_append_right _ (show w ∈ tables_1 from List.mem_append_right _ (List.mem_append_right _ (List.mem_append_right _ (List.mem_append_right _ (List.mem_append_right _ (List.mem_append_left _ h))))))
theorem pm_t7 {w : Cond} (h : w ∈ tables_1_7) : w ∈ lw_tbl := List.mem_append_right _ (show w ∈ tables_1 from List.mem_append_right _ (List.mem_append_right _ (List.mem_append_right _ (List.mem_append_right _ (List.mem_append_right _ (List.mem_append_right _ (h)))))))
def pm_okm (M : pmM) : Prop := (∀ e ∈ M.2.2.2.2.2.2.2.2.2.2, decode M.2.1 e.1 = .ok (e.2.1, pm_len e.2.1 e.2.2)) ∧ plainFor M.1 = true ∧ M.1.cls = pm_own M.2.2.2.2.2.2.2.2.1 ∧ (M.2.2.2.2.2.2.2.2.2.1 = 1 → M.1.name = "<init>") ∧ (M.2.2.2.2.2.2.2.2.1 ≠ 15 → Cond.code M.1 M.2.1 M.2.2.1 M.2.2.2.1 ∈ pm_ws)
theorem pm_d0 : ∀ e ∈ pmk0, decode cX0_init e.1 = .ok (e.2.1, pm_len e.2.1 e.2.2) := by decide +kernel
theorem pm_ok0 : pm_okm pmm0 := ⟨pm_d0, by decide +kernel, rfl, fun _ => rfl, fun _ => pm_wsin (pm_t2 (List.mem_of_getElem? (i := 16) rfl)) rfl⟩
theorem pm_d1 : ∀ e ∈ pmk1, decode cX0_has e.1 = .ok (e.2.1, pm_len e.2.1 e.2.2) := by decide +kernel
theorem pm_ok1 : pm_okm pmm1 := ⟨pm_d1, by decide +kernel, rfl, fun h => absurd h (by decide), fun _ => pm_wsin (pm_t4 (List.mem_of_getElem? (i := 178) rfl)) rfl⟩
theorem pm_d2 : ∀ e ∈ pmk2, decode cX0_read e.1 = .ok (e.2.1, pm_len e.2.1 e.2.2) := by decide +kernel
theorem pm_ok2 : pm_okm pmm2 := ⟨pm_d2, by decide +kernel, rfl, fun h => absurd h (by decide), fun _ => pm_wsin (pm_t4 (List.mem_of_getElem? (i := 114) rfl)) rfl⟩
theorem pm_d3 : ∀ e ∈ pmk3, decode cX0_readUpToOne e.1 = .ok (e.2.1, pm_len e.2.1 e.2.2) := by decide +kernel
theorem pm_ok3 : pm_okm pmm3 := ⟨pm_d3, by decide +kernel, rfl, fun h => absurd h (by decide), fun _ => pm_wsin (pm_t4 (List.mem_of_getElem? (i := 119) rfl)) rfl⟩
theorem pm_d4 : ∀ e ∈ pmk4, decode cX0_openBracket e.1 = .ok (e.2.1, pm_len e.2.1 e.2.2) := by decide +kernel
theorem pm_ok4 : pm_okm pmm4 := ⟨pm_d4, by decide +kernel, rfl, fun h => absurd h (by decide), fun _ => pm_wsin (pm_t4 (List.mem_of_getElem? (i := 124) rfl)) rfl⟩
theorem pm_d5 : ∀ e ∈ pmk5, decode cX0_readOne e.1 = .ok (e.2.1, pm_len e.2.1 e.2.2) := by decide +kernel
theorem pm_ok5 : pm_okm pmm5 := ⟨pm_d5, by decide +kernel, rfl, fun h => absurd h (by decide), fun _ => pm_wsin (pm_t4 (List.mem_of_getElem? (i := 136) rfl)) rfl⟩
theorem pm_d6 : ∀ e ∈ pmk6, decode cX0_oneKind e.1 = .ok (e.2.1, pm_len e.2.1 e.2.2) := by decide +kernel
theorem pm_ok6 : pm_okm pmm6 := ⟨pm_d6, by decide +kernel, rfl, fun h => absurd h (by decide), fun _ => pm_wsin (pm_t4 (List.mem_of_getElem? (i := 139) rfl)) rfl⟩
theorem pm_d7 : ∀ e ∈ pmk7, decode cX0_readNumber e.1 = .ok (e.2.1, pm_len e.2.1 e.2.2) := by decide +kernel
theorem pm_ok7 : pm_okm pmm7 := ⟨pm_d7, by decide +kernel, rfl, fun h => absurd h (by decide), fun _ => pm_wsin (pm_t4 (List.mem_of_getElem? (i := 147) rfl)) rfl⟩
theorem pm_d8 : ∀ e ∈ pmk8, decode cX0_readUpToJoin e.1 = .ok (e.2.1, pm_len e.2.1 e.2.2) := by decide +kernel
theorem pm_ok8 : pm_okm pmm8 := ⟨pm_d8, by decide +kernel, rfl, fun h => absurd h (by decide), fun _ => pm_wsin (pm_t4 (List.mem_of_getElem? (i := 156) rfl)) rfl⟩
theorem pm_d9 : ∀ e ∈ pmk9, decode cX0_closeBracket e.1 = .ok (e.2.1, pm_len e.2.1 e.2.2) := by decide +kernel
theorem pm_ok9 : pm_okm pmm9 := ⟨pm_d9, by decide +kernel, rfl, fun h => absurd h (by decide), fun _ => pm_wsin (pm_t4 (List.mem_of_getElem? (i := 160) rfl)) rfl⟩
theorem pm_d10 : ∀ e ∈ pmk10, decode cX0_joinBy e.1 = .ok (e.2.1, pm_len e.2.1 e.2.2) := by decide +kernel
theorem pm_ok10 : pm_okm pmm10 := ⟨pm_d10, by decide +kernel, rfl, fun h => absurd h (by decide), fun _ => pm_wsin (pm_t4 (List.mem_of_getElem? (i := 169) rfl)) rfl⟩
theorem pm_d11 : ∀ e ∈ pmk11, decode cX0_hold e.1 = .ok (e.2.1, pm_len e.2.1 e.2.2) := by decide +kernel
theorem pm_ok11 : pm_okm pmm11 := ⟨pm_d11, by decide +kernel, rfl, fun h => absurd h (by decide), fun _ => pm_wsin (pm_t4 (List.mem_of_getElem? (i := 129) rfl)) rfl⟩
theorem pm_d12 : ∀ e ∈ pmk12, decode cX0_releaseDownTo e.1 = .ok (e.2.1, pm_len e.2.1 e.2.2) := by decide +kernel
theorem pm_ok12 : pm_okm pmm12 := ⟨pm_d12, by decide +kernel, rfl, fun h => absurd h (by decide), fun _ => pm_wsin (pm_t4 (List.mem_of_getElem? (i := 164) rfl)) rfl⟩
theorem pm_d13 : ∀ e ∈ pmk13, decode cX0_emit e.1 = .ok (e.2.1, pm_len e.2.1 e.2.2) := by decide +kernel
theorem pm_ok13 : pm_okm pmm13 := ⟨pm_d13, by decide +kernel, rfl, fun h => absurd h (by decide), fun _ => pm_wsin (pm_t4 (List.mem_of_getElem? (i := 152) rfl)) rfl⟩
theorem pm_d14 : ∀ e ∈ pmk14, decode cX1_init e.1 = .ok (e.2.1, pm_len e.2.1 e.2.2) := by decide +kernel
theorem pm_ok14 : pm_okm pmm14 := ⟨pm_d14, by decide +kernel, rfl, fun _ => rfl, fun _ => pm_wsin (pm_t1 (List.mem_of_getElem? (i := 197) rfl)) rfl⟩
theorem pm_d15 : ∀ e ∈ pmk15, decode cX1_clear e.1 = .ok (e.2.1, pm_len e.2.1 e.2.2) := by decide +kernel
theorem pm_ok15 : pm_okm pmm15 := ⟨pm_d15, by decide +kernel, rfl, fun h => absurd h (by decide), fun _ => pm_wsin (pm_t3 (List.mem_of_getElem? (i := 14) rfl)) rfl⟩
theorem pm_d16 : ∀ e ∈ pmk16, decode cX1_setTo e.1 = .ok (e.2.1, pm_len e.2.1 e.2.2) := by decide +kernel
theorem pm_ok16 : pm_okm pmm16 := ⟨pm_d16, by decide +kernel, rfl, fun h => absurd h (by decide), fun _ => pm_wsin (pm_t3 (List.mem_of_getElem? (i := 10) rfl)) rfl⟩
theorem pm_d17 : ∀ e ∈ pmk17, decode cX1_apply e.1 = .ok (e.2.1, pm_len e.2.1 e.2.2) := by decide +kernel
theorem pm_ok17 : pm_okm pmm17 := ⟨pm_d17, by decide +kernel, rfl, fun h => absurd h (by decide), fun _ => pm_wsin (pm_t3 (List.mem_of_getElem? (i := 26) rfl)) rfl⟩
theorem pm_d18 : ∀ e ∈ pmk18, decode cX1_applyClause e.1 = .ok (e.2.1, pm_len e.2.1 e.2.2) := by decide +kernel
theorem pm_ok18 : pm_okm pmm18 := ⟨pm_d18, by decide +kernel, rfl, fun h => absurd h (by decide), fun _ => pm_wsin (pm_t3 (List.mem_of_getElem? (i := 30) rfl)) rfl⟩
theorem pm_d19 : ∀ e ∈ pmk19, decode cX1_hasKey e.1 = .ok (e.2.1, pm_len e.2.1 e.2.2) := by decide +kernel
theorem pm_ok19 : pm_okm pmm19 := ⟨pm_d19, by decide +kernel, rfl, fun h => absurd h (by decide), fun _ => pm_wsin (pm_t3 (List.mem_of_getElem? (i := 43) rfl)) rfl⟩
theorem pm_d20 : ∀ e ∈ pmk20, decode cX1_disallows e.1 = .ok (e.2.1, pm_len e.2.1 e.2.2) := by decide +kernel
theorem pm_ok20 : pm_okm pmm20 := ⟨pm_d20, by decide +kernel, rfl, fun h => absurd h (by decide), fun _ => pm_wsin (pm_t3 (List.mem_of_getElem? (i := 40) rfl)) rfl⟩
theorem pm_d21 : ∀ e ∈ pmk21, decode cX1_barsTwo e.1 = .ok (e.2.1, pm_len e.2.1 e.2.2) := by decide +kernel
theorem pm_ok21 : pm_okm pmm21 := ⟨pm_d21, by decide +kernel, rfl, fun h => absurd h (by decide), fun _ => pm_wsin (pm_t3 (List.mem_of_getElem? (i := 47) rfl)) rfl⟩
theorem pm_d22 : ∀ e ∈ pmk22, decode cX1_countSense e.1 = .ok (e.2.1, pm_len e.2.1 e.2.2) := by decide +kernel
theorem pm_ok22 : pm_okm pmm22 := ⟨pm_d22, by decide +kernel, rfl, fun h => absurd h (by decide), fun _ => pm_wsin (pm_t3 (List.mem_of_getElem? (i := 51) rfl)) rfl⟩
theorem pm_d23 : ∀ e ∈ pmk23, decode cX2_init e.1 = .ok (e.2.1, pm_len e.2.1 e.2.2) := by decide +kernel
theorem pm_ok23 : pm_okm pmm23 := ⟨pm_d23, by decide +kernel, rfl, fun _ => rfl, fun _ => pm_wsin (pm_t1 (List.mem_of_getElem? (i := 85) rfl)) rfl⟩
theorem pm_d24 : ∀ e ∈ pmk24, decode cX2_has e.1 = .ok (e.2.1, pm_len e.2.1 e.2.2) := by decide +kernel
theorem pm_ok24 : pm_okm pmm24 := ⟨pm_d24, by decide +kernel, rfl, fun h => absurd h (by decide), fun _ => pm_wsin (pm_t3 (List.mem_of_getElem? (i := 64) rfl)) rfl⟩
theorem pm_d25 : ∀ e ∈ pmk25, decode cX2_add e.1 = .ok (e.2.1, pm_len e.2.1 e.2.2) := by decide +kernel
theorem pm_ok25 : pm_okm pmm25 := ⟨pm_d25, by decide +kernel, rfl, fun h => absurd h (by decide), fun _ => pm_wsin (pm_t3 (List.mem_of_getElem? (i := 123) rfl)) rfl⟩
theorem pm_d26 : ∀ e ∈ pmk26, decode cX2_doubters e.1 = .ok (e.2.1, pm_len e.2.1 e.2.2) := by decide +kernel
theorem pm_ok26 : pm_okm pmm26 := ⟨pm_d26, by decide +kernel, rfl, fun h => absurd h (by decide), fun _ => pm_wsin (pm_t3 (List.mem_of_getElem? (i := 60) rfl)) rfl⟩
theorem pm_d27 : ∀ e ∈ pmk27, decode cX2_picturesOf e.1 = .ok (e.2.1, pm_len e.2.1 e.2.2) := by decide +kernel
theorem pm_ok27 : pm_okm pmm27 := ⟨pm_d27, by decide +kernel, rfl, fun h => absurd h (by decide), fun _ => pm_wsin (pm_t4 (List.mem_of_getElem? (i := 191) rfl)) rfl⟩
theorem pm_d28 : ∀ e ∈ pmk28, decode cX3_init e.1 = .ok (e.2.1, pm_len e.2.1 e.2.2) := by decide +kernel
theorem pm_ok28 : pm_okm pmm28 := ⟨pm_d28, by decide +kernel, rfl, fun _ => rfl, fun _ => pm_wsin (pm_t1 (List.mem_of_getElem? (i := 64) rfl)) rfl⟩
theorem pm_d29 : ∀ e ∈ pmk29, decode cX3_has e.1 = .ok (e.2.1, pm_len e.2.1 e.2.2) := by decide +kernel
theorem pm_ok29 : pm_okm pmm29 := ⟨pm_d29, by decide +kernel, rfl, fun h => absurd h (by decide), fun _ => pm_wsin (pm_t3 (List.mem_of_getElem? (i := 104) rfl)) rfl⟩
theorem pm_d30 : ∀ e ∈ pmk30, decode cX3_add e.1 = .ok (e.2.1, pm_len e.2.1 e.2.2) := by decide +kernel
theorem pm_ok30 : pm_okm pmm30 := ⟨pm_d30, by decide +kernel, rfl, fun h => absurd h (by decide), fun _ => pm_wsin (pm_t3 (List.mem_of_getElem? (i := 111) rfl)) rfl⟩
theorem pm_d31 : ∀ e ∈ pmk31, decode cX3_all e.1 = .ok (e.2.1, pm_len e.2.1 e.2.2) := by decide +kernel
theorem pm_ok31 : pm_okm pmm31 := ⟨pm_d31, by decide +kernel, rfl, fun h => absurd h (by decide), fun _ => pm_wsin (pm_t4 (List.mem_of_getElem? (i := 204) rfl)) rfl⟩
theorem pm_d32 : ∀ e ∈ pmk32, decode cX3_ofYears e.1 = .ok (e.2.1, pm_len e.2.1 e.2.2) := by decide +kernel
theorem pm_ok32 : pm_okm pmm32 := ⟨pm_d32, by decide +kernel, rfl, fun h => absurd h (by decide), fun _ => pm_wsin (pm_t4 (List.mem_of_getElem? (i := 195) rfl)) rfl⟩
theorem pm_d33 : ∀ e ∈ pmk33, decode cX3_atPlace e.1 = .ok (e.2.1, pm_len e.2.1 e.2.2) := by decide +kernel
theorem pm_ok33 : pm_okm pmm33 := ⟨pm_d33, by decide +kernel, rfl, fun h => absurd h (by decide), fun _ => pm_wsin (pm_t4 (List.mem_of_getElem? (i := 200) rfl)) rfl⟩
theorem pm_d34 : ∀ e ∈ pmk34, decode cX4_init e.1 = .ok (e.2.1, pm_len e.2.1 e.2.2) := by decide +kernel
theorem pm_ok34 : pm_okm pmm34 := ⟨pm_d34, by decide +kernel, rfl, fun _ => rfl, fun _ => pm_wsin (pm_t1 (List.mem_of_getElem? (i := 164) rfl)) rfl⟩
theorem pm_d35 : ∀ e ∈ pmk35, decode cX4_read e.1 = .ok (e.2.1, pm_len e.2.1 e.2.2) := by decide +kernel
theorem pm_ok35 : pm_okm pmm35 := ⟨pm_d35, by decide +kernel, rfl, fun h => absurd h (by decide), fun _ => pm_wsin (pm_t3 (List.mem_of_getElem? (i := 191) rfl)) rfl⟩
theorem pm_d36 : ∀ e ∈ pmk36, decode cX4_clauseKind e.1 = .ok (e.2.1, pm_len e.2.1 e.2.2) := by decide +kernel
theorem pm_ok36 : pm_okm pmm36 := ⟨pm_d36, by decide +kernel, rfl, fun h => absurd h (by decide), fun _ => pm_wsin (pm_t3 (List.mem_of_getElem? (i := 213) rfl)) rfl⟩
theorem pm_d37 : ∀ e ∈ pmk37, decode cX4_readClause e.1 = .ok (e.2.1, pm_len e.2.1 e.2.2) := by decide +kernel
theorem pm_ok37 : pm_okm pmm37 := ⟨pm_d37, by decide +kernel, rfl, fun h => absurd h (by decide), fun _ => pm_wsin (pm_t3 (List.mem_of_getElem? (i := 210) rfl)) rfl⟩
theorem pm_d38 : ∀ e ∈ pmk38, decode cX4_readFirst e.1 = .ok (e.2.1, pm_len e.2.1 e.2.2) := by decide +kernel
theorem pm_ok38 : pm_okm pmm38 := ⟨pm_d38, by decide +kernel, rfl, fun h => absurd h (by decide), fun _ => pm_wsin (pm_t4 (List.mem_of_getElem? (i := 39) rfl)) rfl⟩
theorem pm_d39 : ∀ e ∈ pmk39, decode cX4_readSecond e.1 = .ok (e.2.1, pm_len e.2.1 e.2.2) := by decide +kernel
theorem pm_ok39 : pm_okm pmm39 := ⟨pm_d39, by decide +kernel, rfl, fun h => absurd h (by decide), fun _ => pm_wsin (pm_t4 (List.mem_of_getElem? (i := 48) rfl)) rfl⟩
theorem pm_d40 : ∀ e ∈ pmk40, decode cX4_readSense e.1 = .ok (e.2.1, pm_len e.2.1 e.2.2) := by decide +kernel
theorem pm_ok40 : pm_okm pmm40 := ⟨pm_d40, by decide +kernel, rfl, fun h => absurd h (by decide), fun _ => pm_wsin (pm_t4 (List.mem_of_getElem? (i := 51) rfl)) rfl⟩
theorem pm_d41 : ∀ e ∈ pmk41, decode cX4_counting e.1 = .ok (e.2.1, pm_len e.2.1 e.2.2) := by decide +kernel
theorem pm_ok41 : pm_okm pmm41 := ⟨pm_d41, by decide +kernel, rfl, fun h => absurd h (by decide), fun _ => pm_wsin (pm_t3 (List.mem_of_getElem? (i := 22) rfl)) rfl⟩
theorem pm_d42 : ∀ e ∈ pmk42, decode cX5_init e.1 = .ok (e.2.1, pm_len e.2.1 e.2.2) := by decide +kernel
theorem pm_ok42 : pm_okm pmm42 := ⟨pm_d42, by decide +kernel, rfl, fun _ => rfl, fun _ => pm_wsin (pm_t2 (List.mem_of_getElem? (i := 49) rfl)) rfl⟩
theorem pm_d43 : ∀ e ∈ pmk43, decode cX5_has e.1 = .ok (e.2.1, pm_len e.2.1 e.2.2) := by decide +kernel
theorem pm_ok43 : pm_okm pmm43 := ⟨pm_d43, by decide +kernel, rfl, fun h => absurd h (by decide), fun _ => pm_wsin (pm_t5 (List.mem_of_getElem? (i := 29) rfl)) rfl⟩
theorem pm_d44 : ∀ e ∈ pmk44, decode cX5_add e.1 = .ok (e.2.1, pm_len e.2.1 e.2.2) := by decide +kernel
theorem pm_ok44 : pm_okm pmm44 := ⟨pm_d44, by decide +kernel, rfl, fun h => absurd h (by decide), fun _ => pm_wsin (pm_t5 (List.mem_of_getElem? (i := 21) rfl)) rfl⟩
theorem pm_d45 : ∀ e ∈ pmk45, decode cX5_addMark e.1 = .ok (e.2.1, pm_len e.2.1 e.2.2) := by decide +kernel
theorem pm_ok45 : pm_okm pmm45 := ⟨pm_d45, by decide +kernel, rfl, fun h => absurd h (by decide), fun _ => pm_wsin (pm_t5 (List.mem_of_getElem? (i := 33) rfl)) rfl⟩
theorem pm_d46 : ∀ e ∈ pmk46, decode cX6_init e.1 = .ok (e.2.1, pm_len e.2.1 e.2.2) := by decide +kernel
theorem pm_ok46 : pm_okm pmm46 := ⟨pm_d46, by decide +kernel, rfl, fun _ => rfl, fun _ => pm_wsin (pm_t1 (List.mem_of_getElem? (i := 127) rfl)) rfl⟩
theorem pm_d47 : ∀ e ∈ pmk47, decode cX6_add e.1 = .ok (e.2.1, pm_len e.2.1 e.2.2) := by decide +kernel
theorem pm_ok47 : pm_okm pmm47 := ⟨pm_d47, by decide +kernel, rfl, fun h => absurd h (by decide), fun _ => pm_wsin (pm_t3 (List.mem_of_getElem? (i := 183) rfl)) rfl⟩
theorem pm_d48 : ∀ e ∈ pmk48, decode cX6_startReading e.1 = .ok (e.2.1, pm_len e.2.1 e.2.2) := by decide +kernel
theorem pm_ok48 : pm_okm pmm48 := ⟨pm_d48, by decide +kernel, rfl, fun h => absurd h (by decide), fun _ => pm_wsin (pm_t3 (List.mem_of_getElem? (i := 195) rfl)) rfl⟩
theorem pm_d49 : ∀ e ∈ pmk49, decode cX6_byteAt e.1 = .ok (e.2.1, pm_len e.2.1 e.2.2) := by decide +kernel
theorem pm_ok49 : pm_okm pmm49 := ⟨pm_d49, by decide +kernel, rfl, fun h => absurd h (by decide), fun _ => pm_wsin (pm_t3 (List.mem_of_getElem? (i := 203) rfl)) rfl⟩
theorem pm_d50 : ∀ e ∈ pmk50, decode cX6_kindOf e.1 = .ok (e.2.1, pm_len e.2.1 e.2.2) := by decide +kernel
theorem pm_ok50 : pm_okm pmm50 := ⟨pm_d50, by decide +kernel, rfl, fun h => absurd h (by decide), fun _ => pm_wsin (pm_t3 (List.mem_of_getElem? (i := 206) rfl)) rfl⟩
theorem pm_d51 : ∀ e ∈ pmk51, decode cX6_advance e.1 = .ok (e.2.1, pm_len e.2.1 e.2.2) := by decide +kernel
theorem pm_ok51 : pm_okm pmm51 := ⟨pm_d51, by decide +kernel, rfl, fun h => absurd h (by decide), fun _ => pm_wsin (pm_t3 (List.mem_of_getElem? (i := 199) rfl)) rfl⟩
theorem pm_d52 : ∀ e ∈ pmk52, decode cX6_fail e.1 = .ok (e.2.1, pm_len e.2.1 e.2.2) := by decide +kernel
theorem pm_ok52 : pm_okm pmm52 := ⟨pm_d52, by decide +kernel, rfl, fun h => absurd h (by decide), fun _ => pm_wsin (pm_t4 (List.mem_of_getElem? (i := 35) rfl)) rfl⟩
theorem pm_d53 : ∀ e ∈ pmk53, decode cX6_isWord e.1 = .ok (e.2.1, pm_len e.2.1 e.2.2) := by decide +kernel
theorem pm_ok53 : pm_okm pmm53 := ⟨pm_d53, by decide +kernel, rfl, fun h => absurd h (by decide), fun _ => pm_wsin (pm_t3 (List.mem_of_getElem? (i := 218) rfl)) rfl⟩
theorem pm_d54 : ∀ e ∈ pmk54, decode cX6_isSign e.1 = .ok (e.2.1, pm_len e.2.1 e.2.2) := by decide +kernel
theorem pm_ok54 : pm_okm pmm54 := ⟨pm_d54, by decide +kernel, rfl, fun h => absurd h (by decide), fun _ => pm_wsin (pm_t4 (List.mem_of_getElem? (i := 69) rfl)) rfl⟩
theorem pm_d55 : ∀ e ∈ pmk55, decode cX6_takeWord e.1 = .ok (e.2.1, pm_len e.2.1 e.2.2) := by decide +kernel
theorem pm_ok55 : pm_okm pmm55 := ⟨pm_d55, by decide +kernel, rfl, fun h => absurd h (by decide), fun _ => pm_wsin (pm_t4 (List.mem_of_getElem? (i := 59) rfl)) rfl⟩
theorem pm_d56 : ∀ e ∈ pmk56, decode cX6_takeSign e.1 = .ok (e.2.1, pm_len e.2.1 e.2.2) := by decide +kernel
theorem pm_ok56 : pm_okm pmm56 := ⟨pm_d56, by decide +kernel, rfl, fun h => absurd h (by decide), fun _ => pm_wsin (pm_t4 (List.mem_of_getElem? (i := 65) rfl)) rfl⟩
theorem pm_d57 : ∀ e ∈ pmk57, decode cX6_takeNumber e.1 = .ok (e.2.1, pm_len e.2.1 e.2.2) := by decide +kernel
theorem pm_ok57 : pm_okm pmm57 := ⟨pm_d57, by decide +kernel, rfl, fun h => absurd h (by decide), fun _ => pm_wsin (pm_t4 (List.mem_of_getElem? (i := 43) rfl)) rfl⟩
theorem pm_d58 : ∀ e ∈ pmk58, decode cX7_init e.1 = .ok (e.2.1, pm_len e.2.1 e.2.2) := by decide +kernel
theorem pm_ok58 : pm_okm pmm58 := ⟨pm_d58, by decide +kernel, rfl, fun _ => rfl, fun _ => pm_wsin (pm_t1 (List.mem_of_getElem? (i := 32) rfl)) rfl⟩
theorem pm_d59 : ∀ e ∈ pmk59, decode cX7_has e.1 = .ok (e.2.1, pm_len e.2.1 e.2.2) := by decide +kernel
theorem pm_ok59 : pm_okm pmm59 := ⟨pm_d59, by decide +kernel, rfl, fun h => absurd h (by decide), fun _ => pm_wsin (pm_t2 (List.mem_of_getElem? (i := 171) rfl)) rfl⟩
theorem pm_d60 : ∀ e ∈ pmk60, decode cX7_add e.1 = .ok (e.2.1, pm_len e.2.1 e.2.2) := by decide +kernel
theorem pm_ok60 : pm_okm pmm60 := ⟨pm_d60, by decide +kernel, rfl, fun h => absurd h (by decide), fun _ => pm_wsin (pm_t2 (List.mem_of_getElem? (i := 188) rfl)) rfl⟩
theorem pm_d61 : ∀ e ∈ pmk61, decode cX7_setParent e.1 = .ok (e.2.1, pm_len e.2.1 e.2.2) := by decide +kernel
theorem pm_ok61 : pm_okm pmm61 := ⟨pm_d61, by decide +kernel, rfl, fun h => absurd h (by decide), fun _ => pm_wsin (pm_t2 (List.mem_of_getElem? (i := 192) rfl)) rfl⟩
theorem pm_d62 : ∀ e ∈ pmk62, decode cX7_parentIn e.1 = .ok (e.2.1, pm_len e.2.1 e.2.2) := by decide +kernel
theorem pm_ok62 : pm_okm pmm62 := ⟨pm_d62, by decide +kernel, rfl, fun h => absurd h (by decide), fun _ => pm_wsin (pm_t2 (List.mem_of_getElem? (i := 211) rfl)) rfl⟩
theorem pm_d63 : ∀ e ∈ pmk63, decode cX7_isEnded e.1 = .ok (e.2.1, pm_len e.2.1 e.2.2) := by decide +kernel
theorem pm_ok63 : pm_okm pmm63 := ⟨pm_d63, by decide +kernel, rfl, fun h => absurd h (by decide), fun _ => pm_wsin (pm_t2 (List.mem_of_getElem? (i := 180) rfl)) rfl⟩
theorem pm_d64 : ∀ e ∈ pmk64, decode cX7_isThere e.1 = .ok (e.2.1, pm_len e.2.1 e.2.2) := by decide +kernel
theorem pm_ok64 : pm_okm pmm64 := ⟨pm_d64, by decide +kernel, rfl, fun h => absurd h (by decide), fun _ => pm_wsin (pm_t2 (List.mem_of_getElem? (i := 175) rfl)) rfl⟩
theorem pm_d65 : ∀ e ∈ pmk65, decode cX7_pathUp e.1 = .ok (e.2.1, pm_len e.2.1 e.2.2) := by decide +kernel
theorem pm_ok65 : pm_okm pmm65 := ⟨pm_d65, by decide +kernel, rfl, fun h => absurd h (by decide), fun _ => pm_wsin (pm_t2 (List.mem_of_getElem? (i := 207) rfl)) rfl⟩
theorem pm_d66 : ∀ e ∈ pmk66, decode cX7_isBelow e.1 = .ok (e.2.1, pm_len e.2.1 e.2.2) := by decide +kernel
theorem pm_ok66 : pm_okm pmm66 := ⟨pm_d66, by decide +kernel, rfl, fun h => absurd h (by decide), fun _ => pm_wsin (pm_t2 (List.mem_of_getElem? (i := 203) rfl)) rfl⟩
theorem pm_d67 : ∀ e ∈ pmk67, decode cX7_countBelow e.1 = .ok (e.2.1, pm_len e.2.1 e.2.2) := by decide +kernel
theorem pm_ok67 : pm_okm pmm67 := ⟨pm_d67, by decide +kernel, rfl, fun h => absurd h (by decide), fun _ => pm_wsin (pm_t2 (List.mem_of_getElem? (i := 224) rfl)) rfl⟩
theorem pm_d68 : ∀ e ∈ pmk68, decode cX7_countThere e.1 = .ok (e.2.1, pm_len e.2.1 e.2.2) := by decide +kernel
theorem pm_ok68 : pm_okm pmm68 := ⟨pm_d68, by decide +kernel, rfl, fun h => absurd h (by decide), fun _ => pm_wsin (pm_t3 (List.mem_of_getElem? (i := 162) rfl)) rfl⟩
theorem pm_d69 : ∀ e ∈ pmk69, decode cX7_followJoins e.1 = .ok (e.2.1, pm_len e.2.1 e.2.2) := by decide +kernel
theorem pm_ok69 : pm_okm pmm69 := ⟨pm_d69, by decide +kernel, rfl, fun h => absurd h (by decide), fun _ => pm_wsin (pm_t3 (List.mem_of_getElem? (i := 68) rfl)) rfl⟩
theorem pm_d70 : ∀ e ∈ pmk70, decode cX7_firstThere e.1 = .ok (e.2.1, pm_len e.2.1 e.2.2) := by decide +kernel
theorem pm_ok70 : pm_okm pmm70 := ⟨pm_d70, by decide +kernel, rfl, fun h => absurd h (by decide), fun _ => pm_wsin (pm_t3 (List.mem_of_getElem? (i := 73) rfl)) rfl⟩
theorem pm_d71 : ∀ e ∈ pmk71, decode cX7_raised e.1 = .ok (e.2.1, pm_len e.2.1 e.2.2) := by decide +kernel
theorem pm_ok71 : pm_okm pmm71 := ⟨pm_d71, by decide +kernel, rfl, fun h => absurd h (by decide), fun _ => pm_wsin (pm_t3 (List.mem_of_getElem? (i := 78) rfl)) rfl⟩
theorem pm_d72 : ∀ e ∈ pmk72, decode cX8_init e.1 = .ok (e.2.1, pm_len e.2.1 e.2.2) := by decide +kernel
theorem pm_ok72 : pm_okm pmm72 := ⟨pm_d72, by decide +kernel, rfl, fun _ => rfl, fun _ => pm_wsin (pm_t2 (List.mem_of_getElem? (i := 74) rfl)) rfl⟩
theorem pm_d73 : ∀ e ∈ pmk73, decode cX8_forget e.1 = .ok (e.2.1, pm_len e.2.1 e.2.2) := by decide +kernel
theorem pm_ok73 : pm_okm pmm73 := ⟨pm_d73, by decide +kernel, rfl, fun h => absurd h (by decide), fun _ => pm_wsin (pm_t2 (List.mem_of_getElem? (i := 184) rfl)) rfl⟩
theorem pm_d74 : ∀ e ∈ pmk74, decode cX8_judge e.1 = .ok (e.2.1, pm_len e.2.1 e.2.2) := by decide +kernel
theorem pm_ok74 : pm_okm pmm74 := ⟨pm_d74, by decide +kernel, rfl, fun h => absurd h (by decide), fun _ => pm_wsin (pm_t3 (List.mem_of_getElem? (i := 5) rfl)) rfl⟩
theorem pm_d75 : ∀ e ∈ pmk75, decode cX8_whyWrong e.1 = .ok (e.2.1, pm_len e.2.1 e.2.2) := by decide +kernel
theorem pm_ok75 : pm_okm pmm75 := ⟨pm_d75, by decide +kernel, rfl, fun h => absurd h (by decide), fun _ => pm_wsin (pm_t3 (List.mem_of_getElem? (i := 34) rfl)) rfl⟩
theorem pm_d76 : ∀ e ∈ pmk76, decode cX8_lookIn e.1 = .ok (e.2.1, pm_len e.2.1 e.2.2) := by decide +kernel
theorem pm_ok76 : pm_okm pmm76 := ⟨pm_d76, by decide +kernel, rfl, fun h => absurd h (by decide), fun _ => pm_wsin (pm_t3 (List.mem_of_getElem? (i := 1) rfl)) rfl⟩
theorem pm_d77 : ∀ e ∈ pmk77, decode cX8_setMeaning e.1 = .ok (e.2.1, pm_len e.2.1 e.2.2) := by decide +kernel
theorem pm_ok77 : pm_okm pmm77 := ⟨pm_d77, by decide +kernel, rfl, fun h => absurd h (by decide), fun _ => pm_wsin (pm_t3 (List.mem_of_getElem? (i := 56) rfl)) rfl⟩
theorem pm_d78 : ∀ e ∈ pmk78, decode cX8_shows e.1 = .ok (e.2.1, pm_len e.2.1 e.2.2) := by decide +kernel
theorem pm_ok78 : pm_okm pmm78 := ⟨pm_d78, by decide +kernel, rfl, fun h => absurd h (by decide), fun _ => pm_wsin (pm_t5 (List.mem_of_getElem? (i := 7) rfl)) rfl⟩
theorem pm_d79 : ∀ e ∈ pmk79, decode cX8_showing e.1 = .ok (e.2.1, pm_len e.2.1 e.2.2) := by decide +kernel
theorem pm_ok79 : pm_okm pmm79 := ⟨pm_d79, by decide +kernel, rfl, fun h => absurd h (by decide), fun _ => pm_wsin (pm_t3 (List.mem_of_getElem? (i := 82) rfl)) rfl⟩
theorem pm_d80 : ∀ e ∈ pmk80, decode cX8_showingAny e.1 = .ok (e.2.1, pm_len e.2.1 e.2.2) := by decide +kernel
theorem pm_ok80 : pm_okm pmm80 := ⟨pm_d80, by decide +kernel, rfl, fun h => absurd h (by decide), fun _ => pm_wsin (pm_t3 (List.mem_of_getElem? (i := 86) rfl)) rfl⟩
theorem pm_d81 : ∀ e ∈ pmk81, decode cX8_meansBelow e.1 = .ok (e.2.1, pm_len e.2.1 e.2.2) := by decide +kernel
theorem pm_ok81 : pm_okm pmm81 := ⟨pm_d81, by decide +kernel, rfl, fun h => absurd h (by decide), fun _ => pm_wsin (pm_t3 (List.mem_of_getElem? (i := 153) rfl)) rfl⟩
theorem pm_d82 : ∀ e ∈ pmk82, decode cX8_seenBy e.1 = .ok (e.2.1, pm_len e.2.1 e.2.2) := by decide +kernel
theorem pm_ok82 : pm_okm pmm82 := ⟨pm_d82, by decide +kernel, rfl, fun h => absurd h (by decide), fun _ => pm_wsin (pm_t4 (List.mem_of_getElem? (i := 216) rfl)) rfl⟩
theorem pm_d83 : ∀ e ∈ pmk83, decode cX8_isLacking e.1 = .ok (e.2.1, pm_len e.2.1 e.2.2) := by decide +kernel
theorem pm_ok83 : pm_okm pmm83 := ⟨pm_d83, by decide +kernel, rfl, fun h => absurd h (by decide), fun _ => pm_wsin (pm_t3 (List.mem_of_getElem? (i := 144) rfl)) rfl⟩
theorem pm_d84 : ∀ e ∈ pmk84, decode cX8_countWrong e.1 = .ok (e.2.1, pm_len e.2.1 e.2.2) := by decide +kernel
theorem pm_ok84 : pm_okm pmm84 := ⟨pm_d84, by decide +kernel, rfl, fun h => absurd h (by decide), fun _ => pm_wsin (pm_t3 (List.mem_of_getElem? (i := 166) rfl)) rfl⟩
theorem pm_d85 : ∀ e ∈ pmk85, decode cX8_countNeedingLook e.1 = .ok (e.2.1, pm_len e.2.1 e.2.2) := by decide +kernel
theorem pm_ok85 : pm_okm pmm85 := ⟨pm_d85, by decide +kernel, rfl, fun h => absurd h (by decide), fun _ => pm_wsin (pm_t3 (List.mem_of_getElem? (i := 170) rfl)) rfl⟩
theorem pm_d86 : ∀ e ∈ pmk86, decode cX8_countLacking e.1 = .ok (e.2.1, pm_len e.2.1 e.2.2) := by decide +kernel
theorem pm_ok86 : pm_okm pmm86 := ⟨pm_d86, by decide +kernel, rfl, fun h => absurd h (by decide), fun _ => pm_wsin (pm_t3 (List.mem_of_getElem? (i := 174) rfl)) rfl⟩
theorem pm_d87 : ∀ e ∈ pmk87, decode cX9_init e.1 = .ok (e.2.1, pm_len e.2.1 e.2.2) := by decide +kernel
theorem pm_ok87 : pm_okm pmm87 := ⟨pm_d87, by decide +kernel, rfl, fun _ => rfl, fun _ => pm_wsin (pm_t1 (List.mem_of_getElem? (i := 236) rfl)) rfl⟩
theorem pm_d88 : ∀ e ∈ pmk88, decode cX9_add e.1 = .ok (e.2.1, pm_len e.2.1 e.2.2) := by decide +kernel
theorem pm_ok88 : pm_okm pmm88 := ⟨pm_d88, by decide +kernel, rfl, fun h => absurd h (by decide), fun _ => pm_wsin (pm_t4 (List.mem_of_getElem? (i := 97) rfl)) rfl⟩
theorem pm_d89 : ∀ e ∈ pmk89, decode cX9_marksOf e.1 = .ok (e.2.1, pm_len e.2.1 e.2.2) := by decide +kernel
theorem pm_ok89 : pm_okm pmm89 := ⟨pm_d89, by decide +kernel, rfl, fun h => absurd h (by decide), fun _ => pm_wsin (pm_t4 (List.mem_of_getElem? (i := 93) rfl)) rfl⟩
theorem pm_d90 : ∀ e ∈ pmk90, decode cX10_init e.1 = .ok (e.2.1, pm_len e.2.1 e.2.2) := by decide +kernel
theorem pm_ok90 : pm_okm pmm90 := ⟨pm_d90, by decide +kernel, rfl, fun _ => rfl, fun _ => pm_wsin (pm_t1 (List.mem_of_getElem? (i := 24) rfl)) rfl⟩
theorem pm_d91 : ∀ e ∈ pmk91, decode cX10_edition e.1 = .ok (e.2.1, pm_len e.2.1 e.2.2) := by decide +kernel
theorem pm_ok91 : pm_okm pmm91 := ⟨pm_d91, by decide +kernel, rfl, fun h => absurd h (by decide), fun _ => pm_wsin (pm_t2 (List.mem_of_getElem? (i := 163) rfl)) rfl⟩
theorem pm_d92 : ∀ e ∈ pmk92, decode cX10_mark e.1 = .ok (e.2.1, pm_len e.2.1 e.2.2) := by decide +kernel
theorem pm_ok92 : pm_okm pmm92 := ⟨pm_d92, by decide +kernel, rfl, fun h => absurd h (by decide), fun _ => pm_wsin (pm_t2 (List.mem_of_getElem? (i := 167) rfl)) rfl⟩
theorem pm_d93 : ∀ e ∈ pmk93, decode cX10_move e.1 = .ok (e.2.1, pm_len e.2.1 e.2.2) := by decide +kernel
theorem pm_ok93 : pm_okm pmm93 := ⟨pm_d93, by decide +kernel, rfl, fun h => absurd h (by decide), fun _ => pm_wsin (pm_t2 (List.mem_of_getElem? (i := 199) rfl)) rfl⟩
theorem pm_d94 : ∀ e ∈ pmk94, decode cX10_end e.1 = .ok (e.2.1, pm_len e.2.1 e.2.2) := by decide +kernel
theorem pm_ok94 : pm_okm pmm94 := ⟨pm_d94, by decide +kernel, rfl, fun h => absurd h (by decide), fun _ => pm_wsin (pm_t2 (List.mem_of_getElem? (i := 220) rfl)) rfl⟩
theorem pm_d95 : ∀ e ∈ pmk95, decode cX10_tree e.1 = .ok (e.2.1, pm_len e.2.1 e.2.2) := by decide +kernel
theorem pm_ok95 : pm_okm pmm95 := ⟨pm_d95, by decide +kernel, rfl, fun h => absurd h (by decide), fun _ => pm_wsin (pm_t2 (List.mem_of_getElem? (i := 229) rfl)) rfl⟩
theorem pm_d96 : ∀ e ∈ pmk96, decode cX10_below e.1 = .ok (e.2.1, pm_len e.2.1 e.2.2) := by decide +kernel
theorem pm_ok96 : pm_okm pmm96 := ⟨pm_d96, by decide +kernel, rfl, fun h => absurd h (by decide), fun _ => pm_wsin (pm_t3 (List.mem_of_getElem? (i := 96) rfl)) rfl⟩
theorem pm_d97 : ∀ e ∈ pmk97, decode cX10_picture e.1 = .ok (e.2.1, pm_len e.2.1 e.2.2) := by decide +kernel
theorem pm_ok97 : pm_okm pmm97 := ⟨pm_d97, by decide +kernel, rfl, fun h => absurd h (by decide), fun _ => pm_wsin (pm_t3 (List.mem_of_getElem? (i := 100) rfl)) rfl⟩
theorem pm_d98 : ∀ e ∈ pmk98, decode cX10_give e.1 = .ok (e.2.1, pm_len e.2.1 e.2.2) := by decide +kernel
theorem pm_ok98 : pm_okm pmm98 := ⟨pm_d98, by decide +kernel, rfl, fun h => absurd h (by decide), fun _ => pm_wsin (pm_t3 (List.mem_of_getElem? (i := 116) rfl)) rfl⟩
theorem pm_d99 : ∀ e ∈ pmk99, decode cX10_doubt e.1 = .ok (e.2.1, pm_len e.2.1 e.2.2) := by decide +kernel
theorem pm_ok99 : pm_okm pmm99 := ⟨pm_d99, by decide +kernel, rfl, fun h => absurd h (by decide), fun _ => pm_wsin (pm_t3 (List.mem_of_getElem? (i := 128) rfl)) rfl⟩
theorem pm_d100 : ∀ e ∈ pmk100, decode cX10_told e.1 = .ok (e.2.1, pm_len e.2.1 e.2.2) := by decide +kernel
theorem pm_ok100 : pm_okm pmm100 := ⟨pm_d100, by decide +kernel, rfl, fun h => absurd h (by decide), fun _ => pm_wsin (pm_t3 (List.mem_of_getElem? (i := 134) rfl)) rfl⟩
theorem pm_d101 : ∀ e ∈ pmk101, decode cX10_means e.1 = .ok (e.2.1, pm_len e.2.1 e.2.2) := by decide +kernel
theorem pm_ok101 : pm_okm pmm101 := ⟨pm_d101, by decide +kernel, rfl, fun h => absurd h (by decide), fun _ => pm_wsin (pm_t3 (List.mem_of_getElem? (i := 139) rfl)) rfl⟩
theorem pm_d102 : ∀ e ∈ pmk102, decode cX10_led e.1 = .ok (e.2.1, pm_len e.2.1 e.2.2) := by decide +kernel
theorem pm_ok102 : pm_okm pmm102 := ⟨pm_d102, by decide +kernel, rfl, fun h => absurd h (by decide), fun _ => pm_wsin (pm_t3 (List.mem_of_getElem? (i := 149) rfl)) rfl⟩
theorem pm_d103 : ∀ e ∈ pmk103, decode cX10_count e.1 = .ok (e.2.1, pm_len e.2.1 e.2.2) := by decide +kernel
theorem pm_ok103 : pm_okm pmm103 := ⟨pm_d103, by decide +kernel, rfl, fun h => absurd h (by decide), fun _ => pm_wsin (pm_t3 (List.mem_of_getElem? (i := 158) rfl)) rfl⟩
theorem pm_d104 : ∀ e ∈ pmk104, decode cX10_feed e.1 = .ok (e.2.1, pm_len e.2.1 e.2.2) := by decide +kernel
theorem pm_ok104 : pm_okm pmm104 := ⟨pm_d104, by decide +kernel, rfl, fun h => absurd h (by decide), fun _ => pm_wsin (pm_t3 (List.mem_of_getElem? (i := 179) rfl)) rfl⟩
theorem pm_d105 : ∀ e ∈ pmk105, decode cX10_rule e.1 = .ok (e.2.1, pm_len e.2.1 e.2.2) := by decide +kernel
theorem pm_ok105 : pm_okm pmm105 := ⟨pm_d105, by decide +kernel, rfl, fun h => absurd h (by decide), fun _ => pm_wsin (pm_t3 (List.mem_of_getElem? (i := 187) rfl)) rfl⟩
theorem pm_d106 : ∀ e ∈ pmk106, decode cX10_fault e.1 = .ok (e.2.1, pm_len e.2.1 e.2.2) := by decide +kernel
theorem pm_ok106 : pm_okm pmm106 := ⟨pm_d106, by decide +kernel, rfl, fun h => absurd h (by decide), fun _ => pm_wsin (pm_t4 (List.mem_of_getElem? (i := 78) rfl)) rfl⟩
theorem pm_d107 : ∀ e ∈ pmk107, decode cX10_force e.1 = .ok (e.2.1, pm_len e.2.1 e.2.2) := by decide +kernel
theorem pm_ok107 : pm_okm pmm107 := ⟨pm_d107, by decide +kernel, rfl, fun h => absurd h (by decide), fun _ => pm_wsin (pm_t4 (List.mem_of_getElem? (i := 82) rfl)) rfl⟩
theorem pm_d108 : ∀ e ∈ pmk108, decode cX10_word e.1 = .ok (e.2.1, pm_len e.2.1 e.2.2) := by decide +kernel
theorem pm_ok108 : pm_okm pmm108 := ⟨pm_d108, by decide +kernel, rfl, fun h => absurd h (by decide), fun _ => pm_wsin (pm_t4 (List.mem_of_getElem? (i := 86) rfl)) rfl⟩
theorem pm_d109 : ∀ e ∈ pmk109, decode cX10_leads e.1 = .ok (e.2.1, pm_len e.2.1 e.2.2) := by decide +kernel
theorem pm_ok109 : pm_okm pmm109 := ⟨pm_d109, by decide +kernel, rfl, fun h => absurd h (by decide), fun _ => pm_wsin (pm_t4 (List.mem_of_getElem? (i := 103) rfl)) rfl⟩
theorem pm_d110 : ∀ e ∈ pmk110, decode cX10_ask e.1 = .ok (e.2.1, pm_len e.2.1 e.2.2) := by decide +kernel
theorem pm_ok110 : pm_okm pmm110 := ⟨pm_d110, by decide +kernel, rfl, fun h => absurd h (by decide), fun _ => pm_wsin (pm_t4 (List.mem_of_getElem? (i := 110) rfl)) rfl⟩
theorem pm_d111 : ∀ e ∈ pmk111, decode cX10_met e.1 = .ok (e.2.1, pm_len e.2.1 e.2.2) := by decide +kernel
theorem pm_ok111 : pm_okm pmm111 := ⟨pm_d111, by decide +kernel, rfl, fun h => absurd h (by decide), fun _ => pm_wsin (pm_t4 (List.mem_of_getElem? (i := 174) rfl)) rfl⟩
theorem pm_d112 : ∀ e ∈ pmk112, decode cX10_hands e.1 = .ok (e.2.1, pm_len e.2.1 e.2.2) := by decide +kernel
theorem pm_ok112 : pm_okm pmm112 := ⟨pm_d112, by decide +kernel, rfl, fun h => absurd h (by decide), fun _ => pm_wsin (pm_t4 (List.mem_of_getElem? (i := 212) rfl)) rfl⟩
theorem pm_d113 : ∀ e ∈ pmk113, decode cX10_together e.1 = .ok (e.2.1, pm_len e.2.1 e.2.2) := by decide +kernel
theorem pm_ok113 : pm_okm pmm113 := ⟨pm_d113, by decide +kernel, rfl, fun h => absurd h (by decide), fun _ => pm_wsin (pm_t4 (List.mem_of_getElem? (i := 224) rfl)) rfl⟩
theorem pm_d114 : ∀ e ∈ pmk114, decode cX10_along e.1 = .ok (e.2.1, pm_len e.2.1 e.2.2) := by decide +kernel
theorem pm_ok114 : pm_okm pmm114 := ⟨pm_d114, by decide +kernel, rfl, fun h => absurd h (by decide), fun _ => pm_wsin (pm_t4 (List.mem_of_getElem? (i := 231) rfl)) rfl⟩
theorem pm_d115 : ∀ e ∈ pmk115, decode cX10_likely e.1 = .ok (e.2.1, pm_len e.2.1 e.2.2) := by decide +kernel
theorem pm_ok115 : pm_okm pmm115 := ⟨pm_d115, by decide +kernel, rfl, fun h => absurd h (by decide), fun _ => pm_wsin (pm_t5 (List.mem_of_getElem? (i := 3) rfl)) rfl⟩
theorem pm_d116 : ∀ e ∈ pmk116, decode cX10_lacking e.1 = .ok (e.2.1, pm_len e.2.1 e.2.2) := by decide +kernel
theorem pm_ok116 : pm_okm pmm116 := ⟨pm_d116, by decide +kernel, rfl, fun h => absurd h (by decide), fun _ => pm_wsin (pm_t5 (List.mem_of_getElem? (i := 11) rfl)) rfl⟩
theorem pm_d117 : ∀ e ∈ pmk117, decode cX10_story e.1 = .ok (e.2.1, pm_len e.2.1 e.2.2) := by decide +kernel
theorem pm_ok117 : pm_okm pmm117 := ⟨pm_d117, by decide +kernel, rfl, fun h => absurd h (by decide), fun _ => pm_wsin (pm_t5 (List.mem_of_getElem? (i := 17) rfl)) rfl⟩
theorem pm_d118 : ∀ e ∈ pmk118, decode cX10_moment e.1 = .ok (e.2.1, pm_len e.2.1 e.2.2) := by decide +kernel
theorem pm_ok118 : pm_okm pmm118 := ⟨pm_d118, by decide +kernel, rfl, fun h => absurd h (by decide), fun _ => pm_wsin (pm_t5 (List.mem_of_getElem? (i := 25) rfl)) rfl⟩
theorem pm_d119 : ∀ e ∈ pmk119, decode cX10_of e.1 = .ok (e.2.1, pm_len e.2.1 e.2.2) := by decide +kernel
theorem pm_ok119 : pm_okm pmm119 := ⟨pm_d119, by decide +kernel, rfl, fun h => absurd h (by decide), fun _ => pm_wsin (pm_t5 (List.mem_of_getElem? (i := 37) rfl)) rfl⟩
theorem pm_d120 : ∀ e ∈ pmk120, decode cX10_split e.1 = .ok (e.2.1, pm_len e.2.1 e.2.2) := by decide +kernel
theorem pm_ok120 : pm_okm pmm120 := ⟨pm_d120, by decide +kernel, rfl, fun h => absurd h (by decide), fun _ => pm_wsin (pm_t5 (List.mem_of_getElem? (i := 41) rfl)) rfl⟩
theorem pm_d121 : ∀ e ∈ pmk121, decode cX10_isWithin e.1 = .ok (e.2.1, pm_len e.2.1 e.2.2) := by decide +kernel
theorem pm_ok121 : pm_okm pmm121 := ⟨pm_d121, by decide +kernel, rfl, fun h => absurd h (by decide), fun _ => pm_wsin (pm_t2 (List.mem_of_getElem? (i := 214) rfl)) rfl⟩
theorem pm_d122 : ∀ e ∈ pmk122, decode cX10_isYear e.1 = .ok (e.2.1, pm_len e.2.1 e.2.2) := by decide +kernel
theorem pm_ok122 : pm_okm pmm122 := ⟨pm_d122, by decide +kernel, rfl, fun h => absurd h (by decide), fun _ => pm_wsin (pm_t3 (List.mem_of_getElem? (i := 107) rfl)) rfl⟩
theorem pm_d123 : ∀ e ∈ pmk123, decode cX10_isHand e.1 = .ok (e.2.1, pm_len e.2.1 e.2.2) := by decide +kernel
theorem pm_ok123 : pm_okm pmm123 := ⟨pm_d123, by decide +kernel, rfl, fun h => absurd h (by decide), fun _ => pm_wsin (pm_t3 (List.mem_of_getElem? (i := 119) rfl)) rfl⟩
theorem pm_d124 : ∀ e ∈ pmk124, decode cX10_isWord e.1 = .ok (e.2.1, pm_len e.2.1 e.2.2) := by decide +kernel
theorem pm_ok124 : pm_okm pmm124 := ⟨pm_d124, by decide +kernel, rfl, fun h => absurd h (by decide), fun _ => pm_wsin (pm_t4 (List.mem_of_getElem? (i := 89) rfl)) rfl⟩
theorem pm_d125 : ∀ e ∈ pmk125, decode cX10_isKnownEdition e.1 = .ok (e.2.1, pm_len e.2.1 e.2.2) := by decide +kernel
theorem pm_ok125 : pm_okm pmm125 := ⟨pm_d125, by decide +kernel, rfl, fun h => absurd h (by decide), fun _ => pm_wsin (pm_t2 (List.mem_of_getElem? (i := 233) rfl)) rfl⟩
theorem pm_d126 : ∀ e ∈ pmk126, decode cX10_oneIf e.1 = .ok (e.2.1, pm_len e.2.1 e.2.2) := by decide +kernel
theorem pm_ok126 : pm_okm pmm126 := ⟨pm_d126, by decide +kernel, rfl, fun h => absurd h (by decide), fun _ => pm_wsin (pm_t2 (List.mem_of_getElem? (i := 237) rfl)) rfl⟩
theorem pm_d127 : ∀ e ∈ pmk127, decode cX10_pick e.1 = .ok (e.2.1, pm_len e.2.1 e.2.2) := by decide +kernel
theorem pm_ok127 : pm_okm pmm127 := ⟨pm_d127, by decide +kernel, rfl, fun h => absurd h (by decide), fun _ => pm_wsin (pm_t4 (List.mem_of_getElem? (i := 208) rfl)) rfl⟩
theorem pm_d128 : ∀ e ∈ pmk128, decode cX10_afterReading e.1 = .ok (e.2.1, pm_len e.2.1 e.2.2) := by decide +kernel
theorem pm_ok128 : pm_okm pmm128 := ⟨pm_d128, by decide +kernel, rfl, fun h => absurd h (by decide), fun _ => pm_wsin (pm_t4 (List.mem_of_getElem? (i := 73) rfl)) rfl⟩
theorem pm_d129 : ∀ e ∈ pmk129, decode cX10_missed e.1 = .ok (e.2.1, pm_len e.2.1 e.2.2) := by decide +kernel
theorem pm_ok129 : pm_okm pmm129 := ⟨pm_d129, by decide +kernel, rfl, fun h => absurd h (by decide), fun _ => pm_wsin (pm_t4 (List.mem_of_getElem? (i := 220) rfl)) rfl⟩
theorem pm_d130 : ∀ e ∈ pmk130, decode cX10_isBeyondChance e.1 = .ok (e.2.1, pm_len e.2.1 e.2.2) := by decide +kernel
theorem pm_ok130 : pm_okm pmm130 := ⟨pm_d130, by decide +kernel, rfl, fun h => absurd h (by decide), fun _ => pm_wsin (pm_t4 (List.mem_of_getElem? (i := 227) rfl)) rfl⟩
theorem pm_d131 : ∀ e ∈ pmk131, decode cX10_isApart e.1 = .ok (e.2.1, pm_len e.2.1 e.2.2) := by decide +kernel
theorem pm_ok131 : pm_okm pmm131 := ⟨pm_d131, by decide +kernel, rfl, fun h => absurd h (by decide), fun _ => pm_wsin (pm_t4 (List.mem_of_getElem? (i := 239) rfl)) rfl⟩
theorem pm_d132 : ∀ e ∈ pmk132, decode cX10_goingAlong e.1 = .ok (e.2.1, pm_len e.2.1 e.2.2) := by decide +kernel
theorem pm_ok132 : pm_okm pmm132 := ⟨pm_d132, by decide +kernel, rfl, fun h => absurd h (by decide), fun _ => pm_wsin (pm_t4 (List.mem_of_getElem? (i := 235) rfl)) rfl⟩
theorem pm_d133 : ∀ e ∈ pmk133, decode cX10_metBy e.1 = .ok (e.2.1, pm_len e.2.1 e.2.2) := by decide +kernel
theorem pm_ok133 : pm_okm pmm133 := ⟨pm_d133, by decide +kernel, rfl, fun h => absurd h (by decide), fun _ => pm_wsin (pm_t4 (List.mem_of_getElem? (i := 182) rfl)) rfl⟩
theorem pm_d134 : ∀ e ∈ pmk134, decode cX10_metByOne e.1 = .ok (e.2.1, pm_len e.2.1 e.2.2) := by decide +kernel
theorem pm_ok134 : pm_okm pmm134 := ⟨pm_d134, by decide +kernel, rfl, fun h => absurd h (by decide), fun _ => pm_wsin (pm_t4 (List.mem_of_getElem? (i := 186) rfl)) rfl⟩
theorem pm_d135 : ∀ e ∈ pmk135, decode cX11_init e.1 = .ok (e.2.1, pm_len e.2.1 e.2.2) := by decide +kernel
theorem pm_ok135 : pm_okm pmm135 := ⟨pm_d135, by decide +kernel, rfl, fun _ => rfl, fun _ => pm_wsin (pm_t5 (List.mem_of_getElem? (i := 47) rfl)) rfl⟩
theorem pm_d136 : ∀ e ∈ pmk136, decode cX11_in e.1 = .ok (e.2.1, pm_len e.2.1 e.2.2) := by decide +kernel
theorem pm_ok136 : pm_okm pmm136 := ⟨pm_d136, by decide +kernel, rfl, fun h => absurd h (by decide), fun _ => pm_wsin (pm_t6 (List.mem_of_getElem? (i := 18) rfl)) rfl⟩
theorem pm_d137 : ∀ e ∈ pmk137, decode cX11_isMark e.1 = .ok (e.2.1, pm_len e.2.1 e.2.2) := by decide +kernel
theorem pm_ok137 : pm_okm pmm137 := ⟨pm_d137, by decide +kernel, rfl, fun h => absurd h (by decide), fun _ => pm_wsin (pm_t6 (List.mem_of_getElem? (i := 15) rfl)) rfl⟩
theorem pm_d138 : ∀ e ∈ pmk138, decode cX11_isEdition e.1 = .ok (e.2.1, pm_len e.2.1 e.2.2) := by decide +kernel
theorem pm_ok138 : pm_okm pmm138 := ⟨pm_d138, by decide +kernel, rfl, fun h => absurd h (by decide), fun _ => pm_wsin (pm_t6 (List.mem_of_getElem? (i := 50) rfl)) rfl⟩
theorem pm_d139 : ∀ e ∈ pmk139, decode cX11_tell e.1 = .ok (e.2.1, pm_len e.2.1 e.2.2) := by decide +kernel
theorem pm_ok139 : pm_okm pmm139 := ⟨pm_d139, by decide +kernel, rfl, fun h => absurd h (by decide), fun _ => pm_wsin (pm_t5 (List.mem_of_getElem? (i := 52) rfl)) rfl⟩
theorem pm_d140 : ∀ e ∈ pmk140, decode cX11_hang e.1 = .ok (e.2.1, pm_len e.2.1 e.2.2) := by decide +kernel
theorem pm_ok140 : pm_okm pmm140 := ⟨pm_d140, by decide +kernel, rfl, fun h => absurd h (by decide), fun _ => pm_wsin (pm_t5 (List.mem_of_getElem? (i := 56) rfl)) rfl⟩
theorem pm_d141 : ∀ e ∈ pmk141, decode cX11_isTold e.1 = .ok (e.2.1, pm_len e.2.1 e.2.2) := by decide +kernel
theorem pm_ok141 : pm_okm pmm141 := ⟨pm_d141, by decide +kernel, rfl, fun h => absurd h (by decide), fun _ => pm_wsin (pm_t6 (List.mem_of_getElem? (i := 26) rfl)) rfl⟩
theorem pm_d142 : ∀ e ∈ pmk142, decode cX11_isThere e.1 = .ok (e.2.1, pm_len e.2.1 e.2.2) := by decide +kernel
theorem pm_ok142 : pm_okm pmm142 := ⟨pm_d142, by decide +kernel, rfl, fun h => absurd h (by decide), fun _ => pm_wsin (pm_t6 (List.mem_of_getElem? (i := 22) rfl)) rfl⟩
theorem pm_d143 : ∀ e ∈ pmk143, decode cX11_isBelow e.1 = .ok (e.2.1, pm_len e.2.1 e.2.2) := by decide +kernel
theorem pm_ok143 : pm_okm pmm143 := ⟨pm_d143, by decide +kernel, rfl, fun h => absurd h (by decide), fun _ => pm_wsin (pm_t6 (List.mem_of_getElem? (i := 34) rfl)) rfl⟩
theorem pm_d144 : ∀ e ∈ pmk144, decode cX11_belowMany e.1 = .ok (e.2.1, pm_len e.2.1 e.2.2) := by decide +kernel
theorem pm_ok144 : pm_okm pmm144 := ⟨pm_d144, by decide +kernel, rfl, fun h => absurd h (by decide), fun _ => pm_wsin (pm_t6 (List.mem_of_getElem? (i := 42) rfl)) rfl⟩
theorem pm_d145 : ∀ e ∈ pmk145, decode cX11_edition e.1 = .ok (e.2.1, pm_len e.2.1 e.2.2) := by decide +kernel
theorem pm_ok145 : pm_okm pmm145 := ⟨pm_d145, by decide +kernel, rfl, fun h => absurd h (by decide), fun _ => pm_wsin (pm_t6 (List.mem_of_getElem? (i := 7) rfl)) rfl⟩
theorem pm_d146 : ∀ e ∈ pmk146, decode cX11_mark e.1 = .ok (e.2.1, pm_len e.2.1 e.2.2) := by decide +kernel
theorem pm_ok146 : pm_okm pmm146 := ⟨pm_d146, by decide +kernel, rfl, fun h => absurd h (by decide), fun _ => pm_wsin (pm_t6 (List.mem_of_getElem? (i := 11) rfl)) rfl⟩
theorem pm_d147 : ∀ e ∈ pmk147, decode cX11_move e.1 = .ok (e.2.1, pm_len e.2.1 e.2.2) := by decide +kernel
theorem pm_ok147 : pm_okm pmm147 := ⟨pm_d147, by decide +kernel, rfl, fun h => absurd h (by decide), fun _ => pm_wsin (pm_t6 (List.mem_of_getElem? (i := 30) rfl)) rfl⟩
theorem pm_d148 : ∀ e ∈ pmk148, decode cX11_end e.1 = .ok (e.2.1, pm_len e.2.1 e.2.2) := by decide +kernel
theorem pm_ok148 : pm_okm pmm148 := ⟨pm_d148, by decide +kernel, rfl, fun h => absurd h (by decide), fun _ => pm_wsin (pm_t6 (List.mem_of_getElem? (i := 38) rfl)) rfl⟩
theorem pm_d149 : ∀ e ∈ pmk149, decode cX11_tree e.1 = .ok (e.2.1, pm_len e.2.1 e.2.2) := by decide +kernel
theorem pm_ok149 : pm_okm pmm149 := ⟨pm_d149, by decide +kernel, rfl, fun h => absurd h (by decide), fun _ => pm_wsin (pm_t6 (List.mem_of_getElem? (i := 46) rfl)) rfl⟩
theorem pm_d150 : ∀ e ∈ pmk150, decode cX11_below e.1 = .ok (e.2.1, pm_len e.2.1 e.2.2) := by decide +kernel
theorem pm_ok150 : pm_okm pmm150 := ⟨pm_d150, by decide +kernel, rfl, fun h => absurd h (by decide), fun _ => pm_wsin (pm_t6 (List.mem_of_getElem? (i := 107) rfl)) rfl⟩
theorem pm_d151 : ∀ e ∈ pmk151, decode cX11_isPicture e.1 = .ok (e.2.1, pm_len e.2.1 e.2.2) := by decide +kernel
theorem pm_ok151 : pm_okm pmm151 := ⟨pm_d151, by decide +kernel, rfl, fun h => absurd h (by decide), fun _ => pm_wsin (pm_t6 (List.mem_of_getElem? (i := 115) rfl)) rfl⟩
theorem pm_d152 : ∀ e ∈ pmk152, decode cX11_isGiving e.1 = .ok (e.2.1, pm_len e.2.1 e.2.2) := by decide +kernel
theorem pm_ok152 : pm_okm pmm152 := ⟨pm_d152, by decide +kernel, rfl, fun h => absurd h (by decide), fun _ => pm_wsin (pm_t6 (List.mem_of_getElem? (i := 134) rfl)) rfl⟩
theorem pm_d153 : ∀ e ∈ pmk153, decode cX11_isHand e.1 = .ok (e.2.1, pm_len e.2.1 e.2.2) := by decide +kernel
theorem pm_ok153 : pm_okm pmm153 := ⟨pm_d153, by decide +kernel, rfl, fun h => absurd h (by decide), fun _ => pm_wsin (pm_t6 (List.mem_of_getElem? (i := 124) rfl)) rfl⟩
theorem pm_d154 : ∀ e ∈ pmk154, decode cX11_picture e.1 = .ok (e.2.1, pm_len e.2.1 e.2.2) := by decide +kernel
theorem pm_ok154 : pm_okm pmm154 := ⟨pm_d154, by decide +kernel, rfl, fun h => absurd h (by decide), fun _ => pm_wsin (pm_t6 (List.mem_of_getElem? (i := 111) rfl)) rfl⟩
theorem pm_d155 : ∀ e ∈ pmk155, decode cX11_give e.1 = .ok (e.2.1, pm_len e.2.1 e.2.2) := by decide +kernel
theorem pm_ok155 : pm_okm pmm155 := ⟨pm_d155, by decide +kernel, rfl, fun h => absurd h (by decide), fun _ => pm_wsin (pm_t6 (List.mem_of_getElem? (i := 121) rfl)) rfl⟩
theorem pm_d156 : ∀ e ∈ pmk156, decode cX11_doubts e.1 = .ok (e.2.1, pm_len e.2.1 e.2.2) := by decide +kernel
theorem pm_ok156 : pm_okm pmm156 := ⟨pm_d156, by decide +kernel, rfl, fun h => absurd h (by decide), fun _ => pm_wsin (pm_t6 (List.mem_of_getElem? (i := 99) rfl)) rfl⟩
theorem pm_d157 : ∀ e ∈ pmk157, decode cX11_doubt e.1 = .ok (e.2.1, pm_len e.2.1 e.2.2) := by decide +kernel
theorem pm_ok157 : pm_okm pmm157 := ⟨pm_d157, by decide +kernel, rfl, fun h => absurd h (by decide), fun _ => pm_wsin (pm_t6 (List.mem_of_getElem? (i := 130) rfl)) rfl⟩
theorem pm_d158 : ∀ e ∈ pmk158, decode cX11_told e.1 = .ok (e.2.1, pm_len e.2.1 e.2.2) := by decide +kernel
theorem pm_ok158 : pm_okm pmm158 := ⟨pm_d158, by decide +kernel, rfl, fun h => absurd h (by decide), fun _ => pm_wsin (pm_t6 (List.mem_of_getElem? (i := 138) rfl)) rfl⟩
theorem pm_d159 : ∀ e ∈ pmk159, decode cX11_strikes e.1 = .ok (e.2.1, pm_len e.2.1 e.2.2) := by decide +kernel
theorem pm_ok159 : pm_okm pmm159 := ⟨pm_d159, by decide +kernel, rfl, fun h => absurd h (by decide), fun _ => pm_wsin (pm_t6 (List.mem_of_getElem? (i := 71) rfl)) rfl⟩
theorem pm_d160 : ∀ e ∈ pmk160, decode cX11_findRules e.1 = .ok (e.2.1, pm_len e.2.1 e.2.2) := by decide +kernel
theorem pm_ok160 : pm_okm pmm160 := ⟨pm_d160, by decide +kernel, rfl, fun h => absurd h (by decide), fun _ => pm_wsin (pm_t6 (List.mem_of_getElem? (i := 67) rfl)) rfl⟩
theorem pm_d161 : ∀ e ∈ pmk161, decode cX11_ruleOf e.1 = .ok (e.2.1, pm_len e.2.1 e.2.2) := by decide +kernel
theorem pm_ok161 : pm_okm pmm161 := ⟨pm_d161, by decide +kernel, rfl, fun h => absurd h (by decide), fun _ => pm_wsin (pm_t6 (List.mem_of_getElem? (i := 87) rfl)) rfl⟩
theorem pm_d162 : ∀ e ∈ pmk162, decode cX11_holds e.1 = .ok (e.2.1, pm_len e.2.1 e.2.2) := by decide +kernel
theorem pm_ok162 : pm_okm pmm162 := ⟨pm_d162, by decide +kernel, rfl, fun h => absurd h (by decide), fun _ => pm_wsin (pm_t6 (List.mem_of_getElem? (i := 83) rfl)) rfl⟩
theorem pm_d163 : ∀ e ∈ pmk163, decode cX11_isBarred e.1 = .ok (e.2.1, pm_len e.2.1 e.2.2) := by decide +kernel
theorem pm_ok163 : pm_okm pmm163 := ⟨pm_d163, by decide +kernel, rfl, fun h => absurd h (by decide), fun _ => pm_wsin (pm_t6 (List.mem_of_getElem? (i := 91) rfl)) rfl⟩
theorem pm_d164 : ∀ e ∈ pmk164, decode cX11_isAllowed e.1 = .ok (e.2.1, pm_len e.2.1 e.2.2) := by decide +kernel
theorem pm_ok164 : pm_okm pmm164 := ⟨pm_d164, by decide +kernel, rfl, fun h => absurd h (by decide), fun _ => pm_wsin (pm_t6 (List.mem_of_getElem? (i := 79) rfl)) rfl⟩
theorem pm_d165 : ∀ e ∈ pmk165, decode cX11_whyWrong e.1 = .ok (e.2.1, pm_len e.2.1 e.2.2) := by decide +kernel
theorem pm_ok165 : pm_okm pmm165 := ⟨pm_d165, by decide +kernel, rfl, fun h => absurd h (by decide), fun _ => pm_wsin (pm_t6 (List.mem_of_getElem? (i := 75) rfl)) rfl⟩
theorem pm_d166 : ∀ e ∈ pmk166, decode cX11_findWrong e.1 = .ok (e.2.1, pm_len e.2.1 e.2.2) := by decide +kernel
theorem pm_ok166 : pm_okm pmm166 := ⟨pm_d166, by decide +kernel, rfl, fun h => absurd h (by decide), fun _ => pm_wsin (pm_t6 (List.mem_of_getElem? (i := 63) rfl)) rfl⟩
theorem pm_d167 : ∀ e ∈ pmk167, decode cX11_findMeant e.1 = .ok (e.2.1, pm_len e.2.1 e.2.2) := by decide +kernel
theorem pm_ok167 : pm_okm pmm167 := ⟨pm_d167, by decide +kernel, rfl, fun h => absurd h (by decide), fun _ => pm_wsin (pm_t6 (List.mem_of_getElem? (i := 95) rfl)) rfl⟩
theorem pm_d168 : ∀ e ∈ pmk168, decode cX11_find e.1 = .ok (e.2.1, pm_len e.2.1 e.2.2) := by decide +kernel
theorem pm_ok168 : pm_okm pmm168 := ⟨pm_d168, by decide +kernel, rfl, fun h => absurd h (by decide), fun _ => pm_wsin (pm_t6 (List.mem_of_getElem? (i := 59) rfl)) rfl⟩
theorem pm_d169 : ∀ e ∈ pmk169, decode cX11_shows e.1 = .ok (e.2.1, pm_len e.2.1 e.2.2) := by decide +kernel
theorem pm_ok169 : pm_okm pmm169 := ⟨pm_d169, by decide +kernel, rfl, fun h => absurd h (by decide), fun _ => pm_wsin (pm_t6 (List.mem_of_getElem? (i := 103) rfl)) rfl⟩
theorem pm_d170 : ∀ e ∈ pmk170, decode cX11_showing e.1 = .ok (e.2.1, pm_len e.2.1 e.2.2) := by decide +kernel
theorem pm_ok170 : pm_okm pmm170 := ⟨pm_d170, by decide +kernel, rfl, fun h => absurd h (by decide), fun _ => pm_wsin (pm_t6 (List.mem_of_getElem? (i := 55) rfl)) rfl⟩
theorem pm_d171 : ∀ e ∈ pmk171, decode cX11_lacks e.1 = .ok (e.2.1, pm_len e.2.1 e.2.2) := by decide +kernel
theorem pm_ok171 : pm_okm pmm171 := ⟨pm_d171, by decide +kernel, rfl, fun h => absurd h (by decide), fun _ => pm_wsin (pm_t6 (List.mem_of_getElem? (i := 147) rfl)) rfl⟩
theorem pm_d172 : ∀ e ∈ pmk172, decode cX11_means e.1 = .ok (e.2.1, pm_len e.2.1 e.2.2) := by decide +kernel
theorem pm_ok172 : pm_okm pmm172 := ⟨pm_d172, by decide +kernel, rfl, fun h => absurd h (by decide), fun _ => pm_wsin (pm_t6 (List.mem_of_getElem? (i := 142) rfl)) rfl⟩
theorem pm_d173 : ∀ e ∈ pmk173, decode cX11_led e.1 = .ok (e.2.1, pm_len e.2.1 e.2.2) := by decide +kernel
theorem pm_ok173 : pm_okm pmm173 := ⟨pm_d173, by decide +kernel, rfl, fun h => absurd h (by decide), fun _ => pm_wsin (pm_t6 (List.mem_of_getElem? (i := 151) rfl)) rfl⟩
theorem pm_d174 : ∀ e ∈ pmk174, decode cX11_count e.1 = .ok (e.2.1, pm_len e.2.1 e.2.2) := by decide +kernel
theorem pm_ok174 : pm_okm pmm174 := ⟨pm_d174, by decide +kernel, rfl, fun h => absurd h (by decide), fun _ => pm_wsin (pm_t6 (List.mem_of_getElem? (i := 155) rfl)) rfl⟩
theorem pm_d175 : ∀ e ∈ pmk175, decode cX11_feed e.1 = .ok (e.2.1, pm_len e.2.1 e.2.2) := by decide +kernel
theorem pm_ok175 : pm_okm pmm175 := ⟨pm_d175, by decide +kernel, rfl, fun h => absurd h (by decide), fun _ => pm_wsin (pm_t6 (List.mem_of_getElem? (i := 159) rfl)) rfl⟩
theorem pm_d176 : ∀ e ∈ pmk176, decode cX11_here e.1 = .ok (e.2.1, pm_len e.2.1 e.2.2) := by decide +kernel
theorem pm_ok176 : pm_okm pmm176 := ⟨pm_d176, by decide +kernel, rfl, fun h => absurd h (by decide), fun _ => pm_wsin (pm_t6 (List.mem_of_getElem? (i := 169) rfl)) rfl⟩
theorem pm_d177 : ∀ e ∈ pmk177, decode cX11_fails e.1 = .ok (e.2.1, pm_len e.2.1 e.2.2) := by decide +kernel
theorem pm_ok177 : pm_okm pmm177 := ⟨pm_d177, by decide +kernel, rfl, fun h => absurd h (by decide), fun _ => pm_wsin (pm_t6 (List.mem_of_getElem? (i := 194) rfl)) rfl⟩
theorem pm_d178 : ∀ e ∈ pmk178, decode cX11_readWord e.1 = .ok (e.2.1, pm_len e.2.1 e.2.2) := by decide +kernel
theorem pm_ok178 : pm_okm pmm178 := ⟨pm_d178, by decide +kernel, rfl, fun h => absurd h (by decide), fun _ => pm_wsin (pm_t6 (List.mem_of_getElem? (i := 177) rfl)) rfl⟩
theorem pm_d179 : ∀ e ∈ pmk179, decode cX11_code e.1 = .ok (e.2.1, pm_len e.2.1 e.2.2) := by decide +kernel
theorem pm_ok179 : pm_okm pmm179 := ⟨pm_d179, by decide +kernel, rfl, fun h => absurd h (by decide), fun _ => pm_wsin (pm_t6 (List.mem_of_getElem? (i := 190) rfl)) rfl⟩
theorem pm_d180 : ∀ e ∈ pmk180, decode cX11_readNumber e.1 = .ok (e.2.1, pm_len e.2.1 e.2.2) := by decide +kernel
theorem pm_ok180 : pm_okm pmm180 := ⟨pm_d180, by decide +kernel, rfl, fun h => absurd h (by decide), fun _ => pm_wsin (pm_t6 (List.mem_of_getElem? (i := 202) rfl)) rfl⟩
theorem pm_d181 : ∀ e ∈ pmk181, decode cX11_needs e.1 = .ok (e.2.1, pm_len e.2.1 e.2.2) := by decide +kernel
theorem pm_ok181 : pm_okm pmm181 := ⟨pm_d181, by decide +kernel, rfl, fun h => absurd h (by decide), fun _ => pm_wsin (pm_t6 (List.mem_of_getElem? (i := 217) rfl)) rfl⟩
theorem pm_d182 : ∀ e ∈ pmk182, decode cX11_senseOf e.1 = .ok (e.2.1, pm_len e.2.1 e.2.2) := by decide +kernel
theorem pm_ok182 : pm_okm pmm182 := ⟨pm_d182, by decide +kernel, rfl, fun h => absurd h (by decide), fun _ => pm_wsin (pm_t6 (List.mem_of_getElem? (i := 209) rfl)) rfl⟩
theorem pm_d183 : ∀ e ∈ pmk183, decode cX11_keyOf e.1 = .ok (e.2.1, pm_len e.2.1 e.2.2) := by decide +kernel
theorem pm_ok183 : pm_okm pmm183 := ⟨pm_d183, by decide +kernel, rfl, fun h => absurd h (by decide), fun _ => pm_wsin (pm_t6 (List.mem_of_getElem? (i := 187) rfl)) rfl⟩
theorem pm_d184 : ∀ e ∈ pmk184, decode cX11_readSense e.1 = .ok (e.2.1, pm_len e.2.1 e.2.2) := by decide +kernel
theorem pm_ok184 : pm_okm pmm184 := ⟨pm_d184, by decide +kernel, rfl, fun h => absurd h (by decide), fun _ => pm_wsin (pm_t6 (List.mem_of_getElem? (i := 198) rfl)) rfl⟩
theorem pm_d185 : ∀ e ∈ pmk185, decode cX11_readPair e.1 = .ok (e.2.1, pm_len e.2.1 e.2.2) := by decide +kernel
theorem pm_ok185 : pm_okm pmm185 := ⟨pm_d185, by decide +kernel, rfl, fun h => absurd h (by decide), fun _ => pm_wsin (pm_t6 (List.mem_of_getElem? (i := 213) rfl)) rfl⟩
theorem pm_d186 : ∀ e ∈ pmk186, decode cX11_readClause e.1 = .ok (e.2.1, pm_len e.2.1 e.2.2) := by decide +kernel
theorem pm_ok186 : pm_okm pmm186 := ⟨pm_d186, by decide +kernel, rfl, fun h => absurd h (by decide), fun _ => pm_wsin (pm_t6 (List.mem_of_getElem? (i := 173) rfl)) rfl⟩
theorem pm_d187 : ∀ e ∈ pmk187, decode cX11_rule e.1 = .ok (e.2.1, pm_len e.2.1 e.2.2) := by decide +kernel
theorem pm_ok187 : pm_okm pmm187 := ⟨pm_d187, by decide +kernel, rfl, fun h => absurd h (by decide), fun _ => pm_wsin (pm_t6 (List.mem_of_getElem? (i := 165) rfl)) rfl⟩
theorem pm_d188 : ∀ e ∈ pmk188, decode cX11_fault e.1 = .ok (e.2.1, pm_len e.2.1 e.2.2) := by decide +kernel
theorem pm_ok188 : pm_okm pmm188 := ⟨pm_d188, by decide +kernel, rfl, fun h => absurd h (by decide), fun _ => pm_wsin (pm_t6 (List.mem_of_getElem? (i := 221) rfl)) rfl⟩
theorem pm_d189 : ∀ e ∈ pmk189, decode cX11_force e.1 = .ok (e.2.1, pm_len e.2.1 e.2.2) := by decide +kernel
theorem pm_ok189 : pm_okm pmm189 := ⟨pm_d189, by decide +kernel, rfl, fun h => absurd h (by decide), fun _ => pm_wsin (pm_t6 (List.mem_of_getElem? (i := 225) rfl)) rfl⟩
theorem pm_d190 : ∀ e ∈ pmk190, decode cX11_isWord e.1 = .ok (e.2.1, pm_len e.2.1 e.2.2) := by decide +kernel
theorem pm_ok190 : pm_okm pmm190 := ⟨pm_d190, by decide +kernel, rfl, fun h => absurd h (by decide), fun _ => pm_wsin (pm_t6 (List.mem_of_getElem? (i := 232) rfl)) rfl⟩
theorem pm_d191 : ∀ e ∈ pmk191, decode cX11_leadsMany e.1 = .ok (e.2.1, pm_len e.2.1 e.2.2) := by decide +kernel
theorem pm_ok191 : pm_okm pmm191 := ⟨pm_d191, by decide +kernel, rfl, fun h => absurd h (by decide), fun _ => pm_wsin (pm_t6 (List.mem_of_getElem? (i := 238) rfl)) rfl⟩
theorem pm_d192 : ∀ e ∈ pmk192, decode cX11_word e.1 = .ok (e.2.1, pm_len e.2.1 e.2.2) := by decide +kernel
theorem pm_ok192 : pm_okm pmm192 := ⟨pm_d192, by decide +kernel, rfl, fun h => absurd h (by decide), fun _ => pm_wsin (pm_t6 (List.mem_of_getElem? (i := 229) rfl)) rfl⟩
theorem pm_d193 : ∀ e ∈ pmk193, decode cX11_leads e.1 = .ok (e.2.1, pm_len e.2.1 e.2.2) := by decide +kernel
theorem pm_ok193 : pm_okm pmm193 := ⟨pm_d193, by decide +kernel, rfl, fun h => absurd h (by decide), fun _ => pm_wsin (pm_t7 (List.mem_of_getElem? (i := 2) rfl)) rfl⟩
theorem pm_d194 : ∀ e ∈ pmk194, decode cX11_put e.1 = .ok (e.2.1, pm_len e.2.1 e.2.2) := by decide +kernel
theorem pm_ok194 : pm_okm pmm194 := ⟨pm_d194, by decide +kernel, rfl, fun h => absurd h (by decide), fun _ => pm_wsin (pm_t7 (List.mem_of_getElem? (i := 22) rfl)) rfl⟩
theorem pm_d195 : ∀ e ∈ pmk195, decode cX11_work e.1 = .ok (e.2.1, pm_len e.2.1 e.2.2) := by decide +kernel
theorem pm_ok195 : pm_okm pmm195 := ⟨pm_d195, by decide +kernel, rfl, fun h => absurd h (by decide), fun _ => pm_wsin (pm_t7 (List.mem_of_getElem? (i := 26) rfl)) rfl⟩
theorem pm_d196 : ∀ e ∈ pmk196, decode cX11_hold e.1 = .ok (e.2.1, pm_len e.2.1 e.2.2) := by decide +kernel
theorem pm_ok196 : pm_okm pmm196 := ⟨pm_d196, by decide +kernel, rfl, fun h => absurd h (by decide), fun _ => pm_wsin (pm_t7 (List.mem_of_getElem? (i := 14) rfl)) rfl⟩
theorem pm_d197 : ∀ e ∈ pmk197, decode cX11_readLeaf e.1 = .ok (e.2.1, pm_len e.2.1 e.2.2) := by decide +kernel
theorem pm_ok197 : pm_okm pmm197 := ⟨pm_d197, by decide +kernel, rfl, fun h => absurd h (by decide), fun _ => pm_wsin (pm_t7 (List.mem_of_getElem? (i := 18) rfl)) rfl⟩
theorem pm_d198 : ∀ e ∈ pmk198, decode cX11_readOne e.1 = .ok (e.2.1, pm_len e.2.1 e.2.2) := by decide +kernel
theorem pm_ok198 : pm_okm pmm198 := ⟨pm_d198, by decide +kernel, rfl, fun h => absurd h (by decide), fun _ => pm_wsin (pm_t7 (List.mem_of_getElem? (i := 10) rfl)) rfl⟩
theorem pm_d199 : ∀ e ∈ pmk199, decode cX11_readBehind e.1 = .ok (e.2.1, pm_len e.2.1 e.2.2) := by decide +kernel
theorem pm_ok199 : pm_okm pmm199 := ⟨pm_d199, by decide +kernel, rfl, fun h => absurd h (by decide), fun _ => pm_wsin (pm_t7 (List.mem_of_getElem? (i := 30) rfl)) rfl⟩
theorem pm_d200 : ∀ e ∈ pmk200, decode cX11_ask e.1 = .ok (e.2.1, pm_len e.2.1 e.2.2) := by decide +kernel
theorem pm_ok200 : pm_okm pmm200 := ⟨pm_d200, by decide +kernel, rfl, fun h => absurd h (by decide), fun _ => pm_wsin (pm_t7 (List.mem_of_getElem? (i := 6) rfl)) rfl⟩
theorem pm_d201 : ∀ e ∈ pmk201, decode cX11_hasHand e.1 = .ok (e.2.1, pm_len e.2.1 e.2.2) := by decide +kernel
theorem pm_ok201 : pm_okm pmm201 := ⟨pm_d201, by decide +kernel, rfl, fun h => absurd h (by decide), fun _ => pm_wsin (pm_t7 (List.mem_of_getElem? (i := 46) rfl)) rfl⟩
theorem pm_d202 : ∀ e ∈ pmk202, decode cX11_showsWord e.1 = .ok (e.2.1, pm_len e.2.1 e.2.2) := by decide +kernel
theorem pm_ok202 : pm_okm pmm202 := ⟨pm_d202, by decide +kernel, rfl, fun h => absurd h (by decide), fun _ => pm_wsin (pm_t7 (List.mem_of_getElem? (i := 42) rfl)) rfl⟩
theorem pm_d203 : ∀ e ∈ pmk203, decode cX11_isMet e.1 = .ok (e.2.1, pm_len e.2.1 e.2.2) := by decide +kernel
theorem pm_ok203 : pm_okm pmm203 := ⟨pm_d203, by decide +kernel, rfl, fun h => absurd h (by decide), fun _ => pm_wsin (pm_t7 (List.mem_of_getElem? (i := 38) rfl)) rfl⟩
theorem pm_d204 : ∀ e ∈ pmk204, decode cX11_met e.1 = .ok (e.2.1, pm_len e.2.1 e.2.2) := by decide +kernel
theorem pm_ok204 : pm_okm pmm204 := ⟨pm_d204, by decide +kernel, rfl, fun h => absurd h (by decide), fun _ => pm_wsin (pm_t7 (List.mem_of_getElem? (i := 34) rfl)) rfl⟩
theorem pm_d205 : ∀ e ∈ pmk205, decode cX11_saw e.1 = .ok (e.2.1, pm_len e.2.1 e.2.2) := by decide +kernel
theorem pm_ok205 : pm_okm pmm205 := ⟨pm_d205, by decide +kernel, rfl, fun h => absurd h (by decide), fun _ => pm_wsin (pm_t7 (List.mem_of_getElem? (i := 55) rfl)) rfl⟩
theorem pm_d206 : ∀ e ∈ pmk206, decode cX11_hands e.1 = .ok (e.2.1, pm_len e.2.1 e.2.2) := by decide +kernel
theorem pm_ok206 : pm_okm pmm206 := ⟨pm_d206, by decide +kernel, rfl, fun h => absurd h (by decide), fun _ => pm_wsin (pm_t7 (List.mem_of_getElem? (i := 50) rfl)) rfl⟩
theorem pm_d207 : ∀ e ∈ pmk207, decode cX11_isBeyond e.1 = .ok (e.2.1, pm_len e.2.1 e.2.2) := by decide +kernel
theorem pm_ok207 : pm_okm pmm207 := ⟨pm_d207, by decide +kernel, rfl, fun h => absurd h (by decide), fun _ => pm_wsin (pm_t7 (List.mem_of_getElem? (i := 63) rfl)) rfl⟩
theorem pm_d208 : ∀ e ∈ pmk208, decode cX11_together e.1 = .ok (e.2.1, pm_len e.2.1 e.2.2) := by decide +kernel
theorem pm_ok208 : pm_okm pmm208 := ⟨pm_d208, by decide +kernel, rfl, fun h => absurd h (by decide), fun _ => pm_wsin (pm_t7 (List.mem_of_getElem? (i := 59) rfl)) rfl⟩
theorem pm_d209 : ∀ e ∈ pmk209, decode cX11_areApart e.1 = .ok (e.2.1, pm_len e.2.1 e.2.2) := by decide +kernel
theorem pm_ok209 : pm_okm pmm209 := ⟨pm_d209, by decide +kernel, rfl, fun h => absurd h (by decide), fun _ => pm_wsin (pm_t7 (List.mem_of_getElem? (i := 75) rfl)) rfl⟩
theorem pm_d210 : ∀ e ∈ pmk210, decode cX11_goesAlong e.1 = .ok (e.2.1, pm_len e.2.1 e.2.2) := by decide +kernel
theorem pm_ok210 : pm_okm pmm210 := ⟨pm_d210, by decide +kernel, rfl, fun h => absurd h (by decide), fun _ => pm_wsin (pm_t7 (List.mem_of_getElem? (i := 71) rfl)) rfl⟩
theorem pm_d211 : ∀ e ∈ pmk211, decode cX11_along e.1 = .ok (e.2.1, pm_len e.2.1 e.2.2) := by decide +kernel
theorem pm_ok211 : pm_okm pmm211 := ⟨pm_d211, by decide +kernel, rfl, fun h => absurd h (by decide), fun _ => pm_wsin (pm_t7 (List.mem_of_getElem? (i := 67) rfl)) rfl⟩
theorem pm_d212 : ∀ e ∈ pmk212, decode cX11_likely e.1 = .ok (e.2.1, pm_len e.2.1 e.2.2) := by decide +kernel
theorem pm_ok212 : pm_okm pmm212 := ⟨pm_d212, by decide +kernel, rfl, fun h => absurd h (by decide), fun _ => pm_wsin (pm_t7 (List.mem_of_getElem? (i := 79) rfl)) rfl⟩
theorem pm_d213 : ∀ e ∈ pmk213, decode cX11_firstOf e.1 = .ok (e.2.1, pm_len e.2.1 e.2.2) := by decide +kernel
theorem pm_ok213 : pm_okm pmm213 := ⟨pm_d213, by decide +kernel, rfl, fun h => absurd h (by decide), fun _ => pm_wsin (pm_t7 (List.mem_of_getElem? (i := 89) rfl)) rfl⟩
theorem pm_d214 : ∀ e ∈ pmk214, decode cX11_lacking e.1 = .ok (e.2.1, pm_len e.2.1 e.2.2) := by decide +kernel
theorem pm_ok214 : pm_okm pmm214 := ⟨pm_d214, by decide +kernel, rfl, fun h => absurd h (by decide), fun _ => pm_wsin (pm_t7 (List.mem_of_getElem? (i := 83) rfl)) rfl⟩
theorem pm_d215 : ∀ e ∈ pmk215, decode cX11_story e.1 = .ok (e.2.1, pm_len e.2.1 e.2.2) := by decide +kernel
theorem pm_ok215 : pm_okm pmm215 := ⟨pm_d215, by decide +kernel, rfl, fun h => absurd h (by decide), fun _ => pm_wsin (pm_t7 (List.mem_of_getElem? (i := 93) rfl)) rfl⟩
theorem pm_d216 : ∀ e ∈ pmk216, decode cX11_moment e.1 = .ok (e.2.1, pm_len e.2.1 e.2.2) := by decide +kernel
theorem pm_ok216 : pm_okm pmm216 := ⟨pm_d216, by decide +kernel, rfl, fun h => absurd h (by decide), fun _ => pm_wsin (pm_t7 (List.mem_of_getElem? (i := 97) rfl)) rfl⟩
theorem pm_d217 : ∀ e ∈ pmk217, decode cX11_of e.1 = .ok (e.2.1, pm_len e.2.1 e.2.2) := by decide +kernel
theorem pm_ok217 : pm_okm pmm217 := ⟨pm_d217, by decide +kernel, rfl, fun h => absurd h (by decide), fun _ => pm_wsin (pm_t7 (List.mem_of_getElem? (i := 101) rfl)) rfl⟩
theorem pm_d218 : ∀ e ∈ pmk218, decode cX11_split e.1 = .ok (e.2.1, pm_len e.2.1 e.2.2) := by decide +kernel
theorem pm_ok218 : pm_okm pmm218 := ⟨pm_d218, by decide +kernel, rfl, fun h => absurd h (by decide), fun _ => pm_wsin (pm_t7 (List.mem_of_getElem? (i := 105) rfl)) rfl⟩
theorem pm_d219 : ∀ e ∈ pmk219, decode cJ13_bitCount_95d88 e.1 = .ok (e.2.1, pm_len e.2.1 e.2.2) := by decide +kernel
theorem pm_ok219 : pm_okm pmm219 := ⟨pm_d219, by decide +kernel, rfl, fun h => absurd h (by decide), fun _ => pm_wsin (pm_t3 (List.mem_of_getElem? (i := 89) rfl)) rfl⟩
theorem pm_d220 : ∀ e ∈ pmk220, decode cJ9_max_7cf53 e.1 = .ok (e.2.1, pm_len e.2.1 e.2.2) := by decide +kernel
theorem pm_ok220 : pm_okm pmm220 := ⟨pm_d220, by decide +kernel, rfl, fun h => absurd h (by decide), fun _ => pm_wsin (pm_t2 (List.mem_of_getElem? (i := 195) rfl)) rfl⟩
theorem pm_d221 : ∀ e ∈ pmk221, decode cJ9_min_7cf53 e.1 = .ok (e.2.1, pm_len e.2.1 e.2.2) := by decide +kernel
theorem pm_ok221 : pm_okm pmm221 := ⟨pm_d221, by decide +kernel, rfl, fun h => absurd h (by decide), fun _ => pm_wsin (pm_t4 (List.mem_of_getElem? (i := 106) rfl)) rfl⟩
theorem pm_d222 : ∀ e ∈ pmk222, decode cJ7_fill_d0a16 e.1 = .ok (e.2.1, pm_len e.2.1 e.2.2) := by decide +kernel
theorem pm_ok222 : pm_okm pmm222 := ⟨pm_d222, by decide +kernel, rfl, fun h => absurd h (by decide), fun _ => pm_wsin (pm_t3 (List.mem_of_getElem? (i := 18) rfl)) rfl⟩
theorem pm_d223 : ∀ e ∈ pmk223, decode cJ7_fill_53178 e.1 = .ok (e.2.1, pm_len e.2.1 e.2.2) := by decide +kernel
theorem pm_ok223 : pm_okm pmm223 := ⟨pm_d223, by decide +kernel, rfl, fun h => absurd h (by decide), fun _ => pm_wsin (pm_t1 (List.mem_of_getElem? (i := 38) rfl)) rfl⟩
theorem pm_d224_0 : ∀ e ∈ pmk224_0, decode cL_law e.1 = .ok (e.2.1, pm_len e.2.1 e.2.2) := by decide +kernel
theorem pm_d224_1 : ∀ e ∈ pmk224_1, decode cL_law e.1 = .ok (e.2.1, pm_len e.2.1 e.2.2) := by decide +kernel
theorem pm_d224_2 : ∀ e ∈ pmk224_2, decode cL_law e.1 = .ok (e.2.1, pm_len e.2.1 e.2.2) := by decide +kernel
theorem pm_d224_3 : ∀ e ∈ pmk224_3, decode cL_law e.1 = .ok (e.2.1, pm_len e.2.1 e.2.2) := by decide +kernel
theorem pm_d224_4 : ∀ e ∈ pmk224_4, decode cL_law e.1 = .ok (e.2.1, pm_len e.2.1 e.2.2) := by decide +kernel
theorem pm_d224_5 : ∀ e ∈ pmk224_5, decode cL_law e.1 = .ok (e.2.1, pm_len e.2.1 e.2.2) := by decide +kernel
theorem pm_d224_6 : ∀ e ∈ pmk224_6, decode cL_law e.1 = .ok (e.2.1, pm_len e.2.1 e.2.2) := by decide +kernel
theorem pm_d224_7 : ∀ e ∈ pmk224_7, decode cL_law e.1 = .ok (e.2.1, pm_len e.2.1 e.2.2) := by decide +kernel
theorem pm_d224_8 : ∀ e ∈ pmk224_8, decode cL_law e.1 = .ok (e.2.1, pm_len e.2.1 e.2.2) := by decide +kernel
theorem pm_d224_9 : ∀ e ∈ pmk224_9, decode cL_law e.1 = .ok (e.2.1, pm_len e.2.1 e.2.2) := by decide +kernel
theorem pm_d224_10 : ∀ e ∈ pmk224_10, decode cL_law e.1 = .ok (e.2.1, pm_len e.2.1 e.2.2) := by decide +kernel
theorem pm_d224_11 : ∀ e ∈ pmk224_11, decode cL_law e.1 = .ok (e.2.1, pm_len e.2.1 e.2.2) := by decide +kernel
theorem pm_d224_12 : ∀ e ∈ pmk224_12, decode cL_law e.1 = .ok (e.2.1, pm_len e.2.1 e.2.2) := by decide +kernel
theorem pm_d224 : ∀ e ∈ pmk224, decode cL_law e.1 = .ok (e.2.1, pm_len e.2.1 e.2.2) := List.forall_mem_append.mpr ⟨pm_d224_0, List.forall_mem_append.mpr ⟨pm_d224_1, List.forall_mem_append.mpr ⟨pm_d224_2, List.forall_mem_append.mpr ⟨pm_d224_3, List.forall_mem_append.mpr ⟨pm_d224_4, List.forall_mem_append.mpr ⟨pm_d224_5, List.forall_mem_append.mpr ⟨pm_d224_6, List.forall_mem_append.mpr ⟨pm_d224_7, List.forall_mem_append.mpr ⟨pm_d224_8, List.forall_mem_append.mpr ⟨pm_d224_9, List.forall_mem_append.mpr ⟨pm_d224_10, List.forall_mem_append.mpr ⟨pm_d224_11, pm_d224_12⟩⟩⟩⟩⟩⟩⟩⟩⟩⟩⟩⟩
theorem pm_ok224 : pm_okm pmm224 := ⟨pm_d224, by decide +kernel, rfl, fun h => absurd h (by decide), fun h => absurd rfl h⟩
theorem pm_okA : ∀ m, pm_okm (pm_m m) := fun m => by unfold pm_m; exact pm_iteP (pm_iteP (pm_iteP (pm_iteP (pm_iteP (pm_iteP (pm_iteP (pm_ok0) (pm_iteP (pm_ok1) (pm_ok2))) (pm_iteP (pm_iteP (pm_ok3) (pm_ok4)) (pm_iteP (pm_ok5) (pm_ok6)))) (pm_iteP (pm_iteP (pm_ok7) (pm_iteP (pm_ok8) (pm_ok9))) (pm_iteP (pm_iteP (pm_ok10) (pm_ok11)) (pm_iteP (pm_ok12) (pm_ok13))))) (pm_iteP (pm_iteP (pm_iteP (pm_ok14) (pm_iteP (pm_ok15) (pm_ok16))) (pm_iteP (pm_iteP (pm_ok17) (pm_ok18)) (pm_iteP (pm_ok19) (pm_ok20)))) (pm_iteP (pm_iteP (pm_ok21) (pm_iteP (pm_ok22) (pm_ok23))) (pm_iteP (pm_iteP (pm_ok24) (pm_ok25)) (pm_iteP (pm_ok26) (pm_ok27)))))) (pm_iteP (pm_iteP (pm_iteP (pm_iteP (pm_ok28) (pm_iteP (pm_ok29) (pm_ok30))) (pm_iteP (pm_iteP (pm_ok31) (pm_ok32)) (pm_iteP (pm_ok33) (pm_ok34)))) (pm_iteP (pm_iteP (pm_ok35) (pm_iteP (pm_ok36) (pm_ok37))) (pm_iteP (pm_iteP (pm_ok38) (pm_ok39)) (pm_iteP (pm_ok40) (pm_ok41))))) (pm_iteP (pm_iteP (pm_iteP (pm_ok42) (pm_iteP (pm_ok43) (pm_ok44))) (pm_iteP (pm_iteP (pm_ok45) (pm_ok46)) (pm_iteP (pm_ok47) (pm_ok48)))) (pm_iteP (pm_iteP (pm_ok49) (pm_iteP (pm_ok50) (pm_ok51))) (pm_iteP (pm_iteP (pm_ok52) (pm_ok53)) (pm_iteP (pm_ok54) (pm_ok55))))))) (pm_iteP (pm_iteP (pm_iteP (pm_iteP (pm_iteP (pm_ok56) (pm_iteP (pm_ok57) (pm_ok58))) (pm_iteP (pm_iteP (pm_ok59) (pm_ok60)) (pm_iteP (pm_ok61) (pm_ok62)))) (pm_iteP (pm_iteP (pm_ok63) (pm_iteP (pm_ok64) (pm_ok65))) (pm_iteP (pm_iteP (pm_ok66) (pm_ok67)) (pm_iteP (pm_ok68) (pm_ok69))))) (pm_iteP (pm_iteP (pm_iteP (pm_ok70) (pm_iteP (pm_ok71) (pm_ok72))) (pm_iteP (pm_iteP (pm_ok73) (pm_ok74)) (pm_iteP (pm_ok75) (pm_ok76)))) (pm_iteP (pm_iteP (pm_ok77) (pm_iteP (pm_ok78) (pm_ok79))) (pm_iteP (pm_iteP (pm_ok80) (pm_ok81)) (pm_iteP (pm_ok82) (pm_ok83)))))) (pm_iteP (pm_iteP (pm_iteP (pm_iteP (pm_ok84) (pm_iteP (pm_ok85) (pm_ok86))) (pm_iteP (pm_iteP (pm_ok87) (pm_ok88)) (pm_iteP (pm_ok89) (pm_ok90)))) (pm_iteP (pm_iteP (pm_ok91) (pm_iteP (pm_ok92) (pm_ok93))) (pm_iteP (pm_iteP (pm_ok94) (pm_ok95)) (pm_iteP (pm_ok96) (pm_ok97))))) (pm_iteP (pm_iteP (pm_iteP (pm_ok98) (pm_iteP (pm_ok99) (pm_ok100))) (pm_iteP (pm_iteP (pm_ok101) (pm_ok102)) (pm_iteP (pm_ok103) (pm_ok104)))) (pm_iteP (pm_iteP (pm_ok105) (pm_iteP (pm_ok106) (pm_ok107))) (pm_iteP (pm_iteP (pm_ok108) (pm_ok109)) (pm_iteP (pm_ok110) (pm_ok111)))))))) (pm_iteP (pm_iteP (pm_iteP (pm_iteP (pm_iteP (pm_iteP (pm_ok112) (pm_iteP (pm_ok113) (pm_ok114))) (pm_iteP (pm_iteP (pm_ok115) (pm_ok116)) (pm_iteP (pm_ok117) (pm_ok118)))) (pm_iteP (pm_iteP (pm_ok119) (pm_iteP (pm_ok120) (pm_ok121))) (pm_iteP (pm_iteP (pm_ok122) (pm_ok123)) (pm_iteP (pm_ok124) (pm_ok125))))) (pm_iteP (pm_iteP (pm_iteP (pm_ok126) (pm_iteP (pm_ok127) (pm_ok128))) (pm_iteP (pm_iteP (pm_ok129) (pm_ok130)) (pm_iteP (pm_ok131) (pm_ok132)))) (pm_iteP (pm_iteP (pm_ok133) (pm_iteP (pm_ok134) (pm_ok135))) (pm_iteP (pm_iteP (pm_ok136) (pm_ok137)) (pm_iteP (pm_ok138) (pm_ok139)))))) (pm_iteP (pm_iteP (pm_iteP (pm_iteP (pm_ok140) (pm_iteP (pm_ok141) (pm_ok142))) (pm_iteP (pm_iteP (pm_ok143) (pm_ok144)) (pm_iteP (pm_ok145) (pm_ok146)))) (pm_iteP (pm_iteP (pm_ok147) (pm_iteP (pm_ok148) (pm_ok149))) (pm_iteP (pm_iteP (pm_ok150) (pm_ok151)) (pm_iteP (pm_ok152) (pm_ok153))))) (pm_iteP (pm_iteP (pm_iteP (pm_ok154) (pm_iteP (pm_ok155) (pm_ok156))) (pm_iteP (pm_iteP (pm_ok157) (pm_ok158)) (pm_iteP (pm_ok159) (pm_ok160)))) (pm_iteP (pm_iteP (pm_ok161) (pm_iteP (pm_ok162) (pm_ok163))) (pm_iteP (pm_iteP (pm_ok164) (pm_ok165)) (pm_iteP (pm_ok166) (pm_ok167))))))) (pm_iteP (pm_iteP (pm_iteP (pm_iteP (pm_iteP (pm_ok168) (pm_iteP (pm_ok169) (pm_ok170))) (pm_iteP (pm_iteP (pm_ok171) (pm_ok172)) (pm_iteP (pm_ok173) (pm_ok174)))) (pm_iteP (pm_iteP (pm_ok175) (pm_iteP (pm_ok176) (pm_ok177))) (pm_iteP (pm_iteP (pm_ok178) (pm_ok179)) (pm_iteP (pm_ok180) (pm_ok181))))) (pm_iteP (pm_iteP (pm_iteP (pm_ok182) (pm_iteP (pm_ok183) (pm_ok184))) (pm_iteP (pm_iteP (pm_ok185) (pm_ok186)) (pm_iteP (pm_ok187) (pm_ok188)))) (pm_iteP (pm_iteP (pm_ok189) (pm_iteP (pm_ok190) (pm_ok191))) (pm_iteP (pm_iteP (pm_ok192) (pm_ok193)) (pm_iteP (pm_ok194) (pm_ok195)))))) (pm_iteP (pm_iteP (pm_iteP (pm_iteP (pm_ok196) (pm_iteP (pm_ok197) (pm_ok198))) (pm_iteP (pm_iteP (pm_ok199) (pm_ok200)) (pm_iteP (pm_ok201) (pm_ok202)))) (pm_iteP (pm_iteP (pm_ok203) (pm_iteP (pm_ok204) (pm_ok205))) (pm_iteP (pm_iteP (pm_ok206) (pm_ok207)) (pm_iteP (pm_ok208) (pm_ok209))))) (pm_iteP (pm_iteP (pm_iteP (pm_ok210) (pm_iteP (pm_ok211) (pm_ok212))) (pm_iteP (pm_iteP (pm_ok213) (pm_ok214)) (pm_iteP (pm_ok215) (pm_ok216)))) (pm_iteP (pm_iteP (pm_iteP (pm_ok217) (pm_ok218)) (pm_iteP (pm_ok219) (pm_ok220))) (pm_iteP (pm_iteP (pm_ok221) (pm_ok222)) (pm_iteP (pm_ok223) (pm_ok224))))))))
end
section
/-- switches, constants, fields, arrays, makings -/
def pm_upd (f : Nat → Value) (i : Nat) (v : Value) : Nat → Value := fun j => if j = i then v else f j
def pm_okv (ty : FieldType) (v : Value) : Bool := decide (narrow ty v = v) && fits ty v
def pm_mk (t n : Nat) (v : Value) : pmC := (t, n, fun _ => v)
def pm_rows (t n b : Nat) : pmC := (t, n, fun i => .ref (b + i))
def pm_obj (ci n : Nat) : pmC := (ci, n, fun f => defaultValue (pm_ty ci f))
def pm_stepB (X : pmX) (m : Nat) (i : Instr) (pc : Nat) (ls : pmL) (st : List Value) (h : pmH) (c k : Nat) : Option pmS :=
  match i with
  | .tableswitch dflt lo hi offs => match st with
    | .int x :: r =>
      if x.toInt < lo ∨ hi < x.toInt then (match pm_tgt pc dflt with
        | some t => some (t, ls, r, h, c, k)
        | none => none)
      else match offs[(x.toInt - lo).toNat]? with
        | some off => (match pm_tgt pc off with
          | some t => some (t, ls, r, h, c, k)
          | none => none)
        | none => none
    | _ => none
  | .lookupswitch dflt ps => match st with
    | .int x :: r =>
      if (ps.toList.zip (ps.toList.drop 1)).all (fun (a, next) => a.1 < next.1) = true then (match pm_tgt pc (Op.lookupswitch.offset ps.toList dflt x.toInt) with
        | some t => some (t, ls, r, h, c, k)
        | none => none)
      else none
    | _ => none
  | .ldc j => match pm_look (pm_cons (pm_oc m)) j with
    | some (.int x) => some (pc + 2, ls, .int x :: st, h, c, k)
    | some (.ref x) => some (pc + 2, ls, .ref x :: st, h, c, k)
    | _ => none
  | .ldc2_w j => match pm_look (pm_cons (pm_oc m)) j with
    | some (.long x) => some (pc + 3, ls, .long x :: st, h, c, k)
    | _ => none
  | .getfield j => match st with
    | .ref q :: r => match pm_fld m j, h[q]? with
      | some (ci, f), some (t, _, g) => if ci = t then some (pc + 3, ls, g f :: r, h, c, k) else none
      | _, _ => none
    | _ => none
  | .putfield j => match st with
    | v :: .ref q :: r => match pm_fld m j, h[q]? with
      | some (ci, f), some (t, n, g) =>
        if ci = t ∧ pm_okv (pm_ty ci f) v = true ∧ ((pm_fin ci f = false) ∨ (pm_in m = 1 ∧ ci = pm_oc m)) then some (pc + 3, ls, r, h.set q (t, n, pm_upd g f v), c, k) else none
      | _, _ => none
    | _ => none
  | .iaload => match st with
    | .int j :: .ref q :: r =>
      if q = 2000 then (match X with
        | some x => if pm_ix j x.1 = true then some (pc + 1, ls, .int (x.2 j.toNatClampNeg) :: r, h, c, k) else none
        | none => none)
      else match h[q]? with
        | some (t, n, f) => if t = 20 ∧ pm_ix j n = true then some (pc + 1, ls, f j.toNatClampNeg :: r, h, c, k) else none
        | none => none
    | _ => none
  | .laload => match st with
    | .int j :: .ref q :: r => match h[q]? with
      | some (t, n, f) => if t = 21 ∧ pm_ix j n = true then some (pc + 1, ls, f j.toNatClampNeg :: r, h, c, k) else none
      | none => none
    | _ => none
  | .baload => match st with
    | .int j :: .ref q :: r => match h[q]? with
      | some (t, n, f) => if t = 22 ∧ pm_ix j n = true then some (pc + 1, ls, f j.toNatClampNeg :: r, h, c, k) else none
      | none => none
    | _ => none
  | .aaload => match st with
    | .int j :: .ref q :: r => match h[q]? with
      | some (t, n, f) => if (t = 23 ∨ t = 24) ∧ pm_ix j n = true then some (pc + 1, ls, f j.toNatClampNeg :: r, h, c, k) else none
      | none => none
    | _ => none
  | .iastore => match st with
    | .int x :: .int j :: .ref q :: r => match h[q]? with
      | some (t, n, f) => if t = 20 ∧ pm_ix j n = true then some (pc + 1, ls, r, h.set q (t, n, pm_upd f j.toNatClampNeg (.int x)), c, k) else none
      | none => none
    | _ => none
  | .lastore => match st with
    | .long x :: .int j :: .ref q :: r => match h[q]? with
      | some (t, n, f) => if t = 21 ∧ pm_ix j n = true then some (pc + 1, ls, r, h.set q (t, n, pm_upd f j.toNatClampNeg (.long x)), c, k) else none
      | none => none
    | _ => none
  | .bastore => match st with
    | .int x :: .int j :: .ref q :: r => match h[q]? with
      | some (t, n, f) => if t = 22 ∧ pm_ix j n = true then some (pc + 1, ls, r, h.set q (t, n, pm_upd f j.toNatClampNeg (.int (x &&& 1))), c, k) else none
      | none => none
    | _ => none
  | .arraylength => match st with
    | .ref q :: r =>
      if q = 2000 then (match X with
        | some x => some (pc + 1, ls, .int (Int32.ofNat x.1) :: r, h, c, k)
        | none => none)
      else match h[q]? with
        | some (t, n, _) => if t = 20 ∨ t = 21 then some (pc + 1, ls, .int (Int32.ofNat n) :: r, h, c, k) else none
        | none => none
    | _ => none
  | .new j => match pm_look (pm_news (pm_oc m)) j with
    | some ci => match pm_cl[ci]? with
      | some q => if c + 1 ≤ pm_mc m ∧ k + q.2.2 ≤ pm_ms m ∧ h.length < 900 then some (pc + 3, ls, .ref h.length :: st, h ++ [pm_obj ci q.2.2], c + 1, k + q.2.2) else none
      | none => none
    | none => none
  | .newarray ty => match st with
    | .int n :: r =>
      if 0 ≤ n ∧ n.toNatClampNeg ≤ 100000 ∧ c + 1 ≤ pm_mc m ∧ k + n.toNatClampNeg ≤ pm_ms m ∧ h.length < 900 then (match ty with
        | .int => some (pc + 2, ls, .ref h.length :: r, h ++ [pm_mk 20 n.toNatClampNeg (.int 0)], c + 1, k + n.toNatClampNeg)
        | .long => some (pc + 2, ls, .ref h.length :: r, h ++ [pm_mk 21 n.toNatClampNeg (.long 0)], c + 1, k + n.toNatClampNeg)
        | .boolean => some (pc + 2, ls, .ref h.length :: r, h ++ [pm_mk 22 n.toNatClampNeg (.int 0)], c + 1, k + n.toNatClampNeg)
        | _ => none)
      else none
    | _ => none
  | .multianewarray j d => match st with
    | .int k1 :: .int n1 :: r => match pm_look (pm_mnas (pm_oc m)) j with
      | some t =>
        if d = 2 ∧ 0 ≤ n1 ∧ 0 ≤ k1 ∧ n1.toNatClampNeg ≤ 1000 ∧ k1.toNatClampNeg ≤ 1000 ∧ c + (1 + n1.toNatClampNeg) ≤ pm_mc m ∧ k + (n1.toNatClampNeg + n1.toNatClampNeg * k1.toNatClampNeg) ≤ pm_ms m ∧ h.length < 900 ∧ (t = 20 ∨ t = 21) then
          some (pc + 4, ls, .ref h.length :: r, h ++ (pm_rows (t + 3) n1.toNatClampNeg (h.length + 1) :: List.replicate n1.toNatClampNeg (pm_mk t k1.toNatClampNeg (if t = 20 then .int 0 else .long 0))), c + 1 + n1.toNatClampNeg, k + n1.toNatClampNeg + n1.toNatClampNeg * k1.toNatClampNeg)
        else none
      | none => none
    | _ => none
  | _ => none
def pm_step (X : pmX) (m : Nat) (i : Instr) (pc : Nat) (ls : pmL) (st : List Value) (h : pmH) (c k : Nat) : Option pmS :=
  match pm_stepA m i pc ls st h c k with
  | some r => some r
  | none => pm_stepB X m i pc ls st h c k
/-- the end of a method -/
def pm_end (m : Nat) (i : Instr) (st : List Value) : Option (Option Value) :=
  match i with
  | .ireturn => match st, pm_ret m with
    | [.int v], some .int => some (some (.int v))
    | [.int v], some .boolean => if v &&& 1 = v then some (some (.int v)) else none
    | _, _ => none
  | .lreturn => match st, pm_ret m with
    | [.long v], some .long => some (some (.long v))
    | _, _ => none
  | .return_ => match st, pm_ret m with
    | [], none => some none
    | _, _ => none
  | _ => none
/-- a call: who is called (objInit: none), with what, what stays on the stack -/
def pm_inv (m : Nat) (i : Instr) (st : List Value) (h : pmH) (c k : Nat) : Option (Option Nat × List Value × List Value) :=
  let j : Option (Nat × Nat) := match i with
    | .invokevirtual j => some (j, 0)
    | .invokestatic j => some (j, 1)
    | .invokespecial j => some (j, 2)
    | _ => none
  match j with
  | none => none
  | some (j, op) => match pm_look (pm_calls (pm_oc m)) j with
    | none => none
    | some (y, kind, n) =>
      if kind = 3 then (if op = 2 ∧ 1 ≤ pm_fr m then match st with
        | .ref q :: r => if (r.map fun v => v.category).sum + 12 ≤ pm_lo m then some (none, [.ref q], r) else none
        | _ => none
        else none)
      else if kind % 10 = op ∧ n ≤ st.length ∧ pm_fr y + 1 ≤ pm_fr m ∧ 8 + (pm_maxL y + 11) + pm_lo y ≤ pm_lo m ∧ c + pm_mc y ≤ pm_mc m ∧ k + pm_ms y ≤ pm_ms m then
        let as := (st.take n).reverse
        if op = 1 then (if ((st.drop n).map fun v => v.category).sum ≤ 8 ∧ (as.map fun v => v.category).sum ≤ pm_maxL y ∧ pm_oc y < 15 then some (some y, as, st.drop n) else none)
        else match st.drop n with
          | .ref q :: r => match h[q]? with
            | some (t, _, _) => if t = pm_oc y ∧ t < 12 ∧ (r.map fun v => v.category).sum ≤ 8 ∧ 1 + (as.map fun v => v.category).sum ≤ pm_maxL y then some (some y, .ref q :: as, r) else none
            | none => none
          | _ => none
      else none
def pm_exec : pmX → Nat → Nat → Nat → pmL → List Value → pmH → Nat → Nat → Option (pmH × Option Value)
  | _, 0, _, _, _, _, _, _, _ => none
  | X, n + 1, m, pc, ls, st, h, c, k =>
    match pm_look (pm_kl m) pc with
    | none => none
    | some (i, len) => match pm_end m i st with
      | some r => some (h, r)
      | none => match pm_inv m i st h c k with
        | some (some y, as, rest) => match pm_exec none n y 0 (lv_args 0 as) [] h 0 0 with
          | some (h', r) => pm_exec X n m (pc + 3) ls (r.toList ++ rest) h' (c + pm_mc y) (k + pm_ms y)
          | none => none
        | some (none, _, rest) => pm_exec X n m (pc + 3) ls rest h c k
        | none => match pm_step X m i pc ls st h c k with
          | some (pc', ls', st', h', c', k') => pm_exec X n m pc' ls' st' h' c' k'
          | none => none
/-- a whole call -/
def pm_call (X : pmX) (n y : Nat) (as : List Value) (h : pmH) : Option (pmH × Option Value) := pm_exec X n y 0 (lv_args 0 as) [] h 0 0
end
section
/-! THE PURE MACHINE IS SOUND: its steps are the machine's -/
def pm_ad (b : Nat) (sa : Nat → Nat) (k : Nat) : Nat := if k < 2000 then b + k else sa (k - 2000)
def pm_cv (b : Nat) (sa : Nat → Nat) (v : Value) : Value := match v with
  | .ref k => .ref (pm_ad b sa k)
  | .int x => .int x
  | .long x => .long x
  | .float x => .float x
  | .double x => .double x
  | .null => .null
  | .retAddr x => .retAddr x
abbrev pm_cs (b : Nat) (sa : Nat → Nat) (st : List Value) : List Value := st.map (pm_cv b sa)
abbrev pm_lc (b : Nat) (sa : Nat → Nat) (ls : pmL) : pmL := ls.map (fun q => (q.1, pm_cv b sa q.2))
theorem pm_cv_cat (b : Nat) (sa : Nat → Nat) (v : Value) : (pm_cv b sa v).category = v.category := by cases v <;> rfl
theorem pm_get_at {b : Nat} {sa : Nat → Nat} {ls : Array Slot} {nL : Nat} {lv : pmL} {i : Nat} {v : Value} (hl : lv_has ls nL (pm_lc b sa lv)) (h : pm_get lv i = some v) : ls[i]? = some (.val (pm_cv b sa v)) := hl.2.2 (i, pm_cv b sa v) (List.mem_map.mpr ⟨(i, v), pm_look_mem h, rfl⟩)
theorem pm_st1_lc (b : Nat) (sa : Nat → Nat) (lv : pmL) (i : Nat) (v : Value) : (i, pm_cv b sa v) :: (pm_lc b sa lv).filter (fun q => !(q.1 == i) && !(q.1 + 1 == i && q.2.category == 2)) = pm_lc b sa (pm_st1 lv i v) := by
  unfold pm_st1 pm_lc
  rw [List.map_cons, List.filter_map]
  congr 3
  funext q
  simp only [Function.comp, pm_cv_cat]
theorem pm_st2_lc (b : Nat) (sa : Nat → Nat) (lv : pmL) (i : Nat) (v : Value) : (i, pm_cv b sa v) :: (pm_lc b sa lv).filter (fun q => !(q.1 == i) && (!(q.1 == i + 1) && !(q.1 + 1 == i && q.2.category == 2))) = pm_lc b sa (pm_st2 lv i v) := by
  unfold pm_st2 pm_lc
  rw [List.map_cons, List.filter_map]
  congr 3
  funext q
  simp only [Function.comp, pm_cv_cat]
theorem pm_tgt_ok {pc : Nat} {off : Int} {t : Nat} (h : pm_tgt pc off = some t) : (pc : Int) + off = (t : Int) := by
  unfold pm_tgt at h
  split at h
  · next q hq => cases h; exact hq
  · cases h
theorem pm_br_ok {bb : Bool} {pc : Nat} {off : Int} {ls : pmL} {st : List Value} {h : pmH} {c k : Nat} {r : pmS} (hs : pm_br bb pc off ls st h c k = some r) : ∃ t : Nat, (pc : Int) + off = (t : Int) ∧ r = (cond bb t (pc + 3), ls, st, h, c, k) := by
  unfold pm_br at hs
  split at hs
  · next t ht => exact ⟨t, pm_tgt_ok ht, (Option.some.inj hs).symm⟩
  · cases hs
section PMA
variable {p : Program} {l : Launch} {e : Env} {R : Room} {s : State} {mi : MethodId} {args : Array Value} {below : List Frame} {meth : Method} {co : Code} {H : Heap} {locs : List Loc} {Q : State → Prop}
variable {b : Nat} {sa : Nat → Nat} {m pc len : Nat} {lv lv' : pmL} {st st' : List Value} {h h' : pmH} {c k c' k' pc' : Nat} {ls : Array Slot} {cc : ByteArray}
set_option maxHeartbeats 4000000 in
theorem pm_stA {i : Instr} (hx : p.tables.exec = Jvm.exec) (hb : co.code = cc) (hdec : decode cc pc = .ok (i, pm_len i len)) (hl : lv_has ls (pm_maxL m) (pm_lc b sa lv))
    (hs : pm_stepA m i pc lv st h c k = some (pc', lv', st', h', c', k')) :
    (h' = h ∧ c' = c ∧ k' = k) ∧ ((∀ ls', lv_has ls' (pm_maxL m) (pm_lc b sa lv') → W p l e R s mi args below meth co H locs c k Q (F0 mi pc' ls' (pm_cs b sa st'))) → W p l e R s mi args below meth co H locs c k Q (F0 mi pc ls (pm_cs b sa st))) := by
  cases i
  case iconst n => simp only [pm_stepA] at hs; cases hs; exact ⟨⟨rfl, rfl, rfl⟩, fun hk => lv_iconst hx hb hdec rfl (hk _ hl)⟩
  case bipush n => simp only [pm_stepA] at hs; cases hs; exact ⟨⟨rfl, rfl, rfl⟩, fun hk => lv_bipush hx hb hdec rfl (hk _ hl)⟩
  case sipush n => simp only [pm_stepA] at hs; cases hs; exact ⟨⟨rfl, rfl, rfl⟩, fun hk => lv_sipush hx hb hdec rfl (hk _ hl)⟩
  case lconst n => simp only [pm_stepA] at hs; cases hs; exact ⟨⟨rfl, rfl, rfl⟩, fun hk => lv_lconst hx hb hdec rfl (hk _ hl)⟩
  case iload_n j =>
    simp only [pm_stepA] at hs; split at hs
    · next x hg => cases hs; exact ⟨⟨rfl, rfl, rfl⟩, fun hk => lv_iload_n hx hb hdec rfl (pm_get_at hl hg) (hk _ hl)⟩
    · cases hs
  case iload j =>
    simp only [pm_stepA] at hs; split at hs
    · next x hg => cases hs; exact ⟨⟨rfl, rfl, rfl⟩, fun hk => lv_iload hx hb hdec (pm_get_at hl hg) (hk _ hl)⟩
    · cases hs
  case lload_n j =>
    simp only [pm_stepA] at hs; split at hs
    · next x hg => cases hs; exact ⟨⟨rfl, rfl, rfl⟩, fun hk => lv_lload_n hx hb hdec rfl (pm_get_at hl hg) (hk _ hl)⟩
    · cases hs
  case lload j =>
    simp only [pm_stepA] at hs; split at hs
    · next x hg => cases hs; exact ⟨⟨rfl, rfl, rfl⟩, fun hk => lv_lload hx hb hdec (pm_get_at hl hg) (hk _ hl)⟩
    · cases hs
  case aload_n j =>
    simp only [pm_stepA] at hs; split at hs
    · next x hg => cases hs; exact ⟨⟨rfl, rfl, rfl⟩, fun hk => lv_aload_n hx hb hdec rfl (pm_get_at hl hg) (hk _ hl)⟩
    · cases hs
  case aload j =>
    simp only [pm_stepA] at hs; split at hs
    · next x hg => cases hs; exact ⟨⟨rfl, rfl, rfl⟩, fun hk => lv_aload hx hb hdec (pm_get_at hl hg) (hk _ hl)⟩
    · cases hs
  case istore_n j =>
    simp only [pm_stepA] at hs; split at hs
    · next x r => split at hs
                  · next hn => cases hs; exact ⟨⟨rfl, rfl, rfl⟩, fun hk => lv_istore_n hx hb hdec rfl hl hn (pm_st1_lc b sa lv j (.int x)) (fun ls' hl' => hk ls' hl')⟩
                  · cases hs
    · cases hs
  case istore j =>
    simp only [pm_stepA] at hs; split at hs
    · next x r => split at hs
                  · next hn => cases hs; exact ⟨⟨rfl, rfl, rfl⟩, fun hk => lv_istore hx hb hdec hl hn (pm_st1_lc b sa lv j (.int x)) (fun ls' hl' => hk ls' hl')⟩
                  · cases hs
    · cases hs
  case lstore_n j =>
    simp only [pm_stepA] at hs; split at hs
    · next x r => split at hs
                  · next hn => cases hs; exact ⟨⟨rfl, rfl, rfl⟩, fun hk => lv_lstore_n hx hb hdec rfl hl hn (pm_st2_lc b sa lv j (.long x)) (fun ls' hl' => hk ls' hl')⟩
                  · cases hs
    · cases hs
  case lstore j =>
    simp only [pm_stepA] at hs; split at hs
    · next x r => split at hs
                  · next hn => cases hs; exact ⟨⟨rfl, rfl, rfl⟩, fun hk => lv_lstore hx hb hdec hl hn (pm_st2_lc b sa lv j (.long x)) (fun ls' hl' => hk ls' hl')⟩
                  · cases hs
    · cases hs
  case astore_n j =>
    simp only [pm_stepA] at hs; split at hs
    · next x r => split at hs
                  · next hn => cases hs; exact ⟨⟨rfl, rfl, rfl⟩, fun hk => lv_astore_n hx hb hdec rfl hl hn (pm_st1_lc b sa lv j (.ref x)) (fun ls' hl' => hk ls' hl')⟩
                  · cases hs
    · cases hs
  case astore j =>
    simp only [pm_stepA] at hs; split at hs
    · next x r => split at hs
                  · next hn => cases hs; exact ⟨⟨rfl, rfl, rfl⟩, fun hk => lv_astore hx hb hdec hl hn (pm_st1_lc b sa lv j (.ref x)) (fun ls' hl' => hk ls' hl')⟩
                  · cases hs
    · cases hs
  case iinc j n =>
    simp only [pm_stepA] at hs; split at hs
    · next x hg => split at hs
                   · next hn =>
                     cases hs
                     obtain ⟨kq, hkq⟩ := List.getElem?_of_mem (List.mem_map.mpr ⟨(j, .int x), pm_look_mem hg, rfl⟩ : (j, pm_cv b sa (.int x)) ∈ pm_lc b sa lv)
                     exact ⟨⟨rfl, rfl, rfl⟩, fun hk => lv_iinc hx hb hdec hl hkq rfl hn (pm_st1_lc b sa lv j (.int (x + Int32.ofInt n))) (fun ls' hl' => hk ls' hl')⟩
                   · cases hs
    · cases hs
  case dup =>
    simp only [pm_stepA] at hs; split at hs
    · cases hs; exact ⟨⟨rfl, rfl, rfl⟩, fun hk => lv_dup hx hb hdec rfl (hk _ hl)⟩
    · cases hs; exact ⟨⟨rfl, rfl, rfl⟩, fun hk => lv_dup hx hb hdec rfl (hk _ hl)⟩
    · cases hs
  case dup2 =>
    simp only [pm_stepA] at hs; split at hs
    · cases hs; exact ⟨⟨rfl, rfl, rfl⟩, fun hk => lv_dup2_11 hx hb hdec rfl rfl (hk _ hl)⟩
    · cases hs
  case iadd => simp only [pm_stepA] at hs; split at hs; · cases hs; exact ⟨⟨rfl, rfl, rfl⟩, fun hk => lv_iadd hx hb hdec (hk _ hl)⟩
               · cases hs
  case isub => simp only [pm_stepA] at hs; split at hs; · cases hs; exact ⟨⟨rfl, rfl, rfl⟩, fun hk => lv_isub hx hb hdec (hk _ hl)⟩
               · cases hs
  case imul => simp only [pm_stepA] at hs; split at hs; · cases hs; exact ⟨⟨rfl, rfl, rfl⟩, fun hk => lv_imul hx hb hdec (hk _ hl)⟩
               · cases hs
  case idiv =>
    simp only [pm_stepA] at hs; split at hs
    · split at hs
      · cases hs
      · next hz => cases hs; exact ⟨⟨rfl, rfl, rfl⟩, fun hk => lv_idiv hx hb hdec hz (hk _ hl)⟩
    · cases hs
  case irem =>
    simp only [pm_stepA] at hs; split at hs
    · split at hs
      · cases hs
      · next hz => cases hs; exact ⟨⟨rfl, rfl, rfl⟩, fun hk => lv_irem hx hb hdec hz (hk _ hl)⟩
    · cases hs
  case iand => simp only [pm_stepA] at hs; split at hs; · cases hs; exact ⟨⟨rfl, rfl, rfl⟩, fun hk => lv_iand hx hb hdec (hk _ hl)⟩
               · cases hs
  case ior => simp only [pm_stepA] at hs; split at hs; · cases hs; exact ⟨⟨rfl, rfl, rfl⟩, fun hk => lv_ior hx hb hdec (hk _ hl)⟩
              · cases hs
  case ishl => simp only [pm_stepA] at hs; split at hs; · cases hs; exact ⟨⟨rfl, rfl, rfl⟩, fun hk => lv_ishl hx hb hdec (hk _ hl)⟩
               · cases hs
  case ishr => simp only [pm_stepA] at hs; split at hs; · cases hs; exact ⟨⟨rfl, rfl, rfl⟩, fun hk => lv_ishr hx hb hdec (hk _ hl)⟩
               · cases hs
  case iushr => simp only [pm_stepA] at hs; split at hs; · cases hs; exact ⟨⟨rfl, rfl, rfl⟩, fun hk => lv_iushr hx hb hdec rfl (hk _ hl)⟩
                · cases hs
  case ladd => simp only [pm_stepA] at hs; split at hs; · cases hs; exact ⟨⟨rfl, rfl, rfl⟩, fun hk => lv_ladd hx hb hdec (hk _ hl)⟩
               · cases hs
  case lsub => simp only [pm_stepA] at hs; split at hs; · cases hs; exact ⟨⟨rfl, rfl, rfl⟩, fun hk => lv_lsub hx hb hdec (hk _ hl)⟩
               · cases hs
  case lmul => simp only [pm_stepA] at hs; split at hs; · cases hs; exact ⟨⟨rfl, rfl, rfl⟩, fun hk => lv_lmul hx hb hdec (hk _ hl)⟩
               · cases hs
  case land => simp only [pm_stepA] at hs; split at hs; · cases hs; exact ⟨⟨rfl, rfl, rfl⟩, fun hk => lv_land hx hb hdec (hk _ hl)⟩
               · cases hs
  case lor => simp only [pm_stepA] at hs; split at hs; · cases hs; exact ⟨⟨rfl, rfl, rfl⟩, fun hk => lv_lor hx hb hdec (hk _ hl)⟩
              · cases hs
  case lxor => simp only [pm_stepA] at hs; split at hs; · cases hs; exact ⟨⟨rfl, rfl, rfl⟩, fun hk => lv_lxor hx hb hdec (hk _ hl)⟩
               · cases hs
  case lshl => simp only [pm_stepA] at hs; split at hs; · cases hs; exact ⟨⟨rfl, rfl, rfl⟩, fun hk => lv_lshl hx hb hdec rfl (hk _ hl)⟩
               · cases hs
  case lshr => simp only [pm_stepA] at hs; split at hs; · cases hs; exact ⟨⟨rfl, rfl, rfl⟩, fun hk => lv_lshr hx hb hdec rfl (hk _ hl)⟩
               · cases hs
  case lushr => simp only [pm_stepA] at hs; split at hs; · cases hs; exact ⟨⟨rfl, rfl, rfl⟩, fun hk => lv_lushr hx hb hdec rfl (hk _ hl)⟩
                · cases hs
  case i2l => simp only [pm_stepA] at hs; split at hs; · cases hs; exact ⟨⟨rfl, rfl, rfl⟩, fun hk => lv_i2l hx hb hdec rfl (hk _ hl)⟩
              · cases hs
  case l2i => simp only [pm_stepA] at hs; split at hs; · cases hs; exact ⟨⟨rfl, rfl, rfl⟩, fun hk => lv_l2i hx hb hdec rfl (hk _ hl)⟩
              · cases hs
  case lcmp => simp only [pm_stepA] at hs; split at hs; · cases hs; exact ⟨⟨rfl, rfl, rfl⟩, fun hk => W.lcmp hx hb hdec (hk _ hl)⟩
               · cases hs
  case goto off =>
    simp only [pm_stepA] at hs; split at hs
    · next t ht => cases hs; exact ⟨⟨rfl, rfl, rfl⟩, fun hk => lv_goto hx hb hdec (pm_tgt_ok ht) (hk _ hl)⟩
    · cases hs
  case if_icmp cd off =>
    simp only [pm_stepA] at hs; split at hs
    · next y x r =>
      cases cd <;> (simp only at hs; obtain ⟨t, ht, he⟩ := pm_br_ok hs; cases he; refine ⟨⟨rfl, rfl, rfl⟩, fun hk => ?_⟩)
      · exact lv_icmp_eq hx hb hdec ht (fun hc => by have q := hk _ hl; rw [decide_eq_true hc] at q; exact q) (fun hc => by have q := hk _ hl; rw [decide_eq_false hc] at q; exact q)
      · exact lv_icmp_ne hx hb hdec ht (fun hc => by have q := hk _ hl; rw [decide_eq_true hc] at q; exact q) (fun hc => by have q := hk _ hl; rw [decide_eq_false (fun hn => hn hc)] at q; exact q)
      · exact lv_icmp_lt hx hb hdec ht (fun hc => by have q := hk _ hl; rw [decide_eq_true hc] at q; exact q) (fun hc => by have q := hk _ hl; rw [decide_eq_false hc] at q; exact q)
      · exact lv_icmp_ge hx hb hdec ht (fun hc => by have q := hk _ hl; rw [decide_eq_true hc] at q; exact q) (fun hc => by have q := hk _ hl; rw [decide_eq_false hc] at q; exact q)
      · exact lv_icmp_gt hx hb hdec ht (fun hc => by have q := hk _ hl; rw [decide_eq_true hc] at q; exact q) (fun hc => by have q := hk _ hl; rw [decide_eq_false hc] at q; exact q)
      · exact lv_icmp_le hx hb hdec ht (fun hc => by have q := hk _ hl; rw [decide_eq_true hc] at q; exact q) (fun hc => by have q := hk _ hl; rw [decide_eq_false hc] at q; exact q)
    · cases hs
  case ifCond cd off =>
    simp only [pm_stepA] at hs; split at hs
    · next x r =>
      cases cd <;> (simp only at hs; obtain ⟨t, ht, he⟩ := pm_br_ok hs; cases he; refine ⟨⟨rfl, rfl, rfl⟩, fun hk => ?_⟩)
      · exact lv_if_eq hx hb hdec ht (fun hc => by have q := hk _ hl; rw [decide_eq_true hc] at q; exact q) (fun hc => by have q := hk _ hl; rw [decide_eq_false hc] at q; exact q)
      · exact lv_if_ne hx hb hdec ht (fun hc => by have q := hk _ hl; rw [decide_eq_true hc] at q; exact q) (fun hc => by have q := hk _ hl; rw [decide_eq_false (fun hn => hn hc)] at q; exact q)
      · exact lv_if_lt hx hb hdec ht (fun hc => by have q := hk _ hl; rw [decide_eq_true hc] at q; exact q) (fun hc => by have q := hk _ hl; rw [decide_eq_false hc] at q; exact q)
      · exact lv_if_ge hx hb hdec ht (fun hc => by have q := hk _ hl; rw [decide_eq_true hc] at q; exact q) (fun hc => by have q := hk _ hl; rw [decide_eq_false hc] at q; exact q)
      · exact lv_if_gt hx hb hdec ht (fun hc => by have q := hk _ hl; rw [decide_eq_true hc] at q; exact q) (fun hc => by have q := hk _ hl; rw [decide_eq_false hc] at q; exact q)
      · exact lv_if_le hx hb hdec ht (fun hc => by have q := hk _ hl; rw [decide_eq_true hc] at q; exact q) (fun hc => by have q := hk _ hl; rw [decide_eq_false hc] at q; exact q)
    · cases hs
  all_goals exact absurd hs (by simp [pm_stepA])
end PMA
end
section
/-! the heap: numbered cells stand at b, b + 1 .. -/
def pm_aty (t : Nat) : FieldType := match t with
  | 20 => .int
  | 21 => .long
  | 22 => .boolean
  | 23 => .array .int
  | _ => .array .long
def pm_at (D : va_G) (cA : Nat → ClassId) (b : Nat) (sa : Nat → Nat) (q : Nat) (x : pmC) (H : Heap) : Prop :=
  (x.1 < 20 ∧ ∃ r : vw_C, pm_cl[x.1]? = some r ∧ t_OB (b + q) (D.1 x.1) r.2.2 (D.2 x.1) H (fun k => pm_cv b sa (x.2.2 k))) ∨ (20 ≤ x.1 ∧ x.1 < 25 ∧ H[b + q]? = some (arrV (cA x.1) x.2.1 (fun j => pm_cv b sa (x.2.2 j))))
def pm_Wd (D : va_G) (cA : Nat → ClassId) (b : Nat) (sa : Nat → Nat) (h : pmH) (H : Heap) : Prop := H.size = b + h.length ∧ h.length ≤ 2000 ∧ ∀ (q : Nat) (x : pmC), h[q]? = some x → pm_at D cA b sa q x H
def pm_K (D : va_G) (cA : Nat → ClassId) (sa : Nat → Nat) (U : State) : Prop :=
  (∀ (c : Nat) (q : vw_C), pm_cl[c]? = some q → u_Kn U q.1 q.2.1 q.2.2 (D.1 c) (D.2 c)) ∧
  (∀ t, 20 ≤ t → t < 25 → ArrOfT U (cA t) (pm_aty t) ∧ U.vm.findClass ("[" ++ (pm_aty t).toString) = some (cA t)) ∧
  (∀ e ∈ pm_nest, va_Nw (pm_wn e) U) ∧
  (∀ t, (Cond.arrayOver (.array (pm_aty t))).before #[] U = true ∨ ¬ (t = 20 ∨ t = 21)) ∧
  (∀ (j : Nat) (q : Nat × Nat × String), pm_strs[j]? = some q → vk_R (pm_own q.1) q.2.1 q.2.2 (sa (j + 1)) U)
/-- what was there before: not changed; what is written lies at b or behind -/
def pm_Sv (b : Nat) (H0 H : Heap) (locs : List Loc) : Prop := (∀ q : Nat, q < b → H[q]? = H0[q]?) ∧ ∀ l ∈ locs, b ≤ l.base
section PMB
variable {D : va_G} {cA : Nat → ClassId} {b : Nat} {sa : Nat → Nat}
theorem pm_at.kept {q : Nat} {x : pmC} {H H1 : Heap} (h : pm_at D cA b sa q x H) (hq : H1[b + q]? = H[b + q]?) : pm_at D cA b sa q x H1 := by
  rcases h with ⟨h1, r, h2, h3⟩ | ⟨h1, h2, h3⟩
  · exact Or.inl ⟨h1, r, h2, h3.kept hq⟩
  · exact Or.inr ⟨h1, h2, hq.trans h3⟩
theorem pm_Wd.lt {h : pmH} {H : Heap} {q : Nat} {x : pmC} (hW : pm_Wd D cA b sa h H) (hq : h[q]? = some x) : q < h.length ∧ q < 2000 ∧ pm_ad b sa q = b + q := by
  have h1 : q < h.length := (List.getElem?_eq_some_iff.mp hq).1
  have h2 : q < 2000 := Nat.lt_of_lt_of_le h1 hW.2.1
  exact ⟨h1, h2, if_pos h2⟩
theorem pm_Wd.set {h : pmH} {H H1 : Heap} {q : Nat} {x x' : pmC} (hW : pm_Wd D cA b sa h H) (hq : h[q]? = some x) (hat : pm_at D cA b sa q x' H1) (hz : H1.size = H.size) (ho : ∀ a : Nat, a ≠ b + q → H1[a]? = H[a]?) : pm_Wd D cA b sa (h.set q x') H1 := by
  have hl := (List.getElem?_eq_some_iff.mp hq).1
  refine ⟨by rw [hz, hW.1, List.length_set], by rw [List.length_set]; exact hW.2.1, fun q2 y hy => ?_⟩
  by_cases he : q2 = q
  · subst he
    rw [List.getElem?_set_self hl] at hy
    cases hy
    exact hat
  · rw [List.getElem?_set_ne (Ne.symm he)] at hy
    exact (hW.2.2 q2 y hy).kept (ho _ (by omega))
theorem pm_Wd.app {h l : pmH} {H H1 : Heap} (hW : pm_Wd D cA b sa h H) (hl : h.length + l.length ≤ 2000) (hz : H1.size = H.size + l.length) (ho : ∀ a : Nat, a < H.size → H1[a]? = H[a]?) (hn : ∀ (j : Nat) (x : pmC), l[j]? = some x → pm_at D cA b sa (h.length + j) x H1) : pm_Wd D cA b sa (h ++ l) H1 := by
  refine ⟨by rw [hz, hW.1, List.length_append]; omega, by rw [List.length_append]; exact hl, fun q y hy => ?_⟩
  by_cases hq : q < h.length
  · rw [List.getElem?_append_left hq] at hy
    exact (hW.2.2 q y hy).kept (ho _ (by rw [hW.1]; omega))
  · rw [List.getElem?_append_right (by omega)] at hy
    have := hn _ y hy
    rwa [show h.length + (q - h.length) = q by omega] at this
theorem pm_Sv.put {H0 H H1 : Heap} {locs : List Loc} {q k : Nat} (h : pm_Sv b H0 H locs) (ho : ∀ a : Nat, a ≠ b + q → H1[a]? = H[a]?) : pm_Sv b H0 H1 (locs ++ [⟨b + q, k⟩]) := by
  refine ⟨fun a ha => (ho a (by omega)).trans (h.1 a ha), fun l hl => ?_⟩
  rcases List.mem_append.mp hl with h1 | h1
  · exact h.2 l h1
  · rw [List.mem_singleton] at h1
    subst h1
    exact Nat.le_add_right _ _
theorem pm_ix_ok {i : Int32} {n : Nat} (h : pm_ix i n = true) : ¬ (i < 0 ∨ n ≤ i.toNatClampNeg) := by
  simp only [pm_ix, Bool.and_eq_true, decide_eq_true_eq] at h
  rintro (h1 | h1)
  · have := h.1
    rw [Int32.le_iff_toInt_le] at this
    rw [Int32.lt_iff_toInt_lt] at h1
    omega
  · omega
theorem pm_ix_lt {i : Int32} {n : Nat} (h : pm_ix i n = true) : i.toNatClampNeg < n := by
  simp only [pm_ix, Bool.and_eq_true, decide_eq_true_eq] at h
  exact h.2
theorem pm_updV (f : Nat → Value) (i : Nat) (v : Value) : updV (fun j => pm_cv b sa (f j)) i (pm_cv b sa v) = fun j => pm_cv b sa (pm_upd f i v j) := by
  funext j
  by_cases hj : j = i
  · simp [updV, pm_upd, hj]
  · simp [updV, pm_upd, hj]
/-- an array's cell -/
theorem pm_Wd.arr {h : pmH} {H : Heap} {q t n : Nat} {f : Nat → Value} (hW : pm_Wd D cA b sa h H) (hq : h[q]? = some (t, n, f)) (ht : 20 ≤ t) : t < 25 ∧ H[b + q]? = some (arrV (cA t) n (fun j => pm_cv b sa (f j))) := by
  rcases hW.2.2 q _ hq with ⟨h1, -⟩ | ⟨-, h2, h3⟩
  · exact absurd h1 (Nat.not_lt.mpr ht)
  · exact ⟨h2, h3⟩
/-- an array's cell, written -/
theorem pm_Wd.ast {h : pmH} {H H1 : Heap} {q t n i : Nat} {f : Nat → Value} {v : Value} (hW : pm_Wd D cA b sa h H) (hq : h[q]? = some (t, n, f)) (ht : 20 ≤ t) (e : H1[b + q]? = some ((arrV (cA t) n (fun j => pm_cv b sa (f j))).setSlot i (pm_cv b sa v))) (hz : H1.size = H.size) (ho : ∀ a : Nat, a ≠ b + q → H1[a]? = H[a]?) : pm_Wd D cA b sa (h.set q (t, n, pm_upd f i v)) H1 := by
  refine hW.set hq (Or.inr ⟨ht, (hW.arr hq ht).1, ?_⟩) hz ho
  rw [e, arrV_store, pm_updV]
end PMB
section PMG
variable {p : Program} {l : Launch} {e : Env} {R : Room} {s : State} {mi : MethodId} {args : Array Value} {below : List Frame} {meth : Method} {co : Code} {H H0 : Heap} {locs : List Loc} {Q : State → Prop}
variable {D : va_G} {cA : Nat → ClassId} {b : Nat} {sa : Nat → Nat} {m pc len : Nat} {r : List Value} {h : pmH} {c k : Nat} {ls : Array Slot} {cc : ByteArray}
/-- what the class's table says of a field -/
theorem pm_fok {m j ci f : Nat} (h : pm_fld m j = some (ci, f)) : ∃ q : vw_C, pm_cl[ci]? = some q ∧ f < q.2.2 ∧ Cond.fieldLink (pm_own (pm_oc m)) j (q.2.1 f).1 (q.2.1 f).2.1 (q.2.1 f).2.2.1 ∈ pm_ws ∧ pm_okc ci q := by
  have hm := pm_look_mem h
  obtain ⟨h1, h2⟩ := pm_fB _ _ hm
  have h3 := pm_fA _ _ (List.mem_map.mpr ⟨_, hm, rfl⟩)
  dsimp only at h1 h2
  have hlen : ci < pm_cl.length := h1
  have hg : pm_cl[ci]? = some (pm_cl[ci]'hlen) := List.getElem?_eq_getElem hlen
  have hd : pm_cl.getD ci ("", fun _ => ("", "", "", false), 0) = pm_cl[ci]'hlen := by rw [List.getD_eq_getElem?_getD, hg]; rfl
  simp only [pm_wf] at h3
  rw [hd] at h2 h3
  exact ⟨_, hg, h2, h3, pm_clok _ _ hg⟩
theorem pm_g_get {j q ci f n : Nat} {g : Nat → Value} (hx : p.tables.exec = Jvm.exec) (hb : co.code = cc) (hts : ∀ w ∈ pm_ws, w.before args s = true) (hown : s.vm.findClass (pm_own (pm_oc m)) = some mi.cls) (hK : pm_K D cA sa s) (hW : pm_Wd D cA b sa h H)
    (hf : pm_fld m j = some (ci, f)) (hq : h[q]? = some (ci, n, g)) (hdec : decode cc pc = .ok (.getfield j, 3))
    (kk : W p l e R s mi args below meth co H locs c k Q (F0 mi (pc + 3) ls (pm_cv b sa (g f) :: r))) : W p l e R s mi args below meth co H locs c k Q (F0 mi pc ls (pm_cv b sa (.ref q) :: r)) := by
  obtain ⟨qc, hc, hlt, hlk, hok⟩ := pm_fok hf
  have ha := (hW.lt hq).2.2
  rcases hW.2.2 q _ hq with ⟨h1, r0, h2, cell, q1, q2, q3, q4⟩ | ⟨h1, -⟩
  · dsimp only at h2 q1 q2 q4
    cases hc.symm.trans h2
    obtain ⟨hS, hfc, kC, hkC, hkind⟩ := hK.1 ci _ hc
    obtain ⟨cf, kf, fi, fd, hi, hsl⟩ := hS f hlt
    show W p l e R s mi args below meth co H locs c k Q (F0 mi pc ls (.ref (pm_ad b sa q) :: r))
    rw [ha]
    refine W.getf hx hb hown (hts _ hlk) hi (u_facts hfc hkC (u_lays hts hok.1 hlt) hi).1 q1 (by rw [q3]; exact fun z => by cases z) (v := pm_cv b sa (g f)) ?_ rfl rfl hdec kk
    rw [hsl, q4 f hlt]
  · have := hok
    have h3 : ci < pm_cl.length := (List.getElem?_eq_some_iff.mp hc).1
    have h4 : pm_cl.length = 12 := rfl
    dsimp only at h1
    omega
theorem pm_apart {ci : Nat} {q : vw_C} (hts : ∀ w ∈ pm_ws, w.before args s = true) (hK : pm_K D cA sa s) (hc : pm_cl[ci]? = some q) (hok : pm_okc ci q) : ∀ x y, x < q.2.2 → y < q.2.2 → x ≠ y → (D.2 ci) x ≠ (D.2 ci) y :=
  va_apart (own := "") (D := D) (cl := pm_cl) (tys := []) hts hok.1 (pm_ty ci) hok.2.1 hok.2.2.1 ⟨hK.1, fun k q h => by simp at h⟩ hc
theorem pm_g_put {j q ci f n : Nat} {g : Nat → Value} {v : Value} (hx : p.tables.exec = Jvm.exec) (hb : co.code = cc) (hts : ∀ w ∈ pm_ws, w.before args s = true) (hown : s.vm.findClass (pm_own (pm_oc m)) = some mi.cls) (hK : pm_K D cA sa s) (hW : pm_Wd D cA b sa h H) (hSv : pm_Sv b H0 H locs)
    (hf : pm_fld m j = some (ci, f)) (hq : h[q]? = some (ci, n, g)) (hv : pm_okv (pm_ty ci f) v = true) (hfi : pm_fin ci f = false ∨ (meth.name = "<init>" ∧ ci = pm_oc m)) (hdec : decode cc pc = .ok (.putfield j, 3))
    (kk : ∀ (H1 : Heap) (locs1 : List Loc), pm_Wd D cA b sa (h.set q (ci, n, pm_upd g f v)) H1 → pm_Sv b H0 H1 locs1 → W p l e R s mi args below meth co H1 locs1 c k Q (F0 mi (pc + 3) ls r)) : W p l e R s mi args below meth co H locs c k Q (F0 mi pc ls (pm_cv b sa v :: pm_cv b sa (.ref q) :: r)) := by
  obtain ⟨qc, hc, hlt, hlk, hok⟩ := pm_fok hf
  have ha := (hW.lt hq).2.2
  have hap := pm_apart hts hK hc hok
  simp only [pm_okv, Bool.and_eq_true, decide_eq_true_eq] at hv
  have hvc : narrow (pm_ty ci f) (pm_cv b sa v) = pm_cv b sa v ∧ fits (pm_ty ci f) (pm_cv b sa v) = true := by
    obtain ⟨v1, v2⟩ := hv
    cases v with
    | ref x =>
      generalize pm_ty ci f = ty at v1 v2 ⊢
      cases ty <;> first | exact ⟨rfl, rfl⟩ | exact absurd v2 (by simp [fits])
    | _ => exact ⟨v1, v2⟩
  rcases hW.2.2 q _ hq with ⟨h1, r0, h2, cell, q1, q2, q3, q4⟩ | ⟨h1, -⟩
  · dsimp only at h2 q1 q2 q4
    cases hc.symm.trans h2
    obtain ⟨hS, hfc, kC, hkC, hkind⟩ := hK.1 ci _ hc
    obtain ⟨cf, kf, fi, fd, hi, hsl⟩ := hS f hlt
    have hst := (u_facts hfc hkC (u_lays hts hok.1 hlt) hi).1
    have hpd := hok.2.1 f hlt
    show W p l e R s mi args below meth co H locs c k Q (F0 mi pc ls (pm_cv b sa v :: .ref (pm_ad b sa q) :: r))
    rw [ha]
    have fin : ∀ H' : Heap, H'[b + q]? = some (cell.setSlot fd.slot (pm_cv b sa v)) → H'.size = H.size → (∀ a, a ≠ b + q → H'[a]? = H[a]?) → W p l e R s mi args below meth co H' (locs ++ [⟨b + q, fd.slot⟩]) c k Q (F0 mi (pc + 3) ls r) := by
      intro H' e1 e2 e3
      refine kk H' _ (hW.set hq (Or.inl ⟨h1, _, hc, ?_⟩) e2 e3) (hSv.put e3)
      rw [hsl] at e1
      refine t_OB.to (V := updV (fun k => pm_cv b sa (g k)) f (pm_cv b sa v)) ⟨_, e1, q2, q3, t_set q4 hap hlt _⟩ (fun j _ => ?_)
      rw [pm_updV]
    cases hff : pm_fin ci f with
    | false =>
      have hlay := hts _ (hok.1 _ (u_in_lay hlt))
      unfold u_lay at hlay
      rw [if_neg (by rw [← hok.2.2.2.2.1 f, hff]; decide)] at hlay
      have h6 := u_store hfc hkC hkind hlay hi hpd hvc.1 hvc.2
      exact W.putK hx hb (f := fd) ⟨hown, hts _ hlk, ⟨_, _, _, hi⟩, hst⟩ (by rw [q2]; exact h6) q1 q3 (by rw [hsl]; exact k2_hasslot (q4 f hlt)) rfl rfl hdec fin
    | true =>
      rcases hfi with hfi | ⟨hin2, hdecl⟩
      · rw [hff] at hfi
        cases hfi
      · have hlay := hts _ (hok.1 _ (u_in_lay hlt))
        unfold u_lay at hlay
        rw [if_pos (by rw [← hok.2.2.2.2.1 f, hff])] at hlay
        have h6 := u_fits hfc hkC hkind (Or.inr hlay) hi hpd hvc.1 hvc.2
        have hcf : mi.cls = cf := by
          obtain ⟨_, _, c', _, _, _, -, -, hf', -, -, -, hown2, -⟩ := Cond.laysFinal_spec hlay
          have e1 : c' = cf := by have := hi.symm.trans hf'; simp at this; exact this.1.symm
          rw [hok.2.2.2.2.2.2 f hlt, ← hok.2.2.2.1, hdecl] at hown2
          rw [← e1]; exact Option.some.inj (hown.symm.trans hown2)
        exact W.putFinK hx hb hown (hts _ hlk) hi hst hcf hin2 (by rw [q2]; exact h6) q1 q3 (by rw [hsl]; exact k2_hasslot (q4 f hlt)) rfl rfl hdec fin
  · have h3 : ci < pm_cl.length := (List.getElem?_eq_some_iff.mp hc).1
    have h4 : pm_cl.length = 12 := rfl
    dsimp only at h1
    omega
end PMG
end
section
section PMC
variable {p : Program} {l : Launch} {e : Env} {R : Room} {s : State} {mi : MethodId} {args : Array Value} {below : List Frame} {meth : Method} {co : Code} {H H0 : Heap} {locs : List Loc} {Q : State → Prop}
variable {D : va_G} {cA : Nat → ClassId} {b : Nat} {sa : Nat → Nat} {m pc len : Nat} {r : List Value} {h : pmH} {c k : Nat} {ls : Array Slot} {cc : ByteArray}
theorem pm_cv_dflt (ty : FieldType) : pm_cv b sa (defaultValue ty) = defaultValue ty := by cases ty <;> rfl
theorem pm_g_iald {q n : Nat} {j : Int32} {f : Nat → Value} (hx : p.tables.exec = Jvm.exec) (hb : co.code = cc) (hK : pm_K D cA sa s) (hW : pm_Wd D cA b sa h H) (hq : h[q]? = some (20, n, f)) (hj : pm_ix j n = true) (hdec : decode cc pc = .ok (.iaload, 1))
    (kk : W p l e R s mi args below meth co H locs c k Q (F0 mi (pc + 1) ls (pm_cv b sa (f j.toNatClampNeg) :: r))) : W p l e R s mi args below meth co H locs c k Q (F0 mi pc ls (.int j :: pm_cv b sa (.ref q) :: r)) := by
  show W p l e R s mi args below meth co H locs c k Q (F0 mi pc ls (.int j :: .ref (pm_ad b sa q) :: r))
  rw [(hW.lt hq).2.2]
  exact W.iald hx hb (hW.arr hq (by decide)).2 ((hK.2.1 20 (by decide) (by decide)).1 n _) (fun z => by cases z) (by rw [arrV_size]; exact pm_ix_ok hj) (arrV_read _ _ (pm_ix_lt hj)) rfl rfl hdec kk
theorem pm_g_lald {q n : Nat} {j : Int32} {f : Nat → Value} (hx : p.tables.exec = Jvm.exec) (hb : co.code = cc) (hK : pm_K D cA sa s) (hW : pm_Wd D cA b sa h H) (hq : h[q]? = some (21, n, f)) (hj : pm_ix j n = true) (hdec : decode cc pc = .ok (.laload, 1))
    (kk : W p l e R s mi args below meth co H locs c k Q (F0 mi (pc + 1) ls (pm_cv b sa (f j.toNatClampNeg) :: r))) : W p l e R s mi args below meth co H locs c k Q (F0 mi pc ls (.int j :: pm_cv b sa (.ref q) :: r)) := by
  show W p l e R s mi args below meth co H locs c k Q (F0 mi pc ls (.int j :: .ref (pm_ad b sa q) :: r))
  rw [(hW.lt hq).2.2]
  exact W.lald hx hb (hW.arr hq (by decide)).2 ((hK.2.1 21 (by decide) (by decide)).1 n _) (fun z => by cases z) (by rw [arrV_size]; exact pm_ix_ok hj) (arrV_read _ _ (pm_ix_lt hj)) rfl rfl hdec kk
theorem pm_g_zald {q n : Nat} {j : Int32} {f : Nat → Value} (hx : p.tables.exec = Jvm.exec) (hb : co.code = cc) (hK : pm_K D cA sa s) (hW : pm_Wd D cA b sa h H) (hq : h[q]? = some (22, n, f)) (hj : pm_ix j n = true) (hdec : decode cc pc = .ok (.baload, 1))
    (kk : W p l e R s mi args below meth co H locs c k Q (F0 mi (pc + 1) ls (pm_cv b sa (f j.toNatClampNeg) :: r))) : W p l e R s mi args below meth co H locs c k Q (F0 mi pc ls (.int j :: pm_cv b sa (.ref q) :: r)) := by
  show W p l e R s mi args below meth co H locs c k Q (F0 mi pc ls (.int j :: .ref (pm_ad b sa q) :: r))
  rw [(hW.lt hq).2.2]
  exact W.zald hx hb (hW.arr hq (by decide)).2 ((hK.2.1 22 (by decide) (by decide)).1 n _) (fun z => by cases z) (by rw [arrV_size]; exact pm_ix_ok hj) (arrV_read _ _ (pm_ix_lt hj)) rfl rfl hdec kk
theorem pm_g_aald {q n t : Nat} {j : Int32} {f : Nat → Value} (hx : p.tables.exec = Jvm.exec) (hb : co.code = cc) (hK : pm_K D cA sa s) (hW : pm_Wd D cA b sa h H) (hq : h[q]? = some (t, n, f)) (ht : t = 23 ∨ t = 24) (hj : pm_ix j n = true) (hdec : decode cc pc = .ok (.aaload, 1))
    (kk : W p l e R s mi args below meth co H locs c k Q (F0 mi (pc + 1) ls (pm_cv b sa (f j.toNatClampNeg) :: r))) : W p l e R s mi args below meth co H locs c k Q (F0 mi pc ls (.int j :: pm_cv b sa (.ref q) :: r)) := by
  show W p l e R s mi args below meth co H locs c k Q (F0 mi pc ls (.int j :: .ref (pm_ad b sa q) :: r))
  rw [(hW.lt hq).2.2]
  exact W.aald hx hb (hW.arr hq (by rcases ht with rfl | rfl <;> decide)).2 ((hK.2.1 t (by rcases ht with rfl | rfl <;> decide) (by rcases ht with rfl | rfl <;> decide)).1 n _) (by rcases ht with rfl | rfl <;> rfl) (fun z => by cases z) (by rw [arrV_size]; exact pm_ix_ok hj) (arrV_read _ _ (pm_ix_lt hj)) rfl rfl hdec kk
theorem pm_g_iast {q n : Nat} {j x : Int32} {f : Nat → Value} (hx : p.tables.exec = Jvm.exec) (hb : co.code = cc) (hK : pm_K D cA sa s) (hW : pm_Wd D cA b sa h H) (hSv : pm_Sv b H0 H locs) (hq : h[q]? = some (20, n, f)) (hj : pm_ix j n = true) (hdec : decode cc pc = .ok (.iastore, 1))
    (kk : ∀ (H1 : Heap) (locs1 : List Loc), pm_Wd D cA b sa (h.set q (20, n, pm_upd f j.toNatClampNeg (.int x))) H1 → pm_Sv b H0 H1 locs1 → W p l e R s mi args below meth co H1 locs1 c k Q (F0 mi (pc + 1) ls r)) : W p l e R s mi args below meth co H locs c k Q (F0 mi pc ls (.int x :: .int j :: pm_cv b sa (.ref q) :: r)) := by
  show W p l e R s mi args below meth co H locs c k Q (F0 mi pc ls (.int x :: .int j :: .ref (pm_ad b sa q) :: r))
  rw [(hW.lt hq).2.2]
  exact W.iast hx hb (hW.arr hq (by decide)).2 ((hK.2.1 20 (by decide) (by decide)).1 n _) (fun z => by cases z) (by rw [arrV_size]; exact pm_ix_ok hj) rfl rfl hdec (fun H1 e1 e2 e3 => kk H1 _ (hW.ast hq (by decide) (v := .int x) e1 e2 e3) (hSv.put e3))
theorem pm_g_last {q n : Nat} {j : Int32} {x : Int64} {f : Nat → Value} (hx : p.tables.exec = Jvm.exec) (hb : co.code = cc) (hK : pm_K D cA sa s) (hW : pm_Wd D cA b sa h H) (hSv : pm_Sv b H0 H locs) (hq : h[q]? = some (21, n, f)) (hj : pm_ix j n = true) (hdec : decode cc pc = .ok (.lastore, 1))
    (kk : ∀ (H1 : Heap) (locs1 : List Loc), pm_Wd D cA b sa (h.set q (21, n, pm_upd f j.toNatClampNeg (.long x))) H1 → pm_Sv b H0 H1 locs1 → W p l e R s mi args below meth co H1 locs1 c k Q (F0 mi (pc + 1) ls r)) : W p l e R s mi args below meth co H locs c k Q (F0 mi pc ls (.long x :: .int j :: pm_cv b sa (.ref q) :: r)) := by
  show W p l e R s mi args below meth co H locs c k Q (F0 mi pc ls (.long x :: .int j :: .ref (pm_ad b sa q) :: r))
  rw [(hW.lt hq).2.2]
  exact W.last hx hb (hW.arr hq (by decide)).2 ((hK.2.1 21 (by decide) (by decide)).1 n _) (fun z => by cases z) (by rw [arrV_size]; exact pm_ix_ok hj) rfl rfl hdec (fun H1 e1 e2 e3 => kk H1 _ (hW.ast hq (by decide) (v := .long x) e1 e2 e3) (hSv.put e3))
theorem pm_g_zast {q n : Nat} {j x : Int32} {f : Nat → Value} (hx : p.tables.exec = Jvm.exec) (hb : co.code = cc) (hK : pm_K D cA sa s) (hW : pm_Wd D cA b sa h H) (hSv : pm_Sv b H0 H locs) (hq : h[q]? = some (22, n, f)) (hj : pm_ix j n = true) (hdec : decode cc pc = .ok (.bastore, 1))
    (kk : ∀ (H1 : Heap) (locs1 : List Loc), pm_Wd D cA b sa (h.set q (22, n, pm_upd f j.toNatClampNeg (.int (x &&& 1)))) H1 → pm_Sv b H0 H1 locs1 → W p l e R s mi args below meth co H1 locs1 c k Q (F0 mi (pc + 1) ls r)) : W p l e R s mi args below meth co H locs c k Q (F0 mi pc ls (.int x :: .int j :: pm_cv b sa (.ref q) :: r)) := by
  show W p l e R s mi args below meth co H locs c k Q (F0 mi pc ls (.int x :: .int j :: .ref (pm_ad b sa q) :: r))
  rw [(hW.lt hq).2.2]
  exact W.zast hx hb (hW.arr hq (by decide)).2 ((hK.2.1 22 (by decide) (by decide)).1 n _) (fun z => by cases z) (by rw [arrV_size]; exact pm_ix_ok hj) rfl rfl hdec (fun H1 e1 e2 e3 => kk H1 _ (hW.ast hq (by decide) (v := .int (x &&& 1)) e1 e2 e3) (hSv.put e3))
theorem pm_g_alen {q n t : Nat} {f : Nat → Value} (hx : p.tables.exec = Jvm.exec) (hb : co.code = cc) (hK : pm_K D cA sa s) (hW : pm_Wd D cA b sa h H) (hq : h[q]? = some (t, n, f)) (ht : t = 20 ∨ t = 21) (hdec : decode cc pc = .ok (.arraylength, 1))
    (kk : W p l e R s mi args below meth co H locs c k Q (F0 mi (pc + 1) ls (.int (Int32.ofNat n) :: r))) : W p l e R s mi args below meth co H locs c k Q (F0 mi pc ls (pm_cv b sa (.ref q) :: r)) := by
  show W p l e R s mi args below meth co H locs c k Q (F0 mi pc ls (.ref (pm_ad b sa q) :: r))
  rw [(hW.lt hq).2.2]
  exact W.alen hx hb (hW.arr hq (by rcases ht with rfl | rfl <;> decide)).2 ((hK.2.1 t (by rcases ht with rfl | rfl <;> decide) (by rcases ht with rfl | rfl <;> decide)).1 n _) (by rw [arrV_size]) rfl rfl hdec kk
/-- what is made lies behind all -/
theorem pm_Sv.grow {H0 H H1 : Heap} {locs : List Loc} (hSv : pm_Sv b H0 H locs) (hz : b ≤ H.size) (ho : ∀ a : Nat, a < H.size → H1[a]? = H[a]?) : pm_Sv b H0 H1 locs := ⟨fun q hq => (ho q (Nat.lt_of_lt_of_le hq hz)).trans (hSv.1 q hq), hSv.2⟩
theorem pm_g_new {j ci : Nat} {q : vw_C} (hx : p.tables.exec = Jvm.exec) (hb : co.code = cc) (hts : ∀ w ∈ pm_ws, w.before args s = true) (hown : s.vm.findClass (pm_own (pm_oc m)) = some mi.cls) (hK : pm_K D cA sa s) (hW : pm_Wd D cA b sa h H) (hSv : pm_Sv b H0 H locs)
    (hn : pm_look (pm_news (pm_oc m)) j = some ci) (hc : pm_cl[ci]? = some q) (hcells : c + 1 ≤ R.cells) (hslots : k + q.2.2 ≤ R.slots) (hlen : h.length < 900) (hdec : decode cc pc = .ok (.new j, 3))
    (kk : ∀ (H1 : Heap) (locs1 : List Loc), pm_Wd D cA b sa (h ++ [pm_obj ci q.2.2]) H1 → pm_Sv b H0 H1 locs1 → W p l e R s mi args below meth co H1 locs1 (c + 1) (k + q.2.2) Q (F0 mi (pc + 3) ls (pm_cv b sa (.ref h.length) :: r))) : W p l e R s mi args below meth co H locs c k Q (F0 mi pc ls r) := by
  have hok := pm_clok _ _ hc
  have hlk := hts _ (pm_wA _ _ (List.mem_map.mpr ⟨_, pm_look_mem hn, rfl⟩))
  simp only [pm_wnw, hok.2.2.2.1] at hlk
  obtain ⟨hS, hfc, kC0, hkC0, hkind⟩ := hK.1 ci _ hc
  have hci : ci < 12 := (List.getElem?_eq_some_iff.mp hc).1
  refine W.newcK hx hb hown hlk (hts _ hok.2.2.2.2.2.1.1) (hts _ hok.2.2.2.2.2.1.2) rfl hdec hcells hslots hfc rfl (fun H1 kC hkC e1 z1 o1 => ?_)
  have hadr : pm_cv b sa (.ref h.length) = .ref H.size := by
    show Value.ref (pm_ad b sa h.length) = _
    rw [pm_ad, if_pos (by omega), hW.1]
  have k1 := kk H1 locs (hW.app (by simp; omega) (by simpa using z1) o1 (fun i x hi => ?_)) (hSv.grow (by rw [hW.1]; omega) o1)
  · rw [hadr] at k1
    exact k1
  · have hi0 : i < 1 := (List.getElem?_eq_some_iff.mp hi).1
    rw [show i = 0 by omega] at hi
    cases hi
    refine Or.inl ⟨Nat.lt_of_lt_of_le hci (by decide), q, hc, ?_⟩
    have e2 : H1[b + (h.length + i)]? = some (blank (D.1 ci) kC) := by
      rw [show b + (h.length + i) = H.size by rw [hW.1]; omega]
      exact e1
    exact (u_born (pm_ty ci) hts hok.1 (hK.1 ci _ hc) hkC e2 hok.2.1).to (fun f _ => (pm_cv_dflt _).symm)
theorem pm_g_newa {t n : Nat} {v : Value} {x : Int32} {at0 : ArrayType} (hx : p.tables.exec = Jvm.exec) (hb : co.code = cc) (hts : ∀ w ∈ pm_ws, w.before args s = true) (hK : pm_K D cA sa s) (hW : pm_Wd D cA b sa h H) (hSv : pm_Sv b H0 H locs)
    (ht : 20 ≤ t ∧ t < 23) (hty : newarray.typeOf at0 = pm_aty t) (hin : Cond.arrayClass (pm_aty t) ∈ pm_ws) (hv : defaultValue (pm_aty t) = v) (hn : 0 ≤ x) (hN : x.toNatClampNeg = n) (hm : n ≤ 100000) (hcells : c + 1 ≤ R.cells) (hslots : k + n ≤ R.slots) (hlen : h.length < 900) (hdec : decode cc pc = .ok (.newarray at0, 2))
    (kk : ∀ (H1 : Heap) (locs1 : List Loc), pm_Wd D cA b sa (h ++ [pm_mk t n v]) H1 → pm_Sv b H0 H1 locs1 → W p l e R s mi args below meth co H1 locs1 (c + 1) (k + n) Q (F0 mi (pc + 2) ls (pm_cv b sa (.ref h.length) :: r))) : W p l e R s mi args below meth co H locs c k Q (F0 mi pc ls (.int x :: r)) := by
  have hx0 : ¬ x < 0 := by
    rw [Int32.le_iff_toInt_le] at hn
    rw [Int32.lt_iff_toInt_lt]
    omega
  have hbyt : n * componentBytes (newarray.typeOf at0) ≤ 536870912 := by
    have : componentBytes (newarray.typeOf at0) ≤ 8 := by cases at0 <;> decide
    calc n * componentBytes (newarray.typeOf at0) ≤ 100000 * 8 := Nat.mul_le_mul hm this
      _ ≤ 536870912 := by decide
  refine va_newaK hx hb (by rw [hty]; exact hts _ hin) rfl hdec rfl hx0 hN hbyt hcells hslots rfl (fun H1 cA1 e1 z1 o1 hAr hNm => ?_)
  have hcA : cA1 = cA t := by
    rw [hty] at hNm
    exact Option.some.inj (hNm.symm.trans (hK.2.1 t ht.1 (by omega)).2)
  have hadr : pm_cv b sa (.ref h.length) = .ref H.size := by
    show Value.ref (pm_ad b sa h.length) = _
    rw [pm_ad, if_pos (by omega), hW.1]
  have k1 := kk H1 locs (hW.app (by simp; omega) (by simpa using z1) o1 (fun i y hi => ?_)) (hSv.grow (by rw [hW.1]; omega) o1)
  · rw [hadr] at k1
    exact k1
  · have hi0 : i < 1 := (List.getElem?_eq_some_iff.mp hi).1
    rw [show i = 0 by omega] at hi
    cases hi
    refine Or.inr ⟨ht.1, by show t < 25; omega, ?_⟩
    rw [show b + (h.length + i) = H.size by rw [hW.1]; omega, e1, hcA, hty, hv]
    show _ = some (arrV (cA t) n (fun _ => pm_cv b sa v))
    rw [← hv, pm_cv_dflt]
end PMC
end
section
section PMD
variable {p : Program} {l : Launch} {e : Env} {R : Room} {s : State} {mi : MethodId} {args : Array Value} {below : List Frame} {meth : Method} {co : Code} {H H0 : Heap} {locs : List Loc} {Q : State → Prop}
variable {D : va_G} {cA : Nat → ClassId} {b : Nat} {sa : Nat → Nat} {m pc len : Nat} {r : List Value} {h : pmH} {c k : Nat} {ls : Array Slot} {cc : ByteArray}
theorem pm_outer (cl : ClassId) (N h0 : Nat) : ∀ i : Nat, Jvm.Free.Multi.outerC cl N h0 i = arrV cl N (fun j => if j < i then .ref (h0 + 1 + j) else .null)
  | 0 => by
    show ({ cls := cl, slots := Array.replicate N .null, vm := .none } : Cell) = _
    rw [arrV_new]
    refine congrArg (arrV cl N) (funext fun j => ?_)
    simp
  | i + 1 => by
    show (Jvm.Free.Multi.outerC cl N h0 i).setSlot i (.ref (h0 + 1 + i)) = _
    rw [pm_outer cl N h0 i, arrV_store]
    refine congrArg (arrV cl N) (funext fun j => ?_)
    by_cases e : j = i
    · subst e
      simp [updV]
    · by_cases hj : j < i
      · simp [updV, e, hj, Nat.lt_succ_of_lt hj]
      · simp [updV, e, hj, show ¬ j < i + 1 by omega]
theorem pm_arrV_ext {cl : ClassId} {N : Nat} {f g : Nat → Value} (h : ∀ j, j < N → f j = g j) : arrV cl N f = arrV cl N g := by
  unfold arrV
  congr 1
  congr 1
  funext j
  exact h j.val j.isLt
theorem pm_g_mna {j t : Nat} {n1 k1 : Int32} (hx : p.tables.exec = Jvm.exec) (hb : co.code = cc) (hts : ∀ w ∈ pm_ws, w.before args s = true) (hown : s.vm.findClass (pm_own (pm_oc m)) = some mi.cls) (hK : pm_K D cA sa s) (hW : pm_Wd D cA b sa h H) (hSv : pm_Sv b H0 H locs)
    (hl : pm_look (pm_mnas (pm_oc m)) j = some t) (ht : t = 20 ∨ t = 21) (hac : Cond.arrayClass (pm_aty t) ∈ pm_ws) (hn : 0 ≤ n1) (hk : 0 ≤ k1) (hN : n1.toNatClampNeg ≤ 1000) (hM : k1.toNatClampNeg ≤ 1000) (hcells : c + (1 + n1.toNatClampNeg) ≤ R.cells) (hslots : k + (n1.toNatClampNeg + n1.toNatClampNeg * k1.toNatClampNeg) ≤ R.slots) (hlen : h.length < 900) (hdec : decode cc pc = .ok (.multianewarray j 2, 4))
    (kk : ∀ (H1 : Heap) (locs1 : List Loc), pm_Wd D cA b sa (h ++ (pm_rows (t + 3) n1.toNatClampNeg (h.length + 1) :: List.replicate n1.toNatClampNeg (pm_mk t k1.toNatClampNeg (if t = 20 then .int 0 else .long 0)))) H1 → pm_Sv b H0 H1 locs1 → W p l e R s mi args below meth co H1 locs1 (c + 1 + n1.toNatClampNeg) (k + n1.toNatClampNeg + n1.toNatClampNeg * k1.toNatClampNeg) Q (F0 mi (pc + 4) ls (pm_cv b sa (.ref h.length) :: r))) : W p l e R s mi args below meth co H locs c k Q (F0 mi pc ls (.int k1 :: .int n1 :: r)) := by
  have hn0 : ¬ n1 < 0 := by
    rw [Int32.le_iff_toInt_le] at hn
    rw [Int32.lt_iff_toInt_lt]
    omega
  have hk0 : ¬ k1 < 0 := by
    rw [Int32.le_iff_toInt_le] at hk
    rw [Int32.lt_iff_toInt_lt]
    omega
  generalize hNe : n1.toNatClampNeg = N at *
  generalize hMe : k1.toNatClampNeg = M at *
  have hlk := hts _ (pm_mnA _ _ (List.mem_map.mpr ⟨_, pm_look_mem hl, rfl⟩))
  have hlk2 : (Cond.classLink (pm_own (pm_oc m)) j ("[" ++ (FieldType.array (pm_aty t)).toString)).before args s = true := by
    rcases ht with rfl | rfl
    · exact hlk
    · exact hlk
  have hover : (Cond.arrayOver (.array (pm_aty t))).before args s = true := by
    rcases hK.2.2.2.1 t with h1 | h1
    · exact h1
    · exact absurd ht h1
  have hbM : M * componentBytes (pm_aty t) ≤ 536870912 := by
    have : componentBytes (pm_aty t) ≤ 8 := by rcases ht with rfl | rfl <;> decide
    calc M * componentBytes (pm_aty t) ≤ 1000 * 8 := Nat.mul_le_mul hM this
      _ ≤ 536870912 := by decide
  intro T hT Xs
  obtain ⟨vm₁, cB, comp, -, fA, fC, -, -, X', step⟩ := Xs.multianewarray2F hx hown hlk2 hover (hts _ hac) (g := F0 mi pc ls (.int k1 :: .int n1 :: r)) rfl (by rw [hb]; exact hdec) rfl hn0 hk0 (by rw [hNe]; omega) (by rw [hMe]; exact hbM) (by rw [hMe]; omega) (by rcases ht with rfl | rfl <;> rfl) (by rcases ht with rfl | rfl <;> rfl) (by rw [hNe]; exact hcells) (by rw [hNe, hMe]; exact hslots)
  rw [hNe, hMe] at X' step
  generalize hF : Jvm.Free.Multi.fill (T.setVm vm₁) cB comp N M (defaultValue (pm_aty t)) N = F at X' step
  have hTh : (T.setVm vm₁).heap = H := hT
  obtain ⟨f1, f2, -, -⟩ := Jvm.Free.Multi.fill_facts (T.setVm vm₁) cB comp N M (defaultValue (pm_aty t)) N
  rw [hF, hTh] at f1 f2
  have hold : ∀ x : Nat, x < H.size → F.heap[x]? = H[x]? := fun x hx => by
    have := Jvm.Free.Multi.fill_old (T.setVm vm₁) cB comp N M (defaultValue (pm_aty t)) (a := x) (by rw [hTh]; exact hx) N
    rw [hF, hTh] at this
    exact this
  have hrow : ∀ i : Nat, i < N → F.heap[H.size + 1 + i]? = some (Jvm.Free.Multi.innerC comp M (defaultValue (pm_aty t))) := fun i hi => by
    have := Jvm.Free.Multi.fill_inner (T.setVm vm₁) cB comp N M (defaultValue (pm_aty t)) N i hi
    rw [hF, hTh] at this
    exact this
  have hcB : cB = cA (t + 3) := by
    have h2 := (hK.2.1 (t + 3) (by omega) (by omega)).2
    rcases ht with rfl | rfl
    · exact Option.some.inj (fA.symm.trans h2)
    · exact Option.some.inj (fA.symm.trans h2)
  have hcomp : comp = cA t := by
    have h2 := (hK.2.1 t (by omega) (by omega)).2
    rcases ht with rfl | rfl
    · exact Option.some.inj (fC.symm.trans h2)
    · exact Option.some.inj (fC.symm.trans h2)
  have hadr : pm_cv b sa (.ref h.length) = .ref H.size := by
    show Value.ref (pm_ad b sa h.length) = _
    rw [pm_ad, if_pos (by omega), hW.1]
  have hWd : pm_Wd D cA b sa (h ++ (pm_rows (t + 3) N (h.length + 1) :: List.replicate N (pm_mk t M (if t = 20 then .int 0 else .long 0)))) F.heap := by
    refine hW.app (by simp; omega) (by rw [f1]; simp; omega) hold (fun i y hi => ?_)
    cases i with
    | zero =>
      rw [List.getElem?_cons_zero] at hi
      cases hi
      refine Or.inr ⟨by show 20 ≤ t + 3; omega, by show t + 3 < 25; omega, ?_⟩
      rw [show b + (h.length + 0) = H.size by rw [hW.1]; omega, f2, pm_outer, hcB]
      refine congrArg some (pm_arrV_ext (fun i hi => ?_))
      rw [if_pos hi]
      show _ = Value.ref (pm_ad b sa (h.length + 1 + i))
      rw [pm_ad, if_pos (by omega)]
      have hz := hW.1
      exact congrArg Value.ref (show H.size + 1 + i = b + (h.length + 1 + i) by omega)
    | succ i =>
      rw [List.getElem?_cons_succ] at hi
      have hil : i < N := by
        have := (List.getElem?_eq_some_iff.mp hi).1
        rwa [List.length_replicate] at this
      rw [List.getElem?_replicate_of_lt hil] at hi
      cases hi
      refine Or.inr ⟨by show 20 ≤ t; omega, by show t < 25; omega, ?_⟩
      rw [show b + (h.length + (i + 1)) = H.size + 1 + i by rw [hW.1]; omega, hrow i hil, hcomp]
      show some ({ cls := cA t, slots := Array.replicate M (defaultValue (pm_aty t)), vm := .none } : Cell) = _
      rw [arrV_new]
      refine congrArg some (pm_arrV_ext (fun i _ => ?_))
      rcases ht with rfl | rfl <;> rfl
  obtain ⟨t2, a1, b1⟩ := kk F.heap locs hWd (hSv.grow (by rw [hW.1]; omega) hold) F rfl X'
  refine ⟨t2, step t2 ?_, b1⟩
  rw [hadr] at a1
  have e : T.heap.size = H.size := by rw [hT]
  rw [e]
  exact a1
end PMD
end
section
section PME
variable {p : Program} {l : Launch} {e : Env} {R : Room} {s : State} {mi : MethodId} {args : Array Value} {below : List Frame} {meth : Method} {co : Code} {H H0 : Heap} {locs : List Loc} {Q : State → Prop}
variable {D : va_G} {cA : Nat → ClassId} {b : Nat} {sa : Nat → Nat} {m pc len : Nat} {lv lv' : pmL} {st st' : List Value} {h h' : pmH} {c k c' k' pc' : Nat} {ls : Array Slot} {cc : ByteArray} {X : pmX}
theorem pm_acI : Cond.arrayClass (pm_aty 20) ∈ pm_ws := pm_wsin (List.mem_of_getElem? (i := 130) (by decide +kernel)) rfl
theorem pm_acJ : Cond.arrayClass (pm_aty 21) ∈ pm_ws := pm_wsin (List.mem_of_getElem? (i := 302) (by decide +kernel)) rfl
theorem pm_acZ : Cond.arrayClass (pm_aty 22) ∈ pm_ws := pm_wsin (List.mem_of_getElem? (i := 433) (by decide +kernel)) rfl
theorem pm_ad_str (b : Nat) (sa : Nat → Nat) (y : Nat) : pm_ad b sa (y + 2001) = sa (y + 1) := by
  unfold pm_ad
  rw [if_neg (by omega), show y + 2001 - 2000 = y + 1 by omega]
theorem pm_ad_scr (b : Nat) (sa : Nat → Nat) : pm_ad b sa 2000 = sa 0 := by
  unfold pm_ad
  rw [if_neg (by omega), Nat.sub_self]
set_option maxHeartbeats 4000000 in
set_option maxRecDepth 100000 in
theorem pm_stB {i : Instr} (hx : p.tables.exec = Jvm.exec) (hb : co.code = cc) (hts : ∀ w ∈ pm_ws, w.before args s = true) (hown : s.vm.findClass (pm_own (pm_oc m)) = some mi.cls) (hK : pm_K D cA sa s)
    (hX : ∀ x, X = some x → va_X (sa 0) x.1 x.2 s H0) (hsb : sa 0 < b) (hRc : pm_mc m ≤ R.cells) (hRs : pm_ms m ≤ R.slots) (hin : pm_in m = 1 → meth.name = "<init>")
    (hdec : decode cc pc = .ok (i, pm_len i len)) (hW : pm_Wd D cA b sa h H) (hSv : pm_Sv b H0 H locs)
    (hs : pm_stepB X m i pc lv st h c k = some (pc', lv', st', h', c', k')) :
    (lv' = lv ∧ (c ≤ pm_mc m → c' ≤ pm_mc m) ∧ (k ≤ pm_ms m → k' ≤ pm_ms m)) ∧ ((∀ (H1 : Heap) (locs1 : List Loc), pm_Wd D cA b sa h' H1 → pm_Sv b H0 H1 locs1 → W p l e R s mi args below meth co H1 locs1 c' k' Q (F0 mi pc' ls (pm_cs b sa st'))) → W p l e R s mi args below meth co H locs c k Q (F0 mi pc ls (pm_cs b sa st))) := by
  have hXH : ∀ x, X = some x → va_X (sa 0) x.1 x.2 s H := fun x hx0 => (hX x hx0).kept (hSv.1 _ hsb)
  cases i
  case tableswitch dflt lo hi offs =>
    simp only [pm_stepB] at hs; split at hs
    · next x r =>
      split at hs
      · next hc => split at hs
                   · next t ht => cases hs; exact ⟨⟨rfl, id, id⟩, fun hk => lv_tableOut hx hb hdec hc (pm_tgt_ok ht) (hk _ _ hW hSv)⟩
                   · cases hs
      · next hc => split at hs
                   · next off hoff =>
                     split at hs
                     · next t ht => cases hs; exact ⟨⟨rfl, id, id⟩, fun hk => lv_tableIn hx hb hdec (fun q => hc (Or.inl q)) (fun q => hc (Or.inr q)) hoff (pm_tgt_ok ht) (hk _ _ hW hSv)⟩
                     · cases hs
                   · cases hs
    · cases hs
  case lookupswitch dflt ps =>
    simp only [pm_stepB] at hs; split at hs
    · next x r =>
      split at hs
      · next hc => split at hs
                   · next t ht => cases hs; exact ⟨⟨rfl, id, id⟩, fun hk => lv_lookup hx hb hdec hc rfl (pm_tgt_ok ht) (hk _ _ hW hSv)⟩
                   · cases hs
      · cases hs
    · cases hs
  case ldc j =>
    simp only [pm_stepB] at hs; split at hs
    · next x hg =>
      cases hs
      have hw := hts _ (pm_kA _ _ (List.mem_flatMap.mpr ⟨_, pm_look_mem hg, List.mem_singleton.mpr rfl⟩))
      exact ⟨⟨rfl, id, id⟩, fun hk => lv_ldc hx hb hown hw hdec (hk _ _ hW hSv)⟩
    · next x hg =>
      cases hs
      have hw := pm_kB _ _ (pm_look_mem hg)
      simp only [pm_chk, Bool.and_eq_true, decide_eq_true_eq] at hw
      obtain ⟨h1, h2⟩ := hw
      obtain ⟨y, rfl⟩ : ∃ y : Nat, x = y + 2001 := ⟨x - 2001, (Nat.sub_add_cancel h1).symm⟩
      split at h2
      · next q hq =>
        have h2 := of_decide_eq_true h2
        rw [Nat.add_sub_cancel] at hq
        have hv := hK.2.2.2.2 _ _ hq
        rw [h2.1, h2.2] at hv
        refine ⟨⟨rfl, id, id⟩, fun hk => va_ldcS hx hb hown hv hdec ?_⟩
        have := hk _ _ hW hSv
        rw [show pm_cs b sa (Value.ref (y + 2001) :: st) = .ref (sa (y + 1)) :: pm_cs b sa st from congrArg (fun z => Value.ref z :: pm_cs b sa st) (pm_ad_str b sa y)] at this
        exact this
      · cases h2
    · cases hs
  case ldc2_w j =>
    simp only [pm_stepB] at hs; split at hs
    · next x hg =>
      cases hs
      have hw := hts _ (pm_kA _ _ (List.mem_flatMap.mpr ⟨_, pm_look_mem hg, List.mem_singleton.mpr rfl⟩))
      exact ⟨⟨rfl, id, id⟩, fun hk => lv_ldc2 hx hb hown hw hdec (hk _ _ hW hSv)⟩
    · cases hs
  case getfield j =>
    simp only [pm_stepB] at hs; split at hs
    · next q r =>
      split at hs
      · next ci f t n g hf hq =>
        split at hs
        · next he => cases hs; subst he; exact ⟨⟨rfl, id, id⟩, fun hk => pm_g_get hx hb hts hown hK hW hf hq hdec (hk _ _ hW hSv)⟩
        · cases hs
      · cases hs
    · cases hs
  case putfield j =>
    simp only [pm_stepB] at hs; split at hs
    · next v q r =>
      split at hs
      · next ci f t n g hf hq =>
        split at hs
        · next he =>
          obtain ⟨he, hv, hfi⟩ := he
          cases hs; subst he
          exact ⟨⟨rfl, id, id⟩, fun hk => pm_g_put hx hb hts hown hK hW hSv hf hq hv (hfi.imp id (fun z => ⟨hin z.1, z.2⟩)) hdec (fun H1 l1 a1 a2 => hk H1 l1 a1 a2)⟩
        · cases hs
      · cases hs
    · cases hs
  case iaload =>
    simp only [pm_stepB] at hs; split at hs
    · next j q r =>
      split at hs
      · next hq => split at hs
                   · next x => split at hs
                               · next hj =>
                                 cases hs; subst hq
                                 refine ⟨⟨rfl, id, id⟩, fun hk => ?_⟩
                                 obtain ⟨scr, x1, x2, x3, x4, x5⟩ := hXH x rfl
                                 have k1 := hk _ _ hW hSv
                                 rw [show pm_cs b sa (Value.int j :: Value.ref 2000 :: r) = .int j :: .ref (sa 0) :: pm_cs b sa r from congrArg (fun z => Value.int j :: Value.ref z :: pm_cs b sa r) (pm_ad_scr b sa)]
                                 exact W.iald hx hb x1 x2 x3 (by rw [x4]; exact pm_ix_ok hj) (x5 _ (pm_ix_lt hj)) rfl rfl hdec k1
                               · cases hs
                   · cases hs
      · next hq => split at hs
                   · next t n f hf => split at hs
                                      · next hc => obtain ⟨rfl, hj⟩ := hc; cases hs; exact ⟨⟨rfl, id, id⟩, fun hk => pm_g_iald hx hb hK hW hf hj hdec (hk _ _ hW hSv)⟩
                                      · cases hs
                   · cases hs
    · cases hs
  case laload =>
    simp only [pm_stepB] at hs; split at hs
    · next j q r =>
      split at hs
      · next t n f hf => split at hs
                         · next hc => obtain ⟨rfl, hj⟩ := hc; cases hs; exact ⟨⟨rfl, id, id⟩, fun hk => pm_g_lald hx hb hK hW hf hj hdec (hk _ _ hW hSv)⟩
                         · cases hs
      · cases hs
    · cases hs
  case baload =>
    simp only [pm_stepB] at hs; split at hs
    · next j q r =>
      split at hs
      · next t n f hf => split at hs
                         · next hc => obtain ⟨rfl, hj⟩ := hc; cases hs; exact ⟨⟨rfl, id, id⟩, fun hk => pm_g_zald hx hb hK hW hf hj hdec (hk _ _ hW hSv)⟩
                         · cases hs
      · cases hs
    · cases hs
  case aaload =>
    simp only [pm_stepB] at hs; split at hs
    · next j q r =>
      split at hs
      · next t n f hf => split at hs
                         · next hc => obtain ⟨ht, hj⟩ := hc; cases hs; exact ⟨⟨rfl, id, id⟩, fun hk => pm_g_aald hx hb hK hW hf ht hj hdec (hk _ _ hW hSv)⟩
                         · cases hs
      · cases hs
    · cases hs
  case iastore =>
    simp only [pm_stepB] at hs; split at hs
    · next x j q r =>
      split at hs
      · next t n f hf => split at hs
                         · next hc => obtain ⟨rfl, hj⟩ := hc; cases hs; exact ⟨⟨rfl, id, id⟩, fun hk => pm_g_iast hx hb hK hW hSv hf hj hdec (fun H1 l1 a1 a2 => hk H1 l1 a1 a2)⟩
                         · cases hs
      · cases hs
    · cases hs
  case lastore =>
    simp only [pm_stepB] at hs; split at hs
    · next x j q r =>
      split at hs
      · next t n f hf => split at hs
                         · next hc => obtain ⟨rfl, hj⟩ := hc; cases hs; exact ⟨⟨rfl, id, id⟩, fun hk => pm_g_last hx hb hK hW hSv hf hj hdec (fun H1 l1 a1 a2 => hk H1 l1 a1 a2)⟩
                         · cases hs
      · cases hs
    · cases hs
  case bastore =>
    simp only [pm_stepB] at hs; split at hs
    · next x j q r =>
      split at hs
      · next t n f hf => split at hs
                         · next hc => obtain ⟨rfl, hj⟩ := hc; cases hs; exact ⟨⟨rfl, id, id⟩, fun hk => pm_g_zast hx hb hK hW hSv hf hj hdec (fun H1 l1 a1 a2 => hk H1 l1 a1 a2)⟩
                         · cases hs
      · cases hs
    · cases hs
  case arraylength =>
    simp only [pm_stepB] at hs; split at hs
    · next q r =>
      split at hs
      · next hq =>
        split at hs
        · next x =>
          cases hs; subst hq
          refine ⟨⟨rfl, id, id⟩, fun hk => ?_⟩
          obtain ⟨scr, x1, x2, x3, x4, x5⟩ := hXH x rfl
          have k1 := hk _ _ hW hSv
          rw [show pm_cs b sa (Value.ref 2000 :: r) = .ref (sa 0) :: pm_cs b sa r from congrArg (fun z => Value.ref z :: pm_cs b sa r) (pm_ad_scr b sa)]
          exact W.alen hx hb x1 x2 (by rw [x4]) rfl rfl hdec k1
        · cases hs
      · next hq => split at hs
                   · next t n f hf => split at hs
                                      · next ht => cases hs; exact ⟨⟨rfl, id, id⟩, fun hk => pm_g_alen hx hb hK hW hf ht hdec (hk _ _ hW hSv)⟩
                                      · cases hs
                   · cases hs
    · cases hs
  case new j =>
    simp only [pm_stepB] at hs; split at hs
    · next ci hn =>
      split at hs
      · next q hq =>
        split at hs
        · next hc =>
          cases hs
          exact ⟨⟨rfl, fun _ => hc.1, fun _ => hc.2.1⟩, fun hk => pm_g_new hx hb hts hown hK hW hSv hn hq (Nat.le_trans hc.1 hRc) (Nat.le_trans hc.2.1 hRs) hc.2.2 hdec (fun H1 l1 a1 a2 => hk H1 l1 a1 a2)⟩
        · cases hs
      · cases hs
    · cases hs
  case newarray ty =>
    simp only [pm_stepB] at hs; split at hs
    · next n r =>
      split at hs
      · next hc =>
        obtain ⟨h1, h2, h3, h4, h5⟩ := hc
        cases ty <;> simp only at hs
        case int => cases hs; exact ⟨⟨rfl, fun _ => h3, fun _ => h4⟩, fun hk => pm_g_newa (t := 20) hx hb hts hK hW hSv (by decide) rfl pm_acI rfl h1 rfl h2 (Nat.le_trans h3 hRc) (Nat.le_trans h4 hRs) h5 hdec (fun H1 l1 a1 a2 => hk H1 l1 a1 a2)⟩
        case long => cases hs; exact ⟨⟨rfl, fun _ => h3, fun _ => h4⟩, fun hk => pm_g_newa (t := 21) hx hb hts hK hW hSv (by decide) rfl pm_acJ rfl h1 rfl h2 (Nat.le_trans h3 hRc) (Nat.le_trans h4 hRs) h5 hdec (fun H1 l1 a1 a2 => hk H1 l1 a1 a2)⟩
        case boolean => cases hs; exact ⟨⟨rfl, fun _ => h3, fun _ => h4⟩, fun hk => pm_g_newa (t := 22) hx hb hts hK hW hSv (by decide) rfl pm_acZ rfl h1 rfl h2 (Nat.le_trans h3 hRc) (Nat.le_trans h4 hRs) h5 hdec (fun H1 l1 a1 a2 => hk H1 l1 a1 a2)⟩
        all_goals cases hs
      · cases hs
    · cases hs
  case multianewarray j d =>
    simp only [pm_stepB] at hs; split at hs
    · next k1 n1 r =>
      split at hs
      · next t hl =>
        split at hs
        · next hc =>
          obtain ⟨rfl, h1, h2, h3, h4, h5, h6, h7, h8⟩ := hc
          cases hs
          refine ⟨⟨rfl, fun _ => by omega, fun _ => by omega⟩, fun hk => pm_g_mna hx hb hts hown hK hW hSv hl h8 ?_ h1 h2 h3 h4 (Nat.le_trans h5 hRc) (Nat.le_trans h6 hRs) h7 hdec (fun H1 l1 a1 a2 => hk H1 l1 a1 a2)⟩
          rcases h8 with rfl | rfl
          · exact pm_acI
          · exact pm_acJ
        · cases hs
      · cases hs
    · cases hs
  all_goals exact absurd hs (by simp [pm_stepB])
end PME
end
section
def pm_rm (m : Nat) : Room := { frames := pm_fr m, cells := pm_mc m, slots := pm_ms m, locals := pm_lo m }
def pm_wsm (m : Nat) : List Cond := Cond.code (pm_y m) (pm_bytes m) (pm_maxL m) (pm_ret m) :: pm_ws
def pm_P (D : va_G) (cA : Nat → ClassId) (b : Nat) (sa : Nat → Nat) (as : List Value) (h : pmH) : Array Value → State → Prop := fun v U => v = (pm_cs b sa as).toArray ∧ pm_Wd D cA b sa h U.heap ∧ pm_K D cA sa U
def pm_Q (D : va_G) (cA : Nat → ClassId) (b : Nat) (sa : Nat → Nat) (h' : pmH) (r : Option Value) : Array Value → State → Outcome → State → Prop := fun _ st oc t => oc = .returned (r.map (pm_cv b sa)) ∧ pm_Wd D cA b sa h' t.heap ∧ ∀ q : Nat, q < b → t.heap[q]? = st.heap[q]?
section PMF
variable {D : va_G} {cA : Nat → ClassId} {b : Nat} {sa : Nat → Nat} {l : Launch}
theorem pm_K.mv {u U : State} (hal : u.vm.Alike U.vm) (hn : ∀ e, va_Nw (pm_wn e) u → va_Nw (pm_wn e) U) (hr : ∀ (o : String) (k : Nat) (t : String) (a : Nat), vk_R o k t a u → vk_R o k t a U) (h : pm_K D cA sa u) : pm_K D cA sa U := by
  obtain ⟨h1, h2, h3, h4, h5⟩ := h
  refine ⟨fun c q hq => u_Kn_moved hal (h1 c q hq), fun t a1 a2 => ⟨arrOfT_moved hal (h2 t a1 a2).1, by rw [hal.findClass]; exact (h2 t a1 a2).2⟩, fun e he => hn e (h3 e he), fun t => ?_, fun j q hq => hr _ _ _ _ (h5 j q hq)⟩
  rcases h4 t with h4 | h4
  · exact Or.inl (Jvm.Stand.arrayOver_alikeB hal h4)
  · exact Or.inr h4
theorem pm_K.warm {u U : State} (hW : u.WarmedH U.vm) (h : pm_K D cA sa u) : pm_K D cA sa U := h.mv hW.alike (fun e he => va_Nw.warmM hW he) (fun o k t a h => vk_R.warm hW h)
theorem pm_K.call {U : State} {g : JFrame} {mk : MethodId} {a : Array Value} (h : pm_K D cA sa U) : pm_K D cA sa (U.calling g mk a) := h.mv (Vm.Alike.refl U.vm) (fun e he => va_Nw.same rfl rfl he) (fun o k t a h => vk_R.same rfl h)
theorem pm_blind (as : List Value) (h : pmH) : FrameBlind (pm_P D cA b sa as h) := fun a U g mk hp => ⟨hp.1, hp.2.1, hp.2.2.call⟩
theorem pm_ofW {y : MethodName} {ws ws' : List Cond} {rm : Room} {Pc : Array Value → State → Prop} {Qc : Array Value → State → Outcome → State → Prop} {mc ms : Nat} {free : Addr → Prop} {cc : ByteArray} {maxL : Nat} {ret : Option FieldType}
    (hy : plainFor y = true) (hw : ws = Cond.code y cc maxL ret :: ws')
    (body : ∀ p e s m args below meth c s₁, BodyLoose p l y (headSpec ws rm) cc maxL ret e s m args below meth c s₁ → c.maxLocals = maxL → Pc args s →
      W p l e (headSpec ws rm).room s m args below meth c s.heap [] 0 0 (MQ below Qc args s mc ms free) (entryFrame m args maxL)) : Met l y ws rm Pc Qc mc ms free := by
  refine MetFree.of_bodySF (code := cc) (maxLocals := maxL) (ret := ret) hy ?_ ?_
  · intro args s m h hn
    obtain ⟨meth, c, h1, h2, h3, h4, h5, h6, -, -⟩ := Cond.code_spec hn (atoms_spec (ws := ws) h _ (by rw [hw]; exact List.mem_cons_self))
    exact ⟨meth, c, h1, h2, h3, h4, h5, h6⟩
  · intro p e s m args below meth c s₁ B hml hP _
    have hh0 : s₁.heap = s.heap := by rw [B.state]; rfl
    obtain ⟨t, a1, o, b1, b2, b3⟩ := body p e s m args below meth c s₁ B hml hP s₁ hh0 (Stand.of_body B)
    exact ⟨t, o, a1, b1, b2, ⟨b3.1, b3.2⟩⟩
theorem pm_args_lc (as : List Value) : ∀ i : Nat, lv_args i (pm_cs b sa as) = pm_lc b sa (lv_args i as) := by
  induction as with
  | nil => intro i; rfl
  | cons v vs ih =>
    intro i
    show (i, pm_cv b sa v) :: lv_args (if (pm_cv b sa v).category = 2 then i + 2 else i + 1) (pm_cs b sa vs) = (i, pm_cv b sa v) :: pm_lc b sa (lv_args (if v.category = 2 then i + 2 else i + 1) vs)
    rw [pm_cv_cat, ih]
theorem pm_cat_cs (as : List Value) : ((pm_cs b sa as).map fun v => v.category) = as.map fun v => v.category := by
  rw [List.map_map]
  apply List.map_congr_left
  intro v _
  exact pm_cv_cat b sa v
theorem pm_sl_len (as : List Value) : (lg_sl as).length = (as.map fun v => v.category).sum := by
  induction as with
  | nil => rfl
  | cons v vs ih =>
    have hv : (if v.category = 2 then [Slot.val v, Slot.second] else [Slot.val v]).length = v.category := by
      rcases lv_cat v with h | h <;> simp [h]
    show ((if v.category = 2 then [Slot.val v, Slot.second] else [Slot.val v]) ++ lg_sl vs).length = _
    rw [List.length_append, hv, ih]
    simp
/-- the walk of a method from any of its points, n steps on -/
def pm_Sn (D : va_G) (cA : Nat → ClassId) (b : Nat) (sa : Nat → Nat) (l : Launch) (n : Nat) : Prop :=
  ∀ (X : pmX) (m pc : Nat) (lv : pmL) (st : List Value) (h : pmH) (c k : Nat) (h' : pmH) (r : Option Value), pm_exec X n m pc lv st h c k = some (h', r) →
  ∀ (p : Program) (e : Env) (R : Room) (s : State) (mi : MethodId) (args : Array Value) (below : List Frame) (meth : Method) (co : Code) (H : Heap) (locs : List Loc) (ls : Array Slot) (Q : State → Prop),
    p.tables.exec = Jvm.exec → co.code = pm_bytes m → co.maxLocals = pm_maxL m → (∀ w ∈ pm_ws, w.before args s = true) → s.vm.findClass (pm_own (pm_oc m)) = some mi.cls → pm_K D cA sa s → (∀ x, X = some x → va_X (sa 0) x.1 x.2 s s.heap) → sa 0 < b →
    (pm_fr m ≤ R.frames ∧ pm_lo m ≤ R.locals ∧ pm_mc m ≤ R.cells ∧ pm_ms m ≤ R.slots) → (pm_in m = 1 → meth.name = "<init>") →
    lv_has ls (pm_maxL m) (pm_lc b sa lv) → pm_Wd D cA b sa h H → pm_Sv b s.heap H locs → c ≤ pm_mc m → k ≤ pm_ms m →
    (∀ (pc' : Nat) (i : Instr) (len : Nat) (st' : List Value) (H1 : Heap) (locs1 : List Loc) (ls1 : Array Slot), decode (pm_bytes m) pc' = .ok (i, pm_len i len) → pm_end m i st' = some r → pm_Wd D cA b sa h' H1 → pm_Sv b s.heap H1 locs1 → W p l e R s mi args below meth co H1 locs1 (pm_mc m) (pm_ms m) Q (F0 mi pc' ls1 (pm_cs b sa st'))) →
    W p l e R s mi args below meth co H locs c k Q (F0 mi pc ls (pm_cs b sa st))
/-- a method's contract, out of its walk -/
theorem pm_met {n y : Nat} {as : List Value} {h h1 : pmH} {r1 : Option Value} (ih : pm_Sn D cA b sa l n) (hsb : sa 0 < b) (hcall : pm_exec none n y 0 (lv_args 0 as) [] h 0 0 = some (h1, r1)) (hlen : (as.map fun v => v.category).sum ≤ pm_maxL y) :
    Met l (pm_y y) (pm_wsm y) (pm_rm y) (pm_P D cA b sa as h) (pm_Q D cA b sa h1 r1) (pm_mc y) (pm_ms y) (fun q => b ≤ q) := by
  refine pm_ofW (cc := pm_bytes y) (maxL := pm_maxL y) (ret := pm_ret y) (pm_okA y).2.1 rfl ?_
  intro p e s m args below meth c s₁ B hml hv
  obtain ⟨rfl, hW, hK⟩ := hv
  have hts := atoms_spec (ws := pm_wsm y) B.pre
  have hown : s.vm.findClass (pm_own (pm_oc y)) = some m.cls := by
    have := findClass_of_methodNamed B.named
    rwa [(pm_okA y).2.2.1] at this
  have hlocks := B.notSynchronized
  have hnm : meth.name = (pm_y y).name := (name_of_methodNamed B.named B.method).1
  have hl := lv_entry (pm_cs b sa as) (n := pm_maxL y) (by rw [pm_sl_len, pm_cat_cs]; exact hlen)
  rw [lg_entry_eq]
  generalize (lg_sl (pm_cs b sa as) ++ List.replicate (pm_maxL y - (lg_sl (pm_cs b sa as)).length) Slot.unset).toArray = ls at hl ⊢
  rw [pm_args_lc] at hl
  refine ih none y 0 (lv_args 0 as) [] h 0 0 h1 r1 hcall p e _ s m _ below meth c s.heap [] ls _ B.exec B.bytes hml (fun w hw => hts w (List.mem_cons_of_mem _ hw)) hown hK (fun x hx => by cases hx) hsb ⟨Nat.le_refl _, Nat.le_refl _, Nat.le_refl _, Nat.le_refl _⟩ (fun hin => by rw [hnm]; exact (pm_okA y).2.2.2.1 hin) hl hW ⟨fun _ _ => rfl, fun q hq => by cases hq⟩ (Nat.zero_le _) (Nat.zero_le _) ?_
  intro pc' i len st' H1 locs1 ls1 hdec hend hW1 hSv1
  have hq : ∀ (v : Option Value), v = r1 → ∀ t : State, t.heap = H1 → s.WarmedH t.vm → pm_Q D cA b sa h1 r1 (pm_cs b sa as).toArray s (.returned (v.map (pm_cv b sa))) t := fun v hv t ht _ => ⟨by rw [hv], by rw [ht]; exact hW1, fun q hq => by rw [ht]; exact hSv1.1 q hq⟩
  cases i
  case ireturn =>
    simp only [pm_end] at hend
    split at hend
    · next v hr => cases hend; exact W.iret B.exec B.bytes (B.returns.trans hr) (hq (some (.int v)) rfl) hSv1.2 hdec
    · next v hr => split at hend
                   · next hv => cases hend; exact W.zret (ty := .boolean) B.exec B.bytes (B.returns.trans hr) (by show Value.int (v &&& 1) = _; rw [hv]) (hq (some (.int v)) rfl) hSv1.2 hdec
                   · cases hend
    · cases hend
  case lreturn =>
    simp only [pm_end] at hend
    split at hend
    · next v hr => cases hend; exact W.lret B.exec B.bytes (B.returns.trans hr) (hq (some (.long v)) rfl) hSv1.2 hdec
    · cases hend
  case return_ =>
    simp only [pm_end] at hend
    split at hend
    · next hr => cases hend; exact W.vret B.exec B.bytes (B.returns.trans hr) (hq none rfl) hSv1.2 hdec
    · cases hend
  all_goals exact absurd hend (by simp [pm_end])
end PMF
end
section
section PMI
variable {D : va_G} {cA : Nat → ClassId} {b : Nat} {sa : Nat → Nat} {l : Launch}
/-- what a call is -/
def pm_isCall (m : Nat) (i : Instr) (st : List Value) (h : pmH) (c k : Nat) (y : Nat) (as rest : List Value) : Prop :=
  ∃ j kind n : Nat, pm_look (pm_calls (pm_oc m)) j = some (y, kind, n) ∧ ¬ kind = 3 ∧ (pm_fr y + 1 ≤ pm_fr m ∧ 8 + (pm_maxL y + 11) + pm_lo y ≤ pm_lo m ∧ c + pm_mc y ≤ pm_mc m ∧ k + pm_ms y ≤ pm_ms m) ∧ (rest.map fun v => v.category).sum ≤ 8 ∧ (as.map fun v => v.category).sum ≤ pm_maxL y ∧ pm_oc y < 15 ∧
    ((i = .invokestatic j ∧ kind % 10 = 1 ∧ as.length = n ∧ st = as.reverse ++ rest) ∨
     (∃ (q N : Nat) (f : Nat → Value) (as' : List Value), ((i = .invokevirtual j ∧ kind % 10 = 0) ∨ (i = .invokespecial j ∧ kind % 10 = 2)) ∧ as = .ref q :: as' ∧ as'.length = n ∧ st = as'.reverse ++ .ref q :: rest ∧ h[q]? = some (pm_oc y, N, f) ∧ pm_oc y < 12))
theorem pm_inv_ok {m : Nat} {i : Instr} {st : List Value} {h : pmH} {c k : Nat} {y : Nat} {as rest : List Value} (hs : pm_inv m i st h c k = some (some y, as, rest)) : pm_isCall m i st h c k y as rest := by
  unfold pm_inv at hs
  dsimp only at hs
  split at hs
  · cases hs
  · next j op hj =>
    have hop : (i = .invokevirtual j ∧ op = 0) ∨ (i = .invokestatic j ∧ op = 1) ∨ (i = .invokespecial j ∧ op = 2) := by
      split at hj
      · cases hj; exact Or.inl ⟨rfl, rfl⟩
      · cases hj; exact Or.inr (Or.inl ⟨rfl, rfl⟩)
      · cases hj; exact Or.inr (Or.inr ⟨rfl, rfl⟩)
      · cases hj
    split at hs
    · cases hs
    · next y0 kind n hlk =>
      split at hs
      · split at hs
        · split at hs
          · split at hs
            · cases hs
            · cases hs
          · cases hs
        · cases hs
      · next hk3 =>
        split at hs
        · next hc =>
          obtain ⟨h1, h2, h3, h4, h5, h6⟩ := hc
          have hlen : (st.take n).reverse.length = n := by rw [List.length_reverse, List.length_take]; omega
          have hst : st = ((st.take n).reverse).reverse ++ st.drop n := by rw [List.reverse_reverse, List.take_append_drop]
          try dsimp only at hs
          split at hs
          · next hop1 =>
            split at hs
            · next hr =>
              cases hs
              refine ⟨j, kind, n, hlk, hk3, ⟨h3, h4, h5, h6⟩, hr.1, hr.2.1, hr.2.2, Or.inl ⟨?_, by omega, hlen, hst⟩⟩
              rcases hop with ⟨_, ho⟩ | ⟨hi, _⟩ | ⟨_, ho⟩
              · omega
              · exact hi
              · omega
            · cases hs
          · next hop1 =>
            split at hs
            · next q r hdr =>
              split at hs
              · next t N f hq =>
                split at hs
                · next hr =>
                  cases hs
                  obtain ⟨rfl, r2, r3, r4⟩ := hr
                  refine ⟨j, kind, n, hlk, hk3, ⟨h3, h4, h5, h6⟩, r3, by rw [List.map_cons, List.sum_cons]; exact r4, by omega, Or.inr ⟨q, N, f, (st.take n).reverse, ?_, rfl, hlen, by rw [← hdr]; exact hst, hq, r2⟩⟩
                  rcases hop with ⟨hi, ho⟩ | ⟨_, ho⟩ | ⟨hi, ho⟩
                  · exact Or.inl ⟨hi, by omega⟩
                  · exact absurd ho hop1
                  · exact Or.inr ⟨hi, by omega⟩
                · cases hs
              · cases hs
            · cases hs
        · cases hs
theorem pm_inv_obj {m : Nat} {i : Instr} {st : List Value} {h : pmH} {c k : Nat} {as rest : List Value} (hs : pm_inv m i st h c k = some (none, as, rest)) :
    ∃ (j y n q : Nat), i = .invokespecial j ∧ pm_look (pm_calls (pm_oc m)) j = some (y, 3, n) ∧ st = .ref q :: rest ∧ 1 ≤ pm_fr m ∧ (rest.map fun v => v.category).sum + 12 ≤ pm_lo m := by
  unfold pm_inv at hs
  dsimp only at hs
  split at hs
  · cases hs
  · next j op hj =>
    split at hs
    · cases hs
    · next y kind n hlk =>
      split at hs
      · next hk3 =>
        split at hs
        · next hop =>
          split at hs
          · next q r =>
            split at hs
            · next hr =>
              cases hs
              subst hk3
              refine ⟨j, y, n, q, ?_, hlk, rfl, hop.2, hr⟩
              split at hj
              · cases hj; exact absurd hop.1 (by decide)
              · cases hj; exact absurd hop.1 (by decide)
              · cases hj; rfl
              · cases hj
            · cases hs
          · cases hs
        · cases hs
      · split at hs
        · try dsimp only at hs
          split at hs
          · split at hs <;> cases hs
          · split at hs
            · split at hs
              · split at hs <;> cases hs
              · cases hs
            · cases hs
        · cases hs
variable {p : Program} {e : Env} {R : Room} {s : State} {mi : MethodId} {args : Array Value} {below : List Frame} {meth : Method} {co : Code} {H : Heap} {locs : List Loc} {Q : State → Prop} {ls : Array Slot} {pc : Nat}
/-- behind a call -/
theorem pm_callG {mc ms c k : Nat} {st0 rest : List Value} {a : Array Value} {h1 : pmH} {r1 : Option Value} {H0 : Heap} (hr : va_Run p l e R s mi args below meth co H locs c k mc ms (F0 mi pc ls st0) (pm_cs b sa rest) (pm_Q D cA b sa h1 r1 a) (fun q => b ≤ q)) (hSv : pm_Sv b H0 H locs)
    (kk : ∀ (H1 : Heap) (locs1 : List Loc), pm_Wd D cA b sa h1 H1 → pm_Sv b H0 H1 locs1 → W p l e R s mi args below meth co H1 locs1 (c + mc) (k + ms) Q (F0 mi (pc + 3) ls (pm_cs b sa (r1.toList ++ rest)))) : W p l e R s mi args below meth co H locs c k Q (F0 mi pc ls st0) := by
  intro T hT Xs
  obtain ⟨v, st₀, t, T', L, h0, X', hL, e1, e2, ⟨hv, hw, hf⟩, st⟩ := hr T hT Xs
  cases hv
  rw [h0] at hf
  obtain ⟨t2, a1, b1⟩ := kk T'.heap (locs ++ L) (by rw [e1]; exact hw) ⟨fun q hq => by rw [e1, hf q hq]; exact hSv.1 q hq, fun q hq => by
      rcases List.mem_append.mp hq with h | h
      · exact hSv.2 q h
      · exact hL q h⟩ T' rfl X'
  refine ⟨t2, st t2 ?_, b1⟩
  have hst : pm_cs b sa (r1.toList ++ rest) = (r1.map (pm_cv b sa)).toList ++ pm_cs b sa rest := by cases r1 <;> rfl
  rw [hst] at a1
  exact a1
end PMI
end
section
section PMJ
variable {D : va_G} {cA : Nat → ClassId} {b : Nat} {sa : Nat → Nat} {l : Launch}
variable {p : Program} {e : Env} {R : Room} {s : State} {mi : MethodId} {args : Array Value} {below : List Frame} {meth : Method} {co : Code} {H : Heap} {locs : List Loc} {Q : State → Prop} {ls : Array Slot} {pc : Nat}
theorem pm_goodM {y : Nat} (hy : pm_oc y < 15) : GoodIn pm_ws (pm_wsm y) := by
  intro w hw
  rcases List.mem_cons.mp hw with rfl | hw
  · have := (pm_okA y).2.2.2.2 (show pm_oc y ≠ 15 by omega)
    exact ⟨this, good_of_word (pm_wsgood this)⟩
  · exact ⟨hw, good_of_word (pm_wsgood hw)⟩
theorem pm_dcS {Y : MethodName} {yb mb : ByteArray} {yL mL : Nat} {yr : Option FieldType} {yR : Room} {ymc yms c k j kind n' : Nat} {ow : String} {as rest : List Value} {h h1 : pmH} {r1 : Option Value}
    (hx : p.tables.exec = Jvm.exec) (hb : co.code = mb) (hml : co.maxLocals = mL) (hts : ∀ w ∈ pm_ws, w.before args s = true) (hown : s.vm.findClass ow = some mi.cls) (hK : pm_K D cA sa s) (hls : ls.size = mL) (hW : pm_Wd D cA b sa h H) (hSv : pm_Sv b s.heap H locs)
    (hM : Met l Y (Cond.code Y yb yL yr :: pm_ws) yR (pm_P D cA b sa as h) (pm_Q D cA b sa h1 r1) ymc yms (fun q => b ≤ q)) (hG : GoodIn pm_ws (Cond.code Y yb yL yr :: pm_ws)) (hini : (Cond.initialized Y.cls).before args s = true)
    (hlink : kind < 10 → (Cond.methodLink ow j Y).before args s = true) (hnest : ¬ kind < 10 → va_Nw (.methodLinkNest ow j Y "MarkTree") s) (hd : Y.cls ≠ "java/lang/invoke/MethodHandle" ∧ Y.cls ≠ "java/lang/invoke/VarHandle" ∧ (parseMethodDescriptor Y.desc).map (fun d => d.parameters.length) = some n')
    (hrc : yR.cells = ymc) (hrs : yR.slots = yms) (hR' : yR.frames + 1 ≤ R.frames ∧ 8 + (yL + 11) + yR.locals ≤ R.locals) (hfit : c + ymc ≤ R.cells ∧ k + yms ≤ R.slots) (hrest : (rest.map fun v => v.category).sum ≤ 8) (hlen : as.length = n') (hdec : decode mb pc = .ok (.invokestatic j, 3)) (hsta : (Cond.static Y).before args s = true)
    (kk : ∀ (H1 : Heap) (locs1 : List Loc), pm_Wd D cA b sa h1 H1 → pm_Sv b s.heap H1 locs1 → W p l e R s mi args below meth co H1 locs1 (c + ymc) (k + yms) Q (F0 mi (pc + 3) ls (pm_cs b sa (r1.toList ++ rest)))) : W p l e R s mi args below meth co H locs c k Q (F0 mi pc ls (pm_cs b sa (as.reverse ++ rest))) := by
  have hpre : ∀ U : State, U.heap = H → s.WarmedH U.vm → pm_P D cA b sa as h (pm_cs b sa as).toArray U := fun U hU hWm => ⟨rfl, by rw [hU]; exact hW, hK.warm hWm⟩
  have hstk : (F0 mi pc ls (pm_cs b sa (as.reverse ++ rest))).stack = (pm_cs b sa as).reverse ++ pm_cs b sa rest := by
    show List.map (pm_cv b sa) (as.reverse ++ rest) = _
    rw [List.map_append, List.map_reverse]
  by_cases h10 : kind < 10
  · exact pm_callG (va_runS (As := pm_cs b sa as) (rest := pm_cs b sa rest) ⟨hx, hb, hml, hown, hts⟩ hM ⟨callB_of n' hts hG rfl hrc hrs hini (hlink h10) hd hR', hsta⟩ ⟨pm_blind as h, hpre⟩ rfl (by rw [List.length_map]; exact hlen) hls hstk (lv_room (by rw [pm_cat_cs]; exact hrest)) hdec hfit) hSv kk
  · exact pm_callG (va_runSN (As := pm_cs b sa as) (rest := pm_cs b sa rest) ⟨hx, hb, hml, hown, hts⟩ hM ⟨va_cnB n' hts hG rfl hrc hrs (hnest h10) hini hd hR', hsta, trivial⟩ ⟨pm_blind as h, hpre⟩ rfl (by rw [List.length_map]; exact hlen) hls hstk (lv_room (by rw [pm_cat_cs]; exact hrest)) hdec hfit) hSv kk
theorem pm_dcV {Y : MethodName} {yb mb : ByteArray} {yL mL : Nat} {yr : Option FieldType} {yR : Room} {ymc yms c k j kind n' q : Nat} {ow : String} {as' rest : List Value} {h h1 : pmH} {r1 : Option Value}
    (hx : p.tables.exec = Jvm.exec) (hb : co.code = mb) (hml : co.maxLocals = mL) (hts : ∀ w ∈ pm_ws, w.before args s = true) (hown : s.vm.findClass ow = some mi.cls) (hK : pm_K D cA sa s) (hls : ls.size = mL) (hW : pm_Wd D cA b sa h H) (hSv : pm_Sv b s.heap H locs)
    (hM : Met l Y (Cond.code Y yb yL yr :: pm_ws) yR (pm_P D cA b sa (.ref q :: as') h) (pm_Q D cA b sa h1 r1) ymc yms (fun q => b ≤ q)) (hG : GoodIn pm_ws (Cond.code Y yb yL yr :: pm_ws)) (hini : (Cond.initialized Y.cls).before args s = true)
    (hlink : kind < 10 → (Cond.methodLink ow j Y).before args s = true) (hnest : ¬ kind < 10 → va_Nw (.methodLinkNest ow j Y "MarkTree") s) (hd : Y.cls ≠ "java/lang/invoke/MethodHandle" ∧ Y.cls ≠ "java/lang/invoke/VarHandle" ∧ (parseMethodDescriptor Y.desc).map (fun d => d.parameters.length) = some n')
    (hrc : yR.cells = ymc) (hrs : yR.slots = yms) (hR' : yR.frames + 1 ≤ R.frames ∧ 8 + (yL + 11) + yR.locals ≤ R.locals) (hfit : c + ymc ≤ R.cells ∧ k + yms ≤ R.slots) (hrest : (rest.map fun v => v.category).sum ≤ 8) (hlen : as'.length = n') (hadr : pm_cv b sa (.ref q) = .ref (b + q)) (hins : (Cond.instanceMethod Y).before args s = true)
    (hop : (decode mb pc = .ok (.invokevirtual j, 3) ∧ (Cond.selects Y.cls Y Y).before args s = true ∧ ∃ cellB : Cell, H[b + q]? = some cellB ∧ cellB.vm.isStatics = false ∧ s.vm.findClass Y.cls = some cellB.cls) ∨ (decode mb pc = .ok (.invokespecial j, 3) ∧ Y.name = "<init>" ∧ yr = none))
    (kk : ∀ (H1 : Heap) (locs1 : List Loc), pm_Wd D cA b sa h1 H1 → pm_Sv b s.heap H1 locs1 → W p l e R s mi args below meth co H1 locs1 (c + ymc) (k + yms) Q (F0 mi (pc + 3) ls (pm_cs b sa (r1.toList ++ rest)))) : W p l e R s mi args below meth co H locs c k Q (F0 mi pc ls (pm_cs b sa (as'.reverse ++ .ref q :: rest))) := by
  have hpre : ∀ U : State, U.heap = H → s.WarmedH U.vm → pm_P D cA b sa (.ref q :: as') h (pm_cs b sa (.ref q :: as')).toArray U := fun U hU hWm => ⟨rfl, by rw [hU]; exact hW, hK.warm hWm⟩
  have hstk : (F0 mi pc ls (pm_cs b sa (as'.reverse ++ .ref q :: rest))).stack = (pm_cs b sa as').reverse ++ .ref (b + q) :: pm_cs b sa rest := by
    show List.map (pm_cv b sa) (as'.reverse ++ .ref q :: rest) = _
    rw [List.map_append, List.map_reverse, List.map_cons, hadr]
  have has2 : (pm_cs b sa (.ref q :: as')).toArray = (Value.ref (b + q) :: pm_cs b sa as').toArray := by rw [← hadr]; rfl
  rw [has2] at hpre
  rcases hop with ⟨hdec, hsel, hrcv⟩ | ⟨hdec, hnm, rfl⟩
  · by_cases h10 : kind < 10
    · exact pm_callG (va_runV (As := pm_cs b sa as') (rest := pm_cs b sa rest) ⟨hx, hb, hml, hown, hts⟩ hM ⟨callB_of n' hts hG rfl hrc hrs hini (hlink h10) hd hR', hins, hsel⟩ ⟨pm_blind _ h, hrcv, hpre⟩ rfl (by rw [List.length_map]; exact hlen) hls hstk (lv_room (by rw [pm_cat_cs]; exact hrest)) hdec hfit) hSv kk
    · exact pm_callG (va_runVN (As := pm_cs b sa as') (rest := pm_cs b sa rest) ⟨hx, hb, hml, hown, hts⟩ hM ⟨va_cnB n' hts hG rfl hrc hrs (hnest h10) hini hd hR', hins, hsel⟩ ⟨pm_blind _ h, hrcv, hpre⟩ rfl (by rw [List.length_map]; exact hlen) hls hstk (lv_room (by rw [pm_cat_cs]; exact hrest)) hdec hfit) hSv kk
  · by_cases h10 : kind < 10
    · exact pm_callG (va_runI (As := pm_cs b sa as') (rest := pm_cs b sa rest) ⟨hx, hb, hml, hown, hts⟩ hM ⟨callB_of n' hts hG rfl hrc hrs hini (hlink h10) hd hR', hnm, hins⟩ ⟨pm_blind _ h, hpre⟩ rfl (by rw [List.length_map]; exact hlen) hls hstk (lv_room (by rw [pm_cat_cs]; exact hrest)) hdec hfit) hSv kk
    · exact pm_callG (va_runIN (As := pm_cs b sa as') (rest := pm_cs b sa rest) ⟨hx, hb, hml, hown, hts⟩ hM ⟨va_cnB n' hts hG rfl hrc hrs (hnest h10) hini hd hR', hnm, hins⟩ ⟨pm_blind _ h, hpre⟩ rfl (by rw [List.length_map]; exact hlen) hls hstk (lv_room (by rw [pm_cat_cs]; exact hrest)) hdec hfit) hSv kk
end PMJ
end
section
section PMK
variable {D : va_G} {cA : Nat → ClassId} {b : Nat} {sa : Nat → Nat} {l : Launch}
variable {p : Program} {e : Env} {R : Room} {s : State} {mi : MethodId} {args : Array Value} {below : List Frame} {meth : Method} {co : Code} {H : Heap} {locs : List Loc} {Q : State → Prop} {ls : Array Slot} {pc : Nat}
theorem pm_dec0 {M : pmM} (hM : pm_okm M) {pc : Nat} {i : Instr} {len : Nat} (hlk : pm_look M.2.2.2.2.2.2.2.2.2.2 pc = some (i, len)) : decode M.2.1 pc = .ok (i, pm_len i len) := hM.1 (pc, i, len) (pm_look_mem hlk)
theorem pm_dec {m pc : Nat} {i : Instr} {len : Nat} (hlk : pm_look (pm_kl m) pc = some (i, len)) : decode (pm_bytes m) pc = .ok (i, pm_len i len) := pm_dec0 (pm_okA m) hlk
theorem pm_cls0 {M : pmM} (hM : pm_okm M) : M.1.cls = pm_own M.2.2.2.2.2.2.2.2.1 := hM.2.2.1
theorem pm_cls (y : Nat) : (pm_y y).cls = pm_own (pm_oc y) := pm_cls0 (pm_okA y)
theorem pm_linkY {k j y kind n : Nat} (hk3 : ¬ kind = 3) (hwords : ∀ w ∈ pm_wc k (j, y, kind, n), w ∈ pm_ws) (hts : ∀ w ∈ pm_ws, w.before args s = true) :
    (Cond.initialized (pm_y y).cls).before args s = true ∧ (kind < 10 → (Cond.methodLink (pm_own k) j (pm_y y)).before args s = true) ∧ (kind % 10 = 0 → (Cond.instanceMethod (pm_y y)).before args s = true ∧ (Cond.selects (pm_y y).cls (pm_y y) (pm_y y)).before args s = true) ∧ (kind % 10 = 1 → (Cond.static (pm_y y)).before args s = true) ∧ (kind % 10 = 2 → (Cond.instanceMethod (pm_y y)).before args s = true) := by
  unfold pm_wc at hwords
  dsimp only at hwords
  rw [if_neg hk3] at hwords
  generalize pm_y y = Y at *
  generalize pm_own k = ow at *
  refine ⟨hts _ (hwords _ (List.mem_append_left _ (List.mem_append_left _ List.mem_cons_self))), fun h10 => ?_, fun h0 => ?_, fun h0 => ?_, fun h0 => ?_⟩
  · rw [if_pos h10] at hwords
    exact hts _ (hwords _ (List.mem_append_left _ (List.mem_append_right _ List.mem_cons_self)))
  · rw [h0] at hwords
    exact ⟨hts _ (hwords _ (List.mem_append_right _ List.mem_cons_self)), hts _ (hwords _ (List.mem_append_right _ (List.mem_cons_of_mem _ List.mem_cons_self)))⟩
  · rw [h0] at hwords
    exact hts _ (hwords _ (List.mem_append_right _ List.mem_cons_self))
  · rw [h0] at hwords
    exact hts _ (hwords _ (List.mem_append_right _ List.mem_cons_self))
theorem pm_chkY {j y kind n : Nat} (hk3 : ¬ kind = 3) (hchk : pm_chkc (j, y, kind, n) = true) :
    ((pm_y y).cls ≠ "java/lang/invoke/MethodHandle" ∧ (pm_y y).cls ≠ "java/lang/invoke/VarHandle" ∧ (parseMethodDescriptor (pm_y y).desc).map (fun d => d.parameters.length) = some n) ∧ (kind % 10 = 2 → (pm_y y).name = "<init>" ∧ pm_ret y = none) := by
  unfold pm_chkc at hchk
  dsimp only at hchk
  generalize pm_y y = Y at *
  generalize pm_ret y = rt at *
  rw [Bool.or_eq_true, Bool.and_eq_true, Bool.or_eq_true, Bool.and_eq_true] at hchk
  rcases hchk with hbad | ⟨hd, hinit⟩
  · exact absurd (beq_iff_eq.mp hbad) hk3
  · refine ⟨of_decide_eq_true hd, fun h2 => ?_⟩
    rcases hinit with h | h
    · rw [h2] at h
      exact absurd h (by decide)
    · exact ⟨of_decide_eq_true h.1, of_decide_eq_true h.2⟩
theorem pm_nestY {k j y kind n : Nat} (hK : pm_K D cA sa s) (hmem : (j, y, kind, n) ∈ pm_calls k) (h10 : ¬ kind < 10) : va_Nw (.methodLinkNest (pm_own k) j (pm_y y) "MarkTree") s := by
  have h1 : (k, j, y) ∈ pm_nest := pm_nB k (j, y, kind, n) hmem h10
  have h2 := hK.2.2.1 (k, j, y) h1
  unfold pm_wn at h2
  exact h2
theorem pm_goodY {y : Nat} (hoc : pm_oc y < 15) : GoodIn pm_ws (Cond.code (pm_y y) (pm_bytes y) (pm_maxL y) (pm_ret y) :: pm_ws) := by
  have h := pm_goodM hoc
  unfold pm_wsm at h
  exact h
theorem pm_metY {n y : Nat} {as : List Value} {h h1 : pmH} {r1 : Option Value} (ih : pm_Sn D cA b sa l n) (hsb : sa 0 < b) (hcall : pm_exec none n y 0 (lv_args 0 as) [] h 0 0 = some (h1, r1)) (hlen : (as.map fun v => v.category).sum ≤ pm_maxL y) :
    Met l (pm_y y) (Cond.code (pm_y y) (pm_bytes y) (pm_maxL y) (pm_ret y) :: pm_ws) (pm_rm y) (pm_P D cA b sa as h) (pm_Q D cA b sa h1 r1) (pm_mc y) (pm_ms y) (fun q => b ≤ q) := by
  have h := pm_met ih hsb hcall hlen
  unfold pm_wsm at h
  exact h
theorem pm_rcvY {y q N : Nat} {f : Nat → Value} {h : pmH} (hK : pm_K D cA sa s) (hW : pm_Wd D cA b sa h H) (hq : h[q]? = some (pm_oc y, N, f)) (hoc : pm_oc y < 12) : ∃ cellB : Cell, H[b + q]? = some cellB ∧ cellB.vm.isStatics = false ∧ s.vm.findClass (pm_y y).cls = some cellB.cls := by
  rw [pm_cls y]
  generalize pm_oc y = t at *
  rcases hW.2.2 q _ hq with ⟨g1, r0, g2, cell, q1, q2, q3, q4⟩ | ⟨g1, -⟩
  · dsimp only at g2 q2
    refine ⟨cell, q1, by rw [q3]; rfl, ?_⟩
    have hck := (hK.1 t r0 g2).2.1
    rw [(pm_clok t r0 g2).2.2.2.1, q2]
    exact hck
  · dsimp only at g1
    omega
theorem pm_docall {n m c k y : Nat} {i : Instr} {len : Nat} {st as rest : List Value} {h h1 : pmH} {r1 : Option Value} (ih : pm_Sn D cA b sa l n) (hx : p.tables.exec = Jvm.exec) (hb : co.code = pm_bytes m) (hml : co.maxLocals = pm_maxL m) (hts : ∀ w ∈ pm_ws, w.before args s = true) (hown : s.vm.findClass (pm_own (pm_oc m)) = some mi.cls) (hK : pm_K D cA sa s) (hsb : sa 0 < b)
    (hR : pm_fr m ≤ R.frames ∧ pm_lo m ≤ R.locals ∧ pm_mc m ≤ R.cells ∧ pm_ms m ≤ R.slots) (hls : ls.size = pm_maxL m) (hW : pm_Wd D cA b sa h H) (hSv : pm_Sv b s.heap H locs) (hdec : decode (pm_bytes m) pc = .ok (i, pm_len i len))
    (hic : pm_isCall m i st h c k y as rest) (hcall : pm_exec none n y 0 (lv_args 0 as) [] h 0 0 = some (h1, r1))
    (kk : ∀ (H1 : Heap) (locs1 : List Loc), pm_Wd D cA b sa h1 H1 → pm_Sv b s.heap H1 locs1 → W p l e R s mi args below meth co H1 locs1 (c + pm_mc y) (k + pm_ms y) Q (F0 mi (pc + 3) ls (pm_cs b sa (r1.toList ++ rest)))) : W p l e R s mi args below meth co H locs c k Q (F0 mi pc ls (pm_cs b sa st)) := by
  obtain ⟨j, kind, n', hlk, hk3, ⟨f1, f2, f3, f4⟩, hrest, has, hoc, hcase⟩ := hic
  have hM := pm_metY ih hsb hcall has
  have hG := pm_goodY hoc
  have hmem : (j, y, kind, n') ∈ pm_calls (pm_oc m) := pm_look_mem hlk
  obtain ⟨hini, hlink, hk0w, hk1w, hk2w⟩ := pm_linkY (args := args) (s := s) (n := n') hk3 (fun w hw => pm_cA (pm_oc m) w (List.mem_flatMap.mpr ⟨(j, y, kind, n'), hmem, hw⟩)) hts
  obtain ⟨hd, hinit⟩ := pm_chkY hk3 (pm_cB (pm_oc m) (j, y, kind, n') hmem)
  have hnest : ¬ kind < 10 → va_Nw (.methodLinkNest (pm_own (pm_oc m)) j (pm_y y) "MarkTree") s := fun h10 => pm_nestY hK hmem h10
  have hR' : (pm_rm y).frames + 1 ≤ R.frames ∧ 8 + (pm_maxL y + 11) + (pm_rm y).locals ≤ R.locals := ⟨Nat.le_trans f1 hR.1, Nat.le_trans f2 hR.2.1⟩
  have hfit : c + pm_mc y ≤ R.cells ∧ k + pm_ms y ≤ R.slots := ⟨Nat.le_trans f3 hR.2.2.1, Nat.le_trans f4 hR.2.2.2⟩
  have hrc : (pm_rm y).cells = pm_mc y := rfl
  have hrs : (pm_rm y).slots = pm_ms y := rfl
  have hrcv : ∀ q N f, h[q]? = some (pm_oc y, N, f) → pm_oc y < 12 → ∃ cellB : Cell, H[b + q]? = some cellB ∧ cellB.vm.isStatics = false ∧ s.vm.findClass (pm_y y).cls = some cellB.cls := fun q N f hq hoc => pm_rcvY hK hW hq hoc
  clear hcall has f1 f2 f3 f4 hlk ih hmem hoc hR
  generalize pm_rm y = yR at *
  generalize pm_y y = Y at *
  generalize pm_bytes y = yb at *
  generalize pm_maxL y = yL at *
  generalize pm_ret y = yr at *
  generalize pm_mc y = ymc at *
  generalize pm_ms y = yms at *
  generalize pm_oc y = yo at *
  generalize pm_bytes m = mb at *
  generalize pm_maxL m = mL at *
  generalize pm_own (pm_oc m) = ow at *
  rcases hcase with ⟨rfl, hk1, hlen, rfl⟩ | ⟨q, N, f, as', hop, rfl, hlen, rfl, hq, hoc2⟩
  · exact pm_dcS hx hb hml hts hown hK hls hW hSv hM hG hini hlink hnest hd hrc hrs hR' hfit hrest hlen hdec (hk1w hk1) kk
  · have hadr : pm_cv b sa (.ref q) = .ref (b + q) := congrArg Value.ref (hW.lt hq).2.2
    rcases hop with ⟨rfl, hk0⟩ | ⟨rfl, hk2⟩
    · exact pm_dcV hx hb hml hts hown hK hls hW hSv hM hG hini hlink hnest hd hrc hrs hR' hfit hrest hlen hadr (hk0w hk0).1 (Or.inl ⟨hdec, (hk0w hk0).2, hrcv q N f hq hoc2⟩) kk
    · exact pm_dcV hx hb hml hts hown hK hls hW hSv hM hG hini hlink hnest hd hrc hrs hR' hfit hrest hlen hadr (hk2w hk2) (Or.inr ⟨hdec, hinit hk2⟩) kk
end PMK
end
section
set_option maxHeartbeats 4000000 in
theorem pm_sound (D : va_G) (cA : Nat → ClassId) (b : Nat) (sa : Nat → Nat) (l : Launch) : ∀ n, pm_Sn D cA b sa l n := by
  intro n
  induction n with
  | zero =>
    intro X m pc lv st h c k h' r hs
    exact absurd hs (by simp [pm_exec])
  | succ n ih =>
    intro X m pc lv st h c k h' r hs p e R s mi args below meth co H locs ls Q hx hb hml hts hown hK hX hsb hR hin hl hW hSv hc hk hend
    unfold pm_exec at hs
    split at hs
    · cases hs
    · next i len hlk =>
      have hdec : decode (pm_bytes m) pc = .ok (i, pm_len i len) := pm_dec hlk
      split at hs
      · next r0 he => cases hs; exact W.widen hc hk (hend pc i len st H locs ls hdec he hW hSv)
      · split at hs
        · next y as rest hinv =>
          split at hs
          · next h1 r1 hcall =>
            have hic := pm_inv_ok hinv
            have hbd : c + pm_mc y ≤ pm_mc m ∧ k + pm_ms y ≤ pm_ms m := by
              obtain ⟨_, _, _, _, _, ⟨_, _, q1, q2⟩, _⟩ := hic
              exact ⟨q1, q2⟩
            exact pm_docall ih hx hb hml hts hown hK hsb hR hl.1 hW hSv hdec hic hcall (fun H1 locs1 hW1 hSv1 => ih X m (pc + 3) lv _ h1 _ _ h' r hs p e R s mi args below meth co H1 locs1 ls Q hx hb hml hts hown hK hX hsb hR hin hl hW1 hSv1 hbd.1 hbd.2 hend)
          · cases hs
        · next as rest hinv =>
          obtain ⟨j, y, n', q, rfl, hlk2, rfl, hfr, hlo⟩ := pm_inv_obj hinv
          have hwords : ∀ w ∈ pm_wc (pm_oc m) (j, y, 3, n'), w ∈ pm_ws := fun w hw => pm_cA _ _ (List.mem_flatMap.mpr ⟨_, pm_look_mem hlk2, hw⟩)
          simp only [pm_wc, if_true] at hwords
          refine W.objInit hx hb hown (hts _ (hwords _ List.mem_cons_self)) (hts _ (hwords _ (List.mem_cons_of_mem _ List.mem_cons_self))) (hts _ (hwords _ (List.mem_cons_of_mem _ (List.mem_cons_of_mem _ List.mem_cons_self)))) (g := F0 mi pc ls (pm_cs b sa (.ref q :: rest))) rfl (hl.1.trans hml.symm) rfl hdec (Nat.le_trans hfr hR.1) ?_ ?_
          · show 2 * 0 + ((pm_cs b sa rest).map fun v => v.category).sum + 12 ≤ R.locals
            rw [pm_cat_cs]
            have := hR.2.1
            omega
          · exact ih X m (pc + 3) lv rest h c k h' r hs p e R s mi args below meth co H locs ls Q hx hb hml hts hown hK hX hsb hR hin hl hW hSv hc hk hend
        · split at hs
          · next pc' lv' st' h2 c' k' hstep =>
            unfold pm_step at hstep
            split at hstep
            · next q hA =>
              cases hstep
              obtain ⟨⟨rfl, rfl, rfl⟩, hk2⟩ := pm_stA (b := b) (sa := sa) (l := l) (p := p) (e := e) (R := R) (s := s) (mi := mi) (args := args) (below := below) (meth := meth) (co := co) (H := H) (locs := locs) (Q := Q) hx hb hdec hl hA
              exact hk2 (fun ls' hl' => ih X m pc' lv' st' h2 c' k' h' r hs p e R s mi args below meth co H locs ls' Q hx hb hml hts hown hK hX hsb hR hin hl' hW hSv hc hk hend)
            · obtain ⟨⟨rfl, g1, g2⟩, hk2⟩ := pm_stB (l := l) (p := p) (e := e) (R := R) (s := s) (mi := mi) (args := args) (below := below) (meth := meth) (co := co) (H := H) (locs := locs) (Q := Q) (ls := ls) hx hb hts hown hK hX hsb hR.2.2.1 hR.2.2.2 hin hdec hW hSv hstep
              exact hk2 (fun H1 locs1 hW1 hSv1 => ih X m pc' lv' st' h2 c' k' h' r hs p e R s mi args below meth co H1 locs1 ls Q hx hb hml hts hown hK hX hsb hR hin hl hW1 hSv1 (g1 hc) (g2 hk) hend)
          · cases hs
end
section
/-! THE BOX MACHINE: the pure machine over boxes. A value: (0 int, 1 long, 2 reference, 3 null; least, most; the symbol that it is (0: none), and by how much it is more). Facts: (0 'equal', 1 'less'; symbol, symbol, whether). -/
abbrev aV : Type := Nat × Int × Int × Nat × Int
abbrev aL : Type := List (Nat × aV)
abbrev aC : Type := Nat × Nat × aV × List (Nat × aV)
abbrev aH : Type := Nat × List (Nat × aC)
abbrev aF : Type := List (Nat × Nat × Nat × Bool)
def am_le (a b : Int) : Bool := match a, b with
  | .ofNat x, .ofNat y => Nat.ble x y
  | .negSucc _, .ofNat _ => true
  | .ofNat _, .negSucc _ => false
  | .negSucc x, .negSucc y => Nat.ble y x
def am_ieq (a b : Int) : Bool := am_le a b && am_le b a
def am_in32 (n : Int) : Bool := am_le (-2147483648) n && am_le n 2147483647
def am_cat (a : aV) : Nat := cond (Nat.beq a.1 1) 2 1
def am_c (n : Int) : aV := (0, n, n, 0, 0)
def am_j (n : Int) : aV := (1, n, n, 0, 0)
def am_top : aV := (0, -2147483648, 2147483647, 0, 0)
def am_ltop : aV := (1, -9223372036854775808, 9223372036854775807, 0, 0)
def am_isc (a : aV) : Bool := am_ieq a.2.1 a.2.2.1
/-- the symbol of a sum -/
def am_ids (a b : aV) : Nat × Int := cond (am_isc b) (a.2.2.2.1, a.2.2.2.2 + b.2.1) (cond (am_isc a) (b.2.2.2.1, b.2.2.2.2 + a.2.1) (0, 0))
def am_add (a b : aV) : aV := cond (am_in32 (a.2.1 + b.2.1) && am_in32 (a.2.2.1 + b.2.2.1)) (0, a.2.1 + b.2.1, a.2.2.1 + b.2.2.1, (am_ids a b).1, (am_ids a b).2) (0, -2147483648, 2147483647, (am_ids a b).1, (am_ids a b).2)
def am_sub (a b : aV) : aV := cond (am_in32 (a.2.1 - b.2.2.1) && am_in32 (a.2.2.1 - b.2.1)) (0, a.2.1 - b.2.2.1, a.2.2.1 - b.2.1, 0, 0) am_top
def am_k2 (f : Int32 → Int32 → Int32) (a b : aV) : aV := cond (am_isc a && am_isc b) (am_c (f (Int32.ofInt a.2.1) (Int32.ofInt b.2.1)).toInt) am_top
def am_l2 (f : Int64 → Int64 → Int64) (a b : aV) : aV := cond (am_isc a && am_isc b) (am_j (f (Int64.ofInt a.2.1) (Int64.ofInt b.2.1)).toInt) am_ltop
def am_l3 (f : Int64 → Int32 → Int64) (a b : aV) : aV := cond (am_isc a && am_isc b) (am_j (f (Int64.ofInt a.2.1) (Int32.ofInt b.2.1)).toInt) am_ltop
def am_and (a b : aV) : aV := cond (am_isc b && am_le 0 b.2.1 && !(am_isc a)) (0, 0, b.2.1, 0, 0) (am_k2 (fun x y => x &&& y) a b)
def am_fact (F : aF) (r i j : Nat) : Option Bool := match F with
  | [] => none
  | (r', i', j', t) :: G => cond (Nat.beq r r' && Nat.beq i i' && Nat.beq j j') (some t) (am_fact G r i j)
/-- is a less than b? -/
def am_lt (F : aF) (a b : aV) : Option Bool := cond (am_le (a.2.2.1 + 1) b.2.1) (some true) (cond (am_le b.2.2.1 a.2.1) (some false)
  (cond (Nat.beq a.2.2.2.1 0 || Nat.beq b.2.2.2.1 0 || !(am_ieq a.2.2.2.2 0) || !(am_ieq b.2.2.2.2 0)) none (am_fact F 1 a.2.2.2.1 b.2.2.2.1)))
def am_eq (F : aF) (a b : aV) : Option Bool := cond (am_isc a && am_isc b && am_ieq a.2.1 b.2.1) (some true) (cond (am_le (a.2.2.1 + 1) b.2.1 || am_le (b.2.2.1 + 1) a.2.1) (some false)
  (cond (Nat.beq a.2.2.2.1 0 || Nat.beq b.2.2.2.1 0) none (cond (Nat.beq a.2.2.2.1 b.2.2.2.1 && am_ieq a.2.2.2.2 b.2.2.2.2) (some true) (cond (am_ieq a.2.2.2.2 0 && am_ieq b.2.2.2.2 0) (am_fact F 0 a.2.2.2.1 b.2.2.2.1) none))))
def am_lcmp (F : aF) (a b : aV) : aV :=
  (0, (match am_lt F b a with
    | some true => 1
    | _ => (match am_lt F a b with
      | some false => 0
      | _ => -1)), (match am_lt F a b with
    | some true => -1
    | _ => (match am_lt F b a with
      | some false => 0
      | _ => 1)), 0, 0)
def am_st1 (ls : aL) (i : Nat) (v : aV) : aL := (i, v) :: ls.filter (fun q => !(q.1 == i) && !(q.1 + 1 == i && am_cat q.2 == 2))
def am_st2 (ls : aL) (i : Nat) (v : aV) : aL := (i, v) :: ls.filter (fun q => !(q.1 == i) && (!(q.1 == i + 1) && !(q.1 + 1 == i && am_cat q.2 == 2)))
abbrev aS : Type := Nat × aL × List aV
def am_ld (ls : aL) (st : List aV) (j t pc : Nat) : Option aS := match pm_look ls j with
  | some a => cond (Nat.beq a.1 t) (some (pc, ls, a :: st)) none
  | none => none
def am_sto (ml : Nat) (ls : aL) (st : List aV) (j t pc : Nat) : Option aS := match st with
  | a :: r => cond (Nat.beq a.1 t && Nat.blt j ml) (some (pc, am_st1 ls j a, r)) none
  | [] => none
def am_stl (ml : Nat) (ls : aL) (st : List aV) (j pc : Nat) : Option aS := match st with
  | a :: r => cond (Nat.beq a.1 1 && Nat.blt (j + 1) ml) (some (pc, am_st2 ls j a, r)) none
  | [] => none
def am_bin (ls : aL) (st : List aV) (pc t u : Nat) (f : aV → aV → aV) : Option aS := match st with
  | y :: x :: r => cond (Nat.beq y.1 t && Nat.beq x.1 u) (some (pc + 1, ls, f x y :: r)) none
  | _ => none
def am_br (b : Option Bool) (pc : Nat) (off : Int) (ls : aL) (st : List aV) : Option aS := match b, pm_tgt pc off with
  | some b, some t => some (cond b t (pc + 3), ls, st)
  | _, _ => none
def am_not (b : Option Bool) : Option Bool := match b with
  | some b => some (!b)
  | none => none
def am_stepA (F : aF) (ml : Nat) (i : Instr) (pc : Nat) (ls : aL) (st : List aV) : Option aS :=
  match i with
  | .iconst n => cond (am_in32 n) (some (pc + 1, ls, am_c n :: st)) none
  | .bipush n => cond (am_le (-128) n && am_le n 127) (some (pc + 2, ls, am_c n :: st)) none
  | .sipush n => cond (am_le (-32768) n && am_le n 32767) (some (pc + 3, ls, am_c n :: st)) none
  | .lconst n => cond (Nat.ble n 1) (some (pc + 1, ls, am_j (n : Nat) :: st)) none
  | .iload_n j => am_ld ls st j 0 (pc + 1)
  | .iload j => am_ld ls st j 0 (pc + 2)
  | .lload_n j => am_ld ls st j 1 (pc + 1)
  | .lload j => am_ld ls st j 1 (pc + 2)
  | .aload_n j => am_ld ls st j 2 (pc + 1)
  | .aload j => am_ld ls st j 2 (pc + 2)
  | .istore_n j => am_sto ml ls st j 0 (pc + 1)
  | .istore j => am_sto ml ls st j 0 (pc + 2)
  | .lstore_n j => am_stl ml ls st j (pc + 1)
  | .lstore j => am_stl ml ls st j (pc + 2)
  | .astore_n j => am_sto ml ls st j 2 (pc + 1)
  | .astore j => am_sto ml ls st j 2 (pc + 2)
  | .iinc j n => match pm_look ls j with
    | some a => cond (Nat.beq a.1 0 && Nat.blt j ml && am_in32 n) (some (pc + 3, am_st1 ls j (am_add a (am_c n)), st)) none
    | none => none
  | .dup => match st with
    | a :: r => cond (Nat.beq a.1 0 || Nat.beq a.1 2) (some (pc + 1, ls, a :: a :: r)) none
    | [] => none
  | .dup2 => match st with
    | x :: y :: r => cond (Nat.beq x.1 0 && Nat.beq y.1 2) (some (pc + 1, ls, x :: y :: x :: y :: r)) none
    | _ => none
  | .iadd => am_bin ls st pc 0 0 am_add
  | .isub => am_bin ls st pc 0 0 am_sub
  | .imul => am_bin ls st pc 0 0 (am_k2 (fun x y => x * y))
  | .idiv => match st with
    | y :: x :: r => cond (Nat.beq y.1 0 && Nat.beq x.1 0 && (am_le 1 y.2.1 || am_le y.2.2.1 (-1))) (some (pc + 1, ls, am_k2 (fun x y => x / y) x y :: r)) none
    | _ => none
  | .irem => match st with
    | y :: x :: r => cond (Nat.beq y.1 0 && Nat.beq x.1 0 && (am_le 1 y.2.1 || am_le y.2.2.1 (-1))) (some (pc + 1, ls, am_k2 (fun x y => x - x / y * y) x y :: r)) none
    | _ => none
  | .iand => am_bin ls st pc 0 0 am_and
  | .ior => am_bin ls st pc 0 0 (am_k2 (fun x y => x ||| y))
  | .ishl => am_bin ls st pc 0 0 (am_k2 (fun x y => x <<< (y &&& 31)))
  | .ishr => am_bin ls st pc 0 0 (am_k2 (fun x y => x >>> (y &&& 31)))
  | .iushr => am_bin ls st pc 0 0 (am_k2 (fun x y => (x.toUInt32 >>> (y.toUInt32 &&& Int32.toUInt32 31)).toInt32))
  | .ladd => am_bin ls st pc 1 1 (am_l2 (fun x y => x + y))
  | .lsub => am_bin ls st pc 1 1 (am_l2 (fun x y => x - y))
  | .lmul => am_bin ls st pc 1 1 (am_l2 (fun x y => x * y))
  | .land => am_bin ls st pc 1 1 (am_l2 (fun x y => x &&& y))
  | .lor => am_bin ls st pc 1 1 (am_l2 (fun x y => x ||| y))
  | .lxor => am_bin ls st pc 1 1 (am_l2 (fun x y => x ^^^ y))
  | .lshl => am_bin ls st pc 0 1 (am_l3 (fun x y => x <<< (y.toInt64 &&& 63)))
  | .lshr => am_bin ls st pc 0 1 (am_l3 (fun x y => x >>> (y.toInt64 &&& 63)))
  | .lushr => am_bin ls st pc 0 1 (am_l3 (fun x y => (x.toUInt64 >>> (y.toInt64.toUInt64 &&& Int64.toUInt64 63)).toInt64))
  | .i2l => match st with
    | a :: r => cond (Nat.beq a.1 0) (some (pc + 1, ls, (1, a.2.1, a.2.2.1, cond (am_ieq a.2.2.2.2 0) a.2.2.2.1 0, 0) :: r)) none
    | [] => none
  | .l2i => match st with
    | a :: r => cond (Nat.beq a.1 1) (some (pc + 1, ls, cond (am_isc a) (am_c (Int64.ofInt a.2.1).toInt32.toInt) am_top :: r)) none
    | [] => none
  | .lcmp => am_bin ls st pc 1 1 (am_lcmp F)
  | .goto off => match pm_tgt pc off with
    | some t => some (t, ls, st)
    | none => none
  | .if_icmp cd off => match st with
    | y :: x :: r => cond (Nat.beq y.1 0 && Nat.beq x.1 0) (match cd with
      | .eq => am_br (am_eq F x y) pc off ls r
      | .ne => am_br (am_not (am_eq F x y)) pc off ls r
      | .lt => am_br (am_lt F x y) pc off ls r
      | .ge => am_br (am_not (am_lt F x y)) pc off ls r
      | .gt => am_br (am_lt F y x) pc off ls r
      | .le => am_br (am_not (am_lt F y x)) pc off ls r) none
    | _ => none
  | .ifCond cd off => match st with
    | x :: r => cond (Nat.beq x.1 0) (match cd with
      | .eq => am_br (am_eq F x (am_c 0)) pc off ls r
      | .ne => am_br (am_not (am_eq F x (am_c 0))) pc off ls r
      | .lt => am_br (am_lt F x (am_c 0)) pc off ls r
      | .ge => am_br (am_not (am_lt F x (am_c 0))) pc off ls r
      | .gt => am_br (am_lt F (am_c 0) x) pc off ls r
      | .le => am_br (am_not (am_lt F (am_c 0) x)) pc off ls r) none
    | [] => none
  | _ => none
/-- what stands at a place of a cell -/
def am_rd (d : aV) (ov : List (Nat × aV)) (i : Nat) : aV := match pm_look ov i with
  | some a => a
  | none => cond (Nat.beq d.1 4) (2, d.2.1 + (i : Nat), d.2.1 + (i : Nat), 0, 0) d
def am_ix (a : aV) (n : Nat) : Option Nat := cond (Nat.beq a.1 0 && am_isc a && am_le 0 a.2.1 && Nat.blt a.2.1.toNat n) (some a.2.1.toNat) none
def am_okv (ty : FieldType) (a : aV) : Bool := match ty with
  | .int => Nat.beq a.1 0
  | .long => Nat.beq a.1 1
  | .boolean => Nat.beq a.1 0 && am_le 0 a.2.1 && am_le a.2.2.1 1
  | .object _ => Nat.beq a.1 2
  | .array _ => Nat.beq a.1 2
  | _ => false
def am_set (l : List (Nat × aC)) (q : Nat) (c : aC) : List (Nat × aC) := match l with
  | [] => [(q, c)]
  | e :: r => cond (Nat.beq e.1 q) ((q, c) :: r) (e :: am_set r q c)
abbrev aT : Type := Nat × aL × List aV × aH × Nat × Nat
/-- an array's element -/
def am_ald (t1 t2 : Nat) (ls : aL) (st : List aV) (h : aH) (c k pc : Nat) : Option aT := match st with
  | j :: q :: r => cond (Nat.beq q.1 2) (match pm_look h.2 q.2.1.toNat with
    | some (t, n, d, ov) => cond (Nat.beq t t1 || Nat.beq t t2) (match am_ix j n with
      | some i => cond (Nat.ble (am_rd d ov i).1 3) (some (pc + 1, ls, am_rd d ov i :: r, h, c, k)) none
      | none => none) none
    | none => none) none
  | _ => none
def am_ast (t1 u : Nat) (f : aV → aV) (ls : aL) (st : List aV) (h : aH) (c k pc : Nat) : Option aT := match st with
  | v :: j :: q :: r => cond (Nat.beq q.1 2 && Nat.beq v.1 u) (match pm_look h.2 q.2.1.toNat with
    | some (t, n, d, ov) => cond (Nat.beq t t1) (match am_ix j n with
      | some i => some (pc + 1, ls, r, (h.1, am_set h.2 q.2.1.toNat (t, n, d, (i, f v) :: ov)), c, k)
      | none => none) none
    | none => none) none
  | _ => none
def am_dv (ty : FieldType) : aV := match ty with
  | .int => am_c 0
  | .boolean => am_c 0
  | .long => am_j 0
  | .object _ => (3, 0, 0, 0, 0)
  | .array _ => (3, 0, 0, 0, 0)
  | _ => (9, 0, 0, 0, 0)
def am_fresh (ci : Nat) : Nat → List (Nat × aV)
  | 0 => []
  | n + 1 => (n, am_dv (pm_ty ci n)) :: am_fresh ci n
def am_rows (t k : Nat) (d : aV) (b : Nat) : Nat → List (Nat × aC)
  | 0 => []
  | n + 1 => (b + n, (t, k, d, [])) :: am_rows t k d b n
def am_stepB (AX : Option (Nat × List aV)) (m oc : Nat) (i : Instr) (pc : Nat) (ls : aL) (st : List aV) (h : aH) (c k : Nat) : Option aT :=
  match i with
  | .tableswitch dflt lo hi offs => match st with
    | x :: r => cond (Nat.beq x.1 0) (cond (am_le (x.2.2.1 + 1) lo || am_le (hi + 1) x.2.1) (match pm_tgt pc dflt with
        | some t => some (t, ls, r, h, c, k)
        | none => none) (cond (am_isc x) (match offs.toList[(x.2.1 - lo).toNat]? with
        | some off => (match pm_tgt pc off with
          | some t => some (t, ls, r, h, c, k)
          | none => none)
        | none => none) none)) none
    | [] => none
  | .lookupswitch dflt ps => match st with
    | x :: r => cond (Nat.beq x.1 0 && am_isc x) (if (ps.toList.zip (ps.toList.drop 1)).all (fun (a, next) => a.1 < next.1) = true then (match pm_tgt pc (Op.lookupswitch.offset ps.toList dflt x.2.1) with
        | some t => some (t, ls, r, h, c, k)
        | none => none) else none) none
    | [] => none
  | .ldc j => match pm_look (pm_cons oc) j with
    | some (.int x) => some (pc + 2, ls, am_c x.toInt :: st, h, c, k)
    | some (.ref x) => some (pc + 2, ls, (2, (x : Nat), (x : Nat), 0, 0) :: st, h, c, k)
    | _ => none
  | .ldc2_w j => match pm_look (pm_cons oc) j with
    | some (.long x) => some (pc + 3, ls, am_j x.toInt :: st, h, c, k)
    | _ => none
  | .getfield j => match st with
    | q :: r => cond (Nat.beq q.1 2) (match pm_look (pm_flds oc) j, pm_look h.2 q.2.1.toNat with
      | some (ci, f), some (t, n, d, ov) => cond (Nat.beq ci t && Nat.blt f n && Nat.ble (am_rd d ov f).1 3) (some (pc + 3, ls, am_rd d ov f :: r, h, c, k)) none
      | _, _ => none) none
    | [] => none
  | .putfield j => match st with
    | v :: q :: r => cond (Nat.beq q.1 2) (match pm_look (pm_flds oc) j, pm_look h.2 q.2.1.toNat with
      | some (ci, f), some (t, n, d, ov) => cond (Nat.beq ci t && am_okv (pm_ty ci f) v && (!(pm_fin ci f) || (Nat.beq (pm_in m) 1 && Nat.beq ci oc))) (some (pc + 3, ls, r, (h.1, am_set h.2 q.2.1.toNat (t, n, d, (f, v) :: ov)), c, k)) none
      | _, _ => none) none
    | _ => none
  | .iaload => match st with
    | j :: q :: r => cond (Nat.beq q.1 2 && am_ieq q.2.1 2000) (match AX with
      | some x => (match am_ix j x.1 with
        | some i => (match x.2[i]? with
          | some a => some (pc + 1, ls, a :: r, h, c, k)
          | none => none)
        | none => none)
      | none => none) (am_ald 20 20 ls st h c k pc)
    | _ => none
  | .laload => am_ald 21 21 ls st h c k pc
  | .baload => am_ald 22 22 ls st h c k pc
  | .aaload => am_ald 23 24 ls st h c k pc
  | .iastore => am_ast 20 0 (fun v => v) ls st h c k pc
  | .lastore => am_ast 21 1 (fun v => v) ls st h c k pc
  | .bastore => am_ast 22 0 (fun v => am_and v (am_c 1)) ls st h c k pc
  | .arraylength => match st with
    | q :: r => cond (Nat.beq q.1 2) (cond (am_ieq q.2.1 2000) (match AX with
      | some x => cond (Nat.ble x.1 100000) (some (pc + 1, ls, am_c (x.1 : Nat) :: r, h, c, k)) none
      | none => none) (match pm_look h.2 q.2.1.toNat with
      | some (t, n, _) => cond ((Nat.beq t 20 || Nat.beq t 21) && Nat.ble n 100000) (some (pc + 1, ls, am_c (n : Nat) :: r, h, c, k)) none
      | none => none)) none
    | [] => none
  | .new j => match pm_look (pm_news oc) j with
    | some ci => match pm_cl[ci]? with
      | some q => cond (Nat.ble (c + 1) (pm_mc m) && Nat.ble (k + q.2.2) (pm_ms m) && Nat.blt h.1 900) (some (pc + 3, ls, (2, (h.1 : Nat), (h.1 : Nat), 0, 0) :: st, (h.1 + 1, (h.1, (ci, q.2.2, (9, 0, 0, 0, 0), am_fresh ci q.2.2)) :: h.2), c + 1, k + q.2.2)) none
      | none => none
    | none => none
  | .newarray ty => match st with
    | n :: r => (match am_ix n 100001 with
      | some n => cond (Nat.ble (c + 1) (pm_mc m) && Nat.ble (k + n) (pm_ms m) && Nat.blt h.1 900) (match ty with
        | .int => some (pc + 2, ls, (2, (h.1 : Nat), (h.1 : Nat), 0, 0) :: r, (h.1 + 1, (h.1, (20, n, am_c 0, [])) :: h.2), c + 1, k + n)
        | .long => some (pc + 2, ls, (2, (h.1 : Nat), (h.1 : Nat), 0, 0) :: r, (h.1 + 1, (h.1, (21, n, am_j 0, [])) :: h.2), c + 1, k + n)
        | .boolean => some (pc + 2, ls, (2, (h.1 : Nat), (h.1 : Nat), 0, 0) :: r, (h.1 + 1, (h.1, (22, n, am_c 0, [])) :: h.2), c + 1, k + n)
        | _ => none) none
      | none => none)
    | [] => none
  | .multianewarray j d => match st with
    | k1 :: n1 :: r => (match pm_look (pm_mnas oc) j, am_ix k1 1001, am_ix n1 1001 with
      | some t, some k1, some n1 => cond (Nat.beq d 2 && Nat.ble (c + (1 + n1)) (pm_mc m) && Nat.ble (k + (n1 + n1 * k1)) (pm_ms m) && Nat.blt h.1 900 && (Nat.beq t 20 || Nat.beq t 21))
          (some (pc + 4, ls, (2, (h.1 : Nat), (h.1 : Nat), 0, 0) :: r, (h.1 + 1 + n1, (h.1, (t + 3, n1, (4, (h.1 + 1 : Nat), 0, 0, 0), [])) :: (h.2 ++ am_rows t k1 (cond (Nat.beq t 20) (am_c 0) (am_j 0)) (h.1 + 1) n1)), c + 1 + n1, k + n1 + n1 * k1)) none
      | _, _, _ => none)
    | _ => none
  | _ => none
def am_args : Nat → List aV → aL
  | _, [] => []
  | i, v :: vs => (i, v) :: am_args (if am_cat v = 2 then i + 2 else i + 1) vs
def am_end (m : Nat) (i : Instr) (st : List aV) : Option (Option aV) :=
  match i with
  | .ireturn => match st, pm_ret m with
    | [a], some .int => cond (Nat.beq a.1 0) (some (some a)) none
    | [a], some .boolean => cond (Nat.beq a.1 0 && am_le 0 a.2.1 && am_le a.2.2.1 1) (some (some a)) none
    | _, _ => none
  | .lreturn => match st, pm_ret m with
    | [a], some .long => cond (Nat.beq a.1 1) (some (some a)) none
    | _, _ => none
  | .return_ => match st, pm_ret m with
    | [], none => some none
    | _, _ => none
  | _ => none
def am_op (i : Instr) : Option (Nat × Nat) := match i with
    | .invokevirtual j => some (j, 0)
    | .invokestatic j => some (j, 1)
    | .invokespecial j => some (j, 2)
    | _ => none
def am_inv (m oc : Nat) (i : Instr) (st : List aV) (h : aH) (c k : Nat) : Option (Option Nat × List aV × List aV) :=
  match am_op i with
  | none => none
  | some (j, op) => match pm_look (pm_calls oc) j with
    | none => none
    | some (y, kind, n) =>
      if kind = 3 then (if op = 2 ∧ 1 ≤ pm_fr m then match st with
        | a :: r => if a.1 = 2 ∧ (r.map am_cat).sum + 12 ≤ pm_lo m then some (none, [a], r) else none
        | [] => none
        else none)
      else if kind % 10 = op ∧ n ≤ st.length ∧ pm_fr y + 1 ≤ pm_fr m ∧ 8 + (pm_maxL y + 11) + pm_lo y ≤ pm_lo m ∧ c + pm_mc y ≤ pm_mc m ∧ k + pm_ms y ≤ pm_ms m then
        (if op = 1 then (if ((st.drop n).map am_cat).sum ≤ 8 ∧ (((st.take n).reverse).map am_cat).sum ≤ pm_maxL y ∧ pm_oc y < 15 then some (some y, (st.take n).reverse, st.drop n) else none)
        else match st.drop n with
          | a :: r => if a.1 = 2 then (match pm_look h.2 a.2.1.toNat with
            | some (t, _) => if t = pm_oc y ∧ t < 12 ∧ (r.map am_cat).sum ≤ 8 ∧ 1 + (((st.take n).reverse).map am_cat).sum ≤ pm_maxL y then some (some y, a :: (st.take n).reverse, r) else none
            | none => none) else none
          | [] => none)
      else none
def am_drop (l : List (Nat × Instr × Nat)) (pc : Nat) : List (Nat × Instr × Nat) := match l with
  | [] => []
  | e :: r => cond (Nat.beq e.1 pc) (e :: r) (am_drop r pc)
def am_next (kl rest : List (Nat × Instr × Nat)) (pc : Nat) : List (Nat × Instr × Nat) := match rest with
  | e :: r => cond (Nat.beq e.1 pc) (e :: r) (am_drop kl pc)
  | [] => am_drop kl pc
def am_isret (i : Instr) : Bool := match i with
  | .ireturn => true
  | .lreturn => true
  | .return_ => true
  | _ => false
/-- (true: returned, its answer on the stack; false: come to stop; fuel left) -/
abbrev aR : Type := Bool × aL × List aV × aH × Nat × Nat × Nat
def am_exec (F : aF) : Nat → Option (Nat × List aV) → Nat → Nat → Nat → Nat → List (Nat × Instr × Nat) → aL → List aV → aH → Nat → Nat → Option aR
  | 0, _, _, _, _, _, _, _, _, _, _, _ => none
  | n + 1, AX, stop, m, oc, ml, code, ls, st, h, c, k =>
    match code with
    | [] => none
    | (pc, i, _) :: rest => cond (Nat.beq pc stop) (some (false, ls, st, h, c, k, n + 1)) (cond (am_isret i) (match am_end m i st with
        | some r => some (true, [], r.toList, h, 0, 0, 0)
        | none => none) (match am_op i with
        | some _ => (match am_inv m oc i st h c k with
          | some (some y, as, r) => (match am_exec F n none 99999 y (pm_oc y) (pm_maxL y) (pm_kl y) (am_args 0 as) [] h 0 0 with
            | some (true, _, a, h', _) => am_exec F n AX stop m oc ml (am_next (pm_kl m) rest (pc + 3)) ls (a ++ r) h' (c + pm_mc y) (k + pm_ms y)
            | _ => none)
          | some (none, _, r) => am_exec F n AX stop m oc ml (am_next (pm_kl m) rest (pc + 3)) ls r h c k
          | none => none)
        | none => (match am_stepA F ml i pc ls st with
          | some (pc', ls', st') => am_exec F n AX stop m oc ml (am_next (pm_kl m) rest pc') ls' st' h c k
          | none => (match am_stepB AX m oc i pc ls st h c k with
            | some (pc', ls', st', h', c', k') => am_exec F n AX stop m oc ml (am_next (pm_kl m) rest pc') ls' st' h' c' k'
            | none => none))))
end
section
/-! THE BOX MACHINE IS SOUND, first half: numbers, locals, stack -/
def am_I (ρ : Nat → Int32) (a : aV) (x : Int32) : Prop := a.2.1 ≤ x.toInt ∧ x.toInt ≤ a.2.2.1 ∧ (a.2.2.2.1 = 0 ∨ x = ρ a.2.2.2.1 + Int32.ofInt a.2.2.2.2)
def am_J (ρ : Nat → Int32) (a : aV) (x : Int64) : Prop := a.2.1 ≤ x.toInt ∧ x.toInt ≤ a.2.2.1 ∧ (a.2.2.2.1 = 0 ∨ (a.2.2.2.2 = 0 ∧ x.toInt = (ρ a.2.2.2.1).toInt))
def am_v (ρ : Nat → Int32) (a : aV) (v : Value) : Prop := (a.1 = 0 ∧ ∃ x, v = .int x ∧ am_I ρ a x) ∨ (a.1 = 1 ∧ ∃ x, v = .long x ∧ am_J ρ a x) ∨ (a.1 = 2 ∧ ∃ n : Nat, v = .ref n ∧ a.2.1 = (n : Int)) ∨ (a.1 = 3 ∧ v = .null)
def am_all {α β : Type} (R : α → β → Prop) : List α → List β → Prop
  | [], [] => True
  | a :: as, b :: bs => R a b ∧ am_all R as bs
  | [], _ :: _ => False
  | _ :: _, [] => False
abbrev am_ls (ρ : Nat → Int32) (a : aL) (l : pmL) : Prop := am_all (fun p q => p.1 = q.1 ∧ am_v ρ p.2 q.2) a l
abbrev am_sk (ρ : Nat → Int32) (a : List aV) (l : List Value) : Prop := am_all (am_v ρ) a l
def am_Fo (ρ : Nat → Int32) (F : aF) : Prop := ∀ e ∈ F, (e.1 = 0 → (e.2.2.2 = true ↔ ρ e.2.1 = ρ e.2.2.1)) ∧ (e.1 = 1 → (e.2.2.2 = true ↔ (ρ e.2.1).toInt < (ρ e.2.2.1).toInt))
theorem am_le_iff {a b : Int} : am_le a b = true ↔ a ≤ b := match a, b with
  | .ofNat x, .ofNat y => by show Nat.ble x y = true ↔ (x : Int) ≤ (y : Int); rw [Nat.ble_eq]; omega
  | .negSucc x, .ofNat y => ⟨fun _ => by show Int.negSucc x ≤ (y : Int); omega, fun _ => rfl⟩
  | .ofNat x, .negSucc y => ⟨fun h => (by cases h), fun h => by have h : (x : Int) ≤ Int.negSucc y := h; omega⟩
  | .negSucc x, .negSucc y => by show Nat.ble y x = true ↔ Int.negSucc x ≤ Int.negSucc y; rw [Nat.ble_eq]; omega
theorem am_ieq_iff {a b : Int} : am_ieq a b = true ↔ a = b := by
  simp only [am_ieq, Bool.and_eq_true, am_le_iff]; omega
theorem am_in32_iff {n : Int} : am_in32 n = true ↔ -2147483648 ≤ n ∧ n ≤ 2147483647 := by
  simp only [am_in32, Bool.and_eq_true, am_le_iff]
theorem am_isc_iff {a : aV} : am_isc a = true ↔ a.2.1 = a.2.2.1 := am_ieq_iff
theorem am_cond {α : Type} {b : Bool} {x : Option α} {r : α} (h : cond b x none = some r) : b = true ∧ x = some r := by
  cases b
  · cases h
  · exact ⟨rfl, h⟩
theorem am_bq {a b : Nat} (h : Nat.beq a b = true) : a = b := Nat.eq_of_beq_eq_true h
theorem am_lo32 (x : Int32) : -2147483648 ≤ x.toInt := x.le_toInt
theorem am_hi32 (x : Int32) : x.toInt ≤ 2147483647 := by have := x.toInt_lt; omega
theorem am_lo64 (x : Int64) : -9223372036854775808 ≤ x.toInt := x.le_toInt
theorem am_hi64 (x : Int64) : x.toInt ≤ 9223372036854775807 := by have := x.toInt_lt; omega
theorem am_of32 {n : Int} (h : -2147483648 ≤ n ∧ n ≤ 2147483647) : (Int32.ofInt n).toInt = n := Int32.toInt_ofInt_of_le h.1 (by have := h.2; omega)
section AMA
variable {ρ : Nat → Int32} {F : aF}
theorem am_v.int {a : aV} {v : Value} (h : am_v ρ a v) (t : a.1 = 0) : ∃ x, v = .int x ∧ am_I ρ a x := by
  rcases h with ⟨_, h⟩ | ⟨h, _⟩ | ⟨h, _⟩ | ⟨h, _⟩
  · exact h
  all_goals omega
theorem am_v.long {a : aV} {v : Value} (h : am_v ρ a v) (t : a.1 = 1) : ∃ x, v = .long x ∧ am_J ρ a x := by
  rcases h with ⟨h, _⟩ | ⟨_, h⟩ | ⟨h, _⟩ | ⟨h, _⟩
  · omega
  · exact h
  all_goals omega
theorem am_v.ref {a : aV} {v : Value} (h : am_v ρ a v) (t : a.1 = 2) : ∃ n : Nat, v = .ref n ∧ a.2.1 = (n : Int) := by
  rcases h with ⟨h, _⟩ | ⟨h, _⟩ | ⟨_, h⟩ | ⟨h, _⟩
  · omega
  · omega
  · exact h
  · omega
theorem am_v.ofI {a : aV} {x : Int32} (t : a.1 = 0) (h : am_I ρ a x) : am_v ρ a (.int x) := Or.inl ⟨t, x, rfl, h⟩
theorem am_v.ofJ {a : aV} {x : Int64} (t : a.1 = 1) (h : am_J ρ a x) : am_v ρ a (.long x) := Or.inr (Or.inl ⟨t, x, rfl, h⟩)
theorem am_v.ofR {a : aV} {n : Nat} (t : a.1 = 2) (h : a.2.1 = (n : Int)) : am_v ρ a (.ref n) := Or.inr (Or.inr (Or.inl ⟨t, n, rfl, h⟩))
theorem am_v.cat {a : aV} {v : Value} (h : am_v ρ a v) : v.category = am_cat a := by
  obtain ⟨t, r⟩ := a
  rcases h with ⟨h, x, rfl, _⟩ | ⟨h, x, rfl, _⟩ | ⟨h, x, rfl, _⟩ | ⟨h, rfl⟩ <;> (dsimp only at h; subst h; rfl)
theorem am_all.c {α β : Type} {R : α → β → Prop} {a : α} {as : List α} {l : List β} (h : am_all R (a :: as) l) : ∃ v vs, l = v :: vs ∧ R a v ∧ am_all R as vs := by
  cases l with
  | nil => exact h.elim
  | cons v vs => exact ⟨v, vs, rfl, h.1, h.2⟩
theorem am_all.n {α β : Type} {R : α → β → Prop} {l : List β} (h : am_all R [] l) : l = [] := by
  cases l with
  | nil => rfl
  | cons v vs => exact h.elim
theorem am_all.len {α β : Type} {R : α → β → Prop} : ∀ {a : List α} {l : List β}, am_all R a l → a.length = l.length
  | [], [], _ => rfl
  | _ :: _, _ :: _, h => by rw [List.length_cons, List.length_cons, h.2.len]
  | [], _ :: _, h => h.elim
  | _ :: _, [], h => h.elim
theorem am_all.app {α β : Type} {R : α → β → Prop} : ∀ {a a2 : List α} {l l2 : List β}, am_all R a l → am_all R a2 l2 → am_all R (a ++ a2) (l ++ l2)
  | [], _, [], _, _, h2 => h2
  | _ :: _, _, _ :: _, _, h, h2 => ⟨h.1, h.2.app h2⟩
  | [], _, _ :: _, _, h, _ => h.elim
  | _ :: _, _, [], _, h, _ => h.elim
theorem am_all.rev {α β : Type} {R : α → β → Prop} : ∀ {a : List α} {l : List β}, am_all R a l → am_all R a.reverse l.reverse
  | [], [], _ => trivial
  | a :: as, b :: bs, h => by
    rw [List.reverse_cons, List.reverse_cons]
    exact h.2.rev.app ⟨h.1, trivial⟩
  | [], _ :: _, h => h.elim
  | _ :: _, [], h => h.elim
theorem am_all.take {α β : Type} {R : α → β → Prop} : ∀ {a : List α} {l : List β} (n : Nat), am_all R a l → am_all R (a.take n) (l.take n)
  | _, _, 0, _ => trivial
  | [], [], _ + 1, _ => trivial
  | _ :: _, _ :: _, n + 1, h => ⟨h.1, h.2.take n⟩
  | [], _ :: _, _ + 1, h => h.elim
  | _ :: _, [], _ + 1, h => h.elim
theorem am_all.drop {α β : Type} {R : α → β → Prop} : ∀ {a : List α} {l : List β} (n : Nat), am_all R a l → am_all R (a.drop n) (l.drop n)
  | _, _, 0, h => h
  | [], [], _ + 1, _ => trivial
  | _ :: _, _ :: _, n + 1, h => h.2.drop n
  | [], _ :: _, _ + 1, h => h.elim
  | _ :: _, [], _ + 1, h => h.elim
theorem am_cats : ∀ {a : List aV} {l : List Value}, am_sk ρ a l → (l.map fun v => v.category) = a.map am_cat
  | [], [], _ => rfl
  | _ :: _, _ :: _, h => by rw [List.map_cons, List.map_cons, h.1.cat, am_cats h.2]
  | [], _ :: _, h => h.elim
  | _ :: _, [], h => h.elim
theorem am_look {j : Nat} {x : aV} : ∀ {a : aL} {l : pmL}, am_ls ρ a l → pm_look a j = some x → ∃ v, pm_look l j = some v ∧ am_v ρ x v
  | [], [], _, h => by simp [pm_look] at h
  | (i, y) :: as, (i2, w) :: bs, hl, h => by
    obtain ⟨⟨h1, h2⟩, h3⟩ := hl
    dsimp only at h1 h2
    subst h1
    unfold pm_look at h ⊢
    split at h
    · next e => cases h; rw [if_pos e]; exact ⟨w, rfl, h2⟩
    · next e => rw [if_neg e]; exact am_look h3 h
  | [], _ :: _, h, _ => h.elim
  | _ :: _, [], h, _ => h.elim
theorem am_filter {f : Nat × aV → Bool} {g : Nat × Value → Bool} (hfg : ∀ p q, p.1 = q.1 ∧ am_v ρ p.2 q.2 → f p = g q) : ∀ {a : aL} {l : pmL}, am_ls ρ a l → am_ls ρ (a.filter f) (l.filter g)
  | [], [], _ => trivial
  | p :: as, q :: bs, h => by
    rw [List.filter_cons, List.filter_cons, hfg p q h.1]
    split
    · exact ⟨h.1, am_filter hfg h.2⟩
    · exact am_filter hfg h.2
  | [], _ :: _, h => h.elim
  | _ :: _, [], h => h.elim
theorem am_st1_ok {a : aL} {l : pmL} {i : Nat} {x : aV} {v : Value} (hl : am_ls ρ a l) (hv : am_v ρ x v) : am_ls ρ (am_st1 a i x) (pm_st1 l i v) :=
  ⟨⟨rfl, hv⟩, am_filter (fun p q h => by rw [h.1, h.2.cat]) hl⟩
theorem am_st2_ok {a : aL} {l : pmL} {i : Nat} {x : aV} {v : Value} (hl : am_ls ρ a l) (hv : am_v ρ x v) : am_ls ρ (am_st2 a i x) (pm_st2 l i v) :=
  ⟨⟨rfl, hv⟩, am_filter (fun p q h => by rw [h.1, h.2.cat]) hl⟩
/-! numbers -/
theorem am_I.const {a : aV} {x : Int32} (h : am_I ρ a x) (hc : am_isc a = true) : x = Int32.ofInt a.2.1 := by
  have := am_isc_iff.mp hc
  have h1 : x.toInt = a.2.1 := by have := h.1; have := h.2.1; omega
  rw [← h1, Int32.ofInt_toInt]
theorem am_J.const {a : aV} {x : Int64} (h : am_J ρ a x) (hc : am_isc a = true) : x = Int64.ofInt a.2.1 := by
  have := am_isc_iff.mp hc
  have h1 : x.toInt = a.2.1 := by have := h.1; have := h.2.1; omega
  rw [← h1, Int64.ofInt_toInt]
theorem am_c_ok (x : Int32) : am_I ρ (am_c x.toInt) x := ⟨Int.le_refl _, Int.le_refl _, Or.inl rfl⟩
theorem am_c_of {n : Int} (h : am_in32 n = true) : am_I ρ (am_c n) (Int32.ofInt n) := by
  have := am_of32 (am_in32_iff.mp h)
  refine ⟨?_, ?_, Or.inl rfl⟩ <;> (show _ ≤ _; rw [this]; exact Int.le_refl _)
theorem am_j_ok (x : Int64) : am_J ρ (am_j x.toInt) x := ⟨Int.le_refl _, Int.le_refl _, Or.inl rfl⟩
theorem am_top_ok (x : Int32) : am_I ρ am_top x := ⟨am_lo32 x, am_hi32 x, Or.inl rfl⟩
theorem am_ltop_ok (x : Int64) : am_J ρ am_ltop x := ⟨am_lo64 x, am_hi64 x, Or.inl rfl⟩
theorem am_ids_ok {a b : aV} {x y : Int32} (hx : am_I ρ a x) (hy : am_I ρ b y) : (am_ids a b).1 = 0 ∨ x + y = ρ (am_ids a b).1 + Int32.ofInt (am_ids a b).2 := by
  unfold am_ids
  cases hb : am_isc b
  · cases ha : am_isc a
    · exact Or.inl rfl
    · rcases hy.2.2 with h | h
      · exact Or.inl h
      · right
        rw [hx.const ha]
        show Int32.ofInt a.2.1 + y = ρ b.2.2.2.1 + Int32.ofInt (b.2.2.2.2 + a.2.1)
        rw [Int32.ofInt_add, ← Int32.add_assoc, ← h, Int32.add_comm]
  · rcases hx.2.2 with h | h
    · exact Or.inl h
    · right
      rw [hy.const hb]
      show x + Int32.ofInt b.2.1 = ρ a.2.2.2.1 + Int32.ofInt (a.2.2.2.2 + b.2.1)
      rw [Int32.ofInt_add, ← Int32.add_assoc, ← h]
theorem am_add_ok {a b : aV} {x y : Int32} (hx : am_I ρ a x) (hy : am_I ρ b y) : am_I ρ (am_add a b) (x + y) := by
  have hid := am_ids_ok hx hy
  unfold am_add
  cases hc : am_in32 (a.2.1 + b.2.1) && am_in32 (a.2.2.1 + b.2.2.1)
  · exact ⟨am_lo32 _, am_hi32 _, hid⟩
  · rw [Bool.and_eq_true, am_in32_iff, am_in32_iff] at hc
    have h1 := hx.1; have h2 := hx.2.1; have h3 := hy.1; have h4 := hy.2.1
    have he : (x + y).toInt = x.toInt + y.toInt := by
      rw [Int32.toInt_add]
      exact Int.bmod_eq_of_le (by omega) (by omega)
    exact ⟨by show a.2.1 + b.2.1 ≤ _; omega, by show _ ≤ a.2.2.1 + b.2.2.1; omega, hid⟩
theorem am_sub_ok {a b : aV} {x y : Int32} (hx : am_I ρ a x) (hy : am_I ρ b y) : am_I ρ (am_sub a b) (x - y) := by
  unfold am_sub
  cases hc : am_in32 (a.2.1 - b.2.2.1) && am_in32 (a.2.2.1 - b.2.1)
  · exact am_top_ok _
  · rw [Bool.and_eq_true, am_in32_iff, am_in32_iff] at hc
    have h1 := hx.1; have h2 := hx.2.1; have h3 := hy.1; have h4 := hy.2.1
    have he : (x - y).toInt = x.toInt - y.toInt := by
      rw [Int32.toInt_sub]
      exact Int.bmod_eq_of_le (by omega) (by omega)
    exact ⟨by show a.2.1 - b.2.2.1 ≤ _; omega, by show _ ≤ a.2.2.1 - b.2.1; omega, Or.inl rfl⟩
theorem am_k2_ok {f : Int32 → Int32 → Int32} {a b : aV} {x y : Int32} (hx : am_I ρ a x) (hy : am_I ρ b y) : am_I ρ (am_k2 f a b) (f x y) := by
  unfold am_k2
  cases hc : am_isc a && am_isc b
  · exact am_top_ok _
  · rw [Bool.and_eq_true] at hc
    rw [hx.const hc.1, hy.const hc.2]
    exact am_c_ok _
theorem am_l2_ok {f : Int64 → Int64 → Int64} {a b : aV} {x y : Int64} (hx : am_J ρ a x) (hy : am_J ρ b y) : am_J ρ (am_l2 f a b) (f x y) := by
  unfold am_l2
  cases hc : am_isc a && am_isc b
  · exact am_ltop_ok _
  · rw [Bool.and_eq_true] at hc
    rw [hx.const hc.1, hy.const hc.2]
    exact am_j_ok _
theorem am_l3_ok {f : Int64 → Int32 → Int64} {a b : aV} {x : Int64} {y : Int32} (hx : am_J ρ a x) (hy : am_I ρ b y) : am_J ρ (am_l3 f a b) (f x y) := by
  unfold am_l3
  cases hc : am_isc a && am_isc b
  · exact am_ltop_ok _
  · rw [Bool.and_eq_true] at hc
    rw [hx.const hc.1, hy.const hc.2]
    exact am_j_ok _
theorem am_and_le {x y : Int32} (h : 0 ≤ y.toInt) : 0 ≤ (x &&& y).toInt ∧ (x &&& y).toInt ≤ y.toInt := by
  have e : ∀ z : Int32, z.toInt = z.toBitVec.toInt := fun z => rfl
  rw [e y] at h
  rw [e y, e (x &&& y), Int32.toBitVec_and]
  have hy : y.toBitVec.toInt = y.toBitVec.toNat := by
    rw [BitVec.toInt_eq_toNat_cond] at h ⊢
    have := y.toBitVec.isLt
    split
    · rfl
    · next hn => rw [if_neg hn] at h; omega
  have hle : (x.toBitVec &&& y.toBitVec).toNat ≤ y.toBitVec.toNat := by rw [BitVec.toNat_and]; exact Nat.and_le_right
  have hz : (x.toBitVec &&& y.toBitVec).toInt = (x.toBitVec &&& y.toBitVec).toNat := by
    rw [BitVec.toInt_eq_toNat_cond, if_pos]
    rw [BitVec.toInt_eq_toNat_cond] at hy
    have := y.toBitVec.isLt
    split at hy
    · omega
    · omega
  rw [hy, hz]
  omega
theorem am_and_ok {a b : aV} {x y : Int32} (hx : am_I ρ a x) (hy : am_I ρ b y) : am_I ρ (am_and a b) (x &&& y) := by
  unfold am_and
  cases hc : am_isc b && am_le 0 b.2.1 && !(am_isc a)
  · exact am_k2_ok (f := fun x y => x &&& y) hx hy
  · rw [Bool.and_eq_true, Bool.and_eq_true, am_le_iff] at hc
    have hb := am_isc_iff.mp hc.1.1
    have h1 := hy.1; have h2 := hy.2.1
    have := am_and_le (x := x) (y := y) (by omega)
    exact ⟨this.1, by show _ ≤ b.2.1; omega, Or.inl rfl⟩
theorem am_and_tag (a b : aV) : (am_and a b).1 = 0 := by
  unfold am_and am_k2
  cases am_isc b && am_le 0 b.2.1 && !(am_isc a)
  · cases am_isc a && am_isc b <;> rfl
  · rfl
theorem am_fact_ok {r i j : Nat} {t : Bool} : ∀ {F : aF}, am_Fo ρ F → am_fact F r i j = some t → (r, i, j, t) ∈ F
  | [], _, h => by simp [am_fact] at h
  | (r', i', j', t') :: G, hF, h => by
    unfold am_fact at h
    cases hc : Nat.beq r r' && Nat.beq i i' && Nat.beq j j'
    · rw [hc] at h
      exact List.mem_cons_of_mem _ (am_fact_ok (fun e he => hF e (List.mem_cons_of_mem _ he)) h)
    · rw [hc] at h
      rw [Bool.and_eq_true, Bool.and_eq_true] at hc
      cases h
      rw [am_bq hc.1.1, am_bq hc.1.2, am_bq hc.2]
      exact List.mem_cons_self
theorem am_lt_ok (hF : am_Fo ρ F) {a b : aV} {X Y : Int} {t : Bool} (h1 : a.2.1 ≤ X ∧ X ≤ a.2.2.1) (h2 : b.2.1 ≤ Y ∧ Y ≤ b.2.2.1) (h3 : a.2.2.2.1 = 0 ∨ (a.2.2.2.2 = 0 → X = (ρ a.2.2.2.1).toInt)) (h4 : b.2.2.2.1 = 0 ∨ (b.2.2.2.2 = 0 → Y = (ρ b.2.2.2.1).toInt)) (h : am_lt F a b = some t) : t = true ↔ X < Y := by
  unfold am_lt at h
  cases hc : am_le (a.2.2.1 + 1) b.2.1
  · rw [hc] at h
    cases hd : am_le b.2.2.1 a.2.1
    · rw [hd] at h
      cases he : (Nat.beq a.2.2.2.1 0 || Nat.beq b.2.2.2.1 0 || !(am_ieq a.2.2.2.2 0) || !(am_ieq b.2.2.2.2 0))
      · rw [he] at h
        simp only [Bool.or_eq_false_iff, Bool.not_eq_false', am_ieq_iff] at he
        obtain ⟨⟨⟨e1, e2⟩, e3⟩, e4⟩ := he
        have e1 : a.2.2.2.1 ≠ 0 := fun z => by rw [z] at e1; cases e1
        have e2 : b.2.2.2.1 ≠ 0 := fun z => by rw [z] at e2; cases e2
        have hm := (hF _ (am_fact_ok hF h)).2 rfl
        dsimp only at hm
        rw [hm, h3.resolve_left e1 e3, h4.resolve_left e2 e4]
      · rw [he] at h
        cases h
    · rw [hd] at h
      cases h
      rw [am_le_iff] at hd
      constructor
      · intro z; cases z
      · intro z; omega
  · rw [hc] at h
    cases h
    rw [am_le_iff] at hc
    constructor
    · intro _; omega
    · intro _; rfl
theorem am_ofInt0 : Int32.ofInt 0 = 0 := rfl
theorem am_I.sym {a : aV} {x : Int32} (h : am_I ρ a x) : a.2.2.2.1 = 0 ∨ (a.2.2.2.2 = 0 → x.toInt = (ρ a.2.2.2.1).toInt) := by
  rcases h.2.2 with h | h
  · exact Or.inl h
  · refine Or.inr (fun z => ?_)
    rw [h, z, am_ofInt0, Int32.add_zero]
theorem am_J.sym {a : aV} {x : Int64} (h : am_J ρ a x) : a.2.2.2.1 = 0 ∨ (a.2.2.2.2 = 0 → x.toInt = (ρ a.2.2.2.1).toInt) := by
  rcases h.2.2 with h | h
  · exact Or.inl h
  · exact Or.inr (fun _ => h.2)
theorem am_ltI (hF : am_Fo ρ F) {a b : aV} {x y : Int32} {t : Bool} (hx : am_I ρ a x) (hy : am_I ρ b y) (h : am_lt F a b = some t) : decide (x < y) = t := by
  have := am_lt_ok hF ⟨hx.1, hx.2.1⟩ ⟨hy.1, hy.2.1⟩ hx.sym hy.sym h
  rw [← Int32.lt_iff_toInt_lt] at this
  cases t
  · exact decide_eq_false (fun z => by have := this.mpr z; cases this)
  · exact decide_eq_true (this.mp rfl)
theorem am_eqI (hF : am_Fo ρ F) {a b : aV} {x y : Int32} {t : Bool} (hx : am_I ρ a x) (hy : am_I ρ b y) (h : am_eq F a b = some t) : decide (x = y) = t := by
  have h1 := hx.1; have h2 := hx.2.1; have h3 := hy.1; have h4 := hy.2.1
  unfold am_eq at h
  cases hc : am_isc a && am_isc b && am_ieq a.2.1 b.2.1
  · rw [hc] at h
    cases hd : am_le (a.2.2.1 + 1) b.2.1 || am_le (b.2.2.1 + 1) a.2.1
    · rw [hd] at h
      cases he : Nat.beq a.2.2.2.1 0 || Nat.beq b.2.2.2.1 0
      · rw [he] at h
        rw [Bool.or_eq_false_iff] at he
        have e1 : a.2.2.2.1 ≠ 0 := fun z => by rw [z] at he; cases he.1
        have e2 : b.2.2.2.1 ≠ 0 := fun z => by rw [z] at he; cases he.2
        cases hg : Nat.beq a.2.2.2.1 b.2.2.2.1 && am_ieq a.2.2.2.2 b.2.2.2.2
        · rw [hg] at h
          obtain ⟨g1, g2⟩ := am_cond h
          rw [Bool.and_eq_true, am_ieq_iff, am_ieq_iff] at g1
          have hm := (hF _ (am_fact_ok hF g2)).1 rfl
          dsimp only at hm
          have q1 := hx.2.2.resolve_left e1
          have q2 := hy.2.2.resolve_left e2
          rw [g1.1, am_ofInt0, Int32.add_zero] at q1
          rw [g1.2, am_ofInt0, Int32.add_zero] at q2
          rw [← q1, ← q2] at hm
          cases t
          · exact decide_eq_false (fun z => by have := hm.mpr z; cases this)
          · exact decide_eq_true (hm.mp rfl)
        · rw [hg] at h
          rw [Bool.and_eq_true, am_ieq_iff] at hg
          cases h
          refine decide_eq_true ?_
          rw [hx.2.2.resolve_left e1, hy.2.2.resolve_left e2, am_bq hg.1, hg.2]
      · rw [he] at h
        cases h
    · rw [hd] at h
      cases h
      rw [Bool.or_eq_true, am_le_iff, am_le_iff] at hd
      refine decide_eq_false (fun z => ?_)
      subst z
      omega
  · rw [hc] at h
    cases h
    rw [Bool.and_eq_true, Bool.and_eq_true, am_ieq_iff] at hc
    refine decide_eq_true ?_
    rw [hx.const hc.1.1, hy.const hc.1.2, hc.2]
theorem am_lcmp_ok (hF : am_Fo ρ F) {a b : aV} {x y : Int64} (hx : am_J ρ a x) (hy : am_J ρ b y) : am_I ρ (am_lcmp F a b) (lg_cmp x y) := by
  have L : ∀ t, am_lt F a b = some t → (t = true ↔ x.toInt < y.toInt) := fun t h => am_lt_ok hF ⟨hx.1, hx.2.1⟩ ⟨hy.1, hy.2.1⟩ hx.sym hy.sym h
  have G : ∀ t, am_lt F b a = some t → (t = true ↔ y.toInt < x.toInt) := fun t h => am_lt_ok hF ⟨hy.1, hy.2.1⟩ ⟨hx.1, hx.2.1⟩ hy.sym hx.sym h
  have hv : (lg_cmp x y).toInt = if y.toInt < x.toInt then 1 else if x.toInt = y.toInt then 0 else -1 := by
    unfold lg_cmp
    simp only [gt_iff_lt, Int64.lt_iff_toInt_lt, ← Int64.toInt_inj]
    split
    · rfl
    · split <;> rfl
  have L1 : am_lt F a b = some true → x.toInt < y.toInt := fun h => (L _ h).mp rfl
  have L0 : am_lt F a b = some false → ¬ x.toInt < y.toInt := fun h z => Bool.noConfusion ((L _ h).mpr z)
  have G1 : am_lt F b a = some true → y.toInt < x.toInt := fun h => (G _ h).mp rfl
  have G0 : am_lt F b a = some false → ¬ y.toInt < x.toInt := fun h z => Bool.noConfusion ((G _ h).mpr z)
  unfold am_lcmp am_I
  rw [hv]
  refine ⟨?_, ?_, Or.inl rfl⟩ <;> dsimp only
  · rcases ha : am_lt F a b with _ | _ | _ <;> rcases hb : am_lt F b a with _ | _ | _ <;> dsimp only <;> (try have l1 := L1 ha) <;> (try have l0 := L0 ha) <;> (try have g1 := G1 hb) <;> (try have g0 := G0 hb) <;> (repeat' split) <;> omega
  · rcases ha : am_lt F a b with _ | _ | _ <;> rcases hb : am_lt F b a with _ | _ | _ <;> dsimp only <;> (try have l1 := L1 ha) <;> (try have l0 := L0 ha) <;> (try have g1 := G1 hb) <;> (try have g0 := G0 hb) <;> (repeat' split) <;> omega
end AMA
end
section
/-! THE BOX MACHINE IS SOUND: steps without the heap -/
section AMB
variable {ρ : Nat → Int32} {F : aF} {m : Nat} {pc pc' : Nat} {als als' : aL} {ast ast' : List aV} {ls : pmL} {st : List Value} {hh : pmH} {c k : Nat}
def am_A (ρ : Nat → Int32) (m : Nat) (i : Instr) (pc : Nat) (ls : pmL) (st : List Value) (hh : pmH) (c k : Nat) (pc' : Nat) (als' : aL) (ast' : List aV) : Prop :=
  ∃ ls' st', pm_stepA m i pc ls st hh c k = some (pc', ls', st', hh, c, k) ∧ am_ls ρ als' ls' ∧ am_sk ρ ast' st'
theorem am_ld_ok {j t q : Nat} (hl : am_ls ρ als ls) (hs : am_sk ρ ast st) (h : am_ld als ast j t q = some (pc', als', ast')) : ∃ v a, pm_get ls j = some v ∧ a.1 = t ∧ am_v ρ a v ∧ pc' = q ∧ als' = als ∧ ast' = a :: ast := by
  unfold am_ld at h
  split at h
  · next a ha =>
    obtain ⟨h1, h2⟩ := am_cond h
    cases h2
    obtain ⟨v, h3, h4⟩ := am_look hl ha
    exact ⟨v, a, h3, am_bq h1, h4, rfl, rfl, rfl⟩
  · cases h
theorem am_blt {a b : Nat} (h : Nat.blt a b = true) : a < b := Nat.le_of_ble_eq_true h
theorem am_sto_ok {ml j t q : Nat} (hl : am_ls ρ als ls) (hs : am_sk ρ ast st) (h : am_sto ml als ast j t q = some (pc', als', ast')) : ∃ v vs a, st = v :: vs ∧ a.1 = t ∧ am_v ρ a v ∧ j < ml ∧ pc' = q ∧ am_ls ρ als' (pm_st1 ls j v) ∧ am_sk ρ ast' vs := by
  unfold am_sto at h
  split at h
  · next a r =>
    obtain ⟨h1, h2⟩ := am_cond h
    rw [Bool.and_eq_true] at h1
    cases h2
    obtain ⟨v, vs, rfl, h3, h4⟩ := hs.c
    exact ⟨v, vs, a, rfl, am_bq h1.1, h3, am_blt h1.2, rfl, am_st1_ok hl h3, h4⟩
  · cases h
theorem am_stl_ok {ml j q : Nat} (hl : am_ls ρ als ls) (hs : am_sk ρ ast st) (h : am_stl ml als ast j q = some (pc', als', ast')) : ∃ x vs, st = .long x :: vs ∧ j + 1 < ml ∧ pc' = q ∧ am_ls ρ als' (pm_st2 ls j (.long x)) ∧ am_sk ρ ast' vs := by
  unfold am_stl at h
  split at h
  · next a r =>
    obtain ⟨h1, h2⟩ := am_cond h
    rw [Bool.and_eq_true] at h1
    cases h2
    obtain ⟨v, vs, rfl, h3, h4⟩ := hs.c
    obtain ⟨x, rfl, _⟩ := h3.long (am_bq h1.1)
    exact ⟨x, vs, rfl, am_blt h1.2, rfl, am_st2_ok hl h3, h4⟩
  · cases h
theorem am_bin_ok {t u : Nat} {f : aV → aV → aV} (hs : am_sk ρ ast st) (h : am_bin als ast pc t u f = some (pc', als', ast')) : ∃ v w vs a b r, st = w :: v :: vs ∧ b.1 = t ∧ a.1 = u ∧ am_v ρ a v ∧ am_v ρ b w ∧ am_sk ρ r vs ∧ pc' = pc + 1 ∧ als' = als ∧ ast' = f a b :: r := by
  unfold am_bin at h
  split at h
  · next y x r =>
    obtain ⟨h1, h2⟩ := am_cond h
    rw [Bool.and_eq_true] at h1
    cases h2
    obtain ⟨w, vs, rfl, h3, h4⟩ := hs.c
    obtain ⟨v, vs, rfl, h5, h6⟩ := h4.c
    exact ⟨v, w, vs, x, y, r, rfl, am_bq h1.1, am_bq h1.2, h5, h3, h6, rfl, rfl, rfl⟩
  · cases h
theorem am_bII {f : aV → aV → aV} {g : Int32 → Int32 → Int32} {i : Instr} (hf : ∀ a b, a.1 = 0 → b.1 = 0 → (f a b).1 = 0) (hfg : ∀ a b x y, am_I ρ a x → am_I ρ b y → am_I ρ (f a b) (g x y)) (hg : ∀ x y r, pm_stepA m i pc ls (.int y :: .int x :: r) hh c k = some (pc + 1, ls, .int (g x y) :: r, hh, c, k)) (hl : am_ls ρ als ls) (hs : am_sk ρ ast st) (h : am_bin als ast pc 0 0 f = some (pc', als', ast')) : am_A ρ m i pc ls st hh c k pc' als' ast' := by
  obtain ⟨v, w, vs, a, b, r, rfl, hb, ha, hv, hw, hr, rfl, rfl, rfl⟩ := am_bin_ok hs h
  obtain ⟨x, rfl, hx⟩ := hv.int ha
  obtain ⟨y, rfl, hy⟩ := hw.int hb
  exact ⟨_, _, hg x y vs, hl, .ofI (hf a b ha hb) (hfg a b x y hx hy), hr⟩
theorem am_bJJ {f : aV → aV → aV} {g : Int64 → Int64 → Int64} {i : Instr} (hf : ∀ a b, (f a b).1 = 1) (hfg : ∀ a b x y, am_J ρ a x → am_J ρ b y → am_J ρ (f a b) (g x y)) (hg : ∀ x y r, pm_stepA m i pc ls (.long y :: .long x :: r) hh c k = some (pc + 1, ls, .long (g x y) :: r, hh, c, k)) (hl : am_ls ρ als ls) (hs : am_sk ρ ast st) (h : am_bin als ast pc 1 1 f = some (pc', als', ast')) : am_A ρ m i pc ls st hh c k pc' als' ast' := by
  obtain ⟨v, w, vs, a, b, r, rfl, hb, ha, hv, hw, hr, rfl, rfl, rfl⟩ := am_bin_ok hs h
  obtain ⟨x, rfl, hx⟩ := hv.long ha
  obtain ⟨y, rfl, hy⟩ := hw.long hb
  exact ⟨_, _, hg x y vs, hl, .ofJ (hf a b) (hfg a b x y hx hy), hr⟩
theorem am_bJI {f : aV → aV → aV} {g : Int64 → Int32 → Int64} {i : Instr} (hf : ∀ a b, (f a b).1 = 1) (hfg : ∀ a b x y, am_J ρ a x → am_I ρ b y → am_J ρ (f a b) (g x y)) (hg : ∀ x y r, pm_stepA m i pc ls (.int y :: .long x :: r) hh c k = some (pc + 1, ls, .long (g x y) :: r, hh, c, k)) (hl : am_ls ρ als ls) (hs : am_sk ρ ast st) (h : am_bin als ast pc 0 1 f = some (pc', als', ast')) : am_A ρ m i pc ls st hh c k pc' als' ast' := by
  obtain ⟨v, w, vs, a, b, r, rfl, hb, ha, hv, hw, hr, rfl, rfl, rfl⟩ := am_bin_ok hs h
  obtain ⟨x, rfl, hx⟩ := hv.long ha
  obtain ⟨y, rfl, hy⟩ := hw.int hb
  exact ⟨_, _, hg x y vs, hl, .ofJ (hf a b) (hfg a b x y hx hy), hr⟩
theorem am_br_ok {ob : Option Bool} {off : Int} {r : aS} (h : am_br ob pc off als ast = some r) : ∃ b t, ob = some b ∧ pm_tgt pc off = some t ∧ r = (cond b t (pc + 3), als, ast) := by
  unfold am_br at h
  split at h
  · next b t ht => exact ⟨b, t, rfl, ht, (Option.some.inj h).symm⟩
  · cases h
theorem am_not_ok {o : Option Bool} {b : Bool} (h : am_not o = some b) : o = some (!b) := by
  unfold am_not at h
  split at h
  · next b' => cases h; rw [Bool.not_not]
  · cases h
theorem am_brr {b' : Bool} {ob : Option Bool} {off : Int} {i : Instr} {r : List Value} (hl : am_ls ρ als ls) (hr : am_sk ρ ast r) (h : am_br ob pc off als ast = some (pc', als', ast')) (hb : ∀ b, ob = some b → b' = b) (hg : pm_stepA m i pc ls st hh c k = pm_br b' pc off ls r hh c k) : am_A ρ m i pc ls st hh c k pc' als' ast' := by
  obtain ⟨b, t, h1, h2, h3⟩ := am_br_ok h
  cases h3
  refine ⟨ls, r, ?_, hl, hr⟩
  rw [hg, hb b h1]
  unfold pm_br
  rw [h2]
theorem am_k2_tag (f : Int32 → Int32 → Int32) (a b : aV) : (am_k2 f a b).1 = 0 := by unfold am_k2; cases am_isc a && am_isc b <;> rfl
theorem am_l2_tag (f : Int64 → Int64 → Int64) (a b : aV) : (am_l2 f a b).1 = 1 := by unfold am_l2; cases am_isc a && am_isc b <;> rfl
theorem am_l3_tag (f : Int64 → Int32 → Int64) (a b : aV) : (am_l3 f a b).1 = 1 := by unfold am_l3; cases am_isc a && am_isc b <;> rfl
theorem am_add_tag (a b : aV) : (am_add a b).1 = 0 := by unfold am_add; cases am_in32 (a.2.1 + b.2.1) && am_in32 (a.2.2.1 + b.2.2.1) <;> rfl
theorem am_sub_tag (a b : aV) : (am_sub a b).1 = 0 := by unfold am_sub; cases am_in32 (a.2.1 - b.2.2.1) && am_in32 (a.2.2.1 - b.2.1) <;> rfl
theorem am_ne0 {a : aV} {y : Int32} (hy : am_I ρ a y) (h : (am_le 1 a.2.1 || am_le a.2.2.1 (-1)) = true) : ¬ y = 0 := by
  rw [Bool.or_eq_true, am_le_iff, am_le_iff] at h
  have h1 := hy.1; have h2 := hy.2.1
  rintro rfl
  have : (0 : Int32).toInt = 0 := rfl
  omega
theorem am_c0 : am_I ρ (am_c 0) 0 := am_c_ok 0
theorem am_le32 {x y : Int32} : decide (y ≤ x) = !decide (x < y) := by
  rw [← decide_not]
  exact decide_eq_decide.mpr Int32.not_lt.symm
theorem am_nq {x y : Int32} : decide (¬ x = y) = !decide (x = y) := decide_not
set_option maxHeartbeats 4000000 in
theorem am_stA (hF : am_Fo ρ F) {i : Instr} (hl : am_ls ρ als ls) (hs : am_sk ρ ast st) (h : am_stepA F (pm_maxL m) i pc als ast = some (pc', als', ast')) : am_A ρ m i pc ls st hh c k pc' als' ast' := by
  cases i
  case iconst n => simp only [am_stepA] at h; obtain ⟨h1, h2⟩ := am_cond h; cases h2; exact ⟨_, _, rfl, hl, .ofI rfl (am_c_of h1), hs⟩
  case bipush n =>
    simp only [am_stepA] at h; obtain ⟨h1, h2⟩ := am_cond h; cases h2
    rw [Bool.and_eq_true, am_le_iff, am_le_iff] at h1
    have e : (Int8.ofInt n).toInt32.toInt = n := by rw [Int8.toInt_toInt32]; exact Int8.toInt_ofInt_of_le h1.1 (by have := h1.2; omega)
    refine ⟨_, _, rfl, hl, .ofI rfl ?_, hs⟩
    have := am_c_ok (ρ := ρ) (Int8.ofInt n).toInt32
    rwa [e] at this
  case sipush n =>
    simp only [am_stepA] at h; obtain ⟨h1, h2⟩ := am_cond h; cases h2
    rw [Bool.and_eq_true, am_le_iff, am_le_iff] at h1
    have e : (Int16.ofInt n).toInt32.toInt = n := by rw [Int16.toInt_toInt32]; exact Int16.toInt_ofInt_of_le h1.1 (by have := h1.2; omega)
    refine ⟨_, _, rfl, hl, .ofI rfl ?_, hs⟩
    have := am_c_ok (ρ := ρ) (Int16.ofInt n).toInt32
    rwa [e] at this
  case lconst n =>
    simp only [am_stepA] at h; obtain ⟨h1, h2⟩ := am_cond h; cases h2
    have h1 := Nat.le_of_ble_eq_true h1
    refine ⟨_, _, rfl, hl, .ofJ rfl ?_, hs⟩
    have e : (Int64.ofNat n).toInt = (n : Nat) := by
      have : (n : Nat) = 0 ∨ (n : Nat) = 1 := by omega
      rcases this with z | z <;> (rw [z]; rfl)
    have := am_j_ok (ρ := ρ) (Int64.ofNat n)
    rwa [e] at this
  case iload_n j =>
    simp only [am_stepA] at h
    obtain ⟨v, a, h1, h2, h3, rfl, rfl, rfl⟩ := am_ld_ok hl hs h
    obtain ⟨x, rfl, hx⟩ := h3.int h2
    exact ⟨ls, .int x :: st, by simp only [pm_stepA, h1], hl, h3, hs⟩
  case iload j =>
    simp only [am_stepA] at h
    obtain ⟨v, a, h1, h2, h3, rfl, rfl, rfl⟩ := am_ld_ok hl hs h
    obtain ⟨x, rfl, hx⟩ := h3.int h2
    exact ⟨ls, .int x :: st, by simp only [pm_stepA, h1], hl, h3, hs⟩
  case lload_n j =>
    simp only [am_stepA] at h
    obtain ⟨v, a, h1, h2, h3, rfl, rfl, rfl⟩ := am_ld_ok hl hs h
    obtain ⟨x, rfl, hx⟩ := h3.long h2
    exact ⟨ls, .long x :: st, by simp only [pm_stepA, h1], hl, h3, hs⟩
  case lload j =>
    simp only [am_stepA] at h
    obtain ⟨v, a, h1, h2, h3, rfl, rfl, rfl⟩ := am_ld_ok hl hs h
    obtain ⟨x, rfl, hx⟩ := h3.long h2
    exact ⟨ls, .long x :: st, by simp only [pm_stepA, h1], hl, h3, hs⟩
  case aload_n j =>
    simp only [am_stepA] at h
    obtain ⟨v, a, h1, h2, h3, rfl, rfl, rfl⟩ := am_ld_ok hl hs h
    obtain ⟨x, rfl, hx⟩ := h3.ref h2
    exact ⟨ls, .ref x :: st, by simp only [pm_stepA, h1], hl, h3, hs⟩
  case aload j =>
    simp only [am_stepA] at h
    obtain ⟨v, a, h1, h2, h3, rfl, rfl, rfl⟩ := am_ld_ok hl hs h
    obtain ⟨x, rfl, hx⟩ := h3.ref h2
    exact ⟨ls, .ref x :: st, by simp only [pm_stepA, h1], hl, h3, hs⟩
  case istore_n j =>
    simp only [am_stepA] at h
    obtain ⟨v, vs, a, rfl, h2, h3, h4, rfl, h5, h6⟩ := am_sto_ok hl hs h
    obtain ⟨x, rfl, hx⟩ := h3.int h2
    exact ⟨_, _, by simp only [pm_stepA, if_pos h4], h5, h6⟩
  case istore j =>
    simp only [am_stepA] at h
    obtain ⟨v, vs, a, rfl, h2, h3, h4, rfl, h5, h6⟩ := am_sto_ok hl hs h
    obtain ⟨x, rfl, hx⟩ := h3.int h2
    exact ⟨_, _, by simp only [pm_stepA, if_pos h4], h5, h6⟩
  case lstore_n j =>
    simp only [am_stepA] at h
    obtain ⟨x, vs, rfl, h4, rfl, h5, h6⟩ := am_stl_ok hl hs h
    exact ⟨_, _, by simp only [pm_stepA, if_pos h4], h5, h6⟩
  case lstore j =>
    simp only [am_stepA] at h
    obtain ⟨x, vs, rfl, h4, rfl, h5, h6⟩ := am_stl_ok hl hs h
    exact ⟨_, _, by simp only [pm_stepA, if_pos h4], h5, h6⟩
  case astore_n j =>
    simp only [am_stepA] at h
    obtain ⟨v, vs, a, rfl, h2, h3, h4, rfl, h5, h6⟩ := am_sto_ok hl hs h
    obtain ⟨x, rfl, hx⟩ := h3.ref h2
    exact ⟨_, _, by simp only [pm_stepA, if_pos h4], h5, h6⟩
  case astore j =>
    simp only [am_stepA] at h
    obtain ⟨v, vs, a, rfl, h2, h3, h4, rfl, h5, h6⟩ := am_sto_ok hl hs h
    obtain ⟨x, rfl, hx⟩ := h3.ref h2
    exact ⟨_, _, by simp only [pm_stepA, if_pos h4], h5, h6⟩
  case iinc j n =>
    simp only [am_stepA] at h; split at h
    · next a ha =>
      obtain ⟨h1, h2⟩ := am_cond h
      cases h2
      rw [Bool.and_eq_true, Bool.and_eq_true] at h1
      obtain ⟨v, h3, h4⟩ := am_look hl ha
      obtain ⟨x, rfl, hx⟩ := h4.int (am_bq h1.1.1)
      have h3 : pm_get ls j = some (.int x) := h3
      exact ⟨_, _, by simp only [pm_stepA, h3, if_pos (am_blt h1.1.2)], am_st1_ok hl (.ofI (am_add_tag _ _) (am_add_ok hx (am_c_of h1.2))), hs⟩
    · cases h
  case dup =>
    simp only [am_stepA] at h; split at h
    · next a r =>
      obtain ⟨h1, h2⟩ := am_cond h
      cases h2
      obtain ⟨v, vs, rfl, h3, h4⟩ := hs.c
      rw [Bool.or_eq_true] at h1
      rcases h1 with h1 | h1
      · obtain ⟨x, rfl, hx⟩ := h3.int (am_bq h1)
        exact ⟨_, _, rfl, hl, h3, h3, h4⟩
      · obtain ⟨x, rfl, hx⟩ := h3.ref (am_bq h1)
        exact ⟨_, _, rfl, hl, h3, h3, h4⟩
    · cases h
  case dup2 =>
    simp only [am_stepA] at h; split at h
    · next a b r =>
      obtain ⟨h1, h2⟩ := am_cond h
      cases h2
      obtain ⟨v, vs, rfl, h3, h4⟩ := hs.c
      obtain ⟨w, vs, rfl, h5, h6⟩ := h4.c
      rw [Bool.and_eq_true] at h1
      obtain ⟨x, rfl, hx⟩ := h3.int (am_bq h1.1)
      obtain ⟨y, rfl, hy⟩ := h5.ref (am_bq h1.2)
      exact ⟨_, _, rfl, hl, h3, h5, h3, h5, h6⟩
    · cases h
  case iadd => exact am_bII (g := fun x y => x + y) (fun a b _ _ => am_add_tag a b) (fun a b x y => am_add_ok) (fun x y r => rfl) hl hs h
  case isub => exact am_bII (g := fun x y => x - y) (fun a b _ _ => am_sub_tag a b) (fun a b x y => am_sub_ok) (fun x y r => rfl) hl hs h
  case imul => exact am_bII (g := fun x y => x * y) (fun a b _ _ => am_k2_tag _ a b) (fun a b x y => am_k2_ok) (fun x y r => rfl) hl hs h
  case idiv =>
    simp only [am_stepA] at h; split at h
    · next y x r =>
      obtain ⟨h1, h2⟩ := am_cond h
      cases h2
      rw [Bool.and_eq_true, Bool.and_eq_true] at h1
      obtain ⟨v, vs, rfl, h3, h4⟩ := hs.c
      obtain ⟨w, vs, rfl, h5, h6⟩ := h4.c
      obtain ⟨y', rfl, hy⟩ := h3.int (am_bq h1.1.1)
      obtain ⟨x', rfl, hx⟩ := h5.int (am_bq h1.1.2)
      exact ⟨ls, .int (x' / y') :: vs, by simp only [pm_stepA, if_neg (am_ne0 hy h1.2)], hl, .ofI (am_k2_tag _ _ _) (am_k2_ok (f := fun x y => x / y) hx hy), h6⟩
    · cases h
  case irem =>
    simp only [am_stepA] at h; split at h
    · next y x r =>
      obtain ⟨h1, h2⟩ := am_cond h
      cases h2
      rw [Bool.and_eq_true, Bool.and_eq_true] at h1
      obtain ⟨v, vs, rfl, h3, h4⟩ := hs.c
      obtain ⟨w, vs, rfl, h5, h6⟩ := h4.c
      obtain ⟨y', rfl, hy⟩ := h3.int (am_bq h1.1.1)
      obtain ⟨x', rfl, hx⟩ := h5.int (am_bq h1.1.2)
      exact ⟨ls, .int (x' - x' / y' * y') :: vs, by simp only [pm_stepA, if_neg (am_ne0 hy h1.2)], hl, .ofI (am_k2_tag _ _ _) (am_k2_ok (f := fun x y => x - x / y * y) hx hy), h6⟩
    · cases h
  case iand => exact am_bII (g := fun x y => x &&& y) (fun a b _ _ => am_and_tag a b) (fun a b x y => am_and_ok) (fun x y r => rfl) hl hs h
  case ior => exact am_bII (g := fun x y => x ||| y) (fun a b _ _ => am_k2_tag _ a b) (fun a b x y => am_k2_ok) (fun x y r => rfl) hl hs h
  case ishl => exact am_bII (g := fun x y => x <<< (y &&& 31)) (fun a b _ _ => am_k2_tag _ a b) (fun a b x y => am_k2_ok) (fun x y r => rfl) hl hs h
  case ishr => exact am_bII (g := fun x y => x >>> (y &&& 31)) (fun a b _ _ => am_k2_tag _ a b) (fun a b x y => am_k2_ok) (fun x y r => rfl) hl hs h
  case iushr => exact am_bII (g := fun x y => (x.toUInt32 >>> (y.toUInt32 &&& Int32.toUInt32 31)).toInt32) (fun a b _ _ => am_k2_tag _ a b) (fun a b x y => am_k2_ok) (fun x y r => rfl) hl hs h
  case ladd => exact am_bJJ (g := fun x y => x + y) (fun a b => am_l2_tag _ a b) (fun a b x y => am_l2_ok) (fun x y r => rfl) hl hs h
  case lsub => exact am_bJJ (g := fun x y => x - y) (fun a b => am_l2_tag _ a b) (fun a b x y => am_l2_ok) (fun x y r => rfl) hl hs h
  case lmul => exact am_bJJ (g := fun x y => x * y) (fun a b => am_l2_tag _ a b) (fun a b x y => am_l2_ok) (fun x y r => rfl) hl hs h
  case land => exact am_bJJ (g := fun x y => x &&& y) (fun a b => am_l2_tag _ a b) (fun a b x y => am_l2_ok) (fun x y r => rfl) hl hs h
  case lor => exact am_bJJ (g := fun x y => x ||| y) (fun a b => am_l2_tag _ a b) (fun a b x y => am_l2_ok) (fun x y r => rfl) hl hs h
  case lxor => exact am_bJJ (g := fun x y => x ^^^ y) (fun a b => am_l2_tag _ a b) (fun a b x y => am_l2_ok) (fun x y r => rfl) hl hs h
  case lshl => exact am_bJI (g := fun x y => x <<< (y.toInt64 &&& 63)) (fun a b => am_l3_tag _ a b) (fun a b x y => am_l3_ok) (fun x y r => rfl) hl hs h
  case lshr => exact am_bJI (g := fun x y => x >>> (y.toInt64 &&& 63)) (fun a b => am_l3_tag _ a b) (fun a b x y => am_l3_ok) (fun x y r => rfl) hl hs h
  case lushr => exact am_bJI (g := fun x y => (x.toUInt64 >>> (y.toInt64.toUInt64 &&& Int64.toUInt64 63)).toInt64) (fun a b => am_l3_tag _ a b) (fun a b x y => am_l3_ok) (fun x y r => rfl) hl hs h
  case i2l =>
    simp only [am_stepA] at h; split at h
    · next a r =>
      obtain ⟨h1, h2⟩ := am_cond h
      cases h2
      obtain ⟨v, vs, rfl, h3, h4⟩ := hs.c
      obtain ⟨x, rfl, hx⟩ := h3.int (am_bq h1)
      refine ⟨_, _, rfl, hl, .ofJ rfl ⟨?_, ?_, ?_⟩, h4⟩
      · show a.2.1 ≤ _; rw [Int32.toInt_toInt64]; exact hx.1
      · show _ ≤ a.2.2.1; rw [Int32.toInt_toInt64]; exact hx.2.1
      · show (cond (am_ieq a.2.2.2.2 0) a.2.2.2.1 0) = 0 ∨ _
        cases ho : am_ieq a.2.2.2.2 0
        · exact Or.inl rfl
        · rcases hx.sym with z | z
          · exact Or.inl z
          · exact Or.inr ⟨rfl, by rw [Int32.toInt_toInt64]; exact z (am_ieq_iff.mp ho)⟩
    · cases h
  case l2i =>
    simp only [am_stepA] at h; split at h
    · next a r =>
      obtain ⟨h1, h2⟩ := am_cond h
      cases h2
      obtain ⟨v, vs, rfl, h3, h4⟩ := hs.c
      obtain ⟨x, rfl, hx⟩ := h3.long (am_bq h1)
      refine ⟨_, _, rfl, hl, ?_, h4⟩
      cases hc : am_isc a
      · exact .ofI rfl (am_top_ok _)
      · rw [hx.const hc]
        exact .ofI rfl (am_c_ok _)
    · cases h
  case lcmp =>
    simp only [am_stepA] at h
    obtain ⟨v, w, vs, a, b, r, rfl, hb, ha, hv, hw, hr, rfl, rfl, rfl⟩ := am_bin_ok hs h
    obtain ⟨x, rfl, hx⟩ := hv.long ha
    obtain ⟨y, rfl, hy⟩ := hw.long hb
    exact ⟨_, _, rfl, hl, .ofI rfl (am_lcmp_ok hF hx hy), hr⟩
  case goto off =>
    simp only [am_stepA] at h; split at h
    · next t ht => cases h; exact ⟨_, _, by simp only [pm_stepA, ht], hl, hs⟩
    · cases h
  case if_icmp cd off =>
    simp only [am_stepA] at h; split at h
    · next y x r =>
      obtain ⟨h1, h2⟩ := am_cond h
      rw [Bool.and_eq_true] at h1
      obtain ⟨v, vs, rfl, h3, h4⟩ := hs.c
      obtain ⟨w, vs, rfl, h5, h6⟩ := h4.c
      obtain ⟨y', rfl, hy⟩ := h3.int (am_bq h1.1)
      obtain ⟨x', rfl, hx⟩ := h5.int (am_bq h1.2)
      cases cd <;> simp only at h2
      case eq => exact am_brr (b' := decide (x' = y')) hl h6 h2 (fun b hb => am_eqI hF hx hy hb) rfl
      case ne => exact am_brr (b' := decide (¬ x' = y')) hl h6 h2 (fun b hb => by rw [am_nq, am_eqI hF hx hy (am_not_ok hb), Bool.not_not]) rfl
      case lt => exact am_brr (b' := decide (x' < y')) hl h6 h2 (fun b hb => am_ltI hF hx hy hb) rfl
      case ge => exact am_brr (b' := decide (y' ≤ x')) hl h6 h2 (fun b hb => by rw [am_le32, am_ltI hF hx hy (am_not_ok hb), Bool.not_not]) rfl
      case gt => exact am_brr (b' := decide (y' < x')) hl h6 h2 (fun b hb => am_ltI hF hy hx hb) rfl
      case le => exact am_brr (b' := decide (x' ≤ y')) hl h6 h2 (fun b hb => by rw [am_le32, am_ltI hF hy hx (am_not_ok hb), Bool.not_not]) rfl
    · cases h
  case ifCond cd off =>
    simp only [am_stepA] at h; split at h
    · next x r =>
      obtain ⟨h1, h2⟩ := am_cond h
      obtain ⟨w, vs, rfl, h5, h6⟩ := hs.c
      obtain ⟨x', rfl, hx⟩ := h5.int (am_bq h1)
      have hy := am_c0 (ρ := ρ)
      cases cd <;> simp only at h2
      case eq => exact am_brr (b' := decide (x' = 0)) hl h6 h2 (fun b hb => am_eqI hF hx hy hb) rfl
      case ne => exact am_brr (b' := decide (¬ x' = 0)) hl h6 h2 (fun b hb => by rw [am_nq, am_eqI hF hx hy (am_not_ok hb), Bool.not_not]) rfl
      case lt => exact am_brr (b' := decide (x' < 0)) hl h6 h2 (fun b hb => am_ltI hF hx hy hb) rfl
      case ge => exact am_brr (b' := decide (0 ≤ x')) hl h6 h2 (fun b hb => by rw [am_le32, am_ltI hF hx hy (am_not_ok hb), Bool.not_not]) rfl
      case gt => exact am_brr (b' := decide (0 < x')) hl h6 h2 (fun b hb => am_ltI hF hy hx hb) rfl
      case le => exact am_brr (b' := decide (x' ≤ 0)) hl h6 h2 (fun b hb => by rw [am_le32, am_ltI hF hy hx (am_not_ok hb), Bool.not_not]) rfl
    · cases h
  all_goals exact absurd h (by simp [am_stepA])
end AMB
end
section
/-! THE BOX MACHINE IS SOUND: the heap -/
def am_C (ρ : Nat → Int32) (a : aC) (x : pmC) : Prop := x.1 = a.1 ∧ x.2.1 = a.2.1 ∧ ∀ i, i < a.2.1 → (am_rd a.2.2.1 a.2.2.2 i).1 = 9 ∨ am_v ρ (am_rd a.2.2.1 a.2.2.2 i) (x.2.2 i)
def am_H (ρ : Nat → Int32) (a : aH) (h : pmH) : Prop := h.length = a.1 ∧ ∀ q x, pm_look a.2 q = some x → ∃ y, h[q]? = some y ∧ am_C ρ x y
def am_X (ρ : Nat → Int32) (AX : Option (Nat × List aV)) (X : pmX) : Prop := ∀ x, AX = some x → ∃ f, X = some (x.1, f) ∧ ∀ i a, x.2[i]? = some a → am_v ρ a (.int (f i))
theorem am_set_look {q q' : Nat} {c : aC} : ∀ {l : List (Nat × aC)}, pm_look (am_set l q c) q' = if q = q' then some c else pm_look l q'
  | [] => rfl
  | (j, a) :: r => by
    unfold am_set
    cases hj : Nat.beq j q
    · show pm_look ((j, a) :: am_set r q c) q' = _
      unfold pm_look
      have hne : j ≠ q := fun z => by rw [z, Nat.beq_refl] at hj; cases hj
      split
      · next e => rw [if_neg (fun z => hne (by rw [e, z]))]
      · exact am_set_look
    · show pm_look ((q, c) :: r) q' = _
      have hj := am_bq hj
      subst hj
      show (if j = q' then some c else pm_look r q') = if j = q' then some c else (if j = q' then some a else pm_look r q')
      split <;> rfl
theorem am_look_app {α : Type} {q : Nat} {x : α} : ∀ {l l2 : List (Nat × α)}, pm_look (l ++ l2) q = some x → pm_look l q = some x ∨ pm_look l2 q = some x
  | [], _, h => Or.inr h
  | (j, a) :: r, l2, h => by
    have h : (if j = q then some a else pm_look (r ++ l2) q) = some x := h
    show (if j = q then some a else pm_look r q) = some x ∨ _
    split at h
    · next e => rw [if_pos e]; exact Or.inl h
    · next e => rw [if_neg e]; exact am_look_app h
section AMC
variable {ρ : Nat → Int32}
theorem am_H.set {ah : aH} {h : pmH} {q : Nat} {a a' : aC} {x' : pmC} (hH : am_H ρ ah h) (hq : pm_look ah.2 q = some a) (hc : am_C ρ a' x') : am_H ρ (ah.1, am_set ah.2 q a') (h.set q x') := by
  refine ⟨by rw [List.length_set]; exact hH.1, fun q2 x hx => ?_⟩
  dsimp only at hx
  rw [am_set_look] at hx
  obtain ⟨y, hy, -⟩ := hH.2 _ _ hq
  split at hx
  · next e => subst e; cases hx; exact ⟨x', List.getElem?_set_self (List.getElem?_eq_some_iff.mp hy).1, hc⟩
  · next e =>
    obtain ⟨z, hz, hzc⟩ := hH.2 _ _ hx
    exact ⟨z, by rw [List.getElem?_set_ne e]; exact hz, hzc⟩
theorem am_H.lt {ah : aH} {h : pmH} {q : Nat} {a : aC} (hH : am_H ρ ah h) (hq : pm_look ah.2 q = some a) : q < ah.1 := by
  obtain ⟨y, hy, -⟩ := hH.2 _ _ hq
  have := (List.getElem?_eq_some_iff.mp hy).1
  rw [hH.1] at this
  exact this
theorem am_H.new {ah : aH} {h : pmH} {a : aC} {x : pmC} (hH : am_H ρ ah h) (hc : am_C ρ a x) : am_H ρ (ah.1 + 1, (ah.1, a) :: ah.2) (h ++ [x]) := by
  refine ⟨by rw [List.length_append, hH.1]; rfl, fun q y hy => ?_⟩
  replace hy : (if ah.1 = q then some a else pm_look ah.2 q) = some y := hy
  split at hy
  · next e => subst e; cases hy; exact ⟨x, by rw [← hH.1, List.getElem?_append_right (Nat.le_refl _), Nat.sub_self]; rfl, hc⟩
  · obtain ⟨z, hz, hzc⟩ := hH.2 _ _ hy
    exact ⟨z, by rw [List.getElem?_append_left (List.getElem?_eq_some_iff.mp hz).1]; exact hz, hzc⟩
theorem am_rows_look {t k b q : Nat} {d : aV} {y : aC} : ∀ {n : Nat}, pm_look (am_rows t k d b n) q = some y → ∃ j, j < n ∧ q = b + j ∧ y = (t, k, d, [])
  | 0, h => by simp [am_rows, pm_look] at h
  | n + 1, h => by
    have h : (if b + n = q then some ((t, k, d, []) : aC) else pm_look (am_rows t k d b n) q) = some y := h
    split at h
    · next e => cases h; exact ⟨n, Nat.lt_succ_self n, e.symm, rfl⟩
    · obtain ⟨j, h1, h2, h3⟩ := am_rows_look h
      exact ⟨j, Nat.lt_succ_of_lt h1, h2, h3⟩
theorem am_H.mna {ah : aH} {h : pmH} {t k n : Nat} {d : aV} {v : Value} (hH : am_H ρ ah h) (hd : am_v ρ d v) (h4 : d.1 ≠ 4) : am_H ρ (ah.1 + 1 + n, (ah.1, (t + 3, n, (4, (ah.1 + 1 : Nat), 0, 0, 0), [])) :: (ah.2 ++ am_rows t k d (ah.1 + 1) n)) (h ++ (pm_rows (t + 3) n (h.length + 1) :: List.replicate n (pm_mk t k v))) := by
  refine ⟨by rw [List.length_append, List.length_cons, List.length_replicate, hH.1]; dsimp only; omega, fun q y hy => ?_⟩
  replace hy : (if ah.1 = q then some ((t + 3, n, (4, ((ah.1 + 1 : Nat) : Int), 0, 0, 0), []) : aC) else pm_look (ah.2 ++ am_rows t k d (ah.1 + 1) n) q) = some y := hy
  split at hy
  · next e =>
    subst e
    cases hy
    refine ⟨pm_rows (t + 3) n (h.length + 1), by rw [← hH.1, List.getElem?_append_right (Nat.le_refl _), Nat.sub_self]; rfl, rfl, rfl, fun i hi => Or.inr ?_⟩
    refine .ofR (n := h.length + 1 + i) rfl ?_
    show ((ah.1 + 1 : Nat) : Int) + (i : Nat) = ((h.length + 1 + i : Nat) : Int)
    rw [hH.1]
    omega
  · rcases am_look_app hy with hy | hy
    · obtain ⟨z, hz, hzc⟩ := hH.2 _ _ hy
      exact ⟨z, by rw [List.getElem?_append_left (List.getElem?_eq_some_iff.mp hz).1]; exact hz, hzc⟩
    · obtain ⟨j, hj, rfl, rfl⟩ := am_rows_look hy
      refine ⟨pm_mk t k v, ?_, rfl, rfl, fun i _ => Or.inr ?_⟩
      · rw [List.getElem?_append_right (by rw [hH.1]; omega), hH.1, show ah.1 + 1 + j - ah.1 = j + 1 by omega, List.getElem?_cons_succ, List.getElem?_replicate, if_pos hj]
      · show am_v ρ (cond (Nat.beq d.1 4) _ d) v
        have : Nat.beq d.1 4 = false := by
          cases hb : Nat.beq d.1 4
          · rfl
          · exact absurd (am_bq hb) h4
        rw [this]
        exact hd
theorem am_fresh_look {ci i : Nat} : ∀ {n : Nat}, i < n → pm_look (am_fresh ci n) i = some (am_dv (pm_ty ci i))
  | 0, h => absurd h (Nat.not_lt_zero _)
  | n + 1, h => by
    show (if n = i then some (am_dv (pm_ty ci n)) else pm_look (am_fresh ci n) i) = _
    split
    · next e => rw [e]
    · exact am_fresh_look (by omega)
theorem am_dv_ok (ty : FieldType) : (am_dv ty).1 = 9 ∨ am_v ρ (am_dv ty) (defaultValue ty) := by
  cases ty
  case int => exact Or.inr (.ofI rfl (am_c_ok 0))
  case boolean => exact Or.inr (.ofI rfl (am_c_ok 0))
  case long => exact Or.inr (.ofJ rfl (am_j_ok 0))
  case object => exact Or.inr (Or.inr (Or.inr (Or.inr ⟨rfl, rfl⟩)))
  case array => exact Or.inr (Or.inr (Or.inr (Or.inr ⟨rfl, rfl⟩)))
  all_goals exact Or.inl rfl
theorem am_obj_ok (ci n : Nat) : am_C ρ (ci, n, (9, 0, 0, 0, 0), am_fresh ci n) (pm_obj ci n) := by
  refine ⟨rfl, rfl, fun i hi => ?_⟩
  show (am_rd (9, 0, 0, 0, 0) (am_fresh ci n) i).1 = 9 ∨ am_v ρ (am_rd (9, 0, 0, 0, 0) (am_fresh ci n) i) (defaultValue (pm_ty ci i))
  unfold am_rd
  rw [am_fresh_look hi]
  exact am_dv_ok _
theorem am_mk_ok {t n : Nat} {d : aV} {v : Value} (hd : am_v ρ d v) (h4 : d.1 ≠ 4) : am_C ρ (t, n, d, []) (pm_mk t n v) := by
  refine ⟨rfl, rfl, fun i hi => Or.inr ?_⟩
  show am_v ρ (cond (Nat.beq d.1 4) _ d) v
  have : Nat.beq d.1 4 = false := by
    cases hb : Nat.beq d.1 4
    · rfl
    · exact absurd (am_bq hb) h4
  rw [this]
  exact hd
/-- a place of a cell, written -/
theorem am_C.upd {t n : Nat} {d : aV} {ov : List (Nat × aV)} {x : pmC} {i : Nat} {a : aV} {v : Value} (h : am_C ρ (t, n, d, ov) x) (hv : am_v ρ a v) : am_C ρ (t, n, d, (i, a) :: ov) (x.1, x.2.1, pm_upd x.2.2 i v) := by
  refine ⟨h.1, h.2.1, fun j hj => ?_⟩
  have hr : am_rd d ((i, a) :: ov) j = if i = j then a else am_rd d ov j := by
    show (match (if i = j then some a else pm_look ov j) with | some a => a | none => _) = _
    split <;> (split <;> rename_i h1 h2 <;> first | (rw [if_pos h2] at h1; cases h1; rfl) | (rw [if_neg h2] at h1; unfold am_rd; rw [h1]) | (rw [if_pos h2] at h1; cases h1))
  show (am_rd d ((i, a) :: ov) j).1 = 9 ∨ am_v ρ (am_rd d ((i, a) :: ov) j) (if j = i then v else x.2.2 j)
  rw [hr]
  by_cases e : i = j
  · rw [if_pos e, if_pos e.symm]; exact Or.inr hv
  · rw [if_neg e, if_neg (fun z => e z.symm)]; exact h.2.2 j hj
theorem am_tn {x : Int32} : x.toNatClampNeg = x.toInt.toNat := rfl
theorem am_ix_ok {a : aV} {v : Value} {n i : Nat} (h : am_ix a n = some i) (hv : am_v ρ a v) : ∃ x, v = .int x ∧ pm_ix x n = true ∧ x.toNatClampNeg = i ∧ i < n ∧ 0 ≤ x := by
  unfold am_ix at h
  obtain ⟨h1, h2⟩ := am_cond h
  rw [Bool.and_eq_true, Bool.and_eq_true, Bool.and_eq_true, am_le_iff] at h1
  obtain ⟨⟨⟨h3, h4⟩, h5⟩, h6⟩ := h1
  obtain ⟨x, rfl, hx⟩ := hv.int (am_bq h3)
  have h4 := am_isc_iff.mp h4
  have h6 := am_blt h6
  cases h2
  have e : x.toInt = a.2.1 := by have := hx.1; have := hx.2.1; omega
  have h0 : 0 ≤ x := by rw [Int32.le_iff_toInt_le]; show 0 ≤ x.toInt; omega
  refine ⟨x, rfl, ?_, ?_, h6, h0⟩
  · unfold pm_ix
    rw [am_tn, e, Bool.and_eq_true]
    exact ⟨decide_eq_true h0, decide_eq_true h6⟩
  · rw [am_tn, e]
theorem am_okv_ok {ty : FieldType} {a : aV} {v : Value} (h : am_okv ty a = true) (hv : am_v ρ a v) : pm_okv ty v = true := by
  unfold pm_okv
  cases ty <;> simp only [am_okv, Bool.false_eq_true] at h
  case int => obtain ⟨x, rfl, _⟩ := hv.int (am_bq h); rw [decide_eq_true (show narrow .int (.int x) = .int x from rfl)]; rfl
  case long => obtain ⟨x, rfl, _⟩ := hv.long (am_bq h); rw [decide_eq_true (show narrow .long (.long x) = .long x from rfl)]; rfl
  case boolean =>
    rw [Bool.and_eq_true, Bool.and_eq_true, am_le_iff, am_le_iff] at h
    obtain ⟨x, rfl, hx⟩ := hv.int (am_bq h.1.1)
    have h1 := hx.1; have h2 := hx.2.1
    have : x = 0 ∨ x = 1 := by
      rw [← Int32.toInt_inj, ← Int32.toInt_inj]
      have e0 : (0 : Int32).toInt = 0 := rfl
      have e1 : (1 : Int32).toInt = 1 := rfl
      omega
    rcases this with rfl | rfl <;> decide
  case object => obtain ⟨x, rfl, _⟩ := hv.ref (am_bq h); rw [decide_eq_true (show narrow (.object _) (.ref x) = .ref x from rfl)]; rfl
  case array => obtain ⟨x, rfl, _⟩ := hv.ref (am_bq h); rw [decide_eq_true (show narrow (.array _) (.ref x) = .ref x from rfl)]; rfl
end AMC
end
section
/-! THE BOX MACHINE IS SOUND: steps with the heap -/
section AMD
variable {ρ : Nat → Int32} {AX : Option (Nat × List aV)} {X : pmX} {m : Nat} {pc pc' : Nat} {als als' : aL} {ast ast' : List aV} {ah ah' : aH} {ls : pmL} {st : List Value} {h : pmH} {c k c' k' : Nat}
def am_B (ρ : Nat → Int32) (X : pmX) (m : Nat) (i : Instr) (pc : Nat) (ls : pmL) (st : List Value) (h : pmH) (c k : Nat) (pc' : Nat) (als' : aL) (ast' : List aV) (ah' : aH) (c' k' : Nat) : Prop :=
  pm_stepA m i pc ls st h c k = none ∧ ∃ ls' st' h', pm_stepB X m i pc ls st h c k = some (pc', ls', st', h', c', k') ∧ am_ls ρ als' ls' ∧ am_sk ρ ast' st' ∧ am_H ρ ah' h'
theorem am_rdn {x : aV} {v : Value} (h : x.1 = 9 ∨ am_v ρ x v) (h3 : Nat.ble x.1 3 = true) : am_v ρ x v := by
  rcases h with h | h
  · rw [h] at h3; cases h3
  · exact h
theorem am_ald_ok {t1 t2 : Nat} (hs : am_sk ρ ast st) (hH : am_H ρ ah h) (hx : am_ald t1 t2 als ast ah c k pc = some (pc', als', ast', ah', c', k')) :
    ∃ j q r t n f, st = .int j :: .ref q :: r ∧ h[q]? = some (t, n, f) ∧ (t = t1 ∨ t = t2) ∧ pm_ix j n = true ∧ am_sk ρ ast' (f j.toNatClampNeg :: r) ∧ pc' = pc + 1 ∧ als' = als ∧ ah' = ah ∧ c' = c ∧ k' = k := by
  unfold am_ald at hx
  split at hx
  · next a b r =>
    obtain ⟨h1, h2⟩ := am_cond hx
    split at h2
    · next t n d ov hl =>
      obtain ⟨h3, h4⟩ := am_cond h2
      split at h4
      · next i hi =>
        obtain ⟨h5, h6⟩ := am_cond h4
        cases h6
        obtain ⟨v, vs, rfl, s1, s2⟩ := hs.c
        obtain ⟨w, vs, rfl, s3, s4⟩ := s2.c
        obtain ⟨x, rfl, g1, g2, g3, -⟩ := am_ix_ok hi s1
        obtain ⟨q, rfl, hq⟩ := s3.ref (am_bq h1)
        rw [hq, Int.toNat_natCast] at hl
        obtain ⟨⟨t', n', f⟩, hy, e1, e2, e3⟩ := hH.2 _ _ hl
        dsimp only at e1 e2 e3
        subst e1 e2
        refine ⟨x, q, vs, t', n', f, rfl, hy, ?_, g1, ?_, rfl, rfl, rfl, rfl, rfl⟩
        · rw [Bool.or_eq_true] at h3
          exact h3.imp am_bq am_bq
        · rw [g2]
          exact ⟨am_rdn (e3 i g3) h5, s4⟩
      · cases h4
    · cases h2
  · cases hx
theorem am_ast_ok {t1 u : Nat} {f : aV → aV} {g : Value → Value} (hfg : ∀ a v, a.1 = u → am_v ρ a v → am_v ρ (f a) (g v)) (hs : am_sk ρ ast st) (hH : am_H ρ ah h) (hx : am_ast t1 u f als ast ah c k pc = some (pc', als', ast', ah', c', k')) :
    ∃ v j q r n F a, st = v :: .int j :: .ref q :: r ∧ am_v ρ a v ∧ a.1 = u ∧ h[q]? = some (t1, n, F) ∧ pm_ix j n = true ∧ am_sk ρ ast' r ∧ am_H ρ ah' (h.set q (t1, n, pm_upd F j.toNatClampNeg (g v))) ∧ pc' = pc + 1 ∧ als' = als ∧ c' = c ∧ k' = k := by
  unfold am_ast at hx
  split at hx
  · next a b d0 r =>
    obtain ⟨h1, h2⟩ := am_cond hx
    rw [Bool.and_eq_true] at h1
    split at h2
    · next t n d ov hl =>
      obtain ⟨h3, h4⟩ := am_cond h2
      have h3 := am_bq h3
      subst h3
      split at h4
      · next i hi =>
        cases h4
        obtain ⟨v, vs, rfl, s1, s2⟩ := hs.c
        obtain ⟨w, vs, rfl, s3, s4⟩ := s2.c
        obtain ⟨z, vs, rfl, s5, s6⟩ := s4.c
        obtain ⟨x, rfl, g1, g2, g3, -⟩ := am_ix_ok hi s3
        obtain ⟨q, rfl, hq⟩ := s5.ref (am_bq h1.1)
        rw [hq, Int.toNat_natCast] at hl
        obtain ⟨⟨t', n', F⟩, hy, e⟩ := hH.2 _ _ hl
        have e1 := e.1
        have e2 := e.2.1
        dsimp only at e1 e2
        subst e1 e2
        refine ⟨v, x, q, vs, n', F, a, rfl, s1, am_bq h1.2, hy, g1, s6, ?_, rfl, rfl, rfl, rfl⟩
        rw [hq, Int.toNat_natCast, g2]
        exact hH.set hl (e.upd (i := i) (hfg a v (am_bq h1.2) s1))
      · cases h4
    · cases h2
  · cases hx
theorem am_ofN {n : Nat} (h : Nat.ble n 100000 = true) : am_I ρ (am_c (n : Nat)) (Int32.ofNat n) := by
  have h := Nat.le_of_ble_eq_true h
  rw [← Int32.ofInt_eq_ofNat]
  exact am_c_of (am_in32_iff.mpr (by omega))
theorem am_new_ok {a : aC} {x : pmC} (hs : am_sk ρ ast st) (hH : am_H ρ ah h) (hc : am_C ρ a x) : am_sk ρ ((2, (ah.1 : Nat), (ah.1 : Nat), 0, 0) :: ast) (.ref h.length :: st) ∧ am_H ρ (ah.1 + 1, (ah.1, a) :: ah.2) (h ++ [x]) := ⟨⟨.ofR rfl (by show ((ah.1 : Nat) : Int) = _; rw [hH.1]), hs⟩, hH.new hc⟩
set_option maxHeartbeats 4000000 in
theorem am_stB {i : Instr} (hX : am_X ρ AX X) (hl : am_ls ρ als ls) (hs : am_sk ρ ast st) (hH : am_H ρ ah h) (hx : am_stepB AX m (pm_oc m) i pc als ast ah c k = some (pc', als', ast', ah', c', k')) : am_B ρ X m i pc ls st h c k pc' als' ast' ah' c' k' := by
  cases i
  case tableswitch dflt lo hi offs =>
    refine ⟨rfl, ?_⟩
    simp only [am_stepB] at hx; split at hx
    · next a r =>
      obtain ⟨h1, h2⟩ := am_cond hx
      obtain ⟨v, vs, rfl, s1, s2⟩ := hs.c
      obtain ⟨x, rfl, g⟩ := s1.int (am_bq h1)
      have g1 := g.1
      have g2 := g.2.1
      cases hc : am_le (a.2.2.1 + 1) lo || am_le (hi + 1) a.2.1
      · rw [hc] at h2
        rw [Bool.or_eq_false_iff] at hc
        simp only [cond_false] at h2
        obtain ⟨h3, h4⟩ := am_cond h2
        have hq := am_isc_iff.mp h3
        have e : x.toInt = a.2.1 := by omega
        have c1 : ¬ (x.toInt < lo ∨ hi < x.toInt) := by
          rw [e]
          rintro (z | z)
          · have := am_le_iff.mpr (show a.2.2.1 + 1 ≤ lo by omega); rw [hc.1] at this; cases this
          · have := am_le_iff.mpr (show hi + 1 ≤ a.2.1 by omega); rw [hc.2] at this; cases this
        split at h4
        · next off ho =>
          split at h4
          · next t ht =>
            cases h4
            rw [Array.getElem?_toList] at ho
            exact ⟨ls, vs, h, by simp only [pm_stepB]; rw [if_neg c1]; simp only [e, ho, ht], hl, s2, hH⟩
          · cases h4
        · cases h4
      · rw [hc] at h2
        rw [Bool.or_eq_true, am_le_iff, am_le_iff] at hc
        have c1 : x.toInt < lo ∨ hi < x.toInt := by omega
        simp only [cond_true] at h2
        split at h2
        · next t ht =>
          cases h2
          exact ⟨ls, vs, h, by simp only [pm_stepB]; rw [if_pos c1]; simp only [ht], hl, s2, hH⟩
        · cases h2
    · cases hx
  case lookupswitch dflt ps =>
    refine ⟨rfl, ?_⟩
    simp only [am_stepB] at hx; split at hx
    · next a r =>
      obtain ⟨h1, h2⟩ := am_cond hx
      rw [Bool.and_eq_true] at h1
      obtain ⟨v, vs, rfl, s1, s2⟩ := hs.c
      obtain ⟨x, rfl, g⟩ := s1.int (am_bq h1.1)
      have e : x.toInt = a.2.1 := by have := am_isc_iff.mp h1.2; have := g.1; have := g.2.1; omega
      split at h2
      · next hc =>
        split at h2
        · next t ht =>
          cases h2
          exact ⟨ls, vs, h, by simp only [pm_stepB]; rw [if_pos hc]; simp only [e, ht], hl, s2, hH⟩
        · cases h2
      · cases h2
    · cases hx
  case ldc j =>
    refine ⟨rfl, ?_⟩
    simp only [am_stepB] at hx; split at hx
    · next x hg => cases hx; exact ⟨ls, .int x :: st, h, by simp only [pm_stepB, hg], hl, ⟨.ofI rfl (am_c_ok x), hs⟩, hH⟩
    · next x hg => cases hx; exact ⟨ls, .ref x :: st, h, by simp only [pm_stepB, hg], hl, ⟨.ofR rfl rfl, hs⟩, hH⟩
    · cases hx
  case ldc2_w j =>
    refine ⟨rfl, ?_⟩
    simp only [am_stepB] at hx; split at hx
    · next x hg => cases hx; exact ⟨ls, .long x :: st, h, by simp only [pm_stepB, hg], hl, ⟨.ofJ rfl (am_j_ok x), hs⟩, hH⟩
    · cases hx
  case getfield j =>
    refine ⟨rfl, ?_⟩
    simp only [am_stepB] at hx; split at hx
    · next a r =>
      obtain ⟨h1, h2⟩ := am_cond hx
      obtain ⟨v, vs, rfl, s1, s2⟩ := hs.c
      obtain ⟨q, rfl, hq⟩ := s1.ref (am_bq h1)
      rw [hq, Int.toNat_natCast] at h2
      split at h2
      · next ci f t n d ov hf hlk =>
        obtain ⟨h3, h4⟩ := am_cond h2
        rw [Bool.and_eq_true, Bool.and_eq_true] at h3
        cases h4
        obtain ⟨⟨t', n', F⟩, hy, e1, e2, e3⟩ := hH.2 _ _ hlk
        dsimp only at e1 e2 e3
        subst e1 e2
        have h5 := am_bq h3.1.1
        have hf : pm_fld m j = some (ci, f) := hf
        exact ⟨ls, F f :: vs, h, by simp only [pm_stepB, hf, hy, if_pos h5], hl, ⟨am_rdn (e3 f (am_blt h3.1.2)) h3.2, s2⟩, hH⟩
      · cases h2
    · cases hx
  case putfield j =>
    refine ⟨rfl, ?_⟩
    simp only [am_stepB] at hx; split at hx
    · next a b r =>
      obtain ⟨h1, h2⟩ := am_cond hx
      obtain ⟨v, vs, rfl, s1, s2⟩ := hs.c
      obtain ⟨w, vs, rfl, s3, s4⟩ := s2.c
      obtain ⟨q, rfl, hq⟩ := s3.ref (am_bq h1)
      rw [hq, Int.toNat_natCast] at h2
      split at h2
      · next ci f t n d ov hf hlk =>
        obtain ⟨h3, h4⟩ := am_cond h2
        rw [Bool.and_eq_true, Bool.and_eq_true] at h3
        cases h4
        obtain ⟨⟨t', n', F⟩, hy, e⟩ := hH.2 _ _ hlk
        have e1 := e.1
        have e2 := e.2.1
        dsimp only at e1 e2
        subst e1 e2
        have h5 := am_bq h3.1.1
        have hf : pm_fld m j = some (ci, f) := hf
        have hfin : pm_fin ci f = false ∨ (pm_in m = 1 ∧ ci = pm_oc m) := by
          have := h3.2
          rw [Bool.or_eq_true, Bool.and_eq_true, Bool.not_eq_true'] at this
          exact this.imp id (fun z => ⟨am_bq z.1, am_bq z.2⟩)
        exact ⟨ls, vs, h.set q (t', n', pm_upd F f v), by simp only [pm_stepB, hf, hy]; rw [if_pos ⟨h5, am_okv_ok h3.1.2 s1, hfin⟩], hl, s4, hH.set hlk (e.upd s1)⟩
      · cases h2
    · cases hx
  case iaload =>
    refine ⟨rfl, ?_⟩
    simp only [am_stepB] at hx; split at hx
    · next a b r =>
      cases hc : Nat.beq b.1 2 && am_ieq b.2.1 2000
      · rw [hc] at hx
        obtain ⟨j, q, rr, t, n, f, rfl, hy, ht, hj, hsk, rfl, rfl, rfl, rfl, rfl⟩ := am_ald_ok hs hH hx
        have ht : t = 20 := ht.elim id id
        have hq : ¬ q = 2000 := by
          rintro rfl
          obtain ⟨v, vs, hv, s1, s2⟩ := hs.c
          obtain ⟨w, vs, hw, s3, s4⟩ := s2.c
          cases hv
          cases hw
          rcases s3 with ⟨_, x, z, _⟩ | ⟨_, x, z, _⟩ | ⟨hb, x, z, hx⟩ | ⟨_, z⟩
          · cases z
          · cases z
          · cases z
            rw [hb, am_ieq_iff.mpr (show b.2.1 = 2000 from hx)] at hc
            cases hc
          · cases z
        exact ⟨ls, f j.toNatClampNeg :: rr, h, by simp only [pm_stepB]; rw [if_neg hq]; simp only [hy]; rw [if_pos ⟨ht, hj⟩], hl, hsk, hH⟩
      · rw [hc] at hx
        rw [Bool.and_eq_true, am_ieq_iff] at hc
        simp only [cond_true] at hx
        split at hx
        · next x =>
          split at hx
          · next i hi =>
            split at hx
            · next aa haa =>
              cases hx
              obtain ⟨v, vs, rfl, s1, s2⟩ := hs.c
              obtain ⟨w, vs, rfl, s3, s4⟩ := s2.c
              obtain ⟨f, rfl, hf⟩ := hX _ rfl
              obtain ⟨y, rfl, g1, g2, g3, -⟩ := am_ix_ok hi s1
              obtain ⟨q, rfl, hq⟩ := s3.ref (am_bq hc.1)
              have hq : q = 2000 := by omega
              exact ⟨ls, .int (f y.toNatClampNeg) :: vs, h, by simp only [pm_stepB]; rw [if_pos hq]; simp only [g1, if_true], hl, ⟨by rw [g2]; exact hf _ _ haa, s4⟩, hH⟩
            · cases hx
          · cases hx
        · cases hx
    · cases hx
  case laload =>
    refine ⟨rfl, ?_⟩
    obtain ⟨j, q, rr, t, n, f, rfl, hy, ht, hj, hsk, rfl, rfl, rfl, rfl, rfl⟩ := am_ald_ok hs hH hx
    have ht : t = 21 := ht.elim id id
    exact ⟨ls, f j.toNatClampNeg :: rr, h, by simp only [pm_stepB, hy]; rw [if_pos ⟨ht, hj⟩], hl, hsk, hH⟩
  case baload =>
    refine ⟨rfl, ?_⟩
    obtain ⟨j, q, rr, t, n, f, rfl, hy, ht, hj, hsk, rfl, rfl, rfl, rfl, rfl⟩ := am_ald_ok hs hH hx
    have ht : t = 22 := ht.elim id id
    exact ⟨ls, f j.toNatClampNeg :: rr, h, by simp only [pm_stepB, hy]; rw [if_pos ⟨ht, hj⟩], hl, hsk, hH⟩
  case aaload =>
    refine ⟨rfl, ?_⟩
    obtain ⟨j, q, rr, t, n, f, rfl, hy, ht, hj, hsk, rfl, rfl, rfl, rfl, rfl⟩ := am_ald_ok hs hH hx
    exact ⟨ls, f j.toNatClampNeg :: rr, h, by simp only [pm_stepB, hy]; rw [if_pos ⟨ht, hj⟩], hl, hsk, hH⟩
  case iastore =>
    refine ⟨rfl, ?_⟩
    obtain ⟨v, j, q, r, n, F, a, rfl, ha, ha0, hy, hj, hsk, hH', rfl, rfl, rfl, rfl⟩ := am_ast_ok (g := fun v => v) (fun a v _ hv => hv) hs hH hx
    obtain ⟨x, rfl, _⟩ := ha.int ha0
    exact ⟨ls, _, _, by simp only [pm_stepB, hy, hj, and_self, if_true], hl, hsk, hH'⟩
  case lastore =>
    refine ⟨rfl, ?_⟩
    obtain ⟨v, j, q, r, n, F, a, rfl, ha, ha0, hy, hj, hsk, hH', rfl, rfl, rfl, rfl⟩ := am_ast_ok (g := fun v => v) (fun a v _ hv => hv) hs hH hx
    obtain ⟨x, rfl, _⟩ := ha.long ha0
    exact ⟨ls, _, _, by simp only [pm_stepB, hy, hj, and_self, if_true], hl, hsk, hH'⟩
  case bastore =>
    refine ⟨rfl, ?_⟩
    obtain ⟨v, j, q, r, n, F, a, rfl, ha, ha0, hy, hj, hsk, hH', rfl, rfl, rfl, rfl⟩ := am_ast_ok (g := fun v => match v with
      | .int x => .int (x &&& 1)
      | v => v) (fun a v h0 hv => by
        obtain ⟨x, rfl, hx⟩ := hv.int h0
        exact .ofI (am_and_tag _ _) (am_and_ok hx (am_c_ok 1))) hs hH hx
    obtain ⟨x, rfl, _⟩ := ha.int ha0
    exact ⟨ls, _, _, by simp only [pm_stepB, hy, hj, and_self, if_true], hl, hsk, hH'⟩
  case arraylength =>
    refine ⟨rfl, ?_⟩
    simp only [am_stepB] at hx; split at hx
    · next a r =>
      obtain ⟨h1, h2⟩ := am_cond hx
      obtain ⟨v, vs, rfl, s1, s2⟩ := hs.c
      obtain ⟨q, rfl, hq⟩ := s1.ref (am_bq h1)
      cases hc : am_ieq a.2.1 2000
      · rw [hc] at h2
        have hq2 : ¬ q = 2000 := by
          rintro rfl
          rw [am_ieq_iff.mpr (show a.2.1 = 2000 from hq)] at hc
          cases hc
        simp only [cond_false] at h2
        rw [hq, Int.toNat_natCast] at h2
        split at h2
        · next t n d hlk =>
          obtain ⟨h3, h4⟩ := am_cond h2
          cases h4
          rw [Bool.and_eq_true, Bool.or_eq_true] at h3
          obtain ⟨⟨t', n', F⟩, hy, e1, e2, e3⟩ := hH.2 _ _ hlk
          dsimp only at e1 e2 e3
          subst e1 e2
          exact ⟨ls, .int (Int32.ofNat n') :: vs, h, by simp only [pm_stepB]; rw [if_neg hq2]; simp only [hy]; rw [if_pos (h3.1.imp am_bq am_bq)], hl, ⟨.ofI rfl (am_ofN h3.2), s2⟩, hH⟩
        · cases h2
      · rw [hc] at h2
        have hc := am_ieq_iff.mp hc
        have hq2 : q = 2000 := by omega
        simp only [cond_true] at h2
        split at h2
        · next x =>
          obtain ⟨h3, h4⟩ := am_cond h2
          cases h4
          obtain ⟨f, rfl, hf⟩ := hX _ rfl
          exact ⟨ls, .int (Int32.ofNat x.1) :: vs, h, by simp only [pm_stepB]; rw [if_pos hq2], hl, ⟨.ofI rfl (am_ofN h3), s2⟩, hH⟩
        · cases h2
    · cases hx
  case new j =>
    refine ⟨rfl, ?_⟩
    simp only [am_stepB] at hx; split at hx
    · next ci hn =>
      split at hx
      · next q hq =>
        obtain ⟨h1, h2⟩ := am_cond hx
        cases h2
        rw [Bool.and_eq_true, Bool.and_eq_true] at h1
        obtain ⟨p1, p2⟩ := am_new_ok hs hH (am_obj_ok (ρ := ρ) ci q.2.2)
        exact ⟨ls, .ref h.length :: st, h ++ [pm_obj ci q.2.2], by simp only [pm_stepB, hn, hq]; rw [if_pos ⟨Nat.le_of_ble_eq_true h1.1.1, Nat.le_of_ble_eq_true h1.1.2, by rw [hH.1]; exact am_blt h1.2⟩], hl, p1, p2⟩
      · cases hx
    · cases hx
  case newarray ty =>
    refine ⟨rfl, ?_⟩
    simp only [am_stepB] at hx; split at hx
    · next a r =>
      split at hx
      · next n hn =>
        obtain ⟨h1, h2⟩ := am_cond hx
        rw [Bool.and_eq_true, Bool.and_eq_true] at h1
        obtain ⟨v, vs, rfl, s1, s2⟩ := hs.c
        obtain ⟨x, rfl, g1, g2, g3, g4⟩ := am_ix_ok hn s1
        have hc : 0 ≤ x ∧ x.toNatClampNeg ≤ 100000 ∧ c + 1 ≤ pm_mc m ∧ k + x.toNatClampNeg ≤ pm_ms m ∧ h.length < 900 := ⟨g4, by omega, Nat.le_of_ble_eq_true h1.1.1, by rw [g2]; exact Nat.le_of_ble_eq_true h1.1.2, by rw [hH.1]; exact am_blt h1.2⟩
        cases ty <;> simp only at h2
        case int =>
          cases h2
          obtain ⟨p1, p2⟩ := am_new_ok s2 hH (am_mk_ok (t := 20) (n := n) (.ofI rfl (am_c_ok (ρ := ρ) 0)) (by decide))
          refine ⟨ls, .ref h.length :: vs, h ++ [pm_mk 20 n (.int 0)], by simp only [pm_stepB]; rw [if_pos hc, g2], hl, p1, p2⟩
        case long =>
          cases h2
          obtain ⟨p1, p2⟩ := am_new_ok s2 hH (am_mk_ok (t := 21) (n := n) (.ofJ rfl (am_j_ok (ρ := ρ) 0)) (by decide))
          refine ⟨ls, .ref h.length :: vs, h ++ [pm_mk 21 n (.long 0)], by simp only [pm_stepB]; rw [if_pos hc, g2], hl, p1, p2⟩
        case boolean =>
          cases h2
          obtain ⟨p1, p2⟩ := am_new_ok s2 hH (am_mk_ok (t := 22) (n := n) (.ofI rfl (am_c_ok (ρ := ρ) 0)) (by decide))
          refine ⟨ls, .ref h.length :: vs, h ++ [pm_mk 22 n (.int 0)], by simp only [pm_stepB]; rw [if_pos hc, g2], hl, p1, p2⟩
        all_goals cases h2
      · cases hx
    · cases hx
  case multianewarray j d =>
    refine ⟨rfl, ?_⟩
    simp only [am_stepB] at hx; split at hx
    · next a b r =>
      split at hx
      · next t k1 n1 ht hk hn =>
        obtain ⟨h1, h2⟩ := am_cond hx
        rw [Bool.and_eq_true, Bool.and_eq_true, Bool.and_eq_true, Bool.and_eq_true, Bool.or_eq_true] at h1
        cases h2
        obtain ⟨⟨⟨⟨q1, q2⟩, q3⟩, q4⟩, q5⟩ := h1
        obtain ⟨v, vs, rfl, s1, s2⟩ := hs.c
        obtain ⟨w, vs, rfl, s3, s4⟩ := s2.c
        obtain ⟨x, rfl, g1, g2, g3, g4⟩ := am_ix_ok hk s1
        obtain ⟨y, rfl, f1, f2, f3, f4⟩ := am_ix_ok hn s3
        have q1 := am_bq q1
        have q5 : t = 20 ∨ t = 21 := q5.imp am_bq am_bq
        have hc : d = 2 ∧ 0 ≤ y ∧ 0 ≤ x ∧ y.toNatClampNeg ≤ 1000 ∧ x.toNatClampNeg ≤ 1000 ∧ c + (1 + y.toNatClampNeg) ≤ pm_mc m ∧ k + (y.toNatClampNeg + y.toNatClampNeg * x.toNatClampNeg) ≤ pm_ms m ∧ h.length < 900 ∧ (t = 20 ∨ t = 21) := ⟨q1, f4, g4, by omega, by omega, by rw [f2]; exact Nat.le_of_ble_eq_true q2, by rw [f2, g2]; exact Nat.le_of_ble_eq_true q3, by rw [hH.1]; exact am_blt q4, q5⟩
        have hd : am_v ρ (cond (Nat.beq t 20) (am_c 0) (am_j 0)) (if t = 20 then .int 0 else .long 0) ∧ (cond (Nat.beq t 20) (am_c 0) (am_j 0)).1 ≠ 4 := by
          rcases q5 with rfl | rfl
          · exact ⟨.ofI rfl (am_c_ok 0), by decide⟩
          · exact ⟨.ofJ rfl (am_j_ok 0), by decide⟩
        refine ⟨ls, .ref h.length :: vs, h ++ (pm_rows (t + 3) n1 (h.length + 1) :: List.replicate n1 (pm_mk t k1 (if t = 20 then .int 0 else .long 0))), by simp only [pm_stepB, ht]; rw [if_pos hc, f2, g2], hl, ⟨.ofR rfl (by show ((ah.1 : Nat) : Int) = _; rw [hH.1]), s4⟩, hH.mna hd.1 hd.2⟩
      · cases hx
    · cases hx
  all_goals exact absurd hx (by simp [am_stepB])
end AMD
end
section
/-! THE BOX MACHINE IS SOUND: runs -/
def am_srt : List (Nat × Instr × Nat) → Bool
  | [] => true
  | [_] => true
  | a :: b :: r => Nat.blt a.1 b.1 && am_srt (b :: r)
theorem am_srt_lt : ∀ {a : Nat × Instr × Nat} {l : List (Nat × Instr × Nat)}, am_srt (a :: l) = true → ∀ b ∈ l, a.1 < b.1
  | _, [], _, b, hb => by cases hb
  | a, c :: r, h, b, hb => by
    have h : (Nat.blt a.1 c.1 && am_srt (c :: r)) = true := h
    rw [Bool.and_eq_true] at h
    have h1 := am_blt h.1
    rcases List.mem_cons.mp hb with rfl | hb
    · exact h1
    · exact Nat.lt_trans h1 (am_srt_lt h.2 b hb)
theorem am_srt_tl {a : Nat × Instr × Nat} {l : List (Nat × Instr × Nat)} (h : am_srt (a :: l) = true) : am_srt l = true := by
  cases l with
  | nil => rfl
  | cons b r =>
    have h : (Nat.blt a.1 b.1 && am_srt (b :: r)) = true := h
    rw [Bool.and_eq_true] at h
    exact h.2
theorem am_srt_look {pc : Nat} {x : Instr × Nat} {r : List (Nat × Instr × Nat)} : ∀ {pre : List (Nat × Instr × Nat)}, am_srt (pre ++ (pc, x) :: r) = true → pm_look (pre ++ (pc, x) :: r) pc = some x
  | [], _ => by
    show (if pc = pc then some x else pm_look r pc) = some x
    rw [if_pos rfl]
  | (j, a) :: l, h => by
    have h1 := am_srt_lt h (pc, x) (List.mem_append_right _ List.mem_cons_self)
    show (if j = pc then some a else pm_look (l ++ (pc, x) :: r) pc) = some x
    rw [if_neg (Nat.ne_of_lt h1)]
    exact am_srt_look (am_srt_tl h)
theorem am_drop_ok {pc : Nat} {e : Nat × Instr × Nat} {r : List (Nat × Instr × Nat)} : ∀ {l : List (Nat × Instr × Nat)}, am_drop l pc = e :: r → e.1 = pc ∧ ∃ pre, l = pre ++ e :: r
  | [], h => by simp [am_drop] at h
  | a :: l, h => by
    unfold am_drop at h
    cases ha : Nat.beq a.1 pc
    · rw [ha] at h
      obtain ⟨h1, pre, h2⟩ := am_drop_ok h
      exact ⟨h1, a :: pre, by rw [h2]; rfl⟩
    · rw [ha] at h
      cases h
      exact ⟨am_bq ha, [], rfl⟩
theorem am_next_ok {pc : Nat} {e0 e : Nat × Instr × Nat} {kl rest r : List (Nat × Instr × Nat)} (hk : ∃ pre, kl = pre ++ e0 :: rest) (h : am_next kl rest pc = e :: r) : e.1 = pc ∧ ∃ pre, kl = pre ++ e :: r := by
  unfold am_next at h
  split at h
  · next a l =>
    cases ha : Nat.beq a.1 pc
    · rw [ha] at h
      exact am_drop_ok h
    · rw [ha] at h
      cases h
      obtain ⟨pre, hk⟩ := hk
      exact ⟨am_bq ha, pre ++ [e0], by rw [hk, List.append_assoc]; rfl⟩
  · exact am_drop_ok h
theorem am_args_ok {ρ : Nat → Int32} : ∀ {a : List aV} {l : List Value} (i : Nat), am_sk ρ a l → am_ls ρ (am_args i a) (lv_args i l)
  | [], [], _, _ => trivial
  | x :: as, v :: vs, i, h => by
    refine ⟨⟨rfl, h.1⟩, ?_⟩
    show am_ls ρ (am_args (if am_cat x = 2 then i + 2 else i + 1) as) (lv_args (if v.category = 2 then i + 2 else i + 1) vs)
    rw [h.1.cat]
    exact am_args_ok _ h.2
  | [], _ :: _, _, h => h.elim
  | _ :: _, [], _, h => h.elim
theorem am_one {x : Int32} (h0 : 0 ≤ x.toInt) (h1 : x.toInt ≤ 1) : x &&& 1 = x := by
  have : x = 0 ∨ x = 1 := by
    rw [← Int32.toInt_inj, ← Int32.toInt_inj]
    have e0 : (0 : Int32).toInt = 0 := rfl
    have e1 : (1 : Int32).toInt = 1 := rfl
    omega
  rcases this with rfl | rfl <;> decide
section AME
variable {ρ : Nat → Int32} {F : aF}
def am_so (ρ : Nat → Int32) (a : Option aV) (v : Option Value) : Prop := am_sk ρ a.toList v.toList
theorem am_end_ok {m : Nat} {i : Instr} {ast : List aV} {st : List Value} {r : Option aV} (hs : am_sk ρ ast st) (h : am_end m i ast = some r) : ∃ v, pm_end m i st = some v ∧ am_so ρ r v := by
  cases i
  case ireturn =>
    simp only [am_end] at h
    split at h
    · next a hr =>
      obtain ⟨h1, h2⟩ := am_cond h
      cases h2
      obtain ⟨v, vs, rfl, s1, s2⟩ := hs.c
      cases s2.n
      obtain ⟨x, rfl, _⟩ := s1.int (am_bq h1)
      exact ⟨some (.int x), by simp only [pm_end, hr], s1, trivial⟩
    · next a hr =>
      obtain ⟨h1, h2⟩ := am_cond h
      cases h2
      rw [Bool.and_eq_true, Bool.and_eq_true, am_le_iff, am_le_iff] at h1
      obtain ⟨v, vs, rfl, s1, s2⟩ := hs.c
      cases s2.n
      obtain ⟨x, rfl, hx⟩ := s1.int (am_bq h1.1.1)
      exact ⟨some (.int x), by simp only [pm_end, hr]; rw [if_pos (am_one (by have := hx.1; omega) (by have := hx.2.1; omega))], s1, trivial⟩
    · cases h
  case lreturn =>
    simp only [am_end] at h
    split at h
    · next a hr =>
      obtain ⟨h1, h2⟩ := am_cond h
      cases h2
      obtain ⟨v, vs, rfl, s1, s2⟩ := hs.c
      cases s2.n
      obtain ⟨x, rfl, _⟩ := s1.long (am_bq h1)
      exact ⟨some (.long x), by simp only [pm_end, hr], s1, trivial⟩
    · cases h
  case return_ =>
    simp only [am_end] at h
    split at h
    · next hr =>
      cases h
      cases hs.n
      exact ⟨none, by simp only [pm_end, hr], trivial⟩
    · cases h
  all_goals exact absurd h (by simp [am_end])
theorem am_noend {m : Nat} {i : Instr} {st : List Value} (h : am_isret i = false) : pm_end m i st = none := by
  cases i <;> first | rfl | exact absurd h (by simp [am_isret])
theorem am_noinv {m : Nat} {i : Instr} {st : List Value} {h : pmH} {c k : Nat} (ho : am_op i = none) : pm_inv m i st h c k = none := by
  cases i <;> first | rfl | exact absurd ho (by simp [am_op])
theorem am_inv_eq (m : Nat) (i : Instr) (st : List Value) (h : pmH) (c k : Nat) : pm_inv m i st h c k = (match am_op i with
  | none => none
  | some (j, op) => match pm_look (pm_calls (pm_oc m)) j with
    | none => none
    | some (y, kind, n) =>
      if kind = 3 then (if op = 2 ∧ 1 ≤ pm_fr m then match st with
        | .ref q :: r => if (r.map fun v => v.category).sum + 12 ≤ pm_lo m then some (none, [.ref q], r) else none
        | _ => none
        else none)
      else if kind % 10 = op ∧ n ≤ st.length ∧ pm_fr y + 1 ≤ pm_fr m ∧ 8 + (pm_maxL y + 11) + pm_lo y ≤ pm_lo m ∧ c + pm_mc y ≤ pm_mc m ∧ k + pm_ms y ≤ pm_ms m then
        let as := (st.take n).reverse
        if op = 1 then (if ((st.drop n).map fun v => v.category).sum ≤ 8 ∧ (as.map fun v => v.category).sum ≤ pm_maxL y ∧ pm_oc y < 15 then some (some y, as, st.drop n) else none)
        else match st.drop n with
          | .ref q :: r => match h[q]? with
            | some (t, _, _) => if t = pm_oc y ∧ t < 12 ∧ (r.map fun v => v.category).sum ≤ 8 ∧ 1 + (as.map fun v => v.category).sum ≤ pm_maxL y then some (some y, .ref q :: as, r) else none
            | none => none
          | _ => none
      else none : Option (Option Nat × List Value × List Value)) := rfl
theorem am_inv_ok {m : Nat} {i : Instr} {ast : List aV} {st : List Value} {ah : aH} {h : pmH} {c k : Nat} {o : Option Nat} {aa ar : List aV} (hs : am_sk ρ ast st) (hH : am_H ρ ah h) (hx : am_inv m (pm_oc m) i ast ah c k = some (o, aa, ar)) :
    ∃ as rest, pm_inv m i st h c k = some (o, as, rest) ∧ am_sk ρ aa as ∧ am_sk ρ ar rest := by
  rw [am_inv_eq]
  unfold am_inv at hx
  split at hx
  · cases hx
  · next j op hj =>
    simp only [hj]
    split at hx
    · cases hx
    · next y kind n hlk =>
      simp only [hlk]
      split at hx
      · next hk3 =>
        rw [if_pos hk3]
        split at hx
        · next hop =>
          rw [if_pos hop]
          split at hx
          · next a r =>
            split at hx
            · next hc =>
              cases hx
              obtain ⟨v, vs, rfl, s1, s2⟩ := hs.c
              obtain ⟨q, rfl, hq⟩ := s1.ref hc.1
              have hcat := am_cats s2
              exact ⟨[.ref q], vs, by simp only [hcat]; rw [if_pos hc.2], ⟨s1, trivial⟩, s2⟩
            · cases hx
          · cases hx
        · cases hx
      · next hk3 =>
        rw [if_neg hk3]
        split at hx
        · next hc =>
          have hlen := hs.len
          rw [if_pos (by rw [← hlen]; exact hc)]
          have hd := hs.drop n
          have ht := (hs.take n).rev
          have ct := am_cats ht
          try dsimp only
          split at hx
          · next hop =>
            rw [if_pos hop]
            split at hx
            · next hr =>
              cases hx
              exact ⟨_, _, by rw [am_cats hd, ct, if_pos hr], ht, hd⟩
            · cases hx
          · next hop =>
            rw [if_neg hop]
            split at hx
            · next a r hdr =>
              rw [hdr] at hd
              obtain ⟨v, vs, hv, s1, s2⟩ := hd.c
              rw [hv]
              split at hx
              · next ha =>
                obtain ⟨q, rfl, hq⟩ := s1.ref ha
                rw [hq, Int.toNat_natCast] at hx
                split at hx
                · next t d hlk2 =>
                  split at hx
                  · next hr =>
                    cases hx
                    obtain ⟨⟨t', n', f⟩, hy, e1, -⟩ := hH.2 _ _ hlk2
                    dsimp only at e1
                    subst e1
                    exact ⟨.ref q :: (st.take n).reverse, vs, by simp only [hy, am_cats s2, ct]; rw [if_pos hr], ⟨s1, ht⟩, s2⟩
                  · cases hx
                · cases hx
              · cases hx
            · cases hx
        · cases hx
end AME
end
section
/-! the code tables are in order, and begin at 0 -/
def am_z0 (l : List (Nat × Instr × Nat)) : Prop := match l with
  | [] => True
  | e :: _ => e.1 = 0
def am_okP (M : pmM) : Prop := am_srt M.2.2.2.2.2.2.2.2.2.2 = true ∧ am_z0 M.2.2.2.2.2.2.2.2.2.2
theorem am_s0 : am_okP pmm0 := ⟨by decide +kernel, rfl⟩
theorem am_s1 : am_okP pmm1 := ⟨by decide +kernel, rfl⟩
theorem am_s2 : am_okP pmm2 := ⟨by decide +kernel, rfl⟩
theorem am_s3 : am_okP pmm3 := ⟨by decide +kernel, rfl⟩
theorem am_s4 : am_okP pmm4 := ⟨by decide +kernel, rfl⟩
theorem am_s5 : am_okP pmm5 := ⟨by decide +kernel, rfl⟩
theorem am_s6 : am_okP pmm6 := ⟨by decide +kernel, rfl⟩
theorem am_s7 : am_okP pmm7 := ⟨by decide +kernel, rfl⟩
theorem am_s8 : am_okP pmm8 := ⟨by decide +kernel, rfl⟩
theorem am_s9 : am_okP pmm9 := ⟨by decide +kernel, rfl⟩
theorem am_s10 : am_okP pmm10 := ⟨by decide +kernel, rfl⟩
theorem am_s11 : am_okP pmm11 := ⟨by decide +kernel, rfl⟩
theorem am_s12 : am_okP pmm12 := ⟨by decide +kernel, rfl⟩
theorem am_s13 : am_okP pmm13 := ⟨by decide +kernel, rfl⟩
theorem am_s14 : am_okP pmm14 := ⟨by decide +kernel, rfl⟩
theorem am_s15 : am_okP pmm15 := ⟨by decide +kernel, rfl⟩
theorem am_s16 : am_okP pmm16 := ⟨by decide +kernel, rfl⟩
theorem am_s17 : am_okP pmm17 := ⟨by decide +kernel, rfl⟩
theorem am_s18 : am_okP pmm18 := ⟨by decide +kernel, rfl⟩
theorem am_s19 : am_okP pmm19 := ⟨by decide +kernel, rfl⟩
theorem am_s20 : am_okP pmm20 := ⟨by decide +kernel, rfl⟩
theorem am_s21 : am_okP pmm21 := ⟨by decide +kernel, rfl⟩
theorem am_s22 : am_okP pmm22 := ⟨by decide +kernel, rfl⟩
theorem am_s23 : am_okP pmm23 := ⟨by decide +kernel, rfl⟩
theorem am_s24 : am_okP pmm24 := ⟨by decide +kernel, rfl⟩
theorem am_s25 : am_okP pmm25 := ⟨by decide +kernel, rfl⟩
theorem am_s26 : am_okP pmm26 := ⟨by decide +kernel, rfl⟩
theorem am_s27 : am_okP pmm27 := ⟨by decide +kernel, rfl⟩
theorem am_s28 : am_okP pmm28 := ⟨by decide +kernel, rfl⟩
theorem am_s29 : am_okP pmm29 := ⟨by decide +kernel, rfl⟩
theorem am_s30 : am_okP pmm30 := ⟨by decide +kernel, rfl⟩
theorem am_s31 : am_okP pmm31 := ⟨by decide +kernel, rfl⟩
theorem am_s32 : am_okP pmm32 := ⟨by decide +kernel, rfl⟩
theorem am_s33 : am_okP pmm33 := ⟨by decide +kernel, rfl⟩
theorem am_s34 : am_okP pmm34 := ⟨by decide +kernel, rfl⟩
theorem am_s35 : am_okP pmm35 := ⟨by decide +kernel, rfl⟩
theorem am_s36 : am_okP pmm36 := ⟨by decide +kernel, rfl⟩
theorem am_s37 : am_okP pmm37 := ⟨by decide +kernel, rfl⟩
theorem am_s38 : am_okP pmm38 := ⟨by decide +kernel, rfl⟩
theorem am_s39 : am_okP pmm39 := ⟨by decide +kernel, rfl⟩
theorem am_s40 : am_okP pmm40 := ⟨by decide +kernel, rfl⟩
theorem am_s41 : am_okP pmm41 := ⟨by decide +kernel, rfl⟩
theorem am_s42 : am_okP pmm42 := ⟨by decide +kernel, rfl⟩
theorem am_s43 : am_okP pmm43 := ⟨by decide +kernel, rfl⟩
theorem am_s44 : am_okP pmm44 := ⟨by decide +kernel, rfl⟩
theorem am_s45 : am_okP pmm45 := ⟨by decide +kernel, rfl⟩
theorem am_s46 : am_okP pmm46 := ⟨by decide +kernel, rfl⟩
theorem am_s47 : am_okP pmm47 := ⟨by decide +kernel, rfl⟩
theorem am_s48 : am_okP pmm48 := ⟨by decide +kernel, rfl⟩
theorem am_s49 : am_okP pmm49 := ⟨by decide +kernel, rfl⟩
theorem am_s50 : am_okP pmm50 := ⟨by decide +kernel, rfl⟩
theorem am_s51 : am_okP pmm51 := ⟨by decide +kernel, rfl⟩
theorem am_s52 : am_okP pmm52 := ⟨by decide +kernel, rfl⟩
theorem am_s53 : am_okP pmm53 := ⟨by decide +kernel, rfl⟩
theorem am_s54 : am_okP pmm54 := ⟨by decide +kernel, rfl⟩
theorem am_s55 : am_okP pmm55 := ⟨by decide +kernel, rfl⟩
theorem am_s56 : am_okP pmm56 := ⟨by decide +kernel, rfl⟩
theorem am_s57 : am_okP pmm57 := ⟨by decide +kernel, rfl⟩
theorem am_s58 : am_okP pmm58 := ⟨by decide +kernel, rfl⟩
theorem am_s59 : am_okP pmm59 := ⟨by decide +kernel, rfl⟩
theorem am_s60 : am_okP pmm60 := ⟨by decide +kernel, rfl⟩
theorem am_s61 : am_okP pmm61 := ⟨by decide +kernel, rfl⟩
theorem am_s62 : am_okP pmm62 := ⟨by decide +kernel, rfl⟩
theorem am_s63 : am_okP pmm63 := ⟨by decide +kernel, rfl⟩
theorem am_s64 : am_okP pmm64 := ⟨by decide +kernel, rfl⟩
theorem am_s65 : am_okP pmm65 := ⟨by decide +kernel, rfl⟩
theorem am_s66 : am_okP pmm66 := ⟨by decide +kernel, rfl⟩
theorem am_s67 : am_okP pmm67 := ⟨by decide +kernel, rfl⟩
theorem am_s68 : am_okP pmm68 := ⟨by decide +kernel, rfl⟩
theorem am_s69 : am_okP pmm69 := ⟨by decide +kernel, rfl⟩
theorem am_s70 : am_okP pmm70 := ⟨by decide +kernel, rfl⟩
theorem am_s71 : am_okP pmm71 := ⟨by decide +kernel, rfl⟩
theorem am_s72 : am_okP pmm72 := ⟨by decide +kernel, rfl⟩
theorem am_s73 : am_okP pmm73 := ⟨by decide +kernel, rfl⟩
theorem am_s74 : am_okP pmm74 := ⟨by decide +kernel, rfl⟩
theorem am_s75 : am_okP pmm75 := ⟨by decide +kernel, rfl⟩
theorem am_s76 : am_okP pmm76 := ⟨by decide +kernel, rfl⟩
theorem am_s77 : am_okP pmm77 := ⟨by decide +kernel, rfl⟩
theorem am_s78 : am_okP pmm78 := ⟨by decide +kernel, rfl⟩
theorem am_s79 : am_okP pmm79 := ⟨by decide +kernel, rfl⟩
theorem am_s80 : am_okP pmm80 := ⟨by decide +kernel, rfl⟩
theorem am_s81 : am_okP pmm81 := ⟨by decide +kernel, rfl⟩
theorem am_s82 : am_okP pmm82 := ⟨by decide +kernel, rfl⟩
theorem am_s83 : am_okP pmm83 := ⟨by decide +kernel, rfl⟩
theorem am_s84 : am_okP pmm84 := ⟨by decide +kernel, rfl⟩
theorem am_s85 : am_okP pmm85 := ⟨by decide +kernel, rfl⟩
theorem am_s86 : am_okP pmm86 := ⟨by decide +kernel, rfl⟩
theorem am_s87 : am_okP pmm87 := ⟨by decide +kernel, rfl⟩
theorem am_s88 : am_okP pmm88 := ⟨by decide +kernel, rfl⟩
theorem am_s89 : am_okP pmm89 := ⟨by decide +kernel, rfl⟩
theorem am_s90 : am_okP pmm90 := ⟨by decide +kernel, rfl⟩
theorem am_s91 : am_okP pmm91 := ⟨by decide +kernel, rfl⟩
theorem am_s92 : am_okP pmm92 := ⟨by decide +kernel, rfl⟩
theorem am_s93 : am_okP pmm93 := ⟨by decide +kernel, rfl⟩
theorem am_s94 : am_okP pmm94 := ⟨by decide +kernel, rfl⟩
theorem am_s95 : am_okP pmm95 := ⟨by decide +kernel, rfl⟩
theorem am_s96 : am_okP pmm96 := ⟨by decide +kernel, rfl⟩
theorem am_s97 : am_okP pmm97 := ⟨by decide +kernel, rfl⟩
theorem am_s98 : am_okP pmm98 := ⟨by decide +kernel, rfl⟩
theorem am_s99 : am_okP pmm99 := ⟨by decide +kernel, rfl⟩
theorem am_s100 : am_okP pmm100 := ⟨by decide +kernel, rfl⟩
theorem am_s101 : am_okP pmm101 := ⟨by decide +kernel, rfl⟩
theorem am_s102 : am_okP pmm102 := ⟨by decide +kernel, rfl⟩
theorem am_s103 : am_okP pmm103 := ⟨by decide +kernel, rfl⟩
theorem am_s104 : am_okP pmm104 := ⟨by decide +kernel, rfl⟩
theorem am_s105 : am_okP pmm105 := ⟨by decide +kernel, rfl⟩
theorem am_s106 : am_okP pmm106 := ⟨by decide +kernel, rfl⟩
theorem am_s107 : am_okP pmm107 := ⟨by decide +kernel, rfl⟩
theorem am_s108 : am_okP pmm108 := ⟨by decide +kernel, rfl⟩
theorem am_s109 : am_okP pmm109 := ⟨by decide +kernel, rfl⟩
theorem am_s110 : am_okP pmm110 := ⟨by decide +kernel, rfl⟩
theorem am_s111 : am_okP pmm111 := ⟨by decide +kernel, rfl⟩
theorem am_s112 : am_okP pmm112 := ⟨by decide +kernel, rfl⟩
theorem am_s113 : am_okP pmm113 := ⟨by decide +kernel, rfl⟩
theorem am_s114 : am_okP pmm114 := ⟨by decide +kernel, rfl⟩
theorem am_s115 : am_okP pmm115 := ⟨by decide +kernel, rfl⟩
theorem am_s116 : am_okP pmm116 := ⟨by decide +kernel, rfl⟩
theorem am_s117 : am_okP pmm117 := ⟨by decide +kernel, rfl⟩
theorem am_s118 : am_okP pmm118 := ⟨by decide +kernel, rfl⟩
theorem am_s119 : am_okP pmm119 := ⟨by decide +kernel, rfl⟩
theorem am_s120 : am_okP pmm120 := ⟨by decide +kernel, rfl⟩
theorem am_s121 : am_okP pmm121 := ⟨by decide +kernel, rfl⟩
theorem am_s122 : am_okP pmm122 := ⟨by decide +kernel, rfl⟩
theorem am_s123 : am_okP pmm123 := ⟨by decide +kernel, rfl⟩
theorem am_s124 : am_okP pmm124 := ⟨by decide +kernel, rfl⟩
theorem am_s125 : am_okP pmm125 := ⟨by decide +kernel, rfl⟩
theorem am_s126 : am_okP pmm126 := ⟨by decide +kernel, rfl⟩
theorem am_s127 : am_okP pmm127 := ⟨by decide +kernel, rfl⟩
theorem am_s128 : am_okP pmm128 := ⟨by decide +kernel, rfl⟩
theorem am_s129 : am_okP pmm129 := ⟨by decide +kernel, rfl⟩
theorem am_s130 : am_okP pmm130 := ⟨by decide +kernel, rfl⟩
theorem am_s131 : am_okP pmm131 := ⟨by decide +kernel, rfl⟩
theorem am_s132 : am_okP pmm132 := ⟨by decide +kernel, rfl⟩
theorem am_s133 : am_okP pmm133 := ⟨by decide +kernel, rfl⟩
theorem am_s134 : am_okP pmm134 := ⟨by decide +kernel, rfl⟩
theorem am_s135 : am_okP pmm135 := ⟨by decide +kernel, rfl⟩
theorem am_s136 : am_okP pmm136 := ⟨by decide +kernel, rfl⟩
theorem am_s137 : am_okP pmm137 := ⟨by decide +kernel, rfl⟩
theorem am_s138 : am_okP pmm138 := ⟨by decide +kernel, rfl⟩
theorem am_s139 : am_okP pmm139 := ⟨by decide +kernel, rfl⟩
theorem am_s140 : am_okP pmm140 := ⟨by decide +kernel, rfl⟩
theorem am_s141 : am_okP pmm141 := ⟨by decide +kernel, rfl⟩
theorem am_s142 : am_okP pmm142 := ⟨by decide +kernel, rfl⟩
theorem am_s143 : am_okP pmm143 := ⟨by decide +kernel, rfl⟩
theorem am_s144 : am_okP pmm144 := ⟨by decide +kernel, rfl⟩
theorem am_s145 : am_okP pmm145 := ⟨by decide +kernel, rfl⟩
theorem am_s146 : am_okP pmm146 := ⟨by decide +kernel, rfl⟩
theorem am_s147 : am_okP pmm147 := ⟨by decide +kernel, rfl⟩
theorem am_s148 : am_okP pmm148 := ⟨by decide +kernel, rfl⟩
theorem am_s149 : am_okP pmm149 := ⟨by decide +kernel, rfl⟩
theorem am_s150 : am_okP pmm150 := ⟨by decide +kernel, rfl⟩
theorem am_s151 : am_okP pmm151 := ⟨by decide +kernel, rfl⟩
theorem am_s152 : am_okP pmm152 := ⟨by decide +kernel, rfl⟩
theorem am_s153 : am_okP pmm153 := ⟨by decide +kernel, rfl⟩
theorem am_s154 : am_okP pmm154 := ⟨by decide +kernel, rfl⟩
theorem am_s155 : am_okP pmm155 := ⟨by decide +kernel, rfl⟩
theorem am_s156 : am_okP pmm156 := ⟨by decide +kernel, rfl⟩
theorem am_s157 : am_okP pmm157 := ⟨by decide +kernel, rfl⟩
theorem am_s158 : am_okP pmm158 := ⟨by decide +kernel, rfl⟩
theorem am_s159 : am_okP pmm159 := ⟨by decide +kernel, rfl⟩
theorem am_s160 : am_okP pmm160 := ⟨by decide +kernel, rfl⟩
theorem am_s161 : am_okP pmm161 := ⟨by decide +kernel, rfl⟩
theorem am_s162 : am_okP pmm162 := ⟨by decide +kernel, rfl⟩
theorem am_s163 : am_okP pmm163 := ⟨by decide +kernel, rfl⟩
theorem am_s164 : am_okP pmm164 := ⟨by decide +kernel, rfl⟩
theorem am_s165 : am_okP pmm165 := ⟨by decide +kernel, rfl⟩
theorem am_s166 : am_okP pmm166 := ⟨by decide +kernel, rfl⟩
theorem am_s167 : am_okP pmm167 := ⟨by decide +kernel, rfl⟩
theorem am_s168 : am_okP pmm168 := ⟨by decide +kernel, rfl⟩
theorem am_s169 : am_okP pmm169 := ⟨by decide +kernel, rfl⟩
theorem am_s170 : am_okP pmm170 := ⟨by decide +kernel, rfl⟩
theorem am_s171 : am_okP pmm171 := ⟨by decide +kernel, rfl⟩
theorem am_s172 : am_okP pmm172 := ⟨by decide +kernel, rfl⟩
theorem am_s173 : am_okP pmm173 := ⟨by decide +kernel, rfl⟩
theorem am_s174 : am_okP pmm174 := ⟨by decide +kernel, rfl⟩
theorem am_s175 : am_okP pmm175 := ⟨by decide +kernel, rfl⟩
theorem am_s176 : am_okP pmm176 := ⟨by decide +kernel, rfl⟩
theorem am_s177 : am_okP pmm177 := ⟨by decide +kernel, rfl⟩
theorem am_s178 : am_okP pmm178 := ⟨by decide +kernel, rfl⟩
theorem am_s179 : am_okP pmm179 := ⟨by decide +kernel, rfl⟩
theorem am_s180 : am_okP pmm180 := ⟨by decide +kernel, rfl⟩
theorem am_s181 : am_okP pmm181 := ⟨by decide +kernel, rfl⟩
theorem am_s182 : am_okP pmm182 := ⟨by decide +kernel, rfl⟩
theorem am_s183 : am_okP pmm183 := ⟨by decide +kernel, rfl⟩
theorem am_s184 : am_okP pmm184 := ⟨by decide +kernel, rfl⟩
theorem am_s185 : am_okP pmm185 := ⟨by decide +kernel, rfl⟩
theorem am_s186 : am_okP pmm186 := ⟨by decide +kernel, rfl⟩
theorem am_s187 : am_okP pmm187 := ⟨by decide +kernel, rfl⟩
theorem am_s188 : am_okP pmm188 := ⟨by decide +kernel, rfl⟩
theorem am_s189 : am_okP pmm189 := ⟨by decide +kernel, rfl⟩
theorem am_s190 : am_okP pmm190 := ⟨by decide +kernel, rfl⟩
theorem am_s191 : am_okP pmm191 := ⟨by decide +kernel, rfl⟩
theorem am_s192 : am_okP pmm192 := ⟨by decide +kernel, rfl⟩
theorem am_s193 : am_okP pmm193 := ⟨by decide +kernel, rfl⟩
theorem am_s194 : am_okP pmm194 := ⟨by decide +kernel, rfl⟩
theorem am_s195 : am_okP pmm195 := ⟨by decide +kernel, rfl⟩
theorem am_s196 : am_okP pmm196 := ⟨by decide +kernel, rfl⟩
theorem am_s197 : am_okP pmm197 := ⟨by decide +kernel, rfl⟩
theorem am_s198 : am_okP pmm198 := ⟨by decide +kernel, rfl⟩
theorem am_s199 : am_okP pmm199 := ⟨by decide +kernel, rfl⟩
theorem am_s200 : am_okP pmm200 := ⟨by decide +kernel, rfl⟩
theorem am_s201 : am_okP pmm201 := ⟨by decide +kernel, rfl⟩
theorem am_s202 : am_okP pmm202 := ⟨by decide +kernel, rfl⟩
theorem am_s203 : am_okP pmm203 := ⟨by decide +kernel, rfl⟩
theorem am_s204 : am_okP pmm204 := ⟨by decide +kernel, rfl⟩
theorem am_s205 : am_okP pmm205 := ⟨by decide +kernel, rfl⟩
theorem am_s206 : am_okP pmm206 := ⟨by decide +kernel, rfl⟩
theorem am_s207 : am_okP pmm207 := ⟨by decide +kernel, rfl⟩
theorem am_s208 : am_okP pmm208 := ⟨by decide +kernel, rfl⟩
theorem am_s209 : am_okP pmm209 := ⟨by decide +kernel, rfl⟩
theorem am_s210 : am_okP pmm210 := ⟨by decide +kernel, rfl⟩
theorem am_s211 : am_okP pmm211 := ⟨by decide +kernel, rfl⟩
theorem am_s212 : am_okP pmm212 := ⟨by decide +kernel, rfl⟩
theorem am_s213 : am_okP pmm213 := ⟨by decide +kernel, rfl⟩
theorem am_s214 : am_okP pmm214 := ⟨by decide +kernel, rfl⟩
theorem am_s215 : am_okP pmm215 := ⟨by decide +kernel, rfl⟩
theorem am_s216 : am_okP pmm216 := ⟨by decide +kernel, rfl⟩
theorem am_s217 : am_okP pmm217 := ⟨by decide +kernel, rfl⟩
theorem am_s218 : am_okP pmm218 := ⟨by decide +kernel, rfl⟩
theorem am_s219 : am_okP pmm219 := ⟨by decide +kernel, rfl⟩
theorem am_s220 : am_okP pmm220 := ⟨by decide +kernel, rfl⟩
theorem am_s221 : am_okP pmm221 := ⟨by decide +kernel, rfl⟩
theorem am_s222 : am_okP pmm222 := ⟨by decide +kernel, rfl⟩
theorem am_s223 : am_okP pmm223 := ⟨by decide +kernel, rfl⟩
theorem am_s224 : am_okP pmm224 := ⟨by decide +kernel, rfl⟩
theorem am_okA : ∀ m, am_okP (pm_m m) := fun m => by unfold pm_m; exact pm_iteP (pm_iteP (pm_iteP (pm_iteP (pm_iteP (pm_iteP (pm_iteP (am_s0) (pm_iteP (am_s1) (am_s2))) (pm_iteP (pm_iteP (am_s3) (am_s4)) (pm_iteP (am_s5) (am_s6)))) (pm_iteP (pm_iteP (am_s7) (pm_iteP (am_s8) (am_s9))) (pm_iteP (pm_iteP (am_s10) (am_s11)) (pm_iteP (am_s12) (am_s13))))) (pm_iteP (pm_iteP (pm_iteP (am_s14) (pm_iteP (am_s15) (am_s16))) (pm_iteP (pm_iteP (am_s17) (am_s18)) (pm_iteP (am_s19) (am_s20)))) (pm_iteP (pm_iteP (am_s21) (pm_iteP (am_s22) (am_s23))) (pm_iteP (pm_iteP (am_s24) (am_s25)) (pm_iteP (am_s26) (am_s27)))))) (pm_iteP (pm_iteP (pm_iteP (pm_iteP (am_s28) (pm_iteP (am_s29) (am_s30))) (pm_iteP (pm_iteP (am_s31) (am_s32)) (pm_iteP (am_s33) (am_s34)))) (pm_iteP (pm_iteP (am_s35) (pm_iteP (am_s36) (am_s37))) (pm_iteP (pm_iteP (am_s38) (am_s39)) (pm_iteP (am_s40) (am_s41))))) (pm_iteP (pm_iteP (pm_iteP (am_s42) (pm_iteP (am_s43) (am_s44))) (pm_iteP (pm_iteP (am_s45) (am_s46)) (pm_iteP (am_s47) (am_s48)))) (pm_iteP (pm_iteP (am_s49) (pm_iteP (am_s50) (am_s51))) (pm_iteP (pm_iteP (am_s52) (am_s53)) (pm_iteP (am_s54) (am_s55))))))) (pm_iteP (pm_iteP (pm_iteP (pm_iteP (pm_iteP (am_s56) (pm_iteP (am_s57) (am_s58))) (pm_iteP (pm_iteP (am_s59) (am_s60)) (pm_iteP (am_s61) (am_s62)))) (pm_iteP (pm_iteP (am_s63) (pm_iteP (am_s64) (am_s65))) (pm_iteP (pm_iteP (am_s66) (am_s67)) (pm_iteP (am_s68) (am_s69))))) (pm_iteP (pm_iteP (pm_iteP (am_s70) (pm_iteP (am_s71) (am_s72))) (pm_iteP (pm_iteP (am_s73) (am_s74)) (pm_iteP (am_s75) (am_s76)))) (pm_iteP (pm_iteP (am_s77) (pm_iteP (am_s78) (am_s79))) (pm_iteP (pm_iteP (am_s80) (am_s81)) (pm_iteP (am_s82) (am_s83)))))) (pm_iteP (pm_iteP (pm_iteP (pm_iteP (am_s84) (pm_iteP (am_s85) (am_s86))) (pm_iteP (pm_iteP (am_s87) (am_s88)) (pm_iteP (am_s89) (am_s90)))) (pm_iteP (pm_iteP (am_s91) (pm_iteP (am_s92) (am_s93))) (pm_iteP (pm_iteP (am_s94) (am_s95)) (pm_iteP (am_s96) (am_s97))))) (pm_iteP (pm_iteP (pm_iteP (am_s98) (pm_iteP (am_s99) (am_s100))) (pm_iteP (pm_iteP (am_s101) (am_s102)) (pm_iteP (am_s103) (am_s104)))) (pm_iteP (pm_iteP (am_s105) (pm_iteP (am_s106) (am_s107))) (pm_iteP (pm_iteP (am_s108) (am_s109)) (pm_iteP (am_s110) (am_s111)))))))) (pm_iteP (pm_iteP (pm_iteP (pm_iteP (pm_iteP (pm_iteP (am_s112) (pm_iteP (am_s113) (am_s114))) (pm_iteP (pm_iteP (am_s115) (am_s116)) (pm_iteP (am_s117) (am_s118)))) (pm_iteP (pm_iteP (am_s119) (pm_iteP (am_s120) (am_s121))) (pm_iteP (pm_iteP (am_s122) (am_s123)) (pm_iteP (am_s124) (am_s125))))) (pm_iteP (pm_iteP (pm_iteP (am_s126) (pm_iteP (am_s127) (am_s128))) (pm_iteP (pm_iteP (am_s129) (am_s130)) (pm_iteP (am_s131) (am_s132)))) (pm_iteP (pm_iteP (am_s133) (pm_iteP (am_s134) (am_s135))) (pm_iteP (pm_iteP (am_s136) (am_s137)) (pm_iteP (am_s138) (am_s139)))))) (pm_iteP (pm_iteP (pm_iteP (pm_iteP (am_s140) (pm_iteP (am_s141) (am_s142))) (pm_iteP (pm_iteP (am_s143) (am_s144)) (pm_iteP (am_s145) (am_s146)))) (pm_iteP (pm_iteP (am_s147) (pm_iteP (am_s148) (am_s149))) (pm_iteP (pm_iteP (am_s150) (am_s151)) (pm_iteP (am_s152) (am_s153))))) (pm_iteP (pm_iteP (pm_iteP (am_s154) (pm_iteP (am_s155) (am_s156))) (pm_iteP (pm_iteP (am_s157) (am_s158)) (pm_iteP (am_s159) (am_s160)))) (pm_iteP (pm_iteP (am_s161) (pm_iteP (am_s162) (am_s163))) (pm_iteP (pm_iteP (am_s164) (am_s165)) (pm_iteP (am_s166) (am_s167))))))) (pm_iteP (pm_iteP (pm_iteP (pm_iteP (pm_iteP (am_s168) (pm_iteP (am_s169) (am_s170))) (pm_iteP (pm_iteP (am_s171) (am_s172)) (pm_iteP (am_s173) (am_s174)))) (pm_iteP (pm_iteP (am_s175) (pm_iteP (am_s176) (am_s177))) (pm_iteP (pm_iteP (am_s178) (am_s179)) (pm_iteP (am_s180) (am_s181))))) (pm_iteP (pm_iteP (pm_iteP (am_s182) (pm_iteP (am_s183) (am_s184))) (pm_iteP (pm_iteP (am_s185) (am_s186)) (pm_iteP (am_s187) (am_s188)))) (pm_iteP (pm_iteP (am_s189) (pm_iteP (am_s190) (am_s191))) (pm_iteP (pm_iteP (am_s192) (am_s193)) (pm_iteP (am_s194) (am_s195)))))) (pm_iteP (pm_iteP (pm_iteP (pm_iteP (am_s196) (pm_iteP (am_s197) (am_s198))) (pm_iteP (pm_iteP (am_s199) (am_s200)) (pm_iteP (am_s201) (am_s202)))) (pm_iteP (pm_iteP (am_s203) (pm_iteP (am_s204) (am_s205))) (pm_iteP (pm_iteP (am_s206) (am_s207)) (pm_iteP (am_s208) (am_s209))))) (pm_iteP (pm_iteP (pm_iteP (am_s210) (pm_iteP (am_s211) (am_s212))) (pm_iteP (pm_iteP (am_s213) (am_s214)) (pm_iteP (am_s215) (am_s216)))) (pm_iteP (pm_iteP (pm_iteP (am_s217) (am_s218)) (pm_iteP (am_s219) (am_s220))) (pm_iteP (pm_iteP (am_s221) (am_s222)) (pm_iteP (am_s223) (am_s224))))))))
theorem am_sA (m : Nat) : am_srt (pm_kl m) = true := (am_okA m).1
theorem am_z (m : Nat) : am_z0 (pm_kl m) := (am_okA m).2
end
section
/-! THE BOX MACHINE IS SOUND: what it says of a run -/
/-- what a run of the pure machine comes to, as the box machine's answer says -/
def am_O (ρ : Nat → Int32) (X : pmX) (m stop : Nat) (res : aR) (o : Option (pmH × Option Value)) : Prop :=
  (res.1 = true ∧ ∃ h' r, o = some (h', r) ∧ am_H ρ res.2.2.2.1 h' ∧ am_sk ρ res.2.2.1 r.toList) ∨
  (res.1 = false ∧ ∃ ls' st' h', o = pm_exec X res.2.2.2.2.2.2 m stop ls' st' h' res.2.2.2.2.1 res.2.2.2.2.2.1 ∧ am_ls ρ res.2.1 ls' ∧ am_sk ρ res.2.2.1 st' ∧ am_H ρ res.2.2.2.1 h')
def am_Sn (ρ : Nat → Int32) (F : aF) (n : Nat) : Prop :=
  ∀ (AX : Option (Nat × List aV)) (X : pmX) (stop m : Nat) (e : Nat × Instr × Nat) (rest : List (Nat × Instr × Nat)) (als : aL) (ast : List aV) (ah : aH) (ls : pmL) (st : List Value) (h : pmH) (c k : Nat) (res : aR),
    am_exec F n AX stop m (pm_oc m) (pm_maxL m) (e :: rest) als ast ah c k = some res → (∃ pre, pm_kl m = pre ++ e :: rest) → am_X ρ AX X → am_ls ρ als ls → am_sk ρ ast st → am_H ρ ah h →
    am_O ρ X m stop res (pm_exec X n m e.1 ls st h c k)
section AMG
variable {ρ : Nat → Int32} {F : aF}
/-- the next step, wherever it lies -/
theorem am_go {n : Nat} (ih : am_Sn ρ F n) {AX : Option (Nat × List aV)} {X : pmX} {stop m pc' : Nat} {e : Nat × Instr × Nat} {rest : List (Nat × Instr × Nat)} {als : aL} {ast : List aV} {ah : aH} {ls : pmL} {st : List Value} {h : pmH} {c k : Nat} {res : aR}
    (hx : am_exec F n AX stop m (pm_oc m) (pm_maxL m) (am_next (pm_kl m) rest pc') als ast ah c k = some res) (hk : ∃ pre, pm_kl m = pre ++ e :: rest) (hX : am_X ρ AX X) (hl : am_ls ρ als ls) (hs : am_sk ρ ast st) (hH : am_H ρ ah h) : am_O ρ X m stop res (pm_exec X n m pc' ls st h c k) := by
  cases hn : am_next (pm_kl m) rest pc' with
  | nil =>
    rw [hn] at hx
    cases n <;> cases hx
  | cons e' r' =>
    rw [hn] at hx
    obtain ⟨h1, h2⟩ := am_next_ok hk hn
    have := ih AX X stop m e' r' als ast ah ls st h c k res hx h2 hX hl hs hH
    rwa [h1] at this
theorem am_Xn : am_X ρ none none := fun x h => by cases h
theorem am_ok (hF : am_Fo ρ F) : ∀ n, am_Sn ρ F n := by
  intro n
  induction n with
  | zero =>
    intro AX X stop m e rest als ast ah ls st h c k res hx
    cases hx
  | succ n ih =>
    intro AX X stop m e rest als ast ah ls st h c k res hx hk hX hl hs hH
    obtain ⟨pc, i, len⟩ := e
    have hlk : pm_look (pm_kl m) pc = some (i, len) := by
      obtain ⟨pre, hp⟩ := hk
      have := am_sA m
      rw [hp] at this ⊢
      exact am_srt_look this
    unfold am_exec at hx
    dsimp only at hx
    cases hstop : Nat.beq pc stop
    · rw [hstop] at hx
      simp only [cond_false] at hx
      cases hret : am_isret i
      · rw [hret] at hx
        simp only [cond_false] at hx
        split at hx
        · next q hop =>
          split at hx
          · next y as r hinv =>
            obtain ⟨as', rest', h1, h2, h3⟩ := am_inv_ok hs hH hinv
            split at hx
            · next l0 a h0 q0 hcall =>
              cases hky : pm_kl y with
              | nil =>
                rw [hky] at hcall
                cases n <;> cases hcall
              | cons e2 r2 =>
                have he2 : e2.1 = 0 := by
                  have := am_z y
                  rw [hky] at this
                  exact this
                rw [hky] at hcall
                have hc := ih none none 99999 y e2 r2 (am_args 0 as) [] ah (lv_args 0 as') [] h 0 0 _ hcall ⟨[], hky⟩ am_Xn (am_args_ok 0 h2) trivial hH
                rw [he2] at hc
                rcases hc with ⟨_, h', r', g1, g2, g3⟩ | ⟨g, _⟩
                · have := am_go (e := (pc, i, len)) ih hx hk hX hl (g3.app h3) g2
                  have hex : pm_exec X (n + 1) m pc ls st h c k = pm_exec X n m (pc + 3) ls (r'.toList ++ rest') h' (c + pm_mc y) (k + pm_ms y) := by
                    rw [pm_exec]
                    simp only [hlk, am_noend hret, h1, g1]
                  rw [hex]
                  exact this
                · cases g
            · cases hx
          · next q1 r hinv =>
            obtain ⟨as', rest', h1, h2, h3⟩ := am_inv_ok hs hH hinv
            have := am_go (e := (pc, i, len)) ih hx hk hX hl h3 hH
            have hex : pm_exec X (n + 1) m pc ls st h c k = pm_exec X n m (pc + 3) ls rest' h c k := by
              rw [pm_exec]
              simp only [hlk, am_noend hret, h1]
            rw [hex]
            exact this
          · cases hx
        · next hop =>
          split at hx
          · next pc' ls' st' hA =>
            obtain ⟨ls2, st2, g1, g2, g3⟩ := am_stA (m := m) (hh := h) (c := c) (k := k) hF hl hs hA
            have := am_go (e := (pc, i, len)) ih hx hk hX g2 g3 hH
            have hex : pm_exec X (n + 1) m pc ls st h c k = pm_exec X n m pc' ls2 st2 h c k := by
              rw [pm_exec]
              simp only [hlk, am_noend hret, am_noinv hop, pm_step, g1]
            rw [hex]
            exact this
          · split at hx
            · next pc' ls' st' h' c' k' hB =>
              obtain ⟨g0, ls2, st2, h2, g1, g2, g3, g4⟩ := am_stB (m := m) (c := c) (k := k) hX hl hs hH hB
              have := am_go (e := (pc, i, len)) ih hx hk hX g2 g3 g4
              have hex : pm_exec X (n + 1) m pc ls st h c k = pm_exec X n m pc' ls2 st2 h2 c' k' := by
                rw [pm_exec]
                simp only [hlk, am_noend hret, am_noinv hop, pm_step, g0, g1]
              rw [hex]
              exact this
            · cases hx
      · rw [hret] at hx
        simp only [cond_true] at hx
        split at hx
        · next r hend =>
          cases hx
          obtain ⟨v, g1, g2⟩ := am_end_ok hs hend
          refine Or.inl ⟨rfl, h, v, ?_, hH, g2⟩
          rw [pm_exec]
          simp only [hlk, g1]
        · cases hx
    · rw [hstop] at hx
      cases hx
      have := am_bq hstop
      subst this
      exact Or.inr ⟨rfl, ls, st, h, rfl, hl, hs, hH⟩
end AMG
end
section
def am_A0_0 : List (Nat × aC) := [(0, (10, 12, (9, 0, 0, 0, 0), [(0, (2, 1, 1, 0, 0)), (1, (2, 46, 46, 0, 0)), (2, (2, 50, 50, 0, 0)), (3, (2, 177, 177, 0, 0)), (4, (2, 179, 179, 0, 0)), (5, (2, 209, 209, 0, 0)), (6, (2, 214, 214, 0, 0)), (7, (2, 218, 218, 0, 0)), (8, (2, 231, 231, 0, 0)), (9, (2, 243, 243, 0, 0)), (10, am_c (0)), (11, am_c (-1))])), (1, (7, 5, (9, 0, 0, 0, 0), [(0, (2, 2, 2, 0, 0)), (1, (2, 3, 3, 0, 0)), (2, (2, 4, 4, 0, 0)), (3, (2, 5, 5, 0, 0)), (4, am_c (1))])), (46, (3, 4, (9, 0, 0, 0, 0), [(0, (2, 47, 47, 0, 0)), (1, (2, 48, 48, 0, 0)), (2, (2, 49, 49, 0, 0)), (3, am_c (0))])), (50, (2, 7, (9, 0, 0, 0, 0), [(0, (2, 51, 51, 0, 0)), (1, (2, 52, 52, 0, 0)), (2, (2, 53, 53, 0, 0)), (3, (2, 54, 54, 0, 0)), (4, (2, 55, 55, 0, 0)), (5, (2, 56, 56, 0, 0)), (6, am_c (0))])), (177, (6, 7, (9, 0, 0, 0, 0), [(0, (2, 178, 178, 0, 0)), (1, am_c (0)), (2, am_c (0)), (3, am_c (0)), (4, am_c (0)), (5, am_c (0)), (6, am_c (0))])), (179, (4, 6, (9, 0, 0, 0, 0), [(0, (2, 180, 180, 0, 0)), (1, (2, 181, 181, 0, 0)), (2, (2, 182, 182, 0, 0)), (3, (2, 191, 191, 0, 0)), (4, (2, 200, 200, 0, 0)), (5, am_c (0))])), (209, (1, 8, (9, 0, 0, 0, 0), [(0, am_c (0)), (1, (2, 210, 210, 0, 0)), (2, (2, 211, 211, 0, 0)), (3, (2, 212, 212, 0, 0)), (4, (2, 213, 213, 0, 0)), (5, am_c (0)), (6, am_c (0)), (7, am_c (0))])), (214, (9, 4, (9, 0, 0, 0, 0), [(0, (2, 215, 215, 0, 0)), (1, (2, 216, 216, 0, 0)), (2, (2, 217, 217, 0, 0)), (3, am_c (0))])), (218, (0, 7, (9, 0, 0, 0, 0), [(0, (2, 219, 219, 0, 0)), (1, (2, 220, 220, 0, 0)), (2, (2, 229, 229, 0, 0)), (3, (2, 230, 230, 0, 0)), (4, am_c (0)), (5, am_c (0)), (6, am_c (0))])), (231, (5, 4, (9, 0, 0, 0, 0), [(0, (2, 232, 232, 0, 0)), (1, (2, 233, 233, 0, 0)), (2, (2, 238, 238, 0, 0)), (3, am_c (0))])), (243, (8, 13, (9, 0, 0, 0, 0), [(0, (2, 1, 1, 0, 0)), (1, (2, 50, 50, 0, 0)), (2, (2, 179, 179, 0, 0)), (3, (2, 244, 244, 0, 0)), (4, (2, 249, 249, 0, 0)), (5, (2, 250, 250, 0, 0)), (6, (2, 251, 251, 0, 0)), (7, (2, 252, 252, 0, 0)), (8, (2, 253, 253, 0, 0)), (9, (2, 254, 254, 0, 0)), (10, (2, 255, 255, 0, 0)), (11, am_c (0)), (12, am_c (-1))])), (244, (1, 8, (9, 0, 0, 0, 0), [(0, am_c (0)), (1, (2, 245, 245, 0, 0)), (2, (2, 246, 246, 0, 0)), (3, (2, 247, 247, 0, 0)), (4, (2, 248, 248, 0, 0)), (5, am_c (0)), (6, am_c (0)), (7, am_c (0))])), (256, (11, 62, (9, 0, 0, 0, 0), [(0, am_c (0)), (1, am_c (1)), (2, (2, 257, 257, 0, 0)), (3, (2, 258, 258, 0, 0)), (4, (2, 259, 259, 0, 0)), (5, (2, 260, 260, 0, 0)), (6, am_c (0)), (7, (2, 261, 261, 0, 0)), (8, (2, 262, 262, 0, 0)), (9, (2, 263, 263, 0, 0)), (10, am_c (0)), (11, (2, 264, 264, 0, 0)), (12, (2, 265, 265, 0, 0)), (13, (2, 266, 266, 0, 0)), (14, (2, 267, 267, 0, 0)), (15, (2, 268, 268, 0, 0)), (16, (2, 269, 269, 0, 0)), (17, am_c (0)), (18, (2, 270, 270, 0, 0)), (19, (2, 271, 271, 0, 0)), (20, am_c (0)), (21, (2, 272, 272, 0, 0)), (22, (2, 273, 273, 0, 0)), (23, (2, 274, 274, 0, 0)), (24, (2, 275, 275, 0, 0)), (25, (2, 276, 276, 0, 0)), (26, am_c (0)), (27, (2, 277, 277, 0, 0)), (28, (2, 278, 278, 0, 0)), (29, (2, 279, 279, 0, 0)), (30, (2, 280, 280, 0, 0)), (31, (2, 281, 281, 0, 0)), (32, (2, 282, 282, 0, 0)), (33, (2, 283, 283, 0, 0)), (34, am_c (0)), (35, am_c (-1)), (36, am_c (0)), (37, am_j (0)), (38, am_c (0)), (39, am_c (0)), (40, am_c (0)), (41, (2, 284, 284, 0, 0)), (42, (2, 285, 285, 0, 0)), (43, am_c (0)), (44, (2, 286, 286, 0, 0)), (45, (2, 287, 287, 0, 0)), (46, (2, 288, 288, 0, 0)), (47, am_c (0)), (48, am_c (0)), (49, (2, 289, 289, 0, 0)), (50, am_c (0)), (51, am_c (0)), (52, (2, 290, 290, 0, 0)), (53, am_c (0)), (54, am_c (0)), (55, am_c (0)), (56, am_c (0)), (57, (2, 291, 291, 0, 0)), (58, am_c (0)), (59, (2, 292, 292, 0, 0)), (60, (2, 293, 293, 0, 0)), (61, (2, 294, 294, 0, 0))])), (2, (20, 40, am_c (0), [])), (3, (20, 40, am_c (-1), [])), (4, (20, 40, am_c (-1), [])), (5, (23, 40, (4, 6, 0, 0, 0), [])), (47, (20, 40, am_c (0), [])), (48, (20, 40, am_c (0), [])), (49, (20, 40, am_c (0), [])), (51, (20, 120, am_c (0), [])), (52, (20, 120, am_c (0), [])), (53, (20, 120, am_c (0), [])), (54, (20, 120, am_c (0), [])), (55, (20, 120, am_c (0), [])), (56, (23, 120, (4, 57, 0, 0, 0), [])), (178, (20, 160, am_c (0), [])), (182, (23, 8, (4, 183, 0, 0, 0), [])), (191, (23, 8, (4, 192, 0, 0, 0), [])), (200, (23, 8, (4, 201, 0, 0, 0), [])), (213, (21, 40, am_j (0), [])), (215, (20, 60, am_c (0), [])), (216, (20, 60, am_c (0), [])), (217, (20, 60, am_c (0), [])), (220, (23, 8, (4, 221, 0, 0, 0), [])), (221, (20, 100, am_c (0), [])), (222, (20, 100, am_c (0), [])), (223, (20, 100, am_c (0), [])), (224, (20, 100, am_c (0), [])), (225, (20, 100, am_c (0), [])), (226, (20, 100, am_c (0), [])), (227, (20, 100, am_c (0), [])), (228, (20, 100, am_c (0), [])), (229, (21, 100, am_j (0), [])), (230, (20, 100, am_c (0), [])), (233, (23, 4, (4, 234, 0, 0, 0), [])), (238, (24, 4, (4, 239, 0, 0, 0), [])), (248, (21, 40, am_j (0), [])), (249, (20, 40, am_c (0), [])), (250, (22, 120, am_c (0), [])), (251, (20, 120, am_c (0), [])), (252, (20, 120, am_c (0), [])), (253, (20, 120, am_c (0), [])), (254, (22, 120, am_c (0), [])), (255, (21, 40, am_j (0), [])), (257, (20, 40, am_c (0), [])), (258, (20, 40, am_c (0), [(0, am_c (-1))])), (259, (20, 40, am_c (0), [(0, am_c (-1))])), (260, (20, 400, am_c (0), [(0, am_c (-1)), (1, am_c (-1)), (2, am_c (-1)), (3, am_c (-1)), (4, am_c (-1)), (5, am_c (-1)), (6, am_c (-1)), (7, am_c (-1)), (8, am_c (-1)), (9, am_c (-1))])), (261, (20, 40, am_c (0), []))]
def am_A0_1 : List (Nat × aC) := [(262, (20, 40, am_c (0), [])), (263, (20, 40, am_c (0), [])), (264, (20, 120, am_c (0), [])), (265, (20, 120, am_c (0), [])), (266, (20, 120, am_c (0), [])), (267, (20, 120, am_c (0), [])), (268, (20, 120, am_c (0), [])), (269, (20, 960, am_c (0), [])), (272, (20, 72, am_c (0), [])), (273, (20, 72, am_c (0), [])), (274, (20, 72, am_c (0), [])), (275, (22, 8, am_c (0), [])), (277, (20, 120, am_c (0), [])), (278, (22, 120, am_c (0), [])), (279, (20, 120, am_c (0), [])), (280, (20, 120, am_c (0), [])), (281, (22, 120, am_c (0), [])), (282, (21, 40, am_j (0), [])), (283, (20, 160, am_c (0), [])), (284, (20, 60, am_c (0), [])), (285, (20, 60, am_c (0), [])), (287, (20, 880, am_c (0), [])), (288, (20, 880, am_c (0), [])), (289, (20, 120, am_c (0), [])), (290, (22, 120, am_c (0), [])), (291, (20, 40, am_c (0), [])), (293, (20, 20, am_c (0), [])), (294, (20, 60, am_c (0), [])), (6, (20, 10, am_c (-1), [])), (7, (20, 10, am_c (-1), [])), (8, (20, 10, am_c (-1), [])), (9, (20, 10, am_c (-1), [])), (10, (20, 10, am_c (-1), [])), (11, (20, 10, am_c (-1), [])), (12, (20, 10, am_c (-1), [])), (13, (20, 10, am_c (-1), [])), (14, (20, 10, am_c (-1), [])), (15, (20, 10, am_c (-1), [])), (16, (20, 10, am_c (-1), [])), (17, (20, 10, am_c (-1), [])), (18, (20, 10, am_c (-1), [])), (19, (20, 10, am_c (-1), [])), (20, (20, 10, am_c (-1), [])), (21, (20, 10, am_c (-1), [])), (22, (20, 10, am_c (-1), [])), (23, (20, 10, am_c (-1), [])), (24, (20, 10, am_c (-1), [])), (25, (20, 10, am_c (-1), [])), (26, (20, 10, am_c (-1), [])), (27, (20, 10, am_c (-1), [])), (28, (20, 10, am_c (-1), [])), (29, (20, 10, am_c (-1), [])), (30, (20, 10, am_c (-1), [])), (31, (20, 10, am_c (-1), [])), (32, (20, 10, am_c (-1), [])), (33, (20, 10, am_c (-1), [])), (34, (20, 10, am_c (-1), [])), (35, (20, 10, am_c (-1), [])), (36, (20, 10, am_c (-1), [])), (37, (20, 10, am_c (-1), []))]
def am_A0_2 : List (Nat × aC) := [(38, (20, 10, am_c (-1), [])), (39, (20, 10, am_c (-1), [])), (40, (20, 10, am_c (-1), [])), (41, (20, 10, am_c (-1), [])), (42, (20, 10, am_c (-1), [])), (43, (20, 10, am_c (-1), [])), (44, (20, 10, am_c (-1), [])), (45, (20, 10, am_c (-1), [])), (57, (20, 8, am_c (0), [])), (58, (20, 8, am_c (0), [])), (59, (20, 8, am_c (0), [])), (60, (20, 8, am_c (0), [])), (61, (20, 8, am_c (0), [])), (62, (20, 8, am_c (0), [])), (63, (20, 8, am_c (0), [])), (64, (20, 8, am_c (0), [])), (65, (20, 8, am_c (0), [])), (66, (20, 8, am_c (0), [])), (67, (20, 8, am_c (0), [])), (68, (20, 8, am_c (0), [])), (69, (20, 8, am_c (0), [])), (70, (20, 8, am_c (0), [])), (71, (20, 8, am_c (0), [])), (72, (20, 8, am_c (0), [])), (73, (20, 8, am_c (0), [])), (74, (20, 8, am_c (0), [])), (75, (20, 8, am_c (0), [])), (76, (20, 8, am_c (0), [])), (77, (20, 8, am_c (0), [])), (78, (20, 8, am_c (0), [])), (79, (20, 8, am_c (0), [])), (80, (20, 8, am_c (0), [])), (81, (20, 8, am_c (0), [])), (82, (20, 8, am_c (0), [])), (83, (20, 8, am_c (0), [])), (84, (20, 8, am_c (0), [])), (85, (20, 8, am_c (0), [])), (86, (20, 8, am_c (0), [])), (87, (20, 8, am_c (0), [])), (88, (20, 8, am_c (0), [])), (89, (20, 8, am_c (0), [])), (90, (20, 8, am_c (0), [])), (91, (20, 8, am_c (0), [])), (92, (20, 8, am_c (0), [])), (93, (20, 8, am_c (0), [])), (94, (20, 8, am_c (0), [])), (95, (20, 8, am_c (0), [])), (96, (20, 8, am_c (0), [])), (97, (20, 8, am_c (0), [])), (98, (20, 8, am_c (0), [])), (99, (20, 8, am_c (0), [])), (100, (20, 8, am_c (0), [])), (101, (20, 8, am_c (0), [])), (102, (20, 8, am_c (0), [])), (103, (20, 8, am_c (0), [])), (104, (20, 8, am_c (0), [])), (105, (20, 8, am_c (0), [])), (106, (20, 8, am_c (0), [])), (107, (20, 8, am_c (0), [])), (108, (20, 8, am_c (0), []))]
def am_A0_3 : List (Nat × aC) := [(109, (20, 8, am_c (0), [])), (110, (20, 8, am_c (0), [])), (111, (20, 8, am_c (0), [])), (112, (20, 8, am_c (0), [])), (113, (20, 8, am_c (0), [])), (114, (20, 8, am_c (0), [])), (115, (20, 8, am_c (0), [])), (116, (20, 8, am_c (0), [])), (117, (20, 8, am_c (0), [])), (118, (20, 8, am_c (0), [])), (119, (20, 8, am_c (0), [])), (120, (20, 8, am_c (0), [])), (121, (20, 8, am_c (0), [])), (122, (20, 8, am_c (0), [])), (123, (20, 8, am_c (0), [])), (124, (20, 8, am_c (0), [])), (125, (20, 8, am_c (0), [])), (126, (20, 8, am_c (0), [])), (127, (20, 8, am_c (0), [])), (128, (20, 8, am_c (0), [])), (129, (20, 8, am_c (0), [])), (130, (20, 8, am_c (0), [])), (131, (20, 8, am_c (0), [])), (132, (20, 8, am_c (0), [])), (133, (20, 8, am_c (0), [])), (134, (20, 8, am_c (0), [])), (135, (20, 8, am_c (0), [])), (136, (20, 8, am_c (0), [])), (137, (20, 8, am_c (0), [])), (138, (20, 8, am_c (0), [])), (139, (20, 8, am_c (0), [])), (140, (20, 8, am_c (0), [])), (141, (20, 8, am_c (0), [])), (142, (20, 8, am_c (0), [])), (143, (20, 8, am_c (0), [])), (144, (20, 8, am_c (0), [])), (145, (20, 8, am_c (0), [])), (146, (20, 8, am_c (0), [])), (147, (20, 8, am_c (0), [])), (148, (20, 8, am_c (0), [])), (149, (20, 8, am_c (0), [])), (150, (20, 8, am_c (0), [])), (151, (20, 8, am_c (0), [])), (152, (20, 8, am_c (0), [])), (153, (20, 8, am_c (0), [])), (154, (20, 8, am_c (0), [])), (155, (20, 8, am_c (0), [])), (156, (20, 8, am_c (0), [])), (157, (20, 8, am_c (0), [])), (158, (20, 8, am_c (0), [])), (159, (20, 8, am_c (0), [])), (160, (20, 8, am_c (0), [])), (161, (20, 8, am_c (0), [])), (162, (20, 8, am_c (0), [])), (163, (20, 8, am_c (0), [])), (164, (20, 8, am_c (0), [])), (165, (20, 8, am_c (0), [])), (166, (20, 8, am_c (0), [])), (167, (20, 8, am_c (0), [])), (168, (20, 8, am_c (0), []))]
def am_A0_4 : List (Nat × aC) := [(169, (20, 8, am_c (0), [])), (170, (20, 8, am_c (0), [])), (171, (20, 8, am_c (0), [])), (172, (20, 8, am_c (0), [])), (173, (20, 8, am_c (0), [])), (174, (20, 8, am_c (0), [])), (175, (20, 8, am_c (0), [])), (176, (20, 8, am_c (0), [])), (180, (20, 8, am_c (0), [])), (181, (20, 8, am_c (0), [])), (183, (20, 8, am_c (0), [])), (184, (20, 8, am_c (0), [])), (185, (20, 8, am_c (0), [])), (186, (20, 8, am_c (0), [])), (187, (20, 8, am_c (0), [])), (188, (20, 8, am_c (0), [])), (189, (20, 8, am_c (0), [])), (190, (20, 8, am_c (0), [])), (192, (20, 8, am_c (0), [])), (193, (20, 8, am_c (0), [])), (194, (20, 8, am_c (0), [])), (195, (20, 8, am_c (0), [])), (196, (20, 8, am_c (0), [])), (197, (20, 8, am_c (0), [])), (198, (20, 8, am_c (0), [])), (199, (20, 8, am_c (0), [])), (201, (20, 8, am_c (0), [])), (202, (20, 8, am_c (0), [])), (203, (20, 8, am_c (0), [])), (204, (20, 8, am_c (0), [])), (205, (20, 8, am_c (0), [])), (206, (20, 8, am_c (0), [])), (207, (20, 8, am_c (0), [])), (208, (20, 8, am_c (0), [])), (210, (20, 6, am_c (0), [])), (211, (21, 6, am_j (0), [])), (212, (20, 6, am_c (0), [])), (219, (20, 8, am_c (0), [])), (232, (20, 4, am_c (0), [])), (234, (20, 5, am_c (0), [])), (235, (20, 5, am_c (0), [])), (236, (20, 5, am_c (0), [])), (237, (20, 5, am_c (0), [])), (239, (21, 5, am_j (0), [])), (240, (21, 5, am_j (0), [])), (241, (21, 5, am_j (0), [])), (242, (21, 5, am_j (0), [])), (245, (20, 6, am_c (0), [])), (246, (21, 6, am_j (0), [])), (247, (20, 6, am_c (0), [])), (270, (20, 8, am_c (0), [])), (271, (20, 9, am_c (0), [])), (276, (20, 6, am_c (0), [])), (286, (20, 8, am_c (0), [])), (292, (20, 4, am_c (0), []))]
def am_A0 : aH := (295, am_A0_0 ++ (am_A0_1 ++ (am_A0_2 ++ (am_A0_3 ++ (am_A0_4)))))
def am_L : Nat := 224
def am_Lc : Nat := 295
def am_Lk : Nat := 10442
def am_ref (n : Nat) : aV := (2, n, n, 0, 0)
def am_Ll : aL := [(3, am_c 0), (2, am_ref 256), (1, am_ref 0), (0, am_ref 2000)]
end
section
/-! p1: the constructors' run, then one call, over boxes of its arguments -/
def am_veq (a b : aV) : Bool := Nat.beq a.1 b.1 && (am_ieq a.2.1 b.2.1 && (am_ieq a.2.2.1 b.2.2.1 && Nat.beq b.2.2.2.1 0))
def am_rng (f : Nat → Bool) : Nat → Bool
  | 0 => true
  | n + 1 => f n && am_rng f n
def am_reb (h A : aH) : Bool := Nat.beq h.1 A.1 && A.2.all (fun e => match pm_look h.2 e.1 with
  | some c => Nat.beq c.1 e.2.1 && (Nat.beq c.2.1 e.2.2.1 && am_rng (fun i => am_veq (am_rd c.2.2.1 c.2.2.2 i) (am_rd e.2.2.2.1 e.2.2.2.2 i)) e.2.2.1)
  | none => false)
def am_leq : aL → aL → Bool
  | [], [] => true
  | a :: r, b :: t => Nat.beq a.1 b.1 && (am_veq a.2 b.2 && am_leq r t)
  | _, _ => false
/-- the constructors -/
def am_pre (n : Nat) : Option aR := am_exec [] n none 18 am_L (pm_oc am_L) (pm_maxL am_L) (pm_kl am_L) [(0, am_ref 2000)] [] (0, []) 0 0
def am_prec (n n' : Nat) : Bool := match am_pre n with
  | some (b, ls, st, h, c, k, f) => !b && (am_leq ls am_Ll && (st.isEmpty && (am_reb h am_A0 && (Nat.beq c am_Lc && (Nat.beq k am_Lk && Nat.beq f n')))))
  | none => false
/-- one call: from the switch on -/
def am_run (n : Nat) (F : aF) (bx : List aV) (v : Nat) : Bool := match am_exec F n (some (7, bx)) 99999 am_L (pm_oc am_L) (pm_maxL am_L) (am_drop (pm_kl am_L) 33) am_Ll [am_c (v : Nat)] am_A0 am_Lc am_Lk with
  | some (true, _, [a], _) => Nat.beq a.1 0 && (am_ieq a.2.1 1 && am_ieq a.2.2.1 1)
  | _ => false
abbrev aSp : Type := Nat × List Int
def am_ivs (lo hi : Int) : List Int → List (Int × Int)
  | [] => [(lo, hi)]
  | c :: r => (lo, c - 1) :: am_ivs c hi r
def am_fct (cs : List Int) : Option (Nat × Nat) := match cs with
  | [i, j] => some (i.toNat, j.toNat)
  | _ => none
def am_n : Nat := 20000
def am_try (v : Nat) : List aSp → aF → List aV → Bool
  | [], F, bx => am_run am_n F bx v
  | (j, cs) :: r, F, bx => am_run am_n F bx v || cond (Nat.blt j 7) ((am_ivs (-2147483648) 2147483647 cs).all (fun iv => am_try v r F (bx.set j (0, iv.1, iv.2, j + 1, 0))))
      (match am_fct cs with
      | some (a, b) => am_try v r ((j - 10, a + 1, b + 1, true) :: F) bx && am_try v r ((j - 10, a + 1, b + 1, false) :: F) bx
      | none => false)
def am_b0 : List aV := [(0, -2147483648, 2147483647, 1, 0), (0, -2147483648, 2147483647, 2, 0), (0, -2147483648, 2147483647, 3, 0), (0, -2147483648, 2147483647, 4, 0), (0, -2147483648, 2147483647, 5, 0), (0, -2147483648, 2147483647, 6, 0), (0, -2147483648, 2147483647, 7, 0)]
end
section
def am_sp (v : Nat) : List aSp := match v with
  | 1 => [(1, [0, 1])]
  | 2 => [(1, [0, 1]), (2, [0, 1])]
  | 3 => [(1, [0, 1]), (2, [-1, 0, 1])]
  | 4 => [(1, [0, 1]), (2, [0, 1]), (3, [0, 1, 2, 3, 4, 5, 6, 7])]
  | 5 => [(1, [0, 1]), (2, [0, 1]), (3, [0, 1])]
  | 6 => [(3, [-1, 0]), (1, [0, 1000]), (2, [0, 10])]
  | 7 => [(1, [0])]
  | 8 => [(1, [0])]
  | 9 => [(1, [0])]
  | 10 => [(1, [0])]
  | 11 => [(1, [0])]
  | 12 => [(1, [0, 1, 2, 3, 4, 5, 6, 7, 8, 9, 10, 11, 12, 13])]
  | 13 => [(1, [1, 2, 3, 4, 5, 6, 7, 8, 9])]
  | 14 => [(1, [0, 10])]
  | 16 => [(1, [0, 1, 2, 3, 4, 5, 6, 7, 8, 9, 10]), (2, [0, 1, 2, 3, 4, 5, 6, 7, 8, 9, 10])]
  | 17 => [(3, [0, 1]), (1, [0, 1, 2, 3, 4]), (2, [0, 100])]
  | 18 => [(1, [0, 4]), (2, [0, 100])]
  | 20 => [(1, [0])]
  | 21 => [(3, [0, 1]), (1, [0, 8]), (2, [0, 8]), (10, [1, 2]), (4, [0, 1]), (5, [0, 1, 2, 3, 4, 5])]
  | 22 => [(1, [0, 1]), (2, [0, 1]), (3, [0, 1]), (6, [0, 1, 2, 3, 4, 5]), (4, [0, 1000]), (5, [0, 1000]), (11, [5, 4])]
  | 23 => [(1, [0, 1]), (2, [0, 1]), (3, [-1, 0])]
  | 24 => [(1, [0, 1]), (2, [0, 1]), (3, [-1, 0])]
  | 25 => [(1, [0])]
  | 27 => [(1, [0])]
  | 28 => [(1, [0])]
  | 29 => [(1, [0, 1]), (2, [0, 1]), (3, [0, 1, 2])]
  | _ => []
end
section
theorem am_preT : am_prec 20021 20011 = true := by decide +kernel
end
section
theorem am_t0 : am_try 0 (am_sp 0) [] am_b0 = true := by decide +kernel
theorem am_t1 : am_try 1 (am_sp 1) [] am_b0 = true := by decide +kernel
theorem am_t2 : am_try 2 (am_sp 2) [] am_b0 = true := by decide +kernel
theorem am_t3 : am_try 3 (am_sp 3) [] am_b0 = true := by decide +kernel
end
section
theorem am_t4 : am_try 4 (am_sp 4) [] am_b0 = true := by decide +kernel
theorem am_t5 : am_try 5 (am_sp 5) [] am_b0 = true := by decide +kernel
theorem am_t6 : am_try 6 (am_sp 6) [] am_b0 = true := by decide +kernel
end
section
theorem am_t7 : am_try 7 (am_sp 7) [] am_b0 = true := by decide +kernel
theorem am_t8 : am_try 8 (am_sp 8) [] am_b0 = true := by decide +kernel
theorem am_t9 : am_try 9 (am_sp 9) [] am_b0 = true := by decide +kernel
theorem am_t10 : am_try 10 (am_sp 10) [] am_b0 = true := by decide +kernel
theorem am_t11 : am_try 11 (am_sp 11) [] am_b0 = true := by decide +kernel
end
section
theorem am_t12 : am_try 12 (am_sp 12) [] am_b0 = true := by decide +kernel
end
section
theorem am_t13 : am_try 13 (am_sp 13) [] am_b0 = true := by decide +kernel
theorem am_t14 : am_try 14 (am_sp 14) [] am_b0 = true := by decide +kernel
theorem am_t15 : am_try 15 (am_sp 15) [] am_b0 = true := by decide +kernel
end
section
theorem am_t16 : am_try 16 (am_sp 16) [] am_b0 = true := by decide +kernel
end
section
theorem am_t17 : am_try 17 (am_sp 17) [] am_b0 = true := by decide +kernel
theorem am_t18 : am_try 18 (am_sp 18) [] am_b0 = true := by decide +kernel
theorem am_t19 : am_try 19 (am_sp 19) [] am_b0 = true := by decide +kernel
theorem am_t20 : am_try 20 (am_sp 20) [] am_b0 = true := by decide +kernel
end
section
theorem am_t21 : am_try 21 (am_sp 21) [] am_b0 = true := by decide +kernel
end
section
theorem am_t22 : am_try 22 (am_sp 22) [] am_b0 = true := by decide +kernel
end
section
theorem am_t23 : am_try 23 (am_sp 23) [] am_b0 = true := by decide +kernel
theorem am_t24 : am_try 24 (am_sp 24) [] am_b0 = true := by decide +kernel
end
section
theorem am_t25 : am_try 25 (am_sp 25) [] am_b0 = true := by decide +kernel
theorem am_t26 : am_try 26 (am_sp 26) [] am_b0 = true := by decide +kernel
theorem am_t27 : am_try 27 (am_sp 27) [] am_b0 = true := by decide +kernel
theorem am_t28 : am_try 28 (am_sp 28) [] am_b0 = true := by decide +kernel
end
section
theorem am_t29 : am_try 29 (am_sp 29) [] am_b0 = true := by decide +kernel
theorem am_t30 : am_try 30 (am_sp 30) [] am_b0 = true := by decide +kernel
theorem am_t31 : am_try 31 (am_sp 31) [] am_b0 = true := by decide +kernel
end
section
/-! p1 out of the runs -/
section AMZ
variable {ρ : Nat → Int32} {F : aF}
theorem am_veq_ok {a b : aV} {v : Value} (h : am_veq a b = true) (hv : a.1 = 9 ∨ am_v ρ a v) : b.1 = 9 ∨ am_v ρ b v := by
  unfold am_veq at h
  rw [Bool.and_eq_true, Bool.and_eq_true, Bool.and_eq_true, am_ieq_iff, am_ieq_iff] at h
  obtain ⟨h1, h2, h3, h4⟩ := h
  have h1 := am_bq h1
  have h4 := am_bq h4
  rcases hv with hv | hv
  · exact Or.inl (h1.symm.trans hv)
  · right
    rcases hv with ⟨t, x, rfl, hx⟩ | ⟨t, x, rfl, hx⟩ | ⟨t, n, rfl, hx⟩ | ⟨t, rfl⟩
    · exact .ofI (h1.symm.trans t) ⟨by rw [← h2]; exact hx.1, by rw [← h3]; exact hx.2.1, Or.inl h4⟩
    · exact .ofJ (h1.symm.trans t) ⟨by rw [← h2]; exact hx.1, by rw [← h3]; exact hx.2.1, Or.inl h4⟩
    · exact .ofR (h1.symm.trans t) (h2.symm.trans hx)
    · exact Or.inr (Or.inr (Or.inr ⟨h1.symm.trans t, rfl⟩))
theorem am_rng_ok {f : Nat → Bool} : ∀ {n : Nat}, am_rng f n = true → ∀ i, i < n → f i = true
  | 0, _, i, hi => absurd hi (Nat.not_lt_zero i)
  | n + 1, h, i, hi => by
    have h : (f n && am_rng f n) = true := h
    rw [Bool.and_eq_true] at h
    by_cases e : i = n
    · rw [e]; exact h.1
    · exact am_rng_ok h.2 i (by omega)
theorem am_reb_ok {h A : aH} {H : pmH} (hc : am_reb h A = true) (hH : am_H ρ h H) : am_H ρ A H := by
  unfold am_reb at hc
  rw [Bool.and_eq_true, List.all_eq_true] at hc
  refine ⟨hH.1.trans (am_bq hc.1), fun q x hx => ?_⟩
  have h1 := hc.2 _ (pm_look_mem hx)
  dsimp only at h1
  split at h1
  · next c hlk =>
    rw [Bool.and_eq_true, Bool.and_eq_true] at h1
    obtain ⟨a1, a2, a3⟩ := h1
    obtain ⟨y, hy, e1, e2, e3⟩ := hH.2 _ _ hlk
    refine ⟨y, hy, e1.trans (am_bq a1), e2.trans (am_bq a2), fun i hi => ?_⟩
    exact am_veq_ok (am_rng_ok a3 i hi) (e3 i (by rw [am_bq a2]; exact hi))
  · cases h1
theorem am_leq_ok : ∀ {a b : aL} {l : pmL}, am_leq a b = true → am_ls ρ a l → (∀ e ∈ b, e.2.1 ≠ 9) → am_ls ρ b l
  | [], [], _, _, h, _ => h
  | x :: r, y :: t, [], _, h, _ => h.elim
  | x :: r, y :: t, v :: l, he, h, h9 => by
    have he : (Nat.beq x.1 y.1 && (am_veq x.2 y.2 && am_leq r t)) = true := he
    rw [Bool.and_eq_true, Bool.and_eq_true] at he
    refine ⟨⟨(am_bq he.1).symm.trans h.1.1, ?_⟩, am_leq_ok he.2.2 h.2 (fun e hm => h9 e (List.mem_cons_of_mem _ hm))⟩
    rcases am_veq_ok he.2.1 (Or.inr h.1.2) with z | z
    · exact absurd z (h9 y List.mem_cons_self)
    · exact z
  | [], _ :: _, _, he, _, _ => by cases he
  | _ :: _, [], _, he, _, _ => by cases he
theorem am_ivs_ok {x : Int} {hi : Int} (hh : x ≤ hi) : ∀ {cs : List Int} {lo : Int}, lo ≤ x → ∃ iv ∈ am_ivs lo hi cs, iv.1 ≤ x ∧ x ≤ iv.2
  | [], lo, h => ⟨(lo, hi), List.mem_cons_self, h, hh⟩
  | c :: r, lo, h => by
    by_cases hc : c ≤ x
    · obtain ⟨iv, h1, h2⟩ := am_ivs_ok hh (cs := r) hc
      exact ⟨iv, List.mem_cons_of_mem _ h1, h2⟩
    · exact ⟨(lo, c - 1), List.mem_cons_self, h, by show x ≤ c - 1; omega⟩
def am_bok (ρ : Nat → Int32) (bx : List aV) : Prop := ∀ i a, bx[i]? = some a → am_v ρ a (.int (ρ (i + 1)))
theorem am_bset {bx : List aV} {j : Nat} {lo hi : Int} (hb : am_bok ρ bx) (h1 : lo ≤ (ρ (j + 1)).toInt) (h2 : (ρ (j + 1)).toInt ≤ hi) : am_bok ρ (bx.set j (0, lo, hi, j + 1, 0)) := by
  intro i a ha
  by_cases e : j = i
  · subst e
    by_cases hl : j < bx.length
    · rw [List.getElem?_set_self hl] at ha
      cases ha
      exact .ofI rfl ⟨h1, h2, Or.inr (by show ρ (j + 1) = ρ (j + 1) + Int32.ofInt 0; rw [am_ofInt0, Int32.add_zero])⟩
    · rw [List.set_eq_of_length_le (by omega)] at ha
      exact hb _ _ ha
  · rw [List.getElem?_set_ne e] at ha
    exact hb _ _ ha
theorem am_try_ok {v : Nat} : ∀ {sp : List aSp} {F : aF} {bx : List aV}, am_try v sp F bx = true → am_Fo ρ F → am_bok ρ bx → ∃ F' bx', am_run am_n F' bx' v = true ∧ am_Fo ρ F' ∧ am_bok ρ bx'
  | [], F, bx, h, hF, hb => ⟨F, bx, h, hF, hb⟩
  | (j, cs) :: r, F, bx, h, hF, hb => by
    unfold am_try at h
    rw [Bool.or_eq_true] at h
    rcases h with h | h
    · exact ⟨F, bx, h, hF, hb⟩
    · cases hj : Nat.blt j 7
      · rw [hj] at h
        simp only [cond_false] at h
        split at h
        · next a b hab =>
          rw [Bool.and_eq_true] at h
          by_cases hc : (j - 10 = 0 ∧ ρ (a + 1) = ρ (b + 1)) ∨ (j - 10 = 1 ∧ (ρ (a + 1)).toInt < (ρ (b + 1)).toInt)
          · refine am_try_ok h.1 (fun e he => ?_) hb
            rcases List.mem_cons.mp he with rfl | he
            · dsimp only
              refine ⟨fun z => ⟨fun _ => ?_, fun _ => rfl⟩, fun z => ⟨fun _ => ?_, fun _ => rfl⟩⟩
              · rcases hc with hc | hc
                · exact hc.2
                · omega
              · rcases hc with hc | hc
                · omega
                · exact hc.2
            · exact hF e he
          · refine am_try_ok h.2 (fun e he => ?_) hb
            rcases List.mem_cons.mp he with rfl | he
            · dsimp only
              refine ⟨fun z => ⟨fun w => (by cases w), fun w => absurd (Or.inl ⟨z, w⟩) hc⟩, fun z => ⟨fun w => (by cases w), fun w => absurd (Or.inr ⟨z, w⟩) hc⟩⟩
            · exact hF e he
        · cases h
      · rw [hj] at h
        simp only [cond_true] at h
        rw [List.all_eq_true] at h
        obtain ⟨iv, h1, h2, h3⟩ := am_ivs_ok (am_hi32 (ρ (j + 1))) (cs := cs) (am_lo32 (ρ (j + 1)))
        exact am_try_ok (h iv h1) hF (am_bset hb h2 h3)
theorem am_b0_ok : am_bok ρ am_b0 := by
  intro i a ha
  have key : ∀ j : Nat, am_v ρ (0, -2147483648, 2147483647, j + 1, 0) (.int (ρ (j + 1))) := fun j => .ofI rfl ⟨am_lo32 _, am_hi32 _, Or.inr (by show ρ (j + 1) = ρ (j + 1) + Int32.ofInt 0; rw [am_ofInt0, Int32.add_zero])⟩
  match i, ha with
  | 0, ha => cases ha; exact key 0
  | 1, ha => cases ha; exact key 1
  | 2, ha => cases ha; exact key 2
  | 3, ha => cases ha; exact key 3
  | 4, ha => cases ha; exact key 4
  | 5, ha => cases ha; exact key 5
  | 6, ha => cases ha; exact key 6
  | i + 7, ha => cases ha
end AMZ
end
section
/-! the law's run, whole -/
def am_res1 (o : Option aR) : Bool := match o with
  | some (true, _, [a], _) => Nat.beq a.1 0 && (am_ieq a.2.1 1 && am_ieq a.2.2.1 1)
  | _ => false
def am_end0 (L : Nat) : Bool := am_res1 (am_exec [] 20011 (some (L, [])) 99999 am_L (pm_oc am_L) (pm_maxL am_L) (am_drop (pm_kl am_L) 18) am_Ll [] am_A0 am_Lc am_Lk)
def am_mid : Bool := match am_exec [] 20011 (some (7, am_b0)) 33 am_L (pm_oc am_L) (pm_maxL am_L) (am_drop (pm_kl am_L) 18) am_Ll [] am_A0 am_Lc am_Lk with
  | some (b, ls, [a], h, c, k, f) => !b && (am_leq ls am_Ll && (Nat.beq a.1 0 && (am_le 0 a.2.1 && (am_le a.2.2.1 31 && (am_reb h am_A0 && (Nat.beq c am_Lc && (Nat.beq k am_Lk && Nat.beq f am_n)))))))
  | _ => false
theorem am_end0T : ∀ L, L < 7 → am_end0 L = true := by decide +kernel
theorem am_midT : am_mid = true := by decide +kernel
theorem am_tA : ∀ v : Nat, v < 32 → am_try v (am_sp v) [] am_b0 = true := fun v hv => match v, hv with
  | 0, _ => am_t0
  | 1, _ => am_t1
  | 2, _ => am_t2
  | 3, _ => am_t3
  | 4, _ => am_t4
  | 5, _ => am_t5
  | 6, _ => am_t6
  | 7, _ => am_t7
  | 8, _ => am_t8
  | 9, _ => am_t9
  | 10, _ => am_t10
  | 11, _ => am_t11
  | 12, _ => am_t12
  | 13, _ => am_t13
  | 14, _ => am_t14
  | 15, _ => am_t15
  | 16, _ => am_t16
  | 17, _ => am_t17
  | 18, _ => am_t18
  | 19, _ => am_t19
  | 20, _ => am_t20
  | 21, _ => am_t21
  | 22, _ => am_t22
  | 23, _ => am_t23
  | 24, _ => am_t24
  | 25, _ => am_t25
  | 26, _ => am_t26
  | 27, _ => am_t27
  | 28, _ => am_t28
  | 29, _ => am_t29
  | 30, _ => am_t30
  | 31, _ => am_t31
  | n + 32, h => absurd h (by omega)
section AMY
variable {ρ : Nat → Int32} {F : aF}
theorem am_Fnil : am_Fo ρ [] := fun e h => by cases h
theorem am_run_eq (n : Nat) (F : aF) (bx : List aV) (v : Nat) : am_run n F bx v = am_res1 (am_exec F n (some (7, bx)) 99999 am_L (pm_oc am_L) (pm_maxL am_L) (am_drop (pm_kl am_L) 33) am_Ll [am_c (v : Nat)] am_A0 am_Lc am_Lk) := rfl
theorem am_from (hF : am_Fo ρ F) {n m pc stop : Nat} {AX : Option (Nat × List aV)} {X : pmX} {als : aL} {ast : List aV} {ah : aH} {c k : Nat} {res : aR} {ls : pmL} {st : List Value} {h : pmH}
    (hx : am_exec F n AX stop m (pm_oc m) (pm_maxL m) (am_drop (pm_kl m) pc) als ast ah c k = some res) (hX : am_X ρ AX X) (hl : am_ls ρ als ls) (hs : am_sk ρ ast st) (hH : am_H ρ ah h) : am_O ρ X m stop res (pm_exec X n m pc ls st h c k) := by
  cases hn : am_drop (pm_kl m) pc with
  | nil =>
    rw [hn] at hx
    cases n <;> cases hx
  | cons e r =>
    rw [hn] at hx
    obtain ⟨h1, h2⟩ := am_drop_ok hn
    have := am_ok hF n AX X stop m e r als ast ah ls st h c k res hx h2 hX hl hs hH
    rwa [h1] at this
theorem am_res1_ok {X : pmX} {m stop : Nat} {o : Option aR} {w : Option (pmH × Option Value)} (h : am_res1 o = true) (hO : ∀ res, o = some res → am_O ρ X m stop res w) : ∃ h', w = some (h', some (.int 1)) := by
  unfold am_res1 at h
  split at h
  · next a q =>
    rw [Bool.and_eq_true, Bool.and_eq_true, am_ieq_iff, am_ieq_iff] at h
    rcases hO _ rfl with ⟨_, h', r, h1, h2, h3⟩ | ⟨hf, _⟩
    · refine ⟨h', ?_⟩
      rw [h1]
      dsimp only at h3
      cases r with
      | none => exact h3.elim
      | some v =>
        obtain ⟨x, rfl, hx⟩ := h3.1.int (am_bq h.1)
        have e : x = 1 := by
          rw [← Int32.toInt_inj]
          have e1 : (1 : Int32).toInt = 1 := rfl
          have := hx.1; have := hx.2.1
          omega
        rw [e]
    · cases hf
  · cases h
theorem am_Ll9 : ∀ e ∈ am_Ll, e.2.1 ≠ 9 := by decide
theorem am_law (L : Nat) (xs : Nat → Int32) (hL : L ≤ 7) : ∃ h', pm_exec (some (L, xs)) 20021 am_L 0 [(0, .ref 2000)] [] [] 0 0 = some (h', some (.int 1)) := by
  obtain ⟨ρ, hρ⟩ : ∃ ρ : Nat → Int32, ∀ i, ρ (i + 1) = xs i := ⟨fun j => xs (j - 1), fun i => rfl⟩
  obtain ⟨ls, h, hex, hl, hH⟩ : ∃ ls h, pm_exec (some (L, xs)) 20021 am_L 0 [(0, .ref 2000)] [] [] 0 0 = pm_exec (some (L, xs)) 20011 am_L 18 ls [] h am_Lc am_Lk ∧ am_ls ρ am_Ll ls ∧ am_H ρ am_A0 h := by
    have hp := am_preT
    unfold am_prec at hp
    split at hp
    · next b ls st h c k f hr =>
      simp only [Bool.and_eq_true, Bool.not_eq_true'] at hp
      obtain ⟨p1, p2, p3, p4, p5, p6, p7⟩ := hp
      unfold am_pre at hr
      cases hk : pm_kl am_L with
      | nil => rw [hk] at hr; cases hr
      | cons e r =>
        have he : e.1 = 0 := by
          have := am_z am_L
          rw [hk] at this
          exact this
        rw [hk] at hr
        have hO := am_ok (ρ := ρ) am_Fnil 20021 none (some (L, xs)) 18 am_L e r [(0, am_ref 2000)] [] (0, []) [(0, .ref 2000)] [] [] 0 0 _ hr ⟨[], hk⟩ (fun x h => by cases h) ⟨⟨rfl, .ofR rfl rfl⟩, trivial⟩ trivial ⟨rfl, fun q x h => by cases h⟩
        rw [he] at hO
        rcases hO with ⟨hb, _⟩ | ⟨_, ls', st', h', h1, h2, h3, h4⟩
        · dsimp only at hb
          rw [p1] at hb
          cases hb
        · dsimp only at h1 h2 h3 h4
          cases st with
          | nil =>
            cases h3.n
            rw [am_bq p5, am_bq p6, am_bq p7] at h1
            exact ⟨ls', h', h1, am_leq_ok p2 h2 am_Ll9, am_reb_ok p4 h4⟩
          | cons _ _ => cases p3
    · cases hp
  rw [hex]
  by_cases h7 : L < 7
  · exact am_res1_ok (ρ := ρ) (am_end0T L h7) (fun res hr => am_from am_Fnil hr (fun x hx => by cases hx; exact ⟨xs, rfl, fun i a ha => by cases ha⟩) hl trivial hH)
  · have h7 : L = 7 := by omega
    subst h7
    have hXb : ∀ bx, am_bok ρ bx → am_X ρ (some (7, bx)) (some (7, xs)) := fun bx hb x hx => by
      cases hx
      exact ⟨xs, rfl, fun i a ha => by have := hb i a ha; rwa [hρ] at this⟩
    obtain ⟨ls2, x, h2, hex2, h0, h1, hl2, hH2⟩ : ∃ ls2 x h2, pm_exec (some (7, xs)) 20011 am_L 18 ls [] h am_Lc am_Lk = pm_exec (some (7, xs)) am_n am_L 33 ls2 [.int x] h2 am_Lc am_Lk ∧ 0 ≤ x.toInt ∧ x.toInt ≤ 31 ∧ am_ls ρ am_Ll ls2 ∧ am_H ρ am_A0 h2 := by
      have hp := am_midT
      unfold am_mid at hp
      split at hp
      · next b ls0 a h0 c k f hr =>
        simp only [Bool.and_eq_true, Bool.not_eq_true'] at hp
        obtain ⟨p1, p2, pa, pb, pc, p4, p5, p6, p7⟩ := hp
        have hO := am_from am_Fnil hr (hXb am_b0 am_b0_ok) hl (st := []) trivial hH
        rcases hO with ⟨hb, _⟩ | ⟨_, ls', st', h', h1, h2, h3, h4⟩
        · dsimp only at hb
          rw [p1] at hb
          cases hb
        · dsimp only at h1 h2 h3 h4
          obtain ⟨v, vs, rfl, s1, s2⟩ := h3.c
          cases s2.n
          obtain ⟨x, rfl, hx⟩ := s1.int (am_bq pa)
          rw [am_bq p5, am_bq p6, am_bq p7] at h1
          have := am_le_iff.mp pb
          have := am_le_iff.mp pc
          have := hx.1
          have := hx.2.1
          exact ⟨ls', x, h', h1, by omega, by omega, am_leq_ok p2 h2 am_Ll9, am_reb_ok p4 h4⟩
      · cases hp
    rw [hex2]
    obtain ⟨v, hv, e⟩ : ∃ v : Nat, v < 32 ∧ x.toInt = (v : Int) := ⟨x.toInt.toNat, by omega, by omega⟩
    obtain ⟨F', bx', g1, g2, g3⟩ := am_try_ok (ρ := ρ) (am_tA v hv) am_Fnil am_b0_ok
    rw [am_run_eq] at g1
    exact am_res1_ok g1 (fun res hr => am_from g2 hr (hXb bx' g3) hl2 ⟨.ofI rfl ⟨by show (v : Int) ≤ _; omega, by show _ ≤ (v : Int); omega, Or.inl rfl⟩, trivial⟩ hH2)
end AMY
end
section
/-! THE CLAIM OUT OF ONE WALK OF THE LAW'S BODY. Your part is whole_start (and what it stands on); all else here is the same for every law, but numbers. -/
def R_law : String := "MarkTreeLaw"
def lw_P (b : Addr) (xs : List Int32) (args : Array Value) (s : State) : Prop := args = #[.ref b] ∧ s.IntsAt b xs ∧ xs.length ≤ 7 ∧ (Jvm.Cond.and given_1 narrow_1).before args s = true
def lw_Q (_ : Array Value) (s : State) (o : Outcome) (t : State) : Prop := o = .returned (some (.int 1)) ∧ Framed s o t [] 600000 7302250
def lw_Z (below : List Frame) (a : Array Value) (s : State) : State → Prop := fun t => ∃ o, t.status = .running ∧ Ended t below o ∧ lw_Q a s o t
/-- the law's own end, with 1 on the stack, nothing written that was there before, its room as the claim has it -/
theorem lw_ret {p : Program} {l : Launch} {e : Env} {s : State} {m : MethodId} {below : List Frame} {meth : Method} {c : Code} {b : Nat} (hx : p.tables.exec = Jvm.exec) (hb : c.code = code) (hr : meth.sig.returnType = ret) (hlocks : meth.locks = false) {pc : Nat} {H : Heap} {ls : Array Slot} (hdg : decode code pc = .ok (.ireturn, 1)) : W p l e room_1 s m #[Value.ref b] below meth c H [] 600000 7302250 (lw_Z below #[Value.ref b] s) (F0 m pc ls [.int 1]) := by
  intro T hT X
  obtain ⟨fs, hret, hrun, hended, hW, hframe⟩ := X.leave (v := some (.int 1)) (hlocks := hlocks) (fun h => by rw [hr] at h; cases h)
  have hmeth' : T.vm.method? m = some meth := X.method'
  refine ⟨T.setFrames fs, ?_, .returned (some (.int 1)), hrun, hended, rfl, ⟨_, rfl⟩, hW, hframe⟩
  jvm_step X.here [X.here.top, hx, hb, hdg, hmeth', hr, ret, narrow_b1]
  (try refine ⟨rfl, ?_⟩); (try refine ⟨rfl, ?_⟩)
  first | (intro acts; rw [hret _ acts rfl rfl rfl]) | rw [hret _ _ rfl rfl rfl]
  exact Steps.refl _
/-- what holds at the law's entry: the machine, the code, the tables' words (any of lw_tbl by 'hts w (by decide +kernel)'), the script of L ints xs at the cell b, what the Statement gives of the start (any of its parts by flat_of_before) -/
def lw_At (p : Program) (s : State) (m : MethodId) (meth : Method) (c : Code) (b L : Nat) (xs : Nat → Int32) : Prop :=
  p.tables.exec = Jvm.exec ∧ c.code = code ∧ meth.sig.returnType = ret ∧ c.maxLocals = 4 ∧ s.vm.findClass R_law = some m.cls ∧ (∀ w ∈ lw_tbl, w.before #[Value.ref b] s = true) ∧ va_X b L xs s s.heap ∧ b < s.heap.size ∧ meth.locks = false ∧ (Jvm.Cond.and given_1 narrow_1).before #[Value.ref b] s = true
theorem pm_strE {s : State} {args : Array Value} {own tx : String} {k : Nat} (h : (Cond.stringRef own k tx).before args s = true) : ∃ a, vk_R own k tx a s := by
  cases hc : s.vm.findClass own with
  | none => simp [Cond.before, Cond.holds, Cond.value, hc] at h
  | some cc =>
    obtain ⟨_, _, _, a, -, -, -, -, -, he⟩ := Cond.stringRef_spec hc h
    exact ⟨a, vk_R.of h he⟩
theorem pm_arrC {s : State} {args : Array Value} {ty : FieldType} (h : (Cond.arrayClass ty).before args s = true) : ∃ c : ClassId, ArrOfT s c ty ∧ s.vm.findClass ("[" ++ ty.toString) = some c := by
  obtain ⟨c, k, comp, h1, h2, h3⟩ := Cond.arrayClass_spec h
  exact ⟨c, fun n z => ⟨fun q hq => (by cases hq), k, h2, comp, h3⟩, h1⟩
theorem pm_arrO {s : State} {args : Array Value} {ty : FieldType} (h : (Cond.arrayOver (.array ty)).before args s = true) : ∃ c : ClassId, ArrOfT s c (.array ty) ∧ s.vm.findClass ("[" ++ (FieldType.array ty).toString) = some c := by
  obtain ⟨comp, c, k, -, h2, h3, h4⟩ := Cond.arrayOver_specA h
  exact ⟨c, fun n z => ⟨fun q hq => (by cases hq), k, h2, comp, h3⟩, h4⟩
theorem pm_ovI : Cond.arrayOver (.array (pm_aty 20)) ∈ lw_tbl := List.mem_of_getElem? (i := 106) (by decide +kernel)
theorem pm_ovJ : Cond.arrayOver (.array (pm_aty 21)) ∈ lw_tbl := List.mem_of_getElem? (i := 364) (by decide +kernel)
theorem pm_Kof {s : State} {args : Array Value} (hts : ∀ w ∈ lw_tbl, w.before args s = true) (scr : Nat) : ∃ (D : va_G) (cA : Nat → ClassId) (sa : Nat → Nat), sa 0 = scr ∧ pm_K D cA sa s := by
  have hw : ∀ w ∈ pm_ws, w.before args s = true := fun w h => hts w (pm_wstbl h)
  have H1 : ∀ c : Nat, ∃ d : ClassId × (Nat → Nat), ∀ q, pm_cl[c]? = some q → u_Kn s q.1 q.2.1 q.2.2 d.1 d.2 := by
    intro c
    cases hq : pm_cl[c]? with
    | none => exact ⟨((0 : Nat), fun _ => 0), fun q h => by cases h⟩
    | some q =>
      have ok := pm_clok c q hq
      obtain ⟨cC, iS, h⟩ := u_known hw ok.1 (hw _ ok.2.2.2.2.2.1.1)
      exact ⟨(cC, iS), fun q' h' => by cases h'; exact h⟩
  have H2 : ∀ t : Nat, ∃ c : ClassId, 20 ≤ t → t < 25 → ArrOfT s c (pm_aty t) ∧ s.vm.findClass ("[" ++ (pm_aty t).toString) = some c := by
    intro t
    by_cases ht : 20 ≤ t ∧ t < 25
    · have : t = 20 ∨ t = 21 ∨ t = 22 ∨ t = 23 ∨ t = 24 := by omega
      rcases this with rfl | rfl | rfl | rfl | rfl
      · obtain ⟨c, h⟩ := pm_arrC (hw _ pm_acI); exact ⟨c, fun _ _ => h⟩
      · obtain ⟨c, h⟩ := pm_arrC (hw _ pm_acJ); exact ⟨c, fun _ _ => h⟩
      · obtain ⟨c, h⟩ := pm_arrC (hw _ pm_acZ); exact ⟨c, fun _ _ => h⟩
      · obtain ⟨c, h⟩ := pm_arrO (hts _ pm_ovI); exact ⟨c, fun _ _ => h⟩
      · obtain ⟨c, h⟩ := pm_arrO (hts _ pm_ovJ); exact ⟨c, fun _ _ => h⟩
    · exact ⟨(0 : Nat), fun a b => absurd ⟨a, b⟩ ht⟩
  have H5 : ∀ j : Nat, ∃ a : Nat, ∀ q, pm_strs[j]? = some q → vk_R (pm_own q.1) q.2.1 q.2.2 a s := by
    intro j
    cases hq : pm_strs[j]? with
    | none => exact ⟨0, fun q h => by cases h⟩
    | some q =>
      obtain ⟨a, h⟩ := pm_strE (hts _ (pm_sA _ (List.mem_map.mpr ⟨q, List.mem_of_getElem? hq, rfl⟩)))
      exact ⟨a, fun q' h' => by cases h'; exact h⟩
  refine ⟨(fun c => (H1 c).choose.1, fun c => (H1 c).choose.2), fun t => (H2 t).choose, fun j => if j = 0 then scr else (H5 (j - 1)).choose, rfl, ?_, ?_, ?_, ?_, ?_⟩
  · intro c q hq
    exact (H1 c).choose_spec q hq
  · intro t a b
    exact (H2 t).choose_spec a b
  · intro e he
    exact va_Nw.of rfl (hts _ (pm_nA _ (List.mem_map.mpr ⟨e, he, rfl⟩)))
  · intro t
    by_cases ht : t = 20 ∨ t = 21
    · left
      rcases ht with rfl | rfl
      · exact hts _ pm_ovI
      · exact hts _ pm_ovJ
    · exact Or.inr ht
  · intro j q hq
    show vk_R (pm_own q.1) q.2.1 q.2.2 (if j + 1 = 0 then scr else (H5 (j + 1 - 1)).choose) s
    rw [if_neg (Nat.succ_ne_zero j)]
    exact (H5 j).choose_spec q hq
theorem am_Lm : pm_m am_L = pmm224 := rfl
theorem pm_endI {i : Instr} {st : List Value} (h : pm_end am_L i st = some (some (.int 1))) : i = .ireturn ∧ st = [.int 1] := by
  cases i
  case ireturn =>
    refine ⟨rfl, ?_⟩
    simp only [pm_end] at h
    split at h
    · next v hr => cases h; rfl
    · next v hr =>
      split at h
      · cases h; rfl
      · cases h
    · cases h
  case lreturn =>
    simp only [pm_end] at h
    split at h <;> cases h
  case return_ =>
    simp only [pm_end] at h
    split at h <;> cases h
  all_goals exact absurd h (by simp [pm_end])
/-- from the entry, for every script of at most 7 ints, the law comes to its end with true -/
theorem whole_start {p : Program} {e : Env} {s : State} {m : MethodId} {below : List Frame} {meth : Method} {c : Code} (l : Launch) {b L : Nat} {xs : Nat → Int32} (hL : L ≤ 7) (C0 : lw_At p s m meth c b L xs) : W p l e room_1 s m #[Value.ref b] below meth c s.heap [] 0 0 (lw_Z below #[Value.ref b] s) (entryFrame m ([Value.ref b] : List Value).toArray 4) := by
  obtain ⟨hx, hb, hr, hml, hown, hts, hX, hbl, hlocks, hgv⟩ := id C0
  obtain ⟨D, cA, sa, hsa, hK⟩ := pm_Kof hts b
  obtain ⟨h', hex⟩ := am_law L xs hL
  have hl := lv_entry ([.ref b]) (n := 4) (Nat.le_of_ble_eq_true rfl)
  rw [lg_entry_eq]
  generalize (lg_sl ([.ref b]) ++ List.replicate (4 - (lg_sl ([.ref b])).length) Slot.unset).toArray = ls at hl ⊢
  have hl : lv_has ls 4 [(0, .ref b)] := hl
  have hcv : pm_lc s.heap.size sa [(0, .ref 2000)] = [(0, .ref b)] := by
    show [(0, Value.ref (pm_ad s.heap.size sa 2000))] = _
    rw [pm_ad_scr, hsa]
  have hS := pm_sound D cA s.heap.size sa l 20021 (some (L, xs)) am_L 0 [(0, .ref 2000)] [] [] 0 0 h' (some (.int 1)) hex
  refine hS p e room_1 s m #[Value.ref b] below meth c s.heap [] ls _ hx (hb.trans rfl) (hml.trans rfl) (fun w h => hts w (pm_wstbl h)) hown hK (fun x hx => by cases hx; rw [hsa]; exact hX) (by rw [hsa]; exact hbl) ⟨by decide +kernel, by decide +kernel, by decide +kernel, by decide +kernel⟩ (fun h => absurd h (by decide +kernel)) (by rw [hcv]; exact hl) ⟨rfl, by decide, fun q x h => by cases h⟩ ⟨fun _ _ => rfl, fun q h => by cases h⟩ (Nat.zero_le _) (Nat.zero_le _) ?_
  intro pc' i len st' H1 locs1 ls1 hdec hend hW1 hSv1
  obtain ⟨rfl, rfl⟩ := pm_endI hend
  refine va_forget hSv1.2 ?_
  exact lw_ret hx hb hr hlocks hdec
-- ===== YOUR PART ENDS =====
set_option maxHeartbeats 4000000 in
theorem lw_walk (l : Launch) (b : Addr) (xs : List Int32) : MetFree l x (headSpec (Jvm.Cond.code x code maxLocals ret :: tables_1) room_1) (lw_P b xs) (fun _ _ _ _ _ => True) lw_Q := by
  refine MetFree.of_bodyS (code := code) (maxLocals := maxLocals) (ret := ret) (by decide) ?_ ?_
  · intro args s m h hn
    obtain ⟨meth, c, h1, h2, h3, h4, h5, h6, -, -⟩ := Cond.code_spec hn (atoms_spec (ws := Jvm.Cond.code x code maxLocals ret :: tables_1) h _ List.mem_cons_self)
    exact ⟨meth, c, h1, h2, h3, h4, h5, h6⟩
  · intro p e s m args below meth c s₁ B hml0 hP _
    obtain ⟨rfl, hx, hbd, hgv⟩ := hP
    obtain ⟨scr, harrAt, hlist, hof, hsmall⟩ := hx
    obtain ⟨hcb, hkn, -, -⟩ := State.arrayAt?_spec harrAt
    have hown : s.vm.findClass R_law = some m.cls := findClass_of_methodNamed B.named
    have hts0 : ∀ c ∈ (Jvm.Cond.code x code maxLocals ret :: tables_1), c.before #[Value.ref b] s = true := atoms_spec (ws := Jvm.Cond.code x code maxLocals ret :: tables_1) B.pre
    have hts : ∀ w ∈ lw_tbl, w.before #[Value.ref b] s = true := k2_hts_sels lw_privs (fun w hw => hts0 w (List.mem_cons_of_mem _ hw)) lw_privs_ok
    have hml : c.maxLocals = 4 := B.maxLocals_eq (hts0 _ List.mem_cons_self)
    have X₀ : Stand p l e room_1 s m #[Value.ref b] below meth c s₁ [] 0 0 := Stand.of_body B
    have hh0 : s₁.heap = s.heap := by rw [B.state]; rfl
    have hsz : scr.slots.size = xs.length := by rw [← Array.length_toList, hlist, List.length_map]
    have hval : ∀ j : Nat, j < xs.length → scr.slots[j]? = some (.int (xs.getD j 0)) := fun j hj => by
      rw [← Array.getElem?_toList, hlist]
      simp [hj]
    have hbl : b < s.heap.size := (Array.getElem?_eq_some_iff.mp hcb).1
    have hX : va_X b xs.length (fun j => xs.getD j 0) s s.heap := ⟨scr, hcb, hof, hkn, hsz, hval⟩
    have K : W p l e room_1 s m #[Value.ref b] below meth c s₁.heap [] 0 0 (lw_Z below #[Value.ref b] s) (entryFrame m ([Value.ref b] : List Value).toArray 4) := by
      rw [hh0]
      exact whole_start l hbd ⟨B.exec, B.bytes, B.returns, hml, hown, hts, hX, hbl, B.notSynchronized, hgv⟩
    obtain ⟨t, a1, o, b1, b2, b3⟩ := K s₁ rfl X₀
    exact ⟨t, o, a1, b1, b2, b3⟩
theorem lw_pre_spec {args : Array Value} {s : State} (h : (Jvm.Cond.and given_1 narrow_1).before args s = true) (hr : rest_1_c.before args s = true) : ∃ (b : Addr) (xs : List Int32), lw_P b xs args s := by
  have hs := flat_of_before _ h
  have hq := flat_of_before _ hr
  have hc : (Cond.count 1).before args s = true := hs _ (by decide +kernel)
  have harr : (Cond.arrayOf (.arg 0) .int).before args s = true := hs _ (by decide +kernel)
  have hle : (Cond.le (.length (.arg 0)) (.int 7)).before args s = true := hs _ (by decide +kernel)
  have hlen : (Cond.isInt (.length (.arg 0))).before args s = true := hq _ (by decide +kernel)
  have hall : (Cond.all (.arg 0) (.isInt (.elem (.arg 0) (.index 0)))).before args s = true := hq _ (by decide +kernel)
  obtain ⟨b, xs, hb, hx⟩ := State.ints_of_pre rfl harr hlen hall
  have hsm : xs.length < 2 ^ 31 := hx.choose_spec.2.2.2
  have hev : (Term.length (.arg 0)).eval args s none [] s = some (.int xs.length.toInt32) := hx.length_eval hb
  have hv := Cond.le_ints hev (show (Term.int 7).eval args s none [] s = some (.int 7) from rfl)
  have hd : xs.length.toInt32 ≤ 7 := by
    simpa [Cond.before, Cond.holds, hv] using hle
  have hN : xs.length ≤ 7 := (Int32.ofNat_le_ofNat hsm (by decide)).mp (show Int32.ofNat xs.length ≤ Int32.ofNat 7 from hd)
  exact ⟨b, xs, Cond.one_arg hc (show args[0]? = some (.ref b) from hb), hx, hN, h⟩
theorem lw_comes (l : Launch) : Comes l x (Jvm.Cond.code x code maxLocals ret :: tables_1) room_1 (fun tb e args s => Calls_1 tb e args s ∧ rest_1 tb e args s ∧ Pre_1 tb e args s)
    (fun _ _ args s o t => lw_Q args s o t) := by
  intro p e ha hc hk s m args below hf hfit hheap happ hpre
  obtain ⟨b, xs, hP⟩ := lw_pre_spec hpre.2.2 hpre.2.1
  obtain ⟨k, o, h1, h2, h3, hQ⟩ := lw_walk l b xs p e ha hc hk s m args below hf ((Spec.applies_iff_loose hf).mp happ).1 hP trivial
  exact ⟨k, o, h1, h2, h3, hQ⟩
theorem lw_frame {s t : State} {o : Outcome} {args : Array Value} (h : Framed s o t [] 600000 7302250) :
    Framed s o t (fieldLocs frame_1_writes args s ++ arrayLocs frame_1_arrays args s ++ staticLocs frame_1_statics s) 600000 7302250 := h
theorem lw_limb (L : Cond) (hL : ∀ (args : Array Value) (s t : State), L.after args s (.returned (some (.int 1))) t = true) :
    ArmFor flags0 classFile x code maxLocals ret World_1 tables_1 room_1 Calls_1 rest_1 Pre_1
      (fun tb e a s o t => postC L tb e a s o t ∧ Framed s o t (fieldLocs frame_1_writes a s ++ arrayLocs frame_1_arrays a s ++ staticLocs frame_1_statics s) 600000 7302250) := by
  intro l _ _ _ p e ha hc hk s m args below hf hfit hheap happ hpre
  obtain ⟨k, o, h1, h2, h3, rfl, hF⟩ := lw_comes l p e ha hc hk s m args below hf hfit hheap happ hpre
  exact ⟨k, _, h1, h2, h3, hL args s _, lw_frame hF⟩
theorem i_vc : Claimed_1_1 ∧ Claimed_1_2 := ⟨lw_limb limb_1_1 (fun args s t => by simp [limb_1_1, Cond.after, Cond.holds, Cond.value]), lw_limb limb_1_2 (fun args s t => Cond.after_iff.mpr (by
  first | (rw [show limb_1_2 = Cond.eq .result (.int 1) from rfl, Cond.eq_ints (x := 1) (y := 1) rfl rfl]; simp; done) | (simp [limb_1_2, Cond.value, Term.eval]; done)))⟩
end
