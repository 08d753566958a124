section
-- ===== PART A: goes FIRST, ahead of the names: the tables' words, and 'selects' of the private methods out of them =====
/-- a private method of a class that the tables say can be made, by its rows of tables_1 -/
def lw_okq (q : MethodName × Nat) : Prop := (q.1.cls ≠ "java/lang/invoke/MethodHandle" ∧ q.1.cls ≠ "java/lang/invoke/VarHandle") ∧ Cond.instantiable q.1.cls q.2 ∈ tables_1 ∧ Cond.privateMethod q.1 ∈ tables_1 ∧ Cond.instanceMethod q.1 ∈ tables_1
theorem lw_p0 : lw_okq (⟨"ThirdLeft", "makeAnew", "(LThirdLeft$Ints;II)I"⟩, 16) := ⟨⟨by decide +kernel, by decide +kernel⟩, List.mem_of_getElem? (i := 17) (by decide +kernel), List.mem_of_getElem? (i := 348) (by decide +kernel), List.mem_of_getElem? (i := 349) (by decide +kernel)⟩
theorem lw_p1 : lw_okq (⟨"ThirdLeft", "refuse", "(I)I"⟩, 16) := ⟨⟨by decide +kernel, by decide +kernel⟩, List.mem_of_getElem? (i := 17) (by decide +kernel), List.mem_of_getElem? (i := 352) (by decide +kernel), List.mem_of_getElem? (i := 353) (by decide +kernel)⟩
theorem lw_p2 : lw_okq (⟨"ThirdLeft$Reader", "readEaters", "(LThirdLeft$Ints;I)I"⟩, 5) := ⟨⟨by decide +kernel, by decide +kernel⟩, List.mem_of_getElem? (i := 27) (by decide +kernel), List.mem_of_getElem? (i := 452) (by decide +kernel), List.mem_of_getElem? (i := 453) (by decide +kernel)⟩
theorem lw_p3 : lw_okq (⟨"ThirdLeft", "serveMoved", "(III)V"⟩, 16) := ⟨⟨by decide +kernel, by decide +kernel⟩, List.mem_of_getElem? (i := 17) (by decide +kernel), List.mem_of_getElem? (i := 513) (by decide +kernel), List.mem_of_getElem? (i := 514) (by decide +kernel)⟩
theorem lw_p4 : lw_okq (⟨"ThirdLeft", "tellShare", "(JI)V"⟩, 16) := ⟨⟨by decide +kernel, by decide +kernel⟩, List.mem_of_getElem? (i := 17) (by decide +kernel), List.mem_of_getElem? (i := 615) (by decide +kernel), List.mem_of_getElem? (i := 616) (by decide +kernel)⟩
theorem lw_p5 : lw_okq (⟨"ThirdLeft", "tellFraction", "(JJ)V"⟩, 16) := ⟨⟨by decide +kernel, by decide +kernel⟩, List.mem_of_getElem? (i := 17) (by decide +kernel), List.mem_of_getElem? (i := 620) (by decide +kernel), List.mem_of_getElem? (i := 621) (by decide +kernel)⟩
theorem lw_p6 : lw_okq (⟨"ThirdLeft", "tellBits", "(I)I"⟩, 16) := ⟨⟨by decide +kernel, by decide +kernel⟩, List.mem_of_getElem? (i := 17) (by decide +kernel), List.mem_of_getElem? (i := 647) (by decide +kernel), List.mem_of_getElem? (i := 648) (by decide +kernel)⟩
theorem lw_p7 : lw_okq (⟨"ThirdLeft", "pickKept", "(I)LThirdLeft$Evening;"⟩, 16) := ⟨⟨by decide +kernel, by decide +kernel⟩, List.mem_of_getElem? (i := 17) (by decide +kernel), List.mem_of_getElem? (i := 655) (by decide +kernel), List.mem_of_getElem? (i := 656) (by decide +kernel)⟩
theorem lw_p8 : lw_okq (⟨"ThirdLeft$Pots", "feeds", "(LThirdLeft$Ints;IIII)Z"⟩, 3) := ⟨⟨by decide +kernel, by decide +kernel⟩, List.mem_of_getElem? (i := 208) (by decide +kernel), List.mem_of_getElem? (i := 702) (by decide +kernel), List.mem_of_getElem? (i := 703) (by decide +kernel)⟩
theorem lw_p9 : lw_okq (⟨"ThirdLeft$Days", "leastOftenFed", "(II)I"⟩, 6) := ⟨⟨by decide +kernel, by decide +kernel⟩, List.mem_of_getElem? (i := 261) (by decide +kernel), List.mem_of_getElem? (i := 779) (by decide +kernel), List.mem_of_getElem? (i := 780) (by decide +kernel)⟩
theorem lw_p10 : lw_okq (⟨"ThirdLeft$Days", "figures", "(I)I"⟩, 6) := ⟨⟨by decide +kernel, by decide +kernel⟩, List.mem_of_getElem? (i := 261) (by decide +kernel), List.mem_of_getElem? (i := 785) (by decide +kernel), List.mem_of_getElem? (i := 786) (by decide +kernel)⟩
theorem lw_p11 : lw_okq (⟨"ThirdLeft$Days", "chooseNext", "(II)Z"⟩, 6) := ⟨⟨by decide +kernel, by decide +kernel⟩, List.mem_of_getElem? (i := 261) (by decide +kernel), List.mem_of_getElem? (i := 789) (by decide +kernel), List.mem_of_getElem? (i := 790) (by decide +kernel)⟩
theorem lw_p12 : lw_okq (⟨"ThirdLeft", "restWithHonest", "(I)J"⟩, 16) := ⟨⟨by decide +kernel, by decide +kernel⟩, List.mem_of_getElem? (i := 17) (by decide +kernel), List.mem_of_getElem? (i := 805) (by decide +kernel), List.mem_of_getElem? (i := 806) (by decide +kernel)⟩
theorem lw_p13 : lw_okq (⟨"ThirdLeft$Traces", "note", "(III)V"⟩, 6) := ⟨⟨by decide +kernel, by decide +kernel⟩, List.mem_of_getElem? (i := 229) (by decide +kernel), List.mem_of_getElem? (i := 841) (by decide +kernel), List.mem_of_getElem? (i := 842) (by decide +kernel)⟩
theorem lw_p14 : lw_okq (⟨"ThirdLeft$Days", "draw", "(LThirdLeft$Company;)V"⟩, 6) := ⟨⟨by decide +kernel, by decide +kernel⟩, List.mem_of_getElem? (i := 261) (by decide +kernel), List.mem_of_getElem? (i := 871) (by decide +kernel), List.mem_of_getElem? (i := 872) (by decide +kernel)⟩
theorem lw_p15 : lw_okq (⟨"ThirdLeft", "countKept", "()I"⟩, 16) := ⟨⟨by decide +kernel, by decide +kernel⟩, List.mem_of_getElem? (i := 17) (by decide +kernel), List.mem_of_getElem? (i := 903) (by decide +kernel), List.mem_of_getElem? (i := 904) (by decide +kernel)⟩
def lw_privs_1 : List (MethodName × Nat) := [(⟨"ThirdLeft", "makeAnew", "(LThirdLeft$Ints;II)I"⟩, 16), (⟨"ThirdLeft", "refuse", "(I)I"⟩, 16), (⟨"ThirdLeft$Reader", "readEaters", "(LThirdLeft$Ints;I)I"⟩, 5), (⟨"ThirdLeft", "serveMoved", "(III)V"⟩, 16), (⟨"ThirdLeft", "tellShare", "(JI)V"⟩, 16), (⟨"ThirdLeft", "tellFraction", "(JJ)V"⟩, 16), (⟨"ThirdLeft", "tellBits", "(I)I"⟩, 16), (⟨"ThirdLeft", "pickKept", "(I)LThirdLeft$Evening;"⟩, 16), (⟨"ThirdLeft$Pots", "feeds", "(LThirdLeft$Ints;IIII)Z"⟩, 3), (⟨"ThirdLeft$Days", "leastOftenFed", "(II)I"⟩, 6), (⟨"ThirdLeft$Days", "figures", "(I)I"⟩, 6), (⟨"ThirdLeft$Days", "chooseNext", "(II)Z"⟩, 6), (⟨"ThirdLeft", "restWithHonest", "(I)J"⟩, 16), (⟨"ThirdLeft$Traces", "note", "(III)V"⟩, 6), (⟨"ThirdLeft$Days", "draw", "(LThirdLeft$Company;)V"⟩, 6), (⟨"ThirdLeft", "countKept", "()I"⟩, 16)]
theorem lw_r1 : ∀ q ∈ lw_privs_1, lw_okq q := List.forall_mem_cons.mpr ⟨lw_p0, List.forall_mem_cons.mpr ⟨lw_p1, List.forall_mem_cons.mpr ⟨lw_p2, List.forall_mem_cons.mpr ⟨lw_p3, List.forall_mem_cons.mpr ⟨lw_p4, List.forall_mem_cons.mpr ⟨lw_p5, List.forall_mem_cons.mpr ⟨lw_p6, List.forall_mem_cons.mpr ⟨lw_p7, List.forall_mem_cons.mpr ⟨lw_p8, List.forall_mem_cons.mpr ⟨lw_p9, List.forall_mem_cons.mpr ⟨lw_p10, List.forall_mem_cons.mpr ⟨lw_p11, List.forall_mem_cons.mpr ⟨lw_p12, List.forall_mem_cons.mpr ⟨lw_p13, List.forall_mem_cons.mpr ⟨lw_p14, List.forall_mem_cons.mpr ⟨lw_p15, fun _ h => absurd h List.not_mem_nil⟩⟩⟩⟩⟩⟩⟩⟩⟩⟩⟩⟩⟩⟩⟩⟩
theorem lw_p16 : lw_okq (⟨"ThirdLeft", "digestOfEvening", "(J)J"⟩, 16) := ⟨⟨by decide +kernel, by decide +kernel⟩, List.mem_of_getElem? (i := 17) (by decide +kernel), List.mem_of_getElem? (i := 925) (by decide +kernel), List.mem_of_getElem? (i := 926) (by decide +kernel)⟩
theorem lw_p17 : lw_okq (⟨"ThirdLeft", "digestOfShare", "(JJ)J"⟩, 16) := ⟨⟨by decide +kernel, by decide +kernel⟩, List.mem_of_getElem? (i := 17) (by decide +kernel), List.mem_of_getElem? (i := 929) (by decide +kernel), List.mem_of_getElem? (i := 930) (by decide +kernel)⟩
theorem lw_p18 : lw_okq (⟨"ThirdLeftModel", "found", "(I)I"⟩, 53) := ⟨⟨by decide +kernel, by decide +kernel⟩, List.mem_of_getElem? (i := 938) (by decide +kernel), List.mem_of_getElem? (i := 1115) (by decide +kernel), List.mem_of_getElem? (i := 1116) (by decide +kernel)⟩
theorem lw_p19 : lw_okq (⟨"ThirdLeftModel", "makeRow", "(II)V"⟩, 53) := ⟨⟨by decide +kernel, by decide +kernel⟩, List.mem_of_getElem? (i := 938) (by decide +kernel), List.mem_of_getElem? (i := 1119) (by decide +kernel), List.mem_of_getElem? (i := 1120) (by decide +kernel)⟩
theorem lw_p20 : lw_okq (⟨"ThirdLeftModel", "lacks", "(II)I"⟩, 53) := ⟨⟨by decide +kernel, by decide +kernel⟩, List.mem_of_getElem? (i := 938) (by decide +kernel), List.mem_of_getElem? (i := 1127) (by decide +kernel), List.mem_of_getElem? (i := 1128) (by decide +kernel)⟩
theorem lw_p21 : lw_okq (⟨"ThirdLeftModel", "isSpan", "(III)Z"⟩, 53) := ⟨⟨by decide +kernel, by decide +kernel⟩, List.mem_of_getElem? (i := 938) (by decide +kernel), List.mem_of_getElem? (i := 1143) (by decide +kernel), List.mem_of_getElem? (i := 1144) (by decide +kernel)⟩
theorem lw_p22 : lw_okq (⟨"ThirdLeftModel", "findFault", "(I)I"⟩, 53) := ⟨⟨by decide +kernel, by decide +kernel⟩, List.mem_of_getElem? (i := 938) (by decide +kernel), List.mem_of_getElem? (i := 1167) (by decide +kernel), List.mem_of_getElem? (i := 1168) (by decide +kernel)⟩
theorem lw_p23 : lw_okq (⟨"ThirdLeftModel", "skip", "()V"⟩, 53) := ⟨⟨by decide +kernel, by decide +kernel⟩, List.mem_of_getElem? (i := 938) (by decide +kernel), List.mem_of_getElem? (i := 1171) (by decide +kernel), List.mem_of_getElem? (i := 1172) (by decide +kernel)⟩
theorem lw_p24 : lw_okq (⟨"ThirdLeftModel", "here", "()I"⟩, 53) := ⟨⟨by decide +kernel, by decide +kernel⟩, List.mem_of_getElem? (i := 938) (by decide +kernel), List.mem_of_getElem? (i := 1175) (by decide +kernel), List.mem_of_getElem? (i := 1176) (by decide +kernel)⟩
theorem lw_p25 : lw_okq (⟨"ThirdLeftModel", "figures", "(I)I"⟩, 53) := ⟨⟨by decide +kernel, by decide +kernel⟩, List.mem_of_getElem? (i := 938) (by decide +kernel), List.mem_of_getElem? (i := 1179) (by decide +kernel), List.mem_of_getElem? (i := 1180) (by decide +kernel)⟩
theorem lw_p26 : lw_okq (⟨"ThirdLeftModel", "isItem", "(Z)Z"⟩, 53) := ⟨⟨by decide +kernel, by decide +kernel⟩, List.mem_of_getElem? (i := 938) (by decide +kernel), List.mem_of_getElem? (i := 1185) (by decide +kernel), List.mem_of_getElem? (i := 1186) (by decide +kernel)⟩
theorem lw_p27 : lw_okq (⟨"ThirdLeftModel", "begins", "(I)V"⟩, 53) := ⟨⟨by decide +kernel, by decide +kernel⟩, List.mem_of_getElem? (i := 938) (by decide +kernel), List.mem_of_getElem? (i := 1197) (by decide +kernel), List.mem_of_getElem? (i := 1198) (by decide +kernel)⟩
theorem lw_p28 : lw_okq (⟨"ThirdLeftModel", "isEater", "(I)Z"⟩, 53) := ⟨⟨by decide +kernel, by decide +kernel⟩, List.mem_of_getElem? (i := 938) (by decide +kernel), List.mem_of_getElem? (i := 1205) (by decide +kernel), List.mem_of_getElem? (i := 1206) (by decide +kernel)⟩
theorem lw_p29 : lw_okq (⟨"ThirdLeftModel", "eaterBy", "(II)I"⟩, 53) := ⟨⟨by decide +kernel, by decide +kernel⟩, List.mem_of_getElem? (i := 938) (by decide +kernel), List.mem_of_getElem? (i := 1210) (by decide +kernel), List.mem_of_getElem? (i := 1211) (by decide +kernel)⟩
theorem lw_p30 : lw_okq (⟨"ThirdLeftModel", "placeOf", "(I)I"⟩, 53) := ⟨⟨by decide +kernel, by decide +kernel⟩, List.mem_of_getElem? (i := 938) (by decide +kernel), List.mem_of_getElem? (i := 1214) (by decide +kernel), List.mem_of_getElem? (i := 1215) (by decide +kernel)⟩
theorem lw_p31 : lw_okq (⟨"ThirdLeftModel", "isOf", "(II)Z"⟩, 53) := ⟨⟨by decide +kernel, by decide +kernel⟩, List.mem_of_getElem? (i := 938) (by decide +kernel), List.mem_of_getElem? (i := 1222) (by decide +kernel), List.mem_of_getElem? (i := 1223) (by decide +kernel)⟩
def lw_privs_2 : List (MethodName × Nat) := [(⟨"ThirdLeft", "digestOfEvening", "(J)J"⟩, 16), (⟨"ThirdLeft", "digestOfShare", "(JJ)J"⟩, 16), (⟨"ThirdLeftModel", "found", "(I)I"⟩, 53), (⟨"ThirdLeftModel", "makeRow", "(II)V"⟩, 53), (⟨"ThirdLeftModel", "lacks", "(II)I"⟩, 53), (⟨"ThirdLeftModel", "isSpan", "(III)Z"⟩, 53), (⟨"ThirdLeftModel", "findFault", "(I)I"⟩, 53), (⟨"ThirdLeftModel", "skip", "()V"⟩, 53), (⟨"ThirdLeftModel", "here", "()I"⟩, 53), (⟨"ThirdLeftModel", "figures", "(I)I"⟩, 53), (⟨"ThirdLeftModel", "isItem", "(Z)Z"⟩, 53), (⟨"ThirdLeftModel", "begins", "(I)V"⟩, 53), (⟨"ThirdLeftModel", "isEater", "(I)Z"⟩, 53), (⟨"ThirdLeftModel", "eaterBy", "(II)I"⟩, 53), (⟨"ThirdLeftModel", "placeOf", "(I)I"⟩, 53), (⟨"ThirdLeftModel", "isOf", "(II)Z"⟩, 53)]
theorem lw_r2 : ∀ q ∈ lw_privs_2, lw_okq q := List.forall_mem_cons.mpr ⟨lw_p16, List.forall_mem_cons.mpr ⟨lw_p17, List.forall_mem_cons.mpr ⟨lw_p18, List.forall_mem_cons.mpr ⟨lw_p19, List.forall_mem_cons.mpr ⟨lw_p20, List.forall_mem_cons.mpr ⟨lw_p21, List.forall_mem_cons.mpr ⟨lw_p22, List.forall_mem_cons.mpr ⟨lw_p23, List.forall_mem_cons.mpr ⟨lw_p24, List.forall_mem_cons.mpr ⟨lw_p25, List.forall_mem_cons.mpr ⟨lw_p26, List.forall_mem_cons.mpr ⟨lw_p27, List.forall_mem_cons.mpr ⟨lw_p28, List.forall_mem_cons.mpr ⟨lw_p29, List.forall_mem_cons.mpr ⟨lw_p30, List.forall_mem_cons.mpr ⟨lw_p31, fun _ h => absurd h List.not_mem_nil⟩⟩⟩⟩⟩⟩⟩⟩⟩⟩⟩⟩⟩⟩⟩⟩
theorem lw_p32 : lw_okq (⟨"ThirdLeftModel", "seatsWith", "(II)V"⟩, 53) := ⟨⟨by decide +kernel, by decide +kernel⟩, List.mem_of_getElem? (i := 938) (by decide +kernel), List.mem_of_getElem? (i := 1229) (by decide +kernel), List.mem_of_getElem? (i := 1230) (by decide +kernel)⟩
theorem lw_p33 : lw_okq (⟨"ThirdLeftModel", "goes", "(IIII)V"⟩, 53) := ⟨⟨by decide +kernel, by decide +kernel⟩, List.mem_of_getElem? (i := 938) (by decide +kernel), List.mem_of_getElem? (i := 1233) (by decide +kernel), List.mem_of_getElem? (i := 1234) (by decide +kernel)⟩
theorem lw_p34 : lw_okq (⟨"ThirdLeftModel", "takes", "(IIIJJI)V"⟩, 53) := ⟨⟨by decide +kernel, by decide +kernel⟩, List.mem_of_getElem? (i := 938) (by decide +kernel), List.mem_of_getElem? (i := 1237) (by decide +kernel), List.mem_of_getElem? (i := 1238) (by decide +kernel)⟩
theorem lw_p35 : lw_okq (⟨"ThirdLeftModel", "byParts", "(IIJJI)V"⟩, 53) := ⟨⟨by decide +kernel, by decide +kernel⟩, List.mem_of_getElem? (i := 938) (by decide +kernel), List.mem_of_getElem? (i := 1241) (by decide +kernel), List.mem_of_getElem? (i := 1242) (by decide +kernel)⟩
theorem lw_p36 : lw_okq (⟨"ThirdLeftModel", "lowest", "(JJ)V"⟩, 53) := ⟨⟨by decide +kernel, by decide +kernel⟩, List.mem_of_getElem? (i := 938) (by decide +kernel), List.mem_of_getElem? (i := 1245) (by decide +kernel), List.mem_of_getElem? (i := 1246) (by decide +kernel)⟩
theorem lw_p37 : lw_okq (⟨"ThirdLeftModel", "lesser", "(JJJ)V"⟩, 53) := ⟨⟨by decide +kernel, by decide +kernel⟩, List.mem_of_getElem? (i := 938) (by decide +kernel), List.mem_of_getElem? (i := 1252) (by decide +kernel), List.mem_of_getElem? (i := 1253) (by decide +kernel)⟩
theorem lw_p38 : lw_okq (⟨"ThirdLeftModel", "byPieces", "(IIJI)V"⟩, 53) := ⟨⟨by decide +kernel, by decide +kernel⟩, List.mem_of_getElem? (i := 938) (by decide +kernel), List.mem_of_getElem? (i := 1256) (by decide +kernel), List.mem_of_getElem? (i := 1257) (by decide +kernel)⟩
theorem lw_p39 : lw_okq (⟨"ThirdLeftModel", "sum", "(JJJJ)V"⟩, 53) := ⟨⟨by decide +kernel, by decide +kernel⟩, List.mem_of_getElem? (i := 938) (by decide +kernel), List.mem_of_getElem? (i := 1260) (by decide +kernel), List.mem_of_getElem? (i := 1261) (by decide +kernel)⟩
theorem lw_p40 : lw_okq (⟨"ThirdLeftModel", "fedSet", "()I"⟩, 53) := ⟨⟨by decide +kernel, by decide +kernel⟩, List.mem_of_getElem? (i := 938) (by decide +kernel), List.mem_of_getElem? (i := 1264) (by decide +kernel), List.mem_of_getElem? (i := 1265) (by decide +kernel)⟩
theorem lw_p41 : lw_okq (⟨"ThirdLeftModel", "hasEaten", "(I)Z"⟩, 53) := ⟨⟨by decide +kernel, by decide +kernel⟩, List.mem_of_getElem? (i := 938) (by decide +kernel), List.mem_of_getElem? (i := 1271) (by decide +kernel), List.mem_of_getElem? (i := 1272) (by decide +kernel)⟩
theorem lw_p42 : lw_okq (⟨"ThirdLeftModel", "tells", "(IJJ)I"⟩, 53) := ⟨⟨by decide +kernel, by decide +kernel⟩, List.mem_of_getElem? (i := 938) (by decide +kernel), List.mem_of_getElem? (i := 1304) (by decide +kernel), List.mem_of_getElem? (i := 1305) (by decide +kernel)⟩
theorem lw_p43 : lw_okq (⟨"ThirdLeftModel", "tellsSet", "(I)I"⟩, 53) := ⟨⟨by decide +kernel, by decide +kernel⟩, List.mem_of_getElem? (i := 938) (by decide +kernel), List.mem_of_getElem? (i := 1320) (by decide +kernel), List.mem_of_getElem? (i := 1321) (by decide +kernel)⟩
theorem lw_p44 : lw_okq (⟨"ThirdLeftModel", "seatsAsTold", "()V"⟩, 53) := ⟨⟨by decide +kernel, by decide +kernel⟩, List.mem_of_getElem? (i := 938) (by decide +kernel), List.mem_of_getElem? (i := 1336) (by decide +kernel), List.mem_of_getElem? (i := 1337) (by decide +kernel)⟩
theorem lw_p45 : lw_okq (⟨"ThirdLeftModel", "areAllFed", "()Z"⟩, 53) := ⟨⟨by decide +kernel, by decide +kernel⟩, List.mem_of_getElem? (i := 938) (by decide +kernel), List.mem_of_getElem? (i := 1353) (by decide +kernel), List.mem_of_getElem? (i := 1354) (by decide +kernel)⟩
theorem lw_p46 : lw_okq (⟨"ThirdLeftModel", "isEnough", "(II)Z"⟩, 53) := ⟨⟨by decide +kernel, by decide +kernel⟩, List.mem_of_getElem? (i := 938) (by decide +kernel), List.mem_of_getElem? (i := 1361) (by decide +kernel), List.mem_of_getElem? (i := 1362) (by decide +kernel)⟩
theorem lw_p47 : lw_okq (⟨"ThirdLeftModel", "firstSeats", "()V"⟩, 53) := ⟨⟨by decide +kernel, by decide +kernel⟩, List.mem_of_getElem? (i := 938) (by decide +kernel), List.mem_of_getElem? (i := 1365) (by decide +kernel), List.mem_of_getElem? (i := 1366) (by decide +kernel)⟩
def lw_privs_3 : List (MethodName × Nat) := [(⟨"ThirdLeftModel", "seatsWith", "(II)V"⟩, 53), (⟨"ThirdLeftModel", "goes", "(IIII)V"⟩, 53), (⟨"ThirdLeftModel", "takes", "(IIIJJI)V"⟩, 53), (⟨"ThirdLeftModel", "byParts", "(IIJJI)V"⟩, 53), (⟨"ThirdLeftModel", "lowest", "(JJ)V"⟩, 53), (⟨"ThirdLeftModel", "lesser", "(JJJ)V"⟩, 53), (⟨"ThirdLeftModel", "byPieces", "(IIJI)V"⟩, 53), (⟨"ThirdLeftModel", "sum", "(JJJJ)V"⟩, 53), (⟨"ThirdLeftModel", "fedSet", "()I"⟩, 53), (⟨"ThirdLeftModel", "hasEaten", "(I)Z"⟩, 53), (⟨"ThirdLeftModel", "tells", "(IJJ)I"⟩, 53), (⟨"ThirdLeftModel", "tellsSet", "(I)I"⟩, 53), (⟨"ThirdLeftModel", "seatsAsTold", "()V"⟩, 53), (⟨"ThirdLeftModel", "areAllFed", "()Z"⟩, 53), (⟨"ThirdLeftModel", "isEnough", "(II)Z"⟩, 53), (⟨"ThirdLeftModel", "firstSeats", "()V"⟩, 53)]
theorem lw_r3 : ∀ q ∈ lw_privs_3, lw_okq q := List.forall_mem_cons.mpr ⟨lw_p32, List.forall_mem_cons.mpr ⟨lw_p33, List.forall_mem_cons.mpr ⟨lw_p34, List.forall_mem_cons.mpr ⟨lw_p35, List.forall_mem_cons.mpr ⟨lw_p36, List.forall_mem_cons.mpr ⟨lw_p37, List.forall_mem_cons.mpr ⟨lw_p38, List.forall_mem_cons.mpr ⟨lw_p39, List.forall_mem_cons.mpr ⟨lw_p40, List.forall_mem_cons.mpr ⟨lw_p41, List.forall_mem_cons.mpr ⟨lw_p42, List.forall_mem_cons.mpr ⟨lw_p43, List.forall_mem_cons.mpr ⟨lw_p44, List.forall_mem_cons.mpr ⟨lw_p45, List.forall_mem_cons.mpr ⟨lw_p46, List.forall_mem_cons.mpr ⟨lw_p47, fun _ h => absurd h List.not_mem_nil⟩⟩⟩⟩⟩⟩⟩⟩⟩⟩⟩⟩⟩⟩⟩⟩
theorem lw_p48 : lw_okq (⟨"ThirdLeftModel", "nextSeats", "()Z"⟩, 53) := ⟨⟨by decide +kernel, by decide +kernel⟩, List.mem_of_getElem? (i := 938) (by decide +kernel), List.mem_of_getElem? (i := 1369) (by decide +kernel), List.mem_of_getElem? (i := 1370) (by decide +kernel)⟩
theorem lw_p49 : lw_okq (⟨"ThirdLeftModel", "swapSeats", "(II)V"⟩, 53) := ⟨⟨by decide +kernel, by decide +kernel⟩, List.mem_of_getElem? (i := 938) (by decide +kernel), List.mem_of_getElem? (i := 1373) (by decide +kernel), List.mem_of_getElem? (i := 1374) (by decide +kernel)⟩
theorem lw_p50 : lw_okq (⟨"ThirdLeftModel", "seatsTurned", "(I)V"⟩, 53) := ⟨⟨by decide +kernel, by decide +kernel⟩, List.mem_of_getElem? (i := 938) (by decide +kernel), List.mem_of_getElem? (i := 1390) (by decide +kernel), List.mem_of_getElem? (i := 1391) (by decide +kernel)⟩
theorem lw_p51 : lw_okq (⟨"ThirdLeftModel", "areTurns", "(II)Z"⟩, 53) := ⟨⟨by decide +kernel, by decide +kernel⟩, List.mem_of_getElem? (i := 938) (by decide +kernel), List.mem_of_getElem? (i := 1399) (by decide +kernel), List.mem_of_getElem? (i := 1400) (by decide +kernel)⟩
theorem lw_p52 : lw_okq (⟨"ThirdLeftModel", "fewestFed", "(II)I"⟩, 53) := ⟨⟨by decide +kernel, by decide +kernel⟩, List.mem_of_getElem? (i := 938) (by decide +kernel), List.mem_of_getElem? (i := 1403) (by decide +kernel), List.mem_of_getElem? (i := 1404) (by decide +kernel)⟩
theorem lw_p53 : lw_okq (⟨"ThirdLeftModel", "keepsGot", "()V"⟩, 53) := ⟨⟨by decide +kernel, by decide +kernel⟩, List.mem_of_getElem? (i := 938) (by decide +kernel), List.mem_of_getElem? (i := 1411) (by decide +kernel), List.mem_of_getElem? (i := 1412) (by decide +kernel)⟩
theorem lw_p54 : lw_okq (⟨"ThirdLeftModel", "cheatSet", "()I"⟩, 53) := ⟨⟨by decide +kernel, by decide +kernel⟩, List.mem_of_getElem? (i := 938) (by decide +kernel), List.mem_of_getElem? (i := 1419) (by decide +kernel), List.mem_of_getElem? (i := 1420) (by decide +kernel)⟩
theorem lw_p55 : lw_okq (⟨"ThirdLeftModel", "findWays", "(I)V"⟩, 53) := ⟨⟨by decide +kernel, by decide +kernel⟩, List.mem_of_getElem? (i := 938) (by decide +kernel), List.mem_of_getElem? (i := 1431) (by decide +kernel), List.mem_of_getElem? (i := 1432) (by decide +kernel)⟩
theorem lw_p56 : lw_okq (⟨"ThirdLeftModel", "takesWay", "()V"⟩, 53) := ⟨⟨by decide +kernel, by decide +kernel⟩, List.mem_of_getElem? (i := 938) (by decide +kernel), List.mem_of_getElem? (i := 1435) (by decide +kernel), List.mem_of_getElem? (i := 1436) (by decide +kernel)⟩
theorem lw_p57 : lw_okq (⟨"ThirdLeftModel", "famineBy", "(III)I"⟩, 53) := ⟨⟨by decide +kernel, by decide +kernel⟩, List.mem_of_getElem? (i := 938) (by decide +kernel), List.mem_of_getElem? (i := 1451) (by decide +kernel), List.mem_of_getElem? (i := 1452) (by decide +kernel)⟩
theorem lw_p58 : lw_okq (⟨"ThirdLeftModel", "countBy", "(I)I"⟩, 53) := ⟨⟨by decide +kernel, by decide +kernel⟩, List.mem_of_getElem? (i := 938) (by decide +kernel), List.mem_of_getElem? (i := 1483) (by decide +kernel), List.mem_of_getElem? (i := 1484) (by decide +kernel)⟩
def lw_privs_4 : List (MethodName × Nat) := [(⟨"ThirdLeftModel", "nextSeats", "()Z"⟩, 53), (⟨"ThirdLeftModel", "swapSeats", "(II)V"⟩, 53), (⟨"ThirdLeftModel", "seatsTurned", "(I)V"⟩, 53), (⟨"ThirdLeftModel", "areTurns", "(II)Z"⟩, 53), (⟨"ThirdLeftModel", "fewestFed", "(II)I"⟩, 53), (⟨"ThirdLeftModel", "keepsGot", "()V"⟩, 53), (⟨"ThirdLeftModel", "cheatSet", "()I"⟩, 53), (⟨"ThirdLeftModel", "findWays", "(I)V"⟩, 53), (⟨"ThirdLeftModel", "takesWay", "()V"⟩, 53), (⟨"ThirdLeftModel", "famineBy", "(III)I"⟩, 53), (⟨"ThirdLeftModel", "countBy", "(I)I"⟩, 53)]
theorem lw_r4 : ∀ q ∈ lw_privs_4, lw_okq q := List.forall_mem_cons.mpr ⟨lw_p48, List.forall_mem_cons.mpr ⟨lw_p49, List.forall_mem_cons.mpr ⟨lw_p50, List.forall_mem_cons.mpr ⟨lw_p51, List.forall_mem_cons.mpr ⟨lw_p52, List.forall_mem_cons.mpr ⟨lw_p53, List.forall_mem_cons.mpr ⟨lw_p54, List.forall_mem_cons.mpr ⟨lw_p55, List.forall_mem_cons.mpr ⟨lw_p56, List.forall_mem_cons.mpr ⟨lw_p57, List.forall_mem_cons.mpr ⟨lw_p58, fun _ h => absurd h List.not_mem_nil⟩⟩⟩⟩⟩⟩⟩⟩⟩⟩⟩
def lw_privs : List (MethodName × Nat) := lw_privs_1 ++ (lw_privs_2 ++ (lw_privs_3 ++ (lw_privs_4)))
def lw_tbl : List Cond := k2_sels lw_privs ++ tables_1
theorem lw_privs_ok : ∀ q ∈ lw_privs, lw_okq q := by
  show ∀ q ∈ lw_privs_1 ++ (lw_privs_2 ++ (lw_privs_3 ++ (lw_privs_4))), lw_okq q
  exact List.forall_mem_append.mpr ⟨lw_r1, List.forall_mem_append.mpr ⟨lw_r2, List.forall_mem_append.mpr ⟨lw_r3, lw_r4⟩⟩⟩

def RX0 : String := "ThirdLeft$Company"
def TX0 : u_T := fun k => match k with
  | 0 => ("ThirdLeft$Company", "kinds", "LThirdLeft$Ints;", true)
  | 1 => ("ThirdLeft$Company", "needs", "LThirdLeft$Ints;", true)
  | 2 => ("ThirdLeft$Company", "order", "LThirdLeft$Ints;", true)
  | 3 => ("ThirdLeft$Company", "size", "I", false)
  | 4 => ("ThirdLeft$Company", "law", "I", false)
  | _ => ("ThirdLeft$Company", "pot", "I", false)
def tyX0 : Nat → FieldType := fun k => match k with
  | 0 => .object "ThirdLeft$Ints"
  | 1 => .object "ThirdLeft$Ints"
  | 2 => .object "ThirdLeft$Ints"
  | 3 => .int
  | 4 => .int
  | _ => .int
abbrev wsX00 : List Cond := u_ws RX0 TX0 6
theorem nmX0 : ∀ a, a < 6 → ∀ b, b < 6 → a ≠ b → (TX0 a).2.1 ≠ (TX0 b).2.1 := by decide +kernel
theorem tyX0_ok : ∀ k, k < 6 → parseFieldDescriptor (TX0 k).2.2.1 = some (tyX0 k) := by decide +kernel
abbrev cX0_init : ByteArray := prog_2_method_1_code
def yX0_init : MethodName := ⟨RX0, "<init>", "()V"⟩
abbrev cX0_sitDown : ByteArray := prog_2_method_2_code
def yX0_sitDown : MethodName := ⟨RX0, "sitDown", "(LThirdLeft$Reader;)V"⟩
abbrev cX0_has : ByteArray := prog_2_method_3_code
def yX0_has : MethodName := ⟨RX0, "has", "(I)Z"⟩
abbrev cX0_isOf : ByteArray := prog_2_method_4_code
def yX0_isOf : MethodName := ⟨RX0, "isOf", "(II)Z"⟩
abbrev cX0_setOf : ByteArray := prog_2_method_5_code
def yX0_setOf : MethodName := ⟨RX0, "setOf", "(I)I"⟩
abbrev cX0_countOf : ByteArray := prog_2_method_6_code
def yX0_countOf : MethodName := ⟨RX0, "countOf", "(I)I"⟩
abbrev cX0_allNeeds : ByteArray := prog_2_method_7_code
def yX0_allNeeds : MethodName := ⟨RX0, "allNeeds", "()I"⟩
abbrev cX0_placeOf : ByteArray := prog_2_method_8_code
def yX0_placeOf : MethodName := ⟨RX0, "placeOf", "(I)I"⟩
abbrev cX0_about : ByteArray := prog_2_method_9_code
def yX0_about : MethodName := ⟨RX0, "about", "(II)I"⟩
abbrev cX0_isOrder : ByteArray := prog_2_method_10_code
def yX0_isOrder : MethodName := ⟨RX0, "isOrder", "(LThirdLeft$Ints;)Z"⟩
def RX1 : String := "ThirdLeft$Days"
def TX1 : u_T := fun k => match k with
  | 0 => ("ThirdLeft$Days", "sitting", "LThirdLeft$Sitting;", true)
  | 1 => ("ThirdLeft$Days", "fedByTurn", "LThirdLeft$Ints;", true)
  | 2 => ("ThirdLeft$Days", "chosen", "LThirdLeft$Ints;", true)
  | 3 => ("ThirdLeft$Days", "drawn", "LThirdLeft$Ints;", true)
  | 4 => ("ThirdLeft$Days", "lot", "J", false)
  | _ => ("ThirdLeft$Days", "turns", "I", false)
def tyX1 : Nat → FieldType := fun k => match k with
  | 0 => .object "ThirdLeft$Sitting"
  | 1 => .object "ThirdLeft$Ints"
  | 2 => .object "ThirdLeft$Ints"
  | 3 => .object "ThirdLeft$Ints"
  | 4 => .long
  | _ => .int
abbrev wsX10 : List Cond := u_ws RX1 TX1 6
theorem nmX1 : ∀ a, a < 6 → ∀ b, b < 6 → a ≠ b → (TX1 a).2.1 ≠ (TX1 b).2.1 := by decide +kernel
theorem tyX1_ok : ∀ k, k < 6 → parseFieldDescriptor (TX1 k).2.2.1 = some (tyX1 k) := by decide +kernel
abbrev cX1_init : ByteArray := prog_3_method_1_code
def yX1_init : MethodName := ⟨RX1, "<init>", "()V"⟩
abbrev cX1_mostEven : ByteArray := prog_3_method_2_code
def yX1_mostEven : MethodName := ⟨RX1, "mostEven", "(LThirdLeft$Company;II)I"⟩
abbrev cX1_chooseNext : ByteArray := prog_3_method_3_code
def yX1_chooseNext : MethodName := ⟨RX1, "chooseNext", "(II)Z"⟩
abbrev cX1_leastOftenFed : ByteArray := prog_3_method_4_code
def yX1_leastOftenFed : MethodName := ⟨RX1, "leastOftenFed", "(II)I"⟩
abbrev cX1_figures : ByteArray := prog_3_method_5_code
def yX1_figures : MethodName := ⟨RX1, "figures", "(I)I"⟩
abbrev cX1_byLots : ByteArray := prog_3_method_6_code
def yX1_byLots : MethodName := ⟨RX1, "byLots", "(LThirdLeft$Company;IIILThirdLeft$Ints;)V"⟩
abbrev cX1_draw : ByteArray := prog_3_method_7_code
def yX1_draw : MethodName := ⟨RX1, "draw", "(LThirdLeft$Company;)V"⟩
def RX2 : String := "ThirdLeft$Evening"
def TX2 : u_T := fun k => match k with
  | 0 => ("ThirdLeft$Evening", "line", "LThirdLeft$Ints;", true)
  | 1 => ("ThirdLeft$Evening", "takes", "LThirdLeft$Longs;", true)
  | 2 => ("ThirdLeft$Evening", "there", "Z", false)
  | 3 => ("ThirdLeft$Evening", "how", "I", false)
  | 4 => ("ThirdLeft$Evening", "eaten", "I", false)
  | 5 => ("ThirdLeft$Evening", "grains", "J", false)
  | _ => ("ThirdLeft$Evening", "who", "I", false)
def tyX2 : Nat → FieldType := fun k => match k with
  | 0 => .object "ThirdLeft$Ints"
  | 1 => .object "ThirdLeft$Longs"
  | 2 => .boolean
  | 3 => .int
  | 4 => .int
  | 5 => .long
  | _ => .int
abbrev wsX20 : List Cond := u_ws RX2 TX2 7
theorem nmX2 : ∀ a, a < 7 → ∀ b, b < 7 → a ≠ b → (TX2 a).2.1 ≠ (TX2 b).2.1 := by decide +kernel
theorem tyX2_ok : ∀ k, k < 7 → parseFieldDescriptor (TX2 k).2.2.1 = some (tyX2 k) := by decide +kernel
abbrev cX2_init : ByteArray := prog_4_method_1_code
def yX2_init : MethodName := ⟨RX2, "<init>", "()V"⟩
abbrev cX2_start : ByteArray := prog_4_method_2_code
def yX2_start : MethodName := ⟨RX2, "start", "(LThirdLeft$Company;I)V"⟩
abbrev cX2_nextEats : ByteArray := prog_4_method_3_code
def yX2_nextEats : MethodName := ⟨RX2, "nextEats", "(LThirdLeft$Company;)I"⟩
abbrev cX2_hasEaten : ByteArray := prog_4_method_4_code
def yX2_hasEaten : MethodName := ⟨RX2, "hasEaten", "(I)Z"⟩
abbrev cX2_tookJust : ByteArray := prog_4_method_5_code
def yX2_tookJust : MethodName := ⟨RX2, "tookJust", "(II)Z"⟩
abbrev cX2_fedSoFar : ByteArray := prog_4_method_6_code
def yX2_fedSoFar : MethodName := ⟨RX2, "fedSoFar", "(LThirdLeft$Company;)I"⟩
abbrev cX2_becomeLike : ByteArray := prog_4_method_7_code
def yX2_becomeLike : MethodName := ⟨RX2, "becomeLike", "(LThirdLeft$Evening;)V"⟩
def RX3 : String := "ThirdLeft$Ints"
def TX3 : u_T := fun k => match k with
  | 0 => ("ThirdLeft$Ints", "v", "[I", true)
  | _ => ("ThirdLeft$Ints", "size", "I", false)
def tyX3 : Nat → FieldType := fun k => match k with
  | 0 => .array .int
  | _ => .int
abbrev wsX30 : List Cond := u_ws RX3 TX3 2
theorem nmX3 : ∀ a, a < 2 → ∀ b, b < 2 → a ≠ b → (TX3 a).2.1 ≠ (TX3 b).2.1 := by decide +kernel
theorem tyX3_ok : ∀ k, k < 2 → parseFieldDescriptor (TX3 k).2.2.1 = some (tyX3 k) := by decide +kernel
abbrev cX3_init : ByteArray := prog_5_method_1_code
def yX3_init : MethodName := ⟨RX3, "<init>", "(II)V"⟩
abbrev cX3_size : ByteArray := prog_5_method_2_code
def yX3_size : MethodName := ⟨RX3, "size", "()I"⟩
abbrev cX3_vanish : ByteArray := prog_5_method_3_code
def yX3_vanish : MethodName := ⟨RX3, "vanish", "()V"⟩
abbrev cX3_missing : ByteArray := prog_5_method_4_code
def yX3_missing : MethodName := ⟨RX3, "missing", "()Z"⟩
abbrev cX3_has : ByteArray := prog_5_method_5_code
def yX3_has : MethodName := ⟨RX3, "has", "(I)Z"⟩
abbrev cX3_holds : ByteArray := prog_5_method_6_code
def yX3_holds : MethodName := ⟨RX3, "holds", "(II)Z"⟩
abbrev cX3_get : ByteArray := prog_5_method_7_code
def yX3_get : MethodName := ⟨RX3, "get", "(I)I"⟩
abbrev cX3_set : ByteArray := prog_5_method_8_code
def yX3_set : MethodName := ⟨RX3, "set", "(II)V"⟩
abbrev cX3_reset : ByteArray := prog_5_method_9_code
def yX3_reset : MethodName := ⟨RX3, "reset", "(II)V"⟩
abbrev cX3_moveTo : ByteArray := prog_5_method_10_code
def yX3_moveTo : MethodName := ⟨RX3, "moveTo", "(LThirdLeft$Ints;III)V"⟩
abbrev cX3_swap : ByteArray := prog_5_method_11_code
def yX3_swap : MethodName := ⟨RX3, "swap", "(II)V"⟩
abbrev cX3_sum : ByteArray := prog_5_method_12_code
def yX3_sum : MethodName := ⟨RX3, "sum", "()J"⟩
abbrev cX3_firstGreatest : ByteArray := prog_5_method_13_code
def yX3_firstGreatest : MethodName := ⟨RX3, "firstGreatest", "()I"⟩
abbrev cX3_digestInto : ByteArray := prog_5_method_14_code
def yX3_digestInto : MethodName := ⟨RX3, "digestInto", "(J)J"⟩
def RX4 : String := "ThirdLeft$Longs"
def TX4 : u_T := fun k => match k with
  | _ => ("ThirdLeft$Longs", "v", "[J", true)
def tyX4 : Nat → FieldType := fun k => match k with
  | _ => .array .long
abbrev wsX40 : List Cond := u_ws RX4 TX4 1
theorem nmX4 : ∀ a, a < 1 → ∀ b, b < 1 → a ≠ b → (TX4 a).2.1 ≠ (TX4 b).2.1 := by decide +kernel
theorem tyX4_ok : ∀ k, k < 1 → parseFieldDescriptor (TX4 k).2.2.1 = some (tyX4 k) := by decide +kernel
abbrev cX4_init : ByteArray := prog_6_method_1_code
def yX4_init : MethodName := ⟨RX4, "<init>", "(I)V"⟩
abbrev cX4_get : ByteArray := prog_6_method_2_code
def yX4_get : MethodName := ⟨RX4, "get", "(I)J"⟩
abbrev cX4_set : ByteArray := prog_6_method_3_code
def yX4_set : MethodName := ⟨RX4, "set", "(IJ)V"⟩
abbrev cX4_becomeLike : ByteArray := prog_6_method_4_code
def yX4_becomeLike : MethodName := ⟨RX4, "becomeLike", "(LThirdLeft$Longs;)V"⟩
def RX5 : String := "ThirdLeft$Pots"
def TX5 : u_T := fun k => match k with
  | 0 => ("ThirdLeft$Pots", "sitting", "LThirdLeft$Sitting;", true)
  | 1 => ("ThirdLeft$Pots", "trial", "LThirdLeft$Sitting;", true)
  | _ => ("ThirdLeft$Pots", "found", "LThirdLeft$Ints;", true)
def tyX5 : Nat → FieldType := fun k => match k with
  | 0 => .object "ThirdLeft$Sitting"
  | 1 => .object "ThirdLeft$Sitting"
  | _ => .object "ThirdLeft$Ints"
abbrev wsX50 : List Cond := u_ws RX5 TX5 3
theorem nmX5 : ∀ a, a < 3 → ∀ b, b < 3 → a ≠ b → (TX5 a).2.1 ≠ (TX5 b).2.1 := by decide +kernel
theorem tyX5_ok : ∀ k, k < 3 → parseFieldDescriptor (TX5 k).2.2.1 = some (tyX5 k) := by decide +kernel
abbrev cX5_init : ByteArray := prog_7_method_1_code
def yX5_init : MethodName := ⟨RX5, "<init>", "()V"⟩
abbrev cX5_lowest : ByteArray := prog_7_method_2_code
def yX5_lowest : MethodName := ⟨RX5, "lowest", "(LThirdLeft$Company;LThirdLeft$Ints;IIII)I"⟩
abbrev cX5_feeds : ByteArray := prog_7_method_3_code
def yX5_feeds : MethodName := ⟨RX5, "feeds", "(LThirdLeft$Ints;IIII)Z"⟩
abbrev cX5_leastOfOrders : ByteArray := prog_7_method_4_code
def yX5_leastOfOrders : MethodName := ⟨RX5, "leastOfOrders", "(LThirdLeft$Company;I)I"⟩
def RX6 : String := "ThirdLeft$Reader"
def TX6 : u_T := fun k => match k with
  | 0 => ("ThirdLeft$Reader", "kinds", "LThirdLeft$Ints;", true)
  | 1 => ("ThirdLeft$Reader", "needs", "LThirdLeft$Ints;", true)
  | 2 => ("ThirdLeft$Reader", "size", "I", false)
  | 3 => ("ThirdLeft$Reader", "pot", "I", false)
  | _ => ("ThirdLeft$Reader", "law", "I", false)
def tyX6 : Nat → FieldType := fun k => match k with
  | 0 => .object "ThirdLeft$Ints"
  | 1 => .object "ThirdLeft$Ints"
  | 2 => .int
  | 3 => .int
  | _ => .int
abbrev wsX60 : List Cond := u_ws RX6 TX6 5
theorem nmX6 : ∀ a, a < 5 → ∀ b, b < 5 → a ≠ b → (TX6 a).2.1 ≠ (TX6 b).2.1 := by decide +kernel
theorem tyX6_ok : ∀ k, k < 5 → parseFieldDescriptor (TX6 k).2.2.1 = some (tyX6 k) := by decide +kernel
abbrev cX6_init : ByteArray := prog_8_method_1_code
def yX6_init : MethodName := ⟨RX6, "<init>", "()V"⟩
abbrev cX6_read : ByteArray := prog_8_method_2_code
def yX6_read : MethodName := ⟨RX6, "read", "(LThirdLeft$Ints;)I"⟩
abbrev cX6_readEaters : ByteArray := prog_8_method_3_code
def yX6_readEaters : MethodName := ⟨RX6, "readEaters", "(LThirdLeft$Ints;I)I"⟩
abbrev cX6_kindBy : ByteArray := prog_8_method_4_code
def yX6_kindBy : MethodName := ⟨RX6, "kindBy", "(I)I"⟩
abbrev cX6_behindBlanks : ByteArray := prog_8_method_5_code
def yX6_behindBlanks : MethodName := ⟨RX6, "behindBlanks", "(LThirdLeft$Ints;I)I"⟩
abbrev cX6_behindFigures : ByteArray := prog_8_method_6_code
def yX6_behindFigures : MethodName := ⟨RX6, "behindFigures", "(LThirdLeft$Ints;II)I"⟩
abbrev cX6_number : ByteArray := prog_8_method_7_code
def yX6_number : MethodName := ⟨RX6, "number", "(LThirdLeft$Ints;II)I"⟩
def RX7 : String := "ThirdLeft$Sitting"
def TX7 : u_T := fun k => match k with
  | 0 => ("ThirdLeft$Sitting", "kinds", "LThirdLeft$Ints;", true)
  | 1 => ("ThirdLeft$Sitting", "needs", "LThirdLeft$Ints;", true)
  | 2 => ("ThirdLeft$Sitting", "line", "LThirdLeft$Ints;", true)
  | 3 => ("ThirdLeft$Sitting", "takes", "LThirdLeft$Longs;", true)
  | 4 => ("ThirdLeft$Sitting", "there", "LThirdLeft$Longs;", true)
  | 5 => ("ThirdLeft$Sitting", "fed", "LThirdLeft$Ints;", true)
  | 6 => ("ThirdLeft$Sitting", "size", "I", false)
  | 7 => ("ThirdLeft$Sitting", "law", "I", false)
  | _ => ("ThirdLeft$Sitting", "how", "I", false)
def tyX7 : Nat → FieldType := fun k => match k with
  | 0 => .object "ThirdLeft$Ints"
  | 1 => .object "ThirdLeft$Ints"
  | 2 => .object "ThirdLeft$Ints"
  | 3 => .object "ThirdLeft$Longs"
  | 4 => .object "ThirdLeft$Longs"
  | 5 => .object "ThirdLeft$Ints"
  | 6 => .int
  | 7 => .int
  | _ => .int
abbrev wsX70 : List Cond := u_ws RX7 TX7 9
theorem nmX7 : ∀ a, a < 9 → ∀ b, b < 9 → a ≠ b → (TX7 a).2.1 ≠ (TX7 b).2.1 := by decide +kernel
theorem tyX7_ok : ∀ k, k < 9 → parseFieldDescriptor (TX7 k).2.2.1 = some (tyX7 k) := by decide +kernel
abbrev cX7_init : ByteArray := prog_9_method_1_code
def yX7_init : MethodName := ⟨RX7, "<init>", "()V"⟩
abbrev cX7_invite : ByteArray := prog_9_method_2_code
def yX7_invite : MethodName := ⟨RX7, "invite", "(LThirdLeft$Company;)V"⟩
abbrev cX7_makeEaters : ByteArray := prog_9_method_3_code
def yX7_makeEaters : MethodName := ⟨RX7, "makeEaters", "(I)V"⟩
abbrev cX7_rules : ByteArray := prog_9_method_4_code
def yX7_rules : MethodName := ⟨RX7, "rules", "(III)V"⟩
abbrev cX7_seatTurned : ByteArray := prog_9_method_5_code
def yX7_seatTurned : MethodName := ⟨RX7, "seatTurned", "(LThirdLeft$Ints;I)V"⟩
abbrev cX7_seatBackwards : ByteArray := prog_9_method_6_code
def yX7_seatBackwards : MethodName := ⟨RX7, "seatBackwards", "(LThirdLeft$Ints;)V"⟩
abbrev cX7_seatMoved : ByteArray := prog_9_method_7_code
def yX7_seatMoved : MethodName := ⟨RX7, "seatMoved", "(LThirdLeft$Ints;II)V"⟩
abbrev cX7_seatByNumbers : ByteArray := prog_9_method_8_code
def yX7_seatByNumbers : MethodName := ⟨RX7, "seatByNumbers", "()V"⟩
abbrev cX7_seatNext : ByteArray := prog_9_method_9_code
def yX7_seatNext : MethodName := ⟨RX7, "seatNext", "()I"⟩
abbrev cX7_serve : ByteArray := prog_9_method_10_code
def yX7_serve : MethodName := ⟨RX7, "serve", "(I)V"⟩
abbrev cX7_fedAll : ByteArray := prog_9_method_11_code
def yX7_fedAll : MethodName := ⟨RX7, "fedAll", "()I"⟩
abbrev cX7_isAll : ByteArray := prog_9_method_12_code
def yX7_isAll : MethodName := ⟨RX7, "isAll", "(I)Z"⟩
abbrev cX7_rest : ByteArray := prog_9_method_13_code
def yX7_rest : MethodName := ⟨RX7, "rest", "()J"⟩
abbrev cX7_takenBy : ByteArray := prog_9_method_14_code
def yX7_takenBy : MethodName := ⟨RX7, "takenBy", "(I)J"⟩
def RX8 : String := "ThirdLeft$Spoon"
def TX8 : u_T := fun k => match k with
  | _ => ("", "", "", false)
def tyX8 : Nat → FieldType := fun k => match k with
  | _ => .int
abbrev wsX80 : List Cond := u_ws RX8 TX8 0
theorem nmX8 : ∀ a, a < 0 → ∀ b, b < 0 → a ≠ b → (TX8 a).2.1 ≠ (TX8 b).2.1 := by decide +kernel
theorem tyX8_ok : ∀ k, k < 0 → parseFieldDescriptor (TX8 k).2.2.1 = some (tyX8 k) := by decide +kernel
abbrev cX8_unit : ByteArray := prog_10_method_2_code
def yX8_unit : MethodName := ⟨RX8, "unit", "(I)J"⟩
abbrev cX8_divisor : ByteArray := prog_10_method_3_code
def yX8_divisor : MethodName := ⟨RX8, "divisor", "(II)I"⟩
abbrev cX8_may : ByteArray := prog_10_method_4_code
def yX8_may : MethodName := ⟨RX8, "may", "(JI)J"⟩
abbrev cX8_take : ByteArray := prog_10_method_5_code
def yX8_take : MethodName := ⟨RX8, "take", "(IJJI)J"⟩
def RX9 : String := "ThirdLeft$Traces"
def TX9 : u_T := fun k => match k with
  | 0 => ("ThirdLeft$Traces", "sitting", "LThirdLeft$Sitting;", true)
  | 1 => ("ThirdLeft$Traces", "orders", "I", false)
  | 2 => ("ThirdLeft$Traces", "ofAll", "I", false)
  | 3 => ("ThirdLeft$Traces", "lasts", "I", false)
  | 4 => ("ThirdLeft$Traces", "firsts", "I", false)
  | _ => ("ThirdLeft$Traces", "aheads", "I", false)
def tyX9 : Nat → FieldType := fun k => match k with
  | 0 => .object "ThirdLeft$Sitting"
  | 1 => .int
  | 2 => .int
  | 3 => .int
  | 4 => .int
  | _ => .int
abbrev wsX90 : List Cond := u_ws RX9 TX9 6
theorem nmX9 : ∀ a, a < 6 → ∀ b, b < 6 → a ≠ b → (TX9 a).2.1 ≠ (TX9 b).2.1 := by decide +kernel
theorem tyX9_ok : ∀ k, k < 6 → parseFieldDescriptor (TX9 k).2.2.1 = some (tyX9 k) := by decide +kernel
abbrev cX9_init : ByteArray := prog_11_method_1_code
def yX9_init : MethodName := ⟨RX9, "<init>", "()V"⟩
abbrev cX9_mostFed : ByteArray := prog_11_method_2_code
def yX9_mostFed : MethodName := ⟨RX9, "mostFed", "(LThirdLeft$Company;I)I"⟩
abbrev cX9_follow : ByteArray := prog_11_method_3_code
def yX9_follow : MethodName := ⟨RX9, "follow", "(LThirdLeft$Company;III)V"⟩
abbrev cX9_note : ByteArray := prog_11_method_4_code
def yX9_note : MethodName := ⟨RX9, "note", "(III)V"⟩
def RX10 : String := "ThirdLeft"
def TX10 : u_T := fun k => match k with
  | 0 => ("ThirdLeft", "rows", "[LThirdLeft$Ints;", true)
  | 1 => ("ThirdLeft", "texts", "[LThirdLeft$Ints;", true)
  | 2 => ("ThirdLeft", "reader", "LThirdLeft$Reader;", true)
  | 3 => ("ThirdLeft", "company", "LThirdLeft$Company;", true)
  | 4 => ("ThirdLeft", "now", "LThirdLeft$Evening;", true)
  | 5 => ("ThirdLeft", "kept", "[LThirdLeft$Evening;", true)
  | 6 => ("ThirdLeft", "sitting", "LThirdLeft$Sitting;", true)
  | 7 => ("ThirdLeft", "second", "LThirdLeft$Sitting;", true)
  | 8 => ("ThirdLeft", "pots", "LThirdLeft$Pots;", true)
  | 9 => ("ThirdLeft", "traces", "LThirdLeft$Traces;", true)
  | 10 => ("ThirdLeft", "days", "LThirdLeft$Days;", true)
  | 11 => ("ThirdLeft", "findingCounts", "[I", true)
  | 12 => ("ThirdLeft", "latestFinding", "I", false)
  | 13 => ("ThirdLeft", "told", "I", false)
  | 14 => ("ThirdLeft", "toldUpper", "J", false)
  | _ => ("ThirdLeft", "toldLower", "J", false)
def tyX10 : Nat → FieldType := fun k => match k with
  | 0 => .array (.object "ThirdLeft$Ints")
  | 1 => .array (.object "ThirdLeft$Ints")
  | 2 => .object "ThirdLeft$Reader"
  | 3 => .object "ThirdLeft$Company"
  | 4 => .object "ThirdLeft$Evening"
  | 5 => .array (.object "ThirdLeft$Evening")
  | 6 => .object "ThirdLeft$Sitting"
  | 7 => .object "ThirdLeft$Sitting"
  | 8 => .object "ThirdLeft$Pots"
  | 9 => .object "ThirdLeft$Traces"
  | 10 => .object "ThirdLeft$Days"
  | 11 => .array .int
  | 12 => .int
  | 13 => .int
  | 14 => .long
  | _ => .long
abbrev wsX100 : List Cond := u_ws RX10 TX10 16
theorem nmX10 : ∀ a, a < 16 → ∀ b, b < 16 → a ≠ b → (TX10 a).2.1 ≠ (TX10 b).2.1 := by decide +kernel
theorem tyX10_ok : ∀ k, k < 16 → parseFieldDescriptor (TX10 k).2.2.1 = some (tyX10 k) := by decide +kernel
abbrev cX10_init : ByteArray := prog_1_method_1_code
def yX10_init : MethodName := ⟨RX10, "<init>", "()V"⟩
abbrev cX10_row : ByteArray := prog_1_method_2_code
def yX10_row : MethodName := ⟨RX10, "row", "(II)I"⟩
abbrev cX10_lay : ByteArray := prog_1_method_3_code
def yX10_lay : MethodName := ⟨RX10, "lay", "(III)I"⟩
abbrev cX10_at : ByteArray := prog_1_method_4_code
def yX10_at : MethodName := ⟨RX10, "at", "(II)I"⟩
abbrev cX10_tear : ByteArray := prog_1_method_5_code
def yX10_tear : MethodName := ⟨RX10, "tear", "(I)I"⟩
abbrev cX10_copy : ByteArray := prog_1_method_6_code
def yX10_copy : MethodName := ⟨RX10, "copy", "(IIIII)I"⟩
abbrev cX10_mean : ByteArray := prog_1_method_7_code
def yX10_mean : MethodName := ⟨RX10, "mean", "(I)I"⟩
abbrev cX10_text : ByteArray := prog_1_method_8_code
def yX10_text : MethodName := ⟨RX10, "text", "(II)I"⟩
abbrev cX10_put : ByteArray := prog_1_method_9_code
def yX10_put : MethodName := ⟨RX10, "put", "(III)I"⟩
abbrev cX10_fault : ByteArray := prog_1_method_10_code
def yX10_fault : MethodName := ⟨RX10, "fault", "(I)I"⟩
abbrev cX10_table : ByteArray := prog_1_method_11_code
def yX10_table : MethodName := ⟨RX10, "table", "(I)I"⟩
abbrev cX10_eater : ByteArray := prog_1_method_12_code
def yX10_eater : MethodName := ⟨RX10, "eater", "(II)I"⟩
abbrev cX10_mark : ByteArray := prog_1_method_13_code
def yX10_mark : MethodName := ⟨RX10, "mark", "(II)I"⟩
abbrev cX10_law : ByteArray := prog_1_method_14_code
def yX10_law : MethodName := ⟨RX10, "law", "(I)I"⟩
abbrev cX10_pot : ByteArray := prog_1_method_15_code
def yX10_pot : MethodName := ⟨RX10, "pot", "(I)I"⟩
abbrev cX10_need : ByteArray := prog_1_method_16_code
def yX10_need : MethodName := ⟨RX10, "need", "(II)I"⟩
abbrev cX10_order : ByteArray := prog_1_method_17_code
def yX10_order : MethodName := ⟨RX10, "order", "(I)I"⟩
abbrev cX10_begin : ByteArray := prog_1_method_18_code
def yX10_begin : MethodName := ⟨RX10, "begin", "(I)I"⟩
abbrev cX10_eat : ByteArray := prog_1_method_19_code
def yX10_eat : MethodName := ⟨RX10, "eat", "()I"⟩
abbrev cX10_took : ByteArray := prog_1_method_20_code
def yX10_took : MethodName := ⟨RX10, "took", "(I)I"⟩
abbrev cX10_left : ByteArray := prog_1_method_21_code
def yX10_left : MethodName := ⟨RX10, "left", "()I"⟩
abbrev cX10_fed : ByteArray := prog_1_method_22_code
def yX10_fed : MethodName := ⟨RX10, "fed", "()I"⟩
abbrev cX10_keep : ByteArray := prog_1_method_23_code
def yX10_keep : MethodName := ⟨RX10, "keep", "(I)I"⟩
abbrev cX10_on : ByteArray := prog_1_method_24_code
def yX10_on : MethodName := ⟨RX10, "on", "(I)I"⟩
abbrev cX10_evening : ByteArray := prog_1_method_25_code
def yX10_evening : MethodName := ⟨RX10, "evening", "(I)I"⟩
abbrev cX10_place : ByteArray := prog_1_method_26_code
def yX10_place : MethodName := ⟨RX10, "place", "(III)I"⟩
abbrev cX10_favours : ByteArray := prog_1_method_27_code
def yX10_favours : MethodName := ⟨RX10, "favours", "(II)I"⟩
abbrev cX10_least : ByteArray := prog_1_method_28_code
def yX10_least : MethodName := ⟨RX10, "least", "(I)I"⟩
abbrev cX10_best : ByteArray := prog_1_method_29_code
def yX10_best : MethodName := ⟨RX10, "best", "(II)I"⟩
abbrev cX10_most : ByteArray := prog_1_method_30_code
def yX10_most : MethodName := ⟨RX10, "most", "(I)I"⟩
abbrev cX10_kind : ByteArray := prog_1_method_31_code
def yX10_kind : MethodName := ⟨RX10, "kind", "(I)I"⟩
abbrev cX10_week : ByteArray := prog_1_method_32_code
def yX10_week : MethodName := ⟨RX10, "week", "(III)I"⟩
abbrev cX10_even : ByteArray := prog_1_method_33_code
def yX10_even : MethodName := ⟨RX10, "even", "(II)I"⟩
abbrev cX10_two : ByteArray := prog_1_method_34_code
def yX10_two : MethodName := ⟨RX10, "two", "(I)I"⟩
abbrev cX10_scales : ByteArray := prog_1_method_35_code
def yX10_scales : MethodName := ⟨RX10, "scales", "()I"⟩
abbrev cX10_cheats : ByteArray := prog_1_method_36_code
def yX10_cheats : MethodName := ⟨RX10, "cheats", "()I"⟩
abbrev cX10_bones : ByteArray := prog_1_method_37_code
def yX10_bones : MethodName := ⟨RX10, "bones", "(I)I"⟩
abbrev cX10_last : ByteArray := prog_1_method_38_code
def yX10_last : MethodName := ⟨RX10, "last", "(I)I"⟩
abbrev cX10_ahead : ByteArray := prog_1_method_39_code
def yX10_ahead : MethodName := ⟨RX10, "ahead", "(III)I"⟩
abbrev cX10_famine : ByteArray := prog_1_method_40_code
def yX10_famine : MethodName := ⟨RX10, "famine", "(II)I"⟩
abbrev cX10_kindest : ByteArray := prog_1_method_41_code
def yX10_kindest : MethodName := ⟨RX10, "kindest", "(II)I"⟩
abbrev cX10_kitchens : ByteArray := prog_1_method_42_code
def yX10_kitchens : MethodName := ⟨RX10, "kitchens", "(IIII)I"⟩
abbrev cX10_asked : ByteArray := prog_1_method_43_code
def yX10_asked : MethodName := ⟨RX10, "asked", "()I"⟩
abbrev cX10_upper : ByteArray := prog_1_method_44_code
def yX10_upper : MethodName := ⟨RX10, "upper", "()J"⟩
abbrev cX10_lower : ByteArray := prog_1_method_45_code
def yX10_lower : MethodName := ⟨RX10, "lower", "()J"⟩
abbrev cX10_count : ByteArray := prog_1_method_46_code
def yX10_count : MethodName := ⟨RX10, "count", "(I)I"⟩
abbrev cX10_finding : ByteArray := prog_1_method_47_code
def yX10_finding : MethodName := ⟨RX10, "finding", "()I"⟩
abbrev cX10_findings : ByteArray := prog_1_method_48_code
def yX10_findings : MethodName := ⟨RX10, "findings", "(I)I"⟩
abbrev cX10_digest : ByteArray := prog_1_method_49_code
def yX10_digest : MethodName := ⟨RX10, "digest", "()J"⟩
abbrev cX10_isHow : ByteArray := prog_1_method_50_code
def yX10_isHow : MethodName := ⟨RX10, "isHow", "(I)Z"⟩
abbrev cX10_noneIfNought : ByteArray := prog_1_method_51_code
def yX10_noneIfNought : MethodName := ⟨RX10, "noneIfNought", "(I)I"⟩
abbrev cX10_pick : ByteArray := prog_1_method_52_code
def yX10_pick : MethodName := ⟨RX10, "pick", "([LThirdLeft$Ints;I)LThirdLeft$Ints;"⟩
abbrev cX10_pickKept : ByteArray := prog_1_method_53_code
def yX10_pickKept : MethodName := ⟨RX10, "pickKept", "(I)LThirdLeft$Evening;"⟩
abbrev cX10_makeAnew : ByteArray := prog_1_method_54_code
def yX10_makeAnew : MethodName := ⟨RX10, "makeAnew", "(LThirdLeft$Ints;II)I"⟩
abbrev cX10_missingPlace : ByteArray := prog_1_method_55_code
def yX10_missingPlace : MethodName := ⟨RX10, "missingPlace", "(LThirdLeft$Ints;I)I"⟩
abbrev cX10_refuse : ByteArray := prog_1_method_56_code
def yX10_refuse : MethodName := ⟨RX10, "refuse", "(I)I"⟩
abbrev cX10_tellBits : ByteArray := prog_1_method_57_code
def yX10_tellBits : MethodName := ⟨RX10, "tellBits", "(I)I"⟩
abbrev cX10_tellShare : ByteArray := prog_1_method_58_code
def yX10_tellShare : MethodName := ⟨RX10, "tellShare", "(JI)V"⟩
abbrev cX10_tellFraction : ByteArray := prog_1_method_59_code
def yX10_tellFraction : MethodName := ⟨RX10, "tellFraction", "(JJ)V"⟩
abbrev cX10_common : ByteArray := prog_1_method_60_code
def yX10_common : MethodName := ⟨RX10, "common", "(JJ)J"⟩
abbrev cX10_serveMoved : ByteArray := prog_1_method_61_code
def yX10_serveMoved : MethodName := ⟨RX10, "serveMoved", "(III)V"⟩
abbrev cX10_restWithHonest : ByteArray := prog_1_method_62_code
def yX10_restWithHonest : MethodName := ⟨RX10, "restWithHonest", "(I)J"⟩
abbrev cX10_countKept : ByteArray := prog_1_method_63_code
def yX10_countKept : MethodName := ⟨RX10, "countKept", "()I"⟩
abbrev cX10_countThere : ByteArray := prog_1_method_64_code
def yX10_countThere : MethodName := ⟨RX10, "countThere", "([LThirdLeft$Ints;)I"⟩
abbrev cX10_digestOfEvening : ByteArray := prog_1_method_65_code
def yX10_digestOfEvening : MethodName := ⟨RX10, "digestOfEvening", "(J)J"⟩
abbrev cX10_digestOfShare : ByteArray := prog_1_method_66_code
def yX10_digestOfShare : MethodName := ⟨RX10, "digestOfShare", "(JJ)J"⟩
def RX11 : String := "ThirdLeftModel"
def TX11 : u_T := fun k => match k with
  | 0 => ("ThirdLeftModel", "finding", "I", false)
  | 1 => ("ThirdLeftModel", "findings", "[I", true)
  | 2 => ("ThirdLeftModel", "told", "I", false)
  | 3 => ("ThirdLeftModel", "up", "J", false)
  | 4 => ("ThirdLeftModel", "low", "J", false)
  | 5 => ("ThirdLeftModel", "sizes", "[I", true)
  | 6 => ("ThirdLeftModel", "items", "[I", true)
  | 7 => ("ThirdLeftModel", "lengths", "[I", true)
  | 8 => ("ThirdLeftModel", "bytes", "[I", true)
  | 9 => ("ThirdLeftModel", "textAt", "I", false)
  | 10 => ("ThirdLeftModel", "cursor", "I", false)
  | 11 => ("ThirdLeftModel", "number", "I", false)
  | 12 => ("ThirdLeftModel", "saidPot", "I", false)
  | 13 => ("ThirdLeftModel", "saidLaw", "I", false)
  | 14 => ("ThirdLeftModel", "saidMany", "I", false)
  | 15 => ("ThirdLeftModel", "saidKind", "[I", true)
  | 16 => ("ThirdLeftModel", "saidNeed", "[I", true)
  | 17 => ("ThirdLeftModel", "potTold", "I", false)
  | 18 => ("ThirdLeftModel", "law", "I", false)
  | 19 => ("ThirdLeftModel", "many", "I", false)
  | 20 => ("ThirdLeftModel", "kinds", "[I", true)
  | 21 => ("ThirdLeftModel", "needs", "[I", true)
  | 22 => ("ThirdLeftModel", "order", "[I", true)
  | 23 => ("ThirdLeftModel", "over", "J", false)
  | 24 => ("ThirdLeftModel", "under", "J", false)
  | 25 => ("ThirdLeftModel", "seat", "[I", true)
  | 26 => ("ThirdLeftModel", "gotUp", "[J", true)
  | 27 => ("ThirdLeftModel", "gotLow", "[J", true)
  | 28 => ("ThirdLeftModel", "endUp", "J", false)
  | 29 => ("ThirdLeftModel", "endLow", "J", false)
  | 30 => ("ThirdLeftModel", "style", "I", false)
  | 31 => ("ThirdLeftModel", "seats", "[I", true)
  | 32 => ("ThirdLeftModel", "eaten", "I", false)
  | 33 => ("ThirdLeftModel", "tookUp", "[J", true)
  | 34 => ("ThirdLeftModel", "tookLow", "[J", true)
  | 35 => ("ThirdLeftModel", "potUp", "J", false)
  | 36 => ("ThirdLeftModel", "potLow", "J", false)
  | 37 => ("ThirdLeftModel", "keptEaten", "[I", true)
  | 38 => ("ThirdLeftModel", "keptStyle", "[I", true)
  | 39 => ("ThirdLeftModel", "keptSeats", "[I", true)
  | 40 => ("ThirdLeftModel", "keptUp", "[J", true)
  | 41 => ("ThirdLeftModel", "keptLow", "[J", true)
  | 42 => ("ThirdLeftModel", "keptPotUp", "[J", true)
  | 43 => ("ThirdLeftModel", "keptPotLow", "[J", true)
  | 44 => ("ThirdLeftModel", "fedBy", "[I", true)
  | 45 => ("ThirdLeftModel", "onceUp", "[J", true)
  | 46 => ("ThirdLeftModel", "onceLow", "[J", true)
  | 47 => ("ThirdLeftModel", "ways", "I", false)
  | 48 => ("ThirdLeftModel", "allWays", "I", false)
  | 49 => ("ThirdLeftModel", "lastOnes", "I", false)
  | 50 => ("ThirdLeftModel", "firstOnes", "I", false)
  | 51 => ("ThirdLeftModel", "aheads", "[I", true)
  | _ => ("ThirdLeftModel", "often", "[I", true)
def tyX11 : Nat → FieldType := fun k => match k with
  | 0 => .int
  | 1 => .array .int
  | 2 => .int
  | 3 => .long
  | 4 => .long
  | 5 => .array .int
  | 6 => .array .int
  | 7 => .array .int
  | 8 => .array .int
  | 9 => .int
  | 10 => .int
  | 11 => .int
  | 12 => .int
  | 13 => .int
  | 14 => .int
  | 15 => .array .int
  | 16 => .array .int
  | 17 => .int
  | 18 => .int
  | 19 => .int
  | 20 => .array .int
  | 21 => .array .int
  | 22 => .array .int
  | 23 => .long
  | 24 => .long
  | 25 => .array .int
  | 26 => .array .long
  | 27 => .array .long
  | 28 => .long
  | 29 => .long
  | 30 => .int
  | 31 => .array .int
  | 32 => .int
  | 33 => .array .long
  | 34 => .array .long
  | 35 => .long
  | 36 => .long
  | 37 => .array .int
  | 38 => .array .int
  | 39 => .array .int
  | 40 => .array .long
  | 41 => .array .long
  | 42 => .array .long
  | 43 => .array .long
  | 44 => .array .int
  | 45 => .array .long
  | 46 => .array .long
  | 47 => .int
  | 48 => .int
  | 49 => .int
  | 50 => .int
  | 51 => .array .int
  | _ => .array .int
abbrev wsX110 : List Cond := u_ws RX11 TX11 53
theorem nmX11 : ∀ a, a < 53 → ∀ b, b < 53 → a ≠ b → (TX11 a).2.1 ≠ (TX11 b).2.1 := by decide +kernel
theorem tyX11_ok : ∀ k, k < 53 → parseFieldDescriptor (TX11 k).2.2.1 = some (tyX11 k) := by decide +kernel
abbrev cX11_init : ByteArray := prog_13_method_1_code
def yX11_init : MethodName := ⟨RX11, "<init>", "()V"⟩
abbrev cX11_in : ByteArray := prog_13_method_3_code
def yX11_in : MethodName := ⟨RX11, "in", "(JJJ)Z"⟩
abbrev cX11_found : ByteArray := prog_13_method_4_code
def yX11_found : MethodName := ⟨RX11, "found", "(I)I"⟩
abbrev cX11_isRow : ByteArray := prog_13_method_5_code
def yX11_isRow : MethodName := ⟨RX11, "isRow", "(I)Z"⟩
abbrev cX11_makeRow : ByteArray := prog_13_method_6_code
def yX11_makeRow : MethodName := ⟨RX11, "makeRow", "(II)V"⟩
abbrev cX11_row : ByteArray := prog_13_method_7_code
def yX11_row : MethodName := ⟨RX11, "row", "(II)I"⟩
abbrev cX11_lacks : ByteArray := prog_13_method_8_code
def yX11_lacks : MethodName := ⟨RX11, "lacks", "(II)I"⟩
abbrev cX11_lay : ByteArray := prog_13_method_9_code
def yX11_lay : MethodName := ⟨RX11, "lay", "(III)I"⟩
abbrev cX11_at : ByteArray := prog_13_method_10_code
def yX11_at : MethodName := ⟨RX11, "at", "(II)I"⟩
abbrev cX11_tear : ByteArray := prog_13_method_11_code
def yX11_tear : MethodName := ⟨RX11, "tear", "(I)I"⟩
abbrev cX11_isSpan : ByteArray := prog_13_method_12_code
def yX11_isSpan : MethodName := ⟨RX11, "isSpan", "(III)Z"⟩
abbrev cX11_copy : ByteArray := prog_13_method_13_code
def yX11_copy : MethodName := ⟨RX11, "copy", "(IIIII)I"⟩
abbrev cX11_mean : ByteArray := prog_13_method_14_code
def yX11_mean : MethodName := ⟨RX11, "mean", "(I)I"⟩
abbrev cX11_isText : ByteArray := prog_13_method_15_code
def yX11_isText : MethodName := ⟨RX11, "isText", "(I)Z"⟩
abbrev cX11_text : ByteArray := prog_13_method_16_code
def yX11_text : MethodName := ⟨RX11, "text", "(II)I"⟩
abbrev cX11_put : ByteArray := prog_13_method_17_code
def yX11_put : MethodName := ⟨RX11, "put", "(III)I"⟩
abbrev cX11_here : ByteArray := prog_13_method_18_code
def yX11_here : MethodName := ⟨RX11, "here", "()I"⟩
abbrev cX11_skip : ByteArray := prog_13_method_19_code
def yX11_skip : MethodName := ⟨RX11, "skip", "()V"⟩
abbrev cX11_figures : ByteArray := prog_13_method_20_code
def yX11_figures : MethodName := ⟨RX11, "figures", "(I)I"⟩
abbrev cX11_kindOf : ByteArray := prog_13_method_21_code
def yX11_kindOf : MethodName := ⟨RX11, "kindOf", "(I)I"⟩
abbrev cX11_isItem : ByteArray := prog_13_method_22_code
def yX11_isItem : MethodName := ⟨RX11, "isItem", "(Z)Z"⟩
abbrev cX11_findFault : ByteArray := prog_13_method_23_code
def yX11_findFault : MethodName := ⟨RX11, "findFault", "(I)I"⟩
abbrev cX11_fault : ByteArray := prog_13_method_24_code
def yX11_fault : MethodName := ⟨RX11, "fault", "(I)I"⟩
abbrev cX11_table : ByteArray := prog_13_method_25_code
def yX11_table : MethodName := ⟨RX11, "table", "(I)I"⟩
abbrev cX11_isEater : ByteArray := prog_13_method_26_code
def yX11_isEater : MethodName := ⟨RX11, "isEater", "(I)Z"⟩
abbrev cX11_isHow : ByteArray := prog_13_method_27_code
def yX11_isHow : MethodName := ⟨RX11, "isHow", "(I)Z"⟩
abbrev cX11_placeOf : ByteArray := prog_13_method_28_code
def yX11_placeOf : MethodName := ⟨RX11, "placeOf", "(I)I"⟩
abbrev cX11_eaterBy : ByteArray := prog_13_method_29_code
def yX11_eaterBy : MethodName := ⟨RX11, "eaterBy", "(II)I"⟩
abbrev cX11_eater : ByteArray := prog_13_method_30_code
def yX11_eater : MethodName := ⟨RX11, "eater", "(II)I"⟩
abbrev cX11_isOf : ByteArray := prog_13_method_31_code
def yX11_isOf : MethodName := ⟨RX11, "isOf", "(II)Z"⟩
abbrev cX11_mark : ByteArray := prog_13_method_32_code
def yX11_mark : MethodName := ⟨RX11, "mark", "(II)I"⟩
abbrev cX11_law : ByteArray := prog_13_method_33_code
def yX11_law : MethodName := ⟨RX11, "law", "(I)I"⟩
abbrev cX11_pot : ByteArray := prog_13_method_34_code
def yX11_pot : MethodName := ⟨RX11, "pot", "(I)I"⟩
abbrev cX11_need : ByteArray := prog_13_method_35_code
def yX11_need : MethodName := ⟨RX11, "need", "(II)I"⟩
abbrev cX11_order : ByteArray := prog_13_method_36_code
def yX11_order : MethodName := ⟨RX11, "order", "(I)I"⟩
abbrev cX11_divisor : ByteArray := prog_13_method_37_code
def yX11_divisor : MethodName := ⟨RX11, "divisor", "(JJ)J"⟩
abbrev cX11_lowest : ByteArray := prog_13_method_38_code
def yX11_lowest : MethodName := ⟨RX11, "lowest", "(JJ)V"⟩
abbrev cX11_sum : ByteArray := prog_13_method_39_code
def yX11_sum : MethodName := ⟨RX11, "sum", "(JJJJ)V"⟩
abbrev cX11_tells : ByteArray := prog_13_method_40_code
def yX11_tells : MethodName := ⟨RX11, "tells", "(IJJ)I"⟩
abbrev cX11_parts : ByteArray := prog_13_method_41_code
def yX11_parts : MethodName := ⟨RX11, "parts", "(II)I"⟩
abbrev cX11_lesser : ByteArray := prog_13_method_42_code
def yX11_lesser : MethodName := ⟨RX11, "lesser", "(JJJ)V"⟩
abbrev cX11_byParts : ByteArray := prog_13_method_43_code
def yX11_byParts : MethodName := ⟨RX11, "byParts", "(IIJJI)V"⟩
abbrev cX11_byPieces : ByteArray := prog_13_method_44_code
def yX11_byPieces : MethodName := ⟨RX11, "byPieces", "(IIJI)V"⟩
abbrev cX11_takes : ByteArray := prog_13_method_45_code
def yX11_takes : MethodName := ⟨RX11, "takes", "(IIIJJI)V"⟩
abbrev cX11_seatsAsTold : ByteArray := prog_13_method_46_code
def yX11_seatsAsTold : MethodName := ⟨RX11, "seatsAsTold", "()V"⟩
abbrev cX11_seatsTurned : ByteArray := prog_13_method_47_code
def yX11_seatsTurned : MethodName := ⟨RX11, "seatsTurned", "(I)V"⟩
abbrev cX11_seatsWith : ByteArray := prog_13_method_48_code
def yX11_seatsWith : MethodName := ⟨RX11, "seatsWith", "(II)V"⟩
abbrev cX11_firstSeats : ByteArray := prog_13_method_49_code
def yX11_firstSeats : MethodName := ⟨RX11, "firstSeats", "()V"⟩
abbrev cX11_nextSeats : ByteArray := prog_13_method_50_code
def yX11_nextSeats : MethodName := ⟨RX11, "nextSeats", "()Z"⟩
abbrev cX11_swapSeats : ByteArray := prog_13_method_51_code
def yX11_swapSeats : MethodName := ⟨RX11, "swapSeats", "(II)V"⟩
abbrev cX11_goes : ByteArray := prog_13_method_52_code
def yX11_goes : MethodName := ⟨RX11, "goes", "(IIII)V"⟩
abbrev cX11_fedSet : ByteArray := prog_13_method_53_code
def yX11_fedSet : MethodName := ⟨RX11, "fedSet", "()I"⟩
abbrev cX11_areAllFed : ByteArray := prog_13_method_54_code
def yX11_areAllFed : MethodName := ⟨RX11, "areAllFed", "()Z"⟩
abbrev cX11_ones : ByteArray := prog_13_method_55_code
def yX11_ones : MethodName := ⟨RX11, "ones", "(I)I"⟩
abbrev cX11_tellsSet : ByteArray := prog_13_method_56_code
def yX11_tellsSet : MethodName := ⟨RX11, "tellsSet", "(I)I"⟩
abbrev cX11_begins : ByteArray := prog_13_method_57_code
def yX11_begins : MethodName := ⟨RX11, "begins", "(I)V"⟩
abbrev cX11_hasEaten : ByteArray := prog_13_method_58_code
def yX11_hasEaten : MethodName := ⟨RX11, "hasEaten", "(I)Z"⟩
abbrev cX11_begin : ByteArray := prog_13_method_59_code
def yX11_begin : MethodName := ⟨RX11, "begin", "(I)I"⟩
abbrev cX11_eat : ByteArray := prog_13_method_60_code
def yX11_eat : MethodName := ⟨RX11, "eat", "()I"⟩
abbrev cX11_took : ByteArray := prog_13_method_61_code
def yX11_took : MethodName := ⟨RX11, "took", "(I)I"⟩
abbrev cX11_left : ByteArray := prog_13_method_62_code
def yX11_left : MethodName := ⟨RX11, "left", "()I"⟩
abbrev cX11_fed : ByteArray := prog_13_method_63_code
def yX11_fed : MethodName := ⟨RX11, "fed", "()I"⟩
abbrev cX11_keep : ByteArray := prog_13_method_64_code
def yX11_keep : MethodName := ⟨RX11, "keep", "(I)I"⟩
abbrev cX11_on : ByteArray := prog_13_method_65_code
def yX11_on : MethodName := ⟨RX11, "on", "(I)I"⟩
abbrev cX11_evening : ByteArray := prog_13_method_66_code
def yX11_evening : MethodName := ⟨RX11, "evening", "(I)I"⟩
abbrev cX11_place : ByteArray := prog_13_method_67_code
def yX11_place : MethodName := ⟨RX11, "place", "(III)I"⟩
abbrev cX11_favours : ByteArray := prog_13_method_68_code
def yX11_favours : MethodName := ⟨RX11, "favours", "(II)I"⟩
abbrev cX11_least : ByteArray := prog_13_method_69_code
def yX11_least : MethodName := ⟨RX11, "least", "(I)I"⟩
abbrev cX11_isEnough : ByteArray := prog_13_method_70_code
def yX11_isEnough : MethodName := ⟨RX11, "isEnough", "(II)Z"⟩
abbrev cX11_best : ByteArray := prog_13_method_71_code
def yX11_best : MethodName := ⟨RX11, "best", "(II)I"⟩
abbrev cX11_most : ByteArray := prog_13_method_72_code
def yX11_most : MethodName := ⟨RX11, "most", "(I)I"⟩
abbrev cX11_kind : ByteArray := prog_13_method_73_code
def yX11_kind : MethodName := ⟨RX11, "kind", "(I)I"⟩
abbrev cX11_week : ByteArray := prog_13_method_74_code
def yX11_week : MethodName := ⟨RX11, "week", "(III)I"⟩
abbrev cX11_fewestFed : ByteArray := prog_13_method_75_code
def yX11_fewestFed : MethodName := ⟨RX11, "fewestFed", "(II)I"⟩
abbrev cX11_areTurns : ByteArray := prog_13_method_76_code
def yX11_areTurns : MethodName := ⟨RX11, "areTurns", "(II)Z"⟩
abbrev cX11_even : ByteArray := prog_13_method_77_code
def yX11_even : MethodName := ⟨RX11, "even", "(II)I"⟩
abbrev cX11_keepsGot : ByteArray := prog_13_method_78_code
def yX11_keepsGot : MethodName := ⟨RX11, "keepsGot", "()V"⟩
abbrev cX11_two : ByteArray := prog_13_method_79_code
def yX11_two : MethodName := ⟨RX11, "two", "(I)I"⟩
abbrev cX11_cheatSet : ByteArray := prog_13_method_80_code
def yX11_cheatSet : MethodName := ⟨RX11, "cheatSet", "()I"⟩
abbrev cX11_scales : ByteArray := prog_13_method_81_code
def yX11_scales : MethodName := ⟨RX11, "scales", "()I"⟩
abbrev cX11_cheats : ByteArray := prog_13_method_82_code
def yX11_cheats : MethodName := ⟨RX11, "cheats", "()I"⟩
abbrev cX11_findWays : ByteArray := prog_13_method_83_code
def yX11_findWays : MethodName := ⟨RX11, "findWays", "(I)V"⟩
abbrev cX11_takesWay : ByteArray := prog_13_method_84_code
def yX11_takesWay : MethodName := ⟨RX11, "takesWay", "()V"⟩
abbrev cX11_bones : ByteArray := prog_13_method_85_code
def yX11_bones : MethodName := ⟨RX11, "bones", "(I)I"⟩
abbrev cX11_last : ByteArray := prog_13_method_86_code
def yX11_last : MethodName := ⟨RX11, "last", "(I)I"⟩
abbrev cX11_ahead : ByteArray := prog_13_method_87_code
def yX11_ahead : MethodName := ⟨RX11, "ahead", "(III)I"⟩
abbrev cX11_famineBy : ByteArray := prog_13_method_88_code
def yX11_famineBy : MethodName := ⟨RX11, "famineBy", "(III)I"⟩
abbrev cX11_famine : ByteArray := prog_13_method_89_code
def yX11_famine : MethodName := ⟨RX11, "famine", "(II)I"⟩
abbrev cX11_kindest : ByteArray := prog_13_method_90_code
def yX11_kindest : MethodName := ⟨RX11, "kindest", "(II)I"⟩
abbrev cX11_kitchens : ByteArray := prog_13_method_91_code
def yX11_kitchens : MethodName := ⟨RX11, "kitchens", "(IIII)I"⟩
abbrev cX11_asked : ByteArray := prog_13_method_92_code
def yX11_asked : MethodName := ⟨RX11, "asked", "()I"⟩
abbrev cX11_upper : ByteArray := prog_13_method_93_code
def yX11_upper : MethodName := ⟨RX11, "upper", "()J"⟩
abbrev cX11_lower : ByteArray := prog_13_method_94_code
def yX11_lower : MethodName := ⟨RX11, "lower", "()J"⟩
abbrev cX11_countBy : ByteArray := prog_13_method_95_code
def yX11_countBy : MethodName := ⟨RX11, "countBy", "(I)I"⟩
abbrev cX11_count : ByteArray := prog_13_method_96_code
def yX11_count : MethodName := ⟨RX11, "count", "(I)I"⟩
abbrev cX11_finding : ByteArray := prog_13_method_97_code
def yX11_finding : MethodName := ⟨RX11, "finding", "()I"⟩
abbrev cX11_findings : ByteArray := prog_13_method_98_code
def yX11_findings : MethodName := ⟨RX11, "findings", "(I)I"⟩
abbrev cX11_digest : ByteArray := prog_13_method_99_code
def yX11_digest : MethodName := ⟨RX11, "digest", "()J"⟩
def RJ6 : String := "java/lang/Integer"
def TJ6 : u_T := fun k => match k with
  | _ => ("", "", "", false)
def tyJ6 : Nat → FieldType := fun k => match k with
  | _ => .int
abbrev wsJ60 : List Cond := u_ws RJ6 TJ6 0
theorem nmJ6 : ∀ a, a < 0 → ∀ b, b < 0 → a ≠ b → (TJ6 a).2.1 ≠ (TJ6 b).2.1 := by decide +kernel
theorem tyJ6_ok : ∀ k, k < 0 → parseFieldDescriptor (TJ6 k).2.2.1 = some (tyJ6 k) := by decide +kernel
abbrev cJ6_bitCount_0f7a4 : ByteArray := prog_14_method_49_code
def yJ6_bitCount_0f7a4 : MethodName := ⟨RJ6, "bitCount", "(I)I"⟩
def RJ9 : String := "java/lang/Math"
def TJ9 : u_T := fun k => match k with
  | _ => ("", "", "", false)
def tyJ9 : Nat → FieldType := fun k => match k with
  | _ => .int
abbrev wsJ90 : List Cond := u_ws RJ9 TJ9 0
theorem nmJ9 : ∀ a, a < 0 → ∀ b, b < 0 → a ≠ b → (TJ9 a).2.1 ≠ (TJ9 b).2.1 := by decide +kernel
theorem tyJ9_ok : ∀ k, k < 0 → parseFieldDescriptor (TJ9 k).2.2.1 = some (tyJ9 k) := by decide +kernel
abbrev cJ9_abs_067f4 : ByteArray := prog_15_method_61_code
def yJ9_abs_067f4 : MethodName := ⟨RJ9, "abs", "(J)J"⟩
abbrev cJ9_min_7cf53 : ByteArray := prog_15_method_69_code
def yJ9_min_7cf53 : MethodName := ⟨RJ9, "min", "(II)I"⟩
abbrev cJ9_min_f86c9 : ByteArray := prog_15_method_70_code
def yJ9_min_f86c9 : MethodName := ⟨RJ9, "min", "(JJ)J"⟩
def RJ10 : String := "java/lang/System"
def TJ10 : u_T := fun k => match k with
  | _ => ("", "", "", false)
def tyJ10 : Nat → FieldType := fun k => match k with
  | _ => .int
abbrev wsJ100 : List Cond := u_ws RJ10 TJ10 0
theorem nmJ10 : ∀ a, a < 0 → ∀ b, b < 0 → a ≠ b → (TJ10 a).2.1 ≠ (TJ10 b).2.1 := by decide +kernel
theorem tyJ10_ok : ∀ k, k < 0 → parseFieldDescriptor (TJ10 k).2.2.1 = some (tyJ10 k) := by decide +kernel
def RL : String := "ThirdLeftLaw"
abbrev cL_law : ByteArray := code
def yL_law : MethodName := ⟨RL, "law", "([I)Z"⟩

abbrev Mth : Type := String × MethodName × ByteArray × Nat × Option FieldType
abbrev m_X0_init : Mth := (RX0, yX0_init, cX0_init, 1, none)
abbrev m_X0_sitDown : Mth := (RX0, yX0_sitDown, cX0_sitDown, 3, none)
abbrev m_X0_has : Mth := (RX0, yX0_has, cX0_has, 2, some .boolean)
abbrev m_X0_isOf : Mth := (RX0, yX0_isOf, cX0_isOf, 4, some .boolean)
abbrev m_X0_setOf : Mth := (RX0, yX0_setOf, cX0_setOf, 4, some .int)
abbrev m_X0_countOf : Mth := (RX0, yX0_countOf, cX0_countOf, 2, some .int)
abbrev m_X0_allNeeds : Mth := (RX0, yX0_allNeeds, cX0_allNeeds, 3, some .int)
abbrev m_X0_placeOf : Mth := (RX0, yX0_placeOf, cX0_placeOf, 4, some .int)
abbrev m_X0_about : Mth := (RX0, yX0_about, cX0_about, 3, some .int)
abbrev m_X0_isOrder : Mth := (RX0, yX0_isOrder, cX0_isOrder, 5, some .boolean)
abbrev m_X1_init : Mth := (RX1, yX1_init, cX1_init, 1, none)
abbrev m_X1_mostEven : Mth := (RX1, yX1_mostEven, cX1_mostEven, 9, some .int)
abbrev m_X1_chooseNext : Mth := (RX1, yX1_chooseNext, cX1_chooseNext, 6, some .boolean)
abbrev m_X1_leastOftenFed : Mth := (RX1, yX1_leastOftenFed, cX1_leastOftenFed, 7, some .int)
abbrev m_X1_figures : Mth := (RX1, yX1_figures, cX1_figures, 4, some .int)
abbrev m_X1_byLots : Mth := (RX1, yX1_byLots, cX1_byLots, 8, none)
abbrev m_X1_draw : Mth := (RX1, yX1_draw, cX1_draw, 3, none)
abbrev m_X2_init : Mth := (RX2, yX2_init, cX2_init, 1, none)
abbrev m_X2_start : Mth := (RX2, yX2_start, cX2_start, 3, none)
abbrev m_X2_nextEats : Mth := (RX2, yX2_nextEats, cX2_nextEats, 7, some .int)
abbrev m_X2_hasEaten : Mth := (RX2, yX2_hasEaten, cX2_hasEaten, 2, some .boolean)
abbrev m_X2_tookJust : Mth := (RX2, yX2_tookJust, cX2_tookJust, 3, some .boolean)
abbrev m_X2_fedSoFar : Mth := (RX2, yX2_fedSoFar, cX2_fedSoFar, 4, some .int)
abbrev m_X2_becomeLike : Mth := (RX2, yX2_becomeLike, cX2_becomeLike, 2, none)
abbrev m_X3_init : Mth := (RX3, yX3_init, cX3_init, 3, none)
abbrev m_X3_size : Mth := (RX3, yX3_size, cX3_size, 1, some .int)
abbrev m_X3_vanish : Mth := (RX3, yX3_vanish, cX3_vanish, 1, none)
abbrev m_X3_missing : Mth := (RX3, yX3_missing, cX3_missing, 1, some .boolean)
abbrev m_X3_has : Mth := (RX3, yX3_has, cX3_has, 2, some .boolean)
abbrev m_X3_holds : Mth := (RX3, yX3_holds, cX3_holds, 3, some .boolean)
abbrev m_X3_get : Mth := (RX3, yX3_get, cX3_get, 2, some .int)
abbrev m_X3_set : Mth := (RX3, yX3_set, cX3_set, 3, none)
abbrev m_X3_reset : Mth := (RX3, yX3_reset, cX3_reset, 4, none)
abbrev m_X3_moveTo : Mth := (RX3, yX3_moveTo, cX3_moveTo, 5, none)
abbrev m_X3_swap : Mth := (RX3, yX3_swap, cX3_swap, 4, none)
abbrev m_X3_sum : Mth := (RX3, yX3_sum, cX3_sum, 4, some .long)
abbrev m_X3_firstGreatest : Mth := (RX3, yX3_firstGreatest, cX3_firstGreatest, 3, some .int)
abbrev m_X3_digestInto : Mth := (RX3, yX3_digestInto, cX3_digestInto, 6, some .long)
abbrev m_X4_init : Mth := (RX4, yX4_init, cX4_init, 2, none)
abbrev m_X4_get : Mth := (RX4, yX4_get, cX4_get, 2, some .long)
abbrev m_X4_set : Mth := (RX4, yX4_set, cX4_set, 4, none)
abbrev m_X4_becomeLike : Mth := (RX4, yX4_becomeLike, cX4_becomeLike, 3, none)
abbrev m_X5_init : Mth := (RX5, yX5_init, cX5_init, 1, none)
abbrev m_X5_lowest : Mth := (RX5, yX5_lowest, cX5_lowest, 11, some .int)
abbrev m_X5_feeds : Mth := (RX5, yX5_feeds, cX5_feeds, 8, some .boolean)
abbrev m_X5_leastOfOrders : Mth := (RX5, yX5_leastOfOrders, cX5_leastOfOrders, 7, some .int)
abbrev m_X6_init : Mth := (RX6, yX6_init, cX6_init, 1, none)
abbrev m_X6_read : Mth := (RX6, yX6_read, cX6_read, 4, some .int)
abbrev m_X6_readEaters : Mth := (RX6, yX6_readEaters, cX6_readEaters, 7, some .int)
abbrev m_X6_kindBy : Mth := (RX6, yX6_kindBy, cX6_kindBy, 2, some .int)
abbrev m_X6_behindBlanks : Mth := (RX6, yX6_behindBlanks, cX6_behindBlanks, 3, some .int)
abbrev m_X6_behindFigures : Mth := (RX6, yX6_behindFigures, cX6_behindFigures, 4, some .int)
abbrev m_X6_number : Mth := (RX6, yX6_number, cX6_number, 5, some .int)
abbrev m_X7_init : Mth := (RX7, yX7_init, cX7_init, 1, none)
abbrev m_X7_invite : Mth := (RX7, yX7_invite, cX7_invite, 2, none)
abbrev m_X7_makeEaters : Mth := (RX7, yX7_makeEaters, cX7_makeEaters, 3, none)
abbrev m_X7_rules : Mth := (RX7, yX7_rules, cX7_rules, 4, none)
abbrev m_X7_seatTurned : Mth := (RX7, yX7_seatTurned, cX7_seatTurned, 4, none)
abbrev m_X7_seatBackwards : Mth := (RX7, yX7_seatBackwards, cX7_seatBackwards, 3, none)
abbrev m_X7_seatMoved : Mth := (RX7, yX7_seatMoved, cX7_seatMoved, 7, none)
abbrev m_X7_seatByNumbers : Mth := (RX7, yX7_seatByNumbers, cX7_seatByNumbers, 2, none)
abbrev m_X7_seatNext : Mth := (RX7, yX7_seatNext, cX7_seatNext, 5, some .int)
abbrev m_X7_serve : Mth := (RX7, yX7_serve, cX7_serve, 10, none)
abbrev m_X7_fedAll : Mth := (RX7, yX7_fedAll, cX7_fedAll, 1, some .int)
abbrev m_X7_isAll : Mth := (RX7, yX7_isAll, cX7_isAll, 2, some .boolean)
abbrev m_X7_rest : Mth := (RX7, yX7_rest, cX7_rest, 1, some .long)
abbrev m_X7_takenBy : Mth := (RX7, yX7_takenBy, cX7_takenBy, 5, some .long)
abbrev m_X8_unit : Mth := (RX8, yX8_unit, cX8_unit, 1, some .long)
abbrev m_X8_divisor : Mth := (RX8, yX8_divisor, cX8_divisor, 2, some .int)
abbrev m_X8_may : Mth := (RX8, yX8_may, cX8_may, 3, some .long)
abbrev m_X8_take : Mth := (RX8, yX8_take, cX8_take, 8, some .long)
abbrev m_X9_init : Mth := (RX9, yX9_init, cX9_init, 1, none)
abbrev m_X9_mostFed : Mth := (RX9, yX9_mostFed, cX9_mostFed, 7, some .int)
abbrev m_X9_follow : Mth := (RX9, yX9_follow, cX9_follow, 7, none)
abbrev m_X9_note : Mth := (RX9, yX9_note, cX9_note, 7, none)
abbrev m_X10_init : Mth := (RX10, yX10_init, cX10_init, 2, none)
abbrev m_X10_row : Mth := (RX10, yX10_row, cX10_row, 3, some .int)
abbrev m_X10_lay : Mth := (RX10, yX10_lay, cX10_lay, 6, some .int)
abbrev m_X10_at : Mth := (RX10, yX10_at, cX10_at, 5, some .int)
abbrev m_X10_tear : Mth := (RX10, yX10_tear, cX10_tear, 3, some .int)
abbrev m_X10_copy : Mth := (RX10, yX10_copy, cX10_copy, 8, some .int)
abbrev m_X10_mean : Mth := (RX10, yX10_mean, cX10_mean, 3, some .int)
abbrev m_X10_text : Mth := (RX10, yX10_text, cX10_text, 3, some .int)
abbrev m_X10_put : Mth := (RX10, yX10_put, cX10_put, 7, some .int)
abbrev m_X10_fault : Mth := (RX10, yX10_fault, cX10_fault, 4, some .int)
abbrev m_X10_table : Mth := (RX10, yX10_table, cX10_table, 7, some .int)
abbrev m_X10_eater : Mth := (RX10, yX10_eater, cX10_eater, 3, some .int)
abbrev m_X10_mark : Mth := (RX10, yX10_mark, cX10_mark, 3, some .int)
abbrev m_X10_law : Mth := (RX10, yX10_law, cX10_law, 3, some .int)
abbrev m_X10_pot : Mth := (RX10, yX10_pot, cX10_pot, 3, some .int)
abbrev m_X10_need : Mth := (RX10, yX10_need, cX10_need, 4, some .int)
abbrev m_X10_order : Mth := (RX10, yX10_order, cX10_order, 3, some .int)
abbrev m_X10_begin : Mth := (RX10, yX10_begin, cX10_begin, 2, some .int)
abbrev m_X10_eat : Mth := (RX10, yX10_eat, cX10_eat, 2, some .int)
abbrev m_X10_took : Mth := (RX10, yX10_took, cX10_took, 2, some .int)
abbrev m_X10_left : Mth := (RX10, yX10_left, cX10_left, 1, some .int)
abbrev m_X10_fed : Mth := (RX10, yX10_fed, cX10_fed, 1, some .int)
abbrev m_X10_keep : Mth := (RX10, yX10_keep, cX10_keep, 3, some .int)
abbrev m_X10_on : Mth := (RX10, yX10_on, cX10_on, 3, some .int)
abbrev m_X10_evening : Mth := (RX10, yX10_evening, cX10_evening, 2, some .int)
abbrev m_X10_place : Mth := (RX10, yX10_place, cX10_place, 4, some .int)
abbrev m_X10_favours : Mth := (RX10, yX10_favours, cX10_favours, 9, some .int)
abbrev m_X10_least : Mth := (RX10, yX10_least, cX10_least, 2, some .int)
abbrev m_X10_best : Mth := (RX10, yX10_best, cX10_best, 5, some .int)
abbrev m_X10_most : Mth := (RX10, yX10_most, cX10_most, 3, some .int)
abbrev m_X10_kind : Mth := (RX10, yX10_kind, cX10_kind, 8, some .int)
abbrev m_X10_week : Mth := (RX10, yX10_week, cX10_week, 7, some .int)
abbrev m_X10_even : Mth := (RX10, yX10_even, cX10_even, 4, some .int)
abbrev m_X10_two : Mth := (RX10, yX10_two, cX10_two, 6, some .int)
abbrev m_X10_scales : Mth := (RX10, yX10_scales, cX10_scales, 5, some .int)
abbrev m_X10_cheats : Mth := (RX10, yX10_cheats, cX10_cheats, 4, some .int)
abbrev m_X10_bones : Mth := (RX10, yX10_bones, cX10_bones, 2, some .int)
abbrev m_X10_last : Mth := (RX10, yX10_last, cX10_last, 2, some .int)
abbrev m_X10_ahead : Mth := (RX10, yX10_ahead, cX10_ahead, 4, some .int)
abbrev m_X10_famine : Mth := (RX10, yX10_famine, cX10_famine, 3, some .int)
abbrev m_X10_kindest : Mth := (RX10, yX10_kindest, cX10_kindest, 7, some .int)
abbrev m_X10_kitchens : Mth := (RX10, yX10_kitchens, cX10_kitchens, 6, some .int)
abbrev m_X10_asked : Mth := (RX10, yX10_asked, cX10_asked, 1, some .int)
abbrev m_X10_upper : Mth := (RX10, yX10_upper, cX10_upper, 1, some .long)
abbrev m_X10_lower : Mth := (RX10, yX10_lower, cX10_lower, 1, some .long)
abbrev m_X10_count : Mth := (RX10, yX10_count, cX10_count, 2, some .int)
abbrev m_X10_finding : Mth := (RX10, yX10_finding, cX10_finding, 1, some .int)
abbrev m_X10_findings : Mth := (RX10, yX10_findings, cX10_findings, 2, some .int)
abbrev m_X10_digest : Mth := (RX10, yX10_digest, cX10_digest, 7, some .long)
abbrev m_X10_isHow : Mth := (RX10, yX10_isHow, cX10_isHow, 1, some .boolean)
abbrev m_X10_noneIfNought : Mth := (RX10, yX10_noneIfNought, cX10_noneIfNought, 1, some .int)
abbrev m_X10_pick : Mth := (RX10, yX10_pick, cX10_pick, 2, some (.object "ThirdLeft$Ints"))
abbrev m_X10_pickKept : Mth := (RX10, yX10_pickKept, cX10_pickKept, 2, some (.object "ThirdLeft$Evening"))
abbrev m_X10_makeAnew : Mth := (RX10, yX10_makeAnew, cX10_makeAnew, 4, some .int)
abbrev m_X10_missingPlace : Mth := (RX10, yX10_missingPlace, cX10_missingPlace, 2, some .int)
abbrev m_X10_refuse : Mth := (RX10, yX10_refuse, cX10_refuse, 2, some .int)
abbrev m_X10_tellBits : Mth := (RX10, yX10_tellBits, cX10_tellBits, 2, some .int)
abbrev m_X10_tellShare : Mth := (RX10, yX10_tellShare, cX10_tellShare, 4, none)
abbrev m_X10_tellFraction : Mth := (RX10, yX10_tellFraction, cX10_tellFraction, 7, none)
abbrev m_X10_common : Mth := (RX10, yX10_common, cX10_common, 11, some .long)
abbrev m_X10_serveMoved : Mth := (RX10, yX10_serveMoved, cX10_serveMoved, 4, none)
abbrev m_X10_restWithHonest : Mth := (RX10, yX10_restWithHonest, cX10_restWithHonest, 2, some .long)
abbrev m_X10_countKept : Mth := (RX10, yX10_countKept, cX10_countKept, 6, some .int)
abbrev m_X10_countThere : Mth := (RX10, yX10_countThere, cX10_countThere, 6, some .int)
abbrev m_X10_digestOfEvening : Mth := (RX10, yX10_digestOfEvening, cX10_digestOfEvening, 7, some .long)
abbrev m_X10_digestOfShare : Mth := (RX10, yX10_digestOfShare, cX10_digestOfShare, 9, some .long)
abbrev m_X11_init : Mth := (RX11, yX11_init, cX11_init, 2, none)
abbrev m_X11_in : Mth := (RX11, yX11_in, cX11_in, 6, some .boolean)
abbrev m_X11_found : Mth := (RX11, yX11_found, cX11_found, 2, some .int)
abbrev m_X11_isRow : Mth := (RX11, yX11_isRow, cX11_isRow, 1, some .boolean)
abbrev m_X11_makeRow : Mth := (RX11, yX11_makeRow, cX11_makeRow, 4, none)
abbrev m_X11_row : Mth := (RX11, yX11_row, cX11_row, 3, some .int)
abbrev m_X11_lacks : Mth := (RX11, yX11_lacks, cX11_lacks, 3, some .int)
abbrev m_X11_lay : Mth := (RX11, yX11_lay, cX11_lay, 5, some .int)
abbrev m_X11_at : Mth := (RX11, yX11_at, cX11_at, 4, some .int)
abbrev m_X11_tear : Mth := (RX11, yX11_tear, cX11_tear, 2, some .int)
abbrev m_X11_isSpan : Mth := (RX11, yX11_isSpan, cX11_isSpan, 4, some .boolean)
abbrev m_X11_copy : Mth := (RX11, yX11_copy, cX11_copy, 9, some .int)
abbrev m_X11_mean : Mth := (RX11, yX11_mean, cX11_mean, 5, some .int)
abbrev m_X11_isText : Mth := (RX11, yX11_isText, cX11_isText, 1, some .boolean)
abbrev m_X11_text : Mth := (RX11, yX11_text, cX11_text, 4, some .int)
abbrev m_X11_put : Mth := (RX11, yX11_put, cX11_put, 5, some .int)
abbrev m_X11_here : Mth := (RX11, yX11_here, cX11_here, 1, some .int)
abbrev m_X11_skip : Mth := (RX11, yX11_skip, cX11_skip, 1, none)
abbrev m_X11_figures : Mth := (RX11, yX11_figures, cX11_figures, 3, some .int)
abbrev m_X11_kindOf : Mth := (RX11, yX11_kindOf, cX11_kindOf, 1, some .int)
abbrev m_X11_isItem : Mth := (RX11, yX11_isItem, cX11_isItem, 4, some .boolean)
abbrev m_X11_findFault : Mth := (RX11, yX11_findFault, cX11_findFault, 4, some .int)
abbrev m_X11_fault : Mth := (RX11, yX11_fault, cX11_fault, 2, some .int)
abbrev m_X11_table : Mth := (RX11, yX11_table, cX11_table, 3, some .int)
abbrev m_X11_isEater : Mth := (RX11, yX11_isEater, cX11_isEater, 2, some .boolean)
abbrev m_X11_isHow : Mth := (RX11, yX11_isHow, cX11_isHow, 1, some .boolean)
abbrev m_X11_placeOf : Mth := (RX11, yX11_placeOf, cX11_placeOf, 4, some .int)
abbrev m_X11_eaterBy : Mth := (RX11, yX11_eaterBy, cX11_eaterBy, 3, some .int)
abbrev m_X11_eater : Mth := (RX11, yX11_eater, cX11_eater, 3, some .int)
abbrev m_X11_isOf : Mth := (RX11, yX11_isOf, cX11_isOf, 3, some .boolean)
abbrev m_X11_mark : Mth := (RX11, yX11_mark, cX11_mark, 3, some .int)
abbrev m_X11_law : Mth := (RX11, yX11_law, cX11_law, 3, some .int)
abbrev m_X11_pot : Mth := (RX11, yX11_pot, cX11_pot, 3, some .int)
abbrev m_X11_need : Mth := (RX11, yX11_need, cX11_need, 4, some .int)
abbrev m_X11_order : Mth := (RX11, yX11_order, cX11_order, 5, some .int)
abbrev m_X11_divisor : Mth := (RX11, yX11_divisor, cX11_divisor, 10, some .long)
abbrev m_X11_lowest : Mth := (RX11, yX11_lowest, cX11_lowest, 7, none)
abbrev m_X11_sum : Mth := (RX11, yX11_sum, cX11_sum, 11, none)
abbrev m_X11_tells : Mth := (RX11, yX11_tells, cX11_tells, 6, some .int)
abbrev m_X11_parts : Mth := (RX11, yX11_parts, cX11_parts, 2, some .int)
abbrev m_X11_lesser : Mth := (RX11, yX11_lesser, cX11_lesser, 7, none)
abbrev m_X11_byParts : Mth := (RX11, yX11_byParts, cX11_byParts, 8, none)
abbrev m_X11_byPieces : Mth := (RX11, yX11_byPieces, cX11_byPieces, 10, none)
abbrev m_X11_takes : Mth := (RX11, yX11_takes, cX11_takes, 9, none)
abbrev m_X11_seatsAsTold : Mth := (RX11, yX11_seatsAsTold, cX11_seatsAsTold, 2, none)
abbrev m_X11_seatsTurned : Mth := (RX11, yX11_seatsTurned, cX11_seatsTurned, 3, none)
abbrev m_X11_seatsWith : Mth := (RX11, yX11_seatsWith, cX11_seatsWith, 5, none)
abbrev m_X11_firstSeats : Mth := (RX11, yX11_firstSeats, cX11_firstSeats, 2, none)
abbrev m_X11_nextSeats : Mth := (RX11, yX11_nextSeats, cX11_nextSeats, 5, some .boolean)
abbrev m_X11_swapSeats : Mth := (RX11, yX11_swapSeats, cX11_swapSeats, 4, none)
abbrev m_X11_goes : Mth := (RX11, yX11_goes, cX11_goes, 7, none)
abbrev m_X11_fedSet : Mth := (RX11, yX11_fedSet, cX11_fedSet, 3, some .int)
abbrev m_X11_areAllFed : Mth := (RX11, yX11_areAllFed, cX11_areAllFed, 1, some .boolean)
abbrev m_X11_ones : Mth := (RX11, yX11_ones, cX11_ones, 3, some .int)
abbrev m_X11_tellsSet : Mth := (RX11, yX11_tellsSet, cX11_tellsSet, 2, some .int)
abbrev m_X11_begins : Mth := (RX11, yX11_begins, cX11_begins, 3, none)
abbrev m_X11_hasEaten : Mth := (RX11, yX11_hasEaten, cX11_hasEaten, 4, some .boolean)
abbrev m_X11_begin : Mth := (RX11, yX11_begin, cX11_begin, 2, some .int)
abbrev m_X11_eat : Mth := (RX11, yX11_eat, cX11_eat, 2, some .int)
abbrev m_X11_took : Mth := (RX11, yX11_took, cX11_took, 2, some .int)
abbrev m_X11_left : Mth := (RX11, yX11_left, cX11_left, 1, some .int)
abbrev m_X11_fed : Mth := (RX11, yX11_fed, cX11_fed, 4, some .int)
abbrev m_X11_keep : Mth := (RX11, yX11_keep, cX11_keep, 3, some .int)
abbrev m_X11_on : Mth := (RX11, yX11_on, cX11_on, 3, some .int)
abbrev m_X11_evening : Mth := (RX11, yX11_evening, cX11_evening, 2, some .int)
abbrev m_X11_place : Mth := (RX11, yX11_place, cX11_place, 4, some .int)
abbrev m_X11_favours : Mth := (RX11, yX11_favours, cX11_favours, 9, some .int)
abbrev m_X11_least : Mth := (RX11, yX11_least, cX11_least, 3, some .int)
abbrev m_X11_isEnough : Mth := (RX11, yX11_isEnough, cX11_isEnough, 4, some .boolean)
abbrev m_X11_best : Mth := (RX11, yX11_best, cX11_best, 7, some .int)
abbrev m_X11_most : Mth := (RX11, yX11_most, cX11_most, 6, some .int)
abbrev m_X11_kind : Mth := (RX11, yX11_kind, cX11_kind, 10, some .int)
abbrev m_X11_week : Mth := (RX11, yX11_week, cX11_week, 9, some .int)
abbrev m_X11_fewestFed : Mth := (RX11, yX11_fewestFed, cX11_fewestFed, 8, some .int)
abbrev m_X11_areTurns : Mth := (RX11, yX11_areTurns, cX11_areTurns, 6, some .boolean)
abbrev m_X11_even : Mth := (RX11, yX11_even, cX11_even, 8, some .int)
abbrev m_X11_keepsGot : Mth := (RX11, yX11_keepsGot, cX11_keepsGot, 2, none)
abbrev m_X11_two : Mth := (RX11, yX11_two, cX11_two, 4, some .int)
abbrev m_X11_cheatSet : Mth := (RX11, yX11_cheatSet, cX11_cheatSet, 3, some .int)
abbrev m_X11_scales : Mth := (RX11, yX11_scales, cX11_scales, 7, some .int)
abbrev m_X11_cheats : Mth := (RX11, yX11_cheats, cX11_cheats, 6, some .int)
abbrev m_X11_findWays : Mth := (RX11, yX11_findWays, cX11_findWays, 3, none)
abbrev m_X11_takesWay : Mth := (RX11, yX11_takesWay, cX11_takesWay, 3, none)
abbrev m_X11_bones : Mth := (RX11, yX11_bones, cX11_bones, 2, some .int)
abbrev m_X11_last : Mth := (RX11, yX11_last, cX11_last, 2, some .int)
abbrev m_X11_ahead : Mth := (RX11, yX11_ahead, cX11_ahead, 5, some .int)
abbrev m_X11_famineBy : Mth := (RX11, yX11_famineBy, cX11_famineBy, 7, some .int)
abbrev m_X11_famine : Mth := (RX11, yX11_famine, cX11_famine, 3, some .int)
abbrev m_X11_kindest : Mth := (RX11, yX11_kindest, cX11_kindest, 7, some .int)
abbrev m_X11_kitchens : Mth := (RX11, yX11_kitchens, cX11_kitchens, 10, some .int)
abbrev m_X11_asked : Mth := (RX11, yX11_asked, cX11_asked, 1, some .int)
abbrev m_X11_upper : Mth := (RX11, yX11_upper, cX11_upper, 1, some .long)
abbrev m_X11_lower : Mth := (RX11, yX11_lower, cX11_lower, 1, some .long)
abbrev m_X11_countBy : Mth := (RX11, yX11_countBy, cX11_countBy, 4, some .int)
abbrev m_X11_count : Mth := (RX11, yX11_count, cX11_count, 2, some .int)
abbrev m_X11_finding : Mth := (RX11, yX11_finding, cX11_finding, 1, some .int)
abbrev m_X11_findings : Mth := (RX11, yX11_findings, cX11_findings, 2, some .int)
abbrev m_X11_digest : Mth := (RX11, yX11_digest, cX11_digest, 5, some .long)
abbrev m_J6_bitCount_0f7a4 : Mth := (RJ6, yJ6_bitCount_0f7a4, cJ6_bitCount_0f7a4, 1, some .int)
abbrev m_J9_abs_067f4 : Mth := (RJ9, yJ9_abs_067f4, cJ9_abs_067f4, 2, some .long)
abbrev m_J9_min_7cf53 : Mth := (RJ9, yJ9_min_7cf53, cJ9_min_7cf53, 2, some .int)
abbrev m_J9_min_f86c9 : Mth := (RJ9, yJ9_min_f86c9, cJ9_min_f86c9, 4, some .long)
abbrev vwCl : List vw_C := [(RX0, TX0, 6), (RX1, TX1, 6), (RX2, TX2, 7), (RX3, TX3, 2), (RX4, TX4, 1), (RX5, TX5, 3), (RX6, TX6, 5), (RX7, TX7, 9), (RX9, TX9, 6), (RX10, TX10, 16), (RX11, TX11, 53)]
theorem tb_app {a b : List Cond} (h : ∀ w ∈ a ++ b, w ∈ lw_tbl) : (∀ w ∈ a, w ∈ lw_tbl) ∧ ∀ w ∈ b, w ∈ lw_tbl := ⟨fun w hw => h w (List.mem_append_left _ hw), fun w hw => h w (List.mem_append_right _ hw)⟩
theorem tb_0 : ∀ w ∈ tables_1, w ∈ lw_tbl := fun w hw => List.mem_append_right _ hw
theorem tb_1 : ∀ w ∈ tables_1_1, w ∈ lw_tbl := (tb_app (b := tables_1_2 ++ (tables_1_3 ++ (tables_1_4 ++ (tables_1_5 ++ (tables_1_6 ++ (tables_1_7)))))) tb_0).1
theorem tb_r1 : ∀ w ∈ tables_1_2 ++ (tables_1_3 ++ (tables_1_4 ++ (tables_1_5 ++ (tables_1_6 ++ (tables_1_7))))), w ∈ lw_tbl := (tb_app (a := tables_1_1) tb_0).2
theorem tb_2 : ∀ w ∈ tables_1_2, w ∈ lw_tbl := (tb_app (b := tables_1_3 ++ (tables_1_4 ++ (tables_1_5 ++ (tables_1_6 ++ (tables_1_7))))) tb_r1).1
theorem tb_r2 : ∀ w ∈ tables_1_3 ++ (tables_1_4 ++ (tables_1_5 ++ (tables_1_6 ++ (tables_1_7)))), w ∈ lw_tbl := (tb_app (a := tables_1_2) tb_r1).2
theorem tb_3 : ∀ w ∈ tables_1_3, w ∈ lw_tbl := (tb_app (b := tables_1_4 ++ (tables_1_5 ++ (tables_1_6 ++ (tables_1_7)))) tb_r2).1
theorem tb_r3 : ∀ w ∈ tables_1_4 ++ (tables_1_5 ++ (tables_1_6 ++ (tables_1_7))), w ∈ lw_tbl := (tb_app (a := tables_1_3) tb_r2).2
theorem tb_4 : ∀ w ∈ tables_1_4, w ∈ lw_tbl := (tb_app (b := tables_1_5 ++ (tables_1_6 ++ (tables_1_7))) tb_r3).1
theorem tb_r4 : ∀ w ∈ tables_1_5 ++ (tables_1_6 ++ (tables_1_7)), w ∈ lw_tbl := (tb_app (a := tables_1_4) tb_r3).2
theorem tb_5 : ∀ w ∈ tables_1_5, w ∈ lw_tbl := (tb_app (b := tables_1_6 ++ (tables_1_7)) tb_r4).1
theorem tb_r5 : ∀ w ∈ tables_1_6 ++ (tables_1_7), w ∈ lw_tbl := (tb_app (a := tables_1_5) tb_r4).2
theorem tb_6 : ∀ w ∈ tables_1_6, w ∈ lw_tbl := (tb_app (b := tables_1_7) tb_r5).1
theorem tb_r6 : ∀ w ∈ tables_1_7, w ∈ lw_tbl := (tb_app (a := tables_1_6) tb_r5).2
theorem tb_7 : ∀ w ∈ tables_1_7, w ∈ lw_tbl := tb_r6
def gtb : List Cond := lw_tbl.filter goodWord
theorem gtb_in : ∀ w ∈ gtb, w ∈ lw_tbl := fun w h => (List.mem_filter.mp h).1
theorem gtb_good : ∀ w ∈ gtb, goodWord w = true := fun w h => (List.mem_filter.mp h).2
theorem gtb_mk {w : Cond} (h : w ∈ lw_tbl) (g : goodWord w = true) : w ∈ gtb := List.mem_filter.mpr ⟨h, g⟩
theorem gt_1 {w : Cond} (i : Nat) (h : tables_1_1[i]? = some w) (g : goodWord w = true) : w ∈ gtb := gtb_mk (tb_1 _ (List.mem_of_getElem? h)) g
theorem gt_2 {w : Cond} (i : Nat) (h : tables_1_2[i]? = some w) (g : goodWord w = true) : w ∈ gtb := gtb_mk (tb_2 _ (List.mem_of_getElem? h)) g
theorem gt_3 {w : Cond} (i : Nat) (h : tables_1_3[i]? = some w) (g : goodWord w = true) : w ∈ gtb := gtb_mk (tb_3 _ (List.mem_of_getElem? h)) g
theorem gt_4 {w : Cond} (i : Nat) (h : tables_1_4[i]? = some w) (g : goodWord w = true) : w ∈ gtb := gtb_mk (tb_4 _ (List.mem_of_getElem? h)) g
theorem gt_5 {w : Cond} (i : Nat) (h : tables_1_5[i]? = some w) (g : goodWord w = true) : w ∈ gtb := gtb_mk (tb_5 _ (List.mem_of_getElem? h)) g
theorem gt_6 {w : Cond} (i : Nat) (h : tables_1_6[i]? = some w) (g : goodWord w = true) : w ∈ gtb := gtb_mk (tb_6 _ (List.mem_of_getElem? h)) g
theorem gt_7 {w : Cond} (i : Nat) (h : tables_1_7[i]? = some w) (g : goodWord w = true) : w ∈ gtb := gtb_mk (tb_7 _ (List.mem_of_getElem? h)) g
theorem gt_s {w : Cond} (i : Nat) (h : (k2_sels lw_privs)[i]? = some w) (g : goodWord w = true) : w ∈ gtb := gtb_mk (List.mem_append_left _ (List.mem_of_getElem? h)) g
theorem inLX0 : ∀ w ∈ u_ws RX0 TX0 6, w ∈ lw_tbl := by decide +kernel
theorem inGX0 : ∀ w ∈ u_ws RX0 TX0 6, w ∈ gtb := fun w h => gtb_mk (inLX0 w h) (List.all_eq_true.mp (show (u_ws RX0 TX0 6).all goodWord = true by decide +kernel) w h)
theorem inLX1 : ∀ w ∈ u_ws RX1 TX1 6, w ∈ lw_tbl := by decide +kernel
theorem inGX1 : ∀ w ∈ u_ws RX1 TX1 6, w ∈ gtb := fun w h => gtb_mk (inLX1 w h) (List.all_eq_true.mp (show (u_ws RX1 TX1 6).all goodWord = true by decide +kernel) w h)
theorem inLX2 : ∀ w ∈ u_ws RX2 TX2 7, w ∈ lw_tbl := by decide +kernel
theorem inGX2 : ∀ w ∈ u_ws RX2 TX2 7, w ∈ gtb := fun w h => gtb_mk (inLX2 w h) (List.all_eq_true.mp (show (u_ws RX2 TX2 7).all goodWord = true by decide +kernel) w h)
theorem inLX3 : ∀ w ∈ u_ws RX3 TX3 2, w ∈ lw_tbl := by decide +kernel
theorem inGX3 : ∀ w ∈ u_ws RX3 TX3 2, w ∈ gtb := fun w h => gtb_mk (inLX3 w h) (List.all_eq_true.mp (show (u_ws RX3 TX3 2).all goodWord = true by decide +kernel) w h)
theorem inLX4 : ∀ w ∈ u_ws RX4 TX4 1, w ∈ lw_tbl := by decide +kernel
theorem inGX4 : ∀ w ∈ u_ws RX4 TX4 1, w ∈ gtb := fun w h => gtb_mk (inLX4 w h) (List.all_eq_true.mp (show (u_ws RX4 TX4 1).all goodWord = true by decide +kernel) w h)
theorem inLX5 : ∀ w ∈ u_ws RX5 TX5 3, w ∈ lw_tbl := by decide +kernel
theorem inGX5 : ∀ w ∈ u_ws RX5 TX5 3, w ∈ gtb := fun w h => gtb_mk (inLX5 w h) (List.all_eq_true.mp (show (u_ws RX5 TX5 3).all goodWord = true by decide +kernel) w h)
theorem inLX6 : ∀ w ∈ u_ws RX6 TX6 5, w ∈ lw_tbl := by decide +kernel
theorem inGX6 : ∀ w ∈ u_ws RX6 TX6 5, w ∈ gtb := fun w h => gtb_mk (inLX6 w h) (List.all_eq_true.mp (show (u_ws RX6 TX6 5).all goodWord = true by decide +kernel) w h)
theorem inLX7 : ∀ w ∈ u_ws RX7 TX7 9, w ∈ lw_tbl := by decide +kernel
theorem inGX7 : ∀ w ∈ u_ws RX7 TX7 9, w ∈ gtb := fun w h => gtb_mk (inLX7 w h) (List.all_eq_true.mp (show (u_ws RX7 TX7 9).all goodWord = true by decide +kernel) w h)
theorem inLX9 : ∀ w ∈ u_ws RX9 TX9 6, w ∈ lw_tbl := by decide +kernel
theorem inGX9 : ∀ w ∈ u_ws RX9 TX9 6, w ∈ gtb := fun w h => gtb_mk (inLX9 w h) (List.all_eq_true.mp (show (u_ws RX9 TX9 6).all goodWord = true by decide +kernel) w h)
theorem inLX10 : ∀ w ∈ u_ws RX10 TX10 16, w ∈ lw_tbl := by decide +kernel
theorem inGX10 : ∀ w ∈ u_ws RX10 TX10 16, w ∈ gtb := fun w h => gtb_mk (inLX10 w h) (List.all_eq_true.mp (show (u_ws RX10 TX10 16).all goodWord = true by decide +kernel) w h)
theorem inLX11 : ∀ w ∈ u_ws RX11 TX11 53, w ∈ lw_tbl := by decide +kernel
theorem inGX11 : ∀ w ∈ u_ws RX11 TX11 53, w ∈ gtb := fun w h => gtb_mk (inLX11 w h) (List.all_eq_true.mp (show (u_ws RX11 TX11 53).all goodWord = true by decide +kernel) w h)
end
section

/-! ===== THE SMALL MACHINE: memory as functions, a judgement V over it, its rules out of the kit's rows ===== -/
abbrev Shp : Type := Nat × Nat
abbrev RefM : Type := Nat → Nat → Option Nat
abbrev IntM : Type := Nat → Nat → Int32
abbrev LngM : Type := Nat → Nat → Int64
abbrev PostV : Type := Option Value → List Shp → RefM → IntM → LngM → Prop
def tr (b : Nat) : Value → Value := fun v => match v with
  | .ref a => .ref (b + a)
  | w => w
theorem tr_cat (b : Nat) (v : Value) : (tr b v).category = v.category := by cases v <;> rfl
def fk : Nat → List Nat := fun c => match c with

  | 0 => [2, 2, 2, 0, 0, 0]
  | 1 => [2, 2, 2, 2, 1, 0]
  | 2 => [2, 2, 3, 0, 0, 1, 0]
  | 3 => [2, 0]
  | 4 => [2]
  | 5 => [2, 2, 2]
  | 6 => [2, 2, 0, 0, 0]
  | 7 => [2, 2, 2, 2, 2, 2, 0, 0, 0]
  | 8 => [2, 0, 0, 0, 0, 0]
  | 9 => [2, 2, 2, 2, 2, 2, 2, 2, 2, 2, 2, 2, 0, 0, 1, 1]
  | 10 => [0, 2, 0, 1, 1, 2, 2, 2, 2, 0, 0, 0, 0, 0, 0, 2, 2, 0, 0, 0, 2, 2, 2, 1, 1, 2, 2, 2, 1, 1, 0, 2, 0, 2, 2, 1, 1, 2, 2, 2, 2, 2, 2, 2, 2, 2, 2, 0, 0, 0, 0, 2, 2]
  | _ => []

def fval (b : Nat) (R : RefM) (I : IntM) (J : LngM) (a k t : Nat) : Value :=
  if t = 1 then .long (J a k) else if t = 2 then va_rf ((R a k).map (fun q => b + q)) else .int (I a k)
def flds (b : Nat) (R : RefM) (I : IntM) (J : LngM) (a : Nat) : List Nat → Nat → List Value := fun ts => match ts with
  | [] => fun _ => []
  | t :: ts => fun k => fval b R I J a k t :: flds b R I J a ts (k + 1)
theorem flds_get {b : Nat} {R : RefM} {I : IntM} {J : LngM} {a : Nat} : ∀ {ts : List Nat} {k0 k t : Nat}, ts[k]? = some t → (flds b R I J a ts k0)[k]? = some (fval b R I J a (k0 + k) t)
  | [], k0, k, t, h => by simp at h
  | t0 :: ts, k0, 0, t, h => by
    simp at h
    subst h
    simp [flds]
  | t0 :: ts, k0, k + 1, t, h => by
    have h1 : ts[k]? = some t := by simpa using h
    have h2 := flds_get (b := b) (R := R) (I := I) (J := J) (a := a) (k0 := k0 + 1) h1
    show (flds b R I J a ts (k0 + 1))[k]? = _
    rw [h2, show k0 + 1 + k = k0 + (k + 1) by omega]
theorem flds_len {b : Nat} {R : RefM} {I : IntM} {J : LngM} {a : Nat} : ∀ (ts : List Nat) (k0 : Nat), (flds b R I J a ts k0).length = ts.length
  | [], k0 => rfl
  | t0 :: ts, k0 => by
    show (flds b R I J a ts (k0 + 1)).length + 1 = ts.length + 1
    rw [flds_len ts]
/-- one field of another value -/
theorem flds_set {b : Nat} {R R' : RefM} {I I' : IntM} {J J' : LngM} {a : Nat} {ts : List Nat} {k t : Nat} (hk : ts[k]? = some t) (hv : ∀ j u, ts[j]? = some u → j ≠ k → fval b R' I' J' a j u = fval b R I J a j u) :
    flds b R' I' J' a ts 0 = (flds b R I J a ts 0).set k (fval b R' I' J' a k t) := by
  apply List.ext_getElem?
  intro j
  by_cases hj : j < ts.length
  · have e : ts[j]? = some ts[j] := List.getElem?_eq_getElem hj
    rw [flds_get e, Nat.zero_add]
    by_cases hjk : j = k
    · subst hjk
      rw [List.getElem?_set_self (by rw [flds_len]; exact hj)]
      rw [e] at hk
      cases hk
      rfl
    · rw [List.getElem?_set_ne (Ne.symm hjk), flds_get e, Nat.zero_add, hv j _ e hjk]
  · rw [List.getElem?_eq_none (by rw [flds_len]; omega), List.getElem?_eq_none (by rw [List.length_set, flds_len]; omega)]
def cellE (b : Nat) (cA : Nat → ClassId) (R : RefM) (I : IntM) (J : LngM) (a : Nat) (s : Shp) : va_E :=
  if s.1 = 0 then .inr (s.2, flds b R I J a (fk s.2) 0)
  else if s.1 = 1 then .inl (cA 1, s.2, .inl (I a))
  else if s.1 = 2 then .inl (cA 2, s.2, .inr (.inl (J a)))
  else .inl (cA s.1, s.2, .inr (.inr (.inr (.inr (fun j => (R a j).map (fun q => b + q))))))
def wsOf (b : Nat) (cA : Nat → ClassId) (sh : List Shp) (R : RefM) (I : IntM) (J : LngM) : va_W := sh.mapIdx (fun a s => (b + a, cellE b cA R I J a s))
theorem ws_get {b : Nat} {cA : Nat → ClassId} {sh : List Shp} {R : RefM} {I : IntM} {J : LngM} {a : Nat} {s : Shp} (h : sh[a]? = some s) : (wsOf b cA sh R I J)[a]? = some (b + a, cellE b cA R I J a s) := by
  unfold wsOf
  rw [List.getElem?_mapIdx, h]
  rfl
theorem ws_inv {b : Nat} {cA : Nat → ClassId} {sh : List Shp} {R : RefM} {I : IntM} {J : LngM} {k : Nat} {q : Nat × va_E} (h : (wsOf b cA sh R I J)[k]? = some q) : ∃ s, sh[k]? = some s ∧ q = (b + k, cellE b cA R I J k s) := by
  unfold wsOf at h
  rw [List.getElem?_mapIdx] at h
  cases hs : sh[k]? with
  | none => rw [hs] at h; cases h
  | some s => rw [hs] at h; exact ⟨s, rfl, (Option.some.inj h).symm⟩
theorem ws_D {b : Nat} {cA : Nat → ClassId} {sh : List Shp} {R : RefM} {I : IntM} {J : LngM} : va_D (fun q => b ≤ q) (wsOf b cA sh R I J) := by
  refine ⟨fun i j p q hi hj hpq => ?_, fun k q hk => ?_⟩
  · obtain ⟨s, -, rfl⟩ := ws_inv hi
    obtain ⟨t, -, rfl⟩ := ws_inv hj
    dsimp only at hpq
    omega
  · obtain ⟨s, -, rfl⟩ := ws_inv hk
    exact Nat.le_add_right _ _
theorem ws_len {b : Nat} {cA : Nat → ClassId} {sh : List Shp} {R : RefM} {I : IntM} {J : LngM} : (wsOf b cA sh R I J).length = sh.length := by
  unfold wsOf
  exact List.length_mapIdx
theorem ws_set {b : Nat} {cA : Nat → ClassId} {sh : List Shp} {R R' : RefM} {I I' : IntM} {J J' : LngM} {a : Nat} {s : Shp} (h : sh[a]? = some s) (hc : ∀ a' s', a' ≠ a → cellE b cA R' I' J' a' s' = cellE b cA R I J a' s') {e : va_E} (he : cellE b cA R' I' J' a s = e) :
    (wsOf b cA sh R I J).set a (b + a, e) = wsOf b cA sh R' I' J' := by
  subst he
  apply List.ext_getElem?
  intro j
  have hal := (List.getElem?_eq_some_iff.mp h).1
  by_cases hj : j < sh.length
  · have ej : sh[j]? = some sh[j] := List.getElem?_eq_getElem hj
    rw [ws_get ej]
    by_cases hja : j = a
    · subst hja
      rw [List.getElem?_set_self (by rw [ws_len]; exact hj)]
      rw [ej] at h
      rw [Option.some.inj h]
    · rw [List.getElem?_set_ne (Ne.symm hja), ws_get ej, hc j _ hja]
  · rw [List.getElem?_eq_none (by rw [List.length_set, ws_len]; omega), List.getElem?_eq_none (by rw [ws_len]; omega)]
theorem ws_push {b : Nat} {cA : Nat → ClassId} {sh : List Shp} {R R' : RefM} {I I' : IntM} {J J' : LngM} {s : Shp} (hc : ∀ a' s', a' ≠ sh.length → cellE b cA R' I' J' a' s' = cellE b cA R I J a' s') {e : va_E} (he : cellE b cA R' I' J' sh.length s = e) :
    wsOf b cA sh R I J ++ [(b + sh.length, e)] = wsOf b cA (sh ++ [s]) R' I' J' := by
  subst he
  apply List.ext_getElem?
  intro j
  rcases Nat.lt_trichotomy j sh.length with hj | hj | hj
  · have ej : sh[j]? = some sh[j] := List.getElem?_eq_getElem hj
    rw [List.getElem?_append_left (by rw [ws_len]; exact hj), ws_get ej, ws_get (s := sh[j]) (by rw [List.getElem?_append_left hj]; exact ej), hc j _ (by omega)]
  · subst hj
    rw [List.getElem?_append_right (by rw [ws_len]; omega), ws_len, Nat.sub_self, ws_get (s := s) (by simp)]
    rfl
  · rw [List.getElem?_eq_none (by simp [ws_len]; omega), List.getElem?_eq_none (by simp [ws_len]; omega)]
def tysOf (cA : Nat → ClassId) : List (ClassId × FieldType) := [(cA 1, .int), (cA 2, .long), (cA 3, .object "ThirdLeft$Ints"), (cA 4, .object "ThirdLeft$Evening")]
/-- the world's cells, from the base b on, and nothing behind them -/
def WOK (b : Nat) (D : va_G) (cA : Nat → ClassId) (sh : List Shp) (R : RefM) (I : IntM) (J : LngM) (s : State) (H : Heap) : Prop := va_P D vwCl (wsOf b cA sh R I J) H ∧ va_K D vwCl (tysOf cA) s
theorem WOK.moved {b : Nat} {D : va_G} {cA : Nat → ClassId} {sh : List Shp} {R : RefM} {I : IntM} {J : LngM} {s t : State} {H : Heap} (hvm : s.vm.Alike t.vm) (h : WOK b D cA sh R I J s H) : WOK b D cA sh R I J t H := ⟨h.1, va_K.moved hvm h.2⟩
/-- the letters' static array, below the base: nobody writes it -/
def ltr : Nat → Int32 := fun j => match j with
  | 0 => 101
  | 1 => 103
  | 2 => 99
  | 3 => 110
  | 4 => 100
  | _ => 107
def LT (b : Nat) (s : State) (H : Heap) : Prop := ∃ t : Nat, va_Z "ThirdLeft$Reader" "LETTERS" "[C" (.ref t) (fun q => b ≤ q) s H ∧ va_T .char t 6 (fun j => .int (ltr j)) (fun q => b ≤ q) s H
theorem LT.kept {b : Nat} {s : State} {H0 H : Heap} {locs : List Loc} (h : LT b s H0) (hS : va_S (fun q => b ≤ q) H0 H locs) : LT b s H := by
  obtain ⟨t, h1, h2⟩ := h
  exact ⟨t, h1.kept (fun a h3 h4 => hS.2.1 a h3 h4), h2.kept (fun a h3 h4 => hS.2.1 a h3 h4)⟩
theorem LT.moved {b : Nat} {s t : State} {H : Heap} (hvm : s.vm.Alike t.vm) (h : LT b s H) : LT b t H := by
  obtain ⟨x, h1, h2⟩ := h
  exact ⟨x, h1.moved hvm, h2.moved hvm⟩
def nws : List Cond := [(Jvm.Cond.methodLinkNest "ThirdLeft" (20 : Nat) ({ cls := "ThirdLeft$Reader", name := "<init>", desc := "()V" } : Jvm.MethodName) "ThirdLeft"), (Jvm.Cond.methodLinkNest "ThirdLeft" (27 : Nat) ({ cls := "ThirdLeft$Company", name := "<init>", desc := "()V" } : Jvm.MethodName) "ThirdLeft"), (Jvm.Cond.methodLinkNest "ThirdLeft" (34 : Nat) ({ cls := "ThirdLeft$Evening", name := "<init>", desc := "()V" } : Jvm.MethodName) "ThirdLeft"), (Jvm.Cond.methodLinkNest "ThirdLeft" (45 : Nat) ({ cls := "ThirdLeft$Sitting", name := "<init>", desc := "()V" } : Jvm.MethodName) "ThirdLeft"), (Jvm.Cond.methodLinkNest "ThirdLeft" (55 : Nat) ({ cls := "ThirdLeft$Pots", name := "<init>", desc := "()V" } : Jvm.MethodName) "ThirdLeft"), (Jvm.Cond.methodLinkNest "ThirdLeft$Pots" (11 : Nat) ({ cls := "ThirdLeft$Sitting", name := "<init>", desc := "()V" } : Jvm.MethodName) "ThirdLeft"), (Jvm.Cond.methodLinkNest "ThirdLeft" (62 : Nat) ({ cls := "ThirdLeft$Traces", name := "<init>", desc := "()V" } : Jvm.MethodName) "ThirdLeft"), (Jvm.Cond.methodLinkNest "ThirdLeft$Traces" (11 : Nat) ({ cls := "ThirdLeft$Sitting", name := "<init>", desc := "()V" } : Jvm.MethodName) "ThirdLeft"), (Jvm.Cond.methodLinkNest "ThirdLeft" (69 : Nat) ({ cls := "ThirdLeft$Days", name := "<init>", desc := "()V" } : Jvm.MethodName) "ThirdLeft"), (Jvm.Cond.methodLinkNest "ThirdLeft$Days" (11 : Nat) ({ cls := "ThirdLeft$Sitting", name := "<init>", desc := "()V" } : Jvm.MethodName) "ThirdLeft")]
theorem nws_warm {s U : State} (hW : s.WarmedH U.vm) : ∀ w ∈ nws, va_Nw w s → va_Nw w U := by
  intro w hw h
  simp only [nws, List.mem_cons, List.not_mem_nil, or_false] at hw
  rcases hw with rfl | rfl | rfl | rfl | rfl | rfl | rfl | rfl | rfl | rfl <;> exact va_Nw.warmM hW h
theorem nws_tab : ∀ w ∈ nws, w.onTables = true := List.all_eq_true.mp (show nws.all (fun w => w.onTables) = true by decide +kernel)
def NW (s : State) : Prop := (∀ w ∈ nws, va_Nw w s) ∧ va_AO "ThirdLeft$Ints" s ∧ va_AO "ThirdLeft$Evening" s
theorem NW.warm {s U : State} (hW : s.WarmedH U.vm) (h : NW s) : NW U := ⟨fun w hw => nws_warm hW w hw (h.1 w hw), h.2.1.moved hW.alike, h.2.2.moved hW.alike⟩
theorem NW.same {s U : State} (e : s.vm = U.vm) (h : NW s) : NW U := ⟨fun w hw => va_Nw.same (nws_tab w hw) e (h.1 w hw), h.2.1.moved (by rw [e]; exact Vm.Alike.refl _), h.2.2.moved (by rw [e]; exact Vm.Alike.refl _)⟩
def mws (m : Mth) : List Cond := Cond.code m.2.1 m.2.2.1 m.2.2.2.1 m.2.2.2.2 :: gtb
def rmV (d mc ms : Nat) : Room := { frames := d, cells := mc, slots := ms, locals := 32 * d }
def PcV (b : Nat) (D : va_G) (cA : Nat → ClassId) (as : List Value) (sh : List Shp) (R : RefM) (I : IntM) (J : LngM) : Array Value → State → Prop := va_Pc (as.map (tr b)) (fun U => U.heap.size = b + sh.length ∧ WOK b D cA sh R I J U U.heap ∧ LT b U U.heap ∧ NW U)
def QcV (b : Nat) (D : va_G) (cA : Nat → ClassId) (Q : PostV) : Array Value → State → Outcome → State → Prop := fun _ st o t => (∃ (r : Option Value) (sh : List Shp) (R : RefM) (I : IntM) (J : LngM), o = .returned (r.map (tr b)) ∧ Q r sh R I J ∧ WOK b D cA sh R I J t t.heap) ∧ va_F (fun q => b ≤ q) st t
/-- a method's contract over the small machine, at call depth d -/
def Ct (d : Nat) (m : Mth) (as : List Value) (sh : List Shp) (R : RefM) (I : IntM) (J : LngM) (mc ms : Nat) (Q : PostV) : Prop :=
  ∀ (l : Launch) (b : Nat) (D : va_G) (cA : Nat → ClassId), Met l m.2.1 (mws m) (rmV d mc ms) (PcV b D cA as sh R I J) (QcV b D cA Q) mc ms (fun q => b ≤ q)
/-- what holds of the frame that runs -/
def Fx (m : Mth) (d mc ms b : Nat) (p : Program) (Rm : Room) (s : State) (mid : MethodId) (args : Array Value) (meth : Method) (c : Code) : Prop :=
  p.tables.exec = Jvm.exec ∧ c.code = m.2.2.1 ∧ meth.sig.returnType = m.2.2.2.2 ∧ c.maxLocals = m.2.2.2.1 ∧ s.vm.findClass m.1 = some mid.cls ∧ (∀ w ∈ gtb, w.before args s = true) ∧ meth.locks = false ∧ meth.name = m.2.1.name ∧ (d ≤ Rm.frames ∧ 32 * d ≤ Rm.locals ∧ mc ≤ Rm.cells ∧ ms ≤ Rm.slots) ∧ b ≤ s.heap.size ∧ LT b s s.heap ∧ NW s
def V (m : Mth) (d u1 u2 mc ms : Nat) (pc : Nat) (L : List (Nat × Value)) (S : List Value) (sh : List Shp) (R : RefM) (I : IntM) (J : LngM) (Q : PostV) : Prop :=
  ∀ (p : Program) (l : Launch) (e : Env) (Rm : Room) (s : State) (mid : MethodId) (args : Array Value) (below : List Frame) (meth : Method) (c : Code) (H : Heap) (locs : List Loc) (ls : Array Slot) (b : Nat) (D : va_G) (cA : Nat → ClassId),
    Fx m d mc ms b p Rm s mid args meth c → s.heap.size + u1 = b + sh.length → WOK b D cA sh R I J s H → va_S (fun q => b ≤ q) s.heap H locs → lv_has ls m.2.2.2.1 (L.map (fun q => (q.1, tr b q.2))) →
    W p l e Rm s mid args below meth c H locs u1 u2 (MQ below (QcV b D cA Q) args s mc ms (fun q => b ≤ q)) (F0 mid pc ls (S.map (tr b)))
section FX
variable {m : Mth} {d mc ms b : Nat} {p : Program} {Rm : Room} {s : State} {mid : MethodId} {args : Array Value} {meth : Method} {c : Code}
theorem Fx.x (F : Fx m d mc ms b p Rm s mid args meth c) : p.tables.exec = Jvm.exec := F.1
theorem Fx.cc (F : Fx m d mc ms b p Rm s mid args meth c) : c.code = m.2.2.1 := F.2.1
theorem Fx.r (F : Fx m d mc ms b p Rm s mid args meth c) : meth.sig.returnType = m.2.2.2.2 := F.2.2.1
theorem Fx.ml (F : Fx m d mc ms b p Rm s mid args meth c) : c.maxLocals = m.2.2.2.1 := F.2.2.2.1
theorem Fx.o (F : Fx m d mc ms b p Rm s mid args meth c) : s.vm.findClass m.1 = some mid.cls := F.2.2.2.2.1
theorem Fx.t (F : Fx m d mc ms b p Rm s mid args meth c) : ∀ w ∈ gtb, w.before args s = true := F.2.2.2.2.2.1
theorem Fx.k (F : Fx m d mc ms b p Rm s mid args meth c) : meth.locks = false := F.2.2.2.2.2.2.1
theorem Fx.n (F : Fx m d mc ms b p Rm s mid args meth c) : meth.name = m.2.1.name := F.2.2.2.2.2.2.2.1
theorem Fx.R (F : Fx m d mc ms b p Rm s mid args meth c) : d ≤ Rm.frames ∧ 32 * d ≤ Rm.locals ∧ mc ≤ Rm.cells ∧ ms ≤ Rm.slots := F.2.2.2.2.2.2.2.2.1
theorem Fx.bb (F : Fx m d mc ms b p Rm s mid args meth c) : b ≤ s.heap.size := F.2.2.2.2.2.2.2.2.2.1
theorem Fx.lt (F : Fx m d mc ms b p Rm s mid args meth c) : LT b s s.heap := F.2.2.2.2.2.2.2.2.2.2.1
theorem Fx.nw (F : Fx m d mc ms b p Rm s mid args meth c) : NW s := F.2.2.2.2.2.2.2.2.2.2.2
end FX
theorem lvm_args (b : Nat) : ∀ (as : List Value) (i : Nat), lv_args i (as.map (tr b)) = (lv_args i as).map (fun q => (q.1, tr b q.2))
  | [], i => rfl
  | v :: vs, i => by
    show (i, tr b v) :: lv_args (if (tr b v).category = 2 then i + 2 else i + 1) (vs.map (tr b)) = _
    rw [lvm_args b vs, tr_cat]
    rfl
theorem lgsl_len (b : Nat) (as : List Value) : (lg_sl (as.map (tr b))).length = (lg_sl as).length := by
  induction as with
  | nil => rfl
  | cons v vs ih =>
    have e : ∀ (x : Value) (xs : List Value), (lg_sl (x :: xs)).length = (if x.category = 2 then 2 else 1) + (lg_sl xs).length := by
      intro x xs
      unfold lg_sl
      rw [List.flatMap_cons, List.length_append]
      split <;> rfl
    rw [List.map_cons, e, e, ih, tr_cat]
theorem Ct_of {d : Nat} {m : Mth} {as : List Value} {sh : List Shp} {R : RefM} {I : IntM} {J : LngM} {mc ms : Nat} {Q : PostV} (hn : plainName m.2.1.cls = true) (hc : m.2.1.cls = m.1) (hlen : (lg_sl as).length ≤ m.2.2.2.1) (k : V m d 0 0 mc ms 0 (lv_args 0 as) [] sh R I J Q) : Ct d m as sh R I J mc ms Q := by
  intro l b D cA
  refine Met.ofW (cc := m.2.2.1) (maxL := m.2.2.2.1) (ret := m.2.2.2.2) hn rfl ?_
  intro p e s mid args below meth c s₁ B hml hv
  obtain ⟨rfl, hsz, hw, hlt, hnw⟩ := hv
  have hts := atoms_spec (ws := mws m) B.pre
  have hl := lv_entry (as.map (tr b)) (n := m.2.2.2.1) (by rw [lgsl_len]; exact hlen)
  rw [lg_entry_eq]
  rw [lvm_args] at hl
  exact k p l e (headSpec (mws m) (rmV d mc ms)).room s mid _ below meth c s.heap [] _ b D cA ⟨B.exec, B.bytes, B.returns, hml, by rw [← hc]; exact findClass_of_methodNamed B.named, fun w hw' => hts w (List.mem_cons_of_mem _ hw'), B.notSynchronized, (name_of_methodNamed B.named B.method).1, ⟨Nat.le_refl _, Nat.le_refl _, Nat.le_refl _, Nat.le_refl _⟩, by omega, hlt, hnw⟩ hsz hw va_S.rf hl
/-- the heap's size, by the count of the cells made -/
theorem W_sz {p : Program} {l : Launch} {e : Env} {Rm : Room} {s : State} {mid : MethodId} {args : Array Value} {below : List Frame} {meth : Method} {c : Code} {H : Heap} {locs : List Loc} {Z : State → Prop} {g : JFrame} {b u1 u2 : Nat} {D : va_G} {cA : Nat → ClassId} {sh : List Shp} {R : RefM} {I : IntM} {J : LngM} (hz : s.heap.size + u1 = b + sh.length) (hb : b ≤ s.heap.size) (hP : va_P D vwCl (wsOf b cA sh R I J) H) (hS : va_S (fun q => b ≤ q) s.heap H locs)
    (k : H.size = b + sh.length → W p l e Rm s mid args below meth c H locs u1 u2 Z g) : W p l e Rm s mid args below meth c H locs u1 u2 Z g := by
  intro T hT X
  have h1 := X.heapSize
  rw [hT] at h1
  have h2 : b + sh.length ≤ H.size := by
    cases hn : sh.length with
    | zero => have := hS.1; omega
    | succ n =>
      have hg : sh[n]? = some (sh[n]'(by omega)) := List.getElem?_eq_getElem (by omega)
      have := (hP n _ (ws_get (b := b) (cA := cA) (R := R) (I := I) (J := J) hg)).lt
      dsimp only at this
      omega
  exact k (by omega) T hT X
/-! what a program decides of an instruction -/
def D1 (m : Mth) (pc : Nat) (i : Instr) (n pc' : Nat) : Prop := decode m.2.2.1 pc = .ok (i, n) ∧ pc + n = pc'
def D2 (m : Mth) (pc : Nat) (i : Instr) (off : Int) (pc' tgt : Nat) : Prop := decode m.2.2.1 pc = .ok (i, 3) ∧ pc + 3 = pc' ∧ (pc : Int) + off = (tgt : Int)
def DF (m : Mth) (pc ci k t pc' : Nat) : Prop := ∃ (idx : Nat) (C : String) (T : u_T) (N : Nat), decode m.2.2.1 pc = .ok (.getfield idx, 3) ∧ vwCl[ci]? = some (C, T, N) ∧ k < N ∧ Cond.fieldLink m.1 idx (T k).1 (T k).2.1 (T k).2.2.1 ∈ gtb ∧ (fk ci)[k]? = some t ∧ pc + 3 = pc'
def DP (m : Mth) (pc ci k t : Nat) (fin : Bool) (ty : FieldType) (pc' : Nat) : Prop := ∃ (idx : Nat) (C : String) (T : u_T) (N : Nat), decode m.2.2.1 pc = .ok (.putfield idx, 3) ∧ vwCl[ci]? = some (C, T, N) ∧ k < N ∧ Cond.fieldLink m.1 idx (T k).1 (T k).2.1 (T k).2.2.1 ∈ gtb ∧ (fk ci)[k]? = some t ∧ (T k).2.2.2 = fin ∧ parseFieldDescriptor (T k).2.2.1 = some ty ∧ (T k).1 = C ∧ pc + 3 = pc'
def MI (m : Mth) (n : Nat) : Prop := Cond.instanceMethod m.2.1 ∈ gtb ∧ Cond.selects m.1 m.2.1 m.2.1 ∈ gtb ∧ Cond.initialized m.1 ∈ gtb ∧ Cond.code m.2.1 m.2.2.1 m.2.2.2.1 m.2.2.2.2 ∈ gtb ∧ (m.2.1.cls = m.1 ∧ m.2.1.cls ≠ "java/lang/invoke/MethodHandle" ∧ m.2.1.cls ≠ "java/lang/invoke/VarHandle" ∧ (parseMethodDescriptor m.2.1.desc).map (fun d => d.parameters.length) = some n) ∧ m.2.2.2.1 ≤ 13
def MS (m : Mth) (n : Nat) : Prop := Cond.static m.2.1 ∈ gtb ∧ Cond.initialized m.2.1.cls ∈ gtb ∧ Cond.code m.2.1 m.2.2.1 m.2.2.2.1 m.2.2.2.2 ∈ gtb ∧ (m.2.1.cls ≠ "java/lang/invoke/MethodHandle" ∧ m.2.1.cls ≠ "java/lang/invoke/VarHandle" ∧ (parseMethodDescriptor m.2.1.desc).map (fun d => d.parameters.length) = some n) ∧ m.2.2.2.1 ≤ 13
def MC (m : Mth) (n : Nat) : Prop := Cond.instanceMethod m.2.1 ∈ gtb ∧ Cond.initialized m.2.1.cls ∈ gtb ∧ Cond.code m.2.1 m.2.2.1 m.2.2.2.1 none ∈ gtb ∧ m.2.2.2.2 = none ∧ m.2.1.name = "<init>" ∧ (m.2.1.cls ≠ "java/lang/invoke/MethodHandle" ∧ m.2.1.cls ≠ "java/lang/invoke/VarHandle" ∧ (parseMethodDescriptor m.2.1.desc).map (fun d => d.parameters.length) = some n) ∧ m.2.2.2.1 ≤ 13
def DV (m : Mth) (pc : Nat) (m' : Mth) (pc' : Nat) : Prop := ∃ idx, decode m.2.2.1 pc = .ok (.invokevirtual idx, 3) ∧ Cond.methodLink m.1 idx m'.2.1 ∈ gtb ∧ pc + 3 = pc'
def DS (m : Mth) (pc : Nat) (m' : Mth) (pc' : Nat) : Prop := ∃ idx, decode m.2.2.1 pc = .ok (.invokestatic idx, 3) ∧ Cond.methodLink m.1 idx m'.2.1 ∈ gtb ∧ pc + 3 = pc'
def DI (m : Mth) (pc : Nat) (m' : Mth) (pc' : Nat) : Prop := ∃ idx, decode m.2.2.1 pc = .ok (.invokespecial idx, 3) ∧ (Cond.methodLink m.1 idx m'.2.1 ∈ gtb ∨ ∃ host, Cond.methodLinkNest m.1 idx m'.2.1 host ∈ nws) ∧ pc + 3 = pc'
def DO (m : Mth) (pc pc' : Nat) : Prop := ∃ idx, decode m.2.2.1 pc = .ok (.invokespecial idx, 3) ∧ Cond.methodLink m.1 idx Lib.objectInit ∈ gtb ∧ pc + 3 = pc'
def DN (m : Mth) (pc ci pc' : Nat) : Prop := ∃ (idx : Nat) (C : String) (T : u_T) (N : Nat), decode m.2.2.1 pc = .ok (.new idx, 3) ∧ vwCl[ci]? = some (C, T, N) ∧ Cond.classLink m.1 idx C ∈ gtb ∧ Cond.instantiable C N ∈ gtb ∧ Cond.initialized C ∈ gtb ∧ pc + 3 = pc'
def DA (m : Mth) (pc k : Nat) (pc' : Nat) : Prop := ∃ (idx : Nat) (C : String), decode m.2.2.1 pc = .ok (.anewarray idx, 3) ∧ Cond.classLink m.1 idx C ∈ gtb ∧ ((k = 3 ∧ C = "ThirdLeft$Ints") ∨ (k = 4 ∧ C = "ThirdLeft$Evening")) ∧ pc + 3 = pc'
def DL (m : Mth) (pc : Nat) (v : Int64) (pc' : Nat) : Prop := ∃ idx, decode m.2.2.1 pc = .ok (.ldc2_w idx, 3) ∧ Cond.constantLong m.1 idx v ∈ gtb ∧ pc + 3 = pc'
def DK (m : Mth) (pc : Nat) (v : Int32) (pc' : Nat) : Prop := (∃ idx, decode m.2.2.1 pc = .ok (.ldc idx, 2) ∧ Cond.constant m.1 idx v ∈ gtb ∧ pc + 2 = pc') ∨ ∃ idx, decode m.2.2.1 pc = .ok (.ldc_w idx, 3) ∧ Cond.constant m.1 idx v ∈ gtb ∧ pc + 3 = pc'
/-! locals -/
def lkL : List (Nat × Value) → Nat → Option Value := fun L => match L with
  | [] => fun _ => none
  | q :: L => fun i => if q.1 = i then some q.2 else lkL L i
def st1 (i : Nat) (v : Value) (L : List (Nat × Value)) : List (Nat × Value) := (i, v) :: L.filter (fun q => !(q.1 == i) && !(q.1 + 1 == i && q.2.category == 2))
def st2 (i : Nat) (v : Value) (L : List (Nat × Value)) : List (Nat × Value) := (i, v) :: L.filter (fun q => !(q.1 == i) && (!(q.1 == i + 1) && !(q.1 + 1 == i && q.2.category == 2)))
def subL : List (Nat × Value) → List (Nat × Value) → Prop := fun L' => match L' with
  | [] => fun _ => True
  | q :: L' => fun L => lkL L q.1 = some q.2 ∧ subL L' L
theorem lk_mem {v : Value} {i : Nat} : ∀ {L : List (Nat × Value)}, lkL L i = some v → (i, v) ∈ L
  | [], h => by cases h
  | q :: L, h => by
    by_cases hq : q.1 = i
    · have h' : (if q.1 = i then some q.2 else lkL L i) = some v := h
      rw [if_pos hq] at h'
      cases h'
      subst hq
      exact List.mem_cons_self
    · have h' : (if q.1 = i then some q.2 else lkL L i) = some v := h
      rw [if_neg hq] at h'
      exact List.mem_cons_of_mem _ (lk_mem h')
theorem lk_at {b : Nat} {ls : Array Slot} {nL i : Nat} {L : List (Nat × Value)} {v : Value} (h : lv_has ls nL (L.map (fun q => (q.1, tr b q.2)))) (hk : lkL L i = some v) : ls[i]? = some (.val (tr b v)) :=
  h.2.2 (i, tr b v) (List.mem_map.mpr ⟨(i, v), lk_mem hk, rfl⟩)
theorem sub_lv {b : Nat} {ls : Array Slot} {nL : Nat} {L : List (Nat × Value)} (h : lv_has ls nL (L.map (fun q => (q.1, tr b q.2)))) : ∀ {L' : List (Nat × Value)}, subL L' L → lv_has ls nL (L'.map (fun q => (q.1, tr b q.2)))
  | [], _ => ⟨h.1, h.2.1, fun q hq => by simp at hq⟩
  | q :: L', hs => by
    obtain ⟨h1, h2⟩ := hs
    obtain ⟨g1, g2, g3⟩ := sub_lv h h2
    refine ⟨g1, g2, fun x hx => ?_⟩
    rw [List.map_cons] at hx
    rcases List.mem_cons.mp hx with rfl | hx
    · exact lk_at h h1
    · exact g3 x hx
theorem st1_map (b i : Nat) (v : Value) (L : List (Nat × Value)) : (st1 i v L).map (fun q => (q.1, tr b q.2)) = (i, tr b v) :: (L.map (fun q => (q.1, tr b q.2))).filter (fun q => !(q.1 == i) && !(q.1 + 1 == i && q.2.category == 2)) := by
  unfold st1
  rw [List.map_cons, List.filter_map]
  congr 2
  apply List.filter_congr
  intro q _
  simp only [Function.comp, tr_cat]
theorem st2_map (b i : Nat) (v : Value) (L : List (Nat × Value)) : (st2 i v L).map (fun q => (q.1, tr b q.2)) = (i, tr b v) :: (L.map (fun q => (q.1, tr b q.2))).filter (fun q => !(q.1 == i) && (!(q.1 == i + 1) && !(q.1 + 1 == i && q.2.category == 2))) := by
  unfold st2
  rw [List.map_cons, List.filter_map]
  congr 2
  apply List.filter_congr
  intro q _
  simp only [Function.comp, tr_cat]
/-! memory, changed at a place -/
def uI (I : IntM) (a k : Nat) (v : Int32) : IntM := fun x j => if x = a ∧ j = k then v else I x j
def uJ (J : LngM) (a k : Nat) (v : Int64) : LngM := fun x j => if x = a ∧ j = k then v else J x j
def uR (R : RefM) (a k : Nat) (v : Option Nat) : RefM := fun x j => if x = a ∧ j = k then v else R x j
def zI (I : IntM) (a : Nat) : IntM := fun x j => if x = a then 0 else I x j
def zJ (J : LngM) (a : Nat) : LngM := fun x j => if x = a then 0 else J x j
def zR (R : RefM) (a : Nat) : RefM := fun x j => if x = a then none else R x j
/-- n ints copied from cell a, place i on, to cell c, place j on -/
def cpI (I : IntM) (a i c j n : Nat) : IntM := fun x k => if x = c ∧ j ≤ k ∧ k < j + n then I a (i + (k - j)) else I x k
theorem fval_other {b : Nat} {R R' : RefM} {I I' : IntM} {J J' : LngM} {a : Nat} (hR : ∀ j, R' a j = R a j) (hI : ∀ j, I' a j = I a j) (hJ : ∀ j, J' a j = J a j) (k t : Nat) : fval b R' I' J' a k t = fval b R I J a k t := by
  unfold fval
  rw [hR, hI, hJ]
theorem flds_other {b : Nat} {R R' : RefM} {I I' : IntM} {J J' : LngM} {a : Nat} (hR : ∀ j, R' a j = R a j) (hI : ∀ j, I' a j = I a j) (hJ : ∀ j, J' a j = J a j) : ∀ (ts : List Nat) (k : Nat), flds b R' I' J' a ts k = flds b R I J a ts k
  | [], k => rfl
  | t :: ts, k => by
    show fval b R' I' J' a k t :: flds b R' I' J' a ts (k + 1) = _
    rw [flds_other hR hI hJ ts, fval_other hR hI hJ]
    rfl
theorem cell_other {b : Nat} {cA : Nat → ClassId} {R R' : RefM} {I I' : IntM} {J J' : LngM} {a : Nat} (hR : ∀ j, R' a j = R a j) (hI : ∀ j, I' a j = I a j) (hJ : ∀ j, J' a j = J a j) (s : Shp) : cellE b cA R' I' J' a s = cellE b cA R I J a s := by
  unfold cellE
  rw [flds_other hR hI hJ, show I' a = I a from funext hI, show J' a = J a from funext hJ, show R' a = R a from funext hR]

theorem cl_all {P : vw_C → Prop} (h0 : P (RX0, TX0, 6)) (h1 : P (RX1, TX1, 6)) (h2 : P (RX2, TX2, 7)) (h3 : P (RX3, TX3, 2)) (h4 : P (RX4, TX4, 1)) (h5 : P (RX5, TX5, 3)) (h6 : P (RX6, TX6, 5)) (h7 : P (RX7, TX7, 9)) (h8 : P (RX9, TX9, 6)) (h9 : P (RX10, TX10, 16)) (h10 : P (RX11, TX11, 53)) : ∀ {ci : Nat} {q : vw_C}, vwCl[ci]? = some q → P q
  | 0, q, h => by cases h; exact h0
  | 1, q, h => by cases h; exact h1
  | 2, q, h => by cases h; exact h2
  | 3, q, h => by cases h; exact h3
  | 4, q, h => by cases h; exact h4
  | 5, q, h => by cases h; exact h5
  | 6, q, h => by cases h; exact h6
  | 7, q, h => by cases h; exact h7
  | 8, q, h => by cases h; exact h8
  | 9, q, h => by cases h; exact h9
  | 10, q, h => by cases h; exact h10
  | n + 11, q, h => by simp [vwCl] at h
theorem cl_in {ci : Nat} {C : String} {T : u_T} {N : Nat} (h : vwCl[ci]? = some (C, T, N)) : ∀ w ∈ u_ws C T N, w ∈ gtb := cl_all (P := fun q => ∀ w ∈ u_ws q.1 q.2.1 q.2.2, w ∈ gtb) inGX0 inGX1 inGX2 inGX3 inGX4 inGX5 inGX6 inGX7 inGX9 inGX10 inGX11 h
theorem cl_ty {ci : Nat} {C : String} {T : u_T} {N : Nat} (h : vwCl[ci]? = some (C, T, N)) : ∃ ty0 : Nat → FieldType, (∀ k, k < N → parseFieldDescriptor (T k).2.2.1 = some (ty0 k)) ∧ ∀ a, a < N → ∀ b, b < N → a ≠ b → (T a).2.1 ≠ (T b).2.1 := cl_all (P := fun q => ∃ ty0 : Nat → FieldType, (∀ k, k < q.2.2 → parseFieldDescriptor (q.2.1 k).2.2.1 = some (ty0 k)) ∧ ∀ a, a < q.2.2 → ∀ b, b < q.2.2 → a ≠ b → (q.2.1 a).2.1 ≠ (q.2.1 b).2.1) ⟨tyX0, tyX0_ok, nmX0⟩ ⟨tyX1, tyX1_ok, nmX1⟩ ⟨tyX2, tyX2_ok, nmX2⟩ ⟨tyX3, tyX3_ok, nmX3⟩ ⟨tyX4, tyX4_ok, nmX4⟩ ⟨tyX5, tyX5_ok, nmX5⟩ ⟨tyX6, tyX6_ok, nmX6⟩ ⟨tyX7, tyX7_ok, nmX7⟩ ⟨tyX9, tyX9_ok, nmX9⟩ ⟨tyX10, tyX10_ok, nmX10⟩ ⟨tyX11, tyX11_ok, nmX11⟩ h
end
section

/-! ===== the rules of V ===== -/
def Dil (m : Mth) (pc i pc' : Nat) : Prop := (∃ k : Fin 4, decode m.2.2.1 pc = .ok (.iload_n k, 1) ∧ (k : Nat) = i ∧ pc + 1 = pc') ∨ (decode m.2.2.1 pc = .ok (.iload i, 2) ∧ pc + 2 = pc')
def Dll (m : Mth) (pc i pc' : Nat) : Prop := (∃ k : Fin 4, decode m.2.2.1 pc = .ok (.lload_n k, 1) ∧ (k : Nat) = i ∧ pc + 1 = pc') ∨ (decode m.2.2.1 pc = .ok (.lload i, 2) ∧ pc + 2 = pc')
def Dal (m : Mth) (pc i pc' : Nat) : Prop := (∃ k : Fin 4, decode m.2.2.1 pc = .ok (.aload_n k, 1) ∧ (k : Nat) = i ∧ pc + 1 = pc') ∨ (decode m.2.2.1 pc = .ok (.aload i, 2) ∧ pc + 2 = pc')
def Dis (m : Mth) (pc i pc' : Nat) : Prop := (∃ k : Fin 4, decode m.2.2.1 pc = .ok (.istore_n k, 1) ∧ (k : Nat) = i ∧ pc + 1 = pc') ∨ (decode m.2.2.1 pc = .ok (.istore i, 2) ∧ pc + 2 = pc')
def Dls (m : Mth) (pc i pc' : Nat) : Prop := (∃ k : Fin 4, decode m.2.2.1 pc = .ok (.lstore_n k, 1) ∧ (k : Nat) = i ∧ pc + 1 = pc') ∨ (decode m.2.2.1 pc = .ok (.lstore i, 2) ∧ pc + 2 = pc')
def Das (m : Mth) (pc i pc' : Nat) : Prop := (∃ k : Fin 4, decode m.2.2.1 pc = .ok (.astore_n k, 1) ∧ (k : Nat) = i ∧ pc + 1 = pc') ∨ (decode m.2.2.1 pc = .ok (.astore i, 2) ∧ pc + 2 = pc')
def Dc (m : Mth) (pc : Nat) (v : Int32) (pc' : Nat) : Prop := (∃ n, decode m.2.2.1 pc = .ok (.iconst n, 1) ∧ Int32.ofInt n = v ∧ pc + 1 = pc') ∨ (∃ n, decode m.2.2.1 pc = .ok (.bipush n, 2) ∧ (Int8.ofInt n).toInt32 = v ∧ pc + 2 = pc') ∨ (∃ n, decode m.2.2.1 pc = .ok (.sipush n, 3) ∧ (Int16.ofInt n).toInt32 = v ∧ pc + 3 = pc') ∨ DK m pc v pc'
def Dcl (m : Mth) (pc : Nat) (v : Int64) (pc' : Nat) : Prop := (∃ n : Fin 2, decode m.2.2.1 pc = .ok (.lconst n, 1) ∧ Int64.ofNat (n : Nat) = v ∧ pc + 1 = pc') ∨ DL m pc v pc'
/-- a jump table: where it goes -/
def swt (pc : Nat) (dflt lo hi : Int) (offs : Array Int) (x : Int) : Int := if x < lo ∨ hi < x then pc + dflt else pc + offs.getD (x - lo).toNat 0
section VR
variable {m : Mth} {d u1 u2 mc ms pc pc' : Nat} {L L' : List (Nat × Value)} {S : List Value} {sh : List Shp} {R : RefM} {I : IntM} {J : LngM} {Q : PostV}

theorem V_il {i : Nat} {x : Int32} (h : Dil m pc i pc') (hk : lkL L i = some (.int x)) (k : V m d u1 u2 mc ms pc' L (.int x :: S) sh R I J Q) : V m d u1 u2 mc ms pc L (S) sh R I J Q := by
  intro p l e Rm s mid args below meth c H locs ls b D cA F hz hw hS hl
  rcases h with ⟨k4, hd, rfl, rfl⟩ | ⟨hd, rfl⟩
  · exact lv_iload_n F.x F.cc hd rfl (lk_at hl hk) (k p l e Rm s mid args below meth c H locs ls b D cA F hz hw hS hl)
  · exact lv_iload F.x F.cc hd (lk_at hl hk) (k p l e Rm s mid args below meth c H locs ls b D cA F hz hw hS hl)
theorem V_ll {i : Nat} {x : Int64} (h : Dll m pc i pc') (hk : lkL L i = some (.long x)) (k : V m d u1 u2 mc ms pc' L (.long x :: S) sh R I J Q) : V m d u1 u2 mc ms pc L (S) sh R I J Q := by
  intro p l e Rm s mid args below meth c H locs ls b D cA F hz hw hS hl
  rcases h with ⟨k4, hd, rfl, rfl⟩ | ⟨hd, rfl⟩
  · exact lv_lload_n F.x F.cc hd rfl (lk_at hl hk) (k p l e Rm s mid args below meth c H locs ls b D cA F hz hw hS hl)
  · exact lv_lload F.x F.cc hd (lk_at hl hk) (k p l e Rm s mid args below meth c H locs ls b D cA F hz hw hS hl)
theorem V_al {i : Nat} {x : Nat} (h : Dal m pc i pc') (hk : lkL L i = some (.ref x)) (k : V m d u1 u2 mc ms pc' L (.ref x :: S) sh R I J Q) : V m d u1 u2 mc ms pc L (S) sh R I J Q := by
  intro p l e Rm s mid args below meth c H locs ls b D cA F hz hw hS hl
  rcases h with ⟨k4, hd, rfl, rfl⟩ | ⟨hd, rfl⟩
  · exact lv_aload_n F.x F.cc hd rfl (lk_at hl hk) (k p l e Rm s mid args below meth c H locs ls b D cA F hz hw hS hl)
  · exact lv_aload F.x F.cc hd (lk_at hl hk) (k p l e Rm s mid args below meth c H locs ls b D cA F hz hw hS hl)
theorem V_alN {i : Nat} (h : Dal m pc i pc') (hk : lkL L i = some .null) (k : V m d u1 u2 mc ms pc' L (.null :: S) sh R I J Q) : V m d u1 u2 mc ms pc L (S) sh R I J Q := by
  intro p l e Rm s mid args below meth c H locs ls b D cA F hz hw hS hl
  rcases h with ⟨k4, hd, rfl, rfl⟩ | ⟨hd, rfl⟩
  · exact lv_aload_nN F.x F.cc hd rfl (lk_at hl hk) (k p l e Rm s mid args below meth c H locs ls b D cA F hz hw hS hl)
  · exact lv_aloadN F.x F.cc hd (lk_at hl hk) (k p l e Rm s mid args below meth c H locs ls b D cA F hz hw hS hl)
theorem V_is {i : Nat} {x : Int32} (h : Dis m pc i pc') (hi : i < m.2.2.2.1) (hs : subL L' (st1 i (.int x) L)) (k : V m d u1 u2 mc ms pc' L' (S) sh R I J Q) : V m d u1 u2 mc ms pc L (.int x :: S) sh R I J Q := by
  intro p l e Rm s mid args below meth c H locs ls b D cA F hz hw hS hl
  rcases h with ⟨k4, hd, rfl, rfl⟩ | ⟨hd, rfl⟩
  · exact lv_istore_n F.x F.cc hd rfl hl hi rfl (fun ls2 hl2 => k p l e Rm s mid args below meth c H locs ls2 b D cA F hz hw hS (sub_lv (by rw [st1_map]; exact hl2) hs))
  · exact lv_istore F.x F.cc hd hl hi rfl (fun ls2 hl2 => k p l e Rm s mid args below meth c H locs ls2 b D cA F hz hw hS (sub_lv (by rw [st1_map]; exact hl2) hs))
theorem V_as {i : Nat} {x : Nat} (h : Das m pc i pc') (hi : i < m.2.2.2.1) (hs : subL L' (st1 i (.ref x) L)) (k : V m d u1 u2 mc ms pc' L' (S) sh R I J Q) : V m d u1 u2 mc ms pc L (.ref x :: S) sh R I J Q := by
  intro p l e Rm s mid args below meth c H locs ls b D cA F hz hw hS hl
  rcases h with ⟨k4, hd, rfl, rfl⟩ | ⟨hd, rfl⟩
  · exact lv_astore_n F.x F.cc hd rfl hl hi rfl (fun ls2 hl2 => k p l e Rm s mid args below meth c H locs ls2 b D cA F hz hw hS (sub_lv (by rw [st1_map]; exact hl2) hs))
  · exact lv_astore F.x F.cc hd hl hi rfl (fun ls2 hl2 => k p l e Rm s mid args below meth c H locs ls2 b D cA F hz hw hS (sub_lv (by rw [st1_map]; exact hl2) hs))
theorem V_asN {i : Nat} (h : Das m pc i pc') (hi : i < m.2.2.2.1) (hs : subL L' (st1 i .null L)) (k : V m d u1 u2 mc ms pc' L' (S) sh R I J Q) : V m d u1 u2 mc ms pc L (.null :: S) sh R I J Q := by
  intro p l e Rm s mid args below meth c H locs ls b D cA F hz hw hS hl
  rcases h with ⟨k4, hd, rfl, rfl⟩ | ⟨hd, rfl⟩
  · exact lv_astore_nN F.x F.cc hd rfl hl hi rfl (fun ls2 hl2 => k p l e Rm s mid args below meth c H locs ls2 b D cA F hz hw hS (sub_lv (by rw [st1_map]; exact hl2) hs))
  · exact lv_astoreN F.x F.cc hd hl hi rfl (fun ls2 hl2 => k p l e Rm s mid args below meth c H locs ls2 b D cA F hz hw hS (sub_lv (by rw [st1_map]; exact hl2) hs))
theorem V_ls {i : Nat} {x : Int64} (h : Dls m pc i pc') (hi : i + 1 < m.2.2.2.1) (hs : subL L' (st2 i (.long x) L)) (k : V m d u1 u2 mc ms pc' L' (S) sh R I J Q) : V m d u1 u2 mc ms pc L (.long x :: S) sh R I J Q := by
  intro p l e Rm s mid args below meth c H locs ls b D cA F hz hw hS hl
  rcases h with ⟨k4, hd, rfl, rfl⟩ | ⟨hd, rfl⟩
  · exact lv_lstore_n F.x F.cc hd rfl hl hi rfl (fun ls2 hl2 => k p l e Rm s mid args below meth c H locs ls2 b D cA F hz hw hS (sub_lv (by rw [st2_map]; exact hl2) hs))
  · exact lv_lstore F.x F.cc hd hl hi rfl (fun ls2 hl2 => k p l e Rm s mid args below meth c H locs ls2 b D cA F hz hw hS (sub_lv (by rw [st2_map]; exact hl2) hs))
theorem V_L (hs : subL L' L) (k : V m d u1 u2 mc ms pc L' S sh R I J Q) : V m d u1 u2 mc ms pc L S sh R I J Q := fun p l e Rm s mid args below meth c H locs ls b D cA F hz hw hS hl => k p l e Rm s mid args below meth c H locs ls b D cA F hz hw hS (sub_lv hl hs)
theorem lk_idx {b : Nat} {i : Nat} {v : Value} : ∀ {L : List (Nat × Value)}, lkL L i = some v → ∃ k : Nat, (L.map (fun q => (q.1, tr b q.2)))[k]? = some (i, tr b v)
  | [], h => by cases h
  | q :: L, h => by
    by_cases hq : q.1 = i
    · have h' : (if q.1 = i then some q.2 else lkL L i) = some v := h
      rw [if_pos hq] at h'
      cases h'
      subst hq
      exact ⟨0, rfl⟩
    · have h' : (if q.1 = i then some q.2 else lkL L i) = some v := h
      rw [if_neg hq] at h'
      obtain ⟨k, hk⟩ := lk_idx (b := b) h'
      exact ⟨k + 1, by simpa using hk⟩
theorem V_iinc {i : Nat} {n : Int} {x n' : Int32} (h : D1 m pc (.iinc i n) 3 pc') (hn : Int32.ofInt n = n') (hk : lkL L i = some (.int x)) (hi : i < m.2.2.2.1) (hs : subL L' (st1 i (.int (x + n')) L)) (k : V m d u1 u2 mc ms pc' L' (S) sh R I J Q) : V m d u1 u2 mc ms pc L (S) sh R I J Q := by
  subst hn
  obtain ⟨hd, rfl⟩ := h
  intro p l e Rm s mid args below meth c H locs ls b D cA F hz hw hS hl
  obtain ⟨k9, hk9⟩ := lk_idx (b := b) hk
  exact lv_iinc (v := x + Int32.ofInt n) F.x F.cc hd hl hk9 rfl hi rfl (fun ls2 hl2 => k p l e Rm s mid args below meth c H locs ls2 b D cA F hz hw hS (sub_lv (by rw [st1_map]; exact hl2) hs))
theorem V_c {v : Int32} (h : Dc m pc v pc') (k : V m d u1 u2 mc ms pc' L (.int v :: S) sh R I J Q) : V m d u1 u2 mc ms pc L (S) sh R I J Q := by
  intro p l e Rm s mid args below meth c H locs ls b D cA F hz hw hS hl
  rcases h with ⟨n, hd, hv, rfl⟩ | ⟨n, hd, hv, rfl⟩ | ⟨n, hd, hv, rfl⟩ | ⟨n, hd, hc, rfl⟩ | ⟨n, hd, hc, rfl⟩
  · exact lv_iconst F.x F.cc hd hv (k p l e Rm s mid args below meth c H locs ls b D cA F hz hw hS hl)
  · exact lv_bipush F.x F.cc hd hv (k p l e Rm s mid args below meth c H locs ls b D cA F hz hw hS hl)
  · exact lv_sipush F.x F.cc hd hv (k p l e Rm s mid args below meth c H locs ls b D cA F hz hw hS hl)
  · exact lv_ldc F.x F.cc F.o (F.t _ hc) hd (k p l e Rm s mid args below meth c H locs ls b D cA F hz hw hS hl)
  · exact lv_ldcw F.x F.cc F.o (F.t _ hc) hd (k p l e Rm s mid args below meth c H locs ls b D cA F hz hw hS hl)
theorem V_cl {v : Int64} (h : Dcl m pc v pc') (k : V m d u1 u2 mc ms pc' L (.long v :: S) sh R I J Q) : V m d u1 u2 mc ms pc L (S) sh R I J Q := by
  intro p l e Rm s mid args below meth c H locs ls b D cA F hz hw hS hl
  rcases h with ⟨n, hd, hv, rfl⟩ | ⟨n, hd, hc, rfl⟩
  · exact lv_lconst F.x F.cc hd hv (k p l e Rm s mid args below meth c H locs ls b D cA F hz hw hS hl)
  · exact lv_ldc2 F.x F.cc F.o (F.t _ hc) hd (k p l e Rm s mid args below meth c H locs ls b D cA F hz hw hS hl)
theorem V_iadd {x y : Int32} (h : D1 m pc .iadd 1 pc') (k : V m d u1 u2 mc ms pc' L (.int (x + y) :: S) sh R I J Q) : V m d u1 u2 mc ms pc L (.int y :: .int x :: S) sh R I J Q := by
  obtain ⟨hd, rfl⟩ := h
  intro p l e Rm s mid args below meth c H locs ls b D cA F hz hw hS hl
  exact lv_iadd F.x F.cc hd (k p l e Rm s mid args below meth c H locs ls b D cA F hz hw hS hl)
theorem V_isub {x y : Int32} (h : D1 m pc .isub 1 pc') (k : V m d u1 u2 mc ms pc' L (.int (x - y) :: S) sh R I J Q) : V m d u1 u2 mc ms pc L (.int y :: .int x :: S) sh R I J Q := by
  obtain ⟨hd, rfl⟩ := h
  intro p l e Rm s mid args below meth c H locs ls b D cA F hz hw hS hl
  exact lv_isub F.x F.cc hd (k p l e Rm s mid args below meth c H locs ls b D cA F hz hw hS hl)
theorem V_imul {x y : Int32} (h : D1 m pc .imul 1 pc') (k : V m d u1 u2 mc ms pc' L (.int (x * y) :: S) sh R I J Q) : V m d u1 u2 mc ms pc L (.int y :: .int x :: S) sh R I J Q := by
  obtain ⟨hd, rfl⟩ := h
  intro p l e Rm s mid args below meth c H locs ls b D cA F hz hw hS hl
  exact lv_imul F.x F.cc hd (k p l e Rm s mid args below meth c H locs ls b D cA F hz hw hS hl)
theorem V_iand {x y : Int32} (h : D1 m pc .iand 1 pc') (k : V m d u1 u2 mc ms pc' L (.int (x &&& y) :: S) sh R I J Q) : V m d u1 u2 mc ms pc L (.int y :: .int x :: S) sh R I J Q := by
  obtain ⟨hd, rfl⟩ := h
  intro p l e Rm s mid args below meth c H locs ls b D cA F hz hw hS hl
  exact lv_iand F.x F.cc hd (k p l e Rm s mid args below meth c H locs ls b D cA F hz hw hS hl)
theorem V_ior {x y : Int32} (h : D1 m pc .ior 1 pc') (k : V m d u1 u2 mc ms pc' L (.int (x ||| y) :: S) sh R I J Q) : V m d u1 u2 mc ms pc L (.int y :: .int x :: S) sh R I J Q := by
  obtain ⟨hd, rfl⟩ := h
  intro p l e Rm s mid args below meth c H locs ls b D cA F hz hw hS hl
  exact lv_ior F.x F.cc hd (k p l e Rm s mid args below meth c H locs ls b D cA F hz hw hS hl)
theorem V_ishl {x y : Int32} (h : D1 m pc .ishl 1 pc') (k : V m d u1 u2 mc ms pc' L (.int (x <<< (y &&& 31)) :: S) sh R I J Q) : V m d u1 u2 mc ms pc L (.int y :: .int x :: S) sh R I J Q := by
  obtain ⟨hd, rfl⟩ := h
  intro p l e Rm s mid args below meth c H locs ls b D cA F hz hw hS hl
  exact lv_ishl F.x F.cc hd (k p l e Rm s mid args below meth c H locs ls b D cA F hz hw hS hl)
theorem V_ishr {x y : Int32} (h : D1 m pc .ishr 1 pc') (k : V m d u1 u2 mc ms pc' L (.int (x >>> (y &&& 31)) :: S) sh R I J Q) : V m d u1 u2 mc ms pc L (.int y :: .int x :: S) sh R I J Q := by
  obtain ⟨hd, rfl⟩ := h
  intro p l e Rm s mid args below meth c H locs ls b D cA F hz hw hS hl
  exact lv_ishr F.x F.cc hd (k p l e Rm s mid args below meth c H locs ls b D cA F hz hw hS hl)
theorem V_ladd {x y : Int64} (h : D1 m pc .ladd 1 pc') (k : V m d u1 u2 mc ms pc' L (.long (x + y) :: S) sh R I J Q) : V m d u1 u2 mc ms pc L (.long y :: .long x :: S) sh R I J Q := by
  obtain ⟨hd, rfl⟩ := h
  intro p l e Rm s mid args below meth c H locs ls b D cA F hz hw hS hl
  exact lv_ladd F.x F.cc hd (k p l e Rm s mid args below meth c H locs ls b D cA F hz hw hS hl)
theorem V_lsub {x y : Int64} (h : D1 m pc .lsub 1 pc') (k : V m d u1 u2 mc ms pc' L (.long (x - y) :: S) sh R I J Q) : V m d u1 u2 mc ms pc L (.long y :: .long x :: S) sh R I J Q := by
  obtain ⟨hd, rfl⟩ := h
  intro p l e Rm s mid args below meth c H locs ls b D cA F hz hw hS hl
  exact lv_lsub F.x F.cc hd (k p l e Rm s mid args below meth c H locs ls b D cA F hz hw hS hl)
theorem V_lmul {x y : Int64} (h : D1 m pc .lmul 1 pc') (k : V m d u1 u2 mc ms pc' L (.long (x * y) :: S) sh R I J Q) : V m d u1 u2 mc ms pc L (.long y :: .long x :: S) sh R I J Q := by
  obtain ⟨hd, rfl⟩ := h
  intro p l e Rm s mid args below meth c H locs ls b D cA F hz hw hS hl
  exact lv_lmul F.x F.cc hd (k p l e Rm s mid args below meth c H locs ls b D cA F hz hw hS hl)
theorem V_idiv {x y : Int32} (h : D1 m pc .idiv 1 pc') (hne : ¬ y = 0) (k : V m d u1 u2 mc ms pc' L (.int (x / y) :: S) sh R I J Q) : V m d u1 u2 mc ms pc L (.int y :: .int x :: S) sh R I J Q := by
  obtain ⟨hd, rfl⟩ := h
  intro p l e Rm s mid args below meth c H locs ls b D cA F hz hw hS hl
  exact lv_idiv F.x F.cc hd hne (k p l e Rm s mid args below meth c H locs ls b D cA F hz hw hS hl)
theorem V_irem {x y : Int32} (h : D1 m pc .irem 1 pc') (hne : ¬ y = 0) (k : V m d u1 u2 mc ms pc' L (.int (x - x / y * y) :: S) sh R I J Q) : V m d u1 u2 mc ms pc L (.int y :: .int x :: S) sh R I J Q := by
  obtain ⟨hd, rfl⟩ := h
  intro p l e Rm s mid args below meth c H locs ls b D cA F hz hw hS hl
  exact lv_irem F.x F.cc hd hne (k p l e Rm s mid args below meth c H locs ls b D cA F hz hw hS hl)
theorem V_ldiv {x y : Int64} (h : D1 m pc .ldiv 1 pc') (hne : ¬ y = 0) (k : V m d u1 u2 mc ms pc' L (.long (x / y) :: S) sh R I J Q) : V m d u1 u2 mc ms pc L (.long y :: .long x :: S) sh R I J Q := by
  obtain ⟨hd, rfl⟩ := h
  intro p l e Rm s mid args below meth c H locs ls b D cA F hz hw hS hl
  exact lv_ldiv F.x F.cc hd hne (k p l e Rm s mid args below meth c H locs ls b D cA F hz hw hS hl)
theorem V_lrem {x y : Int64} (h : D1 m pc .lrem 1 pc') (hne : ¬ y = 0) (k : V m d u1 u2 mc ms pc' L (.long (x - x / y * y) :: S) sh R I J Q) : V m d u1 u2 mc ms pc L (.long y :: .long x :: S) sh R I J Q := by
  obtain ⟨hd, rfl⟩ := h
  intro p l e Rm s mid args below meth c H locs ls b D cA F hz hw hS hl
  exact lv_lrem F.x F.cc hd hne (k p l e Rm s mid args below meth c H locs ls b D cA F hz hw hS hl)
theorem V_lneg {x : Int64} (h : D1 m pc .lneg 1 pc') (k : V m d u1 u2 mc ms pc' L (.long (-x) :: S) sh R I J Q) : V m d u1 u2 mc ms pc L (.long x :: S) sh R I J Q := by
  obtain ⟨hd, rfl⟩ := h
  intro p l e Rm s mid args below meth c H locs ls b D cA F hz hw hS hl
  exact lv_lneg F.x F.cc hd (k p l e Rm s mid args below meth c H locs ls b D cA F hz hw hS hl)
theorem V_iushr {x y : Int32} (h : D1 m pc .iushr 1 pc') (k : V m d u1 u2 mc ms pc' L (.int (x.toUInt32 >>> (y.toUInt32 &&& Int32.toUInt32 31)).toInt32 :: S) sh R I J Q) : V m d u1 u2 mc ms pc L (.int y :: .int x :: S) sh R I J Q := by
  obtain ⟨hd, rfl⟩ := h
  intro p l e Rm s mid args below meth c H locs ls b D cA F hz hw hS hl
  exact lv_iushr F.x F.cc hd rfl (k p l e Rm s mid args below meth c H locs ls b D cA F hz hw hS hl)
theorem V_i2l {x : Int32} (h : D1 m pc .i2l 1 pc') (k : V m d u1 u2 mc ms pc' L (.long x.toInt64 :: S) sh R I J Q) : V m d u1 u2 mc ms pc L (.int x :: S) sh R I J Q := by
  obtain ⟨hd, rfl⟩ := h
  intro p l e Rm s mid args below meth c H locs ls b D cA F hz hw hS hl
  exact lv_i2l F.x F.cc hd rfl (k p l e Rm s mid args below meth c H locs ls b D cA F hz hw hS hl)
theorem V_l2i {x : Int64} (h : D1 m pc .l2i 1 pc') (k : V m d u1 u2 mc ms pc' L (.int x.toInt32 :: S) sh R I J Q) : V m d u1 u2 mc ms pc L (.long x :: S) sh R I J Q := by
  obtain ⟨hd, rfl⟩ := h
  intro p l e Rm s mid args below meth c H locs ls b D cA F hz hw hS hl
  exact lv_l2i F.x F.cc hd rfl (k p l e Rm s mid args below meth c H locs ls b D cA F hz hw hS hl)
theorem V_i2b {x : Int32} (h : D1 m pc .i2b 1 pc') (k : V m d u1 u2 mc ms pc' L (.int x.toInt8.toInt32 :: S) sh R I J Q) : V m d u1 u2 mc ms pc L (.int x :: S) sh R I J Q := by
  obtain ⟨hd, rfl⟩ := h
  intro p l e Rm s mid args below meth c H locs ls b D cA F hz hw hS hl
  exact lv_i2b F.x F.cc hd rfl (k p l e Rm s mid args below meth c H locs ls b D cA F hz hw hS hl)
theorem V_lcmp {x y : Int64} (h : D1 m pc .lcmp 1 pc') (k : V m d u1 u2 mc ms pc' L (.int (lg_cmp x y) :: S) sh R I J Q) : V m d u1 u2 mc ms pc L (.long y :: .long x :: S) sh R I J Q := by
  obtain ⟨hd, rfl⟩ := h
  intro p l e Rm s mid args below meth c H locs ls b D cA F hz hw hS hl
  exact W.lcmp F.x F.cc hd (k p l e Rm s mid args below meth c H locs ls b D cA F hz hw hS hl)
theorem V_dup {v : Value} (h : D1 m pc .dup 1 pc') (hv : v.category = 1) (k : V m d u1 u2 mc ms pc' L (v :: v :: S) sh R I J Q) : V m d u1 u2 mc ms pc L (v :: S) sh R I J Q := by
  obtain ⟨hd, rfl⟩ := h
  intro p l e Rm s mid args below meth c H locs ls b D cA F hz hw hS hl
  exact lv_dup F.x F.cc hd (by rw [tr_cat]; exact hv) (k p l e Rm s mid args below meth c H locs ls b D cA F hz hw hS hl)
theorem V_dup2 {v w : Value} (h : D1 m pc .dup2 1 pc') (hv : v.category = 1) (hw' : w.category = 1) (k : V m d u1 u2 mc ms pc' L (v :: w :: v :: w :: S) sh R I J Q) : V m d u1 u2 mc ms pc L (v :: w :: S) sh R I J Q := by
  obtain ⟨hd, rfl⟩ := h
  intro p l e Rm s mid args below meth c H locs ls b D cA F hz hw hS hl
  exact lv_dup2_11 F.x F.cc hd (by rw [tr_cat]; exact hv) (by rw [tr_cat]; exact hw') (k p l e Rm s mid args below meth c H locs ls b D cA F hz hw hS hl)
theorem V_pop {v : Value} (h : D1 m pc .pop 1 pc') (hv : v.category = 1) (k : V m d u1 u2 mc ms pc' L (S) sh R I J Q) : V m d u1 u2 mc ms pc L (v :: S) sh R I J Q := by
  obtain ⟨hd, rfl⟩ := h
  intro p l e Rm s mid args below meth c H locs ls b D cA F hz hw hS hl
  exact lv_pop F.x F.cc hd (by rw [tr_cat]; exact hv) (k p l e Rm s mid args below meth c H locs ls b D cA F hz hw hS hl)
theorem V_pop2 {v : Value} (h : D1 m pc .pop2 1 pc') (hv : v.category = 2) (k : V m d u1 u2 mc ms pc' L (S) sh R I J Q) : V m d u1 u2 mc ms pc L (v :: S) sh R I J Q := by
  obtain ⟨hd, rfl⟩ := h
  intro p l e Rm s mid args below meth c H locs ls b D cA F hz hw hS hl
  exact lv_pop2_2 F.x F.cc hd (by rw [tr_cat]; exact hv) (k p l e Rm s mid args below meth c H locs ls b D cA F hz hw hS hl)
theorem V_null (h : D1 m pc .aconst_null 1 pc') (k : V m d u1 u2 mc ms pc' L (.null :: S) sh R I J Q) : V m d u1 u2 mc ms pc L (S) sh R I J Q := by
  obtain ⟨hd, rfl⟩ := h
  intro p l e Rm s mid args below meth c H locs ls b D cA F hz hw hS hl
  exact lv_null F.x F.cc hd (k p l e Rm s mid args below meth c H locs ls b D cA F hz hw hS hl)
theorem V_if_eq {x : Int32} {off : Int} {tgt : Nat} (h : D2 m pc (.ifCond .eq off) off pc' tgt) (kt : x = 0 → V m d u1 u2 mc ms tgt L S sh R I J Q) (kf : ¬ x = 0 → V m d u1 u2 mc ms pc' L S sh R I J Q) : V m d u1 u2 mc ms pc L (.int x :: S) sh R I J Q := by
  obtain ⟨hd, rfl, ht⟩ := h
  intro p l e Rm s mid args below meth c H locs ls b D cA F hz hw hS hl
  exact lv_if_eq F.x F.cc hd ht (fun hc => kt hc p l e Rm s mid args below meth c H locs ls b D cA F hz hw hS hl) (fun hc => kf hc p l e Rm s mid args below meth c H locs ls b D cA F hz hw hS hl)
theorem V_ic_eq {x y : Int32} {off : Int} {tgt : Nat} (h : D2 m pc (.if_icmp .eq off) off pc' tgt) (kt : x = y → V m d u1 u2 mc ms tgt L S sh R I J Q) (kf : ¬ x = y → V m d u1 u2 mc ms pc' L S sh R I J Q) : V m d u1 u2 mc ms pc L (.int y :: .int x :: S) sh R I J Q := by
  obtain ⟨hd, rfl, ht⟩ := h
  intro p l e Rm s mid args below meth c H locs ls b D cA F hz hw hS hl
  exact lv_icmp_eq F.x F.cc hd ht (fun hc => kt hc p l e Rm s mid args below meth c H locs ls b D cA F hz hw hS hl) (fun hc => kf hc p l e Rm s mid args below meth c H locs ls b D cA F hz hw hS hl)
theorem V_if_eq_t {x : Int32} {off : Int} {tgt : Nat} (h : D2 m pc (.ifCond .eq off) off pc' tgt) (hc : x = 0) (k : V m d u1 u2 mc ms tgt L S sh R I J Q) : V m d u1 u2 mc ms pc L (.int x :: S) sh R I J Q := V_if_eq h (fun _ => k) (fun h2 => absurd hc (by first | exact h2 | exact not_not_intro h2))
theorem V_if_eq_f {x : Int32} {off : Int} {tgt : Nat} (h : D2 m pc (.ifCond .eq off) off pc' tgt) (hc : ¬ x = 0) (k : V m d u1 u2 mc ms pc' L S sh R I J Q) : V m d u1 u2 mc ms pc L (.int x :: S) sh R I J Q := V_if_eq h (fun h2 => absurd h2 (by first | exact hc | exact not_not_intro hc)) (fun _ => k)
theorem V_ic_eq_t {x y : Int32} {off : Int} {tgt : Nat} (h : D2 m pc (.if_icmp .eq off) off pc' tgt) (hc : x = y) (k : V m d u1 u2 mc ms tgt L S sh R I J Q) : V m d u1 u2 mc ms pc L (.int y :: .int x :: S) sh R I J Q := V_ic_eq h (fun _ => k) (fun h2 => absurd hc (by first | exact h2 | exact not_not_intro h2))
theorem V_ic_eq_f {x y : Int32} {off : Int} {tgt : Nat} (h : D2 m pc (.if_icmp .eq off) off pc' tgt) (hc : ¬ x = y) (k : V m d u1 u2 mc ms pc' L S sh R I J Q) : V m d u1 u2 mc ms pc L (.int y :: .int x :: S) sh R I J Q := V_ic_eq h (fun h2 => absurd h2 (by first | exact hc | exact not_not_intro hc)) (fun _ => k)
theorem V_if_ne {x : Int32} {off : Int} {tgt : Nat} (h : D2 m pc (.ifCond .ne off) off pc' tgt) (kt : ¬ x = 0 → V m d u1 u2 mc ms tgt L S sh R I J Q) (kf : x = 0 → V m d u1 u2 mc ms pc' L S sh R I J Q) : V m d u1 u2 mc ms pc L (.int x :: S) sh R I J Q := by
  obtain ⟨hd, rfl, ht⟩ := h
  intro p l e Rm s mid args below meth c H locs ls b D cA F hz hw hS hl
  exact lv_if_ne F.x F.cc hd ht (fun hc => kt hc p l e Rm s mid args below meth c H locs ls b D cA F hz hw hS hl) (fun hc => kf hc p l e Rm s mid args below meth c H locs ls b D cA F hz hw hS hl)
theorem V_ic_ne {x y : Int32} {off : Int} {tgt : Nat} (h : D2 m pc (.if_icmp .ne off) off pc' tgt) (kt : ¬ x = y → V m d u1 u2 mc ms tgt L S sh R I J Q) (kf : x = y → V m d u1 u2 mc ms pc' L S sh R I J Q) : V m d u1 u2 mc ms pc L (.int y :: .int x :: S) sh R I J Q := by
  obtain ⟨hd, rfl, ht⟩ := h
  intro p l e Rm s mid args below meth c H locs ls b D cA F hz hw hS hl
  exact lv_icmp_ne F.x F.cc hd ht (fun hc => kt hc p l e Rm s mid args below meth c H locs ls b D cA F hz hw hS hl) (fun hc => kf hc p l e Rm s mid args below meth c H locs ls b D cA F hz hw hS hl)
theorem V_if_ne_t {x : Int32} {off : Int} {tgt : Nat} (h : D2 m pc (.ifCond .ne off) off pc' tgt) (hc : ¬ x = 0) (k : V m d u1 u2 mc ms tgt L S sh R I J Q) : V m d u1 u2 mc ms pc L (.int x :: S) sh R I J Q := V_if_ne h (fun _ => k) (fun h2 => absurd hc (by first | exact h2 | exact not_not_intro h2))
theorem V_if_ne_f {x : Int32} {off : Int} {tgt : Nat} (h : D2 m pc (.ifCond .ne off) off pc' tgt) (hc : x = 0) (k : V m d u1 u2 mc ms pc' L S sh R I J Q) : V m d u1 u2 mc ms pc L (.int x :: S) sh R I J Q := V_if_ne h (fun h2 => absurd h2 (by first | exact hc | exact not_not_intro hc)) (fun _ => k)
theorem V_ic_ne_t {x y : Int32} {off : Int} {tgt : Nat} (h : D2 m pc (.if_icmp .ne off) off pc' tgt) (hc : ¬ x = y) (k : V m d u1 u2 mc ms tgt L S sh R I J Q) : V m d u1 u2 mc ms pc L (.int y :: .int x :: S) sh R I J Q := V_ic_ne h (fun _ => k) (fun h2 => absurd hc (by first | exact h2 | exact not_not_intro h2))
theorem V_ic_ne_f {x y : Int32} {off : Int} {tgt : Nat} (h : D2 m pc (.if_icmp .ne off) off pc' tgt) (hc : x = y) (k : V m d u1 u2 mc ms pc' L S sh R I J Q) : V m d u1 u2 mc ms pc L (.int y :: .int x :: S) sh R I J Q := V_ic_ne h (fun h2 => absurd h2 (by first | exact hc | exact not_not_intro hc)) (fun _ => k)
theorem V_if_lt {x : Int32} {off : Int} {tgt : Nat} (h : D2 m pc (.ifCond .lt off) off pc' tgt) (kt : x < 0 → V m d u1 u2 mc ms tgt L S sh R I J Q) (kf : ¬ x < 0 → V m d u1 u2 mc ms pc' L S sh R I J Q) : V m d u1 u2 mc ms pc L (.int x :: S) sh R I J Q := by
  obtain ⟨hd, rfl, ht⟩ := h
  intro p l e Rm s mid args below meth c H locs ls b D cA F hz hw hS hl
  exact lv_if_lt F.x F.cc hd ht (fun hc => kt hc p l e Rm s mid args below meth c H locs ls b D cA F hz hw hS hl) (fun hc => kf hc p l e Rm s mid args below meth c H locs ls b D cA F hz hw hS hl)
theorem V_ic_lt {x y : Int32} {off : Int} {tgt : Nat} (h : D2 m pc (.if_icmp .lt off) off pc' tgt) (kt : x < y → V m d u1 u2 mc ms tgt L S sh R I J Q) (kf : ¬ x < y → V m d u1 u2 mc ms pc' L S sh R I J Q) : V m d u1 u2 mc ms pc L (.int y :: .int x :: S) sh R I J Q := by
  obtain ⟨hd, rfl, ht⟩ := h
  intro p l e Rm s mid args below meth c H locs ls b D cA F hz hw hS hl
  exact lv_icmp_lt F.x F.cc hd ht (fun hc => kt hc p l e Rm s mid args below meth c H locs ls b D cA F hz hw hS hl) (fun hc => kf hc p l e Rm s mid args below meth c H locs ls b D cA F hz hw hS hl)
theorem V_if_lt_t {x : Int32} {off : Int} {tgt : Nat} (h : D2 m pc (.ifCond .lt off) off pc' tgt) (hc : x < 0) (k : V m d u1 u2 mc ms tgt L S sh R I J Q) : V m d u1 u2 mc ms pc L (.int x :: S) sh R I J Q := V_if_lt h (fun _ => k) (fun h2 => absurd hc (by first | exact h2 | exact not_not_intro h2))
theorem V_if_lt_f {x : Int32} {off : Int} {tgt : Nat} (h : D2 m pc (.ifCond .lt off) off pc' tgt) (hc : ¬ x < 0) (k : V m d u1 u2 mc ms pc' L S sh R I J Q) : V m d u1 u2 mc ms pc L (.int x :: S) sh R I J Q := V_if_lt h (fun h2 => absurd h2 (by first | exact hc | exact not_not_intro hc)) (fun _ => k)
theorem V_ic_lt_t {x y : Int32} {off : Int} {tgt : Nat} (h : D2 m pc (.if_icmp .lt off) off pc' tgt) (hc : x < y) (k : V m d u1 u2 mc ms tgt L S sh R I J Q) : V m d u1 u2 mc ms pc L (.int y :: .int x :: S) sh R I J Q := V_ic_lt h (fun _ => k) (fun h2 => absurd hc (by first | exact h2 | exact not_not_intro h2))
theorem V_ic_lt_f {x y : Int32} {off : Int} {tgt : Nat} (h : D2 m pc (.if_icmp .lt off) off pc' tgt) (hc : ¬ x < y) (k : V m d u1 u2 mc ms pc' L S sh R I J Q) : V m d u1 u2 mc ms pc L (.int y :: .int x :: S) sh R I J Q := V_ic_lt h (fun h2 => absurd h2 (by first | exact hc | exact not_not_intro hc)) (fun _ => k)
theorem V_if_ge {x : Int32} {off : Int} {tgt : Nat} (h : D2 m pc (.ifCond .ge off) off pc' tgt) (kt : 0 ≤ x → V m d u1 u2 mc ms tgt L S sh R I J Q) (kf : ¬ 0 ≤ x → V m d u1 u2 mc ms pc' L S sh R I J Q) : V m d u1 u2 mc ms pc L (.int x :: S) sh R I J Q := by
  obtain ⟨hd, rfl, ht⟩ := h
  intro p l e Rm s mid args below meth c H locs ls b D cA F hz hw hS hl
  exact lv_if_ge F.x F.cc hd ht (fun hc => kt hc p l e Rm s mid args below meth c H locs ls b D cA F hz hw hS hl) (fun hc => kf hc p l e Rm s mid args below meth c H locs ls b D cA F hz hw hS hl)
theorem V_ic_ge {x y : Int32} {off : Int} {tgt : Nat} (h : D2 m pc (.if_icmp .ge off) off pc' tgt) (kt : y ≤ x → V m d u1 u2 mc ms tgt L S sh R I J Q) (kf : ¬ y ≤ x → V m d u1 u2 mc ms pc' L S sh R I J Q) : V m d u1 u2 mc ms pc L (.int y :: .int x :: S) sh R I J Q := by
  obtain ⟨hd, rfl, ht⟩ := h
  intro p l e Rm s mid args below meth c H locs ls b D cA F hz hw hS hl
  exact lv_icmp_ge F.x F.cc hd ht (fun hc => kt hc p l e Rm s mid args below meth c H locs ls b D cA F hz hw hS hl) (fun hc => kf hc p l e Rm s mid args below meth c H locs ls b D cA F hz hw hS hl)
theorem V_if_ge_t {x : Int32} {off : Int} {tgt : Nat} (h : D2 m pc (.ifCond .ge off) off pc' tgt) (hc : 0 ≤ x) (k : V m d u1 u2 mc ms tgt L S sh R I J Q) : V m d u1 u2 mc ms pc L (.int x :: S) sh R I J Q := V_if_ge h (fun _ => k) (fun h2 => absurd hc (by first | exact h2 | exact not_not_intro h2))
theorem V_if_ge_f {x : Int32} {off : Int} {tgt : Nat} (h : D2 m pc (.ifCond .ge off) off pc' tgt) (hc : ¬ 0 ≤ x) (k : V m d u1 u2 mc ms pc' L S sh R I J Q) : V m d u1 u2 mc ms pc L (.int x :: S) sh R I J Q := V_if_ge h (fun h2 => absurd h2 (by first | exact hc | exact not_not_intro hc)) (fun _ => k)
theorem V_ic_ge_t {x y : Int32} {off : Int} {tgt : Nat} (h : D2 m pc (.if_icmp .ge off) off pc' tgt) (hc : y ≤ x) (k : V m d u1 u2 mc ms tgt L S sh R I J Q) : V m d u1 u2 mc ms pc L (.int y :: .int x :: S) sh R I J Q := V_ic_ge h (fun _ => k) (fun h2 => absurd hc (by first | exact h2 | exact not_not_intro h2))
theorem V_ic_ge_f {x y : Int32} {off : Int} {tgt : Nat} (h : D2 m pc (.if_icmp .ge off) off pc' tgt) (hc : ¬ y ≤ x) (k : V m d u1 u2 mc ms pc' L S sh R I J Q) : V m d u1 u2 mc ms pc L (.int y :: .int x :: S) sh R I J Q := V_ic_ge h (fun h2 => absurd h2 (by first | exact hc | exact not_not_intro hc)) (fun _ => k)
theorem V_if_gt {x : Int32} {off : Int} {tgt : Nat} (h : D2 m pc (.ifCond .gt off) off pc' tgt) (kt : 0 < x → V m d u1 u2 mc ms tgt L S sh R I J Q) (kf : ¬ 0 < x → V m d u1 u2 mc ms pc' L S sh R I J Q) : V m d u1 u2 mc ms pc L (.int x :: S) sh R I J Q := by
  obtain ⟨hd, rfl, ht⟩ := h
  intro p l e Rm s mid args below meth c H locs ls b D cA F hz hw hS hl
  exact lv_if_gt F.x F.cc hd ht (fun hc => kt hc p l e Rm s mid args below meth c H locs ls b D cA F hz hw hS hl) (fun hc => kf hc p l e Rm s mid args below meth c H locs ls b D cA F hz hw hS hl)
theorem V_ic_gt {x y : Int32} {off : Int} {tgt : Nat} (h : D2 m pc (.if_icmp .gt off) off pc' tgt) (kt : y < x → V m d u1 u2 mc ms tgt L S sh R I J Q) (kf : ¬ y < x → V m d u1 u2 mc ms pc' L S sh R I J Q) : V m d u1 u2 mc ms pc L (.int y :: .int x :: S) sh R I J Q := by
  obtain ⟨hd, rfl, ht⟩ := h
  intro p l e Rm s mid args below meth c H locs ls b D cA F hz hw hS hl
  exact lv_icmp_gt F.x F.cc hd ht (fun hc => kt hc p l e Rm s mid args below meth c H locs ls b D cA F hz hw hS hl) (fun hc => kf hc p l e Rm s mid args below meth c H locs ls b D cA F hz hw hS hl)
theorem V_if_gt_t {x : Int32} {off : Int} {tgt : Nat} (h : D2 m pc (.ifCond .gt off) off pc' tgt) (hc : 0 < x) (k : V m d u1 u2 mc ms tgt L S sh R I J Q) : V m d u1 u2 mc ms pc L (.int x :: S) sh R I J Q := V_if_gt h (fun _ => k) (fun h2 => absurd hc (by first | exact h2 | exact not_not_intro h2))
theorem V_if_gt_f {x : Int32} {off : Int} {tgt : Nat} (h : D2 m pc (.ifCond .gt off) off pc' tgt) (hc : ¬ 0 < x) (k : V m d u1 u2 mc ms pc' L S sh R I J Q) : V m d u1 u2 mc ms pc L (.int x :: S) sh R I J Q := V_if_gt h (fun h2 => absurd h2 (by first | exact hc | exact not_not_intro hc)) (fun _ => k)
theorem V_ic_gt_t {x y : Int32} {off : Int} {tgt : Nat} (h : D2 m pc (.if_icmp .gt off) off pc' tgt) (hc : y < x) (k : V m d u1 u2 mc ms tgt L S sh R I J Q) : V m d u1 u2 mc ms pc L (.int y :: .int x :: S) sh R I J Q := V_ic_gt h (fun _ => k) (fun h2 => absurd hc (by first | exact h2 | exact not_not_intro h2))
theorem V_ic_gt_f {x y : Int32} {off : Int} {tgt : Nat} (h : D2 m pc (.if_icmp .gt off) off pc' tgt) (hc : ¬ y < x) (k : V m d u1 u2 mc ms pc' L S sh R I J Q) : V m d u1 u2 mc ms pc L (.int y :: .int x :: S) sh R I J Q := V_ic_gt h (fun h2 => absurd h2 (by first | exact hc | exact not_not_intro hc)) (fun _ => k)
theorem V_if_le {x : Int32} {off : Int} {tgt : Nat} (h : D2 m pc (.ifCond .le off) off pc' tgt) (kt : x ≤ 0 → V m d u1 u2 mc ms tgt L S sh R I J Q) (kf : ¬ x ≤ 0 → V m d u1 u2 mc ms pc' L S sh R I J Q) : V m d u1 u2 mc ms pc L (.int x :: S) sh R I J Q := by
  obtain ⟨hd, rfl, ht⟩ := h
  intro p l e Rm s mid args below meth c H locs ls b D cA F hz hw hS hl
  exact lv_if_le F.x F.cc hd ht (fun hc => kt hc p l e Rm s mid args below meth c H locs ls b D cA F hz hw hS hl) (fun hc => kf hc p l e Rm s mid args below meth c H locs ls b D cA F hz hw hS hl)
theorem V_ic_le {x y : Int32} {off : Int} {tgt : Nat} (h : D2 m pc (.if_icmp .le off) off pc' tgt) (kt : x ≤ y → V m d u1 u2 mc ms tgt L S sh R I J Q) (kf : ¬ x ≤ y → V m d u1 u2 mc ms pc' L S sh R I J Q) : V m d u1 u2 mc ms pc L (.int y :: .int x :: S) sh R I J Q := by
  obtain ⟨hd, rfl, ht⟩ := h
  intro p l e Rm s mid args below meth c H locs ls b D cA F hz hw hS hl
  exact lv_icmp_le F.x F.cc hd ht (fun hc => kt hc p l e Rm s mid args below meth c H locs ls b D cA F hz hw hS hl) (fun hc => kf hc p l e Rm s mid args below meth c H locs ls b D cA F hz hw hS hl)
theorem V_if_le_t {x : Int32} {off : Int} {tgt : Nat} (h : D2 m pc (.ifCond .le off) off pc' tgt) (hc : x ≤ 0) (k : V m d u1 u2 mc ms tgt L S sh R I J Q) : V m d u1 u2 mc ms pc L (.int x :: S) sh R I J Q := V_if_le h (fun _ => k) (fun h2 => absurd hc (by first | exact h2 | exact not_not_intro h2))
theorem V_if_le_f {x : Int32} {off : Int} {tgt : Nat} (h : D2 m pc (.ifCond .le off) off pc' tgt) (hc : ¬ x ≤ 0) (k : V m d u1 u2 mc ms pc' L S sh R I J Q) : V m d u1 u2 mc ms pc L (.int x :: S) sh R I J Q := V_if_le h (fun h2 => absurd h2 (by first | exact hc | exact not_not_intro hc)) (fun _ => k)
theorem V_ic_le_t {x y : Int32} {off : Int} {tgt : Nat} (h : D2 m pc (.if_icmp .le off) off pc' tgt) (hc : x ≤ y) (k : V m d u1 u2 mc ms tgt L S sh R I J Q) : V m d u1 u2 mc ms pc L (.int y :: .int x :: S) sh R I J Q := V_ic_le h (fun _ => k) (fun h2 => absurd hc (by first | exact h2 | exact not_not_intro h2))
theorem V_ic_le_f {x y : Int32} {off : Int} {tgt : Nat} (h : D2 m pc (.if_icmp .le off) off pc' tgt) (hc : ¬ x ≤ y) (k : V m d u1 u2 mc ms pc' L S sh R I J Q) : V m d u1 u2 mc ms pc L (.int y :: .int x :: S) sh R I J Q := V_ic_le h (fun h2 => absurd h2 (by first | exact hc | exact not_not_intro hc)) (fun _ => k)
theorem V_goto {off : Int} {tgt : Nat} (h : D2 m pc (.goto off) off pc' tgt) (k : V m d u1 u2 mc ms tgt L (S) sh R I J Q) : V m d u1 u2 mc ms pc L (S) sh R I J Q := by
  obtain ⟨hd, rfl, ht⟩ := h
  intro p l e Rm s mid args below meth c H locs ls b D cA F hz hw hS hl
  exact lv_goto F.x F.cc hd ht (k p l e Rm s mid args below meth c H locs ls b D cA F hz hw hS hl)
theorem V_ifnull {a : Nat} {off : Int} {tgt : Nat} (h : D2 m pc (.ifnull off) off pc' tgt) (k : V m d u1 u2 mc ms pc' L (S) sh R I J Q) : V m d u1 u2 mc ms pc L (.ref a :: S) sh R I J Q := by
  obtain ⟨hd, rfl, ht⟩ := h
  intro p l e Rm s mid args below meth c H locs ls b D cA F hz hw hS hl
  exact lv_ifnull F.x F.cc hd (k p l e Rm s mid args below meth c H locs ls b D cA F hz hw hS hl)
theorem V_ifnonnull {a : Nat} {off : Int} {tgt : Nat} (h : D2 m pc (.ifnonnull off) off pc' tgt) (k : V m d u1 u2 mc ms tgt L (S) sh R I J Q) : V m d u1 u2 mc ms pc L (.ref a :: S) sh R I J Q := by
  obtain ⟨hd, rfl, ht⟩ := h
  intro p l e Rm s mid args below meth c H locs ls b D cA F hz hw hS hl
  exact lv_ifnonnull F.x F.cc hd ht (k p l e Rm s mid args below meth c H locs ls b D cA F hz hw hS hl)
theorem V_ifnullN {off : Int} {tgt : Nat} (h : D2 m pc (.ifnull off) off pc' tgt) (k : V m d u1 u2 mc ms tgt L (S) sh R I J Q) : V m d u1 u2 mc ms pc L (.null :: S) sh R I J Q := by
  obtain ⟨hd, rfl, ht⟩ := h
  intro p l e Rm s mid args below meth c H locs ls b D cA F hz hw hS hl
  exact lv_ifnullN F.x F.cc hd ht (k p l e Rm s mid args below meth c H locs ls b D cA F hz hw hS hl)
theorem V_ifnonnullN {off : Int} {tgt : Nat} (h : D2 m pc (.ifnonnull off) off pc' tgt) (k : V m d u1 u2 mc ms pc' L (S) sh R I J Q) : V m d u1 u2 mc ms pc L (.null :: S) sh R I J Q := by
  obtain ⟨hd, rfl, ht⟩ := h
  intro p l e Rm s mid args below meth c H locs ls b D cA F hz hw hS hl
  exact lv_ifnonnullN F.x F.cc hd (k p l e Rm s mid args below meth c H locs ls b D cA F hz hw hS hl)
theorem V_tswIn {x : Int32} {dflt lo hi : Int} {offs : Array Int} {len tgt : Nat} {off : Int} (h : D1 m pc (.tableswitch dflt lo hi offs) len pc') (h1 : ¬ x.toInt < lo) (h2 : ¬ hi < x.toInt) (ho : offs[(x.toInt - lo).toNat]? = some off) (ht : (pc : Int) + off = (tgt : Int)) (k : V m d u1 u2 mc ms tgt L (S) sh R I J Q) : V m d u1 u2 mc ms pc L (.int x :: S) sh R I J Q := by
  obtain ⟨hd, rfl⟩ := h
  intro p l e Rm s mid args below meth c H locs ls b D cA F hz hw hS hl
  exact lv_tableIn F.x F.cc hd h1 h2 ho ht (k p l e Rm s mid args below meth c H locs ls b D cA F hz hw hS hl)
theorem V_tswOut {x : Int32} {dflt lo hi : Int} {offs : Array Int} {len tgt : Nat} (h : D1 m pc (.tableswitch dflt lo hi offs) len pc') (h1 : x.toInt < lo ∨ hi < x.toInt) (ht : (pc : Int) + dflt = (tgt : Int)) (k : V m d u1 u2 mc ms tgt L (S) sh R I J Q) : V m d u1 u2 mc ms pc L (.int x :: S) sh R I J Q := by
  obtain ⟨hd, rfl⟩ := h
  intro p l e Rm s mid args below meth c H locs ls b D cA F hz hw hS hl
  exact lv_tableOut F.x F.cc hd h1 ht (k p l e Rm s mid args below meth c H locs ls b D cA F hz hw hS hl)

theorem ws_obj {b : Nat} {cA : Nat → ClassId} {a ci : Nat} (hs : sh[a]? = some (0, ci)) : (wsOf b cA sh R I J)[a]? = some (b + a, .inr (ci, flds b R I J a (fk ci) 0)) := ws_get hs
theorem ws_ai {b : Nat} {cA : Nat → ClassId} {a n : Nat} (hs : sh[a]? = some (1, n)) : (wsOf b cA sh R I J)[a]? = some (b + a, .inl (cA 1, n, .inl (I a))) := ws_get hs
theorem ws_al {b : Nat} {cA : Nat → ClassId} {a n : Nat} (hs : sh[a]? = some (2, n)) : (wsOf b cA sh R I J)[a]? = some (b + a, .inl (cA 2, n, .inr (.inl (J a)))) := ws_get hs
theorem ws_ar {b : Nat} {cA : Nat → ClassId} {a n : Nat} (j : Nat) (hj : j = 3 ∨ j = 4) (hs : sh[a]? = some (j, n)) : (wsOf b cA sh R I J)[a]? = some (b + a, .inl (cA j, n, .inr (.inr (.inr (.inr (fun i => (R a i).map (fun q => b + q))))))) := by
  rw [ws_get hs]
  rcases hj with rfl | rfl <;> rfl

theorem V_getI {a ci f : Nat} (h : DF m pc ci f 0 pc') (hs : sh[a]? = some (0, ci)) (k : V m d u1 u2 mc ms pc' L (.int (I a f) :: S) sh R I J Q) : V m d u1 u2 mc ms pc L (.ref a :: S) sh R I J Q := by
  obtain ⟨idx, C, T, N, hd, hc, hk, hlk, ht, rfl⟩ := h
  intro p l e Rm s mid args below meth c H locs ls b D cA F hz hw hS hl
  exact va_get (D := D) (ci := ci) F.x F.cc F.t (cl_in hc) F.o hw.2 hw.1 a (ws_obj hs) hc f hk (F.t _ hlk) (fun _ h9 => h9) (v := tr b (.int (I a f))) (by rw [flds_get ht, Nat.zero_add]; rfl) hd (k p l e Rm s mid args below meth c H locs ls b D cA F hz hw hS hl)
theorem V_getZ {a ci f : Nat} (h : DF m pc ci f 3 pc') (hs : sh[a]? = some (0, ci)) (k : V m d u1 u2 mc ms pc' L (.int (I a f) :: S) sh R I J Q) : V m d u1 u2 mc ms pc L (.ref a :: S) sh R I J Q := by
  obtain ⟨idx, C, T, N, hd, hc, hk, hlk, ht, rfl⟩ := h
  intro p l e Rm s mid args below meth c H locs ls b D cA F hz hw hS hl
  exact va_get (D := D) (ci := ci) F.x F.cc F.t (cl_in hc) F.o hw.2 hw.1 a (ws_obj hs) hc f hk (F.t _ hlk) (fun _ h9 => h9) (v := tr b (.int (I a f))) (by rw [flds_get ht, Nat.zero_add]; rfl) hd (k p l e Rm s mid args below meth c H locs ls b D cA F hz hw hS hl)
theorem V_getJ {a ci f : Nat} (h : DF m pc ci f 1 pc') (hs : sh[a]? = some (0, ci)) (k : V m d u1 u2 mc ms pc' L (.long (J a f) :: S) sh R I J Q) : V m d u1 u2 mc ms pc L (.ref a :: S) sh R I J Q := by
  obtain ⟨idx, C, T, N, hd, hc, hk, hlk, ht, rfl⟩ := h
  intro p l e Rm s mid args below meth c H locs ls b D cA F hz hw hS hl
  exact va_get (D := D) (ci := ci) F.x F.cc F.t (cl_in hc) F.o hw.2 hw.1 a (ws_obj hs) hc f hk (F.t _ hlk) (fun _ h9 => h9) (v := tr b (.long (J a f))) (by rw [flds_get ht, Nat.zero_add]; rfl) hd (k p l e Rm s mid args below meth c H locs ls b D cA F hz hw hS hl)
theorem V_getR {a ci f a2 : Nat} (h : DF m pc ci f 2 pc') (hs : sh[a]? = some (0, ci)) (hr : R a f = some a2) (k : V m d u1 u2 mc ms pc' L (.ref a2 :: S) sh R I J Q) : V m d u1 u2 mc ms pc L (.ref a :: S) sh R I J Q := by
  obtain ⟨idx, C, T, N, hd, hc, hk, hlk, ht, rfl⟩ := h
  intro p l e Rm s mid args below meth c H locs ls b D cA F hz hw hS hl
  exact va_get (D := D) (ci := ci) F.x F.cc F.t (cl_in hc) F.o hw.2 hw.1 a (ws_obj hs) hc f hk (F.t _ hlk) (fun _ h9 => h9) (v := .ref (b + a2)) (by rw [flds_get ht, Nat.zero_add]; simp [fval, hr, va_rf]) hd (k p l e Rm s mid args below meth c H locs ls b D cA F hz hw hS hl)

theorem put_cell {b : Nat} {cA : Nat → ClassId} {a ci f t : Nat} {R' : RefM} {I' : IntM} {J' : LngM} (hs : sh[a]? = some (0, ci)) (ht : (fk ci)[f]? = some t) (hR : ∀ x j, (x, j) ≠ (a, f) → R' x j = R x j) (hI : ∀ x j, (x, j) ≠ (a, f) → I' x j = I x j) (hJ : ∀ x j, (x, j) ≠ (a, f) → J' x j = J x j) {v : Value} (hv : fval b R' I' J' a f t = v) :
    (wsOf b cA sh R I J).set a (b + a, .inr (ci, (flds b R I J a (fk ci) 0).set f v)) = wsOf b cA sh R' I' J' := by
  refine ws_set hs (fun a' s' h => cell_other (fun j => hR a' j (fun e => h (by cases e; rfl))) (fun j => hI a' j (fun e => h (by cases e; rfl))) (fun j => hJ a' j (fun e => h (by cases e; rfl))) s') ?_
  show (Sum.inr (ci, flds b R' I' J' a (fk ci) 0) : va_E) = _
  have e := flds_set (b := b) (R := R) (R' := R') (I := I) (I' := I') (J := J) (J' := J') (a := a) ht (fun j u _ hj => by
    unfold fval
    rw [hR a j (fun e => hj (by cases e; rfl)), hI a j (fun e => hj (by cases e; rfl)), hJ a j (fun e => hj (by cases e; rfl))])
  rw [e, hv]
theorem uI_ne {a f : Nat} {v : Int32} (x j : Nat) (h : (x, j) ≠ (a, f)) : uI I a f v x j = I x j := by
  unfold uI
  rw [if_neg]
  rintro ⟨rfl, rfl⟩
  exact h rfl
theorem uJ_ne {a f : Nat} {v : Int64} (x j : Nat) (h : (x, j) ≠ (a, f)) : uJ J a f v x j = J x j := by
  unfold uJ
  rw [if_neg]
  rintro ⟨rfl, rfl⟩
  exact h rfl
theorem uR_ne {a f : Nat} {v : Option Nat} (x j : Nat) (h : (x, j) ≠ (a, f)) : uR R a f v x j = R x j := by
  unfold uR
  rw [if_neg]
  rintro ⟨rfl, rfl⟩
  exact h rfl
theorem uI_eq {a f : Nat} {v : Int32} : uI I a f v a f = v := by unfold uI; rw [if_pos ⟨rfl, rfl⟩]
theorem uJ_eq {a f : Nat} {v : Int64} : uJ J a f v a f = v := by unfold uJ; rw [if_pos ⟨rfl, rfl⟩]
theorem uR_eq {a f : Nat} {v : Option Nat} : uR R a f v a f = v := by unfold uR; rw [if_pos ⟨rfl, rfl⟩]

theorem V_putI {a ci f : Nat} {x : Int32} (h : DP m pc ci f 0 false .int pc') (hs : sh[a]? = some (0, ci))  (k : V m d u1 u2 mc ms pc' L S sh R (uI I a f x) J Q) : V m d u1 u2 mc ms pc L (.int x :: .ref a :: S) sh R I J Q := by
  obtain ⟨idx, C, T, N, hd, hc, hk, hlk, ht, hfn, hpt, hdc, rfl⟩ := h
  intro p l e Rm s mid args below meth c H locs ls b D cA F hz hw hS hl
  obtain ⟨ty0, hty, hnm⟩ := cl_ty hc
  refine va_put (D := D) (ci := ci) (v := tr b (.int x)) (ty := .int) F.x F.cc F.t (cl_in hc) ty0 hty hnm F.o hw.2 hw.1 ws_D hS a (ws_obj hs) hc f hk (F.t _ hlk) (fun _ h9 => h9) hfn hpt rfl rfl (by rw [flds_len]; exact (List.getElem?_eq_some_iff.mp ht).1) hd (fun H1 locs1 hP1 _ hS1 => ?_)
  rw [put_cell (v := tr b (.int x)) hs ht (R' := R) (I' := uI I a f x) (J' := J) (fun _ _ _ => rfl) uI_ne (fun _ _ _ => rfl) (by unfold fval; rw [uI_eq]; rfl)] at hP1
  exact k p l e Rm s mid args below meth c H1 locs1 ls b D cA F hz ⟨hP1, hw.2⟩ hS1 hl
theorem V_putZ {a ci f : Nat} {x : Int32} (h : DP m pc ci f 3 false .boolean pc') (hs : sh[a]? = some (0, ci)) (hv : x = 0 ∨ x = 1) (k : V m d u1 u2 mc ms pc' L S sh R (uI I a f x) J Q) : V m d u1 u2 mc ms pc L (.int x :: .ref a :: S) sh R I J Q := by
  obtain ⟨idx, C, T, N, hd, hc, hk, hlk, ht, hfn, hpt, hdc, rfl⟩ := h
  intro p l e Rm s mid args below meth c H locs ls b D cA F hz hw hS hl
  obtain ⟨ty0, hty, hnm⟩ := cl_ty hc
  refine va_put (D := D) (ci := ci) (v := tr b (.int x)) (ty := .boolean) F.x F.cc F.t (cl_in hc) ty0 hty hnm F.o hw.2 hw.1 ws_D hS a (ws_obj hs) hc f hk (F.t _ hlk) (fun _ h9 => h9) hfn hpt (by rcases hv with rfl | rfl <;> rfl) (by rcases hv with rfl | rfl <;> rfl) (by rw [flds_len]; exact (List.getElem?_eq_some_iff.mp ht).1) hd (fun H1 locs1 hP1 _ hS1 => ?_)
  rw [put_cell (v := tr b (.int x)) hs ht (R' := R) (I' := uI I a f x) (J' := J) (fun _ _ _ => rfl) uI_ne (fun _ _ _ => rfl) (by unfold fval; rw [uI_eq]; rfl)] at hP1
  exact k p l e Rm s mid args below meth c H1 locs1 ls b D cA F hz ⟨hP1, hw.2⟩ hS1 hl
theorem V_putJ {a ci f : Nat} {x : Int64} (h : DP m pc ci f 1 false .long pc') (hs : sh[a]? = some (0, ci))  (k : V m d u1 u2 mc ms pc' L S sh R I (uJ J a f x) Q) : V m d u1 u2 mc ms pc L (.long x :: .ref a :: S) sh R I J Q := by
  obtain ⟨idx, C, T, N, hd, hc, hk, hlk, ht, hfn, hpt, hdc, rfl⟩ := h
  intro p l e Rm s mid args below meth c H locs ls b D cA F hz hw hS hl
  obtain ⟨ty0, hty, hnm⟩ := cl_ty hc
  refine va_put (D := D) (ci := ci) (v := tr b (.long x)) (ty := .long) F.x F.cc F.t (cl_in hc) ty0 hty hnm F.o hw.2 hw.1 ws_D hS a (ws_obj hs) hc f hk (F.t _ hlk) (fun _ h9 => h9) hfn hpt rfl rfl (by rw [flds_len]; exact (List.getElem?_eq_some_iff.mp ht).1) hd (fun H1 locs1 hP1 _ hS1 => ?_)
  rw [put_cell (v := tr b (.long x)) hs ht (R' := R) (I' := I) (J' := uJ J a f x) (fun _ _ _ => rfl) (fun _ _ _ => rfl) uJ_ne (by unfold fval; rw [uJ_eq]; rfl)] at hP1
  exact k p l e Rm s mid args below meth c H1 locs1 ls b D cA F hz ⟨hP1, hw.2⟩ hS1 hl
theorem V_putR {a ci f : Nat} {x : Nat} {ty : FieldType} (h : DP m pc ci f 2 true ty pc') (hs : sh[a]? = some (0, ci)) (hin : m.2.1.name = "<init>") (hown : ∀ C T N, vwCl[ci]? = some (C, T, N) → C = m.1) (hf : ∀ q, fits ty (.ref q) = true) (hn : ∀ q, narrow ty (.ref q) = .ref q) (k : V m d u1 u2 mc ms pc' L S sh (uR R a f (some x)) I J Q) : V m d u1 u2 mc ms pc L (.ref x :: .ref a :: S) sh R I J Q := by
  obtain ⟨idx, C, T, N, hd, hc, hk, hlk, ht, hfn, hpt, hdc, rfl⟩ := h
  intro p l e Rm s mid args below meth c H locs ls b D cA F hz hw hS hl
  obtain ⟨ty0, hty, hnm⟩ := cl_ty hc
  refine va_putF (D := D) (ci := ci) (v := tr b (.ref x)) (ty := ty) F.x F.cc F.t (cl_in hc) ty0 hty hnm F.o hw.2 hw.1 ws_D hS a (ws_obj hs) hc f hk (F.t _ hlk) (fun _ h9 => h9) hfn (by rw [F.n]; exact hin) (by rw [hdc]; exact hown _ _ _ hc) hpt (hn _) (hf _) (by rw [flds_len]; exact (List.getElem?_eq_some_iff.mp ht).1) hd (fun H1 locs1 hP1 _ hS1 => ?_)
  rw [put_cell (v := tr b (.ref x)) hs ht (R' := uR R a f (some x)) (I' := I) (J' := J) uR_ne (fun _ _ _ => rfl) (fun _ _ _ => rfl) (by unfold fval; rw [uR_eq]; rfl)] at hP1
  exact k p l e Rm s mid args below meth c H1 locs1 ls b D cA F hz ⟨hP1, hw.2⟩ hS1 hl
theorem V_iald {a n : Nat} {i : Int32} (h : D1 m pc .iaload 1 pc') (hs : sh[a]? = some (1, n)) (hin : vp_in i n) (k : V m d u1 u2 mc ms pc' L (.int (I a i.toNatClampNeg) :: S) sh R I J Q) : V m d u1 u2 mc ms pc L (.int i :: .ref a :: S) sh R I J Q := by
  obtain ⟨hd, rfl⟩ := h
  intro p l e Rm s mid args below meth c H locs ls b D cA F hz hw hS hl
  exact va_iald F.x F.cc hw.2 hw.1 a 0 (ws_ai hs) rfl hin hd (k p l e Rm s mid args below meth c H locs ls b D cA F hz hw hS hl)
theorem V_lald {a n : Nat} {i : Int32} (h : D1 m pc .laload 1 pc') (hs : sh[a]? = some (2, n)) (hin : vp_in i n) (k : V m d u1 u2 mc ms pc' L (.long (J a i.toNatClampNeg) :: S) sh R I J Q) : V m d u1 u2 mc ms pc L (.int i :: .ref a :: S) sh R I J Q := by
  obtain ⟨hd, rfl⟩ := h
  intro p l e Rm s mid args below meth c H locs ls b D cA F hz hw hS hl
  exact va_lald F.x F.cc hw.2 hw.1 a 1 (ws_al hs) rfl hin hd (k p l e Rm s mid args below meth c H locs ls b D cA F hz hw hS hl)
theorem V_aald {a n j x : Nat} {i : Int32} (h : D1 m pc .aaload 1 pc') (hs : sh[a]? = some (j, n)) (hj : j = 3 ∨ j = 4) (hin : vp_in i n) (hx : R a i.toNatClampNeg = some x) (k : V m d u1 u2 mc ms pc' L (.ref x :: S) sh R I J Q) : V m d u1 u2 mc ms pc L (.int i :: .ref a :: S) sh R I J Q := by
  obtain ⟨hd, rfl⟩ := h
  intro p l e Rm s mid args below meth c H locs ls b D cA F hz hw hS hl
  refine va_aldq (C := if j = 3 then "ThirdLeft$Ints" else "ThirdLeft$Evening") F.x F.cc hw.2 hw.1 a (j - 1) (ws_ar j hj hs) (by rcases hj with rfl | rfl <;> rfl) hin hd ?_
  rw [hx]
  exact k p l e Rm s mid args below meth c H locs ls b D cA F hz hw hS hl
theorem V_iast {a n : Nat} {i : Int32} {x : Int32} (h : D1 m pc .iastore 1 pc') (hs : sh[a]? = some (1, n)) (hin : vp_in i n) (k : V m d u1 u2 mc ms pc' L S sh R (uI I a i.toNatClampNeg x) J Q) : V m d u1 u2 mc ms pc L (.int x :: .int i :: .ref a :: S) sh R I J Q := by
  obtain ⟨hd, rfl⟩ := h
  intro p l e Rm s mid args below meth c H locs ls b D cA F hz hw hS hl
  refine va_iast F.x F.cc hw.2 hw.1 ws_D hS a 0 (ws_ai hs) rfl hin hd (fun H1 locs1 hP1 _ hS1 => ?_)
  rw [ws_set (R' := R) (I' := uI I a i.toNatClampNeg x) (J' := J) hs (fun a' s' h => cell_other (fun _ => rfl) (fun j => uI_ne _ _ (fun e => h (by cases e; rfl))) (fun _ => rfl) s') (congrArg (fun g : Nat → Int32 => (Sum.inl (cA 1, n, .inl g) : va_E)) (show uI I a i.toNatClampNeg x a = upd (I a) i.toNatClampNeg x from by funext j; unfold uI upd; simp))] at hP1
  exact k p l e Rm s mid args below meth c H1 locs1 ls b D cA F hz ⟨hP1, hw.2⟩ hS1 hl
theorem V_last {a n : Nat} {i : Int32} {x : Int64} (h : D1 m pc .lastore 1 pc') (hs : sh[a]? = some (2, n)) (hin : vp_in i n) (k : V m d u1 u2 mc ms pc' L S sh R I (uJ J a i.toNatClampNeg x) Q) : V m d u1 u2 mc ms pc L (.long x :: .int i :: .ref a :: S) sh R I J Q := by
  obtain ⟨hd, rfl⟩ := h
  intro p l e Rm s mid args below meth c H locs ls b D cA F hz hw hS hl
  refine va_last F.x F.cc hw.2 hw.1 ws_D hS a 1 (ws_al hs) rfl hin hd (fun H1 locs1 hP1 _ hS1 => ?_)
  rw [ws_set (R' := R) (I' := I) (J' := uJ J a i.toNatClampNeg x) hs (fun a' s' h => cell_other (fun _ => rfl) (fun _ => rfl) (fun j => uJ_ne _ _ (fun e => h (by cases e; rfl))) s') (congrArg (fun g : Nat → Int64 => (Sum.inl (cA 2, n, .inr (.inl g)) : va_E)) (show uJ J a i.toNatClampNeg x a = vp_updL (J a) i.toNatClampNeg x from by funext j; unfold uJ vp_updL; simp))] at hP1
  exact k p l e Rm s mid args below meth c H1 locs1 ls b D cA F hz ⟨hP1, hw.2⟩ hS1 hl
theorem V_alenI {a n : Nat} {v : Int32} (h : D1 m pc .arraylength 1 pc') (hs : sh[a]? = some (1, n)) (hv : Int32.ofNat n = v) (k : V m d u1 u2 mc ms pc' L (.int v :: S) sh R I J Q) : V m d u1 u2 mc ms pc L (.ref a :: S) sh R I J Q := by
  obtain ⟨hd, rfl⟩ := h
  intro p l e Rm s mid args below meth c H locs ls b D cA F hz hw hS hl
  exact va_alen F.x F.cc hw.2 hw.1 a 0 (ws_ai hs) rfl hv hd (k p l e Rm s mid args below meth c H locs ls b D cA F hz hw hS hl)
theorem V_alenL {a n : Nat} {v : Int32} (h : D1 m pc .arraylength 1 pc') (hs : sh[a]? = some (2, n)) (hv : Int32.ofNat n = v) (k : V m d u1 u2 mc ms pc' L (.int v :: S) sh R I J Q) : V m d u1 u2 mc ms pc L (.ref a :: S) sh R I J Q := by
  obtain ⟨hd, rfl⟩ := h
  intro p l e Rm s mid args below meth c H locs ls b D cA F hz hw hS hl
  exact va_alen F.x F.cc hw.2 hw.1 a 1 (ws_al hs) rfl hv hd (k p l e Rm s mid args below meth c H locs ls b D cA F hz hw hS hl)
theorem V_alen3 {a n : Nat} {v : Int32} (h : D1 m pc .arraylength 1 pc') (hs : sh[a]? = some (3, n)) (hv : Int32.ofNat n = v) (k : V m d u1 u2 mc ms pc' L (.int v :: S) sh R I J Q) : V m d u1 u2 mc ms pc L (.ref a :: S) sh R I J Q := by
  obtain ⟨hd, rfl⟩ := h
  intro p l e Rm s mid args below meth c H locs ls b D cA F hz hw hS hl
  exact va_alen F.x F.cc hw.2 hw.1 a 2 (ws_ar 3 (Or.inl rfl) hs) rfl hv hd (k p l e Rm s mid args below meth c H locs ls b D cA F hz hw hS hl)
theorem V_alen4 {a n : Nat} {v : Int32} (h : D1 m pc .arraylength 1 pc') (hs : sh[a]? = some (4, n)) (hv : Int32.ofNat n = v) (k : V m d u1 u2 mc ms pc' L (.int v :: S) sh R I J Q) : V m d u1 u2 mc ms pc L (.ref a :: S) sh R I J Q := by
  obtain ⟨hd, rfl⟩ := h
  intro p l e Rm s mid args below meth c H locs ls b D cA F hz hw hS hl
  exact va_alen F.x F.cc hw.2 hw.1 a 3 (ws_ar 4 (Or.inr rfl) hs) rfl hv hd (k p l e Rm s mid args below meth c H locs ls b D cA F hz hw hS hl)
theorem V_aast {a n j x cx : Nat} {i : Int32} (h : D1 m pc .aastore 1 pc') (hs : sh[a]? = some (j, n)) (hj : (j = 3 ∧ cx = 3) ∨ (j = 4 ∧ cx = 2)) (hx : sh[x]? = some (0, cx)) (hin : vp_in i n) (k : V m d u1 u2 mc ms pc' L S sh (uR R a i.toNatClampNeg (some x)) I J Q) : V m d u1 u2 mc ms pc L (.ref x :: .int i :: .ref a :: S) sh R I J Q := by
  obtain ⟨hd, rfl⟩ := h
  intro p l e Rm s mid args below meth c H locs ls b D cA F hz hw hS hl
  have hj2 : j = 3 ∨ j = 4 := hj.elim (fun h => Or.inl h.1) (fun h => Or.inr h.1)
  refine va_astq (r := if j = 3 then (RX3, TX3, 2) else (RX2, TX2, 7)) F.x F.cc hw.2 hw.1 ws_D hS a (j - 1) x cx (ws_ar j hj2 hs) (by rcases hj with ⟨rfl, rfl⟩ | ⟨rfl, rfl⟩ <;> rfl) (ws_obj hx) (by rcases hj with ⟨rfl, rfl⟩ | ⟨rfl, rfl⟩ <;> rfl) hin hd (fun H1 locs1 hP1 _ hS1 => ?_)
  rw [ws_set (R' := uR R a i.toNatClampNeg (some x)) (I' := I) (J' := J) hs (fun a' s' h => cell_other (fun j => uR_ne _ _ (fun e => h (by cases e; rfl))) (fun _ => rfl) (fun _ => rfl) s') (show cellE b cA (uR R a i.toNatClampNeg (some x)) I J a (j, n) = (Sum.inl (cA j, n, .inr (.inr (.inr (.inr (va_up (fun i => (R a i).map (fun q => b + q)) i.toNatClampNeg (some (b + x))))))) : va_E) from by
    have e : (fun q => (uR R a i.toNatClampNeg (some x) a q).map (fun q => b + q)) = va_up (fun i => (R a i).map (fun q => b + q)) i.toNatClampNeg (some (b + x)) := by
      funext q
      unfold uR va_up
      by_cases hq : q = i.toNatClampNeg <;> simp [hq]
    rcases hj2 with rfl | rfl <;> exact congrArg (fun g => (Sum.inl (cA _, n, .inr (.inr (.inr (.inr g)))) : va_E)) e)] at hP1
  exact k p l e Rm s mid args below meth c H1 locs1 ls b D cA F hz ⟨hP1, hw.2⟩ hS1 hl
theorem V_iret {v : Int32} (h : D1 m pc .ireturn 1 pc') (hr : m.2.2.2.2 = some .int) (h1 : u1 ≤ mc) (h2 : u2 ≤ ms) (hq : Q (some (.int v)) sh R I J) : V m d u1 u2 mc ms pc L [.int v] sh R I J Q := by
  obtain ⟨hd, rfl⟩ := h
  intro p l e Rm s mid args below meth c H locs ls b D cA F hz hw hS hl
  refine W.widen h1 h2 ?_
  exact W.iret F.x F.cc (F.r.trans hr) (fun t ht hW => ⟨⟨some (.int v), sh, R, I, J, rfl, hq, by rw [ht]; exact hw.moved hW.alike⟩, hS.F ht⟩) hS.2.2 hd F.k
theorem V_zret {v : Int32} (h : D1 m pc .ireturn 1 pc') (hr : m.2.2.2.2 = some .boolean) (hv : v = 0 ∨ v = 1) (h1 : u1 ≤ mc) (h2 : u2 ≤ ms) (hq : Q (some (.int v)) sh R I J) : V m d u1 u2 mc ms pc L [.int v] sh R I J Q := by
  obtain ⟨hd, rfl⟩ := h
  intro p l e Rm s mid args below meth c H locs ls b D cA F hz hw hS hl
  refine W.widen h1 h2 ?_
  exact W.zret F.x F.cc (F.r.trans hr) (by rcases hv with rfl | rfl <;> rfl) (fun t ht hW => ⟨⟨some (.int v), sh, R, I, J, rfl, hq, by rw [ht]; exact hw.moved hW.alike⟩, hS.F ht⟩) hS.2.2 hd F.k
theorem V_lret {v : Int64} (h : D1 m pc .lreturn 1 pc') (hr : m.2.2.2.2 = some .long) (h1 : u1 ≤ mc) (h2 : u2 ≤ ms) (hq : Q (some (.long v)) sh R I J) : V m d u1 u2 mc ms pc L [.long v] sh R I J Q := by
  obtain ⟨hd, rfl⟩ := h
  intro p l e Rm s mid args below meth c H locs ls b D cA F hz hw hS hl
  refine W.widen h1 h2 ?_
  exact W.lret F.x F.cc (F.r.trans hr) (fun t ht hW => ⟨⟨some (.long v), sh, R, I, J, rfl, hq, by rw [ht]; exact hw.moved hW.alike⟩, hS.F ht⟩) hS.2.2 hd F.k
theorem V_aret {v : Nat} {n : String} (h : D1 m pc .areturn 1 pc') (hr : m.2.2.2.2 = some (.object n)) (h1 : u1 ≤ mc) (h2 : u2 ≤ ms) (hq : Q (some (.ref v)) sh R I J) : V m d u1 u2 mc ms pc L [.ref v] sh R I J Q := by
  obtain ⟨hd, rfl⟩ := h
  intro p l e Rm s mid args below meth c H locs ls b D cA F hz hw hS hl
  refine W.widen h1 h2 ?_
  exact W.aret F.x F.cc (F.r.trans hr) (Or.inl ⟨n, rfl⟩) (Or.inr ⟨_, rfl⟩) (fun t ht hW => ⟨⟨some (.ref v), sh, R, I, J, rfl, hq, by rw [ht]; exact hw.moved hW.alike⟩, hS.F ht⟩) hS.2.2 hd F.k
theorem V_aretN {n : String} (h : D1 m pc .areturn 1 pc') (hr : m.2.2.2.2 = some (.object n)) (h1 : u1 ≤ mc) (h2 : u2 ≤ ms) (hq : Q (some .null) sh R I J) : V m d u1 u2 mc ms pc L [.null] sh R I J Q := by
  obtain ⟨hd, rfl⟩ := h
  intro p l e Rm s mid args below meth c H locs ls b D cA F hz hw hS hl
  refine W.widen h1 h2 ?_
  exact W.aret F.x F.cc (F.r.trans hr) (Or.inl ⟨n, rfl⟩) (Or.inl rfl) (fun t ht hW => ⟨⟨some .null, sh, R, I, J, rfl, hq, by rw [ht]; exact hw.moved hW.alike⟩, hS.F ht⟩) hS.2.2 hd F.k
theorem V_vret (h : D1 m pc .return_ 1 pc') (hr : m.2.2.2.2 = none) (h1 : u1 ≤ mc) (h2 : u2 ≤ ms) (hq : Q none sh R I J) : V m d u1 u2 mc ms pc L [] sh R I J Q := by
  obtain ⟨hd, rfl⟩ := h
  intro p l e Rm s mid args below meth c H locs ls b D cA F hz hw hS hl
  refine W.widen h1 h2 ?_
  exact W.vret F.x F.cc (F.r.trans hr) (fun t ht hW => ⟨⟨none, sh, R, I, J, rfl, hq, by rw [ht]; exact hw.moved hW.alike⟩, hS.F ht⟩) hS.2.2 hd F.k
end VR
end
section
theorem gwI : Cond.arrayClass .int ∈ gtb := gt_1 48 (by decide +kernel) (by decide +kernel)
theorem gwJ : Cond.arrayClass .long ∈ gtb := gt_1 137 (by decide +kernel) (by decide +kernel)

section VC
variable {m : Mth} {d u1 u2 mc ms pc pc' : Nat} {L L' : List (Nat × Value)} {S : List Value} {sh : List Shp} {R : RefM} {I : IntM} {J : LngM} {Q : PostV}
theorem V_objInit {a : Nat} (h : DO m pc pc') (hd1 : 1 ≤ d) (hc : ((S.map fun v => v.category).sum) ≤ 8) (hi : Cond.instanceMethod Lib.objectInit ∈ gtb) (hcd : Cond.code Lib.objectInit ⟨#[0xb1]⟩ 1 none ∈ gtb) (k : V m d u1 u2 mc ms pc' L S sh R I J Q) : V m d u1 u2 mc ms pc L (.ref a :: S) sh R I J Q := by
  obtain ⟨idx, hd, hlk, rfl⟩ := h
  intro p l e Rm s mid args below meth c H locs ls b D cA F hz hw hS hl
  have hR := F.R
  have hcs : (((S.map (tr b)).map fun v => v.category).sum) ≤ 8 := by
    rw [List.map_map]
    rw [show ((fun v => v.category) ∘ tr b : Value → Nat) = (fun v => v.category) from funext fun v => tr_cat b v]
    exact hc
  refine W.objInit (a := b + a) (rest := S.map (tr b)) F.x F.cc F.o (F.t _ hlk) (F.t _ hi) (F.t _ hcd) rfl (hl.1.trans F.ml.symm) rfl hd (by omega) ?_ (k p l e Rm s mid args below meth c H locs ls b D cA F hz hw hS hl)
  show 2 * 0 + _ + 12 ≤ _
  omega
/-- behind new: the cell's address is the next -/
theorem new_at {s : State} {b u1 q : Nat} {H1 : Heap} {e : va_E} {cA : Nat → ClassId} {D : va_G} {p : Program} {l : Launch} {ev : Env} {Rm : Room} {mid : MethodId} {args : Array Value} {below : List Frame} {meth : Method} {c : Code} {locs : List Loc} {Z : State → Prop} {g : JFrame} {v2 : Nat}
    (hz : s.heap.size + u1 = b + sh.length) (hP : va_P D vwCl (wsOf b cA sh R I J ++ [(q, e)]) H1) (hD : va_D (fun q => b ≤ q) (wsOf b cA sh R I J ++ [(q, e)])) (k : q = b + sh.length → W p l ev Rm s mid args below meth c H1 locs (u1 + 1) v2 Z g) : W p l ev Rm s mid args below meth c H1 locs (u1 + 1) v2 Z g := by
  intro T hT X
  have h1 := X.heapSize
  rw [hT] at h1
  have hg : (wsOf b cA sh R I J ++ [(q, e)])[sh.length]? = some (q, e) := by rw [List.getElem?_append_right (by rw [ws_len]; omega), ws_len, Nat.sub_self]; rfl
  have h2 := (hP _ _ hg).lt
  have h3 := hD.2 _ _ hg
  dsimp only at h2 h3
  refine k ?_ T hT X
  rcases Nat.lt_or_ge q (b + sh.length) with hlt | hge
  · exfalso
    have hk : q - b < sh.length := by omega
    have hx : (wsOf b cA sh R I J ++ [(q, e)])[q - b]? = some (b + (q - b), cellE b cA R I J (q - b) (sh[q - b]'hk)) := by
      rw [List.getElem?_append_left (by rw [ws_len]; exact hk)]
      exact ws_get (List.getElem?_eq_getElem hk)
    have := hD.1 _ _ _ _ hx hg (by dsimp only; omega)
    omega
  · omega
theorem flds_zero {b a : Nat} {R' : RefM} {I' : IntM} {J' : LngM} (hR : ∀ j, R' a j = none) (hI : ∀ j, I' a j = 0) (hJ : ∀ j, J' a j = 0) : ∀ (ts : List Nat) (k : Nat), flds b R' I' J' a ts k = ts.map (fun t => if t = 1 then .long 0 else if t = 2 then .null else .int 0)
  | [], k => rfl
  | t :: ts, k => by
    show fval b R' I' J' a k t :: flds b R' I' J' a ts (k + 1) = _
    rw [flds_zero hR hI hJ ts, List.map_cons]
    unfold fval
    rw [hR, hI, hJ]
    rfl
theorem cl_dfl {ci : Nat} {C : String} {T : u_T} {N : Nat} (h : vwCl[ci]? = some (C, T, N)) : ∃ ty0 : Nat → FieldType, (∀ k, k < N → parseFieldDescriptor (T k).2.2.1 = some (ty0 k)) ∧ ∀ j, j < N → defaultValue (ty0 j) = vp_V ((fk ci).map (fun t => if t = 1 then .long 0 else if t = 2 then .null else .int 0)) j := by
  have key : ∀ ci < 11, ∃ q : vw_C, vwCl[ci]? = some q ∧ ∃ ty0 : Nat → FieldType, (∀ k, k < q.2.2 → parseFieldDescriptor (q.2.1 k).2.2.1 = some (ty0 k)) ∧ ∀ j, j < q.2.2 → defaultValue (ty0 j) = vp_V ((fk ci).map (fun t => if t = 1 then .long 0 else if t = 2 then .null else .int 0)) j := by
    intro ci hci
    match ci, hci with
    | 0, _ => exact ⟨_, rfl, tyX0, tyX0_ok, by decide +kernel⟩
    | 1, _ => exact ⟨_, rfl, tyX1, tyX1_ok, by decide +kernel⟩
    | 2, _ => exact ⟨_, rfl, tyX2, tyX2_ok, by decide +kernel⟩
    | 3, _ => exact ⟨_, rfl, tyX3, tyX3_ok, by decide +kernel⟩
    | 4, _ => exact ⟨_, rfl, tyX4, tyX4_ok, by decide +kernel⟩
    | 5, _ => exact ⟨_, rfl, tyX5, tyX5_ok, by decide +kernel⟩
    | 6, _ => exact ⟨_, rfl, tyX6, tyX6_ok, by decide +kernel⟩
    | 7, _ => exact ⟨_, rfl, tyX7, tyX7_ok, by decide +kernel⟩
    | 8, _ => exact ⟨_, rfl, tyX9, tyX9_ok, by decide +kernel⟩
    | 9, _ => exact ⟨_, rfl, tyX10, tyX10_ok, by decide +kernel⟩
    | 10, _ => exact ⟨_, rfl, tyX11, tyX11_ok, by decide +kernel⟩
  have hci : ci < 11 := (List.getElem?_eq_some_iff.mp h).1
  obtain ⟨q, h1, h2⟩ := key ci hci
  rw [h] at h1
  cases h1
  exact h2
theorem V_new {ci N : Nat} (h : DN m pc ci pc') (hN : ∀ C T n, vwCl[ci]? = some (C, T, n) → n = N) (h1 : u1 + 1 ≤ mc) (h2 : u2 + N ≤ ms) (k : V m d (u1 + 1) (u2 + N) mc ms pc' L (.ref sh.length :: S) (sh ++ [(0, ci)]) (zR R sh.length) (zI I sh.length) (zJ J sh.length) Q) : V m d u1 u2 mc ms pc L S sh R I J Q := by
  obtain ⟨idx, C, T, N', hd, hc, hlk, hin, hini, rfl⟩ := h
  have := hN _ _ _ hc
  subst this
  intro p l e Rm s mid args below meth c H locs ls b D cA F hz hw hS hl
  obtain ⟨ty0, hty, hdf⟩ := cl_dfl hc
  have hR := F.R
  refine va_new (ci := ci) F.x F.cc F.t (cl_in hc) ty0 hty F.o (F.t _ hlk) (F.t _ hin) (F.t _ hini) hw.2 hw.1 ws_D hS (fun q hq => Nat.le_trans F.bb hq) hc hdf (by omega) (by omega) hd (fun q H1 hP1 hD1 hS1 => ?_)
  refine new_at hz hP1 hD1 (fun hq => ?_)
  subst hq
  rw [ws_push (R' := zR R sh.length) (I' := zI I sh.length) (J' := zJ J sh.length) (s := (0, ci)) (fun a' s' ha => cell_other (fun j => by unfold zR; rw [if_neg ha]) (fun j => by unfold zI; rw [if_neg ha]) (fun j => by unfold zJ; rw [if_neg ha]) s') (by
    show (Sum.inr (ci, flds b _ _ _ _ (fk ci) 0) : va_E) = _
    rw [flds_zero (fun j => by unfold zR; rw [if_pos rfl]) (fun j => by unfold zI; rw [if_pos rfl]) (fun j => by unfold zJ; rw [if_pos rfl])])] at hP1
  exact k p l e Rm s mid args below meth c H1 locs ls b D cA F (by rw [List.length_append]; simp; omega) ⟨hP1, hw.2⟩ hS1 hl
theorem arr_cls {s : State} {c1 c2 : ClassId} {ty : FieldType} (h1 : va_RA s c1 ty) (h2 : va_RA s c2 ty) : c1 = c2 := by
  cases ty with
  | object C =>
    obtain ⟨_, _, _, _, _, g1⟩ := h1
    obtain ⟨_, _, _, _, _, g2⟩ := h2
    exact Option.some.inj (g1.symm.trans g2)
  | _ => exact Option.some.inj (Eq.trans (Eq.symm h1) h2)

theorem V_newI {n : Int32} {N : Nat} (h : D1 m pc (.newarray .int) 2 pc') (hn : ¬ n < 0) (hN : n.toNatClampNeg = N) (hb : N ≤ 1000) (h1 : u1 + 1 ≤ mc) (h2 : u2 + N ≤ ms) (k : V m d (u1 + 1) (u2 + N) mc ms pc' L (.ref sh.length :: S) (sh ++ [(1, N)]) (zR R sh.length) (zI I sh.length) (zJ J sh.length) Q) : V m d u1 u2 mc ms pc L (.int n :: S) sh R I J Q := by
  obtain ⟨hd, rfl⟩ := h
  intro p l e Rm s mid args below meth c H locs ls b D cA F hz hw hS hl
  have hR := F.R
  refine va_newa (atype := .int) (ty := .int) (a0 := (N, .inl (fun _ => 0))) F.x F.cc (F.t (.arrayClass .int) (by first | exact gwI | exact gwJ)) rfl hw.2 hw.1 ws_D hS (fun q hq => Nat.le_trans F.bb hq) (fun cA => rfl) hn hN (by show N * _ ≤ _; simp [componentBytes]; omega) (by omega) (by omega) hd (fun q cB H1 hK1 hP1 hD1 hS1 => ?_)
  have hcB : cB = cA 1 := arr_cls (hK1.2 4 _ rfl).2 (hK1.2 0 _ rfl).2
  subst hcB
  refine new_at hz hP1 hD1 (fun hq => ?_)
  subst hq
  rw [ws_push (R' := zR R sh.length) (I' := zI I sh.length) (J' := zJ J sh.length) (s := (1, N)) (fun a' s' ha => cell_other (fun j => by unfold zR; rw [if_neg ha]) (fun j => by unfold zI; rw [if_neg ha]) (fun j => by unfold zJ; rw [if_neg ha]) s') (by
    exact congrArg (fun g : Nat → Int32 => (Sum.inl (cA 1, N, .inl g) : va_E)) (funext fun j => by unfold zI; rw [if_pos rfl]))] at hP1
  exact k p l e Rm s mid args below meth c H1 locs ls b D cA F (by rw [List.length_append]; simp; omega) ⟨hP1, hw.2⟩ hS1 hl
theorem V_newJ {n : Int32} {N : Nat} (h : D1 m pc (.newarray .long) 2 pc') (hn : ¬ n < 0) (hN : n.toNatClampNeg = N) (hb : N ≤ 1000) (h1 : u1 + 1 ≤ mc) (h2 : u2 + N ≤ ms) (k : V m d (u1 + 1) (u2 + N) mc ms pc' L (.ref sh.length :: S) (sh ++ [(2, N)]) (zR R sh.length) (zI I sh.length) (zJ J sh.length) Q) : V m d u1 u2 mc ms pc L (.int n :: S) sh R I J Q := by
  obtain ⟨hd, rfl⟩ := h
  intro p l e Rm s mid args below meth c H locs ls b D cA F hz hw hS hl
  have hR := F.R
  refine va_newa (atype := .long) (ty := .long) (a0 := (N, .inr (.inl (fun _ => 0)))) F.x F.cc (F.t (.arrayClass .long) (by first | exact gwI | exact gwJ)) rfl hw.2 hw.1 ws_D hS (fun q hq => Nat.le_trans F.bb hq) (fun cA => rfl) hn hN (by show N * _ ≤ _; simp [componentBytes]; omega) (by omega) (by omega) hd (fun q cB H1 hK1 hP1 hD1 hS1 => ?_)
  have hcB : cB = cA 2 := arr_cls (hK1.2 4 _ rfl).2 (hK1.2 1 _ rfl).2
  subst hcB
  refine new_at hz hP1 hD1 (fun hq => ?_)
  subst hq
  rw [ws_push (R' := zR R sh.length) (I' := zI I sh.length) (J' := zJ J sh.length) (s := (2, N)) (fun a' s' ha => cell_other (fun j => by unfold zR; rw [if_neg ha]) (fun j => by unfold zI; rw [if_neg ha]) (fun j => by unfold zJ; rw [if_neg ha]) s') (by
    exact congrArg (fun g : Nat → Int64 => (Sum.inl (cA 2, N, .inr (.inl g)) : va_E)) (funext fun j => by unfold zJ; rw [if_pos rfl]))] at hP1
  exact k p l e Rm s mid args below meth c H1 locs ls b D cA F (by rw [List.length_append]; simp; omega) ⟨hP1, hw.2⟩ hS1 hl
theorem V_newA {n : Int32} {N j : Nat} (h : DA m pc j pc') (hn : ¬ n < 0) (hN : n.toNatClampNeg = N) (hb : N ≤ 1000) (h1 : u1 + 1 ≤ mc) (h2 : u2 + N ≤ ms) (k : V m d (u1 + 1) (u2 + N) mc ms pc' L (.ref sh.length :: S) (sh ++ [(j, N)]) (zR R sh.length) (zI I sh.length) (zJ J sh.length) Q) : V m d u1 u2 mc ms pc L (.int n :: S) sh R I J Q := by
  obtain ⟨idx, C, hd, hlk, hj, rfl⟩ := h
  intro p l e Rm s mid args below meth c H locs ls b D cA F hz hw hS hl
  have hR := F.R
  refine va_newq (C := C) F.x F.cc F.o (F.t _ hlk) (by rcases hj with ⟨-, rfl⟩ | ⟨-, rfl⟩; exact F.nw.2.1; exact F.nw.2.2) hw.2 hw.1 ws_D hS (fun q hq => Nat.le_trans F.bb hq) hn hN (by omega) (by omega) (by omega) hd (fun q cB H1 hK1 hP1 hD1 hS1 => ?_)
  have hcB : cB = cA j := by
    rcases hj with ⟨rfl, rfl⟩ | ⟨rfl, rfl⟩
    · exact arr_cls (hK1.2 4 _ rfl).2 (hK1.2 2 _ rfl).2
    · exact arr_cls (hK1.2 4 _ rfl).2 (hK1.2 3 _ rfl).2
  subst hcB
  refine new_at hz hP1 hD1 (fun hq => ?_)
  subst hq
  rw [ws_push (R' := zR R sh.length) (I' := zI I sh.length) (J' := zJ J sh.length) (s := (j, N)) (fun a' s' ha => cell_other (fun j => by unfold zR; rw [if_neg ha]) (fun j => by unfold zI; rw [if_neg ha]) (fun j => by unfold zJ; rw [if_neg ha]) s') (by
    have e : (fun i => (zR R sh.length sh.length i).map (fun q => b + q)) = fun _ => none := funext fun i => by unfold zR; rw [if_pos rfl]; rfl
    rcases hj with ⟨rfl, -⟩ | ⟨rfl, -⟩ <;> exact congrArg (fun g => (Sum.inl (cA _, N, .inr (.inr (.inr (.inr g)))) : va_E)) e)] at hP1
  exact k p l e Rm s mid args below meth c H1 locs ls b D cA F (by rw [List.length_append]; simp; omega) ⟨hP1, hw.2⟩ hS1 hl

/-- System.arraycopy, of ints, in a method that makes nothing -/
theorem V_acopy {a0 a n0 n1 : Nat} {sp dp n : Int32} (h : ∃ idx, decode m.2.2.1 pc = .ok (.invokestatic idx, 3) ∧ Cond.methodLink m.1 idx arraycopyName ∈ gtb ∧ pc + 3 = pc') (hnat : Cond.native arraycopyName ∈ gtb ∧ Cond.static arraycopyName ∈ gtb ∧ Cond.initialized "java/lang/System" ∈ gtb) (hs0 : sh[a0]? = some (1, n0)) (hs1 : sh[a]? = some (1, n1)) (h1 : ¬ sp < 0) (h2 : ¬ dp < 0) (h3 : ¬ n < 0) (h4 : sp.toNatClampNeg + n.toNatClampNeg ≤ n0) (h5 : dp.toNatClampNeg + n.toNatClampNeg ≤ n1) (hd1 : 1 ≤ d) (hc : ((S.map fun v => v.category).sum) ≤ 8) (k : V m d u1 u2 mc ms pc' L S sh R (cpI I a0 sp.toNatClampNeg a dp.toNatClampNeg n.toNatClampNeg) J Q) : V m d u1 u2 mc ms pc L (.int n :: .int dp :: .ref a :: .int sp :: .ref a0 :: S) sh R I J Q := by
  obtain ⟨idx, hd, hlk, rfl⟩ := h
  intro p l e Rm s mid args below meth c H locs ls b D cA F hz hw hS hl
  have hR := F.R
  have hcs : (((S.map (tr b)).map fun v => v.category).sum) ≤ 8 := by
    rw [List.map_map]
    rw [show ((fun v => v.category) ∘ tr b : Value → Nat) = (fun v => v.category) from funext fun v => tr_cat b v]
    exact hc
  refine va_copyi (ty := .int) F.x F.cc (F.ml.trans hl.1.symm) F.o (F.t _ hlk) (F.t _ hnat.1) (F.t _ hnat.2.1) (F.t _ hnat.2.2) hw.2 hw.1 ws_D hS a0 a 0 0 (ws_ai hs0) (ws_ai hs1) rfl rfl rfl h1 h2 h3 h4 h5 (fun _ _ => rfl) (by omega) ?_ hd (fun H1 locs1 hP1 _ hS1 => ?_)
  · have : nativeFrameWords "java/lang/System" "arraycopy" 5 ≤ 12 := by decide +kernel
    omega
  · rw [ws_set (R' := R) (I' := cpI I a0 sp.toNatClampNeg a dp.toNatClampNeg n.toNatClampNeg) (J' := J) hs1 (fun a' s' h => cell_other (fun _ => rfl) (fun j => by unfold cpI; rw [if_neg (fun q => h q.1)]) (fun _ => rfl) s') (congrArg (fun g : Nat → Int32 => (Sum.inl (cA 1, n1, .inl g) : va_E)) (funext fun j => by unfold cpI va_cpy; simp))] at hP1
    exact k p l e Rm s mid args below meth c H1 locs1 ls b D cA F hz ⟨hP1, hw.2⟩ hS1 hl
/-- behind any call -/
theorem va_callG {p : Program} {l : Launch} {e : Env} {R : Room} {s : State} {m : MethodId} {args : Array Value} {below : List Frame} {meth : Method} {c : Code} {H : Heap} {locs : List Loc} {cells slots : Nat} {Q : State → Prop} {pc : Nat} {ls : Array Slot} {rest st0 : List Value} {a : Array Value} {A0 : Nat → Prop} {H0 : Heap} {mc ms : Nat} {free : Addr → Prop} {Qa : Array Value → State → Outcome → State → Prop}
    (hr : va_Run p l e R s m args below meth c H locs cells slots mc ms (F0 m pc ls st0) rest (Qa a) free) (hS : va_S A0 H0 H locs) (hA : ∀ st o t, Qa a st o t → va_F A0 st t) (hf : ∀ q, free q → A0 q)
    (kk : ∀ (v : Option Value) (st t : State) (H1 : Heap) (locs1 : List Loc), t.heap = H1 → s.vm.Alike t.vm → Qa a st (.returned v) t → va_S A0 H0 H1 locs1 → W p l e R s m args below meth c H1 locs1 (cells + mc) (slots + ms) Q (F0 m (pc + 3) ls (v.toList ++ rest))) : W p l e R s m args below meth c H locs cells slots Q (F0 m pc ls st0) := by
  intro T hT X
  obtain ⟨v, st₀, t, T', L, h0, X', hL, e1, e2, hq, st⟩ := hr T hT X
  obtain ⟨hz, hk⟩ := hA _ _ _ hq
  rw [h0] at hz hk
  obtain ⟨t2, a1, b1⟩ := kk v st₀ t T'.heap (locs ++ L) e1.symm (by rw [← e2]; exact X'.warmed.alike) hq
    ⟨Nat.le_trans hS.1 (by rw [e1]; exact hz), fun q h1 h2 => by rw [e1, hk q (Nat.lt_of_lt_of_le h1 hS.1) h2]; exact hS.2.1 q h1 h2, fun q hq => by
      rcases List.mem_append.mp hq with h | h
      · exact hS.2.2 q h
      · exact hf _ (hL q h)⟩ T' rfl X'
  exact ⟨t2, st t2 a1, b1⟩
theorem tr_rest (b : Nat) (S : List Value) (hc : ((S.map fun v => v.category).sum) ≤ 8) : (((S.map (tr b)).map fun v => v.category).sum) ≤ 8 := by
  rw [List.map_map, show ((fun v => v.category) ∘ tr b : Value → Nat) = (fun v => v.category) from funext fun v => tr_cat b v]
  exact hc
theorem Pc_blind {b : Nat} {D : va_G} {cA : Nat → ClassId} {as : List Value} : FrameBlind (PcV b D cA as sh R I J) := fun a U g mk q => ⟨q.1, q.2.1, ⟨q.2.2.1.1, va_K.moved (u := U) (U := U.calling g mk a) (Vm.Alike.refl U.vm) q.2.2.1.2⟩, LT.moved (s := U) (t := U.calling g mk a) (Vm.Alike.refl U.vm) q.2.2.2.1, NW.same (s := U) (U := U.calling g mk a) rfl q.2.2.2.2⟩
theorem gi_mws {m' : Mth} (h : Cond.code m'.2.1 m'.2.2.1 m'.2.2.2.1 m'.2.2.2.2 ∈ gtb) : GoodIn gtb (mws m') := by
  intro w hw
  have hm : w ∈ gtb := by
    rcases List.mem_cons.mp hw with rfl | hw
    · exact h
    · exact hw
  exact ⟨hm, good_of_word (gtb_good _ hm)⟩
theorem gi_app {xs ys : List Cond} (h1 : ∀ w ∈ xs, w ∈ gtb) (h2 : GoodIn gtb ys) : GoodIn gtb (xs ++ ys) := by
  intro w hw
  rcases List.mem_append.mp hw with hw | hw
  · exact ⟨h1 w hw, good_of_word (gtb_good _ (h1 w hw))⟩
  · exact h2 w hw
/-- what is behind a call: the callee's answer on the stack -/
theorem V_back {p : Program} {l : Launch} {e : Env} {Rm : Room} {s : State} {mid : MethodId} {args : Array Value} {below : List Frame} {meth : Method} {c : Code} {H : Heap} {locs : List Loc} {ls : Array Slot} {b : Nat} {D : va_G} {cA : Nat → ClassId} {mc' ms' : Nat} {Q' : PostV} {st0 : List Value} {as : List Value} {pcc : Nat}
    (F : Fx m d mc ms b p Rm s mid args meth c) (hz : s.heap.size + u1 = b + sh.length) (hS : va_S (fun q => b ≤ q) s.heap H locs) (hl : lv_has ls m.2.2.2.1 (L.map (fun q => (q.1, tr b q.2))))
    (hr : va_Run p l e Rm s mid args below meth c H locs u1 u2 mc' ms' (F0 mid pcc ls st0) (S.map (tr b)) (QcV b D cA Q' (as.map (tr b)).toArray) (fun q => b ≤ q))
    (hlen : ∀ r sh' R' I' J', Q' r sh' R' I' J' → sh'.length = sh.length + mc')
    (k : ∀ r sh' R' I' J', Q' r sh' R' I' J' → V m d (u1 + mc') (u2 + ms') mc ms (pcc + 3) L (r.toList ++ S) sh' R' I' J' Q) :
    W p l e Rm s mid args below meth c H locs u1 u2 (MQ below (QcV b D cA Q) args s mc ms (fun q => b ≤ q)) (F0 mid pcc ls st0) := by
  refine va_callG hr hS (fun st o t h => h.2) (fun q h => h) (fun v st t H1 locs1 ht hvm hq hS1 => ?_)
  obtain ⟨⟨r, sh', R', I', J', hv, hQ, hw'⟩, -⟩ := hq
  cases hv
  have hk := k r sh' R' I' J' hQ p l e Rm s mid args below meth c H1 locs1 ls b D cA F (by rw [hlen _ _ _ _ _ hQ]; omega) (by rw [← ht]; exact hw'.moved hvm.symm) hS1 hl
  have e : (r.map (tr b)).toList ++ S.map (tr b) = (r.toList ++ S).map (tr b) := by cases r <;> simp
  rw [e]
  exact hk

theorem V_callV0 {a ci : Nat} {m' : Mth} {d' mc' ms' : Nat} {Q' : PostV} (h : DV m pc m' pc') (hm : MI m' 0) (hc : Ct d' m' [.ref a] sh R I J mc' ms' Q') (hs : sh[a]? = some (0, ci)) (hci : ∃ T N, vwCl[ci]? = some (m'.1, T, N)) (hd : d' + 1 ≤ d) (hst : ((S.map fun v => v.category).sum) ≤ 8) (hb1 : u1 + mc' ≤ mc) (hb2 : u2 + ms' ≤ ms) (hlen : ∀ r sh' R' I' J', Q' r sh' R' I' J' → sh'.length = sh.length + mc')
    (k : ∀ r sh' R' I' J', Q' r sh' R' I' J' → V m d (u1 + mc') (u2 + ms') mc ms pc' L (r.toList ++ S) sh' R' I' J' Q) : V m d u1 u2 mc ms pc L (.ref a :: S) sh R I J Q := by
  obtain ⟨idx, hd9, hlk, rfl⟩ := h
  obtain ⟨hm1, hm2, hm3, hm4, hm5, hm6⟩ := hm
  obtain ⟨T, N, hci⟩ := hci
  intro p l e Rm s mid args below meth c H locs ls b D cA F hz hw hS hl
  have hR := F.R
  refine W_sz hz F.bb hw.1 hS (fun hH => ?_)
  refine V_back (as := [.ref a]) F hz hS hl (va_runV (As := []) (rest := S.map (tr b)) ⟨F.x, F.cc, F.ml, F.o, F.t⟩ (hc l b D cA) (cwV 0 F.t (gi_app (fun w hx => ?_) (gi_mws hm4)) rfl rfl rfl hm5 ⟨by show d' + 1 ≤ _; omega, by show 8 + (_ + 11) + 32 * d' ≤ _; omega⟩) ⟨Pc_blind, va_recv hw.2 hw.1 hci (ws_obj hs), fun U hU hW => ⟨rfl, by rw [hU]; exact hH, by rw [hU]; exact hw.moved hW.alike, by rw [hU]; exact (F.lt.kept hS).moved hW.alike, F.nw.warm hW⟩⟩ rfl rfl hl.1 rfl (lv_room (tr_rest b S hst)) hd9 ⟨by omega, by omega⟩) hlen k
  simp only [List.mem_cons, List.not_mem_nil, or_false] at hx
  rcases hx with rfl | rfl | rfl | rfl
  · exact hlk
  · exact hm1
  · exact hm2
  · exact hm3
theorem V_callV1 {a ci : Nat} {x0 : Value} {m' : Mth} {d' mc' ms' : Nat} {Q' : PostV} (h : DV m pc m' pc') (hm : MI m' 1) (hc : Ct d' m' [.ref a, x0] sh R I J mc' ms' Q') (hs : sh[a]? = some (0, ci)) (hci : ∃ T N, vwCl[ci]? = some (m'.1, T, N)) (hd : d' + 1 ≤ d) (hst : ((S.map fun v => v.category).sum) ≤ 8) (hb1 : u1 + mc' ≤ mc) (hb2 : u2 + ms' ≤ ms) (hlen : ∀ r sh' R' I' J', Q' r sh' R' I' J' → sh'.length = sh.length + mc')
    (k : ∀ r sh' R' I' J', Q' r sh' R' I' J' → V m d (u1 + mc') (u2 + ms') mc ms pc' L (r.toList ++ S) sh' R' I' J' Q) : V m d u1 u2 mc ms pc L (x0 :: .ref a :: S) sh R I J Q := by
  obtain ⟨idx, hd9, hlk, rfl⟩ := h
  obtain ⟨hm1, hm2, hm3, hm4, hm5, hm6⟩ := hm
  obtain ⟨T, N, hci⟩ := hci
  intro p l e Rm s mid args below meth c H locs ls b D cA F hz hw hS hl
  have hR := F.R
  refine W_sz hz F.bb hw.1 hS (fun hH => ?_)
  refine V_back (as := [.ref a, x0]) F hz hS hl (va_runV (As := [tr b x0]) (rest := S.map (tr b)) ⟨F.x, F.cc, F.ml, F.o, F.t⟩ (hc l b D cA) (cwV 1 F.t (gi_app (fun w hx => ?_) (gi_mws hm4)) rfl rfl rfl hm5 ⟨by show d' + 1 ≤ _; omega, by show 8 + (_ + 11) + 32 * d' ≤ _; omega⟩) ⟨Pc_blind, va_recv hw.2 hw.1 hci (ws_obj hs), fun U hU hW => ⟨rfl, by rw [hU]; exact hH, by rw [hU]; exact hw.moved hW.alike, by rw [hU]; exact (F.lt.kept hS).moved hW.alike, F.nw.warm hW⟩⟩ rfl rfl hl.1 rfl (lv_room (tr_rest b S hst)) hd9 ⟨by omega, by omega⟩) hlen k
  simp only [List.mem_cons, List.not_mem_nil, or_false] at hx
  rcases hx with rfl | rfl | rfl | rfl
  · exact hlk
  · exact hm1
  · exact hm2
  · exact hm3
theorem V_callV2 {a ci : Nat} {x0 x1 : Value} {m' : Mth} {d' mc' ms' : Nat} {Q' : PostV} (h : DV m pc m' pc') (hm : MI m' 2) (hc : Ct d' m' [.ref a, x0, x1] sh R I J mc' ms' Q') (hs : sh[a]? = some (0, ci)) (hci : ∃ T N, vwCl[ci]? = some (m'.1, T, N)) (hd : d' + 1 ≤ d) (hst : ((S.map fun v => v.category).sum) ≤ 8) (hb1 : u1 + mc' ≤ mc) (hb2 : u2 + ms' ≤ ms) (hlen : ∀ r sh' R' I' J', Q' r sh' R' I' J' → sh'.length = sh.length + mc')
    (k : ∀ r sh' R' I' J', Q' r sh' R' I' J' → V m d (u1 + mc') (u2 + ms') mc ms pc' L (r.toList ++ S) sh' R' I' J' Q) : V m d u1 u2 mc ms pc L (x1 :: x0 :: .ref a :: S) sh R I J Q := by
  obtain ⟨idx, hd9, hlk, rfl⟩ := h
  obtain ⟨hm1, hm2, hm3, hm4, hm5, hm6⟩ := hm
  obtain ⟨T, N, hci⟩ := hci
  intro p l e Rm s mid args below meth c H locs ls b D cA F hz hw hS hl
  have hR := F.R
  refine W_sz hz F.bb hw.1 hS (fun hH => ?_)
  refine V_back (as := [.ref a, x0, x1]) F hz hS hl (va_runV (As := [tr b x0, tr b x1]) (rest := S.map (tr b)) ⟨F.x, F.cc, F.ml, F.o, F.t⟩ (hc l b D cA) (cwV 2 F.t (gi_app (fun w hx => ?_) (gi_mws hm4)) rfl rfl rfl hm5 ⟨by show d' + 1 ≤ _; omega, by show 8 + (_ + 11) + 32 * d' ≤ _; omega⟩) ⟨Pc_blind, va_recv hw.2 hw.1 hci (ws_obj hs), fun U hU hW => ⟨rfl, by rw [hU]; exact hH, by rw [hU]; exact hw.moved hW.alike, by rw [hU]; exact (F.lt.kept hS).moved hW.alike, F.nw.warm hW⟩⟩ rfl rfl hl.1 rfl (lv_room (tr_rest b S hst)) hd9 ⟨by omega, by omega⟩) hlen k
  simp only [List.mem_cons, List.not_mem_nil, or_false] at hx
  rcases hx with rfl | rfl | rfl | rfl
  · exact hlk
  · exact hm1
  · exact hm2
  · exact hm3
theorem V_callV3 {a ci : Nat} {x0 x1 x2 : Value} {m' : Mth} {d' mc' ms' : Nat} {Q' : PostV} (h : DV m pc m' pc') (hm : MI m' 3) (hc : Ct d' m' [.ref a, x0, x1, x2] sh R I J mc' ms' Q') (hs : sh[a]? = some (0, ci)) (hci : ∃ T N, vwCl[ci]? = some (m'.1, T, N)) (hd : d' + 1 ≤ d) (hst : ((S.map fun v => v.category).sum) ≤ 8) (hb1 : u1 + mc' ≤ mc) (hb2 : u2 + ms' ≤ ms) (hlen : ∀ r sh' R' I' J', Q' r sh' R' I' J' → sh'.length = sh.length + mc')
    (k : ∀ r sh' R' I' J', Q' r sh' R' I' J' → V m d (u1 + mc') (u2 + ms') mc ms pc' L (r.toList ++ S) sh' R' I' J' Q) : V m d u1 u2 mc ms pc L (x2 :: x1 :: x0 :: .ref a :: S) sh R I J Q := by
  obtain ⟨idx, hd9, hlk, rfl⟩ := h
  obtain ⟨hm1, hm2, hm3, hm4, hm5, hm6⟩ := hm
  obtain ⟨T, N, hci⟩ := hci
  intro p l e Rm s mid args below meth c H locs ls b D cA F hz hw hS hl
  have hR := F.R
  refine W_sz hz F.bb hw.1 hS (fun hH => ?_)
  refine V_back (as := [.ref a, x0, x1, x2]) F hz hS hl (va_runV (As := [tr b x0, tr b x1, tr b x2]) (rest := S.map (tr b)) ⟨F.x, F.cc, F.ml, F.o, F.t⟩ (hc l b D cA) (cwV 3 F.t (gi_app (fun w hx => ?_) (gi_mws hm4)) rfl rfl rfl hm5 ⟨by show d' + 1 ≤ _; omega, by show 8 + (_ + 11) + 32 * d' ≤ _; omega⟩) ⟨Pc_blind, va_recv hw.2 hw.1 hci (ws_obj hs), fun U hU hW => ⟨rfl, by rw [hU]; exact hH, by rw [hU]; exact hw.moved hW.alike, by rw [hU]; exact (F.lt.kept hS).moved hW.alike, F.nw.warm hW⟩⟩ rfl rfl hl.1 rfl (lv_room (tr_rest b S hst)) hd9 ⟨by omega, by omega⟩) hlen k
  simp only [List.mem_cons, List.not_mem_nil, or_false] at hx
  rcases hx with rfl | rfl | rfl | rfl
  · exact hlk
  · exact hm1
  · exact hm2
  · exact hm3
theorem V_callV4 {a ci : Nat} {x0 x1 x2 x3 : Value} {m' : Mth} {d' mc' ms' : Nat} {Q' : PostV} (h : DV m pc m' pc') (hm : MI m' 4) (hc : Ct d' m' [.ref a, x0, x1, x2, x3] sh R I J mc' ms' Q') (hs : sh[a]? = some (0, ci)) (hci : ∃ T N, vwCl[ci]? = some (m'.1, T, N)) (hd : d' + 1 ≤ d) (hst : ((S.map fun v => v.category).sum) ≤ 8) (hb1 : u1 + mc' ≤ mc) (hb2 : u2 + ms' ≤ ms) (hlen : ∀ r sh' R' I' J', Q' r sh' R' I' J' → sh'.length = sh.length + mc')
    (k : ∀ r sh' R' I' J', Q' r sh' R' I' J' → V m d (u1 + mc') (u2 + ms') mc ms pc' L (r.toList ++ S) sh' R' I' J' Q) : V m d u1 u2 mc ms pc L (x3 :: x2 :: x1 :: x0 :: .ref a :: S) sh R I J Q := by
  obtain ⟨idx, hd9, hlk, rfl⟩ := h
  obtain ⟨hm1, hm2, hm3, hm4, hm5, hm6⟩ := hm
  obtain ⟨T, N, hci⟩ := hci
  intro p l e Rm s mid args below meth c H locs ls b D cA F hz hw hS hl
  have hR := F.R
  refine W_sz hz F.bb hw.1 hS (fun hH => ?_)
  refine V_back (as := [.ref a, x0, x1, x2, x3]) F hz hS hl (va_runV (As := [tr b x0, tr b x1, tr b x2, tr b x3]) (rest := S.map (tr b)) ⟨F.x, F.cc, F.ml, F.o, F.t⟩ (hc l b D cA) (cwV 4 F.t (gi_app (fun w hx => ?_) (gi_mws hm4)) rfl rfl rfl hm5 ⟨by show d' + 1 ≤ _; omega, by show 8 + (_ + 11) + 32 * d' ≤ _; omega⟩) ⟨Pc_blind, va_recv hw.2 hw.1 hci (ws_obj hs), fun U hU hW => ⟨rfl, by rw [hU]; exact hH, by rw [hU]; exact hw.moved hW.alike, by rw [hU]; exact (F.lt.kept hS).moved hW.alike, F.nw.warm hW⟩⟩ rfl rfl hl.1 rfl (lv_room (tr_rest b S hst)) hd9 ⟨by omega, by omega⟩) hlen k
  simp only [List.mem_cons, List.not_mem_nil, or_false] at hx
  rcases hx with rfl | rfl | rfl | rfl
  · exact hlk
  · exact hm1
  · exact hm2
  · exact hm3
theorem V_callV5 {a ci : Nat} {x0 x1 x2 x3 x4 : Value} {m' : Mth} {d' mc' ms' : Nat} {Q' : PostV} (h : DV m pc m' pc') (hm : MI m' 5) (hc : Ct d' m' [.ref a, x0, x1, x2, x3, x4] sh R I J mc' ms' Q') (hs : sh[a]? = some (0, ci)) (hci : ∃ T N, vwCl[ci]? = some (m'.1, T, N)) (hd : d' + 1 ≤ d) (hst : ((S.map fun v => v.category).sum) ≤ 8) (hb1 : u1 + mc' ≤ mc) (hb2 : u2 + ms' ≤ ms) (hlen : ∀ r sh' R' I' J', Q' r sh' R' I' J' → sh'.length = sh.length + mc')
    (k : ∀ r sh' R' I' J', Q' r sh' R' I' J' → V m d (u1 + mc') (u2 + ms') mc ms pc' L (r.toList ++ S) sh' R' I' J' Q) : V m d u1 u2 mc ms pc L (x4 :: x3 :: x2 :: x1 :: x0 :: .ref a :: S) sh R I J Q := by
  obtain ⟨idx, hd9, hlk, rfl⟩ := h
  obtain ⟨hm1, hm2, hm3, hm4, hm5, hm6⟩ := hm
  obtain ⟨T, N, hci⟩ := hci
  intro p l e Rm s mid args below meth c H locs ls b D cA F hz hw hS hl
  have hR := F.R
  refine W_sz hz F.bb hw.1 hS (fun hH => ?_)
  refine V_back (as := [.ref a, x0, x1, x2, x3, x4]) F hz hS hl (va_runV (As := [tr b x0, tr b x1, tr b x2, tr b x3, tr b x4]) (rest := S.map (tr b)) ⟨F.x, F.cc, F.ml, F.o, F.t⟩ (hc l b D cA) (cwV 5 F.t (gi_app (fun w hx => ?_) (gi_mws hm4)) rfl rfl rfl hm5 ⟨by show d' + 1 ≤ _; omega, by show 8 + (_ + 11) + 32 * d' ≤ _; omega⟩) ⟨Pc_blind, va_recv hw.2 hw.1 hci (ws_obj hs), fun U hU hW => ⟨rfl, by rw [hU]; exact hH, by rw [hU]; exact hw.moved hW.alike, by rw [hU]; exact (F.lt.kept hS).moved hW.alike, F.nw.warm hW⟩⟩ rfl rfl hl.1 rfl (lv_room (tr_rest b S hst)) hd9 ⟨by omega, by omega⟩) hlen k
  simp only [List.mem_cons, List.not_mem_nil, or_false] at hx
  rcases hx with rfl | rfl | rfl | rfl
  · exact hlk
  · exact hm1
  · exact hm2
  · exact hm3
theorem V_callV6 {a ci : Nat} {x0 x1 x2 x3 x4 x5 : Value} {m' : Mth} {d' mc' ms' : Nat} {Q' : PostV} (h : DV m pc m' pc') (hm : MI m' 6) (hc : Ct d' m' [.ref a, x0, x1, x2, x3, x4, x5] sh R I J mc' ms' Q') (hs : sh[a]? = some (0, ci)) (hci : ∃ T N, vwCl[ci]? = some (m'.1, T, N)) (hd : d' + 1 ≤ d) (hst : ((S.map fun v => v.category).sum) ≤ 8) (hb1 : u1 + mc' ≤ mc) (hb2 : u2 + ms' ≤ ms) (hlen : ∀ r sh' R' I' J', Q' r sh' R' I' J' → sh'.length = sh.length + mc')
    (k : ∀ r sh' R' I' J', Q' r sh' R' I' J' → V m d (u1 + mc') (u2 + ms') mc ms pc' L (r.toList ++ S) sh' R' I' J' Q) : V m d u1 u2 mc ms pc L (x5 :: x4 :: x3 :: x2 :: x1 :: x0 :: .ref a :: S) sh R I J Q := by
  obtain ⟨idx, hd9, hlk, rfl⟩ := h
  obtain ⟨hm1, hm2, hm3, hm4, hm5, hm6⟩ := hm
  obtain ⟨T, N, hci⟩ := hci
  intro p l e Rm s mid args below meth c H locs ls b D cA F hz hw hS hl
  have hR := F.R
  refine W_sz hz F.bb hw.1 hS (fun hH => ?_)
  refine V_back (as := [.ref a, x0, x1, x2, x3, x4, x5]) F hz hS hl (va_runV (As := [tr b x0, tr b x1, tr b x2, tr b x3, tr b x4, tr b x5]) (rest := S.map (tr b)) ⟨F.x, F.cc, F.ml, F.o, F.t⟩ (hc l b D cA) (cwV 6 F.t (gi_app (fun w hx => ?_) (gi_mws hm4)) rfl rfl rfl hm5 ⟨by show d' + 1 ≤ _; omega, by show 8 + (_ + 11) + 32 * d' ≤ _; omega⟩) ⟨Pc_blind, va_recv hw.2 hw.1 hci (ws_obj hs), fun U hU hW => ⟨rfl, by rw [hU]; exact hH, by rw [hU]; exact hw.moved hW.alike, by rw [hU]; exact (F.lt.kept hS).moved hW.alike, F.nw.warm hW⟩⟩ rfl rfl hl.1 rfl (lv_room (tr_rest b S hst)) hd9 ⟨by omega, by omega⟩) hlen k
  simp only [List.mem_cons, List.not_mem_nil, or_false] at hx
  rcases hx with rfl | rfl | rfl | rfl
  · exact hlk
  · exact hm1
  · exact hm2
  · exact hm3
theorem V_callS0 {m' : Mth} {d' mc' ms' : Nat} {Q' : PostV} (h : DS m pc m' pc') (hm : MS m' 0) (hc : Ct d' m' [] sh R I J mc' ms' Q') (hd : d' + 1 ≤ d) (hst : ((S.map fun v => v.category).sum) ≤ 8) (hb1 : u1 + mc' ≤ mc) (hb2 : u2 + ms' ≤ ms) (hlen : ∀ r sh' R' I' J', Q' r sh' R' I' J' → sh'.length = sh.length + mc')
    (k : ∀ r sh' R' I' J', Q' r sh' R' I' J' → V m d (u1 + mc') (u2 + ms') mc ms pc' L (r.toList ++ S) sh' R' I' J' Q) : V m d u1 u2 mc ms pc L (S) sh R I J Q := by
  obtain ⟨idx, hd9, hlk, rfl⟩ := h
  obtain ⟨hm1, hm3, hm4, hm5, hm6⟩ := hm
  intro p l e Rm s mid args below meth c H locs ls b D cA F hz hw hS hl
  have hR := F.R
  refine W_sz hz F.bb hw.1 hS (fun hH => ?_)
  refine V_back (as := []) F hz hS hl (va_runS (As := []) (rest := S.map (tr b)) ⟨F.x, F.cc, F.ml, F.o, F.t⟩ (hc l b D cA) (va_cwS 0 F.t (gi_app (fun w hx => ?_) (gi_mws hm4)) rfl rfl rfl hm5 ⟨by show d' + 1 ≤ _; omega, by show 8 + (_ + 11) + 32 * d' ≤ _; omega⟩) ⟨Pc_blind, fun U hU hW => ⟨rfl, by rw [hU]; exact hH, by rw [hU]; exact hw.moved hW.alike, by rw [hU]; exact (F.lt.kept hS).moved hW.alike, F.nw.warm hW⟩⟩ rfl rfl hl.1 rfl (lv_room (tr_rest b S hst)) hd9 ⟨by omega, by omega⟩) hlen k
  simp only [List.mem_cons, List.not_mem_nil, or_false] at hx
  rcases hx with rfl | rfl | rfl
  · exact hlk
  · exact hm1
  · exact hm3
theorem V_callS1 {x0 : Value} {m' : Mth} {d' mc' ms' : Nat} {Q' : PostV} (h : DS m pc m' pc') (hm : MS m' 1) (hc : Ct d' m' [x0] sh R I J mc' ms' Q') (hd : d' + 1 ≤ d) (hst : ((S.map fun v => v.category).sum) ≤ 8) (hb1 : u1 + mc' ≤ mc) (hb2 : u2 + ms' ≤ ms) (hlen : ∀ r sh' R' I' J', Q' r sh' R' I' J' → sh'.length = sh.length + mc')
    (k : ∀ r sh' R' I' J', Q' r sh' R' I' J' → V m d (u1 + mc') (u2 + ms') mc ms pc' L (r.toList ++ S) sh' R' I' J' Q) : V m d u1 u2 mc ms pc L (x0 :: S) sh R I J Q := by
  obtain ⟨idx, hd9, hlk, rfl⟩ := h
  obtain ⟨hm1, hm3, hm4, hm5, hm6⟩ := hm
  intro p l e Rm s mid args below meth c H locs ls b D cA F hz hw hS hl
  have hR := F.R
  refine W_sz hz F.bb hw.1 hS (fun hH => ?_)
  refine V_back (as := [x0]) F hz hS hl (va_runS (As := [tr b x0]) (rest := S.map (tr b)) ⟨F.x, F.cc, F.ml, F.o, F.t⟩ (hc l b D cA) (va_cwS 1 F.t (gi_app (fun w hx => ?_) (gi_mws hm4)) rfl rfl rfl hm5 ⟨by show d' + 1 ≤ _; omega, by show 8 + (_ + 11) + 32 * d' ≤ _; omega⟩) ⟨Pc_blind, fun U hU hW => ⟨rfl, by rw [hU]; exact hH, by rw [hU]; exact hw.moved hW.alike, by rw [hU]; exact (F.lt.kept hS).moved hW.alike, F.nw.warm hW⟩⟩ rfl rfl hl.1 rfl (lv_room (tr_rest b S hst)) hd9 ⟨by omega, by omega⟩) hlen k
  simp only [List.mem_cons, List.not_mem_nil, or_false] at hx
  rcases hx with rfl | rfl | rfl
  · exact hlk
  · exact hm1
  · exact hm3
theorem V_callS2 {x0 x1 : Value} {m' : Mth} {d' mc' ms' : Nat} {Q' : PostV} (h : DS m pc m' pc') (hm : MS m' 2) (hc : Ct d' m' [x0, x1] sh R I J mc' ms' Q') (hd : d' + 1 ≤ d) (hst : ((S.map fun v => v.category).sum) ≤ 8) (hb1 : u1 + mc' ≤ mc) (hb2 : u2 + ms' ≤ ms) (hlen : ∀ r sh' R' I' J', Q' r sh' R' I' J' → sh'.length = sh.length + mc')
    (k : ∀ r sh' R' I' J', Q' r sh' R' I' J' → V m d (u1 + mc') (u2 + ms') mc ms pc' L (r.toList ++ S) sh' R' I' J' Q) : V m d u1 u2 mc ms pc L (x1 :: x0 :: S) sh R I J Q := by
  obtain ⟨idx, hd9, hlk, rfl⟩ := h
  obtain ⟨hm1, hm3, hm4, hm5, hm6⟩ := hm
  intro p l e Rm s mid args below meth c H locs ls b D cA F hz hw hS hl
  have hR := F.R
  refine W_sz hz F.bb hw.1 hS (fun hH => ?_)
  refine V_back (as := [x0, x1]) F hz hS hl (va_runS (As := [tr b x0, tr b x1]) (rest := S.map (tr b)) ⟨F.x, F.cc, F.ml, F.o, F.t⟩ (hc l b D cA) (va_cwS 2 F.t (gi_app (fun w hx => ?_) (gi_mws hm4)) rfl rfl rfl hm5 ⟨by show d' + 1 ≤ _; omega, by show 8 + (_ + 11) + 32 * d' ≤ _; omega⟩) ⟨Pc_blind, fun U hU hW => ⟨rfl, by rw [hU]; exact hH, by rw [hU]; exact hw.moved hW.alike, by rw [hU]; exact (F.lt.kept hS).moved hW.alike, F.nw.warm hW⟩⟩ rfl rfl hl.1 rfl (lv_room (tr_rest b S hst)) hd9 ⟨by omega, by omega⟩) hlen k
  simp only [List.mem_cons, List.not_mem_nil, or_false] at hx
  rcases hx with rfl | rfl | rfl
  · exact hlk
  · exact hm1
  · exact hm3
theorem V_callS3 {x0 x1 x2 : Value} {m' : Mth} {d' mc' ms' : Nat} {Q' : PostV} (h : DS m pc m' pc') (hm : MS m' 3) (hc : Ct d' m' [x0, x1, x2] sh R I J mc' ms' Q') (hd : d' + 1 ≤ d) (hst : ((S.map fun v => v.category).sum) ≤ 8) (hb1 : u1 + mc' ≤ mc) (hb2 : u2 + ms' ≤ ms) (hlen : ∀ r sh' R' I' J', Q' r sh' R' I' J' → sh'.length = sh.length + mc')
    (k : ∀ r sh' R' I' J', Q' r sh' R' I' J' → V m d (u1 + mc') (u2 + ms') mc ms pc' L (r.toList ++ S) sh' R' I' J' Q) : V m d u1 u2 mc ms pc L (x2 :: x1 :: x0 :: S) sh R I J Q := by
  obtain ⟨idx, hd9, hlk, rfl⟩ := h
  obtain ⟨hm1, hm3, hm4, hm5, hm6⟩ := hm
  intro p l e Rm s mid args below meth c H locs ls b D cA F hz hw hS hl
  have hR := F.R
  refine W_sz hz F.bb hw.1 hS (fun hH => ?_)
  refine V_back (as := [x0, x1, x2]) F hz hS hl (va_runS (As := [tr b x0, tr b x1, tr b x2]) (rest := S.map (tr b)) ⟨F.x, F.cc, F.ml, F.o, F.t⟩ (hc l b D cA) (va_cwS 3 F.t (gi_app (fun w hx => ?_) (gi_mws hm4)) rfl rfl rfl hm5 ⟨by show d' + 1 ≤ _; omega, by show 8 + (_ + 11) + 32 * d' ≤ _; omega⟩) ⟨Pc_blind, fun U hU hW => ⟨rfl, by rw [hU]; exact hH, by rw [hU]; exact hw.moved hW.alike, by rw [hU]; exact (F.lt.kept hS).moved hW.alike, F.nw.warm hW⟩⟩ rfl rfl hl.1 rfl (lv_room (tr_rest b S hst)) hd9 ⟨by omega, by omega⟩) hlen k
  simp only [List.mem_cons, List.not_mem_nil, or_false] at hx
  rcases hx with rfl | rfl | rfl
  · exact hlk
  · exact hm1
  · exact hm3
theorem V_callS4 {x0 x1 x2 x3 : Value} {m' : Mth} {d' mc' ms' : Nat} {Q' : PostV} (h : DS m pc m' pc') (hm : MS m' 4) (hc : Ct d' m' [x0, x1, x2, x3] sh R I J mc' ms' Q') (hd : d' + 1 ≤ d) (hst : ((S.map fun v => v.category).sum) ≤ 8) (hb1 : u1 + mc' ≤ mc) (hb2 : u2 + ms' ≤ ms) (hlen : ∀ r sh' R' I' J', Q' r sh' R' I' J' → sh'.length = sh.length + mc')
    (k : ∀ r sh' R' I' J', Q' r sh' R' I' J' → V m d (u1 + mc') (u2 + ms') mc ms pc' L (r.toList ++ S) sh' R' I' J' Q) : V m d u1 u2 mc ms pc L (x3 :: x2 :: x1 :: x0 :: S) sh R I J Q := by
  obtain ⟨idx, hd9, hlk, rfl⟩ := h
  obtain ⟨hm1, hm3, hm4, hm5, hm6⟩ := hm
  intro p l e Rm s mid args below meth c H locs ls b D cA F hz hw hS hl
  have hR := F.R
  refine W_sz hz F.bb hw.1 hS (fun hH => ?_)
  refine V_back (as := [x0, x1, x2, x3]) F hz hS hl (va_runS (As := [tr b x0, tr b x1, tr b x2, tr b x3]) (rest := S.map (tr b)) ⟨F.x, F.cc, F.ml, F.o, F.t⟩ (hc l b D cA) (va_cwS 4 F.t (gi_app (fun w hx => ?_) (gi_mws hm4)) rfl rfl rfl hm5 ⟨by show d' + 1 ≤ _; omega, by show 8 + (_ + 11) + 32 * d' ≤ _; omega⟩) ⟨Pc_blind, fun U hU hW => ⟨rfl, by rw [hU]; exact hH, by rw [hU]; exact hw.moved hW.alike, by rw [hU]; exact (F.lt.kept hS).moved hW.alike, F.nw.warm hW⟩⟩ rfl rfl hl.1 rfl (lv_room (tr_rest b S hst)) hd9 ⟨by omega, by omega⟩) hlen k
  simp only [List.mem_cons, List.not_mem_nil, or_false] at hx
  rcases hx with rfl | rfl | rfl
  · exact hlk
  · exact hm1
  · exact hm3
theorem V_callS5 {x0 x1 x2 x3 x4 : Value} {m' : Mth} {d' mc' ms' : Nat} {Q' : PostV} (h : DS m pc m' pc') (hm : MS m' 5) (hc : Ct d' m' [x0, x1, x2, x3, x4] sh R I J mc' ms' Q') (hd : d' + 1 ≤ d) (hst : ((S.map fun v => v.category).sum) ≤ 8) (hb1 : u1 + mc' ≤ mc) (hb2 : u2 + ms' ≤ ms) (hlen : ∀ r sh' R' I' J', Q' r sh' R' I' J' → sh'.length = sh.length + mc')
    (k : ∀ r sh' R' I' J', Q' r sh' R' I' J' → V m d (u1 + mc') (u2 + ms') mc ms pc' L (r.toList ++ S) sh' R' I' J' Q) : V m d u1 u2 mc ms pc L (x4 :: x3 :: x2 :: x1 :: x0 :: S) sh R I J Q := by
  obtain ⟨idx, hd9, hlk, rfl⟩ := h
  obtain ⟨hm1, hm3, hm4, hm5, hm6⟩ := hm
  intro p l e Rm s mid args below meth c H locs ls b D cA F hz hw hS hl
  have hR := F.R
  refine W_sz hz F.bb hw.1 hS (fun hH => ?_)
  refine V_back (as := [x0, x1, x2, x3, x4]) F hz hS hl (va_runS (As := [tr b x0, tr b x1, tr b x2, tr b x3, tr b x4]) (rest := S.map (tr b)) ⟨F.x, F.cc, F.ml, F.o, F.t⟩ (hc l b D cA) (va_cwS 5 F.t (gi_app (fun w hx => ?_) (gi_mws hm4)) rfl rfl rfl hm5 ⟨by show d' + 1 ≤ _; omega, by show 8 + (_ + 11) + 32 * d' ≤ _; omega⟩) ⟨Pc_blind, fun U hU hW => ⟨rfl, by rw [hU]; exact hH, by rw [hU]; exact hw.moved hW.alike, by rw [hU]; exact (F.lt.kept hS).moved hW.alike, F.nw.warm hW⟩⟩ rfl rfl hl.1 rfl (lv_room (tr_rest b S hst)) hd9 ⟨by omega, by omega⟩) hlen k
  simp only [List.mem_cons, List.not_mem_nil, or_false] at hx
  rcases hx with rfl | rfl | rfl
  · exact hlk
  · exact hm1
  · exact hm3
theorem V_callS6 {x0 x1 x2 x3 x4 x5 : Value} {m' : Mth} {d' mc' ms' : Nat} {Q' : PostV} (h : DS m pc m' pc') (hm : MS m' 6) (hc : Ct d' m' [x0, x1, x2, x3, x4, x5] sh R I J mc' ms' Q') (hd : d' + 1 ≤ d) (hst : ((S.map fun v => v.category).sum) ≤ 8) (hb1 : u1 + mc' ≤ mc) (hb2 : u2 + ms' ≤ ms) (hlen : ∀ r sh' R' I' J', Q' r sh' R' I' J' → sh'.length = sh.length + mc')
    (k : ∀ r sh' R' I' J', Q' r sh' R' I' J' → V m d (u1 + mc') (u2 + ms') mc ms pc' L (r.toList ++ S) sh' R' I' J' Q) : V m d u1 u2 mc ms pc L (x5 :: x4 :: x3 :: x2 :: x1 :: x0 :: S) sh R I J Q := by
  obtain ⟨idx, hd9, hlk, rfl⟩ := h
  obtain ⟨hm1, hm3, hm4, hm5, hm6⟩ := hm
  intro p l e Rm s mid args below meth c H locs ls b D cA F hz hw hS hl
  have hR := F.R
  refine W_sz hz F.bb hw.1 hS (fun hH => ?_)
  refine V_back (as := [x0, x1, x2, x3, x4, x5]) F hz hS hl (va_runS (As := [tr b x0, tr b x1, tr b x2, tr b x3, tr b x4, tr b x5]) (rest := S.map (tr b)) ⟨F.x, F.cc, F.ml, F.o, F.t⟩ (hc l b D cA) (va_cwS 6 F.t (gi_app (fun w hx => ?_) (gi_mws hm4)) rfl rfl rfl hm5 ⟨by show d' + 1 ≤ _; omega, by show 8 + (_ + 11) + 32 * d' ≤ _; omega⟩) ⟨Pc_blind, fun U hU hW => ⟨rfl, by rw [hU]; exact hH, by rw [hU]; exact hw.moved hW.alike, by rw [hU]; exact (F.lt.kept hS).moved hW.alike, F.nw.warm hW⟩⟩ rfl rfl hl.1 rfl (lv_room (tr_rest b S hst)) hd9 ⟨by omega, by omega⟩) hlen k
  simp only [List.mem_cons, List.not_mem_nil, or_false] at hx
  rcases hx with rfl | rfl | rfl
  · exact hlk
  · exact hm1
  · exact hm3
theorem V_callI0 {a ci : Nat} {m' : Mth} {d' mc' ms' : Nat} {Q' : PostV} (h : DI m pc m' pc') (hm : MC m' 0) (hc : Ct d' m' [.ref a] sh R I J mc' ms' Q') (hd : d' + 1 ≤ d) (hst : ((S.map fun v => v.category).sum) ≤ 8) (hb1 : u1 + mc' ≤ mc) (hb2 : u2 + ms' ≤ ms) (hlen : ∀ r sh' R' I' J', Q' r sh' R' I' J' → sh'.length = sh.length + mc')
    (k : ∀ r sh' R' I' J', Q' r sh' R' I' J' → V m d (u1 + mc') (u2 + ms') mc ms pc' L (r.toList ++ S) sh' R' I' J' Q) : V m d u1 u2 mc ms pc L (.ref a :: S) sh R I J Q := by
  obtain ⟨idx, hd9, hlk, rfl⟩ := h
  obtain ⟨hm1, hm3, hm4, hmr, hmn, hm5, hm6⟩ := hm
  intro p l e Rm s mid args below meth c H locs ls b D cA F hz hw hS hl
  have hR := F.R
  refine W_sz hz F.bb hw.1 hS (fun hH => ?_)
  have hmw : mws m' = Cond.code m'.2.1 m'.2.2.1 m'.2.2.2.1 none :: gtb := by unfold mws; rw [hmr]
  rcases hlk with hlk | ⟨host, hlk⟩
  · exact V_back (as := [.ref a]) F hz hS hl (va_runI (As := []) (rest := S.map (tr b)) ⟨F.x, F.cc, F.ml, F.o, F.t⟩ (hc l b D cA) (cwI 0 F.t (gi_mws (by rw [hmr]; exact hm4)) hmw rfl rfl (F.t _ hm3) (F.t _ hlk) (F.t _ hm1) hmn hm5 ⟨by show d' + 1 ≤ _; omega, by show 8 + (_ + 11) + 32 * d' ≤ _; omega⟩) ⟨Pc_blind, fun U hU hW => ⟨rfl, by rw [hU]; exact hH, by rw [hU]; exact hw.moved hW.alike, by rw [hU]; exact (F.lt.kept hS).moved hW.alike, F.nw.warm hW⟩⟩ rfl rfl hl.1 rfl (lv_room (tr_rest b S hst)) hd9 ⟨by omega, by omega⟩) hlen k
  · exact V_back (as := [.ref a]) F hz hS hl (va_runIN (As := []) (rest := S.map (tr b)) ⟨F.x, F.cc, F.ml, F.o, F.t⟩ (hc l b D cA) ⟨va_cnB (host := host) 0 F.t (gi_mws (by rw [hmr]; exact hm4)) hmw rfl rfl (F.nw.1 _ hlk) (F.t _ hm3) hm5 ⟨by show d' + 1 ≤ _; omega, by show 8 + (_ + 11) + 32 * d' ≤ _; omega⟩, hmn, F.t _ hm1⟩ ⟨Pc_blind, fun U hU hW => ⟨rfl, by rw [hU]; exact hH, by rw [hU]; exact hw.moved hW.alike, by rw [hU]; exact (F.lt.kept hS).moved hW.alike, F.nw.warm hW⟩⟩ rfl rfl hl.1 rfl (lv_room (tr_rest b S hst)) hd9 ⟨by omega, by omega⟩) hlen k
theorem V_callI1 {a ci : Nat} {x0 : Value} {m' : Mth} {d' mc' ms' : Nat} {Q' : PostV} (h : DI m pc m' pc') (hm : MC m' 1) (hc : Ct d' m' [.ref a, x0] sh R I J mc' ms' Q') (hd : d' + 1 ≤ d) (hst : ((S.map fun v => v.category).sum) ≤ 8) (hb1 : u1 + mc' ≤ mc) (hb2 : u2 + ms' ≤ ms) (hlen : ∀ r sh' R' I' J', Q' r sh' R' I' J' → sh'.length = sh.length + mc')
    (k : ∀ r sh' R' I' J', Q' r sh' R' I' J' → V m d (u1 + mc') (u2 + ms') mc ms pc' L (r.toList ++ S) sh' R' I' J' Q) : V m d u1 u2 mc ms pc L (x0 :: .ref a :: S) sh R I J Q := by
  obtain ⟨idx, hd9, hlk, rfl⟩ := h
  obtain ⟨hm1, hm3, hm4, hmr, hmn, hm5, hm6⟩ := hm
  intro p l e Rm s mid args below meth c H locs ls b D cA F hz hw hS hl
  have hR := F.R
  refine W_sz hz F.bb hw.1 hS (fun hH => ?_)
  have hmw : mws m' = Cond.code m'.2.1 m'.2.2.1 m'.2.2.2.1 none :: gtb := by unfold mws; rw [hmr]
  rcases hlk with hlk | ⟨host, hlk⟩
  · exact V_back (as := [.ref a, x0]) F hz hS hl (va_runI (As := [tr b x0]) (rest := S.map (tr b)) ⟨F.x, F.cc, F.ml, F.o, F.t⟩ (hc l b D cA) (cwI 1 F.t (gi_mws (by rw [hmr]; exact hm4)) hmw rfl rfl (F.t _ hm3) (F.t _ hlk) (F.t _ hm1) hmn hm5 ⟨by show d' + 1 ≤ _; omega, by show 8 + (_ + 11) + 32 * d' ≤ _; omega⟩) ⟨Pc_blind, fun U hU hW => ⟨rfl, by rw [hU]; exact hH, by rw [hU]; exact hw.moved hW.alike, by rw [hU]; exact (F.lt.kept hS).moved hW.alike, F.nw.warm hW⟩⟩ rfl rfl hl.1 rfl (lv_room (tr_rest b S hst)) hd9 ⟨by omega, by omega⟩) hlen k
  · exact V_back (as := [.ref a, x0]) F hz hS hl (va_runIN (As := [tr b x0]) (rest := S.map (tr b)) ⟨F.x, F.cc, F.ml, F.o, F.t⟩ (hc l b D cA) ⟨va_cnB (host := host) 1 F.t (gi_mws (by rw [hmr]; exact hm4)) hmw rfl rfl (F.nw.1 _ hlk) (F.t _ hm3) hm5 ⟨by show d' + 1 ≤ _; omega, by show 8 + (_ + 11) + 32 * d' ≤ _; omega⟩, hmn, F.t _ hm1⟩ ⟨Pc_blind, fun U hU hW => ⟨rfl, by rw [hU]; exact hH, by rw [hU]; exact hw.moved hW.alike, by rw [hU]; exact (F.lt.kept hS).moved hW.alike, F.nw.warm hW⟩⟩ rfl rfl hl.1 rfl (lv_room (tr_rest b S hst)) hd9 ⟨by omega, by omega⟩) hlen k
theorem V_callI2 {a ci : Nat} {x0 x1 : Value} {m' : Mth} {d' mc' ms' : Nat} {Q' : PostV} (h : DI m pc m' pc') (hm : MC m' 2) (hc : Ct d' m' [.ref a, x0, x1] sh R I J mc' ms' Q') (hd : d' + 1 ≤ d) (hst : ((S.map fun v => v.category).sum) ≤ 8) (hb1 : u1 + mc' ≤ mc) (hb2 : u2 + ms' ≤ ms) (hlen : ∀ r sh' R' I' J', Q' r sh' R' I' J' → sh'.length = sh.length + mc')
    (k : ∀ r sh' R' I' J', Q' r sh' R' I' J' → V m d (u1 + mc') (u2 + ms') mc ms pc' L (r.toList ++ S) sh' R' I' J' Q) : V m d u1 u2 mc ms pc L (x1 :: x0 :: .ref a :: S) sh R I J Q := by
  obtain ⟨idx, hd9, hlk, rfl⟩ := h
  obtain ⟨hm1, hm3, hm4, hmr, hmn, hm5, hm6⟩ := hm
  intro p l e Rm s mid args below meth c H locs ls b D cA F hz hw hS hl
  have hR := F.R
  refine W_sz hz F.bb hw.1 hS (fun hH => ?_)
  have hmw : mws m' = Cond.code m'.2.1 m'.2.2.1 m'.2.2.2.1 none :: gtb := by unfold mws; rw [hmr]
  rcases hlk with hlk | ⟨host, hlk⟩
  · exact V_back (as := [.ref a, x0, x1]) F hz hS hl (va_runI (As := [tr b x0, tr b x1]) (rest := S.map (tr b)) ⟨F.x, F.cc, F.ml, F.o, F.t⟩ (hc l b D cA) (cwI 2 F.t (gi_mws (by rw [hmr]; exact hm4)) hmw rfl rfl (F.t _ hm3) (F.t _ hlk) (F.t _ hm1) hmn hm5 ⟨by show d' + 1 ≤ _; omega, by show 8 + (_ + 11) + 32 * d' ≤ _; omega⟩) ⟨Pc_blind, fun U hU hW => ⟨rfl, by rw [hU]; exact hH, by rw [hU]; exact hw.moved hW.alike, by rw [hU]; exact (F.lt.kept hS).moved hW.alike, F.nw.warm hW⟩⟩ rfl rfl hl.1 rfl (lv_room (tr_rest b S hst)) hd9 ⟨by omega, by omega⟩) hlen k
  · exact V_back (as := [.ref a, x0, x1]) F hz hS hl (va_runIN (As := [tr b x0, tr b x1]) (rest := S.map (tr b)) ⟨F.x, F.cc, F.ml, F.o, F.t⟩ (hc l b D cA) ⟨va_cnB (host := host) 2 F.t (gi_mws (by rw [hmr]; exact hm4)) hmw rfl rfl (F.nw.1 _ hlk) (F.t _ hm3) hm5 ⟨by show d' + 1 ≤ _; omega, by show 8 + (_ + 11) + 32 * d' ≤ _; omega⟩, hmn, F.t _ hm1⟩ ⟨Pc_blind, fun U hU hW => ⟨rfl, by rw [hU]; exact hH, by rw [hU]; exact hw.moved hW.alike, by rw [hU]; exact (F.lt.kept hS).moved hW.alike, F.nw.warm hW⟩⟩ rfl rfl hl.1 rfl (lv_room (tr_rest b S hst)) hd9 ⟨by omega, by omega⟩) hlen k
end VC
end
