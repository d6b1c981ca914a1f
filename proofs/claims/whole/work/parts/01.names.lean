-- ===== PART A: goes FIRST, ahead of the names: the tables' words, and 'selects' of the private methods out of them =====
/-- a private method of a class that the tables say can be made, by its rows of tables_1 -/
def lw_okq (q : MethodName × Nat) : Prop := (q.1.cls ≠ "java/lang/invoke/MethodHandle" ∧ q.1.cls ≠ "java/lang/invoke/VarHandle") ∧ Cond.instantiable q.1.cls q.2 ∈ tables_1 ∧ Cond.privateMethod q.1 ∈ tables_1 ∧ Cond.instanceMethod q.1 ∈ tables_1
theorem lw_p0 : lw_okq (⟨"NestsByKnots$Reader", "advance", "()V"⟩, 10) := ⟨⟨by decide +kernel, by decide +kernel⟩, List.mem_of_getElem? (i := 32) (by decide +kernel), List.mem_of_getElem? (i := 133) (by decide +kernel), List.mem_of_getElem? (i := 134) (by decide +kernel)⟩
theorem lw_p1 : lw_okq (⟨"NestsByKnots$Reader", "word", "()V"⟩, 10) := ⟨⟨by decide +kernel, by decide +kernel⟩, List.mem_of_getElem? (i := 32) (by decide +kernel), List.mem_of_getElem? (i := 140) (by decide +kernel), List.mem_of_getElem? (i := 141) (by decide +kernel)⟩
theorem lw_p2 : lw_okq (⟨"NestsByKnots$Reader", "nameHere", "()I"⟩, 10) := ⟨⟨by decide +kernel, by decide +kernel⟩, List.mem_of_getElem? (i := 32) (by decide +kernel), List.mem_of_getElem? (i := 144) (by decide +kernel), List.mem_of_getElem? (i := 145) (by decide +kernel)⟩
theorem lw_p3 : lw_okq (⟨"NestsByKnots$Reader", "spells", "(Ljava/lang/String;)Z"⟩, 10) := ⟨⟨by decide +kernel, by decide +kernel⟩, List.mem_of_getElem? (i := 32) (by decide +kernel), List.mem_of_getElem? (i := 149) (by decide +kernel), List.mem_of_getElem? (i := 150) (by decide +kernel)⟩
theorem lw_p4 : lw_okq (⟨"NestsByKnots$Reader", "keyHere", "()I"⟩, 10) := ⟨⟨by decide +kernel, by decide +kernel⟩, List.mem_of_getElem? (i := 32) (by decide +kernel), List.mem_of_getElem? (i := 160) (by decide +kernel), List.mem_of_getElem? (i := 161) (by decide +kernel)⟩
theorem lw_p5 : lw_okq (⟨"NestsByKnots$Reader", "digits", "()V"⟩, 10) := ⟨⟨by decide +kernel, by decide +kernel⟩, List.mem_of_getElem? (i := 32) (by decide +kernel), List.mem_of_getElem? (i := 173) (by decide +kernel), List.mem_of_getElem? (i := 174) (by decide +kernel)⟩
theorem lw_p6 : lw_okq (⟨"NestsByKnots$Reader", "part", "(II)V"⟩, 10) := ⟨⟨by decide +kernel, by decide +kernel⟩, List.mem_of_getElem? (i := 32) (by decide +kernel), List.mem_of_getElem? (i := 240) (by decide +kernel), List.mem_of_getElem? (i := 241) (by decide +kernel)⟩
theorem lw_p7 : lw_okq (⟨"NestsByKnots$Reader", "expect", "(I)V"⟩, 10) := ⟨⟨by decide +kernel, by decide +kernel⟩, List.mem_of_getElem? (i := 32) (by decide +kernel), List.mem_of_getElem? (i := 244) (by decide +kernel), List.mem_of_getElem? (i := 245) (by decide +kernel)⟩
theorem lw_p8 : lw_okq (⟨"NestsByKnots$Reader", "refuse", "()V"⟩, 10) := ⟨⟨by decide +kernel, by decide +kernel⟩, List.mem_of_getElem? (i := 32) (by decide +kernel), List.mem_of_getElem? (i := 248) (by decide +kernel), List.mem_of_getElem? (i := 249) (by decide +kernel)⟩
theorem lw_p9 : lw_okq (⟨"NestsByKnots$Reader", "either", "(I)V"⟩, 10) := ⟨⟨by decide +kernel, by decide +kernel⟩, List.mem_of_getElem? (i := 32) (by decide +kernel), List.mem_of_getElem? (i := 252) (by decide +kernel), List.mem_of_getElem? (i := 253) (by decide +kernel)⟩
theorem lw_p10 : lw_okq (⟨"NestsByKnots$Reader", "both", "(I)V"⟩, 10) := ⟨⟨by decide +kernel, by decide +kernel⟩, List.mem_of_getElem? (i := 32) (by decide +kernel), List.mem_of_getElem? (i := 256) (by decide +kernel), List.mem_of_getElem? (i := 257) (by decide +kernel)⟩
theorem lw_p11 : lw_okq (⟨"NestsByKnots$Reader", "denied", "(I)V"⟩, 10) := ⟨⟨by decide +kernel, by decide +kernel⟩, List.mem_of_getElem? (i := 32) (by decide +kernel), List.mem_of_getElem? (i := 260) (by decide +kernel), List.mem_of_getElem? (i := 261) (by decide +kernel)⟩
theorem lw_p12 : lw_okq (⟨"NestsByKnots$Reader", "emit", "(I)V"⟩, 10) := ⟨⟨by decide +kernel, by decide +kernel⟩, List.mem_of_getElem? (i := 32) (by decide +kernel), List.mem_of_getElem? (i := 264) (by decide +kernel), List.mem_of_getElem? (i := 265) (by decide +kernel)⟩
theorem lw_p13 : lw_okq (⟨"NestsByKnots$Reader", "sum", "(I)V"⟩, 10) := ⟨⟨by decide +kernel, by decide +kernel⟩, List.mem_of_getElem? (i := 32) (by decide +kernel), List.mem_of_getElem? (i := 268) (by decide +kernel), List.mem_of_getElem? (i := 269) (by decide +kernel)⟩
theorem lw_p14 : lw_okq (⟨"NestsByKnots$Reader", "term", "(I)V"⟩, 10) := ⟨⟨by decide +kernel, by decide +kernel⟩, List.mem_of_getElem? (i := 32) (by decide +kernel), List.mem_of_getElem? (i := 272) (by decide +kernel), List.mem_of_getElem? (i := 273) (by decide +kernel)⟩
theorem lw_p15 : lw_okq (⟨"NestsByKnots$Reader", "one", "(I)V"⟩, 10) := ⟨⟨by decide +kernel, by decide +kernel⟩, List.mem_of_getElem? (i := 32) (by decide +kernel), List.mem_of_getElem? (i := 276) (by decide +kernel), List.mem_of_getElem? (i := 277) (by decide +kernel)⟩
def lw_privs_1 : List (MethodName × Nat) := [(⟨"NestsByKnots$Reader", "advance", "()V"⟩, 10), (⟨"NestsByKnots$Reader", "word", "()V"⟩, 10), (⟨"NestsByKnots$Reader", "nameHere", "()I"⟩, 10), (⟨"NestsByKnots$Reader", "spells", "(Ljava/lang/String;)Z"⟩, 10), (⟨"NestsByKnots$Reader", "keyHere", "()I"⟩, 10), (⟨"NestsByKnots$Reader", "digits", "()V"⟩, 10), (⟨"NestsByKnots$Reader", "part", "(II)V"⟩, 10), (⟨"NestsByKnots$Reader", "expect", "(I)V"⟩, 10), (⟨"NestsByKnots$Reader", "refuse", "()V"⟩, 10), (⟨"NestsByKnots$Reader", "either", "(I)V"⟩, 10), (⟨"NestsByKnots$Reader", "both", "(I)V"⟩, 10), (⟨"NestsByKnots$Reader", "denied", "(I)V"⟩, 10), (⟨"NestsByKnots$Reader", "emit", "(I)V"⟩, 10), (⟨"NestsByKnots$Reader", "sum", "(I)V"⟩, 10), (⟨"NestsByKnots$Reader", "term", "(I)V"⟩, 10), (⟨"NestsByKnots$Reader", "one", "(I)V"⟩, 10)]
theorem lw_r1 : ∀ q ∈ lw_privs_1, lw_okq q := List.forall_mem_cons.mpr ⟨lw_p0, List.forall_mem_cons.mpr ⟨lw_p1, List.forall_mem_cons.mpr ⟨lw_p2, List.forall_mem_cons.mpr ⟨lw_p3, List.forall_mem_cons.mpr ⟨lw_p4, List.forall_mem_cons.mpr ⟨lw_p5, List.forall_mem_cons.mpr ⟨lw_p6, List.forall_mem_cons.mpr ⟨lw_p7, List.forall_mem_cons.mpr ⟨lw_p8, List.forall_mem_cons.mpr ⟨lw_p9, List.forall_mem_cons.mpr ⟨lw_p10, List.forall_mem_cons.mpr ⟨lw_p11, List.forall_mem_cons.mpr ⟨lw_p12, List.forall_mem_cons.mpr ⟨lw_p13, List.forall_mem_cons.mpr ⟨lw_p14, List.forall_mem_cons.mpr ⟨lw_p15, fun _ h => absurd h List.not_mem_nil⟩⟩⟩⟩⟩⟩⟩⟩⟩⟩⟩⟩⟩⟩⟩⟩
theorem lw_p16 : lw_okq (⟨"NestsByKnots$Net", "met", "(III)I"⟩, 11) := ⟨⟨by decide +kernel, by decide +kernel⟩, List.mem_of_getElem? (i := 317) (by decide +kernel), List.mem_of_getElem? (i := 640) (by decide +kernel), List.mem_of_getElem? (i := 641) (by decide +kernel)⟩
theorem lw_p17 : lw_okq (⟨"NestsByKnots$Net", "nameStrip", "(IIII)V"⟩, 11) := ⟨⟨by decide +kernel, by decide +kernel⟩, List.mem_of_getElem? (i := 317) (by decide +kernel), List.mem_of_getElem? (i := 657) (by decide +kernel), List.mem_of_getElem? (i := 658) (by decide +kernel)⟩
theorem lw_p18 : lw_okq (⟨"NestsByKnots$Net", "name", "(IIIIII)V"⟩, 11) := ⟨⟨by decide +kernel, by decide +kernel⟩, List.mem_of_getElem? (i := 317) (by decide +kernel), List.mem_of_getElem? (i := 661) (by decide +kernel), List.mem_of_getElem? (i := 662) (by decide +kernel)⟩
theorem lw_p19 : lw_okq (⟨"NestsByKnots$Net", "looseAt", "(III)I"⟩, 11) := ⟨⟨by decide +kernel, by decide +kernel⟩, List.mem_of_getElem? (i := 317) (by decide +kernel), List.mem_of_getElem? (i := 712) (by decide +kernel), List.mem_of_getElem? (i := 713) (by decide +kernel)⟩
theorem lw_p20 : lw_okq (⟨"NestsByKnots$Net", "weakestAt", "(II)I"⟩, 11) := ⟨⟨by decide +kernel, by decide +kernel⟩, List.mem_of_getElem? (i := 317) (by decide +kernel), List.mem_of_getElem? (i := 751) (by decide +kernel), List.mem_of_getElem? (i := 752) (by decide +kernel)⟩
theorem lw_p21 : lw_okq (⟨"NestsByKnots$Net", "leastHold", "(I)I"⟩, 11) := ⟨⟨by decide +kernel, by decide +kernel⟩, List.mem_of_getElem? (i := 317) (by decide +kernel), List.mem_of_getElem? (i := 801) (by decide +kernel), List.mem_of_getElem? (i := 802) (by decide +kernel)⟩
theorem lw_p22 : lw_okq (⟨"NestsByKnotsModel", "spell", "(IJ)V"⟩, 40) := ⟨⟨by decide +kernel, by decide +kernel⟩, List.mem_of_getElem? (i := 929) (by decide +kernel), List.mem_of_getElem? (i := 936) (by decide +kernel), List.mem_of_getElem? (i := 937) (by decide +kernel)⟩
theorem lw_p23 : lw_okq (⟨"NestsByKnotsModel", "free", "()I"⟩, 40) := ⟨⟨by decide +kernel, by decide +kernel⟩, List.mem_of_getElem? (i := 929) (by decide +kernel), List.mem_of_getElem? (i := 1081) (by decide +kernel), List.mem_of_getElem? (i := 1082) (by decide +kernel)⟩
theorem lw_p24 : lw_okq (⟨"NestsByKnotsModel", "lays", "(IIII)V"⟩, 40) := ⟨⟨by decide +kernel, by decide +kernel⟩, List.mem_of_getElem? (i := 929) (by decide +kernel), List.mem_of_getElem? (i := 1085) (by decide +kernel), List.mem_of_getElem? (i := 1086) (by decide +kernel)⟩
theorem lw_p25 : lw_okq (⟨"NestsByKnotsModel", "isStrip", "(I)Z"⟩, 40) := ⟨⟨by decide +kernel, by decide +kernel⟩, List.mem_of_getElem? (i := 929) (by decide +kernel), List.mem_of_getElem? (i := 1096) (by decide +kernel), List.mem_of_getElem? (i := 1097) (by decide +kernel)⟩
theorem lw_p26 : lw_okq (⟨"NestsByKnotsModel", "ageOf", "(I)I"⟩, 40) := ⟨⟨by decide +kernel, by decide +kernel⟩, List.mem_of_getElem? (i := 929) (by decide +kernel), List.mem_of_getElem? (i := 1117) (by decide +kernel), List.mem_of_getElem? (i := 1118) (by decide +kernel)⟩
theorem lw_p27 : lw_okq (⟨"NestsByKnotsModel", "knotOf", "(I)I"⟩, 40) := ⟨⟨by decide +kernel, by decide +kernel⟩, List.mem_of_getElem? (i := 929) (by decide +kernel), List.mem_of_getElem? (i := 1121) (by decide +kernel), List.mem_of_getElem? (i := 1122) (by decide +kernel)⟩
theorem lw_p28 : lw_okq (⟨"NestsByKnotsModel", "slips", "(I)Z"⟩, 40) := ⟨⟨by decide +kernel, by decide +kernel⟩, List.mem_of_getElem? (i := 929) (by decide +kernel), List.mem_of_getElem? (i := 1125) (by decide +kernel), List.mem_of_getElem? (i := 1126) (by decide +kernel)⟩
theorem lw_p29 : lw_okq (⟨"NestsByKnotsModel", "tiesOf", "(I)I"⟩, 40) := ⟨⟨by decide +kernel, by decide +kernel⟩, List.mem_of_getElem? (i := 929) (by decide +kernel), List.mem_of_getElem? (i := 1129) (by decide +kernel), List.mem_of_getElem? (i := 1130) (by decide +kernel)⟩
theorem lw_p30 : lw_okq (⟨"NestsByKnotsModel", "crosses", "(III)I"⟩, 40) := ⟨⟨by decide +kernel, by decide +kernel⟩, List.mem_of_getElem? (i := 929) (by decide +kernel), List.mem_of_getElem? (i := 1133) (by decide +kernel), List.mem_of_getElem? (i := 1134) (by decide +kernel)⟩
theorem lw_p31 : lw_okq (⟨"NestsByKnotsModel", "at1", "(II)I"⟩, 40) := ⟨⟨by decide +kernel, by decide +kernel⟩, List.mem_of_getElem? (i := 929) (by decide +kernel), List.mem_of_getElem? (i := 1137) (by decide +kernel), List.mem_of_getElem? (i := 1138) (by decide +kernel)⟩
def lw_privs_2 : List (MethodName × Nat) := [(⟨"NestsByKnots$Net", "met", "(III)I"⟩, 11), (⟨"NestsByKnots$Net", "nameStrip", "(IIII)V"⟩, 11), (⟨"NestsByKnots$Net", "name", "(IIIIII)V"⟩, 11), (⟨"NestsByKnots$Net", "looseAt", "(III)I"⟩, 11), (⟨"NestsByKnots$Net", "weakestAt", "(II)I"⟩, 11), (⟨"NestsByKnots$Net", "leastHold", "(I)I"⟩, 11), (⟨"NestsByKnotsModel", "spell", "(IJ)V"⟩, 40), (⟨"NestsByKnotsModel", "free", "()I"⟩, 40), (⟨"NestsByKnotsModel", "lays", "(IIII)V"⟩, 40), (⟨"NestsByKnotsModel", "isStrip", "(I)Z"⟩, 40), (⟨"NestsByKnotsModel", "ageOf", "(I)I"⟩, 40), (⟨"NestsByKnotsModel", "knotOf", "(I)I"⟩, 40), (⟨"NestsByKnotsModel", "slips", "(I)Z"⟩, 40), (⟨"NestsByKnotsModel", "tiesOf", "(I)I"⟩, 40), (⟨"NestsByKnotsModel", "crosses", "(III)I"⟩, 40), (⟨"NestsByKnotsModel", "at1", "(II)I"⟩, 40)]
theorem lw_r2 : ∀ q ∈ lw_privs_2, lw_okq q := List.forall_mem_cons.mpr ⟨lw_p16, List.forall_mem_cons.mpr ⟨lw_p17, List.forall_mem_cons.mpr ⟨lw_p18, List.forall_mem_cons.mpr ⟨lw_p19, List.forall_mem_cons.mpr ⟨lw_p20, List.forall_mem_cons.mpr ⟨lw_p21, List.forall_mem_cons.mpr ⟨lw_p22, List.forall_mem_cons.mpr ⟨lw_p23, List.forall_mem_cons.mpr ⟨lw_p24, List.forall_mem_cons.mpr ⟨lw_p25, List.forall_mem_cons.mpr ⟨lw_p26, List.forall_mem_cons.mpr ⟨lw_p27, List.forall_mem_cons.mpr ⟨lw_p28, List.forall_mem_cons.mpr ⟨lw_p29, List.forall_mem_cons.mpr ⟨lw_p30, List.forall_mem_cons.mpr ⟨lw_p31, fun _ h => absurd h List.not_mem_nil⟩⟩⟩⟩⟩⟩⟩⟩⟩⟩⟩⟩⟩⟩⟩⟩
theorem lw_p32 : lw_okq (⟨"NestsByKnotsModel", "holdOf", "(II)I"⟩, 40) := ⟨⟨by decide +kernel, by decide +kernel⟩, List.mem_of_getElem? (i := 929) (by decide +kernel), List.mem_of_getElem? (i := 1141) (by decide +kernel), List.mem_of_getElem? (i := 1142) (by decide +kernel)⟩
theorem lw_p33 : lw_okq (⟨"NestsByKnotsModel", "read", "(IIIIIIII)I"⟩, 40) := ⟨⟨by decide +kernel, by decide +kernel⟩, List.mem_of_getElem? (i := 929) (by decide +kernel), List.mem_of_getElem? (i := 1145) (by decide +kernel), List.mem_of_getElem? (i := 1146) (by decide +kernel)⟩
theorem lw_p34 : lw_okq (⟨"NestsByKnotsModel", "next1", "()V"⟩, 40) := ⟨⟨by decide +kernel, by decide +kernel⟩, List.mem_of_getElem? (i := 929) (by decide +kernel), List.mem_of_getElem? (i := 1149) (by decide +kernel), List.mem_of_getElem? (i := 1150) (by decide +kernel)⟩
theorem lw_p35 : lw_okq (⟨"NestsByKnotsModel", "byteAt", "(I)I"⟩, 40) := ⟨⟨by decide +kernel, by decide +kernel⟩, List.mem_of_getElem? (i := 929) (by decide +kernel), List.mem_of_getElem? (i := 1153) (by decide +kernel), List.mem_of_getElem? (i := 1154) (by decide +kernel)⟩
theorem lw_p36 : lw_okq (⟨"NestsByKnotsModel", "part", "(J)I"⟩, 40) := ⟨⟨by decide +kernel, by decide +kernel⟩, List.mem_of_getElem? (i := 929) (by decide +kernel), List.mem_of_getElem? (i := 1166) (by decide +kernel), List.mem_of_getElem? (i := 1167) (by decide +kernel)⟩
theorem lw_p37 : lw_okq (⟨"NestsByKnotsModel", "isWord", "(J)Z"⟩, 40) := ⟨⟨by decide +kernel, by decide +kernel⟩, List.mem_of_getElem? (i := 929) (by decide +kernel), List.mem_of_getElem? (i := 1170) (by decide +kernel), List.mem_of_getElem? (i := 1171) (by decide +kernel)⟩
theorem lw_p38 : lw_okq (⟨"NestsByKnotsModel", "fail", "()V"⟩, 40) := ⟨⟨by decide +kernel, by decide +kernel⟩, List.mem_of_getElem? (i := 929) (by decide +kernel), List.mem_of_getElem? (i := 1174) (by decide +kernel), List.mem_of_getElem? (i := 1175) (by decide +kernel)⟩
theorem lw_p39 : lw_okq (⟨"NestsByKnotsModel", "either", "()I"⟩, 40) := ⟨⟨by decide +kernel, by decide +kernel⟩, List.mem_of_getElem? (i := 929) (by decide +kernel), List.mem_of_getElem? (i := 1178) (by decide +kernel), List.mem_of_getElem? (i := 1179) (by decide +kernel)⟩
theorem lw_p40 : lw_okq (⟨"NestsByKnotsModel", "both", "()I"⟩, 40) := ⟨⟨by decide +kernel, by decide +kernel⟩, List.mem_of_getElem? (i := 929) (by decide +kernel), List.mem_of_getElem? (i := 1182) (by decide +kernel), List.mem_of_getElem? (i := 1183) (by decide +kernel)⟩
theorem lw_p41 : lw_okq (⟨"NestsByKnotsModel", "not", "()I"⟩, 40) := ⟨⟨by decide +kernel, by decide +kernel⟩, List.mem_of_getElem? (i := 929) (by decide +kernel), List.mem_of_getElem? (i := 1186) (by decide +kernel), List.mem_of_getElem? (i := 1187) (by decide +kernel)⟩
theorem lw_p42 : lw_okq (⟨"NestsByKnotsModel", "opens", "()Z"⟩, 40) := ⟨⟨by decide +kernel, by decide +kernel⟩, List.mem_of_getElem? (i := 929) (by decide +kernel), List.mem_of_getElem? (i := 1191) (by decide +kernel), List.mem_of_getElem? (i := 1192) (by decide +kernel)⟩
theorem lw_p43 : lw_okq (⟨"NestsByKnotsModel", "added", "()I"⟩, 40) := ⟨⟨by decide +kernel, by decide +kernel⟩, List.mem_of_getElem? (i := 929) (by decide +kernel), List.mem_of_getElem? (i := 1195) (by decide +kernel), List.mem_of_getElem? (i := 1196) (by decide +kernel)⟩
theorem lw_p44 : lw_okq (⟨"NestsByKnotsModel", "term", "()I"⟩, 40) := ⟨⟨by decide +kernel, by decide +kernel⟩, List.mem_of_getElem? (i := 929) (by decide +kernel), List.mem_of_getElem? (i := 1199) (by decide +kernel), List.mem_of_getElem? (i := 1200) (by decide +kernel)⟩
theorem lw_p45 : lw_okq (⟨"NestsByKnotsModel", "one", "()I"⟩, 40) := ⟨⟨by decide +kernel, by decide +kernel⟩, List.mem_of_getElem? (i := 929) (by decide +kernel), List.mem_of_getElem? (i := 1203) (by decide +kernel), List.mem_of_getElem? (i := 1204) (by decide +kernel)⟩
theorem lw_p46 : lw_okq (⟨"NestsByKnotsModel", "isSign", "(I)Z"⟩, 40) := ⟨⟨by decide +kernel, by decide +kernel⟩, List.mem_of_getElem? (i := 929) (by decide +kernel), List.mem_of_getElem? (i := 1207) (by decide +kernel), List.mem_of_getElem? (i := 1208) (by decide +kernel)⟩
theorem lw_p47 : lw_okq (⟨"NestsByKnotsModel", "name", "()I"⟩, 40) := ⟨⟨by decide +kernel, by decide +kernel⟩, List.mem_of_getElem? (i := 929) (by decide +kernel), List.mem_of_getElem? (i := 1211) (by decide +kernel), List.mem_of_getElem? (i := 1212) (by decide +kernel)⟩
def lw_privs_3 : List (MethodName × Nat) := [(⟨"NestsByKnotsModel", "holdOf", "(II)I"⟩, 40), (⟨"NestsByKnotsModel", "read", "(IIIIIIII)I"⟩, 40), (⟨"NestsByKnotsModel", "next1", "()V"⟩, 40), (⟨"NestsByKnotsModel", "byteAt", "(I)I"⟩, 40), (⟨"NestsByKnotsModel", "part", "(J)I"⟩, 40), (⟨"NestsByKnotsModel", "isWord", "(J)Z"⟩, 40), (⟨"NestsByKnotsModel", "fail", "()V"⟩, 40), (⟨"NestsByKnotsModel", "either", "()I"⟩, 40), (⟨"NestsByKnotsModel", "both", "()I"⟩, 40), (⟨"NestsByKnotsModel", "not", "()I"⟩, 40), (⟨"NestsByKnotsModel", "opens", "()Z"⟩, 40), (⟨"NestsByKnotsModel", "added", "()I"⟩, 40), (⟨"NestsByKnotsModel", "term", "()I"⟩, 40), (⟨"NestsByKnotsModel", "one", "()I"⟩, 40), (⟨"NestsByKnotsModel", "isSign", "(I)Z"⟩, 40), (⟨"NestsByKnotsModel", "name", "()I"⟩, 40)]
theorem lw_r3 : ∀ q ∈ lw_privs_3, lw_okq q := List.forall_mem_cons.mpr ⟨lw_p32, List.forall_mem_cons.mpr ⟨lw_p33, List.forall_mem_cons.mpr ⟨lw_p34, List.forall_mem_cons.mpr ⟨lw_p35, List.forall_mem_cons.mpr ⟨lw_p36, List.forall_mem_cons.mpr ⟨lw_p37, List.forall_mem_cons.mpr ⟨lw_p38, List.forall_mem_cons.mpr ⟨lw_p39, List.forall_mem_cons.mpr ⟨lw_p40, List.forall_mem_cons.mpr ⟨lw_p41, List.forall_mem_cons.mpr ⟨lw_p42, List.forall_mem_cons.mpr ⟨lw_p43, List.forall_mem_cons.mpr ⟨lw_p44, List.forall_mem_cons.mpr ⟨lw_p45, List.forall_mem_cons.mpr ⟨lw_p46, List.forall_mem_cons.mpr ⟨lw_p47, fun _ h => absurd h List.not_mem_nil⟩⟩⟩⟩⟩⟩⟩⟩⟩⟩⟩⟩⟩⟩⟩⟩
theorem lw_p48 : lw_okq (⟨"NestsByKnotsModel", "fallsOf", "(I)I"⟩, 40) := ⟨⟨by decide +kernel, by decide +kernel⟩, List.mem_of_getElem? (i := 929) (by decide +kernel), List.mem_of_getElem? (i := 1254) (by decide +kernel), List.mem_of_getElem? (i := 1255) (by decide +kernel)⟩
theorem lw_p49 : lw_okq (⟨"NestsByKnotsModel", "leftBy", "(II)I"⟩, 40) := ⟨⟨by decide +kernel, by decide +kernel⟩, List.mem_of_getElem? (i := 929) (by decide +kernel), List.mem_of_getElem? (i := 1263) (by decide +kernel), List.mem_of_getElem? (i := 1264) (by decide +kernel)⟩
theorem lw_p50 : lw_okq (⟨"NestsByKnotsModel", "goodOf", "(I)I"⟩, 40) := ⟨⟨by decide +kernel, by decide +kernel⟩, List.mem_of_getElem? (i := 929) (by decide +kernel), List.mem_of_getElem? (i := 1279) (by decide +kernel), List.mem_of_getElem? (i := 1280) (by decide +kernel)⟩
theorem lw_p51 : lw_okq (⟨"NestsByKnotsModel", "nextOf", "(I)I"⟩, 40) := ⟨⟨by decide +kernel, by decide +kernel⟩, List.mem_of_getElem? (i := 929) (by decide +kernel), List.mem_of_getElem? (i := 1288) (by decide +kernel), List.mem_of_getElem? (i := 1289) (by decide +kernel)⟩
theorem lw_p52 : lw_okq (⟨"NestsByKnotsModel", "leastHold", "()I"⟩, 40) := ⟨⟨by decide +kernel, by decide +kernel⟩, List.mem_of_getElem? (i := 929) (by decide +kernel), List.mem_of_getElem? (i := 1303) (by decide +kernel), List.mem_of_getElem? (i := 1304) (by decide +kernel)⟩
theorem lw_p53 : lw_okq (⟨"NestsByKnotsModel", "isTaken", "()Z"⟩, 40) := ⟨⟨by decide +kernel, by decide +kernel⟩, List.mem_of_getElem? (i := 929) (by decide +kernel), List.mem_of_getElem? (i := 1311) (by decide +kernel), List.mem_of_getElem? (i := 1312) (by decide +kernel)⟩
theorem lw_p54 : lw_okq (⟨"NestsByKnotsModel", "covered", "()I"⟩, 40) := ⟨⟨by decide +kernel, by decide +kernel⟩, List.mem_of_getElem? (i := 929) (by decide +kernel), List.mem_of_getElem? (i := 1315) (by decide +kernel), List.mem_of_getElem? (i := 1316) (by decide +kernel)⟩
theorem lw_p55 : lw_okq (⟨"NestsByKnotsModel", "greens", "()I"⟩, 40) := ⟨⟨by decide +kernel, by decide +kernel⟩, List.mem_of_getElem? (i := 929) (by decide +kernel), List.mem_of_getElem? (i := 1319) (by decide +kernel), List.mem_of_getElem? (i := 1320) (by decide +kernel)⟩
def lw_privs_4 : List (MethodName × Nat) := [(⟨"NestsByKnotsModel", "fallsOf", "(I)I"⟩, 40), (⟨"NestsByKnotsModel", "leftBy", "(II)I"⟩, 40), (⟨"NestsByKnotsModel", "goodOf", "(I)I"⟩, 40), (⟨"NestsByKnotsModel", "nextOf", "(I)I"⟩, 40), (⟨"NestsByKnotsModel", "leastHold", "()I"⟩, 40), (⟨"NestsByKnotsModel", "isTaken", "()Z"⟩, 40), (⟨"NestsByKnotsModel", "covered", "()I"⟩, 40), (⟨"NestsByKnotsModel", "greens", "()I"⟩, 40)]
theorem lw_r4 : ∀ q ∈ lw_privs_4, lw_okq q := List.forall_mem_cons.mpr ⟨lw_p48, List.forall_mem_cons.mpr ⟨lw_p49, List.forall_mem_cons.mpr ⟨lw_p50, List.forall_mem_cons.mpr ⟨lw_p51, List.forall_mem_cons.mpr ⟨lw_p52, List.forall_mem_cons.mpr ⟨lw_p53, List.forall_mem_cons.mpr ⟨lw_p54, List.forall_mem_cons.mpr ⟨lw_p55, fun _ h => absurd h List.not_mem_nil⟩⟩⟩⟩⟩⟩⟩⟩
def lw_privs : List (MethodName × Nat) := lw_privs_1 ++ (lw_privs_2 ++ (lw_privs_3 ++ (lw_privs_4)))
def lw_tbl : List Cond := k2_sels lw_privs ++ tables_1
theorem lw_privs_ok : ∀ q ∈ lw_privs, lw_okq q := by
  show ∀ q ∈ lw_privs_1 ++ (lw_privs_2 ++ (lw_privs_3 ++ (lw_privs_4))), lw_okq q
  exact List.forall_mem_append.mpr ⟨lw_r1, List.forall_mem_append.mpr ⟨lw_r2, List.forall_mem_append.mpr ⟨lw_r3, lw_r4⟩⟩⟩
-- ===== end of PART A; then your names; then what follows =====
/-! ===== BEGIN words of one list among another's, by their places ===== -/
theorem goodIn_r {big : List Cond} (ws : List Cond) (ps : List Nat) (hp : ws = ps.filterMap (fun i => big[i]?)) (h : ws.all goodWord = true) : GoodIn big ws := by
  intro w hw
  have h1 := List.all_eq_true.mp h w hw
  rw [hp] at hw
  obtain ⟨i, -, hi⟩ := List.mem_filterMap.mp hw
  have hm : w ∈ big := by first | exact List.mem_of_getElem? hi | exact List.getElem?_mem hi
  exact ⟨hm, good_of_word h1⟩
theorem goodIn_app {big a b : List Cond} (ha : GoodIn big a) (hb : GoodIn big b) : GoodIn big (a ++ b) := fun w h => (List.mem_append.mp h).elim (ha w) (hb w)
theorem goodIn_ca {big a b : List Cond} {c : Cond} (ha : GoodIn big (c :: a)) (hb : GoodIn big b) : GoodIn big (c :: (a ++ b)) := fun w h => (List.mem_cons.mp h).elim (fun e => ha w (List.mem_cons.mpr (Or.inl e))) (fun h => (List.mem_append.mp h).elim (fun h => ha w (List.mem_cons.mpr (Or.inr h))) (hb w))
theorem goodIn_sub {big ws : List Cond} (hm : ∀ w ∈ ws, w ∈ big) (h : ws.all goodWord = true) : GoodIn big ws := fun w hw => ⟨hm w hw, good_of_word (List.all_eq_true.mp h w hw)⟩
/-! ===== END ===== -/

/-! ===== BEGIN printed: names, fields, word lists, decode rows ===== -/
def RX0 : String := "NestsByKnots$Choice"
def TX0 : u_T := fun k => match k with
  | 0 => ("NestsByKnots$Choice", "where", "I", false)
  | _ => ("NestsByKnots$Choice", "worth", "I", false)
def tyX0 : Nat → FieldType := fun k => match k with
  | 0 => .int
  | _ => .int
abbrev wsX00 : List Cond := u_ws RX0 TX0 2
theorem nmX0 : ∀ a, a < 2 → ∀ b, b < 2 → a ≠ b → (TX0 a).2.1 ≠ (TX0 b).2.1 := by decide +kernel
theorem tyX0_ok : ∀ k, k < 2 → parseFieldDescriptor (TX0 k).2.2.1 = some (tyX0 k) := by decide +kernel
abbrev cX0_init : ByteArray := prog_2_method_1_code
def yX0_init : MethodName := ⟨RX0, "<init>", "()V"⟩
abbrev cX0_clear : ByteArray := prog_2_method_2_code
def yX0_clear : MethodName := ⟨RX0, "clear", "()V"⟩
abbrev cX0_offer : ByteArray := prog_2_method_3_code
def yX0_offer : MethodName := ⟨RX0, "offer", "(II)V"⟩
def RX1 : String := "NestsByKnots$DoubleHitch"
def TX1 : u_T := fun k => match k with
  | _ => ("NestsByKnots$Tuck", "number", "I", true)
def tyX1 : Nat → FieldType := fun k => match k with
  | _ => .int
abbrev wsX10 : List Cond := u_ws RX1 TX1 1
theorem nmX1 : ∀ a, a < 1 → ∀ b, b < 1 → a ≠ b → (TX1 a).2.1 ≠ (TX1 b).2.1 := by decide +kernel
theorem tyX1_ok : ∀ k, k < 1 → parseFieldDescriptor (TX1 k).2.2.1 = some (tyX1 k) := by decide +kernel
abbrev cX1_init : ByteArray := prog_3_method_1_code
def yX1_init : MethodName := ⟨RX1, "<init>", "(I)V"⟩
abbrev cX1_kind : ByteArray := prog_3_method_2_code
def yX1_kind : MethodName := ⟨RX1, "kind", "()I"⟩
abbrev cX1_knot : ByteArray := prog_3_method_3_code
def yX1_knot : MethodName := ⟨RX1, "knot", "(I)I"⟩
abbrev cX1_ties : ByteArray := prog_3_method_4_code
def yX1_ties : MethodName := ⟨RX1, "ties", "()I"⟩
def RX2 : String := "NestsByKnots$Hitch"
def TX2 : u_T := fun k => match k with
  | _ => ("NestsByKnots$Tuck", "number", "I", true)
def tyX2 : Nat → FieldType := fun k => match k with
  | _ => .int
abbrev wsX20 : List Cond := u_ws RX2 TX2 1
theorem nmX2 : ∀ a, a < 1 → ∀ b, b < 1 → a ≠ b → (TX2 a).2.1 ≠ (TX2 b).2.1 := by decide +kernel
theorem tyX2_ok : ∀ k, k < 1 → parseFieldDescriptor (TX2 k).2.2.1 = some (tyX2 k) := by decide +kernel
abbrev cX2_init : ByteArray := prog_4_method_1_code
def yX2_init : MethodName := ⟨RX2, "<init>", "(I)V"⟩
abbrev cX2_kind : ByteArray := prog_4_method_2_code
def yX2_kind : MethodName := ⟨RX2, "kind", "()I"⟩
abbrev cX2_knot : ByteArray := prog_4_method_3_code
def yX2_knot : MethodName := ⟨RX2, "knot", "(I)I"⟩
def RX3 : String := "NestsByKnots$Loop"
def TX3 : u_T := fun k => match k with
  | _ => ("NestsByKnots$Tuck", "number", "I", true)
def tyX3 : Nat → FieldType := fun k => match k with
  | _ => .int
abbrev wsX30 : List Cond := u_ws RX3 TX3 1
theorem nmX3 : ∀ a, a < 1 → ∀ b, b < 1 → a ≠ b → (TX3 a).2.1 ≠ (TX3 b).2.1 := by decide +kernel
theorem tyX3_ok : ∀ k, k < 1 → parseFieldDescriptor (TX3 k).2.2.1 = some (tyX3 k) := by decide +kernel
abbrev cX3_init : ByteArray := prog_5_method_1_code
def yX3_init : MethodName := ⟨RX3, "<init>", "(I)V"⟩
abbrev cX3_kind : ByteArray := prog_5_method_2_code
def yX3_kind : MethodName := ⟨RX3, "kind", "()I"⟩
abbrev cX3_knot : ByteArray := prog_5_method_3_code
def yX3_knot : MethodName := ⟨RX3, "knot", "(I)I"⟩
abbrev cX3_ties : ByteArray := prog_5_method_4_code
def yX3_ties : MethodName := ⟨RX3, "ties", "()I"⟩
def RX4 : String := "NestsByKnots$Net"
def TX4 : u_T := fun k => match k with
  | 0 => ("NestsByKnots$Net", "knots", "[LNestsByKnots$Tuck;", true)
  | 1 => ("NestsByKnots$Net", "wheres", "[I", true)
  | 2 => ("NestsByKnots$Net", "laidAt", "[I", true)
  | 3 => ("NestsByKnots$Net", "lying", "[I", true)
  | 4 => ("NestsByKnots$Net", "all", "I", false)
  | 5 => ("NestsByKnots$Net", "hour", "I", false)
  | 6 => ("NestsByKnots$Net", "greenBelow", "I", false)
  | 7 => ("NestsByKnots$Net", "rule", "LNestsByKnots$Text;", false)
  | 8 => ("NestsByKnots$Net", "names", "[I", true)
  | 9 => ("NestsByKnots$Net", "stack", "[I", true)
  | _ => ("NestsByKnots$Net", "choice", "LNestsByKnots$Choice;", true)
def tyX4 : Nat → FieldType := fun k => match k with
  | 0 => .array (.object "NestsByKnots$Tuck")
  | 1 => .array .int
  | 2 => .array .int
  | 3 => .array .int
  | 4 => .int
  | 5 => .int
  | 6 => .int
  | 7 => .object "NestsByKnots$Text"
  | 8 => .array .int
  | 9 => .array .int
  | _ => .object "NestsByKnots$Choice"
abbrev wsX40 : List Cond := u_ws RX4 TX4 11
theorem nmX4 : ∀ a, a < 11 → ∀ b, b < 11 → a ≠ b → (TX4 a).2.1 ≠ (TX4 b).2.1 := by decide +kernel
theorem tyX4_ok : ∀ k, k < 11 → parseFieldDescriptor (TX4 k).2.2.1 = some (tyX4 k) := by decide +kernel
abbrev cX4_init : ByteArray := prog_6_method_1_code
def yX4_init : MethodName := ⟨RX4, "<init>", "(LNestsByKnots$Text;)V"⟩
abbrev cX4_has : ByteArray := prog_6_method_2_code
def yX4_has : MethodName := ⟨RX4, "has", "(I)Z"⟩
abbrev cX4_size : ByteArray := prog_6_method_3_code
def yX4_size : MethodName := ⟨RX4, "size", "()I"⟩
abbrev cX4_leastFree : ByteArray := prog_6_method_4_code
def yX4_leastFree : MethodName := ⟨RX4, "leastFree", "()I"⟩
abbrev cX4_put : ByteArray := prog_6_method_5_code
def yX4_put : MethodName := ⟨RX4, "put", "(ILNestsByKnots$Tuck;I)V"⟩
abbrev cX4_drop : ByteArray := prog_6_method_6_code
def yX4_drop : MethodName := ⟨RX4, "drop", "(I)V"⟩
abbrev cX4_lose : ByteArray := prog_6_method_7_code
def yX4_lose : MethodName := ⟨RX4, "lose", "(I)I"⟩
abbrev cX4_becomes : ByteArray := prog_6_method_8_code
def yX4_becomes : MethodName := ⟨RX4, "becomes", "(LNestsByKnots$Net;)V"⟩
abbrev cX4_ageOf : ByteArray := prog_6_method_9_code
def yX4_ageOf : MethodName := ⟨RX4, "ageOf", "(II)I"⟩
abbrev cX4_isGreen : ByteArray := prog_6_method_10_code
def yX4_isGreen : MethodName := ⟨RX4, "isGreen", "(II)Z"⟩
abbrev cX4_greenBits : ByteArray := prog_6_method_11_code
def yX4_greenBits : MethodName := ⟨RX4, "greenBits", "(I)I"⟩
abbrev cX4_slipping : ByteArray := prog_6_method_12_code
def yX4_slipping : MethodName := ⟨RX4, "slipping", "()I"⟩
abbrev cX4_crosses : ByteArray := prog_6_method_13_code
def yX4_crosses : MethodName := ⟨RX4, "crosses", "(II)I"⟩
abbrev cX4_rubs : ByteArray := prog_6_method_14_code
def yX4_rubs : MethodName := ⟨RX4, "rubs", "(II)I"⟩
abbrev cX4_met : ByteArray := prog_6_method_15_code
def yX4_met : MethodName := ⟨RX4, "met", "(III)I"⟩
abbrev cX4_hold : ByteArray := prog_6_method_16_code
def yX4_hold : MethodName := ⟨RX4, "hold", "(III)I"⟩
abbrev cX4_nameStrip : ByteArray := prog_6_method_17_code
def yX4_nameStrip : MethodName := ⟨RX4, "nameStrip", "(IIII)V"⟩
abbrev cX4_name : ByteArray := prog_6_method_18_code
def yX4_name : MethodName := ⟨RX4, "name", "(IIIIII)V"⟩
abbrev cX4_leastHold : ByteArray := prog_6_method_19_code
def yX4_leastHold : MethodName := ⟨RX4, "leastHold", "(I)I"⟩
abbrev cX4_hanging : ByteArray := prog_6_method_20_code
def yX4_hanging : MethodName := ⟨RX4, "hanging", "(I)I"⟩
abbrev cX4_falling : ByteArray := prog_6_method_21_code
def yX4_falling : MethodName := ⟨RX4, "falling", "(I)I"⟩
abbrev cX4_withFallen : ByteArray := prog_6_method_22_code
def yX4_withFallen : MethodName := ⟨RX4, "withFallen", "(I)I"⟩
abbrev cX4_takenByPull : ByteArray := prog_6_method_23_code
def yX4_takenByPull : MethodName := ⟨RX4, "takenByPull", "(II)I"⟩
abbrev cX4_looseAt : ByteArray := prog_6_method_24_code
def yX4_looseAt : MethodName := ⟨RX4, "looseAt", "(III)I"⟩
abbrev cX4_leastPull : ByteArray := prog_6_method_25_code
def yX4_leastPull : MethodName := ⟨RX4, "leastPull", "(I)I"⟩
abbrev cX4_weakestAt : ByteArray := prog_6_method_26_code
def yX4_weakestAt : MethodName := ⟨RX4, "weakestAt", "(II)I"⟩
abbrev cX4_worthNext : ByteArray := prog_6_method_27_code
def yX4_worthNext : MethodName := ⟨RX4, "worthNext", "(I)I"⟩
abbrev cX4_nextOf : ByteArray := prog_6_method_28_code
def yX4_nextOf : MethodName := ⟨RX4, "nextOf", "(I)LNestsByKnots$Choice;"⟩
abbrev cX4_bestOf : ByteArray := prog_6_method_29_code
def yX4_bestOf : MethodName := ⟨RX4, "bestOf", "(ILNestsByKnots$Tuck;I)LNestsByKnots$Choice;"⟩
abbrev cX4_closingOf : ByteArray := prog_6_method_30_code
def yX4_closingOf : MethodName := ⟨RX4, "closingOf", "(II)LNestsByKnots$Choice;"⟩
abbrev cX4_crossingsOf : ByteArray := prog_6_method_31_code
def yX4_crossingsOf : MethodName := ⟨RX4, "crossingsOf", "(I)I"⟩
abbrev cX4_covered : ByteArray := prog_6_method_32_code
def yX4_covered : MethodName := ⟨RX4, "covered", "()I"⟩
abbrev cX4_holeBits : ByteArray := prog_6_method_33_code
def yX4_holeBits : MethodName := ⟨RX4, "holeBits", "()I"⟩
abbrev cX4_isEnclosed : ByteArray := prog_6_method_34_code
def yX4_isEnclosed : MethodName := ⟨RX4, "isEnclosed", "(II)Z"⟩
abbrev cX4_isTaken : ByteArray := prog_6_method_35_code
def yX4_isTaken : MethodName := ⟨RX4, "isTaken", "(I)Z"⟩
def RX5 : String := "NestsByKnots$Play"
def TX5 : u_T := fun k => match k with
  | _ => ("NestsByKnots$Tuck", "number", "I", true)
def tyX5 : Nat → FieldType := fun k => match k with
  | _ => .int
abbrev wsX50 : List Cond := u_ws RX5 TX5 1
theorem nmX5 : ∀ a, a < 1 → ∀ b, b < 1 → a ≠ b → (TX5 a).2.1 ≠ (TX5 b).2.1 := by decide +kernel
theorem tyX5_ok : ∀ k, k < 1 → parseFieldDescriptor (TX5 k).2.2.1 = some (tyX5 k) := by decide +kernel
abbrev cX5_init : ByteArray := prog_7_method_1_code
def yX5_init : MethodName := ⟨RX5, "<init>", "(I)V"⟩
abbrev cX5_kind : ByteArray := prog_7_method_2_code
def yX5_kind : MethodName := ⟨RX5, "kind", "()I"⟩
abbrev cX5_knot : ByteArray := prog_7_method_3_code
def yX5_knot : MethodName := ⟨RX5, "knot", "(I)I"⟩
abbrev cX5_slips : ByteArray := prog_7_method_4_code
def yX5_slips : MethodName := ⟨RX5, "slips", "(I)Z"⟩
def RX6 : String := "NestsByKnots$Reader"
def TX6 : u_T := fun k => match k with
  | 0 => ("NestsByKnots$Reader", "size", "I", false)
  | 1 => ("NestsByKnots$Reader", "tape", "[B", true)
  | 2 => ("NestsByKnots$Reader", "place", "I", false)
  | 3 => ("NestsByKnots$Reader", "start", "I", false)
  | 4 => ("NestsByKnots$Reader", "token", "I", false)
  | 5 => ("NestsByKnots$Reader", "value", "I", false)
  | 6 => ("NestsByKnots$Reader", "fault", "I", false)
  | 7 => ("NestsByKnots$Reader", "code", "[I", true)
  | 8 => ("NestsByKnots$Reader", "length", "I", false)
  | _ => ("NestsByKnots$Reader", "ends", "[I", true)
def tyX6 : Nat → FieldType := fun k => match k with
  | 0 => .int
  | 1 => .array .byte
  | 2 => .int
  | 3 => .int
  | 4 => .int
  | 5 => .int
  | 6 => .int
  | 7 => .array .int
  | 8 => .int
  | _ => .array .int
abbrev wsX60 : List Cond := u_ws RX6 TX6 10
theorem nmX6 : ∀ a, a < 10 → ∀ b, b < 10 → a ≠ b → (TX6 a).2.1 ≠ (TX6 b).2.1 := by decide +kernel
theorem tyX6_ok : ∀ k, k < 10 → parseFieldDescriptor (TX6 k).2.2.1 = some (tyX6 k) := by decide +kernel
abbrev cX6_init : ByteArray := prog_8_method_1_code
def yX6_init : MethodName := ⟨RX6, "<init>", "()V"⟩
abbrev cX6_append : ByteArray := prog_8_method_2_code
def yX6_append : MethodName := ⟨RX6, "append", "(B)V"⟩
abbrev cX6_readTape : ByteArray := prog_8_method_3_code
def yX6_readTape : MethodName := ⟨RX6, "readTape", "()I"⟩
abbrev cX6_made : ByteArray := prog_8_method_4_code
def yX6_made : MethodName := ⟨RX6, "made", "(I)LNestsByKnots$Text;"⟩
abbrev cX6_part : ByteArray := prog_8_method_5_code
def yX6_part : MethodName := ⟨RX6, "part", "(II)V"⟩
abbrev cX6_expect : ByteArray := prog_8_method_6_code
def yX6_expect : MethodName := ⟨RX6, "expect", "(I)V"⟩
abbrev cX6_refuse : ByteArray := prog_8_method_7_code
def yX6_refuse : MethodName := ⟨RX6, "refuse", "()V"⟩
abbrev cX6_emit : ByteArray := prog_8_method_8_code
def yX6_emit : MethodName := ⟨RX6, "emit", "(I)V"⟩
abbrev cX6_either : ByteArray := prog_8_method_9_code
def yX6_either : MethodName := ⟨RX6, "either", "(I)V"⟩
abbrev cX6_both : ByteArray := prog_8_method_10_code
def yX6_both : MethodName := ⟨RX6, "both", "(I)V"⟩
abbrev cX6_denied : ByteArray := prog_8_method_11_code
def yX6_denied : MethodName := ⟨RX6, "denied", "(I)V"⟩
abbrev cX6_sum : ByteArray := prog_8_method_12_code
def yX6_sum : MethodName := ⟨RX6, "sum", "(I)V"⟩
abbrev cX6_term : ByteArray := prog_8_method_13_code
def yX6_term : MethodName := ⟨RX6, "term", "(I)V"⟩
abbrev cX6_one : ByteArray := prog_8_method_14_code
def yX6_one : MethodName := ⟨RX6, "one", "(I)V"⟩
abbrev cX6_advance : ByteArray := prog_8_method_15_code
def yX6_advance : MethodName := ⟨RX6, "advance", "()V"⟩
abbrev cX6_digits : ByteArray := prog_8_method_16_code
def yX6_digits : MethodName := ⟨RX6, "digits", "()V"⟩
abbrev cX6_word : ByteArray := prog_8_method_17_code
def yX6_word : MethodName := ⟨RX6, "word", "()V"⟩
abbrev cX6_nameHere : ByteArray := prog_8_method_18_code
def yX6_nameHere : MethodName := ⟨RX6, "nameHere", "()I"⟩
abbrev cX6_keyHere : ByteArray := prog_8_method_19_code
def yX6_keyHere : MethodName := ⟨RX6, "keyHere", "()I"⟩
abbrev cX6_spells : ByteArray := prog_8_method_20_code
def yX6_spells : MethodName := ⟨RX6, "spells", "(Ljava/lang/String;)Z"⟩
abbrev cX6_isSign : ByteArray := prog_8_method_21_code
def yX6_isSign : MethodName := ⟨RX6, "isSign", "(I)Z"⟩
abbrev cX6_isLetter : ByteArray := prog_8_method_22_code
def yX6_isLetter : MethodName := ⟨RX6, "isLetter", "(I)Z"⟩
abbrev cX6_isDigit : ByteArray := prog_8_method_23_code
def yX6_isDigit : MethodName := ⟨RX6, "isDigit", "(I)Z"⟩
def RX7 : String := "NestsByKnots$Sheet"
def TX7 : u_T := fun k => match k with
  | 0 => ("NestsByKnots$Sheet", "sort", "I", false)
  | 1 => ("NestsByKnots$Sheet", "size", "I", false)
  | _ => ("NestsByKnots$Sheet", "items", "[I", true)
def tyX7 : Nat → FieldType := fun k => match k with
  | 0 => .int
  | 1 => .int
  | _ => .array .int
abbrev wsX70 : List Cond := u_ws RX7 TX7 3
theorem nmX7 : ∀ a, a < 3 → ∀ b, b < 3 → a ≠ b → (TX7 a).2.1 ≠ (TX7 b).2.1 := by decide +kernel
theorem tyX7_ok : ∀ k, k < 3 → parseFieldDescriptor (TX7 k).2.2.1 = some (tyX7 k) := by decide +kernel
abbrev cX7_init : ByteArray := prog_9_method_1_code
def yX7_init : MethodName := ⟨RX7, "<init>", "()V"⟩
abbrev cX7_becomes : ByteArray := prog_9_method_2_code
def yX7_becomes : MethodName := ⟨RX7, "becomes", "(II)V"⟩
abbrev cX7_write : ByteArray := prog_9_method_3_code
def yX7_write : MethodName := ⟨RX7, "write", "(II)V"⟩
abbrev cX7_holds : ByteArray := prog_9_method_4_code
def yX7_holds : MethodName := ⟨RX7, "holds", "(II)Z"⟩
def RX8 : String := "NestsByKnots$Slip"
def TX8 : u_T := fun k => match k with
  | _ => ("NestsByKnots$Tuck", "number", "I", true)
def tyX8 : Nat → FieldType := fun k => match k with
  | _ => .int
abbrev wsX80 : List Cond := u_ws RX8 TX8 1
theorem nmX8 : ∀ a, a < 1 → ∀ b, b < 1 → a ≠ b → (TX8 a).2.1 ≠ (TX8 b).2.1 := by decide +kernel
theorem tyX8_ok : ∀ k, k < 1 → parseFieldDescriptor (TX8 k).2.2.1 = some (tyX8 k) := by decide +kernel
abbrev cX8_init : ByteArray := prog_10_method_1_code
def yX8_init : MethodName := ⟨RX8, "<init>", "(I)V"⟩
abbrev cX8_kind : ByteArray := prog_10_method_2_code
def yX8_kind : MethodName := ⟨RX8, "kind", "()I"⟩
abbrev cX8_knot : ByteArray := prog_10_method_3_code
def yX8_knot : MethodName := ⟨RX8, "knot", "(I)I"⟩
abbrev cX8_slips : ByteArray := prog_10_method_4_code
def yX8_slips : MethodName := ⟨RX8, "slips", "(I)Z"⟩
def RX9 : String := "NestsByKnots$Text"
def TX9 : u_T := fun k => match k with
  | 0 => ("NestsByKnots$Text", "number", "I", true)
  | 1 => ("NestsByKnots$Text", "code", "[I", true)
  | _ => ("NestsByKnots$Text", "ends", "[I", true)
def tyX9 : Nat → FieldType := fun k => match k with
  | 0 => .int
  | 1 => .array .int
  | _ => .array .int
abbrev wsX90 : List Cond := u_ws RX9 TX9 3
theorem nmX9 : ∀ a, a < 3 → ∀ b, b < 3 → a ≠ b → (TX9 a).2.1 ≠ (TX9 b).2.1 := by decide +kernel
theorem tyX9_ok : ∀ k, k < 3 → parseFieldDescriptor (TX9 k).2.2.1 = some (tyX9 k) := by decide +kernel
abbrev cX9_init : ByteArray := prog_11_method_1_code
def yX9_init : MethodName := ⟨RX9, "<init>", "(I[I[I)V"⟩
abbrev cX9_worth : ByteArray := prog_11_method_2_code
def yX9_worth : MethodName := ⟨RX9, "worth", "(I[I[I)I"⟩
abbrev cX9_ofOne : ByteArray := prog_11_method_3_code
def yX9_ofOne : MethodName := ⟨RX9, "ofOne", "(II)I"⟩
abbrev cX9_ofTwo : ByteArray := prog_11_method_4_code
def yX9_ofTwo : MethodName := ⟨RX9, "ofTwo", "(III)I"⟩
abbrev cX9_bit : ByteArray := prog_11_method_5_code
def yX9_bit : MethodName := ⟨RX9, "bit", "(Z)I"⟩
def RX10 : String := "NestsByKnots$Tuck"
def TX10 : u_T := fun k => match k with
  | _ => ("NestsByKnots$Tuck", "number", "I", true)
def tyX10 : Nat → FieldType := fun k => match k with
  | _ => .int
abbrev wsX100 : List Cond := u_ws RX10 TX10 1
theorem nmX10 : ∀ a, a < 1 → ∀ b, b < 1 → a ≠ b → (TX10 a).2.1 ≠ (TX10 b).2.1 := by decide +kernel
theorem tyX10_ok : ∀ k, k < 1 → parseFieldDescriptor (TX10 k).2.2.1 = some (tyX10 k) := by decide +kernel
abbrev cX10_init : ByteArray := prog_12_method_1_code
def yX10_init : MethodName := ⟨RX10, "<init>", "(I)V"⟩
abbrev cX10_kind : ByteArray := prog_12_method_2_code
def yX10_kind : MethodName := ⟨RX10, "kind", "()I"⟩
abbrev cX10_knot : ByteArray := prog_12_method_3_code
def yX10_knot : MethodName := ⟨RX10, "knot", "(I)I"⟩
abbrev cX10_slips : ByteArray := prog_12_method_4_code
def yX10_slips : MethodName := ⟨RX10, "slips", "(I)Z"⟩
abbrev cX10_ties : ByteArray := prog_12_method_5_code
def yX10_ties : MethodName := ⟨RX10, "ties", "()I"⟩
def RX11 : String := "NestsByKnots"
def TX11 : u_T := fun k => match k with
  | 0 => ("NestsByKnots", "reader", "LNestsByKnots$Reader;", true)
  | 1 => ("NestsByKnots", "texts", "[LNestsByKnots$Text;", true)
  | 2 => ("NestsByKnots", "textsMade", "I", false)
  | 3 => ("NestsByKnots", "net", "LNestsByKnots$Net;", true)
  | 4 => ("NestsByKnots", "kept", "LNestsByKnots$Net;", true)
  | 5 => ("NestsByKnots", "keeps", "Z", false)
  | _ => ("NestsByKnots", "sheets", "[LNestsByKnots$Sheet;", true)
def tyX11 : Nat → FieldType := fun k => match k with
  | 0 => .object "NestsByKnots$Reader"
  | 1 => .array (.object "NestsByKnots$Text")
  | 2 => .int
  | 3 => .object "NestsByKnots$Net"
  | 4 => .object "NestsByKnots$Net"
  | 5 => .boolean
  | _ => .array (.object "NestsByKnots$Sheet")
abbrev wsX110 : List Cond := u_ws RX11 TX11 7
theorem nmX11 : ∀ a, a < 7 → ∀ b, b < 7 → a ≠ b → (TX11 a).2.1 ≠ (TX11 b).2.1 := by decide +kernel
theorem tyX11_ok : ∀ k, k < 7 → parseFieldDescriptor (TX11 k).2.2.1 = some (tyX11 k) := by decide +kernel
abbrev cX11_init : ByteArray := prog_1_method_1_code
def yX11_init : MethodName := ⟨RX11, "<init>", "()V"⟩
abbrev cX11_lay : ByteArray := prog_1_method_2_code
def yX11_lay : MethodName := ⟨RX11, "lay", "(III)I"⟩
abbrev cX11_out : ByteArray := prog_1_method_3_code
def yX11_out : MethodName := ⟨RX11, "out", "(I)I"⟩
abbrev cX11_hours : ByteArray := prog_1_method_4_code
def yX11_hours : MethodName := ⟨RX11, "hours", "(I)I"⟩
abbrev cX11_green : ByteArray := prog_1_method_5_code
def yX11_green : MethodName := ⟨RX11, "green", "(I)I"⟩
abbrev cX11_told : ByteArray := prog_1_method_6_code
def yX11_told : MethodName := ⟨RX11, "told", "(II)I"⟩
abbrev cX11_at : ByteArray := prog_1_method_7_code
def yX11_at : MethodName := ⟨RX11, "at", "(I)I"⟩
abbrev cX11_feed : ByteArray := prog_1_method_8_code
def yX11_feed : MethodName := ⟨RX11, "feed", "(IJ)I"⟩
abbrev cX11_text : ByteArray := prog_1_method_9_code
def yX11_text : MethodName := ⟨RX11, "text", "()I"⟩
abbrev cX11_force : ByteArray := prog_1_method_10_code
def yX11_force : MethodName := ⟨RX11, "force", "(I)I"⟩
abbrev cX11_pull : ByteArray := prog_1_method_11_code
def yX11_pull : MethodName := ⟨RX11, "pull", "(III)I"⟩
abbrev cX11_pulled : ByteArray := prog_1_method_12_code
def yX11_pulled : MethodName := ⟨RX11, "pulled", "(II)I"⟩
abbrev cX11_falls : ByteArray := prog_1_method_13_code
def yX11_falls : MethodName := ⟨RX11, "falls", "()I"⟩
abbrev cX11_least : ByteArray := prog_1_method_14_code
def yX11_least : MethodName := ⟨RX11, "least", "(II)I"⟩
abbrev cX11_good : ByteArray := prog_1_method_15_code
def yX11_good : MethodName := ⟨RX11, "good", "(I)J"⟩
abbrev cX11_next : ByteArray := prog_1_method_16_code
def yX11_next : MethodName := ⟨RX11, "next", "(I)I"⟩
abbrev cX11_build : ByteArray := prog_1_method_17_code
def yX11_build : MethodName := ⟨RX11, "build", "(II)I"⟩
abbrev cX11_best : ByteArray := prog_1_method_18_code
def yX11_best : MethodName := ⟨RX11, "best", "(IIII)I"⟩
abbrev cX11_takes : ByteArray := prog_1_method_19_code
def yX11_takes : MethodName := ⟨RX11, "takes", "()I"⟩
abbrev cX11_when : ByteArray := prog_1_method_20_code
def yX11_when : MethodName := ⟨RX11, "when", "()I"⟩
abbrev cX11_spare : ByteArray := prog_1_method_21_code
def yX11_spare : MethodName := ⟨RX11, "spare", "()I"⟩
abbrev cX11_brown : ByteArray := prog_1_method_22_code
def yX11_brown : MethodName := ⟨RX11, "brown", "(I)I"⟩
abbrev cX11_holes : ByteArray := prog_1_method_23_code
def yX11_holes : MethodName := ⟨RX11, "holes", "()I"⟩
abbrev cX11_closes : ByteArray := prog_1_method_24_code
def yX11_closes : MethodName := ⟨RX11, "closes", "(II)I"⟩
abbrev cX11_slipped : ByteArray := prog_1_method_25_code
def yX11_slipped : MethodName := ⟨RX11, "slipped", "()I"⟩
abbrev cX11_image : ByteArray := prog_1_method_26_code
def yX11_image : MethodName := ⟨RX11, "image", "()I"⟩
abbrev cX11_back : ByteArray := prog_1_method_27_code
def yX11_back : MethodName := ⟨RX11, "back", "()I"⟩
abbrev cX11_count : ByteArray := prog_1_method_28_code
def yX11_count : MethodName := ⟨RX11, "count", "(I)I"⟩
abbrev cX11_sheet : ByteArray := prog_1_method_29_code
def yX11_sheet : MethodName := ⟨RX11, "sheet", "(III)I"⟩
abbrev cX11_cell : ByteArray := prog_1_method_30_code
def yX11_cell : MethodName := ⟨RX11, "cell", "(III)I"⟩
abbrev cX11_copy : ByteArray := prog_1_method_31_code
def yX11_copy : MethodName := ⟨RX11, "copy", "(IIIII)I"⟩
abbrev cX11_strips : ByteArray := prog_1_method_32_code
def yX11_strips : MethodName := ⟨RX11, "strips", "(IIII)I"⟩
abbrev cX11_taken : ByteArray := prog_1_method_33_code
def yX11_taken : MethodName := ⟨RX11, "taken", "(II)I"⟩
abbrev cX11_isCrossing : ByteArray := prog_1_method_34_code
def yX11_isCrossing : MethodName := ⟨RX11, "isCrossing", "(I)Z"⟩
abbrev cX11_isLong : ByteArray := prog_1_method_35_code
def yX11_isLong : MethodName := ⟨RX11, "isLong", "(I)Z"⟩
abbrev cX11_isKnot : ByteArray := prog_1_method_36_code
def yX11_isKnot : MethodName := ⟨RX11, "isKnot", "(II)Z"⟩
abbrev cX11_canBeLaid : ByteArray := prog_1_method_37_code
def yX11_canBeLaid : MethodName := ⟨RX11, "canBeLaid", "(III)Z"⟩
abbrev cX11_isPull : ByteArray := prog_1_method_38_code
def yX11_isPull : MethodName := ⟨RX11, "isPull", "(II)Z"⟩
abbrev cX11_isSheet : ByteArray := prog_1_method_39_code
def yX11_isSheet : MethodName := ⟨RX11, "isSheet", "(I)Z"⟩
abbrev cX11_isSort : ByteArray := prog_1_method_40_code
def yX11_isSort : MethodName := ⟨RX11, "isSort", "(I)Z"⟩
abbrev cX11_firstOf : ByteArray := prog_1_method_41_code
def yX11_firstOf : MethodName := ⟨RX11, "firstOf", "(I)I"⟩
abbrev cX11_wayOf : ByteArray := prog_1_method_42_code
def yX11_wayOf : MethodName := ⟨RX11, "wayOf", "(I)I"⟩
abbrev cX11_longOf : ByteArray := prog_1_method_43_code
def yX11_longOf : MethodName := ⟨RX11, "longOf", "(I)I"⟩
abbrev cX11_stepOf : ByteArray := prog_1_method_44_code
def yX11_stepOf : MethodName := ⟨RX11, "stepOf", "(I)I"⟩
abbrev cX11_fits : ByteArray := prog_1_method_45_code
def yX11_fits : MethodName := ⟨RX11, "fits", "(I)Z"⟩
abbrev cX11_placeOf : ByteArray := prog_1_method_46_code
def yX11_placeOf : MethodName := ⟨RX11, "placeOf", "(II)I"⟩
abbrev cX11_knotOf : ByteArray := prog_1_method_47_code
def yX11_knotOf : MethodName := ⟨RX11, "knotOf", "(II)LNestsByKnots$Tuck;"⟩
abbrev cX11_isUnder : ByteArray := prog_1_method_48_code
def yX11_isUnder : MethodName := ⟨RX11, "isUnder", "(LNestsByKnots$Tuck;I)Z"⟩
def RX12 : String := "NestsByKnotsModel"
def TX12 : u_T := fun k => match k with
  | 0 => ("NestsByKnotsModel", "thrown", "I", false)
  | 1 => ("NestsByKnotsModel", "texts", "[I", true)
  | 2 => ("NestsByKnotsModel", "textSize", "[I", true)
  | 3 => ("NestsByKnotsModel", "textCount", "I", false)
  | 4 => ("NestsByKnotsModel", "rule", "I", false)
  | 5 => ("NestsByKnotsModel", "tape", "[I", true)
  | 6 => ("NestsByKnotsModel", "taped", "I", false)
  | 7 => ("NestsByKnotsModel", "kind", "[I", true)
  | 8 => ("NestsByKnotsModel", "place", "[I", true)
  | 9 => ("NestsByKnotsModel", "number", "[I", true)
  | 10 => ("NestsByKnotsModel", "laid", "[I", true)
  | 11 => ("NestsByKnotsModel", "covers", "[I", true)
  | 12 => ("NestsByKnotsModel", "there", "I", false)
  | 13 => ("NestsByKnotsModel", "hour", "I", false)
  | 14 => ("NestsByKnotsModel", "greenFor", "I", false)
  | 15 => ("NestsByKnotsModel", "from", "I", false)
  | 16 => ("NestsByKnotsModel", "size", "I", false)
  | 17 => ("NestsByKnotsModel", "token", "I", false)
  | 18 => ("NestsByKnotsModel", "tokenAt", "I", false)
  | 19 => ("NestsByKnotsModel", "tokenWorth", "J", false)
  | 20 => ("NestsByKnotsModel", "here", "I", false)
  | 21 => ("NestsByKnotsModel", "open", "I", false)
  | 22 => ("NestsByKnotsModel", "bad", "Z", false)
  | 23 => ("NestsByKnotsModel", "fault", "I", false)
  | 24 => ("NestsByKnotsModel", "aboutX", "I", false)
  | 25 => ("NestsByKnotsModel", "aboutY", "I", false)
  | 26 => ("NestsByKnotsModel", "aboutCross", "I", false)
  | 27 => ("NestsByKnotsModel", "aboutLong", "I", false)
  | 28 => ("NestsByKnotsModel", "aboutAge", "I", false)
  | 29 => ("NestsByKnotsModel", "aboutStrips", "I", false)
  | 30 => ("NestsByKnotsModel", "imageStrips", "[I", true)
  | 31 => ("NestsByKnotsModel", "hasImage", "Z", false)
  | 32 => ("NestsByKnotsModel", "imageThere", "I", false)
  | 33 => ("NestsByKnotsModel", "imageHour", "I", false)
  | 34 => ("NestsByKnotsModel", "imageGreen", "I", false)
  | 35 => ("NestsByKnotsModel", "imageRule", "I", false)
  | 36 => ("NestsByKnotsModel", "isThere", "[Z", true)
  | 37 => ("NestsByKnotsModel", "sorts", "[I", true)
  | 38 => ("NestsByKnotsModel", "sheetSize", "[I", true)
  | _ => ("NestsByKnotsModel", "items", "[I", true)
def tyX12 : Nat → FieldType := fun k => match k with
  | 0 => .int
  | 1 => .array .int
  | 2 => .array .int
  | 3 => .int
  | 4 => .int
  | 5 => .array .int
  | 6 => .int
  | 7 => .array .int
  | 8 => .array .int
  | 9 => .array .int
  | 10 => .array .int
  | 11 => .array .int
  | 12 => .int
  | 13 => .int
  | 14 => .int
  | 15 => .int
  | 16 => .int
  | 17 => .int
  | 18 => .int
  | 19 => .long
  | 20 => .int
  | 21 => .int
  | 22 => .boolean
  | 23 => .int
  | 24 => .int
  | 25 => .int
  | 26 => .int
  | 27 => .int
  | 28 => .int
  | 29 => .int
  | 30 => .array .int
  | 31 => .boolean
  | 32 => .int
  | 33 => .int
  | 34 => .int
  | 35 => .int
  | 36 => .array .boolean
  | 37 => .array .int
  | 38 => .array .int
  | _ => .array .int
abbrev wsX120 : List Cond := u_ws RX12 TX12 40
theorem nmX12 : ∀ a, a < 40 → ∀ b, b < 40 → a ≠ b → (TX12 a).2.1 ≠ (TX12 b).2.1 := by decide +kernel
theorem tyX12_ok : ∀ k, k < 40 → parseFieldDescriptor (TX12 k).2.2.1 = some (tyX12 k) := by decide +kernel
abbrev cX12_in : ByteArray := prog_14_method_2_code
def yX12_in : MethodName := ⟨RX12, "in", "(JJJ)Z"⟩
abbrev cX12_init : ByteArray := prog_14_method_3_code
def yX12_init : MethodName := ⟨RX12, "<init>", "()V"⟩
abbrev cX12_spell : ByteArray := prog_14_method_4_code
def yX12_spell : MethodName := ⟨RX12, "spell", "(IJ)V"⟩
abbrev cX12_bitsOf : ByteArray := prog_14_method_5_code
def yX12_bitsOf : MethodName := ⟨RX12, "bitsOf", "(I)I"⟩
abbrev cX12_isWhere : ByteArray := prog_14_method_6_code
def yX12_isWhere : MethodName := ⟨RX12, "isWhere", "(I)Z"⟩
abbrev cX12_coversOf : ByteArray := prog_14_method_7_code
def yX12_coversOf : MethodName := ⟨RX12, "coversOf", "(I)I"⟩
abbrev cX12_isStrip : ByteArray := prog_14_method_8_code
def yX12_isStrip : MethodName := ⟨RX12, "isStrip", "(I)Z"⟩
abbrev cX12_isCrossing : ByteArray := prog_14_method_9_code
def yX12_isCrossing : MethodName := ⟨RX12, "isCrossing", "(I)Z"⟩
abbrev cX12_free : ByteArray := prog_14_method_10_code
def yX12_free : MethodName := ⟨RX12, "free", "()I"⟩
abbrev cX12_lays : ByteArray := prog_14_method_11_code
def yX12_lays : MethodName := ⟨RX12, "lays", "(IIII)V"⟩
abbrev cX12_lay : ByteArray := prog_14_method_12_code
def yX12_lay : MethodName := ⟨RX12, "lay", "(III)I"⟩
abbrev cX12_out : ByteArray := prog_14_method_13_code
def yX12_out : MethodName := ⟨RX12, "out", "(I)I"⟩
abbrev cX12_hours : ByteArray := prog_14_method_14_code
def yX12_hours : MethodName := ⟨RX12, "hours", "(I)I"⟩
abbrev cX12_green : ByteArray := prog_14_method_15_code
def yX12_green : MethodName := ⟨RX12, "green", "(I)I"⟩
abbrev cX12_ageOf : ByteArray := prog_14_method_16_code
def yX12_ageOf : MethodName := ⟨RX12, "ageOf", "(I)I"⟩
abbrev cX12_knotOf : ByteArray := prog_14_method_17_code
def yX12_knotOf : MethodName := ⟨RX12, "knotOf", "(I)I"⟩
abbrev cX12_slips : ByteArray := prog_14_method_18_code
def yX12_slips : MethodName := ⟨RX12, "slips", "(I)Z"⟩
abbrev cX12_tiesOf : ByteArray := prog_14_method_19_code
def yX12_tiesOf : MethodName := ⟨RX12, "tiesOf", "(I)I"⟩
abbrev cX12_at1 : ByteArray := prog_14_method_20_code
def yX12_at1 : MethodName := ⟨RX12, "at1", "(II)I"⟩
abbrev cX12_crosses : ByteArray := prog_14_method_21_code
def yX12_crosses : MethodName := ⟨RX12, "crosses", "(III)I"⟩
abbrev cX12_holdOf : ByteArray := prog_14_method_22_code
def yX12_holdOf : MethodName := ⟨RX12, "holdOf", "(II)I"⟩
abbrev cX12_told : ByteArray := prog_14_method_23_code
def yX12_told : MethodName := ⟨RX12, "told", "(II)I"⟩
abbrev cX12_at : ByteArray := prog_14_method_24_code
def yX12_at : MethodName := ⟨RX12, "at", "(I)I"⟩
abbrev cX12_feed : ByteArray := prog_14_method_25_code
def yX12_feed : MethodName := ⟨RX12, "feed", "(IJ)I"⟩
abbrev cX12_byteAt : ByteArray := prog_14_method_26_code
def yX12_byteAt : MethodName := ⟨RX12, "byteAt", "(I)I"⟩
abbrev cX12_next1 : ByteArray := prog_14_method_27_code
def yX12_next1 : MethodName := ⟨RX12, "next1", "()V"⟩
abbrev cX12_fail : ByteArray := prog_14_method_28_code
def yX12_fail : MethodName := ⟨RX12, "fail", "()V"⟩
abbrev cX12_isWord : ByteArray := prog_14_method_29_code
def yX12_isWord : MethodName := ⟨RX12, "isWord", "(J)Z"⟩
abbrev cX12_isSign : ByteArray := prog_14_method_30_code
def yX12_isSign : MethodName := ⟨RX12, "isSign", "(I)Z"⟩
abbrev cX12_opens : ByteArray := prog_14_method_31_code
def yX12_opens : MethodName := ⟨RX12, "opens", "()Z"⟩
abbrev cX12_name : ByteArray := prog_14_method_32_code
def yX12_name : MethodName := ⟨RX12, "name", "()I"⟩
abbrev cX12_one : ByteArray := prog_14_method_33_code
def yX12_one : MethodName := ⟨RX12, "one", "()I"⟩
abbrev cX12_term : ByteArray := prog_14_method_34_code
def yX12_term : MethodName := ⟨RX12, "term", "()I"⟩
abbrev cX12_added : ByteArray := prog_14_method_35_code
def yX12_added : MethodName := ⟨RX12, "added", "()I"⟩
abbrev cX12_not : ByteArray := prog_14_method_36_code
def yX12_not : MethodName := ⟨RX12, "not", "()I"⟩
abbrev cX12_both : ByteArray := prog_14_method_37_code
def yX12_both : MethodName := ⟨RX12, "both", "()I"⟩
abbrev cX12_either : ByteArray := prog_14_method_38_code
def yX12_either : MethodName := ⟨RX12, "either", "()I"⟩
abbrev cX12_part : ByteArray := prog_14_method_39_code
def yX12_part : MethodName := ⟨RX12, "part", "(J)I"⟩
abbrev cX12_read : ByteArray := prog_14_method_40_code
def yX12_read : MethodName := ⟨RX12, "read", "(IIIIIIII)I"⟩
abbrev cX12_within : ByteArray := prog_14_method_41_code
def yX12_within : MethodName := ⟨RX12, "within", "(III)I"⟩
abbrev cX12_text : ByteArray := prog_14_method_42_code
def yX12_text : MethodName := ⟨RX12, "text", "()I"⟩
abbrev cX12_force : ByteArray := prog_14_method_43_code
def yX12_force : MethodName := ⟨RX12, "force", "(I)I"⟩
abbrev cX12_fallsOf : ByteArray := prog_14_method_44_code
def yX12_fallsOf : MethodName := ⟨RX12, "fallsOf", "(I)I"⟩
abbrev cX12_falls : ByteArray := prog_14_method_45_code
def yX12_falls : MethodName := ⟨RX12, "falls", "()I"⟩
abbrev cX12_leftBy : ByteArray := prog_14_method_46_code
def yX12_leftBy : MethodName := ⟨RX12, "leftBy", "(II)I"⟩
abbrev cX12_pull : ByteArray := prog_14_method_47_code
def yX12_pull : MethodName := ⟨RX12, "pull", "(III)I"⟩
abbrev cX12_pulled : ByteArray := prog_14_method_48_code
def yX12_pulled : MethodName := ⟨RX12, "pulled", "(II)I"⟩
abbrev cX12_least : ByteArray := prog_14_method_49_code
def yX12_least : MethodName := ⟨RX12, "least", "(II)I"⟩
abbrev cX12_goodOf : ByteArray := prog_14_method_50_code
def yX12_goodOf : MethodName := ⟨RX12, "goodOf", "(I)I"⟩
abbrev cX12_good : ByteArray := prog_14_method_51_code
def yX12_good : MethodName := ⟨RX12, "good", "(I)J"⟩
abbrev cX12_where : ByteArray := prog_14_method_52_code
def yX12_where : MethodName := ⟨RX12, "where", "(II)I"⟩
abbrev cX12_nextOf : ByteArray := prog_14_method_53_code
def yX12_nextOf : MethodName := ⟨RX12, "nextOf", "(I)I"⟩
abbrev cX12_next : ByteArray := prog_14_method_54_code
def yX12_next : MethodName := ⟨RX12, "next", "(I)I"⟩
abbrev cX12_build : ByteArray := prog_14_method_55_code
def yX12_build : MethodName := ⟨RX12, "build", "(II)I"⟩
abbrev cX12_leastHold : ByteArray := prog_14_method_56_code
def yX12_leastHold : MethodName := ⟨RX12, "leastHold", "()I"⟩
abbrev cX12_best : ByteArray := prog_14_method_57_code
def yX12_best : MethodName := ⟨RX12, "best", "(IIII)I"⟩
abbrev cX12_covered : ByteArray := prog_14_method_58_code
def yX12_covered : MethodName := ⟨RX12, "covered", "()I"⟩
abbrev cX12_greens : ByteArray := prog_14_method_59_code
def yX12_greens : MethodName := ⟨RX12, "greens", "()I"⟩
abbrev cX12_isTaken : ByteArray := prog_14_method_60_code
def yX12_isTaken : MethodName := ⟨RX12, "isTaken", "()Z"⟩
abbrev cX12_takes : ByteArray := prog_14_method_61_code
def yX12_takes : MethodName := ⟨RX12, "takes", "()I"⟩
abbrev cX12_when : ByteArray := prog_14_method_62_code
def yX12_when : MethodName := ⟨RX12, "when", "()I"⟩
abbrev cX12_spare : ByteArray := prog_14_method_63_code
def yX12_spare : MethodName := ⟨RX12, "spare", "()I"⟩
abbrev cX12_brown : ByteArray := prog_14_method_64_code
def yX12_brown : MethodName := ⟨RX12, "brown", "(I)I"⟩
abbrev cX12_isBeyond : ByteArray := prog_14_method_65_code
def yX12_isBeyond : MethodName := ⟨RX12, "isBeyond", "(IIIII)Z"⟩
abbrev cX12_holes : ByteArray := prog_14_method_66_code
def yX12_holes : MethodName := ⟨RX12, "holes", "()I"⟩
abbrev cX12_closes : ByteArray := prog_14_method_67_code
def yX12_closes : MethodName := ⟨RX12, "closes", "(II)I"⟩
abbrev cX12_slipped : ByteArray := prog_14_method_68_code
def yX12_slipped : MethodName := ⟨RX12, "slipped", "()I"⟩
abbrev cX12_image : ByteArray := prog_14_method_69_code
def yX12_image : MethodName := ⟨RX12, "image", "()I"⟩
abbrev cX12_back : ByteArray := prog_14_method_70_code
def yX12_back : MethodName := ⟨RX12, "back", "()I"⟩
abbrev cX12_count : ByteArray := prog_14_method_71_code
def yX12_count : MethodName := ⟨RX12, "count", "(I)I"⟩
abbrev cX12_isSheet : ByteArray := prog_14_method_72_code
def yX12_isSheet : MethodName := ⟨RX12, "isSheet", "(I)Z"⟩
abbrev cX12_sheet : ByteArray := prog_14_method_73_code
def yX12_sheet : MethodName := ⟨RX12, "sheet", "(III)I"⟩
abbrev cX12_cell : ByteArray := prog_14_method_74_code
def yX12_cell : MethodName := ⟨RX12, "cell", "(III)I"⟩
abbrev cX12_copy : ByteArray := prog_14_method_75_code
def yX12_copy : MethodName := ⟨RX12, "copy", "(IIIII)I"⟩
abbrev cX12_strips : ByteArray := prog_14_method_76_code
def yX12_strips : MethodName := ⟨RX12, "strips", "(IIII)I"⟩
abbrev cX12_over : ByteArray := prog_14_method_77_code
def yX12_over : MethodName := ⟨RX12, "over", "(I)I"⟩
abbrev cX12_taken : ByteArray := prog_14_method_78_code
def yX12_taken : MethodName := ⟨RX12, "taken", "(II)I"⟩
def RJx145de : String := "java/io/Serializable"
def TJx145de : u_T := fun k => match k with
  | _ => ("", "", "", false)
def tyJx145de : Nat → FieldType := fun k => match k with
  | _ => .int
abbrev wsJx145de0 : List Cond := u_ws RJx145de TJx145de 0
theorem nmJx145de : ∀ a, a < 0 → ∀ b, b < 0 → a ≠ b → (TJx145de a).2.1 ≠ (TJx145de b).2.1 := by decide +kernel
theorem tyJx145de_ok : ∀ k, k < 0 → parseFieldDescriptor (TJx145de k).2.2.1 = some (tyJx145de k) := by decide +kernel
def RJx9f9b0 : String := "java/lang/CharSequence"
def TJx9f9b0 : u_T := fun k => match k with
  | _ => ("", "", "", false)
def tyJx9f9b0 : Nat → FieldType := fun k => match k with
  | _ => .int
abbrev wsJx9f9b00 : List Cond := u_ws RJx9f9b0 TJx9f9b0 0
theorem nmJx9f9b0 : ∀ a, a < 0 → ∀ b, b < 0 → a ≠ b → (TJx9f9b0 a).2.1 ≠ (TJx9f9b0 b).2.1 := by decide +kernel
theorem tyJx9f9b0_ok : ∀ k, k < 0 → parseFieldDescriptor (TJx9f9b0 k).2.2.1 = some (tyJx9f9b0 k) := by decide +kernel
def RJ11 : String := "java/lang/Character"
def TJ11 : u_T := fun k => match k with
  | _ => ("", "", "", false)
def tyJ11 : Nat → FieldType := fun k => match k with
  | _ => .int
abbrev wsJ110 : List Cond := u_ws RJ11 TJ11 0
theorem nmJ11 : ∀ a, a < 0 → ∀ b, b < 0 → a ≠ b → (TJ11 a).2.1 ≠ (TJ11 b).2.1 := by decide +kernel
theorem tyJ11_ok : ∀ k, k < 0 → parseFieldDescriptor (TJ11 k).2.2.1 = some (tyJ11 k) := by decide +kernel
abbrev cJ11_isValidCodePoint_9a6ad : ByteArray := prog_15_method_11_code
def yJ11_isValidCodePoint_9a6ad : MethodName := ⟨RJ11, "isValidCodePoint", "(I)Z"⟩
abbrev cJ11_highSurrogate_5068e : ByteArray := prog_15_method_28_code
def yJ11_highSurrogate_5068e : MethodName := ⟨RJ11, "highSurrogate", "(I)C"⟩
abbrev cJ11_lowSurrogate_5068e : ByteArray := prog_15_method_29_code
def yJ11_lowSurrogate_5068e : MethodName := ⟨RJ11, "lowSurrogate", "(I)C"⟩
def RJx8e188 : String := "java/lang/Cloneable"
def TJx8e188 : u_T := fun k => match k with
  | _ => ("", "", "", false)
def tyJx8e188 : Nat → FieldType := fun k => match k with
  | _ => .int
abbrev wsJx8e1880 : List Cond := u_ws RJx8e188 TJx8e188 0
theorem nmJx8e188 : ∀ a, a < 0 → ∀ b, b < 0 → a ≠ b → (TJx8e188 a).2.1 ≠ (TJx8e188 b).2.1 := by decide +kernel
theorem tyJx8e188_ok : ∀ k, k < 0 → parseFieldDescriptor (TJx8e188 k).2.2.1 = some (tyJx8e188 k) := by decide +kernel
def RJxb160c : String := "java/lang/Comparable"
def TJxb160c : u_T := fun k => match k with
  | _ => ("", "", "", false)
def tyJxb160c : Nat → FieldType := fun k => match k with
  | _ => .int
abbrev wsJxb160c0 : List Cond := u_ws RJxb160c TJxb160c 0
theorem nmJxb160c : ∀ a, a < 0 → ∀ b, b < 0 → a ≠ b → (TJxb160c a).2.1 ≠ (TJxb160c b).2.1 := by decide +kernel
theorem tyJxb160c_ok : ∀ k, k < 0 → parseFieldDescriptor (TJxb160c k).2.2.1 = some (tyJxb160c k) := by decide +kernel
def RJ6 : String := "java/lang/Integer"
def TJ6 : u_T := fun k => match k with
  | _ => ("", "", "", false)
def tyJ6 : Nat → FieldType := fun k => match k with
  | _ => .int
abbrev wsJ60 : List Cond := u_ws RJ6 TJ6 0
theorem nmJ6 : ∀ a, a < 0 → ∀ b, b < 0 → a ≠ b → (TJ6 a).2.1 ≠ (TJ6 b).2.1 := by decide +kernel
theorem tyJ6_ok : ∀ k, k < 0 → parseFieldDescriptor (TJ6 k).2.2.1 = some (tyJ6 k) := by decide +kernel
abbrev cJ6_bitCount_0f7a4 : ByteArray := prog_17_method_49_code
def yJ6_bitCount_0f7a4 : MethodName := ⟨RJ6, "bitCount", "(I)I"⟩
def RJ9 : String := "java/lang/Math"
def TJ9 : u_T := fun k => match k with
  | _ => ("", "", "", false)
def tyJ9 : Nat → FieldType := fun k => match k with
  | _ => .int
abbrev wsJ90 : List Cond := u_ws RJ9 TJ9 0
theorem nmJ9 : ∀ a, a < 0 → ∀ b, b < 0 → a ≠ b → (TJ9 a).2.1 ≠ (TJ9 b).2.1 := by decide +kernel
theorem tyJ9_ok : ∀ k, k < 0 → parseFieldDescriptor (TJ9 k).2.2.1 = some (tyJ9 k) := by decide +kernel
abbrev cJ9_max_7cf53 : ByteArray := prog_18_method_65_code
def yJ9_max_7cf53 : MethodName := ⟨RJ9, "max", "(II)I"⟩
abbrev cJ9_min_7cf53 : ByteArray := prog_18_method_69_code
def yJ9_min_7cf53 : MethodName := ⟨RJ9, "min", "(II)I"⟩
def RJ0 : String := "java/lang/String"
def TJ0 : u_T := fun k => match k with
  | _ => ("", "", "", false)
def tyJ0 : Nat → FieldType := fun k => match k with
  | _ => .int
abbrev wsJ00 : List Cond := u_ws RJ0 TJ0 0
theorem nmJ0 : ∀ a, a < 0 → ∀ b, b < 0 → a ≠ b → (TJ0 a).2.1 ≠ (TJ0 b).2.1 := by decide +kernel
theorem tyJ0_ok : ∀ k, k < 0 → parseFieldDescriptor (TJ0 k).2.2.1 = some (tyJ0 k) := by decide +kernel
abbrev cJ0_length_8abf5 : ByteArray := prog_19_method_54_code
def yJ0_length_8abf5 : MethodName := ⟨RJ0, "length", "()I"⟩
abbrev cJ0_charAt_5068e : ByteArray := prog_19_method_56_code
def yJ0_charAt_5068e : MethodName := ⟨RJ0, "charAt", "(I)C"⟩
abbrev cJ0_indexOf_0f7a4 : ByteArray := prog_19_method_79_code
def yJ0_indexOf_0f7a4 : MethodName := ⟨RJ0, "indexOf", "(I)I"⟩
abbrev cJ0_indexOf_7cf53 : ByteArray := prog_19_method_80_code
def yJ0_indexOf_7cf53 : MethodName := ⟨RJ0, "indexOf", "(II)I"⟩
abbrev cJ0_coder_7d493 : ByteArray := prog_19_method_152_code
def yJ0_coder_7d493 : MethodName := ⟨RJ0, "coder", "()B"⟩
abbrev cJ0_isLatin1_aae02 : ByteArray := prog_19_method_154_code
def yJ0_isLatin1_aae02 : MethodName := ⟨RJ0, "isLatin1", "()Z"⟩
abbrev cJ0_checkIndex_df160 : ByteArray := prog_19_method_155_code
def yJ0_checkIndex_df160 : MethodName := ⟨RJ0, "checkIndex", "(II)V"⟩
abbrev cJ0_checkBoundsBeginEnd_23922 : ByteArray := prog_19_method_158_code
def yJ0_checkBoundsBeginEnd_23922 : MethodName := ⟨RJ0, "checkBoundsBeginEnd", "(III)V"⟩
def RJ1 : String := "java/lang/StringLatin1"
def TJ1 : u_T := fun k => match k with
  | _ => ("", "", "", false)
def tyJ1 : Nat → FieldType := fun k => match k with
  | _ => .int
abbrev wsJ10 : List Cond := u_ws RJ1 TJ1 0
theorem nmJ1 : ∀ a, a < 0 → ∀ b, b < 0 → a ≠ b → (TJ1 a).2.1 ≠ (TJ1 b).2.1 := by decide +kernel
theorem tyJ1_ok : ∀ k, k < 0 → parseFieldDescriptor (TJ1 k).2.2.1 = some (tyJ1 k) := by decide +kernel
abbrev cJ1_charAt_3b067 : ByteArray := prog_20_method_2_code
def yJ1_charAt_3b067 : MethodName := ⟨RJ1, "charAt", "([BI)C"⟩
abbrev cJ1_canEncode_9a6ad : ByteArray := prog_20_method_4_code
def yJ1_canEncode_9a6ad : MethodName := ⟨RJ1, "canEncode", "(I)Z"⟩
abbrev cJ1_indexOf_4cfef : ByteArray := prog_20_method_22_code
def yJ1_indexOf_4cfef : MethodName := ⟨RJ1, "indexOf", "([BIII)I"⟩
abbrev cJ1_indexOfChar_4cfef : ByteArray := prog_20_method_23_code
def yJ1_indexOfChar_4cfef : MethodName := ⟨RJ1, "indexOfChar", "([BIII)I"⟩
def RJ2 : String := "java/lang/StringUTF16"
def TJ2 : u_T := fun k => match k with
  | _ => ("", "", "", false)
def tyJ2 : Nat → FieldType := fun k => match k with
  | _ => .int
abbrev wsJ20 : List Cond := u_ws RJ2 TJ2 0
theorem nmJ2 : ∀ a, a < 0 → ∀ b, b < 0 → a ≠ b → (TJ2 a).2.1 ≠ (TJ2 b).2.1 := by decide +kernel
theorem tyJ2_ok : ∀ k, k < 0 → parseFieldDescriptor (TJ2 k).2.2.1 = some (tyJ2 k) := by decide +kernel
abbrev cJ2_getChar_3b067 : ByteArray := prog_21_method_5_code
def yJ2_getChar_3b067 : MethodName := ⟨RJ2, "getChar", "([BI)C"⟩
abbrev cJ2_length_9d52b : ByteArray := prog_21_method_6_code
def yJ2_length_9d52b : MethodName := ⟨RJ2, "length", "([B)I"⟩
abbrev cJ2_indexOf_4cfef : ByteArray := prog_21_method_40_code
def yJ2_indexOf_4cfef : MethodName := ⟨RJ2, "indexOf", "([BIII)I"⟩
abbrev cJ2_indexOfChar_4cfef : ByteArray := prog_21_method_47_code
def yJ2_indexOfChar_4cfef : MethodName := ⟨RJ2, "indexOfChar", "([BIII)I"⟩
abbrev cJ2_indexOfCharUnsafe_4cfef : ByteArray := prog_21_method_48_code
def yJ2_indexOfCharUnsafe_4cfef : MethodName := ⟨RJ2, "indexOfCharUnsafe", "([BIII)I"⟩
abbrev cJ2_indexOfSupplementary_4cfef : ByteArray := prog_21_method_49_code
def yJ2_indexOfSupplementary_4cfef : MethodName := ⟨RJ2, "indexOfSupplementary", "([BIII)I"⟩
abbrev cJ2_charAt_3b067 : ByteArray := prog_21_method_83_code
def yJ2_charAt_3b067 : MethodName := ⟨RJ2, "charAt", "([BI)C"⟩
abbrev cJ2_checkIndex_2214a : ByteArray := prog_21_method_91_code
def yJ2_checkIndex_2214a : MethodName := ⟨RJ2, "checkIndex", "(I[B)V"⟩
abbrev cJ2_checkBoundsBeginEnd_d044e : ByteArray := prog_21_method_93_code
def yJ2_checkBoundsBeginEnd_d044e : MethodName := ⟨RJ2, "checkBoundsBeginEnd", "(II[B)V"⟩
def RJ10 : String := "java/lang/System"
def TJ10 : u_T := fun k => match k with
  | _ => ("", "", "", false)
def tyJ10 : Nat → FieldType := fun k => match k with
  | _ => .int
abbrev wsJ100 : List Cond := u_ws RJ10 TJ10 0
theorem nmJ10 : ∀ a, a < 0 → ∀ b, b < 0 → a ≠ b → (TJ10 a).2.1 ≠ (TJ10 b).2.1 := by decide +kernel
theorem tyJ10_ok : ∀ k, k < 0 → parseFieldDescriptor (TJ10 k).2.2.1 = some (tyJ10 k) := by decide +kernel
def RJxfd54e : String := "java/lang/constant/Constable"
def TJxfd54e : u_T := fun k => match k with
  | _ => ("", "", "", false)
def tyJxfd54e : Nat → FieldType := fun k => match k with
  | _ => .int
abbrev wsJxfd54e0 : List Cond := u_ws RJxfd54e TJxfd54e 0
theorem nmJxfd54e : ∀ a, a < 0 → ∀ b, b < 0 → a ≠ b → (TJxfd54e a).2.1 ≠ (TJxfd54e b).2.1 := by decide +kernel
theorem tyJxfd54e_ok : ∀ k, k < 0 → parseFieldDescriptor (TJxfd54e k).2.2.1 = some (tyJxfd54e k) := by decide +kernel
def RJx3cf43 : String := "java/lang/constant/ConstantDesc"
def TJx3cf43 : u_T := fun k => match k with
  | _ => ("", "", "", false)
def tyJx3cf43 : Nat → FieldType := fun k => match k with
  | _ => .int
abbrev wsJx3cf430 : List Cond := u_ws RJx3cf43 TJx3cf43 0
theorem nmJx3cf43 : ∀ a, a < 0 → ∀ b, b < 0 → a ≠ b → (TJx3cf43 a).2.1 ≠ (TJx3cf43 b).2.1 := by decide +kernel
theorem tyJx3cf43_ok : ∀ k, k < 0 → parseFieldDescriptor (TJx3cf43 k).2.2.1 = some (tyJx3cf43 k) := by decide +kernel
def RJ7 : String := "java/util/Arrays"
def TJ7 : u_T := fun k => match k with
  | _ => ("", "", "", false)
def tyJ7 : Nat → FieldType := fun k => match k with
  | _ => .int
abbrev wsJ70 : List Cond := u_ws RJ7 TJ7 0
theorem nmJ7 : ∀ a, a < 0 → ∀ b, b < 0 → a ≠ b → (TJ7 a).2.1 ≠ (TJ7 b).2.1 := by decide +kernel
theorem tyJ7_ok : ∀ k, k < 0 → parseFieldDescriptor (TJ7 k).2.2.1 = some (tyJ7 k) := by decide +kernel
abbrev cJ7_fill_53178 : ByteArray := prog_23_method_103_code
def yJ7_fill_53178 : MethodName := ⟨RJ7, "fill", "([II)V"⟩
abbrev cJ7_copyOf_59c91 : ByteArray := prog_23_method_123_code
def yJ7_copyOf_59c91 : MethodName := ⟨RJ7, "copyOf", "([II)[I"⟩
def RJ3 : String := "jdk/internal/util/Preconditions"
def TJ3 : u_T := fun k => match k with
  | _ => ("", "", "", false)
def tyJ3 : Nat → FieldType := fun k => match k with
  | _ => .int
abbrev wsJ30 : List Cond := u_ws RJ3 TJ3 0
theorem nmJ3 : ∀ a, a < 0 → ∀ b, b < 0 → a ≠ b → (TJ3 a).2.1 ≠ (TJ3 b).2.1 := by decide +kernel
theorem tyJ3_ok : ∀ k, k < 0 → parseFieldDescriptor (TJ3 k).2.2.1 = some (tyJ3 k) := by decide +kernel
abbrev cJ3_checkIndex_8e157 : ByteArray := prog_24_method_11_code
def yJ3_checkIndex_8e157 : MethodName := ⟨RJ3, "checkIndex", "(IILjava/util/function/BiFunction;)I"⟩
abbrev cJ3_checkFromToIndex_8c36e : ByteArray := prog_24_method_12_code
def yJ3_checkFromToIndex_8c36e : MethodName := ⟨RJ3, "checkFromToIndex", "(IIILjava/util/function/BiFunction;)I"⟩
def RL : String := "NestsByKnotsLaw"
abbrev cL_law : ByteArray := code
def yL_law : MethodName := ⟨RL, "law", "([I)Z"⟩
abbrev vwCl : List vw_C := [(RX0, TX0, 2), (RX1, TX1, 1), (RX2, TX2, 1), (RX3, TX3, 1), (RX4, TX4, 11), (RX5, TX5, 1), (RX6, TX6, 10), (RX7, TX7, 3), (RX8, TX8, 1), (RX9, TX9, 3), (RX10, TX10, 1), (RX11, TX11, 7), (RX12, TX12, 40)]
