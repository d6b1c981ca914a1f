section
-- ===== PART A: goes FIRST, ahead of the names: the tables' words, and 'selects' of the private methods out of them =====
/-- a private method of a class that the tables say can be made, by its rows of tables_1 -/
def lw_okq (q : MethodName × Nat) : Prop := (q.1.cls ≠ "java/lang/invoke/MethodHandle" ∧ q.1.cls ≠ "java/lang/invoke/VarHandle") ∧ Cond.instantiable q.1.cls q.2 ∈ tables_1 ∧ Cond.privateMethod q.1 ∈ tables_1 ∧ Cond.instanceMethod q.1 ∈ tables_1
theorem lw_p0 : lw_okq (⟨"NestsByKnots$Reader", "advance", "()V"⟩, 10) := ⟨⟨by decide +kernel, by decide +kernel⟩, List.mem_of_getElem? (i := 32) (by decide +kernel), List.mem_of_getElem? (i := 133) (by decide +kernel), List.mem_of_getElem? (i := 134) (by decide +kernel)⟩
theorem lw_p1 : lw_okq (⟨"NestsByKnots$Reader", "word", "()V"⟩, 10) := ⟨⟨by decide +kernel, by decide +kernel⟩, List.mem_of_getElem? (i := 32) (by decide +kernel), List.mem_of_getElem? (i := 140) (by decide +kernel), List.mem_of_getElem? (i := 141) (by decide +kernel)⟩
theorem lw_p2 : lw_okq (⟨"NestsByKnots$Reader", "nameHere", "()I"⟩, 10) := ⟨⟨by decide +kernel, by decide +kernel⟩, List.mem_of_getElem? (i := 32) (by decide +kernel), List.mem_of_getElem? (i := 144) (by decide +kernel), List.mem_of_getElem? (i := 145) (by decide +kernel)⟩
theorem lw_p3 : lw_okq (⟨"NestsByKnots$Reader", "spells", "(Ljava/lang/String;)Z"⟩, 10) := ⟨⟨by decide +kernel, by decide +kernel⟩, List.mem_of_getElem? (i := 32) (by decide +kernel), List.mem_of_getElem? (i := 149) (by decide +kernel), List.mem_of_getElem? (i := 150) (by decide +kernel)⟩
theorem lw_p4 : lw_okq (⟨"NestsByKnots$Reader", "keyHere", "()I"⟩, 10) := ⟨⟨by decide +kernel, by decide +kernel⟩, List.mem_of_getElem? (i := 32) (by decide +kernel), List.mem_of_getElem? (i := 160) (by decide +kernel), List.mem_of_getElem? (i := 161) (by decide +kernel)⟩
theorem lw_p5 : lw_okq (⟨"NestsByKnots$Reader", "digits", "()V"⟩, 10) := ⟨⟨by decide +kernel, by decide +kernel⟩, List.mem_of_getElem? (i := 32) (by decide +kernel), List.mem_of_getElem? (i := 173) (by decide +kernel), List.mem_of_getElem? (i := 174) (by decide +kernel)⟩
theorem lw_p6 : lw_okq (⟨"NestsByKnots$Reader", "part", "(II)V"⟩, 10) := ⟨⟨by decide +kernel, by decide +kernel⟩, List.mem_of_getElem? (i := 32) (by decide +kernel), List.mem_of_getElem? (i := 240) (by decide +kernel), List.mem_of_getElem? (i := 241) (by decide +kernel)⟩
theorem lw_p7 : lw_okq (⟨"NestsByKnots$Reader", "expect", "(I)V"⟩, 10) := ⟨⟨by decide +kernel, by decide +kernel⟩, List.mem_of_getElem? (i := 32) (by decide +kernel), List.mem_of_getElem? (i := 244) (by decide +kernel), List.mem_of_getElem? (i := 245) (by decide +kernel)⟩
theorem lw_p8 : lw_okq (⟨"NestsByKnots$Reader", "refuse", "()V"⟩, 10) := ⟨⟨by decide +kernel, by decide +kernel⟩, List.mem_of_getElem? (i := 32) (by decide +kernel), List.mem_of_getElem? (i := 248) (by decide +kernel), List.mem_of_getElem? (i := 249) (by decide +kernel)⟩
theorem lw_p9 : lw_okq (⟨"NestsByKnots$Reader", "either", "(I)V"⟩, 10) := ⟨⟨by decide +kernel, by decide +kernel⟩, List.mem_of_getElem? (i := 32) (by decide +kernel), List.mem_of_getElem? (i := 252) (by decide +kernel), List.mem_of_getElem? (i := 253) (by decide +kernel)⟩
theorem lw_p10 : lw_okq (⟨"NestsByKnots$Reader", "both", "(I)V"⟩, 10) := ⟨⟨by decide +kernel, by decide +kernel⟩, List.mem_of_getElem? (i := 32) (by decide +kernel), List.mem_of_getElem? (i := 256) (by decide +kernel), List.mem_of_getElem? (i := 257) (by decide +kernel)⟩
theorem lw_p11 : lw_okq (⟨"NestsByKnots$Reader", "denied", "(I)V"⟩, 10) := ⟨⟨by decide +kernel, by decide +kernel⟩, List.mem_of_getElem? (i := 32) (by decide +kernel), List.mem_of_getElem? (i := 260) (by decide +kernel), List.mem_of_getElem? (i := 261) (by decide +kernel)⟩
theorem lw_p12 : lw_okq (⟨"NestsByKnots$Reader", "emit", "(I)V"⟩, 10) := ⟨⟨by decide +kernel, by decide +kernel⟩, List.mem_of_getElem? (i := 32) (by decide +kernel), List.mem_of_getElem? (i := 264) (by decide +kernel), List.mem_of_getElem? (i := 265) (by decide +kernel)⟩
theorem lw_p13 : lw_okq (⟨"NestsByKnots$Reader", "sum", "(I)V"⟩, 10) := ⟨⟨by decide +kernel, by decide +kernel⟩, List.mem_of_getElem? (i := 32) (by decide +kernel), List.mem_of_getElem? (i := 268) (by decide +kernel), List.mem_of_getElem? (i := 269) (by decide +kernel)⟩
theorem lw_p14 : lw_okq (⟨"NestsByKnots$Reader", "term", "(I)V"⟩, 10) := ⟨⟨by decide +kernel, by decide +kernel⟩, List.mem_of_getElem? (i := 32) (by decide +kernel), List.mem_of_getElem? (i := 272) (by decide +kernel), List.mem_of_getElem? (i := 273) (by decide +kernel)⟩
theorem lw_p15 : lw_okq (⟨"NestsByKnots$Reader", "one", "(I)V"⟩, 10) := ⟨⟨by decide +kernel, by decide +kernel⟩, List.mem_of_getElem? (i := 32) (by decide +kernel), List.mem_of_getElem? (i := 276) (by decide +kernel), List.mem_of_getElem? (i := 277) (by decide +kernel)⟩
def lw_privs_1 : List (MethodName × Nat) := [(⟨"NestsByKnots$Reader", "advance", "()V"⟩, 10), (⟨"NestsByKnots$Reader", "word", "()V"⟩, 10), (⟨"NestsByKnots$Reader", "nameHere", "()I"⟩, 10), (⟨"NestsByKnots$Reader", "spells", "(Ljava/lang/String;)Z"⟩, 10), (⟨"NestsByKnots$Reader", "keyHere", "()I"⟩, 10), (⟨"NestsByKnots$Reader", "digits", "()V"⟩, 10), (⟨"NestsByKnots$Reader", "part", "(II)V"⟩, 10), (⟨"NestsByKnots$Reader", "expect", "(I)V"⟩, 10), (⟨"NestsByKnots$Reader", "refuse", "()V"⟩, 10), (⟨"NestsByKnots$Reader", "either", "(I)V"⟩, 10), (⟨"NestsByKnots$Reader", "both", "(I)V"⟩, 10), (⟨"NestsByKnots$Reader", "denied", "(I)V"⟩, 10), (⟨"NestsByKnots$Reader", "emit", "(I)V"⟩, 10), (⟨"NestsByKnots$Reader", "sum", "(I)V"⟩, 10), (⟨"NestsByKnots$Reader", "term", "(I)V"⟩, 10), (⟨"NestsByKnots$Reader", "one", "(I)V"⟩, 10)]
theorem lw_r1 : ∀ q ∈ lw_privs_1, lw_okq q := List.forall_mem_cons.mpr ⟨lw_p0, List.forall_mem_cons.mpr ⟨lw_p1, List.forall_mem_cons.mpr ⟨lw_p2, List.forall_mem_cons.mpr ⟨lw_p3, List.forall_mem_cons.mpr ⟨lw_p4, List.forall_mem_cons.mpr ⟨lw_p5, List.forall_mem_cons.mpr ⟨lw_p6, List.forall_mem_cons.mpr ⟨lw_p7, List.forall_mem_cons.mpr ⟨lw_p8, List.forall_mem_cons.mpr ⟨lw_p9, List.forall_mem_cons.mpr ⟨lw_p10, List.forall_mem_cons.mpr ⟨lw_p11, List.forall_mem_cons.mpr ⟨lw_p12, List.forall_mem_cons.mpr ⟨lw_p13, List.forall_mem_cons.mpr ⟨lw_p14, List.forall_mem_cons.mpr ⟨lw_p15, fun _ h => absurd h List.not_mem_nil⟩⟩⟩⟩⟩⟩⟩⟩⟩⟩⟩⟩⟩⟩⟩⟩
theorem lw_p16 : lw_okq (⟨"NestsByKnots$Net", "met", "(III)I"⟩, 11) := ⟨⟨by decide +kernel, by decide +kernel⟩, List.mem_of_getElem? (i := 317) (by decide +kernel), List.mem_of_getElem? (i := 640) (by decide +kernel), List.mem_of_getElem? (i := 641) (by decide +kernel)⟩
theorem lw_p17 : lw_okq (⟨"NestsByKnots$Net", "nameStrip", "(IIII)V"⟩, 11) := ⟨⟨by decide +kernel, by decide +kernel⟩, List.mem_of_getElem? (i := 317) (by decide +kernel), List.mem_of_getElem? (i := 657) (by decide +kernel), List.mem_of_getElem? (i := 658) (by decide +kernel)⟩
theorem lw_p18 : lw_okq (⟨"NestsByKnots$Net", "name", "(IIIIII)V"⟩, 11) := ⟨⟨by decide +kernel, by decide +kernel⟩, List.mem_of_getElem? (i := 317) (by decide +kernel), List.mem_of_getElem? (i := 661) (by decide +kernel), List.mem_of_getElem? (i := 662) (by decide +kernel)⟩
theorem lw_p19 : lw_okq (⟨"NestsByKnots$Net", "looseAt", "(III)I"⟩, 11) := ⟨⟨by decide +kernel, by decide +kernel⟩, List.mem_of_getElem? (i := 317) (by decide +kernel), List.mem_of_getElem? (i := 712) (by decide +kernel), List.mem_of_getElem? (i := 713) (by decide +kernel)⟩
theorem lw_p20 : lw_okq (⟨"NestsByKnots$Net", "weakestAt", "(II)I"⟩, 11) := ⟨⟨by decide +kernel, by decide +kernel⟩, List.mem_of_getElem? (i := 317) (by decide +kernel), List.mem_of_getElem? (i := 751) (by decide +kernel), List.mem_of_getElem? (i := 752) (by decide +kernel)⟩
theorem lw_p21 : lw_okq (⟨"NestsByKnots$Net", "leastHold", "(I)I"⟩, 11) := ⟨⟨by decide +kernel, by decide +kernel⟩, List.mem_of_getElem? (i := 317) (by decide +kernel), List.mem_of_getElem? (i := 801) (by decide +kernel), List.mem_of_getElem? (i := 802) (by decide +kernel)⟩
theorem lw_p22 : lw_okq (⟨"NestsByKnotsModel", "spell", "(IJ)V"⟩, 40) := ⟨⟨by decide +kernel, by decide +kernel⟩, List.mem_of_getElem? (i := 929) (by decide +kernel), List.mem_of_getElem? (i := 936) (by decide +kernel), List.mem_of_getElem? (i := 937) (by decide +kernel)⟩
theorem lw_p23 : lw_okq (⟨"NestsByKnotsModel", "free", "()I"⟩, 40) := ⟨⟨by decide +kernel, by decide +kernel⟩, List.mem_of_getElem? (i := 929) (by decide +kernel), List.mem_of_getElem? (i := 1081) (by decide +kernel), List.mem_of_getElem? (i := 1082) (by decide +kernel)⟩
theorem lw_p24 : lw_okq (⟨"NestsByKnotsModel", "lays", "(IIII)V"⟩, 40) := ⟨⟨by decide +kernel, by decide +kernel⟩, List.mem_of_getElem? (i := 929) (by decide +kernel), List.mem_of_getElem? (i := 1085) (by decide +kernel), List.mem_of_getElem? (i := 1086) (by decide +kernel)⟩
theorem lw_p25 : lw_okq (⟨"NestsByKnotsModel", "isStrip", "(I)Z"⟩, 40) := ⟨⟨by decide +kernel, by decide +kernel⟩, List.mem_of_getElem? (i := 929) (by decide +kernel), List.mem_of_getElem? (i := 1096) (by decide +kernel), List.mem_of_getElem? (i := 1097) (by decide +kernel)⟩
theorem lw_p26 : lw_okq (⟨"NestsByKnotsModel", "ageOf", "(I)I"⟩, 40) := ⟨⟨by decide +kernel, by decide +kernel⟩, List.mem_of_getElem? (i := 929) (by decide +kernel), List.mem_of_getElem? (i := 1117) (by decide +kernel), List.mem_of_getElem? (i := 1118) (by decide +kernel)⟩
theorem lw_p27 : lw_okq (⟨"NestsByKnotsModel", "knotOf", "(I)I"⟩, 40) := ⟨⟨by decide +kernel, by decide +kernel⟩, List.mem_of_getElem? (i := 929) (by decide +kernel), List.mem_of_getElem? (i := 1121) (by decide +kernel), List.mem_of_getElem? (i := 1122) (by decide +kernel)⟩
theorem lw_p28 : lw_okq (⟨"NestsByKnotsModel", "slips", "(I)Z"⟩, 40) := ⟨⟨by decide +kernel, by decide +kernel⟩, List.mem_of_getElem? (i := 929) (by decide +kernel), List.mem_of_getElem? (i := 1125) (by decide +kernel), List.mem_of_getElem? (i := 1126) (by decide +kernel)⟩
theorem lw_p29 : lw_okq (⟨"NestsByKnotsModel", "tiesOf", "(I)I"⟩, 40) := ⟨⟨by decide +kernel, by decide +kernel⟩, List.mem_of_getElem? (i := 929) (by decide +kernel), List.mem_of_getElem? (i := 1129) (by decide +kernel), List.mem_of_getElem? (i := 1130) (by decide +kernel)⟩
theorem lw_p30 : lw_okq (⟨"NestsByKnotsModel", "crosses", "(III)I"⟩, 40) := ⟨⟨by decide +kernel, by decide +kernel⟩, List.mem_of_getElem? (i := 929) (by decide +kernel), List.mem_of_getElem? (i := 1133) (by decide +kernel), List.mem_of_getElem? (i := 1134) (by decide +kernel)⟩
theorem lw_p31 : lw_okq (⟨"NestsByKnotsModel", "at1", "(II)I"⟩, 40) := ⟨⟨by decide +kernel, by decide +kernel⟩, List.mem_of_getElem? (i := 929) (by decide +kernel), List.mem_of_getElem? (i := 1137) (by decide +kernel), List.mem_of_getElem? (i := 1138) (by decide +kernel)⟩
def lw_privs_2 : List (MethodName × Nat) := [(⟨"NestsByKnots$Net", "met", "(III)I"⟩, 11), (⟨"NestsByKnots$Net", "nameStrip", "(IIII)V"⟩, 11), (⟨"NestsByKnots$Net", "name", "(IIIIII)V"⟩, 11), (⟨"NestsByKnots$Net", "looseAt", "(III)I"⟩, 11), (⟨"NestsByKnots$Net", "weakestAt", "(II)I"⟩, 11), (⟨"NestsByKnots$Net", "leastHold", "(I)I"⟩, 11), (⟨"NestsByKnotsModel", "spell", "(IJ)V"⟩, 40), (⟨"NestsByKnotsModel", "free", "()I"⟩, 40), (⟨"NestsByKnotsModel", "lays", "(IIII)V"⟩, 40), (⟨"NestsByKnotsModel", "isStrip", "(I)Z"⟩, 40), (⟨"NestsByKnotsModel", "ageOf", "(I)I"⟩, 40), (⟨"NestsByKnotsModel", "knotOf", "(I)I"⟩, 40), (⟨"NestsByKnotsModel", "slips", "(I)Z"⟩, 40), (⟨"NestsByKnotsModel", "tiesOf", "(I)I"⟩, 40), (⟨"NestsByKnotsModel", "crosses", "(III)I"⟩, 40), (⟨"NestsByKnotsModel", "at1", "(II)I"⟩, 40)]
theorem lw_r2 : ∀ q ∈ lw_privs_2, lw_okq q := List.forall_mem_cons.mpr ⟨lw_p16, List.forall_mem_cons.mpr ⟨lw_p17, List.forall_mem_cons.mpr ⟨lw_p18, List.forall_mem_cons.mpr ⟨lw_p19, List.forall_mem_cons.mpr ⟨lw_p20, List.forall_mem_cons.mpr ⟨lw_p21, List.forall_mem_cons.mpr ⟨lw_p22, List.forall_mem_cons.mpr ⟨lw_p23, List.forall_mem_cons.mpr ⟨lw_p24, List.forall_mem_cons.mpr ⟨lw_p25, List.forall_mem_cons.mpr ⟨lw_p26, List.forall_mem_cons.mpr ⟨lw_p27, List.forall_mem_cons.mpr ⟨lw_p28, List.forall_mem_cons.mpr ⟨lw_p29, List.forall_mem_cons.mpr ⟨lw_p30, List.forall_mem_cons.mpr ⟨lw_p31, fun _ h => absurd h List.not_mem_nil⟩⟩⟩⟩⟩⟩⟩⟩⟩⟩⟩⟩⟩⟩⟩⟩
theorem lw_p32 : lw_okq (⟨"NestsByKnotsModel", "holdOf", "(II)I"⟩, 40) := ⟨⟨by decide +kernel, by decide +kernel⟩, List.mem_of_getElem? (i := 929) (by decide +kernel), List.mem_of_getElem? (i := 1141) (by decide +kernel), List.mem_of_getElem? (i := 1142) (by decide +kernel)⟩
theorem lw_p33 : lw_okq (⟨"NestsByKnotsModel", "read", "(IIIIIIII)I"⟩, 40) := ⟨⟨by decide +kernel, by decide +kernel⟩, List.mem_of_getElem? (i := 929) (by decide +kernel), List.mem_of_getElem? (i := 1145) (by decide +kernel), List.mem_of_getElem? (i := 1146) (by decide +kernel)⟩
theorem lw_p34 : lw_okq (⟨"NestsByKnotsModel", "next1", "()V"⟩, 40) := ⟨⟨by decide +kernel, by decide +kernel⟩, List.mem_of_getElem? (i := 929) (by decide +kernel), List.mem_of_getElem? (i := 1149) (by decide +kernel), List.mem_of_getElem? (i := 1150) (by decide +kernel)⟩
theorem lw_p35 : lw_okq (⟨"NestsByKnotsModel", "byteAt", "(I)I"⟩, 40) := ⟨⟨by decide +kernel, by decide +kernel⟩, List.mem_of_getElem? (i := 929) (by decide +kernel), List.mem_of_getElem? (i := 1153) (by decide +kernel), List.mem_of_getElem? (i := 1154) (by decide +kernel)⟩
theorem lw_p36 : lw_okq (⟨"NestsByKnotsModel", "part", "(J)I"⟩, 40) := ⟨⟨by decide +kernel, by decide +kernel⟩, List.mem_of_getElem? (i := 929) (by decide +kernel), List.mem_of_getElem? (i := 1166) (by decide +kernel), List.mem_of_getElem? (i := 1167) (by decide +kernel)⟩
theorem lw_p37 : lw_okq (⟨"NestsByKnotsModel", "isWord", "(J)Z"⟩, 40) := ⟨⟨by decide +kernel, by decide +kernel⟩, List.mem_of_getElem? (i := 929) (by decide +kernel), List.mem_of_getElem? (i := 1170) (by decide +kernel), List.mem_of_getElem? (i := 1171) (by decide +kernel)⟩
theorem lw_p38 : lw_okq (⟨"NestsByKnotsModel", "fail", "()V"⟩, 40) := ⟨⟨by decide +kernel, by decide +kernel⟩, List.mem_of_getElem? (i := 929) (by decide +kernel), List.mem_of_getElem? (i := 1174) (by decide +kernel), List.mem_of_getElem? (i := 1175) (by decide +kernel)⟩
theorem lw_p39 : lw_okq (⟨"NestsByKnotsModel", "either", "()I"⟩, 40) := ⟨⟨by decide +kernel, by decide +kernel⟩, List.mem_of_getElem? (i := 929) (by decide +kernel), List.mem_of_getElem? (i := 1178) (by decide +kernel), List.mem_of_getElem? (i := 1179) (by decide +kernel)⟩
theorem lw_p40 : lw_okq (⟨"NestsByKnotsModel", "both", "()I"⟩, 40) := ⟨⟨by decide +kernel, by decide +kernel⟩, List.mem_of_getElem? (i := 929) (by decide +kernel), List.mem_of_getElem? (i := 1182) (by decide +kernel), List.mem_of_getElem? (i := 1183) (by decide +kernel)⟩
theorem lw_p41 : lw_okq (⟨"NestsByKnotsModel", "not", "()I"⟩, 40) := ⟨⟨by decide +kernel, by decide +kernel⟩, List.mem_of_getElem? (i := 929) (by decide +kernel), List.mem_of_getElem? (i := 1186) (by decide +kernel), List.mem_of_getElem? (i := 1187) (by decide +kernel)⟩
theorem lw_p42 : lw_okq (⟨"NestsByKnotsModel", "opens", "()Z"⟩, 40) := ⟨⟨by decide +kernel, by decide +kernel⟩, List.mem_of_getElem? (i := 929) (by decide +kernel), List.mem_of_getElem? (i := 1191) (by decide +kernel), List.mem_of_getElem? (i := 1192) (by decide +kernel)⟩
theorem lw_p43 : lw_okq (⟨"NestsByKnotsModel", "added", "()I"⟩, 40) := ⟨⟨by decide +kernel, by decide +kernel⟩, List.mem_of_getElem? (i := 929) (by decide +kernel), List.mem_of_getElem? (i := 1195) (by decide +kernel), List.mem_of_getElem? (i := 1196) (by decide +kernel)⟩
theorem lw_p44 : lw_okq (⟨"NestsByKnotsModel", "term", "()I"⟩, 40) := ⟨⟨by decide +kernel, by decide +kernel⟩, List.mem_of_getElem? (i := 929) (by decide +kernel), List.mem_of_getElem? (i := 1199) (by decide +kernel), List.mem_of_getElem? (i := 1200) (by decide +kernel)⟩
theorem lw_p45 : lw_okq (⟨"NestsByKnotsModel", "one", "()I"⟩, 40) := ⟨⟨by decide +kernel, by decide +kernel⟩, List.mem_of_getElem? (i := 929) (by decide +kernel), List.mem_of_getElem? (i := 1203) (by decide +kernel), List.mem_of_getElem? (i := 1204) (by decide +kernel)⟩
theorem lw_p46 : lw_okq (⟨"NestsByKnotsModel", "isSign", "(I)Z"⟩, 40) := ⟨⟨by decide +kernel, by decide +kernel⟩, List.mem_of_getElem? (i := 929) (by decide +kernel), List.mem_of_getElem? (i := 1207) (by decide +kernel), List.mem_of_getElem? (i := 1208) (by decide +kernel)⟩
theorem lw_p47 : lw_okq (⟨"NestsByKnotsModel", "name", "()I"⟩, 40) := ⟨⟨by decide +kernel, by decide +kernel⟩, List.mem_of_getElem? (i := 929) (by decide +kernel), List.mem_of_getElem? (i := 1211) (by decide +kernel), List.mem_of_getElem? (i := 1212) (by decide +kernel)⟩
def lw_privs_3 : List (MethodName × Nat) := [(⟨"NestsByKnotsModel", "holdOf", "(II)I"⟩, 40), (⟨"NestsByKnotsModel", "read", "(IIIIIIII)I"⟩, 40), (⟨"NestsByKnotsModel", "next1", "()V"⟩, 40), (⟨"NestsByKnotsModel", "byteAt", "(I)I"⟩, 40), (⟨"NestsByKnotsModel", "part", "(J)I"⟩, 40), (⟨"NestsByKnotsModel", "isWord", "(J)Z"⟩, 40), (⟨"NestsByKnotsModel", "fail", "()V"⟩, 40), (⟨"NestsByKnotsModel", "either", "()I"⟩, 40), (⟨"NestsByKnotsModel", "both", "()I"⟩, 40), (⟨"NestsByKnotsModel", "not", "()I"⟩, 40), (⟨"NestsByKnotsModel", "opens", "()Z"⟩, 40), (⟨"NestsByKnotsModel", "added", "()I"⟩, 40), (⟨"NestsByKnotsModel", "term", "()I"⟩, 40), (⟨"NestsByKnotsModel", "one", "()I"⟩, 40), (⟨"NestsByKnotsModel", "isSign", "(I)Z"⟩, 40), (⟨"NestsByKnotsModel", "name", "()I"⟩, 40)]
theorem lw_r3 : ∀ q ∈ lw_privs_3, lw_okq q := List.forall_mem_cons.mpr ⟨lw_p32, List.forall_mem_cons.mpr ⟨lw_p33, List.forall_mem_cons.mpr ⟨lw_p34, List.forall_mem_cons.mpr ⟨lw_p35, List.forall_mem_cons.mpr ⟨lw_p36, List.forall_mem_cons.mpr ⟨lw_p37, List.forall_mem_cons.mpr ⟨lw_p38, List.forall_mem_cons.mpr ⟨lw_p39, List.forall_mem_cons.mpr ⟨lw_p40, List.forall_mem_cons.mpr ⟨lw_p41, List.forall_mem_cons.mpr ⟨lw_p42, List.forall_mem_cons.mpr ⟨lw_p43, List.forall_mem_cons.mpr ⟨lw_p44, List.forall_mem_cons.mpr ⟨lw_p45, List.forall_mem_cons.mpr ⟨lw_p46, List.forall_mem_cons.mpr ⟨lw_p47, fun _ h => absurd h List.not_mem_nil⟩⟩⟩⟩⟩⟩⟩⟩⟩⟩⟩⟩⟩⟩⟩⟩
theorem lw_p48 : lw_okq (⟨"NestsByKnotsModel", "fallsOf", "(I)I"⟩, 40) := ⟨⟨by decide +kernel, by decide +kernel⟩, List.mem_of_getElem? (i := 929) (by decide +kernel), List.mem_of_getElem? (i := 1254) (by decide +kernel), List.mem_of_getElem? (i := 1255) (by decide +kernel)⟩
theorem lw_p49 : lw_okq (⟨"NestsByKnotsModel", "leftBy", "(II)I"⟩, 40) := ⟨⟨by decide +kernel, by decide +kernel⟩, List.mem_of_getElem? (i := 929) (by decide +kernel), List.mem_of_getElem? (i := 1263) (by decide +kernel), List.mem_of_getElem? (i := 1264) (by decide +kernel)⟩
theorem lw_p50 : lw_okq (⟨"NestsByKnotsModel", "goodOf", "(I)I"⟩, 40) := ⟨⟨by decide +kernel, by decide +kernel⟩, List.mem_of_getElem? (i := 929) (by decide +kernel), List.mem_of_getElem? (i := 1279) (by decide +kernel), List.mem_of_getElem? (i := 1280) (by decide +kernel)⟩
theorem lw_p51 : lw_okq (⟨"NestsByKnotsModel", "nextOf", "(I)I"⟩, 40) := ⟨⟨by decide +kernel, by decide +kernel⟩, List.mem_of_getElem? (i := 929) (by decide +kernel), List.mem_of_getElem? (i := 1288) (by decide +kernel), List.mem_of_getElem? (i := 1289) (by decide +kernel)⟩
theorem lw_p52 : lw_okq (⟨"NestsByKnotsModel", "leastHold", "()I"⟩, 40) := ⟨⟨by decide +kernel, by decide +kernel⟩, List.mem_of_getElem? (i := 929) (by decide +kernel), List.mem_of_getElem? (i := 1303) (by decide +kernel), List.mem_of_getElem? (i := 1304) (by decide +kernel)⟩
theorem lw_p53 : lw_okq (⟨"NestsByKnotsModel", "isTaken", "()Z"⟩, 40) := ⟨⟨by decide +kernel, by decide +kernel⟩, List.mem_of_getElem? (i := 929) (by decide +kernel), List.mem_of_getElem? (i := 1311) (by decide +kernel), List.mem_of_getElem? (i := 1312) (by decide +kernel)⟩
theorem lw_p54 : lw_okq (⟨"NestsByKnotsModel", "covered", "()I"⟩, 40) := ⟨⟨by decide +kernel, by decide +kernel⟩, List.mem_of_getElem? (i := 929) (by decide +kernel), List.mem_of_getElem? (i := 1315) (by decide +kernel), List.mem_of_getElem? (i := 1316) (by decide +kernel)⟩
theorem lw_p55 : lw_okq (⟨"NestsByKnotsModel", "greens", "()I"⟩, 40) := ⟨⟨by decide +kernel, by decide +kernel⟩, List.mem_of_getElem? (i := 929) (by decide +kernel), List.mem_of_getElem? (i := 1319) (by decide +kernel), List.mem_of_getElem? (i := 1320) (by decide +kernel)⟩
def lw_privs_4 : List (MethodName × Nat) := [(⟨"NestsByKnotsModel", "fallsOf", "(I)I"⟩, 40), (⟨"NestsByKnotsModel", "leftBy", "(II)I"⟩, 40), (⟨"NestsByKnotsModel", "goodOf", "(I)I"⟩, 40), (⟨"NestsByKnotsModel", "nextOf", "(I)I"⟩, 40), (⟨"NestsByKnotsModel", "leastHold", "()I"⟩, 40), (⟨"NestsByKnotsModel", "isTaken", "()Z"⟩, 40), (⟨"NestsByKnotsModel", "covered", "()I"⟩, 40), (⟨"NestsByKnotsModel", "greens", "()I"⟩, 40)]
theorem lw_r4 : ∀ q ∈ lw_privs_4, lw_okq q := List.forall_mem_cons.mpr ⟨lw_p48, List.forall_mem_cons.mpr ⟨lw_p49, List.forall_mem_cons.mpr ⟨lw_p50, List.forall_mem_cons.mpr ⟨lw_p51, List.forall_mem_cons.mpr ⟨lw_p52, List.forall_mem_cons.mpr ⟨lw_p53, List.forall_mem_cons.mpr ⟨lw_p54, List.forall_mem_cons.mpr ⟨lw_p55, fun _ h => absurd h List.not_mem_nil⟩⟩⟩⟩⟩⟩⟩⟩
def lw_privs : List (MethodName × Nat) := lw_privs_1 ++ (lw_privs_2 ++ (lw_privs_3 ++ (lw_privs_4)))
def lw_tbl : List Cond := k2_sels lw_privs ++ tables_1
theorem lw_privs_ok : ∀ q ∈ lw_privs, lw_okq q := by
  show ∀ q ∈ lw_privs_1 ++ (lw_privs_2 ++ (lw_privs_3 ++ (lw_privs_4))), lw_okq q
  exact List.forall_mem_append.mpr ⟨lw_r1, List.forall_mem_append.mpr ⟨lw_r2, List.forall_mem_append.mpr ⟨lw_r3, lw_r4⟩⟩⟩
-- ===== end of PART A; then your names; then what follows =====
/-! ===== BEGIN words of one list among another's, by their places ===== -/
theorem goodIn_r {big : List Cond} (ws : List Cond) (ps : List Nat) (hp : ws = ps.filterMap (fun i => big[i]?)) (h : ws.all goodWord = true) : GoodIn big ws := by
  intro w hw
  have h1 := List.all_eq_true.mp h w hw
  rw [hp] at hw
  obtain ⟨i, -, hi⟩ := List.mem_filterMap.mp hw
  have hm : w ∈ big := by first | exact List.mem_of_getElem? hi | exact List.getElem?_mem hi
  exact ⟨hm, good_of_word h1⟩
theorem goodIn_app {big a b : List Cond} (ha : GoodIn big a) (hb : GoodIn big b) : GoodIn big (a ++ b) := fun w h => (List.mem_append.mp h).elim (ha w) (hb w)
theorem goodIn_ca {big a b : List Cond} {c : Cond} (ha : GoodIn big (c :: a)) (hb : GoodIn big b) : GoodIn big (c :: (a ++ b)) := fun w h => (List.mem_cons.mp h).elim (fun e => ha w (List.mem_cons.mpr (Or.inl e))) (fun h => (List.mem_append.mp h).elim (fun h => ha w (List.mem_cons.mpr (Or.inr h))) (hb w))
theorem goodIn_sub {big ws : List Cond} (hm : ∀ w ∈ ws, w ∈ big) (h : ws.all goodWord = true) : GoodIn big ws := fun w hw => ⟨hm w hw, good_of_word (List.all_eq_true.mp h w hw)⟩
/-! ===== END ===== -/

/-! ===== BEGIN printed: names, fields, word lists, decode rows ===== -/
def RX0 : String := "NestsByKnots$Choice"
def TX0 : u_T := fun k => match k with
  | 0 => ("NestsByKnots$Choice", "where", "I", false)
  | _ => ("NestsByKnots$Choice", "worth", "I", false)
def tyX0 : Nat → FieldType := fun k => match k with
  | 0 => .int
  | _ => .int
abbrev wsX00 : List Cond := u_ws RX0 TX0 2
theorem nmX0 : ∀ a, a < 2 → ∀ b, b < 2 → a ≠ b → (TX0 a).2.1 ≠ (TX0 b).2.1 := by decide +kernel
theorem tyX0_ok : ∀ k, k < 2 → parseFieldDescriptor (TX0 k).2.2.1 = some (tyX0 k) := by decide +kernel
abbrev cX0_init : ByteArray := prog_2_method_1_code
def yX0_init : MethodName := ⟨RX0, "<init>", "()V"⟩
abbrev cX0_clear : ByteArray := prog_2_method_2_code
def yX0_clear : MethodName := ⟨RX0, "clear", "()V"⟩
abbrev cX0_offer : ByteArray := prog_2_method_3_code
def yX0_offer : MethodName := ⟨RX0, "offer", "(II)V"⟩
def RX1 : String := "NestsByKnots$DoubleHitch"
def TX1 : u_T := fun k => match k with
  | _ => ("NestsByKnots$Tuck", "number", "I", true)
def tyX1 : Nat → FieldType := fun k => match k with
  | _ => .int
abbrev wsX10 : List Cond := u_ws RX1 TX1 1
theorem nmX1 : ∀ a, a < 1 → ∀ b, b < 1 → a ≠ b → (TX1 a).2.1 ≠ (TX1 b).2.1 := by decide +kernel
theorem tyX1_ok : ∀ k, k < 1 → parseFieldDescriptor (TX1 k).2.2.1 = some (tyX1 k) := by decide +kernel
abbrev cX1_init : ByteArray := prog_3_method_1_code
def yX1_init : MethodName := ⟨RX1, "<init>", "(I)V"⟩
abbrev cX1_kind : ByteArray := prog_3_method_2_code
def yX1_kind : MethodName := ⟨RX1, "kind", "()I"⟩
abbrev cX1_knot : ByteArray := prog_3_method_3_code
def yX1_knot : MethodName := ⟨RX1, "knot", "(I)I"⟩
abbrev cX1_ties : ByteArray := prog_3_method_4_code
def yX1_ties : MethodName := ⟨RX1, "ties", "()I"⟩
def RX2 : String := "NestsByKnots$Hitch"
def TX2 : u_T := fun k => match k with
  | _ => ("NestsByKnots$Tuck", "number", "I", true)
def tyX2 : Nat → FieldType := fun k => match k with
  | _ => .int
abbrev wsX20 : List Cond := u_ws RX2 TX2 1
theorem nmX2 : ∀ a, a < 1 → ∀ b, b < 1 → a ≠ b → (TX2 a).2.1 ≠ (TX2 b).2.1 := by decide +kernel
theorem tyX2_ok : ∀ k, k < 1 → parseFieldDescriptor (TX2 k).2.2.1 = some (tyX2 k) := by decide +kernel
abbrev cX2_init : ByteArray := prog_4_method_1_code
def yX2_init : MethodName := ⟨RX2, "<init>", "(I)V"⟩
abbrev cX2_kind : ByteArray := prog_4_method_2_code
def yX2_kind : MethodName := ⟨RX2, "kind", "()I"⟩
abbrev cX2_knot : ByteArray := prog_4_method_3_code
def yX2_knot : MethodName := ⟨RX2, "knot", "(I)I"⟩
def RX3 : String := "NestsByKnots$Loop"
def TX3 : u_T := fun k => match k with
  | _ => ("NestsByKnots$Tuck", "number", "I", true)
def tyX3 : Nat → FieldType := fun k => match k with
  | _ => .int
abbrev wsX30 : List Cond := u_ws RX3 TX3 1
theorem nmX3 : ∀ a, a < 1 → ∀ b, b < 1 → a ≠ b → (TX3 a).2.1 ≠ (TX3 b).2.1 := by decide +kernel
theorem tyX3_ok : ∀ k, k < 1 → parseFieldDescriptor (TX3 k).2.2.1 = some (tyX3 k) := by decide +kernel
abbrev cX3_init : ByteArray := prog_5_method_1_code
def yX3_init : MethodName := ⟨RX3, "<init>", "(I)V"⟩
abbrev cX3_kind : ByteArray := prog_5_method_2_code
def yX3_kind : MethodName := ⟨RX3, "kind", "()I"⟩
abbrev cX3_knot : ByteArray := prog_5_method_3_code
def yX3_knot : MethodName := ⟨RX3, "knot", "(I)I"⟩
abbrev cX3_ties : ByteArray := prog_5_method_4_code
def yX3_ties : MethodName := ⟨RX3, "ties", "()I"⟩
def RX4 : String := "NestsByKnots$Net"
def TX4 : u_T := fun k => match k with
  | 0 => ("NestsByKnots$Net", "knots", "[LNestsByKnots$Tuck;", true)
  | 1 => ("NestsByKnots$Net", "wheres", "[I", true)
  | 2 => ("NestsByKnots$Net", "laidAt", "[I", true)
  | 3 => ("NestsByKnots$Net", "lying", "[I", true)
  | 4 => ("NestsByKnots$Net", "all", "I", false)
  | 5 => ("NestsByKnots$Net", "hour", "I", false)
  | 6 => ("NestsByKnots$Net", "greenBelow", "I", false)
  | 7 => ("NestsByKnots$Net", "rule", "LNestsByKnots$Text;", false)
  | 8 => ("NestsByKnots$Net", "names", "[I", true)
  | 9 => ("NestsByKnots$Net", "stack", "[I", true)
  | _ => ("NestsByKnots$Net", "choice", "LNestsByKnots$Choice;", true)
def tyX4 : Nat → FieldType := fun k => match k with
  | 0 => .array (.object "NestsByKnots$Tuck")
  | 1 => .array .int
  | 2 => .array .int
  | 3 => .array .int
  | 4 => .int
  | 5 => .int
  | 6 => .int
  | 7 => .object "NestsByKnots$Text"
  | 8 => .array .int
  | 9 => .array .int
  | _ => .object "NestsByKnots$Choice"
abbrev wsX40 : List Cond := u_ws RX4 TX4 11
theorem nmX4 : ∀ a, a < 11 → ∀ b, b < 11 → a ≠ b → (TX4 a).2.1 ≠ (TX4 b).2.1 := by decide +kernel
theorem tyX4_ok : ∀ k, k < 11 → parseFieldDescriptor (TX4 k).2.2.1 = some (tyX4 k) := by decide +kernel
abbrev cX4_init : ByteArray := prog_6_method_1_code
def yX4_init : MethodName := ⟨RX4, "<init>", "(LNestsByKnots$Text;)V"⟩
abbrev cX4_has : ByteArray := prog_6_method_2_code
def yX4_has : MethodName := ⟨RX4, "has", "(I)Z"⟩
abbrev cX4_size : ByteArray := prog_6_method_3_code
def yX4_size : MethodName := ⟨RX4, "size", "()I"⟩
abbrev cX4_leastFree : ByteArray := prog_6_method_4_code
def yX4_leastFree : MethodName := ⟨RX4, "leastFree", "()I"⟩
abbrev cX4_put : ByteArray := prog_6_method_5_code
def yX4_put : MethodName := ⟨RX4, "put", "(ILNestsByKnots$Tuck;I)V"⟩
abbrev cX4_drop : ByteArray := prog_6_method_6_code
def yX4_drop : MethodName := ⟨RX4, "drop", "(I)V"⟩
abbrev cX4_lose : ByteArray := prog_6_method_7_code
def yX4_lose : MethodName := ⟨RX4, "lose", "(I)I"⟩
abbrev cX4_becomes : ByteArray := prog_6_method_8_code
def yX4_becomes : MethodName := ⟨RX4, "becomes", "(LNestsByKnots$Net;)V"⟩
abbrev cX4_ageOf : ByteArray := prog_6_method_9_code
def yX4_ageOf : MethodName := ⟨RX4, "ageOf", "(II)I"⟩
abbrev cX4_isGreen : ByteArray := prog_6_method_10_code
def yX4_isGreen : MethodName := ⟨RX4, "isGreen", "(II)Z"⟩
abbrev cX4_greenBits : ByteArray := prog_6_method_11_code
def yX4_greenBits : MethodName := ⟨RX4, "greenBits", "(I)I"⟩
abbrev cX4_slipping : ByteArray := prog_6_method_12_code
def yX4_slipping : MethodName := ⟨RX4, "slipping", "()I"⟩
abbrev cX4_crosses : ByteArray := prog_6_method_13_code
def yX4_crosses : MethodName := ⟨RX4, "crosses", "(II)I"⟩
abbrev cX4_rubs : ByteArray := prog_6_method_14_code
def yX4_rubs : MethodName := ⟨RX4, "rubs", "(II)I"⟩
abbrev cX4_met : ByteArray := prog_6_method_15_code
def yX4_met : MethodName := ⟨RX4, "met", "(III)I"⟩
abbrev cX4_hold : ByteArray := prog_6_method_16_code
def yX4_hold : MethodName := ⟨RX4, "hold", "(III)I"⟩
abbrev cX4_nameStrip : ByteArray := prog_6_method_17_code
def yX4_nameStrip : MethodName := ⟨RX4, "nameStrip", "(IIII)V"⟩
abbrev cX4_name : ByteArray := prog_6_method_18_code
def yX4_name : MethodName := ⟨RX4, "name", "(IIIIII)V"⟩
abbrev cX4_leastHold : ByteArray := prog_6_method_19_code
def yX4_leastHold : MethodName := ⟨RX4, "leastHold", "(I)I"⟩
abbrev cX4_hanging : ByteArray := prog_6_method_20_code
def yX4_hanging : MethodName := ⟨RX4, "hanging", "(I)I"⟩
abbrev cX4_falling : ByteArray := prog_6_method_21_code
def yX4_falling : MethodName := ⟨RX4, "falling", "(I)I"⟩
abbrev cX4_withFallen : ByteArray := prog_6_method_22_code
def yX4_withFallen : MethodName := ⟨RX4, "withFallen", "(I)I"⟩
abbrev cX4_takenByPull : ByteArray := prog_6_method_23_code
def yX4_takenByPull : MethodName := ⟨RX4, "takenByPull", "(II)I"⟩
abbrev cX4_looseAt : ByteArray := prog_6_method_24_code
def yX4_looseAt : MethodName := ⟨RX4, "looseAt", "(III)I"⟩
abbrev cX4_leastPull : ByteArray := prog_6_method_25_code
def yX4_leastPull : MethodName := ⟨RX4, "leastPull", "(I)I"⟩
abbrev cX4_weakestAt : ByteArray := prog_6_method_26_code
def yX4_weakestAt : MethodName := ⟨RX4, "weakestAt", "(II)I"⟩
abbrev cX4_worthNext : ByteArray := prog_6_method_27_code
def yX4_worthNext : MethodName := ⟨RX4, "worthNext", "(I)I"⟩
abbrev cX4_nextOf : ByteArray := prog_6_method_28_code
def yX4_nextOf : MethodName := ⟨RX4, "nextOf", "(I)LNestsByKnots$Choice;"⟩
abbrev cX4_bestOf : ByteArray := prog_6_method_29_code
def yX4_bestOf : MethodName := ⟨RX4, "bestOf", "(ILNestsByKnots$Tuck;I)LNestsByKnots$Choice;"⟩
abbrev cX4_closingOf : ByteArray := prog_6_method_30_code
def yX4_closingOf : MethodName := ⟨RX4, "closingOf", "(II)LNestsByKnots$Choice;"⟩
abbrev cX4_crossingsOf : ByteArray := prog_6_method_31_code
def yX4_crossingsOf : MethodName := ⟨RX4, "crossingsOf", "(I)I"⟩
abbrev cX4_covered : ByteArray := prog_6_method_32_code
def yX4_covered : MethodName := ⟨RX4, "covered", "()I"⟩
abbrev cX4_holeBits : ByteArray := prog_6_method_33_code
def yX4_holeBits : MethodName := ⟨RX4, "holeBits", "()I"⟩
abbrev cX4_isEnclosed : ByteArray := prog_6_method_34_code
def yX4_isEnclosed : MethodName := ⟨RX4, "isEnclosed", "(II)Z"⟩
abbrev cX4_isTaken : ByteArray := prog_6_method_35_code
def yX4_isTaken : MethodName := ⟨RX4, "isTaken", "(I)Z"⟩
def RX5 : String := "NestsByKnots$Play"
def TX5 : u_T := fun k => match k with
  | _ => ("NestsByKnots$Tuck", "number", "I", true)
def tyX5 : Nat → FieldType := fun k => match k with
  | _ => .int
abbrev wsX50 : List Cond := u_ws RX5 TX5 1
theorem nmX5 : ∀ a, a < 1 → ∀ b, b < 1 → a ≠ b → (TX5 a).2.1 ≠ (TX5 b).2.1 := by decide +kernel
theorem tyX5_ok : ∀ k, k < 1 → parseFieldDescriptor (TX5 k).2.2.1 = some (tyX5 k) := by decide +kernel
abbrev cX5_init : ByteArray := prog_7_method_1_code
def yX5_init : MethodName := ⟨RX5, "<init>", "(I)V"⟩
abbrev cX5_kind : ByteArray := prog_7_method_2_code
def yX5_kind : MethodName := ⟨RX5, "kind", "()I"⟩
abbrev cX5_knot : ByteArray := prog_7_method_3_code
def yX5_knot : MethodName := ⟨RX5, "knot", "(I)I"⟩
abbrev cX5_slips : ByteArray := prog_7_method_4_code
def yX5_slips : MethodName := ⟨RX5, "slips", "(I)Z"⟩
def RX6 : String := "NestsByKnots$Reader"
def TX6 : u_T := fun k => match k with
  | 0 => ("NestsByKnots$Reader", "size", "I", false)
  | 1 => ("NestsByKnots$Reader", "tape", "[B", true)
  | 2 => ("NestsByKnots$Reader", "place", "I", false)
  | 3 => ("NestsByKnots$Reader", "start", "I", false)
  | 4 => ("NestsByKnots$Reader", "token", "I", false)
  | 5 => ("NestsByKnots$Reader", "value", "I", false)
  | 6 => ("NestsByKnots$Reader", "fault", "I", false)
  | 7 => ("NestsByKnots$Reader", "code", "[I", true)
  | 8 => ("NestsByKnots$Reader", "length", "I", false)
  | _ => ("NestsByKnots$Reader", "ends", "[I", true)
def tyX6 : Nat → FieldType := fun k => match k with
  | 0 => .int
  | 1 => .array .byte
  | 2 => .int
  | 3 => .int
  | 4 => .int
  | 5 => .int
  | 6 => .int
  | 7 => .array .int
  | 8 => .int
  | _ => .array .int
abbrev wsX60 : List Cond := u_ws RX6 TX6 10
theorem nmX6 : ∀ a, a < 10 → ∀ b, b < 10 → a ≠ b → (TX6 a).2.1 ≠ (TX6 b).2.1 := by decide +kernel
theorem tyX6_ok : ∀ k, k < 10 → parseFieldDescriptor (TX6 k).2.2.1 = some (tyX6 k) := by decide +kernel
abbrev cX6_init : ByteArray := prog_8_method_1_code
def yX6_init : MethodName := ⟨RX6, "<init>", "()V"⟩
abbrev cX6_append : ByteArray := prog_8_method_2_code
def yX6_append : MethodName := ⟨RX6, "append", "(B)V"⟩
abbrev cX6_readTape : ByteArray := prog_8_method_3_code
def yX6_readTape : MethodName := ⟨RX6, "readTape", "()I"⟩
abbrev cX6_made : ByteArray := prog_8_method_4_code
def yX6_made : MethodName := ⟨RX6, "made", "(I)LNestsByKnots$Text;"⟩
abbrev cX6_part : ByteArray := prog_8_method_5_code
def yX6_part : MethodName := ⟨RX6, "part", "(II)V"⟩
abbrev cX6_expect : ByteArray := prog_8_method_6_code
def yX6_expect : MethodName := ⟨RX6, "expect", "(I)V"⟩
abbrev cX6_refuse : ByteArray := prog_8_method_7_code
def yX6_refuse : MethodName := ⟨RX6, "refuse", "()V"⟩
abbrev cX6_emit : ByteArray := prog_8_method_8_code
def yX6_emit : MethodName := ⟨RX6, "emit", "(I)V"⟩
abbrev cX6_either : ByteArray := prog_8_method_9_code
def yX6_either : MethodName := ⟨RX6, "either", "(I)V"⟩
abbrev cX6_both : ByteArray := prog_8_method_10_code
def yX6_both : MethodName := ⟨RX6, "both", "(I)V"⟩
abbrev cX6_denied : ByteArray := prog_8_method_11_code
def yX6_denied : MethodName := ⟨RX6, "denied", "(I)V"⟩
abbrev cX6_sum : ByteArray := prog_8_method_12_code
def yX6_sum : MethodName := ⟨RX6, "sum", "(I)V"⟩
abbrev cX6_term : ByteArray := prog_8_method_13_code
def yX6_term : MethodName := ⟨RX6, "term", "(I)V"⟩
abbrev cX6_one : ByteArray := prog_8_method_14_code
def yX6_one : MethodName := ⟨RX6, "one", "(I)V"⟩
abbrev cX6_advance : ByteArray := prog_8_method_15_code
def yX6_advance : MethodName := ⟨RX6, "advance", "()V"⟩
abbrev cX6_digits : ByteArray := prog_8_method_16_code
def yX6_digits : MethodName := ⟨RX6, "digits", "()V"⟩
abbrev cX6_word : ByteArray := prog_8_method_17_code
def yX6_word : MethodName := ⟨RX6, "word", "()V"⟩
abbrev cX6_nameHere : ByteArray := prog_8_method_18_code
def yX6_nameHere : MethodName := ⟨RX6, "nameHere", "()I"⟩
abbrev cX6_keyHere : ByteArray := prog_8_method_19_code
def yX6_keyHere : MethodName := ⟨RX6, "keyHere", "()I"⟩
abbrev cX6_spells : ByteArray := prog_8_method_20_code
def yX6_spells : MethodName := ⟨RX6, "spells", "(Ljava/lang/String;)Z"⟩
abbrev cX6_isSign : ByteArray := prog_8_method_21_code
def yX6_isSign : MethodName := ⟨RX6, "isSign", "(I)Z"⟩
abbrev cX6_isLetter : ByteArray := prog_8_method_22_code
def yX6_isLetter : MethodName := ⟨RX6, "isLetter", "(I)Z"⟩
abbrev cX6_isDigit : ByteArray := prog_8_method_23_code
def yX6_isDigit : MethodName := ⟨RX6, "isDigit", "(I)Z"⟩
def RX7 : String := "NestsByKnots$Sheet"
def TX7 : u_T := fun k => match k with
  | 0 => ("NestsByKnots$Sheet", "sort", "I", false)
  | 1 => ("NestsByKnots$Sheet", "size", "I", false)
  | _ => ("NestsByKnots$Sheet", "items", "[I", true)
def tyX7 : Nat → FieldType := fun k => match k with
  | 0 => .int
  | 1 => .int
  | _ => .array .int
abbrev wsX70 : List Cond := u_ws RX7 TX7 3
theorem nmX7 : ∀ a, a < 3 → ∀ b, b < 3 → a ≠ b → (TX7 a).2.1 ≠ (TX7 b).2.1 := by decide +kernel
theorem tyX7_ok : ∀ k, k < 3 → parseFieldDescriptor (TX7 k).2.2.1 = some (tyX7 k) := by decide +kernel
abbrev cX7_init : ByteArray := prog_9_method_1_code
def yX7_init : MethodName := ⟨RX7, "<init>", "()V"⟩
abbrev cX7_becomes : ByteArray := prog_9_method_2_code
def yX7_becomes : MethodName := ⟨RX7, "becomes", "(II)V"⟩
abbrev cX7_write : ByteArray := prog_9_method_3_code
def yX7_write : MethodName := ⟨RX7, "write", "(II)V"⟩
abbrev cX7_holds : ByteArray := prog_9_method_4_code
def yX7_holds : MethodName := ⟨RX7, "holds", "(II)Z"⟩
def RX8 : String := "NestsByKnots$Slip"
def TX8 : u_T := fun k => match k with
  | _ => ("NestsByKnots$Tuck", "number", "I", true)
def tyX8 : Nat → FieldType := fun k => match k with
  | _ => .int
abbrev wsX80 : List Cond := u_ws RX8 TX8 1
theorem nmX8 : ∀ a, a < 1 → ∀ b, b < 1 → a ≠ b → (TX8 a).2.1 ≠ (TX8 b).2.1 := by decide +kernel
theorem tyX8_ok : ∀ k, k < 1 → parseFieldDescriptor (TX8 k).2.2.1 = some (tyX8 k) := by decide +kernel
abbrev cX8_init : ByteArray := prog_10_method_1_code
def yX8_init : MethodName := ⟨RX8, "<init>", "(I)V"⟩
abbrev cX8_kind : ByteArray := prog_10_method_2_code
def yX8_kind : MethodName := ⟨RX8, "kind", "()I"⟩
abbrev cX8_knot : ByteArray := prog_10_method_3_code
def yX8_knot : MethodName := ⟨RX8, "knot", "(I)I"⟩
abbrev cX8_slips : ByteArray := prog_10_method_4_code
def yX8_slips : MethodName := ⟨RX8, "slips", "(I)Z"⟩
def RX9 : String := "NestsByKnots$Text"
def TX9 : u_T := fun k => match k with
  | 0 => ("NestsByKnots$Text", "number", "I", true)
  | 1 => ("NestsByKnots$Text", "code", "[I", true)
  | _ => ("NestsByKnots$Text", "ends", "[I", true)
def tyX9 : Nat → FieldType := fun k => match k with
  | 0 => .int
  | 1 => .array .int
  | _ => .array .int
abbrev wsX90 : List Cond := u_ws RX9 TX9 3
theorem nmX9 : ∀ a, a < 3 → ∀ b, b < 3 → a ≠ b → (TX9 a).2.1 ≠ (TX9 b).2.1 := by decide +kernel
theorem tyX9_ok : ∀ k, k < 3 → parseFieldDescriptor (TX9 k).2.2.1 = some (tyX9 k) := by decide +kernel
abbrev cX9_init : ByteArray := prog_11_method_1_code
def yX9_init : MethodName := ⟨RX9, "<init>", "(I[I[I)V"⟩
abbrev cX9_worth : ByteArray := prog_11_method_2_code
def yX9_worth : MethodName := ⟨RX9, "worth", "(I[I[I)I"⟩
abbrev cX9_ofOne : ByteArray := prog_11_method_3_code
def yX9_ofOne : MethodName := ⟨RX9, "ofOne", "(II)I"⟩
abbrev cX9_ofTwo : ByteArray := prog_11_method_4_code
def yX9_ofTwo : MethodName := ⟨RX9, "ofTwo", "(III)I"⟩
abbrev cX9_bit : ByteArray := prog_11_method_5_code
def yX9_bit : MethodName := ⟨RX9, "bit", "(Z)I"⟩
def RX10 : String := "NestsByKnots$Tuck"
def TX10 : u_T := fun k => match k with
  | _ => ("NestsByKnots$Tuck", "number", "I", true)
def tyX10 : Nat → FieldType := fun k => match k with
  | _ => .int
abbrev wsX100 : List Cond := u_ws RX10 TX10 1
theorem nmX10 : ∀ a, a < 1 → ∀ b, b < 1 → a ≠ b → (TX10 a).2.1 ≠ (TX10 b).2.1 := by decide +kernel
theorem tyX10_ok : ∀ k, k < 1 → parseFieldDescriptor (TX10 k).2.2.1 = some (tyX10 k) := by decide +kernel
abbrev cX10_init : ByteArray := prog_12_method_1_code
def yX10_init : MethodName := ⟨RX10, "<init>", "(I)V"⟩
abbrev cX10_kind : ByteArray := prog_12_method_2_code
def yX10_kind : MethodName := ⟨RX10, "kind", "()I"⟩
abbrev cX10_knot : ByteArray := prog_12_method_3_code
def yX10_knot : MethodName := ⟨RX10, "knot", "(I)I"⟩
abbrev cX10_slips : ByteArray := prog_12_method_4_code
def yX10_slips : MethodName := ⟨RX10, "slips", "(I)Z"⟩
abbrev cX10_ties : ByteArray := prog_12_method_5_code
def yX10_ties : MethodName := ⟨RX10, "ties", "()I"⟩
def RX11 : String := "NestsByKnots"
def TX11 : u_T := fun k => match k with
  | 0 => ("NestsByKnots", "reader", "LNestsByKnots$Reader;", true)
  | 1 => ("NestsByKnots", "texts", "[LNestsByKnots$Text;", true)
  | 2 => ("NestsByKnots", "textsMade", "I", false)
  | 3 => ("NestsByKnots", "net", "LNestsByKnots$Net;", true)
  | 4 => ("NestsByKnots", "kept", "LNestsByKnots$Net;", true)
  | 5 => ("NestsByKnots", "keeps", "Z", false)
  | _ => ("NestsByKnots", "sheets", "[LNestsByKnots$Sheet;", true)
def tyX11 : Nat → FieldType := fun k => match k with
  | 0 => .object "NestsByKnots$Reader"
  | 1 => .array (.object "NestsByKnots$Text")
  | 2 => .int
  | 3 => .object "NestsByKnots$Net"
  | 4 => .object "NestsByKnots$Net"
  | 5 => .boolean
  | _ => .array (.object "NestsByKnots$Sheet")
abbrev wsX110 : List Cond := u_ws RX11 TX11 7
theorem nmX11 : ∀ a, a < 7 → ∀ b, b < 7 → a ≠ b → (TX11 a).2.1 ≠ (TX11 b).2.1 := by decide +kernel
theorem tyX11_ok : ∀ k, k < 7 → parseFieldDescriptor (TX11 k).2.2.1 = some (tyX11 k) := by decide +kernel
abbrev cX11_init : ByteArray := prog_1_method_1_code
def yX11_init : MethodName := ⟨RX11, "<init>", "()V"⟩
abbrev cX11_lay : ByteArray := prog_1_method_2_code
def yX11_lay : MethodName := ⟨RX11, "lay", "(III)I"⟩
abbrev cX11_out : ByteArray := prog_1_method_3_code
def yX11_out : MethodName := ⟨RX11, "out", "(I)I"⟩
abbrev cX11_hours : ByteArray := prog_1_method_4_code
def yX11_hours : MethodName := ⟨RX11, "hours", "(I)I"⟩
abbrev cX11_green : ByteArray := prog_1_method_5_code
def yX11_green : MethodName := ⟨RX11, "green", "(I)I"⟩
abbrev cX11_told : ByteArray := prog_1_method_6_code
def yX11_told : MethodName := ⟨RX11, "told", "(II)I"⟩
abbrev cX11_at : ByteArray := prog_1_method_7_code
def yX11_at : MethodName := ⟨RX11, "at", "(I)I"⟩
abbrev cX11_feed : ByteArray := prog_1_method_8_code
def yX11_feed : MethodName := ⟨RX11, "feed", "(IJ)I"⟩
abbrev cX11_text : ByteArray := prog_1_method_9_code
def yX11_text : MethodName := ⟨RX11, "text", "()I"⟩
abbrev cX11_force : ByteArray := prog_1_method_10_code
def yX11_force : MethodName := ⟨RX11, "force", "(I)I"⟩
abbrev cX11_pull : ByteArray := prog_1_method_11_code
def yX11_pull : MethodName := ⟨RX11, "pull", "(III)I"⟩
abbrev cX11_pulled : ByteArray := prog_1_method_12_code
def yX11_pulled : MethodName := ⟨RX11, "pulled", "(II)I"⟩
abbrev cX11_falls : ByteArray := prog_1_method_13_code
def yX11_falls : MethodName := ⟨RX11, "falls", "()I"⟩
abbrev cX11_least : ByteArray := prog_1_method_14_code
def yX11_least : MethodName := ⟨RX11, "least", "(II)I"⟩
abbrev cX11_good : ByteArray := prog_1_method_15_code
def yX11_good : MethodName := ⟨RX11, "good", "(I)J"⟩
abbrev cX11_next : ByteArray := prog_1_method_16_code
def yX11_next : MethodName := ⟨RX11, "next", "(I)I"⟩
abbrev cX11_build : ByteArray := prog_1_method_17_code
def yX11_build : MethodName := ⟨RX11, "build", "(II)I"⟩
abbrev cX11_best : ByteArray := prog_1_method_18_code
def yX11_best : MethodName := ⟨RX11, "best", "(IIII)I"⟩
abbrev cX11_takes : ByteArray := prog_1_method_19_code
def yX11_takes : MethodName := ⟨RX11, "takes", "()I"⟩
abbrev cX11_when : ByteArray := prog_1_method_20_code
def yX11_when : MethodName := ⟨RX11, "when", "()I"⟩
abbrev cX11_spare : ByteArray := prog_1_method_21_code
def yX11_spare : MethodName := ⟨RX11, "spare", "()I"⟩
abbrev cX11_brown : ByteArray := prog_1_method_22_code
def yX11_brown : MethodName := ⟨RX11, "brown", "(I)I"⟩
abbrev cX11_holes : ByteArray := prog_1_method_23_code
def yX11_holes : MethodName := ⟨RX11, "holes", "()I"⟩
abbrev cX11_closes : ByteArray := prog_1_method_24_code
def yX11_closes : MethodName := ⟨RX11, "closes", "(II)I"⟩
abbrev cX11_slipped : ByteArray := prog_1_method_25_code
def yX11_slipped : MethodName := ⟨RX11, "slipped", "()I"⟩
abbrev cX11_image : ByteArray := prog_1_method_26_code
def yX11_image : MethodName := ⟨RX11, "image", "()I"⟩
abbrev cX11_back : ByteArray := prog_1_method_27_code
def yX11_back : MethodName := ⟨RX11, "back", "()I"⟩
abbrev cX11_count : ByteArray := prog_1_method_28_code
def yX11_count : MethodName := ⟨RX11, "count", "(I)I"⟩
abbrev cX11_sheet : ByteArray := prog_1_method_29_code
def yX11_sheet : MethodName := ⟨RX11, "sheet", "(III)I"⟩
abbrev cX11_cell : ByteArray := prog_1_method_30_code
def yX11_cell : MethodName := ⟨RX11, "cell", "(III)I"⟩
abbrev cX11_copy : ByteArray := prog_1_method_31_code
def yX11_copy : MethodName := ⟨RX11, "copy", "(IIIII)I"⟩
abbrev cX11_strips : ByteArray := prog_1_method_32_code
def yX11_strips : MethodName := ⟨RX11, "strips", "(IIII)I"⟩
abbrev cX11_taken : ByteArray := prog_1_method_33_code
def yX11_taken : MethodName := ⟨RX11, "taken", "(II)I"⟩
abbrev cX11_isCrossing : ByteArray := prog_1_method_34_code
def yX11_isCrossing : MethodName := ⟨RX11, "isCrossing", "(I)Z"⟩
abbrev cX11_isLong : ByteArray := prog_1_method_35_code
def yX11_isLong : MethodName := ⟨RX11, "isLong", "(I)Z"⟩
abbrev cX11_isKnot : ByteArray := prog_1_method_36_code
def yX11_isKnot : MethodName := ⟨RX11, "isKnot", "(II)Z"⟩
abbrev cX11_canBeLaid : ByteArray := prog_1_method_37_code
def yX11_canBeLaid : MethodName := ⟨RX11, "canBeLaid", "(III)Z"⟩
abbrev cX11_isPull : ByteArray := prog_1_method_38_code
def yX11_isPull : MethodName := ⟨RX11, "isPull", "(II)Z"⟩
abbrev cX11_isSheet : ByteArray := prog_1_method_39_code
def yX11_isSheet : MethodName := ⟨RX11, "isSheet", "(I)Z"⟩
abbrev cX11_isSort : ByteArray := prog_1_method_40_code
def yX11_isSort : MethodName := ⟨RX11, "isSort", "(I)Z"⟩
abbrev cX11_firstOf : ByteArray := prog_1_method_41_code
def yX11_firstOf : MethodName := ⟨RX11, "firstOf", "(I)I"⟩
abbrev cX11_wayOf : ByteArray := prog_1_method_42_code
def yX11_wayOf : MethodName := ⟨RX11, "wayOf", "(I)I"⟩
abbrev cX11_longOf : ByteArray := prog_1_method_43_code
def yX11_longOf : MethodName := ⟨RX11, "longOf", "(I)I"⟩
abbrev cX11_stepOf : ByteArray := prog_1_method_44_code
def yX11_stepOf : MethodName := ⟨RX11, "stepOf", "(I)I"⟩
abbrev cX11_fits : ByteArray := prog_1_method_45_code
def yX11_fits : MethodName := ⟨RX11, "fits", "(I)Z"⟩
abbrev cX11_placeOf : ByteArray := prog_1_method_46_code
def yX11_placeOf : MethodName := ⟨RX11, "placeOf", "(II)I"⟩
abbrev cX11_knotOf : ByteArray := prog_1_method_47_code
def yX11_knotOf : MethodName := ⟨RX11, "knotOf", "(II)LNestsByKnots$Tuck;"⟩
abbrev cX11_isUnder : ByteArray := prog_1_method_48_code
def yX11_isUnder : MethodName := ⟨RX11, "isUnder", "(LNestsByKnots$Tuck;I)Z"⟩
def RX12 : String := "NestsByKnotsModel"
def TX12 : u_T := fun k => match k with
  | 0 => ("NestsByKnotsModel", "thrown", "I", false)
  | 1 => ("NestsByKnotsModel", "texts", "[I", true)
  | 2 => ("NestsByKnotsModel", "textSize", "[I", true)
  | 3 => ("NestsByKnotsModel", "textCount", "I", false)
  | 4 => ("NestsByKnotsModel", "rule", "I", false)
  | 5 => ("NestsByKnotsModel", "tape", "[I", true)
  | 6 => ("NestsByKnotsModel", "taped", "I", false)
  | 7 => ("NestsByKnotsModel", "kind", "[I", true)
  | 8 => ("NestsByKnotsModel", "place", "[I", true)
  | 9 => ("NestsByKnotsModel", "number", "[I", true)
  | 10 => ("NestsByKnotsModel", "laid", "[I", true)
  | 11 => ("NestsByKnotsModel", "covers", "[I", true)
  | 12 => ("NestsByKnotsModel", "there", "I", false)
  | 13 => ("NestsByKnotsModel", "hour", "I", false)
  | 14 => ("NestsByKnotsModel", "greenFor", "I", false)
  | 15 => ("NestsByKnotsModel", "from", "I", false)
  | 16 => ("NestsByKnotsModel", "size", "I", false)
  | 17 => ("NestsByKnotsModel", "token", "I", false)
  | 18 => ("NestsByKnotsModel", "tokenAt", "I", false)
  | 19 => ("NestsByKnotsModel", "tokenWorth", "J", false)
  | 20 => ("NestsByKnotsModel", "here", "I", false)
  | 21 => ("NestsByKnotsModel", "open", "I", false)
  | 22 => ("NestsByKnotsModel", "bad", "Z", false)
  | 23 => ("NestsByKnotsModel", "fault", "I", false)
  | 24 => ("NestsByKnotsModel", "aboutX", "I", false)
  | 25 => ("NestsByKnotsModel", "aboutY", "I", false)
  | 26 => ("NestsByKnotsModel", "aboutCross", "I", false)
  | 27 => ("NestsByKnotsModel", "aboutLong", "I", false)
  | 28 => ("NestsByKnotsModel", "aboutAge", "I", false)
  | 29 => ("NestsByKnotsModel", "aboutStrips", "I", false)
  | 30 => ("NestsByKnotsModel", "imageStrips", "[I", true)
  | 31 => ("NestsByKnotsModel", "hasImage", "Z", false)
  | 32 => ("NestsByKnotsModel", "imageThere", "I", false)
  | 33 => ("NestsByKnotsModel", "imageHour", "I", false)
  | 34 => ("NestsByKnotsModel", "imageGreen", "I", false)
  | 35 => ("NestsByKnotsModel", "imageRule", "I", false)
  | 36 => ("NestsByKnotsModel", "isThere", "[Z", true)
  | 37 => ("NestsByKnotsModel", "sorts", "[I", true)
  | 38 => ("NestsByKnotsModel", "sheetSize", "[I", true)
  | _ => ("NestsByKnotsModel", "items", "[I", true)
def tyX12 : Nat → FieldType := fun k => match k with
  | 0 => .int
  | 1 => .array .int
  | 2 => .array .int
  | 3 => .int
  | 4 => .int
  | 5 => .array .int
  | 6 => .int
  | 7 => .array .int
  | 8 => .array .int
  | 9 => .array .int
  | 10 => .array .int
  | 11 => .array .int
  | 12 => .int
  | 13 => .int
  | 14 => .int
  | 15 => .int
  | 16 => .int
  | 17 => .int
  | 18 => .int
  | 19 => .long
  | 20 => .int
  | 21 => .int
  | 22 => .boolean
  | 23 => .int
  | 24 => .int
  | 25 => .int
  | 26 => .int
  | 27 => .int
  | 28 => .int
  | 29 => .int
  | 30 => .array .int
  | 31 => .boolean
  | 32 => .int
  | 33 => .int
  | 34 => .int
  | 35 => .int
  | 36 => .array .boolean
  | 37 => .array .int
  | 38 => .array .int
  | _ => .array .int
abbrev wsX120 : List Cond := u_ws RX12 TX12 40
theorem nmX12 : ∀ a, a < 40 → ∀ b, b < 40 → a ≠ b → (TX12 a).2.1 ≠ (TX12 b).2.1 := by decide +kernel
theorem tyX12_ok : ∀ k, k < 40 → parseFieldDescriptor (TX12 k).2.2.1 = some (tyX12 k) := by decide +kernel
abbrev cX12_in : ByteArray := prog_14_method_2_code
def yX12_in : MethodName := ⟨RX12, "in", "(JJJ)Z"⟩
abbrev cX12_init : ByteArray := prog_14_method_3_code
def yX12_init : MethodName := ⟨RX12, "<init>", "()V"⟩
abbrev cX12_spell : ByteArray := prog_14_method_4_code
def yX12_spell : MethodName := ⟨RX12, "spell", "(IJ)V"⟩
abbrev cX12_bitsOf : ByteArray := prog_14_method_5_code
def yX12_bitsOf : MethodName := ⟨RX12, "bitsOf", "(I)I"⟩
abbrev cX12_isWhere : ByteArray := prog_14_method_6_code
def yX12_isWhere : MethodName := ⟨RX12, "isWhere", "(I)Z"⟩
abbrev cX12_coversOf : ByteArray := prog_14_method_7_code
def yX12_coversOf : MethodName := ⟨RX12, "coversOf", "(I)I"⟩
abbrev cX12_isStrip : ByteArray := prog_14_method_8_code
def yX12_isStrip : MethodName := ⟨RX12, "isStrip", "(I)Z"⟩
abbrev cX12_isCrossing : ByteArray := prog_14_method_9_code
def yX12_isCrossing : MethodName := ⟨RX12, "isCrossing", "(I)Z"⟩
abbrev cX12_free : ByteArray := prog_14_method_10_code
def yX12_free : MethodName := ⟨RX12, "free", "()I"⟩
abbrev cX12_lays : ByteArray := prog_14_method_11_code
def yX12_lays : MethodName := ⟨RX12, "lays", "(IIII)V"⟩
abbrev cX12_lay : ByteArray := prog_14_method_12_code
def yX12_lay : MethodName := ⟨RX12, "lay", "(III)I"⟩
abbrev cX12_out : ByteArray := prog_14_method_13_code
def yX12_out : MethodName := ⟨RX12, "out", "(I)I"⟩
abbrev cX12_hours : ByteArray := prog_14_method_14_code
def yX12_hours : MethodName := ⟨RX12, "hours", "(I)I"⟩
abbrev cX12_green : ByteArray := prog_14_method_15_code
def yX12_green : MethodName := ⟨RX12, "green", "(I)I"⟩
abbrev cX12_ageOf : ByteArray := prog_14_method_16_code
def yX12_ageOf : MethodName := ⟨RX12, "ageOf", "(I)I"⟩
abbrev cX12_knotOf : ByteArray := prog_14_method_17_code
def yX12_knotOf : MethodName := ⟨RX12, "knotOf", "(I)I"⟩
abbrev cX12_slips : ByteArray := prog_14_method_18_code
def yX12_slips : MethodName := ⟨RX12, "slips", "(I)Z"⟩
abbrev cX12_tiesOf : ByteArray := prog_14_method_19_code
def yX12_tiesOf : MethodName := ⟨RX12, "tiesOf", "(I)I"⟩
abbrev cX12_at1 : ByteArray := prog_14_method_20_code
def yX12_at1 : MethodName := ⟨RX12, "at1", "(II)I"⟩
abbrev cX12_crosses : ByteArray := prog_14_method_21_code
def yX12_crosses : MethodName := ⟨RX12, "crosses", "(III)I"⟩
abbrev cX12_holdOf : ByteArray := prog_14_method_22_code
def yX12_holdOf : MethodName := ⟨RX12, "holdOf", "(II)I"⟩
abbrev cX12_told : ByteArray := prog_14_method_23_code
def yX12_told : MethodName := ⟨RX12, "told", "(II)I"⟩
abbrev cX12_at : ByteArray := prog_14_method_24_code
def yX12_at : MethodName := ⟨RX12, "at", "(I)I"⟩
abbrev cX12_feed : ByteArray := prog_14_method_25_code
def yX12_feed : MethodName := ⟨RX12, "feed", "(IJ)I"⟩
abbrev cX12_byteAt : ByteArray := prog_14_method_26_code
def yX12_byteAt : MethodName := ⟨RX12, "byteAt", "(I)I"⟩
abbrev cX12_next1 : ByteArray := prog_14_method_27_code
def yX12_next1 : MethodName := ⟨RX12, "next1", "()V"⟩
abbrev cX12_fail : ByteArray := prog_14_method_28_code
def yX12_fail : MethodName := ⟨RX12, "fail", "()V"⟩
abbrev cX12_isWord : ByteArray := prog_14_method_29_code
def yX12_isWord : MethodName := ⟨RX12, "isWord", "(J)Z"⟩
abbrev cX12_isSign : ByteArray := prog_14_method_30_code
def yX12_isSign : MethodName := ⟨RX12, "isSign", "(I)Z"⟩
abbrev cX12_opens : ByteArray := prog_14_method_31_code
def yX12_opens : MethodName := ⟨RX12, "opens", "()Z"⟩
abbrev cX12_name : ByteArray := prog_14_method_32_code
def yX12_name : MethodName := ⟨RX12, "name", "()I"⟩
abbrev cX12_one : ByteArray := prog_14_method_33_code
def yX12_one : MethodName := ⟨RX12, "one", "()I"⟩
abbrev cX12_term : ByteArray := prog_14_method_34_code
def yX12_term : MethodName := ⟨RX12, "term", "()I"⟩
abbrev cX12_added : ByteArray := prog_14_method_35_code
def yX12_added : MethodName := ⟨RX12, "added", "()I"⟩
abbrev cX12_not : ByteArray := prog_14_method_36_code
def yX12_not : MethodName := ⟨RX12, "not", "()I"⟩
abbrev cX12_both : ByteArray := prog_14_method_37_code
def yX12_both : MethodName := ⟨RX12, "both", "()I"⟩
abbrev cX12_either : ByteArray := prog_14_method_38_code
def yX12_either : MethodName := ⟨RX12, "either", "()I"⟩
abbrev cX12_part : ByteArray := prog_14_method_39_code
def yX12_part : MethodName := ⟨RX12, "part", "(J)I"⟩
abbrev cX12_read : ByteArray := prog_14_method_40_code
def yX12_read : MethodName := ⟨RX12, "read", "(IIIIIIII)I"⟩
abbrev cX12_within : ByteArray := prog_14_method_41_code
def yX12_within : MethodName := ⟨RX12, "within", "(III)I"⟩
abbrev cX12_text : ByteArray := prog_14_method_42_code
def yX12_text : MethodName := ⟨RX12, "text", "()I"⟩
abbrev cX12_force : ByteArray := prog_14_method_43_code
def yX12_force : MethodName := ⟨RX12, "force", "(I)I"⟩
abbrev cX12_fallsOf : ByteArray := prog_14_method_44_code
def yX12_fallsOf : MethodName := ⟨RX12, "fallsOf", "(I)I"⟩
abbrev cX12_falls : ByteArray := prog_14_method_45_code
def yX12_falls : MethodName := ⟨RX12, "falls", "()I"⟩
abbrev cX12_leftBy : ByteArray := prog_14_method_46_code
def yX12_leftBy : MethodName := ⟨RX12, "leftBy", "(II)I"⟩
abbrev cX12_pull : ByteArray := prog_14_method_47_code
def yX12_pull : MethodName := ⟨RX12, "pull", "(III)I"⟩
abbrev cX12_pulled : ByteArray := prog_14_method_48_code
def yX12_pulled : MethodName := ⟨RX12, "pulled", "(II)I"⟩
abbrev cX12_least : ByteArray := prog_14_method_49_code
def yX12_least : MethodName := ⟨RX12, "least", "(II)I"⟩
abbrev cX12_goodOf : ByteArray := prog_14_method_50_code
def yX12_goodOf : MethodName := ⟨RX12, "goodOf", "(I)I"⟩
abbrev cX12_good : ByteArray := prog_14_method_51_code
def yX12_good : MethodName := ⟨RX12, "good", "(I)J"⟩
abbrev cX12_where : ByteArray := prog_14_method_52_code
def yX12_where : MethodName := ⟨RX12, "where", "(II)I"⟩
abbrev cX12_nextOf : ByteArray := prog_14_method_53_code
def yX12_nextOf : MethodName := ⟨RX12, "nextOf", "(I)I"⟩
abbrev cX12_next : ByteArray := prog_14_method_54_code
def yX12_next : MethodName := ⟨RX12, "next", "(I)I"⟩
abbrev cX12_build : ByteArray := prog_14_method_55_code
def yX12_build : MethodName := ⟨RX12, "build", "(II)I"⟩
abbrev cX12_leastHold : ByteArray := prog_14_method_56_code
def yX12_leastHold : MethodName := ⟨RX12, "leastHold", "()I"⟩
abbrev cX12_best : ByteArray := prog_14_method_57_code
def yX12_best : MethodName := ⟨RX12, "best", "(IIII)I"⟩
abbrev cX12_covered : ByteArray := prog_14_method_58_code
def yX12_covered : MethodName := ⟨RX12, "covered", "()I"⟩
abbrev cX12_greens : ByteArray := prog_14_method_59_code
def yX12_greens : MethodName := ⟨RX12, "greens", "()I"⟩
abbrev cX12_isTaken : ByteArray := prog_14_method_60_code
def yX12_isTaken : MethodName := ⟨RX12, "isTaken", "()Z"⟩
abbrev cX12_takes : ByteArray := prog_14_method_61_code
def yX12_takes : MethodName := ⟨RX12, "takes", "()I"⟩
abbrev cX12_when : ByteArray := prog_14_method_62_code
def yX12_when : MethodName := ⟨RX12, "when", "()I"⟩
abbrev cX12_spare : ByteArray := prog_14_method_63_code
def yX12_spare : MethodName := ⟨RX12, "spare", "()I"⟩
abbrev cX12_brown : ByteArray := prog_14_method_64_code
def yX12_brown : MethodName := ⟨RX12, "brown", "(I)I"⟩
abbrev cX12_isBeyond : ByteArray := prog_14_method_65_code
def yX12_isBeyond : MethodName := ⟨RX12, "isBeyond", "(IIIII)Z"⟩
abbrev cX12_holes : ByteArray := prog_14_method_66_code
def yX12_holes : MethodName := ⟨RX12, "holes", "()I"⟩
abbrev cX12_closes : ByteArray := prog_14_method_67_code
def yX12_closes : MethodName := ⟨RX12, "closes", "(II)I"⟩
abbrev cX12_slipped : ByteArray := prog_14_method_68_code
def yX12_slipped : MethodName := ⟨RX12, "slipped", "()I"⟩
abbrev cX12_image : ByteArray := prog_14_method_69_code
def yX12_image : MethodName := ⟨RX12, "image", "()I"⟩
abbrev cX12_back : ByteArray := prog_14_method_70_code
def yX12_back : MethodName := ⟨RX12, "back", "()I"⟩
abbrev cX12_count : ByteArray := prog_14_method_71_code
def yX12_count : MethodName := ⟨RX12, "count", "(I)I"⟩
abbrev cX12_isSheet : ByteArray := prog_14_method_72_code
def yX12_isSheet : MethodName := ⟨RX12, "isSheet", "(I)Z"⟩
abbrev cX12_sheet : ByteArray := prog_14_method_73_code
def yX12_sheet : MethodName := ⟨RX12, "sheet", "(III)I"⟩
abbrev cX12_cell : ByteArray := prog_14_method_74_code
def yX12_cell : MethodName := ⟨RX12, "cell", "(III)I"⟩
abbrev cX12_copy : ByteArray := prog_14_method_75_code
def yX12_copy : MethodName := ⟨RX12, "copy", "(IIIII)I"⟩
abbrev cX12_strips : ByteArray := prog_14_method_76_code
def yX12_strips : MethodName := ⟨RX12, "strips", "(IIII)I"⟩
abbrev cX12_over : ByteArray := prog_14_method_77_code
def yX12_over : MethodName := ⟨RX12, "over", "(I)I"⟩
abbrev cX12_taken : ByteArray := prog_14_method_78_code
def yX12_taken : MethodName := ⟨RX12, "taken", "(II)I"⟩
def RJx145de : String := "java/io/Serializable"
def TJx145de : u_T := fun k => match k with
  | _ => ("", "", "", false)
def tyJx145de : Nat → FieldType := fun k => match k with
  | _ => .int
abbrev wsJx145de0 : List Cond := u_ws RJx145de TJx145de 0
theorem nmJx145de : ∀ a, a < 0 → ∀ b, b < 0 → a ≠ b → (TJx145de a).2.1 ≠ (TJx145de b).2.1 := by decide +kernel
theorem tyJx145de_ok : ∀ k, k < 0 → parseFieldDescriptor (TJx145de k).2.2.1 = some (tyJx145de k) := by decide +kernel
def RJx9f9b0 : String := "java/lang/CharSequence"
def TJx9f9b0 : u_T := fun k => match k with
  | _ => ("", "", "", false)
def tyJx9f9b0 : Nat → FieldType := fun k => match k with
  | _ => .int
abbrev wsJx9f9b00 : List Cond := u_ws RJx9f9b0 TJx9f9b0 0
theorem nmJx9f9b0 : ∀ a, a < 0 → ∀ b, b < 0 → a ≠ b → (TJx9f9b0 a).2.1 ≠ (TJx9f9b0 b).2.1 := by decide +kernel
theorem tyJx9f9b0_ok : ∀ k, k < 0 → parseFieldDescriptor (TJx9f9b0 k).2.2.1 = some (tyJx9f9b0 k) := by decide +kernel
def RJ11 : String := "java/lang/Character"
def TJ11 : u_T := fun k => match k with
  | _ => ("", "", "", false)
def tyJ11 : Nat → FieldType := fun k => match k with
  | _ => .int
abbrev wsJ110 : List Cond := u_ws RJ11 TJ11 0
theorem nmJ11 : ∀ a, a < 0 → ∀ b, b < 0 → a ≠ b → (TJ11 a).2.1 ≠ (TJ11 b).2.1 := by decide +kernel
theorem tyJ11_ok : ∀ k, k < 0 → parseFieldDescriptor (TJ11 k).2.2.1 = some (tyJ11 k) := by decide +kernel
abbrev cJ11_isValidCodePoint_9a6ad : ByteArray := prog_15_method_11_code
def yJ11_isValidCodePoint_9a6ad : MethodName := ⟨RJ11, "isValidCodePoint", "(I)Z"⟩
abbrev cJ11_highSurrogate_5068e : ByteArray := prog_15_method_28_code
def yJ11_highSurrogate_5068e : MethodName := ⟨RJ11, "highSurrogate", "(I)C"⟩
abbrev cJ11_lowSurrogate_5068e : ByteArray := prog_15_method_29_code
def yJ11_lowSurrogate_5068e : MethodName := ⟨RJ11, "lowSurrogate", "(I)C"⟩
def RJx8e188 : String := "java/lang/Cloneable"
def TJx8e188 : u_T := fun k => match k with
  | _ => ("", "", "", false)
def tyJx8e188 : Nat → FieldType := fun k => match k with
  | _ => .int
abbrev wsJx8e1880 : List Cond := u_ws RJx8e188 TJx8e188 0
theorem nmJx8e188 : ∀ a, a < 0 → ∀ b, b < 0 → a ≠ b → (TJx8e188 a).2.1 ≠ (TJx8e188 b).2.1 := by decide +kernel
theorem tyJx8e188_ok : ∀ k, k < 0 → parseFieldDescriptor (TJx8e188 k).2.2.1 = some (tyJx8e188 k) := by decide +kernel
def RJxb160c : String := "java/lang/Comparable"
def TJxb160c : u_T := fun k => match k with
  | _ => ("", "", "", false)
def tyJxb160c : Nat → FieldType := fun k => match k with
  | _ => .int
abbrev wsJxb160c0 : List Cond := u_ws RJxb160c TJxb160c 0
theorem nmJxb160c : ∀ a, a < 0 → ∀ b, b < 0 → a ≠ b → (TJxb160c a).2.1 ≠ (TJxb160c b).2.1 := by decide +kernel
theorem tyJxb160c_ok : ∀ k, k < 0 → parseFieldDescriptor (TJxb160c k).2.2.1 = some (tyJxb160c k) := by decide +kernel
def RJ6 : String := "java/lang/Integer"
def TJ6 : u_T := fun k => match k with
  | _ => ("", "", "", false)
def tyJ6 : Nat → FieldType := fun k => match k with
  | _ => .int
abbrev wsJ60 : List Cond := u_ws RJ6 TJ6 0
theorem nmJ6 : ∀ a, a < 0 → ∀ b, b < 0 → a ≠ b → (TJ6 a).2.1 ≠ (TJ6 b).2.1 := by decide +kernel
theorem tyJ6_ok : ∀ k, k < 0 → parseFieldDescriptor (TJ6 k).2.2.1 = some (tyJ6 k) := by decide +kernel
abbrev cJ6_bitCount_0f7a4 : ByteArray := prog_17_method_49_code
def yJ6_bitCount_0f7a4 : MethodName := ⟨RJ6, "bitCount", "(I)I"⟩
def RJ9 : String := "java/lang/Math"
def TJ9 : u_T := fun k => match k with
  | _ => ("", "", "", false)
def tyJ9 : Nat → FieldType := fun k => match k with
  | _ => .int
abbrev wsJ90 : List Cond := u_ws RJ9 TJ9 0
theorem nmJ9 : ∀ a, a < 0 → ∀ b, b < 0 → a ≠ b → (TJ9 a).2.1 ≠ (TJ9 b).2.1 := by decide +kernel
theorem tyJ9_ok : ∀ k, k < 0 → parseFieldDescriptor (TJ9 k).2.2.1 = some (tyJ9 k) := by decide +kernel
abbrev cJ9_max_7cf53 : ByteArray := prog_18_method_65_code
def yJ9_max_7cf53 : MethodName := ⟨RJ9, "max", "(II)I"⟩
abbrev cJ9_min_7cf53 : ByteArray := prog_18_method_69_code
def yJ9_min_7cf53 : MethodName := ⟨RJ9, "min", "(II)I"⟩
def RJ0 : String := "java/lang/String"
def TJ0 : u_T := fun k => match k with
  | _ => ("", "", "", false)
def tyJ0 : Nat → FieldType := fun k => match k with
  | _ => .int
abbrev wsJ00 : List Cond := u_ws RJ0 TJ0 0
theorem nmJ0 : ∀ a, a < 0 → ∀ b, b < 0 → a ≠ b → (TJ0 a).2.1 ≠ (TJ0 b).2.1 := by decide +kernel
theorem tyJ0_ok : ∀ k, k < 0 → parseFieldDescriptor (TJ0 k).2.2.1 = some (tyJ0 k) := by decide +kernel
abbrev cJ0_length_8abf5 : ByteArray := prog_19_method_54_code
def yJ0_length_8abf5 : MethodName := ⟨RJ0, "length", "()I"⟩
abbrev cJ0_charAt_5068e : ByteArray := prog_19_method_56_code
def yJ0_charAt_5068e : MethodName := ⟨RJ0, "charAt", "(I)C"⟩
abbrev cJ0_indexOf_0f7a4 : ByteArray := prog_19_method_79_code
def yJ0_indexOf_0f7a4 : MethodName := ⟨RJ0, "indexOf", "(I)I"⟩
abbrev cJ0_indexOf_7cf53 : ByteArray := prog_19_method_80_code
def yJ0_indexOf_7cf53 : MethodName := ⟨RJ0, "indexOf", "(II)I"⟩
abbrev cJ0_coder_7d493 : ByteArray := prog_19_method_152_code
def yJ0_coder_7d493 : MethodName := ⟨RJ0, "coder", "()B"⟩
abbrev cJ0_isLatin1_aae02 : ByteArray := prog_19_method_154_code
def yJ0_isLatin1_aae02 : MethodName := ⟨RJ0, "isLatin1", "()Z"⟩
abbrev cJ0_checkIndex_df160 : ByteArray := prog_19_method_155_code
def yJ0_checkIndex_df160 : MethodName := ⟨RJ0, "checkIndex", "(II)V"⟩
abbrev cJ0_checkBoundsBeginEnd_23922 : ByteArray := prog_19_method_158_code
def yJ0_checkBoundsBeginEnd_23922 : MethodName := ⟨RJ0, "checkBoundsBeginEnd", "(III)V"⟩
def RJ1 : String := "java/lang/StringLatin1"
def TJ1 : u_T := fun k => match k with
  | _ => ("", "", "", false)
def tyJ1 : Nat → FieldType := fun k => match k with
  | _ => .int
abbrev wsJ10 : List Cond := u_ws RJ1 TJ1 0
theorem nmJ1 : ∀ a, a < 0 → ∀ b, b < 0 → a ≠ b → (TJ1 a).2.1 ≠ (TJ1 b).2.1 := by decide +kernel
theorem tyJ1_ok : ∀ k, k < 0 → parseFieldDescriptor (TJ1 k).2.2.1 = some (tyJ1 k) := by decide +kernel
abbrev cJ1_charAt_3b067 : ByteArray := prog_20_method_2_code
def yJ1_charAt_3b067 : MethodName := ⟨RJ1, "charAt", "([BI)C"⟩
abbrev cJ1_canEncode_9a6ad : ByteArray := prog_20_method_4_code
def yJ1_canEncode_9a6ad : MethodName := ⟨RJ1, "canEncode", "(I)Z"⟩
abbrev cJ1_indexOf_4cfef : ByteArray := prog_20_method_22_code
def yJ1_indexOf_4cfef : MethodName := ⟨RJ1, "indexOf", "([BIII)I"⟩
abbrev cJ1_indexOfChar_4cfef : ByteArray := prog_20_method_23_code
def yJ1_indexOfChar_4cfef : MethodName := ⟨RJ1, "indexOfChar", "([BIII)I"⟩
def RJ2 : String := "java/lang/StringUTF16"
def TJ2 : u_T := fun k => match k with
  | _ => ("", "", "", false)
def tyJ2 : Nat → FieldType := fun k => match k with
  | _ => .int
abbrev wsJ20 : List Cond := u_ws RJ2 TJ2 0
theorem nmJ2 : ∀ a, a < 0 → ∀ b, b < 0 → a ≠ b → (TJ2 a).2.1 ≠ (TJ2 b).2.1 := by decide +kernel
theorem tyJ2_ok : ∀ k, k < 0 → parseFieldDescriptor (TJ2 k).2.2.1 = some (tyJ2 k) := by decide +kernel
abbrev cJ2_getChar_3b067 : ByteArray := prog_21_method_5_code
def yJ2_getChar_3b067 : MethodName := ⟨RJ2, "getChar", "([BI)C"⟩
abbrev cJ2_length_9d52b : ByteArray := prog_21_method_6_code
def yJ2_length_9d52b : MethodName := ⟨RJ2, "length", "([B)I"⟩
abbrev cJ2_indexOf_4cfef : ByteArray := prog_21_method_40_code
def yJ2_indexOf_4cfef : MethodName := ⟨RJ2, "indexOf", "([BIII)I"⟩
abbrev cJ2_indexOfChar_4cfef : ByteArray := prog_21_method_47_code
def yJ2_indexOfChar_4cfef : MethodName := ⟨RJ2, "indexOfChar", "([BIII)I"⟩
abbrev cJ2_indexOfCharUnsafe_4cfef : ByteArray := prog_21_method_48_code
def yJ2_indexOfCharUnsafe_4cfef : MethodName := ⟨RJ2, "indexOfCharUnsafe", "([BIII)I"⟩
abbrev cJ2_indexOfSupplementary_4cfef : ByteArray := prog_21_method_49_code
def yJ2_indexOfSupplementary_4cfef : MethodName := ⟨RJ2, "indexOfSupplementary", "([BIII)I"⟩
abbrev cJ2_charAt_3b067 : ByteArray := prog_21_method_83_code
def yJ2_charAt_3b067 : MethodName := ⟨RJ2, "charAt", "([BI)C"⟩
abbrev cJ2_checkIndex_2214a : ByteArray := prog_21_method_91_code
def yJ2_checkIndex_2214a : MethodName := ⟨RJ2, "checkIndex", "(I[B)V"⟩
abbrev cJ2_checkBoundsBeginEnd_d044e : ByteArray := prog_21_method_93_code
def yJ2_checkBoundsBeginEnd_d044e : MethodName := ⟨RJ2, "checkBoundsBeginEnd", "(II[B)V"⟩
def RJ10 : String := "java/lang/System"
def TJ10 : u_T := fun k => match k with
  | _ => ("", "", "", false)
def tyJ10 : Nat → FieldType := fun k => match k with
  | _ => .int
abbrev wsJ100 : List Cond := u_ws RJ10 TJ10 0
theorem nmJ10 : ∀ a, a < 0 → ∀ b, b < 0 → a ≠ b → (TJ10 a).2.1 ≠ (TJ10 b).2.1 := by decide +kernel
theorem tyJ10_ok : ∀ k, k < 0 → parseFieldDescriptor (TJ10 k).2.2.1 = some (tyJ10 k) := by decide +kernel
def RJxfd54e : String := "java/lang/constant/Constable"
def TJxfd54e : u_T := fun k => match k with
  | _ => ("", "", "", false)
def tyJxfd54e : Nat → FieldType := fun k => match k with
  | _ => .int
abbrev wsJxfd54e0 : List Cond := u_ws RJxfd54e TJxfd54e 0
theorem nmJxfd54e : ∀ a, a < 0 → ∀ b, b < 0 → a ≠ b → (TJxfd54e a).2.1 ≠ (TJxfd54e b).2.1 := by decide +kernel
theorem tyJxfd54e_ok : ∀ k, k < 0 → parseFieldDescriptor (TJxfd54e k).2.2.1 = some (tyJxfd54e k) := by decide +kernel
def RJx3cf43 : String := "java/lang/constant/ConstantDesc"
def TJx3cf43 : u_T := fun k => match k with
  | _ => ("", "", "", false)
def tyJx3cf43 : Nat → FieldType := fun k => match k with
  | _ => .int
abbrev wsJx3cf430 : List Cond := u_ws RJx3cf43 TJx3cf43 0
theorem nmJx3cf43 : ∀ a, a < 0 → ∀ b, b < 0 → a ≠ b → (TJx3cf43 a).2.1 ≠ (TJx3cf43 b).2.1 := by decide +kernel
theorem tyJx3cf43_ok : ∀ k, k < 0 → parseFieldDescriptor (TJx3cf43 k).2.2.1 = some (tyJx3cf43 k) := by decide +kernel
def RJ7 : String := "java/util/Arrays"
def TJ7 : u_T := fun k => match k with
  | _ => ("", "", "", false)
def tyJ7 : Nat → FieldType := fun k => match k with
  | _ => .int
abbrev wsJ70 : List Cond := u_ws RJ7 TJ7 0
theorem nmJ7 : ∀ a, a < 0 → ∀ b, b < 0 → a ≠ b → (TJ7 a).2.1 ≠ (TJ7 b).2.1 := by decide +kernel
theorem tyJ7_ok : ∀ k, k < 0 → parseFieldDescriptor (TJ7 k).2.2.1 = some (tyJ7 k) := by decide +kernel
abbrev cJ7_fill_53178 : ByteArray := prog_23_method_103_code
def yJ7_fill_53178 : MethodName := ⟨RJ7, "fill", "([II)V"⟩
abbrev cJ7_copyOf_59c91 : ByteArray := prog_23_method_123_code
def yJ7_copyOf_59c91 : MethodName := ⟨RJ7, "copyOf", "([II)[I"⟩
def RJ3 : String := "jdk/internal/util/Preconditions"
def TJ3 : u_T := fun k => match k with
  | _ => ("", "", "", false)
def tyJ3 : Nat → FieldType := fun k => match k with
  | _ => .int
abbrev wsJ30 : List Cond := u_ws RJ3 TJ3 0
theorem nmJ3 : ∀ a, a < 0 → ∀ b, b < 0 → a ≠ b → (TJ3 a).2.1 ≠ (TJ3 b).2.1 := by decide +kernel
theorem tyJ3_ok : ∀ k, k < 0 → parseFieldDescriptor (TJ3 k).2.2.1 = some (tyJ3 k) := by decide +kernel
abbrev cJ3_checkIndex_8e157 : ByteArray := prog_24_method_11_code
def yJ3_checkIndex_8e157 : MethodName := ⟨RJ3, "checkIndex", "(IILjava/util/function/BiFunction;)I"⟩
abbrev cJ3_checkFromToIndex_8c36e : ByteArray := prog_24_method_12_code
def yJ3_checkFromToIndex_8c36e : MethodName := ⟨RJ3, "checkFromToIndex", "(IIILjava/util/function/BiFunction;)I"⟩
def RL : String := "NestsByKnotsLaw"
abbrev cL_law : ByteArray := code
def yL_law : MethodName := ⟨RL, "law", "([I)Z"⟩
abbrev vwCl : List vw_C := [(RX0, TX0, 2), (RX1, TX1, 1), (RX2, TX2, 1), (RX3, TX3, 1), (RX4, TX4, 11), (RX5, TX5, 1), (RX6, TX6, 10), (RX7, TX7, 3), (RX8, TX8, 1), (RX9, TX9, 3), (RX10, TX10, 1), (RX11, TX11, 7), (RX12, TX12, 40)]
end
section
/-- a word of the tables that stays true -/
def Wd (w : Cond) : Prop := w ∈ lw_tbl ∧ goodWord w = true
theorem Wd.of {w : Cond} (i : Nat) (h : (lw_tbl[i]?, goodWord w) = (some w, true)) : Wd w := ⟨List.mem_of_getElem? (i := i) (congrArg Prod.fst h), congrArg Prod.snd h⟩
theorem w_0000 : Wd (Cond.selects RX6 yX6_advance yX6_advance) := Wd.of 0 (by decide +kernel)
theorem w_0001 : Wd (Cond.selects RX6 yX6_word yX6_word) := Wd.of 1 (by decide +kernel)
theorem w_0002 : Wd (Cond.selects RX6 yX6_nameHere yX6_nameHere) := Wd.of 2 (by decide +kernel)
theorem w_0003 : Wd (Cond.selects RX6 yX6_spells yX6_spells) := Wd.of 3 (by decide +kernel)
theorem w_0004 : Wd (Cond.selects RX6 yX6_keyHere yX6_keyHere) := Wd.of 4 (by decide +kernel)
theorem w_0005 : Wd (Cond.selects RX6 yX6_digits yX6_digits) := Wd.of 5 (by decide +kernel)
theorem w_0006 : Wd (Cond.selects RX6 yX6_part yX6_part) := Wd.of 6 (by decide +kernel)
theorem w_0007 : Wd (Cond.selects RX6 yX6_expect yX6_expect) := Wd.of 7 (by decide +kernel)
theorem w_0008 : Wd (Cond.selects RX6 yX6_refuse yX6_refuse) := Wd.of 8 (by decide +kernel)
theorem w_0009 : Wd (Cond.selects RX6 yX6_either yX6_either) := Wd.of 9 (by decide +kernel)
theorem w_0010 : Wd (Cond.selects RX6 yX6_both yX6_both) := Wd.of 10 (by decide +kernel)
theorem w_0011 : Wd (Cond.selects RX6 yX6_denied yX6_denied) := Wd.of 11 (by decide +kernel)
theorem w_0012 : Wd (Cond.selects RX6 yX6_emit yX6_emit) := Wd.of 12 (by decide +kernel)
theorem w_0013 : Wd (Cond.selects RX6 yX6_sum yX6_sum) := Wd.of 13 (by decide +kernel)
theorem w_0014 : Wd (Cond.selects RX6 yX6_term yX6_term) := Wd.of 14 (by decide +kernel)
theorem w_0015 : Wd (Cond.selects RX6 yX6_one yX6_one) := Wd.of 15 (by decide +kernel)
theorem w_0016 : Wd (Cond.selects RX4 yX4_met yX4_met) := Wd.of 16 (by decide +kernel)
theorem w_0017 : Wd (Cond.selects RX4 yX4_nameStrip yX4_nameStrip) := Wd.of 17 (by decide +kernel)
theorem w_0018 : Wd (Cond.selects RX4 yX4_name yX4_name) := Wd.of 18 (by decide +kernel)
theorem w_0019 : Wd (Cond.selects RX4 yX4_looseAt yX4_looseAt) := Wd.of 19 (by decide +kernel)
theorem w_0020 : Wd (Cond.selects RX4 yX4_weakestAt yX4_weakestAt) := Wd.of 20 (by decide +kernel)
theorem w_0021 : Wd (Cond.selects RX4 yX4_leastHold yX4_leastHold) := Wd.of 21 (by decide +kernel)
theorem w_0022 : Wd (Cond.selects RX12 yX12_spell yX12_spell) := Wd.of 22 (by decide +kernel)
theorem w_0023 : Wd (Cond.selects RX12 yX12_free yX12_free) := Wd.of 23 (by decide +kernel)
theorem w_0024 : Wd (Cond.selects RX12 yX12_lays yX12_lays) := Wd.of 24 (by decide +kernel)
theorem w_0025 : Wd (Cond.selects RX12 yX12_isStrip yX12_isStrip) := Wd.of 25 (by decide +kernel)
theorem w_0026 : Wd (Cond.selects RX12 yX12_ageOf yX12_ageOf) := Wd.of 26 (by decide +kernel)
theorem w_0027 : Wd (Cond.selects RX12 yX12_knotOf yX12_knotOf) := Wd.of 27 (by decide +kernel)
theorem w_0028 : Wd (Cond.selects RX12 yX12_slips yX12_slips) := Wd.of 28 (by decide +kernel)
theorem w_0029 : Wd (Cond.selects RX12 yX12_tiesOf yX12_tiesOf) := Wd.of 29 (by decide +kernel)
theorem w_0030 : Wd (Cond.selects RX12 yX12_crosses yX12_crosses) := Wd.of 30 (by decide +kernel)
theorem w_0031 : Wd (Cond.selects RX12 yX12_at1 yX12_at1) := Wd.of 31 (by decide +kernel)
theorem w_0032 : Wd (Cond.selects RX12 yX12_holdOf yX12_holdOf) := Wd.of 32 (by decide +kernel)
theorem w_0033 : Wd (Cond.selects RX12 yX12_read yX12_read) := Wd.of 33 (by decide +kernel)
theorem w_0034 : Wd (Cond.selects RX12 yX12_next1 yX12_next1) := Wd.of 34 (by decide +kernel)
theorem w_0035 : Wd (Cond.selects RX12 yX12_byteAt yX12_byteAt) := Wd.of 35 (by decide +kernel)
theorem w_0036 : Wd (Cond.selects RX12 yX12_part yX12_part) := Wd.of 36 (by decide +kernel)
theorem w_0037 : Wd (Cond.selects RX12 yX12_isWord yX12_isWord) := Wd.of 37 (by decide +kernel)
theorem w_0038 : Wd (Cond.selects RX12 yX12_fail yX12_fail) := Wd.of 38 (by decide +kernel)
theorem w_0039 : Wd (Cond.selects RX12 yX12_either yX12_either) := Wd.of 39 (by decide +kernel)
theorem w_0040 : Wd (Cond.selects RX12 yX12_both yX12_both) := Wd.of 40 (by decide +kernel)
theorem w_0041 : Wd (Cond.selects RX12 yX12_not yX12_not) := Wd.of 41 (by decide +kernel)
theorem w_0042 : Wd (Cond.selects RX12 yX12_opens yX12_opens) := Wd.of 42 (by decide +kernel)
theorem w_0043 : Wd (Cond.selects RX12 yX12_added yX12_added) := Wd.of 43 (by decide +kernel)
theorem w_0044 : Wd (Cond.selects RX12 yX12_term yX12_term) := Wd.of 44 (by decide +kernel)
theorem w_0045 : Wd (Cond.selects RX12 yX12_one yX12_one) := Wd.of 45 (by decide +kernel)
theorem w_0046 : Wd (Cond.selects RX12 yX12_isSign yX12_isSign) := Wd.of 46 (by decide +kernel)
theorem w_0047 : Wd (Cond.selects RX12 yX12_name yX12_name) := Wd.of 47 (by decide +kernel)
theorem w_0048 : Wd (Cond.selects RX12 yX12_fallsOf yX12_fallsOf) := Wd.of 48 (by decide +kernel)
theorem w_0049 : Wd (Cond.selects RX12 yX12_leftBy yX12_leftBy) := Wd.of 49 (by decide +kernel)
theorem w_0050 : Wd (Cond.selects RX12 yX12_goodOf yX12_goodOf) := Wd.of 50 (by decide +kernel)
theorem w_0051 : Wd (Cond.selects RX12 yX12_nextOf yX12_nextOf) := Wd.of 51 (by decide +kernel)
theorem w_0052 : Wd (Cond.selects RX12 yX12_leastHold yX12_leastHold) := Wd.of 52 (by decide +kernel)
theorem w_0053 : Wd (Cond.selects RX12 yX12_isTaken yX12_isTaken) := Wd.of 53 (by decide +kernel)
theorem w_0054 : Wd (Cond.selects RX12 yX12_covered yX12_covered) := Wd.of 54 (by decide +kernel)
theorem w_0055 : Wd (Cond.selects RX12 yX12_greens yX12_greens) := Wd.of 55 (by decide +kernel)
theorem w_0056 : Wd (Cond.initialized RL) := Wd.of 56 (by decide +kernel)
theorem w_0057 : Wd (Cond.initialized RX11) := Wd.of 57 (by decide +kernel)
theorem w_0058 : Wd (Cond.initialized RX6) := Wd.of 58 (by decide +kernel)
theorem w_0059 : Wd (Cond.initialized RJ0) := Wd.of 59 (by decide +kernel)
theorem w_0060 : Wd (Cond.initialized RJ1) := Wd.of 60 (by decide +kernel)
theorem w_0061 : Wd (Cond.initialized RJ3) := Wd.of 61 (by decide +kernel)
theorem w_0062 : Wd (Cond.initialized RJ2) := Wd.of 62 (by decide +kernel)
theorem w_0063 : Wd (Cond.initialized RJ9) := Wd.of 63 (by decide +kernel)
theorem w_0064 : Wd (Cond.initialized RJ11) := Wd.of 64 (by decide +kernel)
theorem w_0065 : Wd (Cond.initialized RX9) := Wd.of 65 (by decide +kernel)
theorem w_0066 : Wd (Cond.initialized RJ7) := Wd.of 66 (by decide +kernel)
theorem w_0067 : Wd (Cond.initialized RJ10) := Wd.of 67 (by decide +kernel)
theorem w_0068 : Wd (Cond.initialized RX4) := Wd.of 68 (by decide +kernel)
theorem w_0069 : Wd (Cond.initialized RX0) := Wd.of 69 (by decide +kernel)
theorem w_0070 : Wd (Cond.initialized RX7) := Wd.of 70 (by decide +kernel)
theorem w_0071 : Wd (Cond.initialized RX12) := Wd.of 71 (by decide +kernel)
theorem w_0072 : Wd (Cond.initialized RX10) := Wd.of 72 (by decide +kernel)
theorem w_0073 : Wd (Cond.initialized RX3) := Wd.of 73 (by decide +kernel)
theorem w_0074 : Wd (Cond.initialized RX2) := Wd.of 74 (by decide +kernel)
theorem w_0075 : Wd (Cond.initialized RX8) := Wd.of 75 (by decide +kernel)
theorem w_0076 : Wd (Cond.initialized RX1) := Wd.of 76 (by decide +kernel)
theorem w_0077 : Wd (Cond.initialized RX5) := Wd.of 77 (by decide +kernel)
theorem w_0078 : Wd (Cond.initialized RJ6) := Wd.of 78 (by decide +kernel)
theorem w_0079 : Wd (Cond.classLink RL 7 "NestsByKnots") := Wd.of 79 (by decide +kernel)
theorem w_0080 : Wd (Cond.instantiable RX11 7) := Wd.of 80 (by decide +kernel)
theorem w_0081 : Wd (Cond.methodLink RL 9 yX11_init) := Wd.of 81 (by decide +kernel)
theorem w_0082 : Wd (Cond.instanceMethod yX11_init) := Wd.of 82 (by decide +kernel)
theorem w_0083 : Wd (Cond.code yX11_init cX11_init 3 none) := Wd.of 83 (by decide +kernel)
theorem w_0084 : Wd (Cond.methodLink RX11 1 ⟨"java/lang/Object", "<init>", "()V"⟩) := Wd.of 84 (by decide +kernel)
theorem w_0085 : Wd (Cond.instanceMethod ⟨"java/lang/Object", "<init>", "()V"⟩) := Wd.of 85 (by decide +kernel)
theorem w_0086 : Wd (Cond.code ⟨"java/lang/Object", "<init>", "()V"⟩ object_method_1_code 1 none) := Wd.of 86 (by decide +kernel)
theorem w_0087 : Wd (Cond.classLink RX11 7 "NestsByKnots$Reader") := Wd.of 87 (by decide +kernel)
theorem w_0088 : Wd (Cond.instantiable RX6 10) := Wd.of 88 (by decide +kernel)
theorem w_0090 : Wd (Cond.instanceMethod yX6_init) := Wd.of 90 (by decide +kernel)
theorem w_0091 : Wd (Cond.code yX6_init cX6_init 1 none) := Wd.of 91 (by decide +kernel)
theorem w_0092 : Wd (Cond.methodLink RX6 3 ⟨"java/lang/Object", "<init>", "()V"⟩) := Wd.of 92 (by decide +kernel)
theorem w_0093 : Wd (Cond.fieldLink RX6 22 "NestsByKnots$Reader" "size" "I") := Wd.of 93 (by decide +kernel)
theorem w_0094 : Wd (Cond.fieldLink RX11 155 "NestsByKnots$Reader" "size" "I") := Wd.of 94 (by decide +kernel)
theorem w_0095 : Wd (Cond.fieldLink RX6 9 "NestsByKnots$Reader" "tape" "[B") := Wd.of 95 (by decide +kernel)
theorem w_0096 : Wd (Cond.fieldLink RX6 26 "NestsByKnots$Reader" "place" "I") := Wd.of 96 (by decide +kernel)
theorem w_0097 : Wd (Cond.fieldLink RX6 71 "NestsByKnots$Reader" "start" "I") := Wd.of 97 (by decide +kernel)
theorem w_0098 : Wd (Cond.fieldLink RX6 42 "NestsByKnots$Reader" "token" "I") := Wd.of 98 (by decide +kernel)
theorem w_0099 : Wd (Cond.fieldLink RX6 92 "NestsByKnots$Reader" "value" "I") := Wd.of 99 (by decide +kernel)
theorem w_0100 : Wd (Cond.fieldLink RX6 32 "NestsByKnots$Reader" "fault" "I") := Wd.of 100 (by decide +kernel)
theorem w_0101 : Wd (Cond.fieldLink RX6 15 "NestsByKnots$Reader" "code" "[I") := Wd.of 101 (by decide +kernel)
theorem w_0102 : Wd (Cond.fieldLink RX6 29 "NestsByKnots$Reader" "length" "I") := Wd.of 102 (by decide +kernel)
theorem w_0103 : Wd (Cond.fieldLink RX6 19 "NestsByKnots$Reader" "ends" "[I") := Wd.of 103 (by decide +kernel)
theorem w_0104 : Wd (Cond.lays RX6 "NestsByKnots$Reader" "size" "I") := Wd.of 104 (by decide +kernel)
theorem w_0106 : Wd (Cond.laysFinal RX6 "NestsByKnots$Reader" "tape" "[B") := Wd.of 106 (by decide +kernel)
theorem w_0108 : Wd (Cond.lays RX6 "NestsByKnots$Reader" "place" "I") := Wd.of 108 (by decide +kernel)
theorem w_0110 : Wd (Cond.lays RX6 "NestsByKnots$Reader" "start" "I") := Wd.of 110 (by decide +kernel)
theorem w_0112 : Wd (Cond.lays RX6 "NestsByKnots$Reader" "token" "I") := Wd.of 112 (by decide +kernel)
theorem w_0114 : Wd (Cond.lays RX6 "NestsByKnots$Reader" "value" "I") := Wd.of 114 (by decide +kernel)
theorem w_0116 : Wd (Cond.lays RX6 "NestsByKnots$Reader" "fault" "I") := Wd.of 116 (by decide +kernel)
theorem w_0118 : Wd (Cond.laysFinal RX6 "NestsByKnots$Reader" "code" "[I") := Wd.of 118 (by decide +kernel)
theorem w_0120 : Wd (Cond.lays RX6 "NestsByKnots$Reader" "length" "I") := Wd.of 120 (by decide +kernel)
theorem w_0122 : Wd (Cond.laysFinal RX6 "NestsByKnots$Reader" "ends" "[I") := Wd.of 122 (by decide +kernel)
theorem w_0124 : Wd (Cond.superclass RX6 "java/lang/Object") := Wd.of 124 (by decide +kernel)
theorem w_0125 : Wd (Cond.arrayClass FieldType.byte) := Wd.of 125 (by decide +kernel)
theorem w_0126 : Wd (Cond.arrayClass FieldType.int) := Wd.of 126 (by decide +kernel)
theorem w_0127 : Wd (Cond.classLink RX11 16 "NestsByKnots$Text") := Wd.of 127 (by decide +kernel)
theorem w_0129 : Wd (Cond.classLink RX11 22 "NestsByKnots$Sheet") := Wd.of 129 (by decide +kernel)
theorem w_0132 : Wd (Cond.methodLink RX11 30 yJ0_length_8abf5) := Wd.of 132 (by decide +kernel)
theorem w_0133 : Wd (Cond.instanceMethod yJ0_length_8abf5) := Wd.of 133 (by decide +kernel)
theorem w_0134 : Wd (Cond.selects RJ0 yJ0_length_8abf5 yJ0_length_8abf5) := Wd.of 134 (by decide +kernel)
theorem w_0135 : Wd (Cond.code yJ0_length_8abf5 cJ0_length_8abf5 1 (some FieldType.int)) := Wd.of 135 (by decide +kernel)
theorem w_0136 : Wd (Cond.methodLink RJ0 335 yJ0_coder_7d493) := Wd.of 136 (by decide +kernel)
theorem w_0137 : Wd (Cond.instanceMethod yJ0_coder_7d493) := Wd.of 137 (by decide +kernel)
theorem w_0138 : Wd (Cond.selects RJ0 yJ0_coder_7d493 yJ0_coder_7d493) := Wd.of 138 (by decide +kernel)
theorem w_0139 : Wd (Cond.code yJ0_coder_7d493 cJ0_coder_7d493 1 (some FieldType.byte)) := Wd.of 139 (by decide +kernel)
theorem w_0140 : Wd (Cond.fieldLink RJ0 38 "java/lang/String" "COMPACT_STRINGS" "Z") := Wd.of 140 (by decide +kernel)
theorem w_0142 : Wd (Cond.methodLink RX11 36 yJ0_charAt_5068e) := Wd.of 142 (by decide +kernel)
theorem w_0143 : Wd (Cond.instanceMethod yJ0_charAt_5068e) := Wd.of 143 (by decide +kernel)
theorem w_0144 : Wd (Cond.selects RJ0 yJ0_charAt_5068e yJ0_charAt_5068e) := Wd.of 144 (by decide +kernel)
theorem w_0145 : Wd (Cond.code yJ0_charAt_5068e cJ0_charAt_5068e 2 (some FieldType.char)) := Wd.of 145 (by decide +kernel)
theorem w_0146 : Wd (Cond.methodLink RJ0 492 yJ0_isLatin1_aae02) := Wd.of 146 (by decide +kernel)
theorem w_0147 : Wd (Cond.instanceMethod yJ0_isLatin1_aae02) := Wd.of 147 (by decide +kernel)
theorem w_0148 : Wd (Cond.selects RJ0 yJ0_isLatin1_aae02 yJ0_isLatin1_aae02) := Wd.of 148 (by decide +kernel)
theorem w_0149 : Wd (Cond.code yJ0_isLatin1_aae02 cJ0_isLatin1_aae02 1 (some FieldType.boolean)) := Wd.of 149 (by decide +kernel)
theorem w_0150 : Wd (Cond.methodLink RJ0 495 yJ1_charAt_3b067) := Wd.of 150 (by decide +kernel)
theorem w_0151 : Wd (Cond.static yJ1_charAt_3b067) := Wd.of 151 (by decide +kernel)
theorem w_0152 : Wd (Cond.code yJ1_charAt_3b067 cJ1_charAt_3b067 2 (some FieldType.char)) := Wd.of 152 (by decide +kernel)
theorem w_0153 : Wd (Cond.methodLink RJ1 9 yJ0_checkIndex_df160) := Wd.of 153 (by decide +kernel)
theorem w_0154 : Wd (Cond.static yJ0_checkIndex_df160) := Wd.of 154 (by decide +kernel)
theorem w_0155 : Wd (Cond.code yJ0_checkIndex_df160 cJ0_checkIndex_df160 2 none) := Wd.of 155 (by decide +kernel)
theorem w_0156 : Wd (Cond.fieldLink RJ0 1053 "jdk/internal/util/Preconditions" "SIOOBE_FORMATTER" "Ljava/util/function/BiFunction;") := Wd.of 156 (by decide +kernel)
theorem w_0158 : Wd (Cond.methodLink RJ0 1059 yJ3_checkIndex_8e157) := Wd.of 158 (by decide +kernel)
theorem w_0159 : Wd (Cond.static yJ3_checkIndex_8e157) := Wd.of 159 (by decide +kernel)
theorem w_0160 : Wd (Cond.code yJ3_checkIndex_8e157 cJ3_checkIndex_8e157 3 (some FieldType.int)) := Wd.of 160 (by decide +kernel)
theorem w_0161 : Wd (Cond.methodLink RJ0 498 yJ2_charAt_3b067) := Wd.of 161 (by decide +kernel)
theorem w_0162 : Wd (Cond.static yJ2_charAt_3b067) := Wd.of 162 (by decide +kernel)
theorem w_0163 : Wd (Cond.code yJ2_charAt_3b067 cJ2_charAt_3b067 2 (some FieldType.char)) := Wd.of 163 (by decide +kernel)
theorem w_0164 : Wd (Cond.methodLink RJ2 67 yJ2_checkIndex_2214a) := Wd.of 164 (by decide +kernel)
theorem w_0165 : Wd (Cond.static yJ2_checkIndex_2214a) := Wd.of 165 (by decide +kernel)
theorem w_0166 : Wd (Cond.code yJ2_checkIndex_2214a cJ2_checkIndex_2214a 2 none) := Wd.of 166 (by decide +kernel)
theorem w_0167 : Wd (Cond.methodLink RJ2 48 yJ2_length_9d52b) := Wd.of 167 (by decide +kernel)
theorem w_0168 : Wd (Cond.static yJ2_length_9d52b) := Wd.of 168 (by decide +kernel)
theorem w_0169 : Wd (Cond.code yJ2_length_9d52b cJ2_length_9d52b 1 (some FieldType.int)) := Wd.of 169 (by decide +kernel)
theorem w_0170 : Wd (Cond.methodLink RJ2 414 yJ0_checkIndex_df160) := Wd.of 170 (by decide +kernel)
theorem w_0171 : Wd (Cond.methodLink RJ2 71 yJ2_getChar_3b067) := Wd.of 171 (by decide +kernel)
theorem w_0172 : Wd (Cond.static yJ2_getChar_3b067) := Wd.of 172 (by decide +kernel)
theorem w_0173 : Wd (Cond.code yJ2_getChar_3b067 cJ2_getChar_3b067 2 (some FieldType.char)) := Wd.of 173 (by decide +kernel)
theorem w_0174 : Wd (Cond.fieldLink RJ2 44 "java/lang/StringUTF16" "$assertionsDisabled" "Z") := Wd.of 174 (by decide +kernel)
theorem w_0176 : Wd (Cond.fieldLink RJ2 59 "java/lang/StringUTF16" "HI_BYTE_SHIFT" "I") := Wd.of 176 (by decide +kernel)
theorem w_0178 : Wd (Cond.fieldLink RJ2 63 "java/lang/StringUTF16" "LO_BYTE_SHIFT" "I") := Wd.of 178 (by decide +kernel)
theorem w_0180 : Wd (Cond.methodLink RX11 40 yX6_append) := Wd.of 180 (by decide +kernel)
theorem w_0181 : Wd (Cond.instanceMethod yX6_append) := Wd.of 181 (by decide +kernel)
theorem w_0182 : Wd (Cond.selects RX6 yX6_append yX6_append) := Wd.of 182 (by decide +kernel)
theorem w_0183 : Wd (Cond.code yX6_append cX6_append 2 none) := Wd.of 183 (by decide +kernel)
theorem w_0184 : Wd (Cond.methodLink RX11 44 yX6_readTape) := Wd.of 184 (by decide +kernel)
theorem w_0185 : Wd (Cond.instanceMethod yX6_readTape) := Wd.of 185 (by decide +kernel)
theorem w_0186 : Wd (Cond.selects RX6 yX6_readTape yX6_readTape) := Wd.of 186 (by decide +kernel)
theorem w_0187 : Wd (Cond.code yX6_readTape cX6_readTape 1 (some FieldType.int)) := Wd.of 187 (by decide +kernel)
theorem w_0188 : Wd (Cond.methodLink RX6 35 yX6_advance) := Wd.of 188 (by decide +kernel)
theorem w_0190 : Wd (Cond.instanceMethod yX6_advance) := Wd.of 190 (by decide +kernel)
theorem w_0191 : Wd (Cond.code yX6_advance cX6_advance 1 none) := Wd.of 191 (by decide +kernel)
theorem w_0192 : Wd (Cond.methodLink RX6 95 yX6_isLetter) := Wd.of 192 (by decide +kernel)
theorem w_0193 : Wd (Cond.static yX6_isLetter) := Wd.of 193 (by decide +kernel)
theorem w_0194 : Wd (Cond.code yX6_isLetter cX6_isLetter 1 (some FieldType.boolean)) := Wd.of 194 (by decide +kernel)
theorem w_0195 : Wd (Cond.methodLink RX6 99 yX6_word) := Wd.of 195 (by decide +kernel)
theorem w_0197 : Wd (Cond.instanceMethod yX6_word) := Wd.of 197 (by decide +kernel)
theorem w_0198 : Wd (Cond.code yX6_word cX6_word 1 none) := Wd.of 198 (by decide +kernel)
theorem w_0199 : Wd (Cond.methodLink RX6 111 yX6_nameHere) := Wd.of 199 (by decide +kernel)
theorem w_0201 : Wd (Cond.instanceMethod yX6_nameHere) := Wd.of 201 (by decide +kernel)
theorem w_0202 : Wd (Cond.code yX6_nameHere cX6_nameHere 1 (some FieldType.int)) := Wd.of 202 (by decide +kernel)
theorem w_0204 : Wd (Cond.methodLink RX6 120 yX6_spells) := Wd.of 204 (by decide +kernel)
theorem w_0206 : Wd (Cond.instanceMethod yX6_spells) := Wd.of 206 (by decide +kernel)
theorem w_0207 : Wd (Cond.code yX6_spells cX6_spells 3 (some FieldType.boolean)) := Wd.of 207 (by decide +kernel)
theorem w_0208 : Wd (Cond.methodLink RX6 146 yJ0_length_8abf5) := Wd.of 208 (by decide +kernel)
theorem w_0209 : Wd (Cond.methodLink RX6 150 yJ0_charAt_5068e) := Wd.of 209 (by decide +kernel)
theorem w_0215 : Wd (Cond.methodLink RX6 115 yX6_keyHere) := Wd.of 215 (by decide +kernel)
theorem w_0217 : Wd (Cond.instanceMethod yX6_keyHere) := Wd.of 217 (by decide +kernel)
theorem w_0218 : Wd (Cond.code yX6_keyHere cX6_keyHere 1 (some FieldType.int)) := Wd.of 218 (by decide +kernel)
theorem w_0225 : Wd (Cond.methodLink RX6 102 yX6_isDigit) := Wd.of 225 (by decide +kernel)
theorem w_0226 : Wd (Cond.static yX6_isDigit) := Wd.of 226 (by decide +kernel)
theorem w_0227 : Wd (Cond.code yX6_isDigit cX6_isDigit 1 (some FieldType.boolean)) := Wd.of 227 (by decide +kernel)
theorem w_0228 : Wd (Cond.methodLink RX6 105 yX6_digits) := Wd.of 228 (by decide +kernel)
theorem w_0230 : Wd (Cond.instanceMethod yX6_digits) := Wd.of 230 (by decide +kernel)
theorem w_0231 : Wd (Cond.code yX6_digits cX6_digits 1 none) := Wd.of 231 (by decide +kernel)
theorem w_0232 : Wd (Cond.methodLink RX6 108 yX6_isSign) := Wd.of 232 (by decide +kernel)
theorem w_0233 : Wd (Cond.static yX6_isSign) := Wd.of 233 (by decide +kernel)
theorem w_0234 : Wd (Cond.code yX6_isSign cX6_isSign 1 (some FieldType.boolean)) := Wd.of 234 (by decide +kernel)
theorem w_0236 : Wd (Cond.methodLink RX6 156 yJ0_indexOf_0f7a4) := Wd.of 236 (by decide +kernel)
theorem w_0237 : Wd (Cond.instanceMethod yJ0_indexOf_0f7a4) := Wd.of 237 (by decide +kernel)
theorem w_0238 : Wd (Cond.selects RJ0 yJ0_indexOf_0f7a4 yJ0_indexOf_0f7a4) := Wd.of 238 (by decide +kernel)
theorem w_0239 : Wd (Cond.code yJ0_indexOf_0f7a4 cJ0_indexOf_0f7a4 2 (some FieldType.int)) := Wd.of 239 (by decide +kernel)
theorem w_0240 : Wd (Cond.methodLink RJ0 633 yJ0_indexOf_7cf53) := Wd.of 240 (by decide +kernel)
theorem w_0241 : Wd (Cond.instanceMethod yJ0_indexOf_7cf53) := Wd.of 241 (by decide +kernel)
theorem w_0242 : Wd (Cond.selects RJ0 yJ0_indexOf_7cf53 yJ0_indexOf_7cf53) := Wd.of 242 (by decide +kernel)
theorem w_0243 : Wd (Cond.code yJ0_indexOf_7cf53 cJ0_indexOf_7cf53 3 (some FieldType.int)) := Wd.of 243 (by decide +kernel)
theorem w_0244 : Wd (Cond.methodLink RJ0 505 yJ0_length_8abf5) := Wd.of 244 (by decide +kernel)
theorem w_0245 : Wd (Cond.methodLink RJ0 637 yJ1_indexOf_4cfef) := Wd.of 245 (by decide +kernel)
theorem w_0246 : Wd (Cond.static yJ1_indexOf_4cfef) := Wd.of 246 (by decide +kernel)
theorem w_0247 : Wd (Cond.code yJ1_indexOf_4cfef cJ1_indexOf_4cfef 4 (some FieldType.int)) := Wd.of 247 (by decide +kernel)
theorem w_0248 : Wd (Cond.methodLink RJ1 88 yJ1_canEncode_9a6ad) := Wd.of 248 (by decide +kernel)
theorem w_0249 : Wd (Cond.static yJ1_canEncode_9a6ad) := Wd.of 249 (by decide +kernel)
theorem w_0250 : Wd (Cond.code yJ1_canEncode_9a6ad cJ1_canEncode_9a6ad 1 (some FieldType.boolean)) := Wd.of 250 (by decide +kernel)
theorem w_0251 : Wd (Cond.methodLink RJ1 92 yJ9_max_7cf53) := Wd.of 251 (by decide +kernel)
theorem w_0252 : Wd (Cond.static yJ9_max_7cf53) := Wd.of 252 (by decide +kernel)
theorem w_0253 : Wd (Cond.code yJ9_max_7cf53 cJ9_max_7cf53 2 (some FieldType.int)) := Wd.of 253 (by decide +kernel)
theorem w_0254 : Wd (Cond.methodLink RJ1 38 yJ9_min_7cf53) := Wd.of 254 (by decide +kernel)
theorem w_0255 : Wd (Cond.static yJ9_min_7cf53) := Wd.of 255 (by decide +kernel)
theorem w_0256 : Wd (Cond.code yJ9_min_7cf53 cJ9_min_7cf53 2 (some FieldType.int)) := Wd.of 256 (by decide +kernel)
theorem w_0257 : Wd (Cond.methodLink RJ1 95 yJ1_indexOfChar_4cfef) := Wd.of 257 (by decide +kernel)
theorem w_0258 : Wd (Cond.static yJ1_indexOfChar_4cfef) := Wd.of 258 (by decide +kernel)
theorem w_0259 : Wd (Cond.code yJ1_indexOfChar_4cfef cJ1_indexOfChar_4cfef 6 (some FieldType.int)) := Wd.of 259 (by decide +kernel)
theorem w_0260 : Wd (Cond.methodLink RJ0 640 yJ2_indexOf_4cfef) := Wd.of 260 (by decide +kernel)
theorem w_0261 : Wd (Cond.static yJ2_indexOf_4cfef) := Wd.of 261 (by decide +kernel)
theorem w_0262 : Wd (Cond.code yJ2_indexOf_4cfef cJ2_indexOf_4cfef 4 (some FieldType.int)) := Wd.of 262 (by decide +kernel)
theorem w_0263 : Wd (Cond.methodLink RJ2 224 yJ9_max_7cf53) := Wd.of 263 (by decide +kernel)
theorem w_0264 : Wd (Cond.methodLink RJ2 183 yJ9_min_7cf53) := Wd.of 264 (by decide +kernel)
theorem w_0265 : Wd (Cond.constant RJ2 227 (65536 : Int32)) := Wd.of 265 (by decide +kernel)
theorem w_0266 : Wd (Cond.methodLink RJ2 228 yJ2_indexOfChar_4cfef) := Wd.of 266 (by decide +kernel)
theorem w_0267 : Wd (Cond.static yJ2_indexOfChar_4cfef) := Wd.of 267 (by decide +kernel)
theorem w_0268 : Wd (Cond.code yJ2_indexOfChar_4cfef cJ2_indexOfChar_4cfef 4 (some FieldType.int)) := Wd.of 268 (by decide +kernel)
theorem w_0269 : Wd (Cond.methodLink RJ2 96 yJ2_checkBoundsBeginEnd_d044e) := Wd.of 269 (by decide +kernel)
theorem w_0270 : Wd (Cond.static yJ2_checkBoundsBeginEnd_d044e) := Wd.of 270 (by decide +kernel)
theorem w_0271 : Wd (Cond.code yJ2_checkBoundsBeginEnd_d044e cJ2_checkBoundsBeginEnd_d044e 3 none) := Wd.of 271 (by decide +kernel)
theorem w_0272 : Wd (Cond.methodLink RJ2 241 yJ0_checkBoundsBeginEnd_23922) := Wd.of 272 (by decide +kernel)
theorem w_0273 : Wd (Cond.static yJ0_checkBoundsBeginEnd_23922) := Wd.of 273 (by decide +kernel)
theorem w_0274 : Wd (Cond.code yJ0_checkBoundsBeginEnd_23922 cJ0_checkBoundsBeginEnd_23922 3 none) := Wd.of 274 (by decide +kernel)
theorem w_0275 : Wd (Cond.methodLink RJ0 1062 yJ3_checkFromToIndex_8c36e) := Wd.of 275 (by decide +kernel)
theorem w_0276 : Wd (Cond.static yJ3_checkFromToIndex_8c36e) := Wd.of 276 (by decide +kernel)
theorem w_0277 : Wd (Cond.code yJ3_checkFromToIndex_8c36e cJ3_checkFromToIndex_8c36e 4 (some FieldType.int)) := Wd.of 277 (by decide +kernel)
theorem w_0278 : Wd (Cond.methodLink RJ2 244 yJ2_indexOfCharUnsafe_4cfef) := Wd.of 278 (by decide +kernel)
theorem w_0279 : Wd (Cond.static yJ2_indexOfCharUnsafe_4cfef) := Wd.of 279 (by decide +kernel)
theorem w_0280 : Wd (Cond.code yJ2_indexOfCharUnsafe_4cfef cJ2_indexOfCharUnsafe_4cfef 5 (some FieldType.int)) := Wd.of 280 (by decide +kernel)
theorem w_0281 : Wd (Cond.methodLink RJ2 232 yJ2_indexOfSupplementary_4cfef) := Wd.of 281 (by decide +kernel)
theorem w_0282 : Wd (Cond.static yJ2_indexOfSupplementary_4cfef) := Wd.of 282 (by decide +kernel)
theorem w_0283 : Wd (Cond.code yJ2_indexOfSupplementary_4cfef cJ2_indexOfSupplementary_4cfef 7 (some FieldType.int)) := Wd.of 283 (by decide +kernel)
theorem w_0284 : Wd (Cond.methodLink RJ2 164 yJ11_isValidCodePoint_9a6ad) := Wd.of 284 (by decide +kernel)
theorem w_0285 : Wd (Cond.static yJ11_isValidCodePoint_9a6ad) := Wd.of 285 (by decide +kernel)
theorem w_0286 : Wd (Cond.code yJ11_isValidCodePoint_9a6ad cJ11_isValidCodePoint_9a6ad 2 (some FieldType.boolean)) := Wd.of 286 (by decide +kernel)
theorem w_0287 : Wd (Cond.methodLink RJ2 157 yJ11_highSurrogate_5068e) := Wd.of 287 (by decide +kernel)
theorem w_0288 : Wd (Cond.static yJ11_highSurrogate_5068e) := Wd.of 288 (by decide +kernel)
theorem w_0289 : Wd (Cond.code yJ11_highSurrogate_5068e cJ11_highSurrogate_5068e 1 (some FieldType.char)) := Wd.of 289 (by decide +kernel)
theorem w_0290 : Wd (Cond.constant RJ11 110 (55232 : Int32)) := Wd.of 290 (by decide +kernel)
theorem w_0291 : Wd (Cond.methodLink RJ2 161 yJ11_lowSurrogate_5068e) := Wd.of 291 (by decide +kernel)
theorem w_0292 : Wd (Cond.static yJ11_lowSurrogate_5068e) := Wd.of 292 (by decide +kernel)
theorem w_0293 : Wd (Cond.code yJ11_lowSurrogate_5068e cJ11_lowSurrogate_5068e 1 (some FieldType.char)) := Wd.of 293 (by decide +kernel)
theorem w_0294 : Wd (Cond.constant RJ11 76 (56320 : Int32)) := Wd.of 294 (by decide +kernel)
theorem w_0295 : Wd (Cond.methodLink RX6 38 yX6_part) := Wd.of 295 (by decide +kernel)
theorem w_0297 : Wd (Cond.instanceMethod yX6_part) := Wd.of 297 (by decide +kernel)
theorem w_0298 : Wd (Cond.code yX6_part cX6_part 3 none) := Wd.of 298 (by decide +kernel)
theorem w_0299 : Wd (Cond.methodLink RX6 64 yX6_expect) := Wd.of 299 (by decide +kernel)
theorem w_0301 : Wd (Cond.instanceMethod yX6_expect) := Wd.of 301 (by decide +kernel)
theorem w_0302 : Wd (Cond.code yX6_expect cX6_expect 2 none) := Wd.of 302 (by decide +kernel)
theorem w_0303 : Wd (Cond.methodLink RX6 45 yX6_refuse) := Wd.of 303 (by decide +kernel)
theorem w_0305 : Wd (Cond.instanceMethod yX6_refuse) := Wd.of 305 (by decide +kernel)
theorem w_0306 : Wd (Cond.code yX6_refuse cX6_refuse 1 none) := Wd.of 306 (by decide +kernel)
theorem w_0307 : Wd (Cond.methodLink RX6 68 yX6_either) := Wd.of 307 (by decide +kernel)
theorem w_0309 : Wd (Cond.instanceMethod yX6_either) := Wd.of 309 (by decide +kernel)
theorem w_0310 : Wd (Cond.code yX6_either cX6_either 3 none) := Wd.of 310 (by decide +kernel)
theorem w_0311 : Wd (Cond.methodLink RX6 74 yX6_both) := Wd.of 311 (by decide +kernel)
theorem w_0313 : Wd (Cond.instanceMethod yX6_both) := Wd.of 313 (by decide +kernel)
theorem w_0314 : Wd (Cond.code yX6_both cX6_both 3 none) := Wd.of 314 (by decide +kernel)
theorem w_0315 : Wd (Cond.methodLink RX6 80 yX6_denied) := Wd.of 315 (by decide +kernel)
theorem w_0317 : Wd (Cond.instanceMethod yX6_denied) := Wd.of 317 (by decide +kernel)
theorem w_0318 : Wd (Cond.code yX6_denied cX6_denied 3 none) := Wd.of 318 (by decide +kernel)
theorem w_0319 : Wd (Cond.methodLink RX6 77 yX6_emit) := Wd.of 319 (by decide +kernel)
theorem w_0321 : Wd (Cond.instanceMethod yX6_emit) := Wd.of 321 (by decide +kernel)
theorem w_0322 : Wd (Cond.code yX6_emit cX6_emit 2 none) := Wd.of 322 (by decide +kernel)
theorem w_0323 : Wd (Cond.methodLink RX6 83 yX6_sum) := Wd.of 323 (by decide +kernel)
theorem w_0325 : Wd (Cond.instanceMethod yX6_sum) := Wd.of 325 (by decide +kernel)
theorem w_0326 : Wd (Cond.code yX6_sum cX6_sum 4 none) := Wd.of 326 (by decide +kernel)
theorem w_0327 : Wd (Cond.methodLink RX6 86 yX6_term) := Wd.of 327 (by decide +kernel)
theorem w_0329 : Wd (Cond.instanceMethod yX6_term) := Wd.of 329 (by decide +kernel)
theorem w_0330 : Wd (Cond.code yX6_term cX6_term 3 none) := Wd.of 330 (by decide +kernel)
theorem w_0331 : Wd (Cond.methodLink RX6 89 yX6_one) := Wd.of 331 (by decide +kernel)
theorem w_0333 : Wd (Cond.instanceMethod yX6_one) := Wd.of 333 (by decide +kernel)
theorem w_0334 : Wd (Cond.code yX6_one cX6_one 2 none) := Wd.of 334 (by decide +kernel)
theorem w_0335 : Wd (Cond.methodLink RX11 47 yX6_made) := Wd.of 335 (by decide +kernel)
theorem w_0336 : Wd (Cond.instanceMethod yX6_made) := Wd.of 336 (by decide +kernel)
theorem w_0337 : Wd (Cond.selects RX6 yX6_made yX6_made) := Wd.of 337 (by decide +kernel)
theorem w_0338 : Wd (Cond.code yX6_made cX6_made 2 (some (FieldType.object "NestsByKnots$Text"))) := Wd.of 338 (by decide +kernel)
theorem w_0339 : Wd (Cond.classLink RX6 48 "NestsByKnots$Text") := Wd.of 339 (by decide +kernel)
theorem w_0340 : Wd (Cond.instantiable RX9 3) := Wd.of 340 (by decide +kernel)
theorem w_0341 : Wd (Cond.methodLink RX6 50 yJ7_copyOf_59c91) := Wd.of 341 (by decide +kernel)
theorem w_0342 : Wd (Cond.static yJ7_copyOf_59c91) := Wd.of 342 (by decide +kernel)
theorem w_0343 : Wd (Cond.code yJ7_copyOf_59c91 cJ7_copyOf_59c91 3 (some (FieldType.array FieldType.int))) := Wd.of 343 (by decide +kernel)
theorem w_0344 : Wd (Cond.methodLink RJ7 316 ⟨"[I", "clone", "()Ljava/lang/Object;"⟩) := Wd.of 344 (by decide +kernel)
theorem w_0345 : Wd (Cond.sameMethod "[I" "java/lang/Object" "clone" "()Ljava/lang/Object;") := Wd.of 345 (by decide +kernel)
theorem w_0346 : Wd (Cond.native ⟨"java/lang/Object", "clone", "()Ljava/lang/Object;"⟩) := Wd.of 346 (by decide +kernel)
theorem w_0347 : Wd (Cond.instanceMethod ⟨"java/lang/Object", "clone", "()Ljava/lang/Object;"⟩) := Wd.of 347 (by decide +kernel)
theorem w_0348 : Wd (Cond.selects "[I" ⟨"[I", "clone", "()Ljava/lang/Object;"⟩ ⟨"java/lang/Object", "clone", "()Ljava/lang/Object;"⟩) := Wd.of 348 (by decide +kernel)
theorem w_0350 : Wd (Cond.classLink RJ7 317 "[I") := Wd.of 350 (by decide +kernel)
theorem w_0351 : Wd (Cond.methodLink RJ7 304 yJ9_min_7cf53) := Wd.of 351 (by decide +kernel)
theorem w_0352 : Wd (Cond.methodLink RJ7 150 ⟨"java/lang/System", "arraycopy", "(Ljava/lang/Object;ILjava/lang/Object;II)V"⟩) := Wd.of 352 (by decide +kernel)
theorem w_0353 : Wd (Cond.static ⟨"java/lang/System", "arraycopy", "(Ljava/lang/Object;ILjava/lang/Object;II)V"⟩) := Wd.of 353 (by decide +kernel)
theorem w_0354 : Wd (Cond.native ⟨"java/lang/System", "arraycopy", "(Ljava/lang/Object;ILjava/lang/Object;II)V"⟩) := Wd.of 354 (by decide +kernel)
theorem w_0355 : Wd (Cond.methodLink RX6 56 ⟨"[I", "clone", "()Ljava/lang/Object;"⟩) := Wd.of 355 (by decide +kernel)
theorem w_0356 : Wd (Cond.classLink RX6 57 "[I") := Wd.of 356 (by decide +kernel)
theorem w_0357 : Wd (Cond.methodLink RX6 61 yX9_init) := Wd.of 357 (by decide +kernel)
theorem w_0358 : Wd (Cond.instanceMethod yX9_init) := Wd.of 358 (by decide +kernel)
theorem w_0359 : Wd (Cond.code yX9_init cX9_init 4 none) := Wd.of 359 (by decide +kernel)
theorem w_0360 : Wd (Cond.methodLink RX9 3 ⟨"java/lang/Object", "<init>", "()V"⟩) := Wd.of 360 (by decide +kernel)
theorem w_0361 : Wd (Cond.fieldLink RX9 9 "NestsByKnots$Text" "number" "I") := Wd.of 361 (by decide +kernel)
theorem w_0362 : Wd (Cond.fieldLink RX11 161 "NestsByKnots$Text" "number" "I") := Wd.of 362 (by decide +kernel)
theorem w_0363 : Wd (Cond.fieldLink RX9 15 "NestsByKnots$Text" "code" "[I") := Wd.of 363 (by decide +kernel)
theorem w_0364 : Wd (Cond.fieldLink RX9 19 "NestsByKnots$Text" "ends" "[I") := Wd.of 364 (by decide +kernel)
theorem w_0365 : Wd (Cond.laysFinal RX9 "NestsByKnots$Text" "number" "I") := Wd.of 365 (by decide +kernel)
theorem w_0367 : Wd (Cond.laysFinal RX9 "NestsByKnots$Text" "code" "[I") := Wd.of 367 (by decide +kernel)
theorem w_0369 : Wd (Cond.laysFinal RX9 "NestsByKnots$Text" "ends" "[I") := Wd.of 369 (by decide +kernel)
theorem w_0371 : Wd (Cond.superclass RX9 "java/lang/Object") := Wd.of 371 (by decide +kernel)
theorem w_0372 : Wd (Cond.classLink RX11 55 "NestsByKnots$Net") := Wd.of 372 (by decide +kernel)
theorem w_0373 : Wd (Cond.instantiable RX4 11) := Wd.of 373 (by decide +kernel)
theorem w_0374 : Wd (Cond.methodLink RX11 57 yX4_init) := Wd.of 374 (by decide +kernel)
theorem w_0375 : Wd (Cond.instanceMethod yX4_init) := Wd.of 375 (by decide +kernel)
theorem w_0376 : Wd (Cond.code yX4_init cX4_init 2 none) := Wd.of 376 (by decide +kernel)
theorem w_0377 : Wd (Cond.methodLink RX4 3 ⟨"java/lang/Object", "<init>", "()V"⟩) := Wd.of 377 (by decide +kernel)
theorem w_0378 : Wd (Cond.classLink RX4 9 "NestsByKnots$Tuck") := Wd.of 378 (by decide +kernel)
theorem w_0380 : Wd (Cond.classLink RX4 37 "NestsByKnots$Choice") := Wd.of 380 (by decide +kernel)
theorem w_0381 : Wd (Cond.instantiable RX0 2) := Wd.of 381 (by decide +kernel)
theorem w_0383 : Wd (Cond.instanceMethod yX0_init) := Wd.of 383 (by decide +kernel)
theorem w_0384 : Wd (Cond.code yX0_init cX0_init 1 none) := Wd.of 384 (by decide +kernel)
theorem w_0385 : Wd (Cond.methodLink RX0 3 ⟨"java/lang/Object", "<init>", "()V"⟩) := Wd.of 385 (by decide +kernel)
theorem w_0386 : Wd (Cond.fieldLink RX0 9 "NestsByKnots$Choice" "where" "I") := Wd.of 386 (by decide +kernel)
theorem w_0387 : Wd (Cond.fieldLink RX11 205 "NestsByKnots$Choice" "where" "I") := Wd.of 387 (by decide +kernel)
theorem w_0388 : Wd (Cond.fieldLink RX0 15 "NestsByKnots$Choice" "worth" "I") := Wd.of 388 (by decide +kernel)
theorem w_0389 : Wd (Cond.fieldLink RX11 217 "NestsByKnots$Choice" "worth" "I") := Wd.of 389 (by decide +kernel)
theorem w_0390 : Wd (Cond.lays RX0 "NestsByKnots$Choice" "where" "I") := Wd.of 390 (by decide +kernel)
theorem w_0392 : Wd (Cond.lays RX0 "NestsByKnots$Choice" "worth" "I") := Wd.of 392 (by decide +kernel)
theorem w_0394 : Wd (Cond.superclass RX0 "java/lang/Object") := Wd.of 394 (by decide +kernel)
theorem w_0395 : Wd (Cond.fieldLink RX4 11 "NestsByKnots$Net" "knots" "[LNestsByKnots$Tuck;") := Wd.of 395 (by decide +kernel)
theorem w_0396 : Wd (Cond.fieldLink RX11 100 "NestsByKnots$Net" "knots" "[LNestsByKnots$Tuck;") := Wd.of 396 (by decide +kernel)
theorem w_0397 : Wd (Cond.fieldLink RX4 17 "NestsByKnots$Net" "wheres" "[I") := Wd.of 397 (by decide +kernel)
theorem w_0398 : Wd (Cond.fieldLink RX11 113 "NestsByKnots$Net" "wheres" "[I") := Wd.of 398 (by decide +kernel)
theorem w_0399 : Wd (Cond.fieldLink RX4 21 "NestsByKnots$Net" "laidAt" "[I") := Wd.of 399 (by decide +kernel)
theorem w_0400 : Wd (Cond.fieldLink RX4 24 "NestsByKnots$Net" "lying" "[I") := Wd.of 400 (by decide +kernel)
theorem w_0401 : Wd (Cond.fieldLink RX11 152 "NestsByKnots$Net" "lying" "[I") := Wd.of 401 (by decide +kernel)
theorem w_0402 : Wd (Cond.fieldLink RX4 48 "NestsByKnots$Net" "all" "I") := Wd.of 402 (by decide +kernel)
theorem w_0403 : Wd (Cond.fieldLink RX11 132 "NestsByKnots$Net" "all" "I") := Wd.of 403 (by decide +kernel)
theorem w_0404 : Wd (Cond.fieldLink RX11 94 "NestsByKnots$Net" "hour" "I") := Wd.of 404 (by decide +kernel)
theorem w_0405 : Wd (Cond.fieldLink RX4 57 "NestsByKnots$Net" "hour" "I") := Wd.of 405 (by decide +kernel)
theorem w_0406 : Wd (Cond.fieldLink RX4 27 "NestsByKnots$Net" "greenBelow" "I") := Wd.of 406 (by decide +kernel)
theorem w_0407 : Wd (Cond.fieldLink RX11 97 "NestsByKnots$Net" "greenBelow" "I") := Wd.of 407 (by decide +kernel)
theorem w_0408 : Wd (Cond.fieldLink RX4 44 "NestsByKnots$Net" "rule" "LNestsByKnots$Text;") := Wd.of 408 (by decide +kernel)
theorem w_0409 : Wd (Cond.fieldLink RX11 157 "NestsByKnots$Net" "rule" "LNestsByKnots$Text;") := Wd.of 409 (by decide +kernel)
theorem w_0410 : Wd (Cond.fieldLink RX4 31 "NestsByKnots$Net" "names" "[I") := Wd.of 410 (by decide +kernel)
theorem w_0411 : Wd (Cond.fieldLink RX4 34 "NestsByKnots$Net" "stack" "[I") := Wd.of 411 (by decide +kernel)
theorem w_0412 : Wd (Cond.fieldLink RX4 40 "NestsByKnots$Net" "choice" "LNestsByKnots$Choice;") := Wd.of 412 (by decide +kernel)
theorem w_0413 : Wd (Cond.laysFinal RX4 "NestsByKnots$Net" "knots" "[LNestsByKnots$Tuck;") := Wd.of 413 (by decide +kernel)
theorem w_0415 : Wd (Cond.laysFinal RX4 "NestsByKnots$Net" "wheres" "[I") := Wd.of 415 (by decide +kernel)
theorem w_0417 : Wd (Cond.laysFinal RX4 "NestsByKnots$Net" "laidAt" "[I") := Wd.of 417 (by decide +kernel)
theorem w_0419 : Wd (Cond.laysFinal RX4 "NestsByKnots$Net" "lying" "[I") := Wd.of 419 (by decide +kernel)
theorem w_0421 : Wd (Cond.lays RX4 "NestsByKnots$Net" "all" "I") := Wd.of 421 (by decide +kernel)
theorem w_0423 : Wd (Cond.lays RX4 "NestsByKnots$Net" "hour" "I") := Wd.of 423 (by decide +kernel)
theorem w_0425 : Wd (Cond.lays RX4 "NestsByKnots$Net" "greenBelow" "I") := Wd.of 425 (by decide +kernel)
theorem w_0427 : Wd (Cond.lays RX4 "NestsByKnots$Net" "rule" "LNestsByKnots$Text;") := Wd.of 427 (by decide +kernel)
theorem w_0429 : Wd (Cond.laysFinal RX4 "NestsByKnots$Net" "names" "[I") := Wd.of 429 (by decide +kernel)
theorem w_0431 : Wd (Cond.laysFinal RX4 "NestsByKnots$Net" "stack" "[I") := Wd.of 431 (by decide +kernel)
theorem w_0433 : Wd (Cond.laysFinal RX4 "NestsByKnots$Net" "choice" "LNestsByKnots$Choice;") := Wd.of 433 (by decide +kernel)
theorem w_0435 : Wd (Cond.superclass RX4 "java/lang/Object") := Wd.of 435 (by decide +kernel)
theorem w_0436 : Wd (Cond.instantiable RX7 3) := Wd.of 436 (by decide +kernel)
theorem w_0438 : Wd (Cond.instanceMethod yX7_init) := Wd.of 438 (by decide +kernel)
theorem w_0439 : Wd (Cond.code yX7_init cX7_init 1 none) := Wd.of 439 (by decide +kernel)
theorem w_0440 : Wd (Cond.methodLink RX7 3 ⟨"java/lang/Object", "<init>", "()V"⟩) := Wd.of 440 (by decide +kernel)
theorem w_0441 : Wd (Cond.fieldLink RX7 9 "NestsByKnots$Sheet" "sort" "I") := Wd.of 441 (by decide +kernel)
theorem w_0442 : Wd (Cond.fieldLink RX11 256 "NestsByKnots$Sheet" "sort" "I") := Wd.of 442 (by decide +kernel)
theorem w_0443 : Wd (Cond.fieldLink RX7 19 "NestsByKnots$Sheet" "size" "I") := Wd.of 443 (by decide +kernel)
theorem w_0444 : Wd (Cond.fieldLink RX11 259 "NestsByKnots$Sheet" "size" "I") := Wd.of 444 (by decide +kernel)
theorem w_0445 : Wd (Cond.fieldLink RX7 15 "NestsByKnots$Sheet" "items" "[I") := Wd.of 445 (by decide +kernel)
theorem w_0446 : Wd (Cond.fieldLink RX11 266 "NestsByKnots$Sheet" "items" "[I") := Wd.of 446 (by decide +kernel)
theorem w_0447 : Wd (Cond.lays RX7 "NestsByKnots$Sheet" "sort" "I") := Wd.of 447 (by decide +kernel)
theorem w_0449 : Wd (Cond.lays RX7 "NestsByKnots$Sheet" "size" "I") := Wd.of 449 (by decide +kernel)
theorem w_0451 : Wd (Cond.laysFinal RX7 "NestsByKnots$Sheet" "items" "[I") := Wd.of 451 (by decide +kernel)
theorem w_0453 : Wd (Cond.superclass RX7 "java/lang/Object") := Wd.of 453 (by decide +kernel)
theorem w_0454 : Wd (Cond.fieldLink RX11 10 "NestsByKnots" "reader" "LNestsByKnots$Reader;") := Wd.of 454 (by decide +kernel)
theorem w_0455 : Wd (Cond.fieldLink RX11 18 "NestsByKnots" "texts" "[LNestsByKnots$Text;") := Wd.of 455 (by decide +kernel)
theorem w_0456 : Wd (Cond.fieldLink RX11 51 "NestsByKnots" "textsMade" "I") := Wd.of 456 (by decide +kernel)
theorem w_0457 : Wd (Cond.fieldLink RX11 60 "NestsByKnots" "net" "LNestsByKnots$Net;") := Wd.of 457 (by decide +kernel)
theorem w_0458 : Wd (Cond.fieldLink RX11 64 "NestsByKnots" "kept" "LNestsByKnots$Net;") := Wd.of 458 (by decide +kernel)
theorem w_0459 : Wd (Cond.fieldLink RX11 240 "NestsByKnots" "keeps" "Z") := Wd.of 459 (by decide +kernel)
theorem w_0460 : Wd (Cond.fieldLink RX11 24 "NestsByKnots" "sheets" "[LNestsByKnots$Sheet;") := Wd.of 460 (by decide +kernel)
theorem w_0461 : Wd (Cond.laysFinal RX11 "NestsByKnots" "reader" "LNestsByKnots$Reader;") := Wd.of 461 (by decide +kernel)
theorem w_0463 : Wd (Cond.laysFinal RX11 "NestsByKnots" "texts" "[LNestsByKnots$Text;") := Wd.of 463 (by decide +kernel)
theorem w_0465 : Wd (Cond.lays RX11 "NestsByKnots" "textsMade" "I") := Wd.of 465 (by decide +kernel)
theorem w_0467 : Wd (Cond.laysFinal RX11 "NestsByKnots" "net" "LNestsByKnots$Net;") := Wd.of 467 (by decide +kernel)
theorem w_0469 : Wd (Cond.laysFinal RX11 "NestsByKnots" "kept" "LNestsByKnots$Net;") := Wd.of 469 (by decide +kernel)
theorem w_0471 : Wd (Cond.lays RX11 "NestsByKnots" "keeps" "Z") := Wd.of 471 (by decide +kernel)
theorem w_0473 : Wd (Cond.laysFinal RX11 "NestsByKnots" "sheets" "[LNestsByKnots$Sheet;") := Wd.of 473 (by decide +kernel)
theorem w_0475 : Wd (Cond.superclass RX11 "java/lang/Object") := Wd.of 475 (by decide +kernel)
theorem w_0476 : Wd (Cond.methodLink RL 13 yX11_lay) := Wd.of 476 (by decide +kernel)
theorem w_0477 : Wd (Cond.instanceMethod yX11_lay) := Wd.of 477 (by decide +kernel)
theorem w_0478 : Wd (Cond.selects RX11 yX11_lay yX11_lay) := Wd.of 478 (by decide +kernel)
theorem w_0479 : Wd (Cond.code yX11_lay cX11_lay 5 (some FieldType.int)) := Wd.of 479 (by decide +kernel)
theorem w_0480 : Wd (Cond.methodLink RX11 68 yX11_canBeLaid) := Wd.of 480 (by decide +kernel)
theorem w_0481 : Wd (Cond.static yX11_canBeLaid) := Wd.of 481 (by decide +kernel)
theorem w_0482 : Wd (Cond.code yX11_canBeLaid cX11_canBeLaid 3 (some FieldType.boolean)) := Wd.of 482 (by decide +kernel)
theorem w_0483 : Wd (Cond.methodLink RX11 210 yX11_isKnot) := Wd.of 483 (by decide +kernel)
theorem w_0484 : Wd (Cond.static yX11_isKnot) := Wd.of 484 (by decide +kernel)
theorem w_0485 : Wd (Cond.code yX11_isKnot cX11_isKnot 2 (some FieldType.boolean)) := Wd.of 485 (by decide +kernel)
theorem w_0486 : Wd (Cond.methodLink RX11 190 yX11_fits) := Wd.of 486 (by decide +kernel)
theorem w_0487 : Wd (Cond.static yX11_fits) := Wd.of 487 (by decide +kernel)
theorem w_0488 : Wd (Cond.code yX11_fits cX11_fits 3 (some FieldType.boolean)) := Wd.of 488 (by decide +kernel)
theorem w_0489 : Wd (Cond.methodLink RX11 283 yX11_firstOf) := Wd.of 489 (by decide +kernel)
theorem w_0490 : Wd (Cond.static yX11_firstOf) := Wd.of 490 (by decide +kernel)
theorem w_0491 : Wd (Cond.code yX11_firstOf cX11_firstOf 1 (some FieldType.int)) := Wd.of 491 (by decide +kernel)
theorem w_0492 : Wd (Cond.methodLink RX11 149 yX11_isCrossing) := Wd.of 492 (by decide +kernel)
theorem w_0493 : Wd (Cond.static yX11_isCrossing) := Wd.of 493 (by decide +kernel)
theorem w_0494 : Wd (Cond.code yX11_isCrossing cX11_isCrossing 1 (some FieldType.boolean)) := Wd.of 494 (by decide +kernel)
theorem w_0495 : Wd (Cond.methodLink RX11 286 yX11_wayOf) := Wd.of 495 (by decide +kernel)
theorem w_0496 : Wd (Cond.static yX11_wayOf) := Wd.of 496 (by decide +kernel)
theorem w_0497 : Wd (Cond.code yX11_wayOf cX11_wayOf 1 (some FieldType.int)) := Wd.of 497 (by decide +kernel)
theorem w_0498 : Wd (Cond.methodLink RX11 289 yX11_longOf) := Wd.of 498 (by decide +kernel)
theorem w_0499 : Wd (Cond.static yX11_longOf) := Wd.of 499 (by decide +kernel)
theorem w_0500 : Wd (Cond.code yX11_longOf cX11_longOf 1 (some FieldType.int)) := Wd.of 500 (by decide +kernel)
theorem w_0501 : Wd (Cond.methodLink RX11 198 yX11_isLong) := Wd.of 501 (by decide +kernel)
theorem w_0502 : Wd (Cond.static yX11_isLong) := Wd.of 502 (by decide +kernel)
theorem w_0503 : Wd (Cond.code yX11_isLong cX11_isLong 1 (some FieldType.boolean)) := Wd.of 503 (by decide +kernel)
theorem w_0504 : Wd (Cond.methodLink RX11 72 yX4_leastFree) := Wd.of 504 (by decide +kernel)
theorem w_0505 : Wd (Cond.instanceMethod yX4_leastFree) := Wd.of 505 (by decide +kernel)
theorem w_0506 : Wd (Cond.selects RX4 yX4_leastFree yX4_leastFree) := Wd.of 506 (by decide +kernel)
theorem w_0507 : Wd (Cond.code yX4_leastFree cX4_leastFree 2 (some FieldType.int)) := Wd.of 507 (by decide +kernel)
theorem w_0508 : Wd (Cond.methodLink RX11 75 yX11_knotOf) := Wd.of 508 (by decide +kernel)
theorem w_0509 : Wd (Cond.static yX11_knotOf) := Wd.of 509 (by decide +kernel)
theorem w_0510 : Wd (Cond.code yX11_knotOf cX11_knotOf 2 (some (FieldType.object "NestsByKnots$Tuck"))) := Wd.of 510 (by decide +kernel)
theorem w_0511 : Wd (Cond.classLink RX11 292 "NestsByKnots$Loop") := Wd.of 511 (by decide +kernel)
theorem w_0512 : Wd (Cond.instantiable RX3 1) := Wd.of 512 (by decide +kernel)
theorem w_0513 : Wd (Cond.methodLink RX11 294 yX3_init) := Wd.of 513 (by decide +kernel)
theorem w_0514 : Wd (Cond.instanceMethod yX3_init) := Wd.of 514 (by decide +kernel)
theorem w_0515 : Wd (Cond.code yX3_init cX3_init 2 none) := Wd.of 515 (by decide +kernel)
theorem w_0516 : Wd (Cond.methodLink RX3 1 yX10_init) := Wd.of 516 (by decide +kernel)
theorem w_0517 : Wd (Cond.instanceMethod yX10_init) := Wd.of 517 (by decide +kernel)
theorem w_0518 : Wd (Cond.code yX10_init cX10_init 2 none) := Wd.of 518 (by decide +kernel)
theorem w_0519 : Wd (Cond.methodLink RX10 1 ⟨"java/lang/Object", "<init>", "()V"⟩) := Wd.of 519 (by decide +kernel)
theorem w_0520 : Wd (Cond.fieldLink RX10 7 "NestsByKnots$Tuck" "number" "I") := Wd.of 520 (by decide +kernel)
theorem w_0521 : Wd (Cond.fieldLink RX1 11 "NestsByKnots$DoubleHitch" "number" "I") := Wd.of 521 (by decide +kernel)
theorem w_0522 : Wd (Cond.sameField RX1 "NestsByKnots$Tuck" "number" "I") := Wd.of 522 (by decide +kernel)
theorem w_0523 : Wd (Cond.fieldLink RX5 11 "NestsByKnots$Play" "number" "I") := Wd.of 523 (by decide +kernel)
theorem w_0524 : Wd (Cond.sameField RX5 "NestsByKnots$Tuck" "number" "I") := Wd.of 524 (by decide +kernel)
theorem w_0525 : Wd (Cond.fieldLink RX11 282 "NestsByKnots$Tuck" "number" "I") := Wd.of 525 (by decide +kernel)
theorem w_0526 : Wd (Cond.laysFinal RX3 "NestsByKnots$Tuck" "number" "I") := Wd.of 526 (by decide +kernel)
theorem w_0528 : Wd (Cond.superclass RX3 "NestsByKnots$Tuck") := Wd.of 528 (by decide +kernel)
theorem w_0529 : Wd (Cond.classLink RX11 296 "NestsByKnots$Hitch") := Wd.of 529 (by decide +kernel)
theorem w_0530 : Wd (Cond.instantiable RX2 1) := Wd.of 530 (by decide +kernel)
theorem w_0531 : Wd (Cond.methodLink RX11 298 yX2_init) := Wd.of 531 (by decide +kernel)
theorem w_0532 : Wd (Cond.instanceMethod yX2_init) := Wd.of 532 (by decide +kernel)
theorem w_0533 : Wd (Cond.code yX2_init cX2_init 2 none) := Wd.of 533 (by decide +kernel)
theorem w_0534 : Wd (Cond.methodLink RX2 1 yX3_init) := Wd.of 534 (by decide +kernel)
theorem w_0535 : Wd (Cond.laysFinal RX2 "NestsByKnots$Tuck" "number" "I") := Wd.of 535 (by decide +kernel)
theorem w_0536 : Wd (Cond.superclass RX2 "NestsByKnots$Loop") := Wd.of 536 (by decide +kernel)
theorem w_0537 : Wd (Cond.classLink RX11 299 "NestsByKnots$Slip") := Wd.of 537 (by decide +kernel)
theorem w_0538 : Wd (Cond.instantiable RX8 1) := Wd.of 538 (by decide +kernel)
theorem w_0539 : Wd (Cond.methodLink RX11 301 yX8_init) := Wd.of 539 (by decide +kernel)
theorem w_0540 : Wd (Cond.instanceMethod yX8_init) := Wd.of 540 (by decide +kernel)
theorem w_0541 : Wd (Cond.code yX8_init cX8_init 2 none) := Wd.of 541 (by decide +kernel)
theorem w_0542 : Wd (Cond.methodLink RX8 1 yX3_init) := Wd.of 542 (by decide +kernel)
theorem w_0543 : Wd (Cond.laysFinal RX8 "NestsByKnots$Tuck" "number" "I") := Wd.of 543 (by decide +kernel)
theorem w_0544 : Wd (Cond.superclass RX8 "NestsByKnots$Loop") := Wd.of 544 (by decide +kernel)
theorem w_0545 : Wd (Cond.classLink RX11 302 "NestsByKnots$DoubleHitch") := Wd.of 545 (by decide +kernel)
theorem w_0546 : Wd (Cond.instantiable RX1 1) := Wd.of 546 (by decide +kernel)
theorem w_0547 : Wd (Cond.methodLink RX11 304 yX1_init) := Wd.of 547 (by decide +kernel)
theorem w_0548 : Wd (Cond.instanceMethod yX1_init) := Wd.of 548 (by decide +kernel)
theorem w_0549 : Wd (Cond.code yX1_init cX1_init 2 none) := Wd.of 549 (by decide +kernel)
theorem w_0550 : Wd (Cond.methodLink RX1 1 yX2_init) := Wd.of 550 (by decide +kernel)
theorem w_0551 : Wd (Cond.laysFinal RX1 "NestsByKnots$Tuck" "number" "I") := Wd.of 551 (by decide +kernel)
theorem w_0552 : Wd (Cond.superclass RX1 "NestsByKnots$Hitch") := Wd.of 552 (by decide +kernel)
theorem w_0553 : Wd (Cond.classLink RX11 305 "NestsByKnots$Play") := Wd.of 553 (by decide +kernel)
theorem w_0554 : Wd (Cond.instantiable RX5 1) := Wd.of 554 (by decide +kernel)
theorem w_0555 : Wd (Cond.methodLink RX11 307 yX5_init) := Wd.of 555 (by decide +kernel)
theorem w_0556 : Wd (Cond.instanceMethod yX5_init) := Wd.of 556 (by decide +kernel)
theorem w_0557 : Wd (Cond.code yX5_init cX5_init 2 none) := Wd.of 557 (by decide +kernel)
theorem w_0558 : Wd (Cond.methodLink RX5 1 yX10_init) := Wd.of 558 (by decide +kernel)
theorem w_0559 : Wd (Cond.laysFinal RX5 "NestsByKnots$Tuck" "number" "I") := Wd.of 559 (by decide +kernel)
theorem w_0560 : Wd (Cond.superclass RX5 "NestsByKnots$Tuck") := Wd.of 560 (by decide +kernel)
theorem w_0561 : Wd (Cond.classLink RX11 109 "NestsByKnots$Tuck") := Wd.of 561 (by decide +kernel)
theorem w_0562 : Wd (Cond.instantiable RX10 1) := Wd.of 562 (by decide +kernel)
theorem w_0563 : Wd (Cond.methodLink RX11 308 yX10_init) := Wd.of 563 (by decide +kernel)
theorem w_0564 : Wd (Cond.laysFinal RX10 "NestsByKnots$Tuck" "number" "I") := Wd.of 564 (by decide +kernel)
theorem w_0565 : Wd (Cond.superclass RX10 "java/lang/Object") := Wd.of 565 (by decide +kernel)
theorem w_0566 : Wd (Cond.methodLink RX11 79 yX4_put) := Wd.of 566 (by decide +kernel)
theorem w_0567 : Wd (Cond.instanceMethod yX4_put) := Wd.of 567 (by decide +kernel)
theorem w_0568 : Wd (Cond.selects RX4 yX4_put yX4_put) := Wd.of 568 (by decide +kernel)
theorem w_0569 : Wd (Cond.code yX4_put cX4_put 5 none) := Wd.of 569 (by decide +kernel)
theorem w_0573 : Wd (Cond.static yX11_stepOf) := Wd.of 573 (by decide +kernel)
theorem w_0574 : Wd (Cond.code yX11_stepOf cX11_stepOf 1 (some FieldType.int)) := Wd.of 574 (by decide +kernel)
theorem w_0575 : Wd (Cond.methodLink RL 18 yX11_out) := Wd.of 575 (by decide +kernel)
theorem w_0576 : Wd (Cond.instanceMethod yX11_out) := Wd.of 576 (by decide +kernel)
theorem w_0577 : Wd (Cond.selects RX11 yX11_out yX11_out) := Wd.of 577 (by decide +kernel)
theorem w_0578 : Wd (Cond.code yX11_out cX11_out 2 (some FieldType.int)) := Wd.of 578 (by decide +kernel)
theorem w_0579 : Wd (Cond.methodLink RX11 83 yX4_has) := Wd.of 579 (by decide +kernel)
theorem w_0580 : Wd (Cond.instanceMethod yX4_has) := Wd.of 580 (by decide +kernel)
theorem w_0581 : Wd (Cond.selects RX4 yX4_has yX4_has) := Wd.of 581 (by decide +kernel)
theorem w_0582 : Wd (Cond.code yX4_has cX4_has 2 (some FieldType.boolean)) := Wd.of 582 (by decide +kernel)
theorem w_0583 : Wd (Cond.methodLink RX11 87 yX4_drop) := Wd.of 583 (by decide +kernel)
theorem w_0584 : Wd (Cond.instanceMethod yX4_drop) := Wd.of 584 (by decide +kernel)
theorem w_0585 : Wd (Cond.selects RX4 yX4_drop yX4_drop) := Wd.of 585 (by decide +kernel)
theorem w_0586 : Wd (Cond.code yX4_drop cX4_drop 3 none) := Wd.of 586 (by decide +kernel)
theorem w_0587 : Wd (Cond.methodLink RX11 91 yX4_size) := Wd.of 587 (by decide +kernel)
theorem w_0588 : Wd (Cond.instanceMethod yX4_size) := Wd.of 588 (by decide +kernel)
theorem w_0589 : Wd (Cond.selects RX4 yX4_size yX4_size) := Wd.of 589 (by decide +kernel)
theorem w_0590 : Wd (Cond.code yX4_size cX4_size 1 (some FieldType.int)) := Wd.of 590 (by decide +kernel)
theorem w_0591 : Wd (Cond.methodLink RX4 51 yJ6_bitCount_0f7a4) := Wd.of 591 (by decide +kernel)
theorem w_0592 : Wd (Cond.static yJ6_bitCount_0f7a4) := Wd.of 592 (by decide +kernel)
theorem w_0593 : Wd (Cond.code yJ6_bitCount_0f7a4 cJ6_bitCount_0f7a4 1 (some FieldType.int)) := Wd.of 593 (by decide +kernel)
theorem w_0594 : Wd (Cond.constant RJ6 265 (1431655765 : Int32)) := Wd.of 594 (by decide +kernel)
theorem w_0595 : Wd (Cond.constant RJ6 266 (858993459 : Int32)) := Wd.of 595 (by decide +kernel)
theorem w_0596 : Wd (Cond.constant RJ6 267 (252645135 : Int32)) := Wd.of 596 (by decide +kernel)
theorem w_0597 : Wd (Cond.methodLink RL 23 yX11_hours) := Wd.of 597 (by decide +kernel)
theorem w_0598 : Wd (Cond.instanceMethod yX11_hours) := Wd.of 598 (by decide +kernel)
theorem w_0599 : Wd (Cond.selects RX11 yX11_hours yX11_hours) := Wd.of 599 (by decide +kernel)
theorem w_0600 : Wd (Cond.code yX11_hours cX11_hours 2 (some FieldType.int)) := Wd.of 600 (by decide +kernel)
theorem w_0601 : Wd (Cond.methodLink RL 27 yX11_green) := Wd.of 601 (by decide +kernel)
theorem w_0602 : Wd (Cond.instanceMethod yX11_green) := Wd.of 602 (by decide +kernel)
theorem w_0603 : Wd (Cond.selects RX11 yX11_green yX11_green) := Wd.of 603 (by decide +kernel)
theorem w_0604 : Wd (Cond.code yX11_green cX11_green 3 (some FieldType.int)) := Wd.of 604 (by decide +kernel)
theorem w_0605 : Wd (Cond.methodLink RL 31 yX11_told) := Wd.of 605 (by decide +kernel)
theorem w_0606 : Wd (Cond.instanceMethod yX11_told) := Wd.of 606 (by decide +kernel)
theorem w_0607 : Wd (Cond.selects RX11 yX11_told yX11_told) := Wd.of 607 (by decide +kernel)
theorem w_0608 : Wd (Cond.code yX11_told cX11_told 5 (some FieldType.int)) := Wd.of 608 (by decide +kernel)
theorem w_0609 : Wd (Cond.methodLink RX11 104 yX4_ageOf) := Wd.of 609 (by decide +kernel)
theorem w_0610 : Wd (Cond.instanceMethod yX4_ageOf) := Wd.of 610 (by decide +kernel)
theorem w_0611 : Wd (Cond.selects RX4 yX4_ageOf yX4_ageOf) := Wd.of 611 (by decide +kernel)
theorem w_0612 : Wd (Cond.code yX4_ageOf cX4_ageOf 3 (some FieldType.int)) := Wd.of 612 (by decide +kernel)
theorem w_0613 : Wd (Cond.methodLink RX11 108 yX10_kind) := Wd.of 613 (by decide +kernel)
theorem w_0614 : Wd (Cond.instanceMethod yX10_kind) := Wd.of 614 (by decide +kernel)
theorem w_0615 : Wd (Cond.selects RX10 yX10_kind yX10_kind) := Wd.of 615 (by decide +kernel)
theorem w_0616 : Wd (Cond.sameMethod RX10 "NestsByKnots$Tuck" "kind" "()I") := Wd.of 616 (by decide +kernel)
theorem w_0617 : Wd (Cond.selects RX1 yX10_kind yX1_kind) := Wd.of 617 (by decide +kernel)
theorem w_0618 : Wd (Cond.instanceMethod yX1_kind) := Wd.of 618 (by decide +kernel)
theorem w_0619 : Wd (Cond.code yX1_kind cX1_kind 1 (some FieldType.int)) := Wd.of 619 (by decide +kernel)
theorem w_0620 : Wd (Cond.selects RX2 yX10_kind yX2_kind) := Wd.of 620 (by decide +kernel)
theorem w_0621 : Wd (Cond.instanceMethod yX2_kind) := Wd.of 621 (by decide +kernel)
theorem w_0622 : Wd (Cond.code yX2_kind cX2_kind 1 (some FieldType.int)) := Wd.of 622 (by decide +kernel)
theorem w_0623 : Wd (Cond.selects RX3 yX10_kind yX3_kind) := Wd.of 623 (by decide +kernel)
theorem w_0624 : Wd (Cond.instanceMethod yX3_kind) := Wd.of 624 (by decide +kernel)
theorem w_0625 : Wd (Cond.code yX3_kind cX3_kind 1 (some FieldType.int)) := Wd.of 625 (by decide +kernel)
theorem w_0626 : Wd (Cond.selects RX5 yX10_kind yX5_kind) := Wd.of 626 (by decide +kernel)
theorem w_0627 : Wd (Cond.instanceMethod yX5_kind) := Wd.of 627 (by decide +kernel)
theorem w_0628 : Wd (Cond.code yX5_kind cX5_kind 1 (some FieldType.int)) := Wd.of 628 (by decide +kernel)
theorem w_0629 : Wd (Cond.selects RX8 yX10_kind yX8_kind) := Wd.of 629 (by decide +kernel)
theorem w_0630 : Wd (Cond.instanceMethod yX8_kind) := Wd.of 630 (by decide +kernel)
theorem w_0631 : Wd (Cond.code yX8_kind cX8_kind 1 (some FieldType.int)) := Wd.of 631 (by decide +kernel)
theorem w_0632 : Wd (Cond.code yX10_kind cX10_kind 1 (some FieldType.int)) := Wd.of 632 (by decide +kernel)
theorem w_0633 : Wd (Cond.methodLink RX11 117 yX10_knot) := Wd.of 633 (by decide +kernel)
theorem w_0634 : Wd (Cond.instanceMethod yX10_knot) := Wd.of 634 (by decide +kernel)
theorem w_0635 : Wd (Cond.selects RX10 yX10_knot yX10_knot) := Wd.of 635 (by decide +kernel)
theorem w_0636 : Wd (Cond.sameMethod RX10 "NestsByKnots$Tuck" "knot" "(I)I") := Wd.of 636 (by decide +kernel)
theorem w_0637 : Wd (Cond.selects RX1 yX10_knot yX1_knot) := Wd.of 637 (by decide +kernel)
theorem w_0638 : Wd (Cond.instanceMethod yX1_knot) := Wd.of 638 (by decide +kernel)
theorem w_0639 : Wd (Cond.code yX1_knot cX1_knot 2 (some FieldType.int)) := Wd.of 639 (by decide +kernel)
theorem w_0640 : Wd (Cond.methodLink RX1 7 yX2_knot) := Wd.of 640 (by decide +kernel)
theorem w_0641 : Wd (Cond.instanceMethod yX2_knot) := Wd.of 641 (by decide +kernel)
theorem w_0642 : Wd (Cond.code yX2_knot cX2_knot 2 (some FieldType.int)) := Wd.of 642 (by decide +kernel)
theorem w_0643 : Wd (Cond.methodLink RX2 7 yX3_knot) := Wd.of 643 (by decide +kernel)
theorem w_0644 : Wd (Cond.instanceMethod yX3_knot) := Wd.of 644 (by decide +kernel)
theorem w_0645 : Wd (Cond.code yX3_knot cX3_knot 2 (some FieldType.int)) := Wd.of 645 (by decide +kernel)
theorem w_0646 : Wd (Cond.methodLink RX3 7 yX10_knot) := Wd.of 646 (by decide +kernel)
theorem w_0647 : Wd (Cond.selects RX2 yX10_knot yX2_knot) := Wd.of 647 (by decide +kernel)
theorem w_0648 : Wd (Cond.selects RX3 yX10_knot yX3_knot) := Wd.of 648 (by decide +kernel)
theorem w_0649 : Wd (Cond.selects RX5 yX10_knot yX5_knot) := Wd.of 649 (by decide +kernel)
theorem w_0650 : Wd (Cond.instanceMethod yX5_knot) := Wd.of 650 (by decide +kernel)
theorem w_0651 : Wd (Cond.code yX5_knot cX5_knot 2 (some FieldType.int)) := Wd.of 651 (by decide +kernel)
theorem w_0652 : Wd (Cond.methodLink RX5 7 yX10_knot) := Wd.of 652 (by decide +kernel)
theorem w_0653 : Wd (Cond.selects RX8 yX10_knot yX8_knot) := Wd.of 653 (by decide +kernel)
theorem w_0654 : Wd (Cond.instanceMethod yX8_knot) := Wd.of 654 (by decide +kernel)
theorem w_0655 : Wd (Cond.code yX8_knot cX8_knot 2 (some FieldType.int)) := Wd.of 655 (by decide +kernel)
theorem w_0656 : Wd (Cond.methodLink RX8 7 yX3_knot) := Wd.of 656 (by decide +kernel)
theorem w_0657 : Wd (Cond.code yX10_knot cX10_knot 2 (some FieldType.int)) := Wd.of 657 (by decide +kernel)
theorem w_0658 : Wd (Cond.methodLink RX11 121 yJ9_max_7cf53) := Wd.of 658 (by decide +kernel)
theorem w_0659 : Wd (Cond.methodLink RX11 126 yX10_slips) := Wd.of 659 (by decide +kernel)
theorem w_0660 : Wd (Cond.instanceMethod yX10_slips) := Wd.of 660 (by decide +kernel)
theorem w_0661 : Wd (Cond.selects RX10 yX10_slips yX10_slips) := Wd.of 661 (by decide +kernel)
theorem w_0662 : Wd (Cond.sameMethod RX10 "NestsByKnots$Tuck" "slips" "(I)Z") := Wd.of 662 (by decide +kernel)
theorem w_0663 : Wd (Cond.selects RX1 yX10_slips yX10_slips) := Wd.of 663 (by decide +kernel)
theorem w_0664 : Wd (Cond.selects RX2 yX10_slips yX10_slips) := Wd.of 664 (by decide +kernel)
theorem w_0665 : Wd (Cond.selects RX3 yX10_slips yX10_slips) := Wd.of 665 (by decide +kernel)
theorem w_0666 : Wd (Cond.selects RX5 yX10_slips yX5_slips) := Wd.of 666 (by decide +kernel)
theorem w_0667 : Wd (Cond.instanceMethod yX5_slips) := Wd.of 667 (by decide +kernel)
theorem w_0668 : Wd (Cond.code yX5_slips cX5_slips 2 (some FieldType.boolean)) := Wd.of 668 (by decide +kernel)
theorem w_0669 : Wd (Cond.selects RX8 yX10_slips yX8_slips) := Wd.of 669 (by decide +kernel)
theorem w_0670 : Wd (Cond.instanceMethod yX8_slips) := Wd.of 670 (by decide +kernel)
theorem w_0671 : Wd (Cond.code yX8_slips cX8_slips 2 (some FieldType.boolean)) := Wd.of 671 (by decide +kernel)
theorem w_0672 : Wd (Cond.code yX10_slips cX10_slips 2 (some FieldType.boolean)) := Wd.of 672 (by decide +kernel)
theorem w_0673 : Wd (Cond.methodLink RX11 129 yX10_ties) := Wd.of 673 (by decide +kernel)
theorem w_0674 : Wd (Cond.instanceMethod yX10_ties) := Wd.of 674 (by decide +kernel)
theorem w_0675 : Wd (Cond.selects RX10 yX10_ties yX10_ties) := Wd.of 675 (by decide +kernel)
theorem w_0676 : Wd (Cond.sameMethod RX10 "NestsByKnots$Tuck" "ties" "()I") := Wd.of 676 (by decide +kernel)
theorem w_0677 : Wd (Cond.selects RX1 yX10_ties yX1_ties) := Wd.of 677 (by decide +kernel)
theorem w_0678 : Wd (Cond.instanceMethod yX1_ties) := Wd.of 678 (by decide +kernel)
theorem w_0679 : Wd (Cond.code yX1_ties cX1_ties 1 (some FieldType.int)) := Wd.of 679 (by decide +kernel)
theorem w_0680 : Wd (Cond.methodLink RX1 17 ⟨"NestsByKnots$Hitch", "ties", "()I"⟩) := Wd.of 680 (by decide +kernel)
theorem w_0681 : Wd (Cond.sameMethod RX2 "NestsByKnots$Loop" "ties" "()I") := Wd.of 681 (by decide +kernel)
theorem w_0683 : Wd (Cond.instanceMethod yX3_ties) := Wd.of 683 (by decide +kernel)
theorem w_0684 : Wd (Cond.code yX3_ties cX3_ties 1 (some FieldType.int)) := Wd.of 684 (by decide +kernel)
theorem w_0685 : Wd (Cond.methodLink RX3 11 yX10_ties) := Wd.of 685 (by decide +kernel)
theorem w_0686 : Wd (Cond.selects RX2 yX10_ties yX3_ties) := Wd.of 686 (by decide +kernel)
theorem w_0687 : Wd (Cond.selects RX3 yX10_ties yX3_ties) := Wd.of 687 (by decide +kernel)
theorem w_0688 : Wd (Cond.selects RX5 yX10_ties yX10_ties) := Wd.of 688 (by decide +kernel)
theorem w_0689 : Wd (Cond.selects RX8 yX10_ties yX3_ties) := Wd.of 689 (by decide +kernel)
theorem w_0690 : Wd (Cond.code yX10_ties cX10_ties 1 (some FieldType.int)) := Wd.of 690 (by decide +kernel)
theorem w_0691 : Wd (Cond.methodLink RX11 135 yX4_crosses) := Wd.of 691 (by decide +kernel)
theorem w_0692 : Wd (Cond.instanceMethod yX4_crosses) := Wd.of 692 (by decide +kernel)
theorem w_0693 : Wd (Cond.selects RX4 yX4_crosses yX4_crosses) := Wd.of 693 (by decide +kernel)
theorem w_0694 : Wd (Cond.code yX4_crosses cX4_crosses 3 (some FieldType.int)) := Wd.of 694 (by decide +kernel)
theorem w_0695 : Wd (Cond.methodLink RX4 88 yX4_met) := Wd.of 695 (by decide +kernel)
theorem w_0697 : Wd (Cond.instanceMethod yX4_met) := Wd.of 697 (by decide +kernel)
theorem w_0698 : Wd (Cond.code yX4_met cX4_met 7 (some FieldType.int)) := Wd.of 698 (by decide +kernel)
theorem w_0699 : Wd (Cond.methodLink RX4 96 yJ9_min_7cf53) := Wd.of 699 (by decide +kernel)
theorem w_0700 : Wd (Cond.methodLink RX11 138 yX4_rubs) := Wd.of 700 (by decide +kernel)
theorem w_0701 : Wd (Cond.instanceMethod yX4_rubs) := Wd.of 701 (by decide +kernel)
theorem w_0702 : Wd (Cond.selects RX4 yX4_rubs yX4_rubs) := Wd.of 702 (by decide +kernel)
theorem w_0703 : Wd (Cond.code yX4_rubs cX4_rubs 3 (some FieldType.int)) := Wd.of 703 (by decide +kernel)
theorem w_0704 : Wd (Cond.methodLink RX4 77 yX4_has) := Wd.of 704 (by decide +kernel)
theorem w_0705 : Wd (Cond.methodLink RX4 92 yX10_ties) := Wd.of 705 (by decide +kernel)
theorem w_0706 : Wd (Cond.methodLink RX11 141 yX4_hold) := Wd.of 706 (by decide +kernel)
theorem w_0707 : Wd (Cond.instanceMethod yX4_hold) := Wd.of 707 (by decide +kernel)
theorem w_0708 : Wd (Cond.selects RX4 yX4_hold yX4_hold) := Wd.of 708 (by decide +kernel)
theorem w_0709 : Wd (Cond.code yX4_hold cX4_hold 6 (some FieldType.int)) := Wd.of 709 (by decide +kernel)
theorem w_0710 : Wd (Cond.methodLink RX4 73 yX4_ageOf) := Wd.of 710 (by decide +kernel)
theorem w_0711 : Wd (Cond.methodLink RX4 101 yX4_crosses) := Wd.of 711 (by decide +kernel)
theorem w_0712 : Wd (Cond.methodLink RX4 104 yX4_nameStrip) := Wd.of 712 (by decide +kernel)
theorem w_0714 : Wd (Cond.instanceMethod yX4_nameStrip) := Wd.of 714 (by decide +kernel)
theorem w_0715 : Wd (Cond.code yX4_nameStrip cX4_nameStrip 5 none) := Wd.of 715 (by decide +kernel)
theorem w_0716 : Wd (Cond.methodLink RX4 123 yX4_name) := Wd.of 716 (by decide +kernel)
theorem w_0718 : Wd (Cond.instanceMethod yX4_name) := Wd.of 718 (by decide +kernel)
theorem w_0719 : Wd (Cond.code yX4_name cX4_name 7 none) := Wd.of 719 (by decide +kernel)
theorem w_0720 : Wd (Cond.methodLink RX4 108 yX9_worth) := Wd.of 720 (by decide +kernel)
theorem w_0721 : Wd (Cond.instanceMethod yX9_worth) := Wd.of 721 (by decide +kernel)
theorem w_0722 : Wd (Cond.selects RX9 yX9_worth yX9_worth) := Wd.of 722 (by decide +kernel)
theorem w_0723 : Wd (Cond.code yX9_worth cX9_worth 7 (some FieldType.int)) := Wd.of 723 (by decide +kernel)
theorem w_0724 : Wd (Cond.methodLink RX9 22 yX9_ofOne) := Wd.of 724 (by decide +kernel)
theorem w_0725 : Wd (Cond.static yX9_ofOne) := Wd.of 725 (by decide +kernel)
theorem w_0726 : Wd (Cond.code yX9_ofOne cX9_ofOne 2 (some FieldType.int)) := Wd.of 726 (by decide +kernel)
theorem w_0727 : Wd (Cond.methodLink RX9 30 yX9_bit) := Wd.of 727 (by decide +kernel)
theorem w_0728 : Wd (Cond.static yX9_bit) := Wd.of 728 (by decide +kernel)
theorem w_0729 : Wd (Cond.code yX9_bit cX9_bit 1 (some FieldType.int)) := Wd.of 729 (by decide +kernel)
theorem w_0730 : Wd (Cond.methodLink RX9 26 yX9_ofTwo) := Wd.of 730 (by decide +kernel)
theorem w_0731 : Wd (Cond.static yX9_ofTwo) := Wd.of 731 (by decide +kernel)
theorem w_0732 : Wd (Cond.code yX9_ofTwo cX9_ofTwo 3 (some FieldType.int)) := Wd.of 732 (by decide +kernel)
theorem w_0733 : Wd (Cond.methodLink RX4 114 yJ9_max_7cf53) := Wd.of 733 (by decide +kernel)
theorem w_0734 : Wd (Cond.methodLink RX4 117 yX10_knot) := Wd.of 734 (by decide +kernel)
theorem w_0735 : Wd (Cond.methodLink RX4 120 yX4_rubs) := Wd.of 735 (by decide +kernel)
theorem w_0736 : Wd (Cond.methodLink RX11 145 yX4_isGreen) := Wd.of 736 (by decide +kernel)
theorem w_0737 : Wd (Cond.instanceMethod yX4_isGreen) := Wd.of 737 (by decide +kernel)
theorem w_0738 : Wd (Cond.selects RX4 yX4_isGreen yX4_isGreen) := Wd.of 738 (by decide +kernel)
theorem w_0739 : Wd (Cond.code yX4_isGreen cX4_isGreen 3 (some FieldType.boolean)) := Wd.of 739 (by decide +kernel)
theorem w_0740 : Wd (Cond.methodLink RL 36 yX11_at) := Wd.of 740 (by decide +kernel)
theorem w_0741 : Wd (Cond.instanceMethod yX11_at) := Wd.of 741 (by decide +kernel)
theorem w_0742 : Wd (Cond.selects RX11 yX11_at yX11_at) := Wd.of 742 (by decide +kernel)
theorem w_0743 : Wd (Cond.code yX11_at cX11_at 2 (some FieldType.int)) := Wd.of 743 (by decide +kernel)
theorem w_0744 : Wd (Cond.methodLink RL 42 yX11_feed) := Wd.of 744 (by decide +kernel)
theorem w_0745 : Wd (Cond.instanceMethod yX11_feed) := Wd.of 745 (by decide +kernel)
theorem w_0746 : Wd (Cond.selects RX11 yX11_feed yX11_feed) := Wd.of 746 (by decide +kernel)
theorem w_0747 : Wd (Cond.code yX11_feed cX11_feed 5 (some FieldType.int)) := Wd.of 747 (by decide +kernel)
theorem w_0748 : Wd (Cond.methodLink RL 47 yX11_text) := Wd.of 748 (by decide +kernel)
theorem w_0749 : Wd (Cond.instanceMethod yX11_text) := Wd.of 749 (by decide +kernel)
theorem w_0750 : Wd (Cond.selects RX11 yX11_text yX11_text) := Wd.of 750 (by decide +kernel)
theorem w_0751 : Wd (Cond.code yX11_text cX11_text 2 (some FieldType.int)) := Wd.of 751 (by decide +kernel)
theorem w_0752 : Wd (Cond.methodLink RL 52 yX11_force) := Wd.of 752 (by decide +kernel)
theorem w_0753 : Wd (Cond.instanceMethod yX11_force) := Wd.of 753 (by decide +kernel)
theorem w_0754 : Wd (Cond.selects RX11 yX11_force yX11_force) := Wd.of 754 (by decide +kernel)
theorem w_0755 : Wd (Cond.code yX11_force cX11_force 3 (some FieldType.int)) := Wd.of 755 (by decide +kernel)
theorem w_0756 : Wd (Cond.methodLink RL 56 yX11_pull) := Wd.of 756 (by decide +kernel)
theorem w_0757 : Wd (Cond.instanceMethod yX11_pull) := Wd.of 757 (by decide +kernel)
theorem w_0758 : Wd (Cond.selects RX11 yX11_pull yX11_pull) := Wd.of 758 (by decide +kernel)
theorem w_0759 : Wd (Cond.code yX11_pull cX11_pull 5 (some FieldType.int)) := Wd.of 759 (by decide +kernel)
theorem w_0760 : Wd (Cond.methodLink RX11 164 yX11_isPull) := Wd.of 760 (by decide +kernel)
theorem w_0761 : Wd (Cond.static yX11_isPull) := Wd.of 761 (by decide +kernel)
theorem w_0762 : Wd (Cond.code yX11_isPull cX11_isPull 2 (some FieldType.boolean)) := Wd.of 762 (by decide +kernel)
theorem w_0763 : Wd (Cond.methodLink RX11 167 yX4_takenByPull) := Wd.of 763 (by decide +kernel)
theorem w_0764 : Wd (Cond.instanceMethod yX4_takenByPull) := Wd.of 764 (by decide +kernel)
theorem w_0765 : Wd (Cond.selects RX4 yX4_takenByPull yX4_takenByPull) := Wd.of 765 (by decide +kernel)
theorem w_0766 : Wd (Cond.code yX4_takenByPull cX4_takenByPull 6 (some FieldType.int)) := Wd.of 766 (by decide +kernel)
theorem w_0767 : Wd (Cond.methodLink RX4 136 yX4_looseAt) := Wd.of 767 (by decide +kernel)
theorem w_0769 : Wd (Cond.instanceMethod yX4_looseAt) := Wd.of 769 (by decide +kernel)
theorem w_0770 : Wd (Cond.code yX4_looseAt cX4_looseAt 7 (some FieldType.int)) := Wd.of 770 (by decide +kernel)
theorem w_0771 : Wd (Cond.methodLink RX4 127 yX4_hold) := Wd.of 771 (by decide +kernel)
theorem w_0772 : Wd (Cond.methodLink RX11 170 yX4_withFallen) := Wd.of 772 (by decide +kernel)
theorem w_0773 : Wd (Cond.instanceMethod yX4_withFallen) := Wd.of 773 (by decide +kernel)
theorem w_0774 : Wd (Cond.selects RX4 yX4_withFallen yX4_withFallen) := Wd.of 774 (by decide +kernel)
theorem w_0775 : Wd (Cond.code yX4_withFallen cX4_withFallen 2 (some FieldType.int)) := Wd.of 775 (by decide +kernel)
theorem w_0776 : Wd (Cond.methodLink RX4 133 yX4_falling) := Wd.of 776 (by decide +kernel)
theorem w_0777 : Wd (Cond.instanceMethod yX4_falling) := Wd.of 777 (by decide +kernel)
theorem w_0778 : Wd (Cond.selects RX4 yX4_falling yX4_falling) := Wd.of 778 (by decide +kernel)
theorem w_0779 : Wd (Cond.code yX4_falling cX4_falling 2 (some FieldType.int)) := Wd.of 779 (by decide +kernel)
theorem w_0780 : Wd (Cond.methodLink RX4 130 yX4_hanging) := Wd.of 780 (by decide +kernel)
theorem w_0781 : Wd (Cond.instanceMethod yX4_hanging) := Wd.of 781 (by decide +kernel)
theorem w_0782 : Wd (Cond.selects RX4 yX4_hanging yX4_hanging) := Wd.of 782 (by decide +kernel)
theorem w_0783 : Wd (Cond.code yX4_hanging cX4_hanging 6 (some FieldType.int)) := Wd.of 783 (by decide +kernel)
theorem w_0784 : Wd (Cond.methodLink RL 60 yX11_pulled) := Wd.of 784 (by decide +kernel)
theorem w_0785 : Wd (Cond.instanceMethod yX11_pulled) := Wd.of 785 (by decide +kernel)
theorem w_0786 : Wd (Cond.selects RX11 yX11_pulled yX11_pulled) := Wd.of 786 (by decide +kernel)
theorem w_0787 : Wd (Cond.code yX11_pulled cX11_pulled 3 (some FieldType.int)) := Wd.of 787 (by decide +kernel)
theorem w_0788 : Wd (Cond.methodLink RX11 173 yX4_lose) := Wd.of 788 (by decide +kernel)
theorem w_0789 : Wd (Cond.instanceMethod yX4_lose) := Wd.of 789 (by decide +kernel)
theorem w_0790 : Wd (Cond.selects RX4 yX4_lose yX4_lose) := Wd.of 790 (by decide +kernel)
theorem w_0791 : Wd (Cond.code yX4_lose cX4_lose 2 (some FieldType.int)) := Wd.of 791 (by decide +kernel)
theorem w_0792 : Wd (Cond.methodLink RX4 69 yX4_drop) := Wd.of 792 (by decide +kernel)
theorem w_0793 : Wd (Cond.methodLink RL 64 yX11_falls) := Wd.of 793 (by decide +kernel)
theorem w_0794 : Wd (Cond.instanceMethod yX11_falls) := Wd.of 794 (by decide +kernel)
theorem w_0795 : Wd (Cond.selects RX11 yX11_falls yX11_falls) := Wd.of 795 (by decide +kernel)
theorem w_0796 : Wd (Cond.code yX11_falls cX11_falls 1 (some FieldType.int)) := Wd.of 796 (by decide +kernel)
theorem w_0797 : Wd (Cond.methodLink RX11 176 yX4_falling) := Wd.of 797 (by decide +kernel)
theorem w_0798 : Wd (Cond.methodLink RL 68 yX11_least) := Wd.of 798 (by decide +kernel)
theorem w_0799 : Wd (Cond.instanceMethod yX11_least) := Wd.of 799 (by decide +kernel)
theorem w_0800 : Wd (Cond.selects RX11 yX11_least yX11_least) := Wd.of 800 (by decide +kernel)
theorem w_0801 : Wd (Cond.code yX11_least cX11_least 4 (some FieldType.int)) := Wd.of 801 (by decide +kernel)
theorem w_0802 : Wd (Cond.methodLink RX11 179 yX4_leastPull) := Wd.of 802 (by decide +kernel)
theorem w_0803 : Wd (Cond.instanceMethod yX4_leastPull) := Wd.of 803 (by decide +kernel)
theorem w_0804 : Wd (Cond.selects RX4 yX4_leastPull yX4_leastPull) := Wd.of 804 (by decide +kernel)
theorem w_0805 : Wd (Cond.code yX4_leastPull cX4_leastPull 6 (some FieldType.int)) := Wd.of 805 (by decide +kernel)
theorem w_0806 : Wd (Cond.methodLink RX4 139 yX4_weakestAt) := Wd.of 806 (by decide +kernel)
theorem w_0808 : Wd (Cond.instanceMethod yX4_weakestAt) := Wd.of 808 (by decide +kernel)
theorem w_0809 : Wd (Cond.code yX4_weakestAt cX4_weakestAt 8 (some FieldType.int)) := Wd.of 809 (by decide +kernel)
theorem w_0810 : Wd (Cond.methodLink RX11 182 yX4_hanging) := Wd.of 810 (by decide +kernel)
theorem w_0811 : Wd (Cond.methodLink RX11 185 yJ6_bitCount_0f7a4) := Wd.of 811 (by decide +kernel)
theorem w_0812 : Wd (Cond.methodLink RL 72 yX11_good) := Wd.of 812 (by decide +kernel)
theorem w_0813 : Wd (Cond.instanceMethod yX11_good) := Wd.of 813 (by decide +kernel)
theorem w_0814 : Wd (Cond.selects RX11 yX11_good yX11_good) := Wd.of 814 (by decide +kernel)
theorem w_0815 : Wd (Cond.code yX11_good cX11_good 2 (some FieldType.long)) := Wd.of 815 (by decide +kernel)
theorem w_0816 : Wd (Cond.methodLink RX11 193 yX4_worthNext) := Wd.of 816 (by decide +kernel)
theorem w_0817 : Wd (Cond.instanceMethod yX4_worthNext) := Wd.of 817 (by decide +kernel)
theorem w_0818 : Wd (Cond.selects RX4 yX4_worthNext yX4_worthNext) := Wd.of 818 (by decide +kernel)
theorem w_0819 : Wd (Cond.code yX4_worthNext cX4_worthNext 2 (some FieldType.int)) := Wd.of 819 (by decide +kernel)
theorem w_0820 : Wd (Cond.methodLink RX4 142 yX4_size) := Wd.of 820 (by decide +kernel)
theorem w_0821 : Wd (Cond.constantLong RX11 196 (-4611686018427387904 : Int64)) := Wd.of 821 (by decide +kernel)
theorem w_0822 : Wd (Cond.methodLink RL 77 yX11_next) := Wd.of 822 (by decide +kernel)
theorem w_0823 : Wd (Cond.instanceMethod yX11_next) := Wd.of 823 (by decide +kernel)
theorem w_0824 : Wd (Cond.selects RX11 yX11_next yX11_next) := Wd.of 824 (by decide +kernel)
theorem w_0825 : Wd (Cond.code yX11_next cX11_next 2 (some FieldType.int)) := Wd.of 825 (by decide +kernel)
theorem w_0826 : Wd (Cond.methodLink RX11 201 yX4_nextOf) := Wd.of 826 (by decide +kernel)
theorem w_0827 : Wd (Cond.instanceMethod yX4_nextOf) := Wd.of 827 (by decide +kernel)
theorem w_0828 : Wd (Cond.selects RX4 yX4_nextOf yX4_nextOf) := Wd.of 828 (by decide +kernel)
theorem w_0829 : Wd (Cond.code yX4_nextOf cX4_nextOf 4 (some (FieldType.object "NestsByKnots$Choice"))) := Wd.of 829 (by decide +kernel)
theorem w_0830 : Wd (Cond.methodLink RX4 145 yX0_clear) := Wd.of 830 (by decide +kernel)
theorem w_0831 : Wd (Cond.instanceMethod yX0_clear) := Wd.of 831 (by decide +kernel)
theorem w_0832 : Wd (Cond.selects RX0 yX0_clear yX0_clear) := Wd.of 832 (by decide +kernel)
theorem w_0833 : Wd (Cond.code yX0_clear cX0_clear 1 none) := Wd.of 833 (by decide +kernel)
theorem w_0835 : Wd (Cond.static yX11_placeOf) := Wd.of 835 (by decide +kernel)
theorem w_0836 : Wd (Cond.code yX11_placeOf cX11_placeOf 2 (some FieldType.int)) := Wd.of 836 (by decide +kernel)
theorem w_0838 : Wd (Cond.methodLink RX4 154 yX4_worthNext) := Wd.of 838 (by decide +kernel)
theorem w_0839 : Wd (Cond.methodLink RX4 157 yX0_offer) := Wd.of 839 (by decide +kernel)
theorem w_0840 : Wd (Cond.instanceMethod yX0_offer) := Wd.of 840 (by decide +kernel)
theorem w_0841 : Wd (Cond.selects RX0 yX0_offer yX0_offer) := Wd.of 841 (by decide +kernel)
theorem w_0842 : Wd (Cond.code yX0_offer cX0_offer 3 none) := Wd.of 842 (by decide +kernel)
theorem w_0843 : Wd (Cond.methodLink RL 81 yX11_build) := Wd.of 843 (by decide +kernel)
theorem w_0844 : Wd (Cond.instanceMethod yX11_build) := Wd.of 844 (by decide +kernel)
theorem w_0845 : Wd (Cond.selects RX11 yX11_build yX11_build) := Wd.of 845 (by decide +kernel)
theorem w_0846 : Wd (Cond.code yX11_build cX11_build 5 (some FieldType.int)) := Wd.of 846 (by decide +kernel)
theorem w_0847 : Wd (Cond.methodLink RL 85 yX11_best) := Wd.of 847 (by decide +kernel)
theorem w_0848 : Wd (Cond.instanceMethod yX11_best) := Wd.of 848 (by decide +kernel)
theorem w_0849 : Wd (Cond.selects RX11 yX11_best yX11_best) := Wd.of 849 (by decide +kernel)
theorem w_0850 : Wd (Cond.code yX11_best cX11_best 7 (some FieldType.int)) := Wd.of 850 (by decide +kernel)
theorem w_0851 : Wd (Cond.methodLink RX11 213 yX4_bestOf) := Wd.of 851 (by decide +kernel)
theorem w_0852 : Wd (Cond.instanceMethod yX4_bestOf) := Wd.of 852 (by decide +kernel)
theorem w_0853 : Wd (Cond.selects RX4 yX4_bestOf yX4_bestOf) := Wd.of 853 (by decide +kernel)
theorem w_0854 : Wd (Cond.code yX4_bestOf cX4_bestOf 6 (some (FieldType.object "NestsByKnots$Choice"))) := Wd.of 854 (by decide +kernel)
theorem w_0855 : Wd (Cond.methodLink RX4 161 yX4_put) := Wd.of 855 (by decide +kernel)
theorem w_0856 : Wd (Cond.methodLink RX4 165 yX4_leastHold) := Wd.of 856 (by decide +kernel)
theorem w_0858 : Wd (Cond.instanceMethod yX4_leastHold) := Wd.of 858 (by decide +kernel)
theorem w_0859 : Wd (Cond.code yX4_leastHold cX4_leastHold 5 (some FieldType.int)) := Wd.of 859 (by decide +kernel)
theorem w_0860 : Wd (Cond.methodLink RL 90 yX11_takes) := Wd.of 860 (by decide +kernel)
theorem w_0861 : Wd (Cond.instanceMethod yX11_takes) := Wd.of 861 (by decide +kernel)
theorem w_0862 : Wd (Cond.selects RX11 yX11_takes yX11_takes) := Wd.of 862 (by decide +kernel)
theorem w_0863 : Wd (Cond.code yX11_takes cX11_takes 1 (some FieldType.int)) := Wd.of 863 (by decide +kernel)
theorem w_0864 : Wd (Cond.methodLink RX11 220 yX4_isTaken) := Wd.of 864 (by decide +kernel)
theorem w_0865 : Wd (Cond.instanceMethod yX4_isTaken) := Wd.of 865 (by decide +kernel)
theorem w_0866 : Wd (Cond.selects RX4 yX4_isTaken yX4_isTaken) := Wd.of 866 (by decide +kernel)
theorem w_0867 : Wd (Cond.code yX4_isTaken cX4_isTaken 3 (some FieldType.boolean)) := Wd.of 867 (by decide +kernel)
theorem w_0868 : Wd (Cond.methodLink RX4 171 yX4_covered) := Wd.of 868 (by decide +kernel)
theorem w_0869 : Wd (Cond.instanceMethod yX4_covered) := Wd.of 869 (by decide +kernel)
theorem w_0870 : Wd (Cond.selects RX4 yX4_covered yX4_covered) := Wd.of 870 (by decide +kernel)
theorem w_0871 : Wd (Cond.code yX4_covered cX4_covered 3 (some FieldType.int)) := Wd.of 871 (by decide +kernel)
theorem w_0872 : Wd (Cond.methodLink RX4 177 yX4_greenBits) := Wd.of 872 (by decide +kernel)
theorem w_0873 : Wd (Cond.instanceMethod yX4_greenBits) := Wd.of 873 (by decide +kernel)
theorem w_0874 : Wd (Cond.selects RX4 yX4_greenBits yX4_greenBits) := Wd.of 874 (by decide +kernel)
theorem w_0875 : Wd (Cond.code yX4_greenBits cX4_greenBits 4 (some FieldType.int)) := Wd.of 875 (by decide +kernel)
theorem w_0876 : Wd (Cond.methodLink RX4 81 yX4_isGreen) := Wd.of 876 (by decide +kernel)
theorem w_0877 : Wd (Cond.methodLink RL 94 yX11_when) := Wd.of 877 (by decide +kernel)
theorem w_0878 : Wd (Cond.instanceMethod yX11_when) := Wd.of 878 (by decide +kernel)
theorem w_0879 : Wd (Cond.selects RX11 yX11_when yX11_when) := Wd.of 879 (by decide +kernel)
theorem w_0880 : Wd (Cond.code yX11_when cX11_when 2 (some FieldType.int)) := Wd.of 880 (by decide +kernel)
theorem w_0881 : Wd (Cond.methodLink RL 98 yX11_spare) := Wd.of 881 (by decide +kernel)
theorem w_0882 : Wd (Cond.instanceMethod yX11_spare) := Wd.of 882 (by decide +kernel)
theorem w_0883 : Wd (Cond.selects RX11 yX11_spare yX11_spare) := Wd.of 883 (by decide +kernel)
theorem w_0884 : Wd (Cond.code yX11_spare cX11_spare 4 (some FieldType.int)) := Wd.of 884 (by decide +kernel)
theorem w_0885 : Wd (Cond.methodLink RL 102 yX11_brown) := Wd.of 885 (by decide +kernel)
theorem w_0886 : Wd (Cond.instanceMethod yX11_brown) := Wd.of 886 (by decide +kernel)
theorem w_0887 : Wd (Cond.selects RX11 yX11_brown yX11_brown) := Wd.of 887 (by decide +kernel)
theorem w_0888 : Wd (Cond.code yX11_brown cX11_brown 2 (some FieldType.int)) := Wd.of 888 (by decide +kernel)
theorem w_0889 : Wd (Cond.methodLink RX11 223 yX4_greenBits) := Wd.of 889 (by decide +kernel)
theorem w_0890 : Wd (Cond.methodLink RL 106 yX11_holes) := Wd.of 890 (by decide +kernel)
theorem w_0891 : Wd (Cond.instanceMethod yX11_holes) := Wd.of 891 (by decide +kernel)
theorem w_0892 : Wd (Cond.selects RX11 yX11_holes yX11_holes) := Wd.of 892 (by decide +kernel)
theorem w_0893 : Wd (Cond.code yX11_holes cX11_holes 1 (some FieldType.int)) := Wd.of 893 (by decide +kernel)
theorem w_0894 : Wd (Cond.methodLink RX11 226 yX4_holeBits) := Wd.of 894 (by decide +kernel)
theorem w_0895 : Wd (Cond.instanceMethod yX4_holeBits) := Wd.of 895 (by decide +kernel)
theorem w_0896 : Wd (Cond.selects RX4 yX4_holeBits yX4_holeBits) := Wd.of 896 (by decide +kernel)
theorem w_0897 : Wd (Cond.code yX4_holeBits cX4_holeBits 4 (some FieldType.int)) := Wd.of 897 (by decide +kernel)
theorem w_0898 : Wd (Cond.methodLink RX4 174 yX4_isEnclosed) := Wd.of 898 (by decide +kernel)
theorem w_0899 : Wd (Cond.static yX4_isEnclosed) := Wd.of 899 (by decide +kernel)
theorem w_0900 : Wd (Cond.code yX4_isEnclosed cX4_isEnclosed 11 (some FieldType.boolean)) := Wd.of 900 (by decide +kernel)
theorem w_0901 : Wd (Cond.methodLink RL 110 yX11_closes) := Wd.of 901 (by decide +kernel)
theorem w_0902 : Wd (Cond.instanceMethod yX11_closes) := Wd.of 902 (by decide +kernel)
theorem w_0903 : Wd (Cond.selects RX11 yX11_closes yX11_closes) := Wd.of 903 (by decide +kernel)
theorem w_0904 : Wd (Cond.code yX11_closes cX11_closes 5 (some FieldType.int)) := Wd.of 904 (by decide +kernel)
theorem w_0905 : Wd (Cond.methodLink RX11 229 yX4_closingOf) := Wd.of 905 (by decide +kernel)
theorem w_0906 : Wd (Cond.instanceMethod yX4_closingOf) := Wd.of 906 (by decide +kernel)
theorem w_0907 : Wd (Cond.selects RX4 yX4_closingOf yX4_closingOf) := Wd.of 907 (by decide +kernel)
theorem w_0908 : Wd (Cond.code yX4_closingOf cX4_closingOf 5 (some (FieldType.object "NestsByKnots$Choice"))) := Wd.of 908 (by decide +kernel)
theorem w_0909 : Wd (Cond.methodLink RX4 168 yX4_crossingsOf) := Wd.of 909 (by decide +kernel)
theorem w_0910 : Wd (Cond.static yX4_crossingsOf) := Wd.of 910 (by decide +kernel)
theorem w_0911 : Wd (Cond.code yX4_crossingsOf cX4_crossingsOf 3 (some FieldType.int)) := Wd.of 911 (by decide +kernel)
theorem w_0912 : Wd (Cond.methodLink RL 114 yX11_slipped) := Wd.of 912 (by decide +kernel)
theorem w_0913 : Wd (Cond.instanceMethod yX11_slipped) := Wd.of 913 (by decide +kernel)
theorem w_0914 : Wd (Cond.selects RX11 yX11_slipped yX11_slipped) := Wd.of 914 (by decide +kernel)
theorem w_0915 : Wd (Cond.code yX11_slipped cX11_slipped 1 (some FieldType.int)) := Wd.of 915 (by decide +kernel)
theorem w_0916 : Wd (Cond.methodLink RX11 233 yX4_slipping) := Wd.of 916 (by decide +kernel)
theorem w_0917 : Wd (Cond.instanceMethod yX4_slipping) := Wd.of 917 (by decide +kernel)
theorem w_0918 : Wd (Cond.selects RX4 yX4_slipping yX4_slipping) := Wd.of 918 (by decide +kernel)
theorem w_0919 : Wd (Cond.code yX4_slipping cX4_slipping 3 (some FieldType.int)) := Wd.of 919 (by decide +kernel)
theorem w_0920 : Wd (Cond.methodLink RX4 85 yX10_slips) := Wd.of 920 (by decide +kernel)
theorem w_0921 : Wd (Cond.methodLink RL 118 yX11_image) := Wd.of 921 (by decide +kernel)
theorem w_0922 : Wd (Cond.instanceMethod yX11_image) := Wd.of 922 (by decide +kernel)
theorem w_0923 : Wd (Cond.selects RX11 yX11_image yX11_image) := Wd.of 923 (by decide +kernel)
theorem w_0924 : Wd (Cond.code yX11_image cX11_image 1 (some FieldType.int)) := Wd.of 924 (by decide +kernel)
theorem w_0925 : Wd (Cond.methodLink RX11 236 yX4_becomes) := Wd.of 925 (by decide +kernel)
theorem w_0926 : Wd (Cond.instanceMethod yX4_becomes) := Wd.of 926 (by decide +kernel)
theorem w_0927 : Wd (Cond.selects RX4 yX4_becomes yX4_becomes) := Wd.of 927 (by decide +kernel)
theorem w_0928 : Wd (Cond.code yX4_becomes cX4_becomes 3 none) := Wd.of 928 (by decide +kernel)
theorem w_0929 : Wd (Cond.methodLink RL 122 yX11_back) := Wd.of 929 (by decide +kernel)
theorem w_0930 : Wd (Cond.instanceMethod yX11_back) := Wd.of 930 (by decide +kernel)
theorem w_0931 : Wd (Cond.selects RX11 yX11_back yX11_back) := Wd.of 931 (by decide +kernel)
theorem w_0932 : Wd (Cond.code yX11_back cX11_back 1 (some FieldType.int)) := Wd.of 932 (by decide +kernel)
theorem w_0933 : Wd (Cond.methodLink RL 126 yX11_count) := Wd.of 933 (by decide +kernel)
theorem w_0934 : Wd (Cond.instanceMethod yX11_count) := Wd.of 934 (by decide +kernel)
theorem w_0935 : Wd (Cond.selects RX11 yX11_count yX11_count) := Wd.of 935 (by decide +kernel)
theorem w_0936 : Wd (Cond.code yX11_count cX11_count 2 (some FieldType.int)) := Wd.of 936 (by decide +kernel)
theorem w_0937 : Wd (Cond.methodLink RX11 244 yX4_covered) := Wd.of 937 (by decide +kernel)
theorem w_0938 : Wd (Cond.methodLink RL 130 yX11_sheet) := Wd.of 938 (by decide +kernel)
theorem w_0939 : Wd (Cond.instanceMethod yX11_sheet) := Wd.of 939 (by decide +kernel)
theorem w_0940 : Wd (Cond.selects RX11 yX11_sheet yX11_sheet) := Wd.of 940 (by decide +kernel)
theorem w_0941 : Wd (Cond.code yX11_sheet cX11_sheet 4 (some FieldType.int)) := Wd.of 941 (by decide +kernel)
theorem w_0942 : Wd (Cond.methodLink RX11 247 yX11_isSheet) := Wd.of 942 (by decide +kernel)
theorem w_0943 : Wd (Cond.static yX11_isSheet) := Wd.of 943 (by decide +kernel)
theorem w_0944 : Wd (Cond.code yX11_isSheet cX11_isSheet 1 (some FieldType.boolean)) := Wd.of 944 (by decide +kernel)
theorem w_0945 : Wd (Cond.methodLink RX11 250 yX11_isSort) := Wd.of 945 (by decide +kernel)
theorem w_0946 : Wd (Cond.static yX11_isSort) := Wd.of 946 (by decide +kernel)
theorem w_0947 : Wd (Cond.code yX11_isSort cX11_isSort 1 (some FieldType.boolean)) := Wd.of 947 (by decide +kernel)
theorem w_0948 : Wd (Cond.methodLink RX11 253 yX7_becomes) := Wd.of 948 (by decide +kernel)
theorem w_0949 : Wd (Cond.instanceMethod yX7_becomes) := Wd.of 949 (by decide +kernel)
theorem w_0950 : Wd (Cond.selects RX7 yX7_becomes yX7_becomes) := Wd.of 950 (by decide +kernel)
theorem w_0951 : Wd (Cond.code yX7_becomes cX7_becomes 3 none) := Wd.of 951 (by decide +kernel)
theorem w_0952 : Wd (Cond.methodLink RX7 22 yJ7_fill_53178) := Wd.of 952 (by decide +kernel)
theorem w_0953 : Wd (Cond.static yJ7_fill_53178) := Wd.of 953 (by decide +kernel)
theorem w_0954 : Wd (Cond.code yJ7_fill_53178 cJ7_fill_53178 4 none) := Wd.of 954 (by decide +kernel)
theorem w_0955 : Wd (Cond.methodLink RL 134 yX11_cell) := Wd.of 955 (by decide +kernel)
theorem w_0956 : Wd (Cond.instanceMethod yX11_cell) := Wd.of 956 (by decide +kernel)
theorem w_0957 : Wd (Cond.selects RX11 yX11_cell yX11_cell) := Wd.of 957 (by decide +kernel)
theorem w_0958 : Wd (Cond.code yX11_cell cX11_cell 5 (some FieldType.int)) := Wd.of 958 (by decide +kernel)
theorem w_0959 : Wd (Cond.methodLink RX11 260 yX7_write) := Wd.of 959 (by decide +kernel)
theorem w_0960 : Wd (Cond.instanceMethod yX7_write) := Wd.of 960 (by decide +kernel)
theorem w_0961 : Wd (Cond.selects RX7 yX7_write yX7_write) := Wd.of 961 (by decide +kernel)
theorem w_0962 : Wd (Cond.code yX7_write cX7_write 3 none) := Wd.of 962 (by decide +kernel)
theorem w_0963 : Wd (Cond.methodLink RL 138 yX11_copy) := Wd.of 963 (by decide +kernel)
theorem w_0964 : Wd (Cond.instanceMethod yX11_copy) := Wd.of 964 (by decide +kernel)
theorem w_0965 : Wd (Cond.selects RX11 yX11_copy yX11_copy) := Wd.of 965 (by decide +kernel)
theorem w_0966 : Wd (Cond.code yX11_copy cX11_copy 8 (some FieldType.int)) := Wd.of 966 (by decide +kernel)
theorem w_0967 : Wd (Cond.methodLink RX11 263 yX7_holds) := Wd.of 967 (by decide +kernel)
theorem w_0968 : Wd (Cond.instanceMethod yX7_holds) := Wd.of 968 (by decide +kernel)
theorem w_0969 : Wd (Cond.selects RX7 yX7_holds yX7_holds) := Wd.of 969 (by decide +kernel)
theorem w_0970 : Wd (Cond.code yX7_holds cX7_holds 3 (some FieldType.boolean)) := Wd.of 970 (by decide +kernel)
theorem w_0971 : Wd (Cond.methodLink RX11 269 ⟨"java/lang/System", "arraycopy", "(Ljava/lang/Object;ILjava/lang/Object;II)V"⟩) := Wd.of 971 (by decide +kernel)
theorem w_0972 : Wd (Cond.methodLink RL 143 yX11_strips) := Wd.of 972 (by decide +kernel)
theorem w_0973 : Wd (Cond.instanceMethod yX11_strips) := Wd.of 973 (by decide +kernel)
theorem w_0974 : Wd (Cond.selects RX11 yX11_strips yX11_strips) := Wd.of 974 (by decide +kernel)
theorem w_0975 : Wd (Cond.code yX11_strips cX11_strips 9 (some FieldType.int)) := Wd.of 975 (by decide +kernel)
theorem w_0976 : Wd (Cond.methodLink RX11 275 yX11_lay) := Wd.of 976 (by decide +kernel)
theorem w_0977 : Wd (Cond.methodLink RL 147 yX11_taken) := Wd.of 977 (by decide +kernel)
theorem w_0978 : Wd (Cond.instanceMethod yX11_taken) := Wd.of 978 (by decide +kernel)
theorem w_0979 : Wd (Cond.selects RX11 yX11_taken yX11_taken) := Wd.of 979 (by decide +kernel)
theorem w_0980 : Wd (Cond.code yX11_taken cX11_taken 4 (some FieldType.int)) := Wd.of 980 (by decide +kernel)
theorem w_0981 : Wd (Cond.methodLink RX11 278 yX11_isUnder) := Wd.of 981 (by decide +kernel)
theorem w_0982 : Wd (Cond.static yX11_isUnder) := Wd.of 982 (by decide +kernel)
theorem w_0983 : Wd (Cond.code yX11_isUnder cX11_isUnder 2 (some FieldType.boolean)) := Wd.of 983 (by decide +kernel)
theorem w_0984 : Wd (Cond.classLink RL 10 "NestsByKnotsModel") := Wd.of 984 (by decide +kernel)
theorem w_0985 : Wd (Cond.instantiable RX12 40) := Wd.of 985 (by decide +kernel)
theorem w_0986 : Wd (Cond.methodLink RL 12 yX12_init) := Wd.of 986 (by decide +kernel)
theorem w_0987 : Wd (Cond.instanceMethod yX12_init) := Wd.of 987 (by decide +kernel)
theorem w_0988 : Wd (Cond.code yX12_init cX12_init 1 none) := Wd.of 988 (by decide +kernel)
theorem w_0989 : Wd (Cond.methodLink RX12 7 ⟨"java/lang/Object", "<init>", "()V"⟩) := Wd.of 989 (by decide +kernel)
theorem w_0990 : Wd (Cond.constantLong RX12 57 (8247606183035157280 : Int64)) := Wd.of 990 (by decide +kernel)
theorem w_0991 : Wd (Cond.methodLink RX12 59 yX12_spell) := Wd.of 991 (by decide +kernel)
theorem w_0993 : Wd (Cond.instanceMethod yX12_spell) := Wd.of 993 (by decide +kernel)
theorem w_0994 : Wd (Cond.code yX12_spell cX12_spell 5 none) := Wd.of 994 (by decide +kernel)
theorem w_0995 : Wd (Cond.constantLong RX12 78 (255 : Int64)) := Wd.of 995 (by decide +kernel)
theorem w_0996 : Wd (Cond.constantLong RX12 63 (7954896756974776943 : Int64)) := Wd.of 996 (by decide +kernel)
theorem w_0997 : Wd (Cond.constantLong RX12 65 (8319028301984309293 : Int64)) := Wd.of 997 (by decide +kernel)
theorem w_0998 : Wd (Cond.constantLong RX12 67 (2339936919715340651 : Int64)) := Wd.of 998 (by decide +kernel)
theorem w_0999 : Wd (Cond.constantLong RX12 69 (7286880410626193696 : Int64)) := Wd.of 999 (by decide +kernel)
theorem w_1000 : Wd (Cond.constantLong RX12 71 (7020658958593440800 : Int64)) := Wd.of 1000 (by decide +kernel)
theorem w_1001 : Wd (Cond.constantLong RX12 73 (8655983492970061856 : Int64)) := Wd.of 1001 (by decide +kernel)
theorem w_1002 : Wd (Cond.fieldLink RX12 13 "NestsByKnotsModel" "texts" "[I") := Wd.of 1002 (by decide +kernel)
theorem w_1003 : Wd (Cond.fieldLink RX12 17 "NestsByKnotsModel" "textSize" "[I") := Wd.of 1003 (by decide +kernel)
theorem w_1004 : Wd (Cond.fieldLink RX12 75 "NestsByKnotsModel" "textCount" "I") := Wd.of 1004 (by decide +kernel)
theorem w_1005 : Wd (Cond.fieldLink RX12 131 "NestsByKnotsModel" "rule" "I") := Wd.of 1005 (by decide +kernel)
theorem w_1006 : Wd (Cond.fieldLink RX12 20 "NestsByKnotsModel" "tape" "[I") := Wd.of 1006 (by decide +kernel)
theorem w_1007 : Wd (Cond.fieldLink RX12 162 "NestsByKnotsModel" "taped" "I") := Wd.of 1007 (by decide +kernel)
theorem w_1008 : Wd (Cond.fieldLink RX12 23 "NestsByKnotsModel" "kind" "[I") := Wd.of 1008 (by decide +kernel)
theorem w_1009 : Wd (Cond.fieldLink RX12 26 "NestsByKnotsModel" "place" "[I") := Wd.of 1009 (by decide +kernel)
theorem w_1010 : Wd (Cond.fieldLink RX12 29 "NestsByKnotsModel" "number" "[I") := Wd.of 1010 (by decide +kernel)
theorem w_1011 : Wd (Cond.fieldLink RX12 32 "NestsByKnotsModel" "laid" "[I") := Wd.of 1011 (by decide +kernel)
theorem w_1012 : Wd (Cond.fieldLink RX12 35 "NestsByKnotsModel" "covers" "[I") := Wd.of 1012 (by decide +kernel)
theorem w_1013 : Wd (Cond.fieldLink RX12 90 "NestsByKnotsModel" "there" "I") := Wd.of 1013 (by decide +kernel)
theorem w_1014 : Wd (Cond.fieldLink RX12 95 "NestsByKnotsModel" "hour" "I") := Wd.of 1014 (by decide +kernel)
theorem w_1015 : Wd (Cond.fieldLink RX12 38 "NestsByKnotsModel" "greenFor" "I") := Wd.of 1015 (by decide +kernel)
theorem w_1016 : Wd (Cond.fieldLink RX12 168 "NestsByKnotsModel" "from" "I") := Wd.of 1016 (by decide +kernel)
theorem w_1017 : Wd (Cond.fieldLink RX12 165 "NestsByKnotsModel" "size" "I") := Wd.of 1017 (by decide +kernel)
theorem w_1018 : Wd (Cond.fieldLink RX12 180 "NestsByKnotsModel" "token" "I") := Wd.of 1018 (by decide +kernel)
theorem w_1019 : Wd (Cond.fieldLink RX12 177 "NestsByKnotsModel" "tokenAt" "I") := Wd.of 1019 (by decide +kernel)
theorem w_1020 : Wd (Cond.fieldLink RX12 187 "NestsByKnotsModel" "tokenWorth" "J") := Wd.of 1020 (by decide +kernel)
theorem w_1021 : Wd (Cond.fieldLink RX12 171 "NestsByKnotsModel" "here" "I") := Wd.of 1021 (by decide +kernel)
theorem w_1022 : Wd (Cond.fieldLink RX12 210 "NestsByKnotsModel" "open" "I") := Wd.of 1022 (by decide +kernel)
theorem w_1023 : Wd (Cond.fieldLink RX12 203 "NestsByKnotsModel" "bad" "Z") := Wd.of 1023 (by decide +kernel)
theorem w_1024 : Wd (Cond.fieldLink RX12 207 "NestsByKnotsModel" "fault" "I") := Wd.of 1024 (by decide +kernel)
theorem w_1025 : Wd (Cond.fieldLink RX12 223 "NestsByKnotsModel" "aboutX" "I") := Wd.of 1025 (by decide +kernel)
theorem w_1026 : Wd (Cond.fieldLink RX12 228 "NestsByKnotsModel" "aboutY" "I") := Wd.of 1026 (by decide +kernel)
theorem w_1027 : Wd (Cond.fieldLink RX12 233 "NestsByKnotsModel" "aboutCross" "I") := Wd.of 1027 (by decide +kernel)
theorem w_1028 : Wd (Cond.fieldLink RX12 238 "NestsByKnotsModel" "aboutLong" "I") := Wd.of 1028 (by decide +kernel)
theorem w_1029 : Wd (Cond.fieldLink RX12 243 "NestsByKnotsModel" "aboutAge" "I") := Wd.of 1029 (by decide +kernel)
theorem w_1030 : Wd (Cond.fieldLink RX12 248 "NestsByKnotsModel" "aboutStrips" "I") := Wd.of 1030 (by decide +kernel)
theorem w_1031 : Wd (Cond.fieldLink RX12 41 "NestsByKnotsModel" "imageStrips" "[I") := Wd.of 1031 (by decide +kernel)
theorem w_1032 : Wd (Cond.fieldLink RX12 339 "NestsByKnotsModel" "hasImage" "Z") := Wd.of 1032 (by decide +kernel)
theorem w_1033 : Wd (Cond.fieldLink RX12 342 "NestsByKnotsModel" "imageThere" "I") := Wd.of 1033 (by decide +kernel)
theorem w_1034 : Wd (Cond.fieldLink RX12 345 "NestsByKnotsModel" "imageHour" "I") := Wd.of 1034 (by decide +kernel)
theorem w_1035 : Wd (Cond.fieldLink RX12 348 "NestsByKnotsModel" "imageGreen" "I") := Wd.of 1035 (by decide +kernel)
theorem w_1036 : Wd (Cond.fieldLink RX12 351 "NestsByKnotsModel" "imageRule" "I") := Wd.of 1036 (by decide +kernel)
theorem w_1037 : Wd (Cond.fieldLink RX12 44 "NestsByKnotsModel" "isThere" "[Z") := Wd.of 1037 (by decide +kernel)
theorem w_1038 : Wd (Cond.fieldLink RX12 48 "NestsByKnotsModel" "sorts" "[I") := Wd.of 1038 (by decide +kernel)
theorem w_1039 : Wd (Cond.fieldLink RX12 51 "NestsByKnotsModel" "sheetSize" "[I") := Wd.of 1039 (by decide +kernel)
theorem w_1040 : Wd (Cond.fieldLink RX12 54 "NestsByKnotsModel" "items" "[I") := Wd.of 1040 (by decide +kernel)
theorem w_1041 : Wd (Cond.lays RX12 "NestsByKnotsModel" "thrown" "I") := Wd.of 1041 (by decide +kernel)
theorem w_1043 : Wd (Cond.laysFinal RX12 "NestsByKnotsModel" "texts" "[I") := Wd.of 1043 (by decide +kernel)
theorem w_1045 : Wd (Cond.laysFinal RX12 "NestsByKnotsModel" "textSize" "[I") := Wd.of 1045 (by decide +kernel)
theorem w_1047 : Wd (Cond.lays RX12 "NestsByKnotsModel" "textCount" "I") := Wd.of 1047 (by decide +kernel)
theorem w_1049 : Wd (Cond.lays RX12 "NestsByKnotsModel" "rule" "I") := Wd.of 1049 (by decide +kernel)
theorem w_1051 : Wd (Cond.laysFinal RX12 "NestsByKnotsModel" "tape" "[I") := Wd.of 1051 (by decide +kernel)
theorem w_1053 : Wd (Cond.lays RX12 "NestsByKnotsModel" "taped" "I") := Wd.of 1053 (by decide +kernel)
theorem w_1055 : Wd (Cond.laysFinal RX12 "NestsByKnotsModel" "kind" "[I") := Wd.of 1055 (by decide +kernel)
theorem w_1057 : Wd (Cond.laysFinal RX12 "NestsByKnotsModel" "place" "[I") := Wd.of 1057 (by decide +kernel)
theorem w_1059 : Wd (Cond.laysFinal RX12 "NestsByKnotsModel" "number" "[I") := Wd.of 1059 (by decide +kernel)
theorem w_1061 : Wd (Cond.laysFinal RX12 "NestsByKnotsModel" "laid" "[I") := Wd.of 1061 (by decide +kernel)
theorem w_1063 : Wd (Cond.laysFinal RX12 "NestsByKnotsModel" "covers" "[I") := Wd.of 1063 (by decide +kernel)
theorem w_1065 : Wd (Cond.lays RX12 "NestsByKnotsModel" "there" "I") := Wd.of 1065 (by decide +kernel)
theorem w_1067 : Wd (Cond.lays RX12 "NestsByKnotsModel" "hour" "I") := Wd.of 1067 (by decide +kernel)
theorem w_1069 : Wd (Cond.lays RX12 "NestsByKnotsModel" "greenFor" "I") := Wd.of 1069 (by decide +kernel)
theorem w_1071 : Wd (Cond.lays RX12 "NestsByKnotsModel" "from" "I") := Wd.of 1071 (by decide +kernel)
theorem w_1073 : Wd (Cond.lays RX12 "NestsByKnotsModel" "size" "I") := Wd.of 1073 (by decide +kernel)
theorem w_1075 : Wd (Cond.lays RX12 "NestsByKnotsModel" "token" "I") := Wd.of 1075 (by decide +kernel)
theorem w_1077 : Wd (Cond.lays RX12 "NestsByKnotsModel" "tokenAt" "I") := Wd.of 1077 (by decide +kernel)
theorem w_1079 : Wd (Cond.lays RX12 "NestsByKnotsModel" "tokenWorth" "J") := Wd.of 1079 (by decide +kernel)
theorem w_1081 : Wd (Cond.lays RX12 "NestsByKnotsModel" "here" "I") := Wd.of 1081 (by decide +kernel)
theorem w_1083 : Wd (Cond.lays RX12 "NestsByKnotsModel" "open" "I") := Wd.of 1083 (by decide +kernel)
theorem w_1085 : Wd (Cond.lays RX12 "NestsByKnotsModel" "bad" "Z") := Wd.of 1085 (by decide +kernel)
theorem w_1087 : Wd (Cond.lays RX12 "NestsByKnotsModel" "fault" "I") := Wd.of 1087 (by decide +kernel)
theorem w_1089 : Wd (Cond.lays RX12 "NestsByKnotsModel" "aboutX" "I") := Wd.of 1089 (by decide +kernel)
theorem w_1091 : Wd (Cond.lays RX12 "NestsByKnotsModel" "aboutY" "I") := Wd.of 1091 (by decide +kernel)
theorem w_1093 : Wd (Cond.lays RX12 "NestsByKnotsModel" "aboutCross" "I") := Wd.of 1093 (by decide +kernel)
theorem w_1095 : Wd (Cond.lays RX12 "NestsByKnotsModel" "aboutLong" "I") := Wd.of 1095 (by decide +kernel)
theorem w_1097 : Wd (Cond.lays RX12 "NestsByKnotsModel" "aboutAge" "I") := Wd.of 1097 (by decide +kernel)
theorem w_1099 : Wd (Cond.lays RX12 "NestsByKnotsModel" "aboutStrips" "I") := Wd.of 1099 (by decide +kernel)
theorem w_1101 : Wd (Cond.laysFinal RX12 "NestsByKnotsModel" "imageStrips" "[I") := Wd.of 1101 (by decide +kernel)
theorem w_1103 : Wd (Cond.lays RX12 "NestsByKnotsModel" "hasImage" "Z") := Wd.of 1103 (by decide +kernel)
theorem w_1105 : Wd (Cond.lays RX12 "NestsByKnotsModel" "imageThere" "I") := Wd.of 1105 (by decide +kernel)
theorem w_1107 : Wd (Cond.lays RX12 "NestsByKnotsModel" "imageHour" "I") := Wd.of 1107 (by decide +kernel)
theorem w_1109 : Wd (Cond.lays RX12 "NestsByKnotsModel" "imageGreen" "I") := Wd.of 1109 (by decide +kernel)
theorem w_1111 : Wd (Cond.lays RX12 "NestsByKnotsModel" "imageRule" "I") := Wd.of 1111 (by decide +kernel)
theorem w_1113 : Wd (Cond.laysFinal RX12 "NestsByKnotsModel" "isThere" "[Z") := Wd.of 1113 (by decide +kernel)
theorem w_1115 : Wd (Cond.laysFinal RX12 "NestsByKnotsModel" "sorts" "[I") := Wd.of 1115 (by decide +kernel)
theorem w_1117 : Wd (Cond.laysFinal RX12 "NestsByKnotsModel" "sheetSize" "[I") := Wd.of 1117 (by decide +kernel)
theorem w_1119 : Wd (Cond.laysFinal RX12 "NestsByKnotsModel" "items" "[I") := Wd.of 1119 (by decide +kernel)
theorem w_1121 : Wd (Cond.superclass RX12 "java/lang/Object") := Wd.of 1121 (by decide +kernel)
theorem w_1122 : Wd (Cond.arrayClass FieldType.boolean) := Wd.of 1122 (by decide +kernel)
theorem w_1123 : Wd (Cond.methodLink RL 17 yX12_lay) := Wd.of 1123 (by decide +kernel)
theorem w_1124 : Wd (Cond.instanceMethod yX12_lay) := Wd.of 1124 (by decide +kernel)
theorem w_1125 : Wd (Cond.selects RX12 yX12_lay yX12_lay) := Wd.of 1125 (by decide +kernel)
theorem w_1126 : Wd (Cond.code yX12_lay cX12_lay 5 (some FieldType.int)) := Wd.of 1126 (by decide +kernel)
theorem w_1127 : Wd (Cond.constantLong RX12 86 (5 : Int64)) := Wd.of 1127 (by decide +kernel)
theorem w_1128 : Wd (Cond.methodLink RX12 82 yX12_in) := Wd.of 1128 (by decide +kernel)
theorem w_1129 : Wd (Cond.static yX12_in) := Wd.of 1129 (by decide +kernel)
theorem w_1130 : Wd (Cond.code yX12_in cX12_in 6 (some FieldType.boolean)) := Wd.of 1130 (by decide +kernel)
theorem w_1131 : Wd (Cond.methodLink RX12 102 yX12_isWhere) := Wd.of 1131 (by decide +kernel)
theorem w_1132 : Wd (Cond.static yX12_isWhere) := Wd.of 1132 (by decide +kernel)
theorem w_1133 : Wd (Cond.code yX12_isWhere cX12_isWhere 2 (some FieldType.boolean)) := Wd.of 1133 (by decide +kernel)
theorem w_1134 : Wd (Cond.constantLong RX12 80 (2499 : Int64)) := Wd.of 1134 (by decide +kernel)
theorem w_1135 : Wd (Cond.constantLong RX12 106 (9 : Int64)) := Wd.of 1135 (by decide +kernel)
theorem w_1136 : Wd (Cond.methodLink RX12 108 yX12_free) := Wd.of 1136 (by decide +kernel)
theorem w_1138 : Wd (Cond.instanceMethod yX12_free) := Wd.of 1138 (by decide +kernel)
theorem w_1139 : Wd (Cond.code yX12_free cX12_free 2 (some FieldType.int)) := Wd.of 1139 (by decide +kernel)
theorem w_1140 : Wd (Cond.methodLink RX12 112 yX12_lays) := Wd.of 1140 (by decide +kernel)
theorem w_1142 : Wd (Cond.instanceMethod yX12_lays) := Wd.of 1142 (by decide +kernel)
theorem w_1143 : Wd (Cond.code yX12_lays cX12_lays 5 none) := Wd.of 1143 (by decide +kernel)
theorem w_1144 : Wd (Cond.methodLink RX12 98 yX12_coversOf) := Wd.of 1144 (by decide +kernel)
theorem w_1145 : Wd (Cond.static yX12_coversOf) := Wd.of 1145 (by decide +kernel)
theorem w_1146 : Wd (Cond.code yX12_coversOf cX12_coversOf 4 (some FieldType.int)) := Wd.of 1146 (by decide +kernel)
theorem w_1147 : Wd (Cond.methodLink RL 22 yX12_out) := Wd.of 1147 (by decide +kernel)
theorem w_1148 : Wd (Cond.instanceMethod yX12_out) := Wd.of 1148 (by decide +kernel)
theorem w_1149 : Wd (Cond.selects RX12 yX12_out yX12_out) := Wd.of 1149 (by decide +kernel)
theorem w_1150 : Wd (Cond.code yX12_out cX12_out 2 (some FieldType.int)) := Wd.of 1150 (by decide +kernel)
theorem w_1151 : Wd (Cond.methodLink RX12 116 yX12_isStrip) := Wd.of 1151 (by decide +kernel)
theorem w_1153 : Wd (Cond.instanceMethod yX12_isStrip) := Wd.of 1153 (by decide +kernel)
theorem w_1154 : Wd (Cond.code yX12_isStrip cX12_isStrip 2 (some FieldType.boolean)) := Wd.of 1154 (by decide +kernel)
theorem w_1155 : Wd (Cond.constantLong RX12 88 (15 : Int64)) := Wd.of 1155 (by decide +kernel)
theorem w_1156 : Wd (Cond.methodLink RX12 119 yX12_bitsOf) := Wd.of 1156 (by decide +kernel)
theorem w_1157 : Wd (Cond.static yX12_bitsOf) := Wd.of 1157 (by decide +kernel)
theorem w_1158 : Wd (Cond.code yX12_bitsOf cX12_bitsOf 3 (some FieldType.int)) := Wd.of 1158 (by decide +kernel)
theorem w_1159 : Wd (Cond.methodLink RL 26 yX12_hours) := Wd.of 1159 (by decide +kernel)
theorem w_1160 : Wd (Cond.instanceMethod yX12_hours) := Wd.of 1160 (by decide +kernel)
theorem w_1161 : Wd (Cond.selects RX12 yX12_hours yX12_hours) := Wd.of 1161 (by decide +kernel)
theorem w_1162 : Wd (Cond.code yX12_hours cX12_hours 2 (some FieldType.int)) := Wd.of 1162 (by decide +kernel)
theorem w_1163 : Wd (Cond.constantLong RX12 122 (99 : Int64)) := Wd.of 1163 (by decide +kernel)
theorem w_1164 : Wd (Cond.methodLink RL 30 yX12_green) := Wd.of 1164 (by decide +kernel)
theorem w_1165 : Wd (Cond.instanceMethod yX12_green) := Wd.of 1165 (by decide +kernel)
theorem w_1166 : Wd (Cond.selects RX12 yX12_green yX12_green) := Wd.of 1166 (by decide +kernel)
theorem w_1167 : Wd (Cond.code yX12_green cX12_green 3 (some FieldType.int)) := Wd.of 1167 (by decide +kernel)
theorem w_1168 : Wd (Cond.methodLink RL 35 yX12_told) := Wd.of 1168 (by decide +kernel)
theorem w_1169 : Wd (Cond.instanceMethod yX12_told) := Wd.of 1169 (by decide +kernel)
theorem w_1170 : Wd (Cond.selects RX12 yX12_told yX12_told) := Wd.of 1170 (by decide +kernel)
theorem w_1171 : Wd (Cond.code yX12_told cX12_told 3 (some FieldType.int)) := Wd.of 1171 (by decide +kernel)
theorem w_1172 : Wd (Cond.methodLink RX12 124 yX12_ageOf) := Wd.of 1172 (by decide +kernel)
theorem w_1174 : Wd (Cond.instanceMethod yX12_ageOf) := Wd.of 1174 (by decide +kernel)
theorem w_1175 : Wd (Cond.code yX12_ageOf cX12_ageOf 2 (some FieldType.int)) := Wd.of 1175 (by decide +kernel)
theorem w_1176 : Wd (Cond.methodLink RX12 142 yX12_knotOf) := Wd.of 1176 (by decide +kernel)
theorem w_1178 : Wd (Cond.instanceMethod yX12_knotOf) := Wd.of 1178 (by decide +kernel)
theorem w_1179 : Wd (Cond.code yX12_knotOf cX12_knotOf 4 (some FieldType.int)) := Wd.of 1179 (by decide +kernel)
theorem w_1180 : Wd (Cond.methodLink RX12 151 yX12_slips) := Wd.of 1180 (by decide +kernel)
theorem w_1182 : Wd (Cond.instanceMethod yX12_slips) := Wd.of 1182 (by decide +kernel)
theorem w_1183 : Wd (Cond.code yX12_slips cX12_slips 2 (some FieldType.boolean)) := Wd.of 1183 (by decide +kernel)
theorem w_1184 : Wd (Cond.methodLink RX12 148 yX12_tiesOf) := Wd.of 1184 (by decide +kernel)
theorem w_1186 : Wd (Cond.instanceMethod yX12_tiesOf) := Wd.of 1186 (by decide +kernel)
theorem w_1187 : Wd (Cond.code yX12_tiesOf cX12_tiesOf 2 (some FieldType.int)) := Wd.of 1187 (by decide +kernel)
theorem w_1188 : Wd (Cond.methodLink RX12 134 yX12_crosses) := Wd.of 1188 (by decide +kernel)
theorem w_1190 : Wd (Cond.instanceMethod yX12_crosses) := Wd.of 1190 (by decide +kernel)
theorem w_1191 : Wd (Cond.code yX12_crosses cX12_crosses 7 (some FieldType.int)) := Wd.of 1191 (by decide +kernel)
theorem w_1192 : Wd (Cond.methodLink RX12 127 yX12_at1) := Wd.of 1192 (by decide +kernel)
theorem w_1194 : Wd (Cond.instanceMethod yX12_at1) := Wd.of 1194 (by decide +kernel)
theorem w_1195 : Wd (Cond.code yX12_at1 cX12_at1 5 (some FieldType.int)) := Wd.of 1195 (by decide +kernel)
theorem w_1196 : Wd (Cond.methodLink RX12 154 yX12_holdOf) := Wd.of 1196 (by decide +kernel)
theorem w_1198 : Wd (Cond.instanceMethod yX12_holdOf) := Wd.of 1198 (by decide +kernel)
theorem w_1199 : Wd (Cond.code yX12_holdOf cX12_holdOf 4 (some FieldType.int)) := Wd.of 1199 (by decide +kernel)
theorem w_1200 : Wd (Cond.methodLink RX12 138 yX12_read) := Wd.of 1200 (by decide +kernel)
theorem w_1202 : Wd (Cond.instanceMethod yX12_read) := Wd.of 1202 (by decide +kernel)
theorem w_1203 : Wd (Cond.code yX12_read cX12_read 12 (some FieldType.int)) := Wd.of 1203 (by decide +kernel)
theorem w_1204 : Wd (Cond.methodLink RX12 216 yX12_next1) := Wd.of 1204 (by decide +kernel)
theorem w_1206 : Wd (Cond.instanceMethod yX12_next1) := Wd.of 1206 (by decide +kernel)
theorem w_1207 : Wd (Cond.code yX12_next1 cX12_next1 3 none) := Wd.of 1207 (by decide +kernel)
theorem w_1208 : Wd (Cond.methodLink RX12 174 yX12_byteAt) := Wd.of 1208 (by decide +kernel)
theorem w_1210 : Wd (Cond.instanceMethod yX12_byteAt) := Wd.of 1210 (by decide +kernel)
theorem w_1211 : Wd (Cond.code yX12_byteAt cX12_byteAt 2 (some FieldType.int)) := Wd.of 1211 (by decide +kernel)
theorem w_1212 : Wd (Cond.constantLong RX12 183 (97 : Int64)) := Wd.of 1212 (by decide +kernel)
theorem w_1213 : Wd (Cond.constantLong RX12 185 (122 : Int64)) := Wd.of 1213 (by decide +kernel)
theorem w_1214 : Wd (Cond.constantLong RX12 191 (27 : Int64)) := Wd.of 1214 (by decide +kernel)
theorem w_1215 : Wd (Cond.constantLong RX12 193 (96 : Int64)) := Wd.of 1215 (by decide +kernel)
theorem w_1216 : Wd (Cond.constantLong RX12 195 (-1 : Int64)) := Wd.of 1216 (by decide +kernel)
theorem w_1217 : Wd (Cond.constantLong RX12 197 (48 : Int64)) := Wd.of 1217 (by decide +kernel)
theorem w_1218 : Wd (Cond.constantLong RX12 199 (57 : Int64)) := Wd.of 1218 (by decide +kernel)
theorem w_1219 : Wd (Cond.constantLong RX12 201 (10 : Int64)) := Wd.of 1219 (by decide +kernel)
theorem w_1220 : Wd (Cond.constantLong RX12 289 (13691 : Int64)) := Wd.of 1220 (by decide +kernel)
theorem w_1221 : Wd (Cond.methodLink RX12 291 yX12_part) := Wd.of 1221 (by decide +kernel)
theorem w_1223 : Wd (Cond.instanceMethod yX12_part) := Wd.of 1223 (by decide +kernel)
theorem w_1224 : Wd (Cond.code yX12_part cX12_part 4 (some FieldType.int)) := Wd.of 1224 (by decide +kernel)
theorem w_1225 : Wd (Cond.methodLink RX12 219 yX12_isWord) := Wd.of 1225 (by decide +kernel)
theorem w_1227 : Wd (Cond.instanceMethod yX12_isWord) := Wd.of 1227 (by decide +kernel)
theorem w_1228 : Wd (Cond.code yX12_isWord cX12_isWord 3 (some FieldType.boolean)) := Wd.of 1228 (by decide +kernel)
theorem w_1229 : Wd (Cond.methodLink RX12 213 yX12_fail) := Wd.of 1229 (by decide +kernel)
theorem w_1231 : Wd (Cond.instanceMethod yX12_fail) := Wd.of 1231 (by decide +kernel)
theorem w_1232 : Wd (Cond.code yX12_fail cX12_fail 1 none) := Wd.of 1232 (by decide +kernel)
theorem w_1233 : Wd (Cond.methodLink RX12 261 yX12_either) := Wd.of 1233 (by decide +kernel)
theorem w_1235 : Wd (Cond.instanceMethod yX12_either) := Wd.of 1235 (by decide +kernel)
theorem w_1236 : Wd (Cond.code yX12_either cX12_either 3 (some FieldType.int)) := Wd.of 1236 (by decide +kernel)
theorem w_1237 : Wd (Cond.methodLink RX12 284 yX12_both) := Wd.of 1237 (by decide +kernel)
theorem w_1239 : Wd (Cond.instanceMethod yX12_both) := Wd.of 1239 (by decide +kernel)
theorem w_1240 : Wd (Cond.code yX12_both cX12_both 3 (some FieldType.int)) := Wd.of 1240 (by decide +kernel)
theorem w_1241 : Wd (Cond.methodLink RX12 274 yX12_not) := Wd.of 1241 (by decide +kernel)
theorem w_1243 : Wd (Cond.instanceMethod yX12_not) := Wd.of 1243 (by decide +kernel)
theorem w_1244 : Wd (Cond.code yX12_not cX12_not 4 (some FieldType.int)) := Wd.of 1244 (by decide +kernel)
theorem w_1245 : Wd (Cond.constantLong RX12 272 (10631 : Int64)) := Wd.of 1245 (by decide +kernel)
theorem w_1246 : Wd (Cond.methodLink RX12 254 yX12_opens) := Wd.of 1246 (by decide +kernel)
theorem w_1248 : Wd (Cond.instanceMethod yX12_opens) := Wd.of 1248 (by decide +kernel)
theorem w_1249 : Wd (Cond.code yX12_opens cX12_opens 1 (some FieldType.boolean)) := Wd.of 1249 (by decide +kernel)
theorem w_1250 : Wd (Cond.methodLink RX12 277 yX12_added) := Wd.of 1250 (by decide +kernel)
theorem w_1252 : Wd (Cond.instanceMethod yX12_added) := Wd.of 1252 (by decide +kernel)
theorem w_1253 : Wd (Cond.code yX12_added cX12_added 4 (some FieldType.int)) := Wd.of 1253 (by decide +kernel)
theorem w_1254 : Wd (Cond.methodLink RX12 267 yX12_term) := Wd.of 1254 (by decide +kernel)
theorem w_1256 : Wd (Cond.instanceMethod yX12_term) := Wd.of 1256 (by decide +kernel)
theorem w_1257 : Wd (Cond.code yX12_term cX12_term 2 (some FieldType.int)) := Wd.of 1257 (by decide +kernel)
theorem w_1258 : Wd (Cond.methodLink RX12 258 yX12_one) := Wd.of 1258 (by decide +kernel)
theorem w_1260 : Wd (Cond.instanceMethod yX12_one) := Wd.of 1260 (by decide +kernel)
theorem w_1261 : Wd (Cond.code yX12_one cX12_one 2 (some FieldType.int)) := Wd.of 1261 (by decide +kernel)
theorem w_1262 : Wd (Cond.methodLink RX12 251 yX12_isSign) := Wd.of 1262 (by decide +kernel)
theorem w_1264 : Wd (Cond.instanceMethod yX12_isSign) := Wd.of 1264 (by decide +kernel)
theorem w_1265 : Wd (Cond.code yX12_isSign cX12_isSign 2 (some FieldType.boolean)) := Wd.of 1265 (by decide +kernel)
theorem w_1266 : Wd (Cond.methodLink RX12 264 yX12_name) := Wd.of 1266 (by decide +kernel)
theorem w_1268 : Wd (Cond.instanceMethod yX12_name) := Wd.of 1268 (by decide +kernel)
theorem w_1269 : Wd (Cond.code yX12_name cX12_name 1 (some FieldType.int)) := Wd.of 1269 (by decide +kernel)
theorem w_1270 : Wd (Cond.constantLong RX12 93 (24 : Int64)) := Wd.of 1270 (by decide +kernel)
theorem w_1271 : Wd (Cond.constantLong RX12 226 (25 : Int64)) := Wd.of 1271 (by decide +kernel)
theorem w_1272 : Wd (Cond.constantLong RX12 231 (1960084 : Int64)) := Wd.of 1272 (by decide +kernel)
theorem w_1273 : Wd (Cond.constantLong RX12 236 (247516 : Int64)) := Wd.of 1273 (by decide +kernel)
theorem w_1274 : Wd (Cond.constantLong RX12 241 (923 : Int64)) := Wd.of 1274 (by decide +kernel)
theorem w_1275 : Wd (Cond.constantLong RX12 246 (283619359 : Int64)) := Wd.of 1275 (by decide +kernel)
theorem w_1276 : Wd (Cond.constantLong RX12 270 (43 : Int64)) := Wd.of 1276 (by decide +kernel)
theorem w_1277 : Wd (Cond.constantLong RX12 280 (60 : Int64)) := Wd.of 1277 (by decide +kernel)
theorem w_1278 : Wd (Cond.constantLong RX12 282 (1111 : Int64)) := Wd.of 1278 (by decide +kernel)
theorem w_1279 : Wd (Cond.constantLong RX12 287 (423 : Int64)) := Wd.of 1279 (by decide +kernel)
theorem w_1280 : Wd (Cond.constantLong RX12 295 (279875 : Int64)) := Wd.of 1280 (by decide +kernel)
theorem w_1281 : Wd (Cond.constantLong RX12 297 (394691 : Int64)) := Wd.of 1281 (by decide +kernel)
theorem w_1282 : Wd (Cond.methodLink RX12 145 yX12_within) := Wd.of 1282 (by decide +kernel)
theorem w_1283 : Wd (Cond.static yX12_within) := Wd.of 1283 (by decide +kernel)
theorem w_1284 : Wd (Cond.code yX12_within cX12_within 3 (some FieldType.int)) := Wd.of 1284 (by decide +kernel)
theorem w_1285 : Wd (Cond.methodLink RL 39 yX12_at) := Wd.of 1285 (by decide +kernel)
theorem w_1286 : Wd (Cond.instanceMethod yX12_at) := Wd.of 1286 (by decide +kernel)
theorem w_1287 : Wd (Cond.selects RX12 yX12_at yX12_at) := Wd.of 1287 (by decide +kernel)
theorem w_1288 : Wd (Cond.code yX12_at cX12_at 2 (some FieldType.int)) := Wd.of 1288 (by decide +kernel)
theorem w_1289 : Wd (Cond.methodLink RX12 157 yX12_isCrossing) := Wd.of 1289 (by decide +kernel)
theorem w_1290 : Wd (Cond.static yX12_isCrossing) := Wd.of 1290 (by decide +kernel)
theorem w_1291 : Wd (Cond.code yX12_isCrossing cX12_isCrossing 1 (some FieldType.boolean)) := Wd.of 1291 (by decide +kernel)
theorem w_1292 : Wd (Cond.methodLink RL 46 yX12_feed) := Wd.of 1292 (by decide +kernel)
theorem w_1293 : Wd (Cond.instanceMethod yX12_feed) := Wd.of 1293 (by decide +kernel)
theorem w_1294 : Wd (Cond.selects RX12 yX12_feed yX12_feed) := Wd.of 1294 (by decide +kernel)
theorem w_1295 : Wd (Cond.code yX12_feed cX12_feed 5 (some FieldType.int)) := Wd.of 1295 (by decide +kernel)
theorem w_1296 : Wd (Cond.constantLong RX12 160 (8 : Int64)) := Wd.of 1296 (by decide +kernel)
theorem w_1297 : Wd (Cond.methodLink RL 51 yX12_text) := Wd.of 1297 (by decide +kernel)
theorem w_1298 : Wd (Cond.instanceMethod yX12_text) := Wd.of 1298 (by decide +kernel)
theorem w_1299 : Wd (Cond.selects RX12 yX12_text yX12_text) := Wd.of 1299 (by decide +kernel)
theorem w_1300 : Wd (Cond.code yX12_text cX12_text 2 (some FieldType.int)) := Wd.of 1300 (by decide +kernel)
theorem w_1301 : Wd (Cond.methodLink RL 55 yX12_force) := Wd.of 1301 (by decide +kernel)
theorem w_1302 : Wd (Cond.instanceMethod yX12_force) := Wd.of 1302 (by decide +kernel)
theorem w_1303 : Wd (Cond.selects RX12 yX12_force yX12_force) := Wd.of 1303 (by decide +kernel)
theorem w_1304 : Wd (Cond.code yX12_force cX12_force 3 (some FieldType.int)) := Wd.of 1304 (by decide +kernel)
theorem w_1305 : Wd (Cond.methodLink RL 67 yX12_falls) := Wd.of 1305 (by decide +kernel)
theorem w_1306 : Wd (Cond.instanceMethod yX12_falls) := Wd.of 1306 (by decide +kernel)
theorem w_1307 : Wd (Cond.selects RX12 yX12_falls yX12_falls) := Wd.of 1307 (by decide +kernel)
theorem w_1308 : Wd (Cond.code yX12_falls cX12_falls 1 (some FieldType.int)) := Wd.of 1308 (by decide +kernel)
theorem w_1309 : Wd (Cond.methodLink RX12 299 yX12_fallsOf) := Wd.of 1309 (by decide +kernel)
theorem w_1311 : Wd (Cond.instanceMethod yX12_fallsOf) := Wd.of 1311 (by decide +kernel)
theorem w_1312 : Wd (Cond.code yX12_fallsOf cX12_fallsOf 6 (some FieldType.int)) := Wd.of 1312 (by decide +kernel)
theorem w_1313 : Wd (Cond.methodLink RL 59 yX12_pull) := Wd.of 1313 (by decide +kernel)
theorem w_1314 : Wd (Cond.instanceMethod yX12_pull) := Wd.of 1314 (by decide +kernel)
theorem w_1315 : Wd (Cond.selects RX12 yX12_pull yX12_pull) := Wd.of 1315 (by decide +kernel)
theorem w_1316 : Wd (Cond.code yX12_pull cX12_pull 5 (some FieldType.int)) := Wd.of 1316 (by decide +kernel)
theorem w_1317 : Wd (Cond.constantLong RX12 302 (999 : Int64)) := Wd.of 1317 (by decide +kernel)
theorem w_1318 : Wd (Cond.methodLink RX12 304 yX12_leftBy) := Wd.of 1318 (by decide +kernel)
theorem w_1320 : Wd (Cond.instanceMethod yX12_leftBy) := Wd.of 1320 (by decide +kernel)
theorem w_1321 : Wd (Cond.code yX12_leftBy cX12_leftBy 7 (some FieldType.int)) := Wd.of 1321 (by decide +kernel)
theorem w_1322 : Wd (Cond.methodLink RL 63 yX12_pulled) := Wd.of 1322 (by decide +kernel)
theorem w_1323 : Wd (Cond.instanceMethod yX12_pulled) := Wd.of 1323 (by decide +kernel)
theorem w_1324 : Wd (Cond.selects RX12 yX12_pulled yX12_pulled) := Wd.of 1324 (by decide +kernel)
theorem w_1325 : Wd (Cond.code yX12_pulled cX12_pulled 5 (some FieldType.int)) := Wd.of 1325 (by decide +kernel)
theorem w_1326 : Wd (Cond.methodLink RL 71 yX12_least) := Wd.of 1326 (by decide +kernel)
theorem w_1327 : Wd (Cond.instanceMethod yX12_least) := Wd.of 1327 (by decide +kernel)
theorem w_1328 : Wd (Cond.selects RX12 yX12_least yX12_least) := Wd.of 1328 (by decide +kernel)
theorem w_1329 : Wd (Cond.code yX12_least cX12_least 10 (some FieldType.int)) := Wd.of 1329 (by decide +kernel)
theorem w_1330 : Wd (Cond.methodLink RL 76 yX12_good) := Wd.of 1330 (by decide +kernel)
theorem w_1331 : Wd (Cond.instanceMethod yX12_good) := Wd.of 1331 (by decide +kernel)
theorem w_1332 : Wd (Cond.selects RX12 yX12_good yX12_good) := Wd.of 1332 (by decide +kernel)
theorem w_1333 : Wd (Cond.code yX12_good cX12_good 2 (some FieldType.long)) := Wd.of 1333 (by decide +kernel)
theorem w_1334 : Wd (Cond.methodLink RX12 307 yX12_goodOf) := Wd.of 1334 (by decide +kernel)
theorem w_1336 : Wd (Cond.instanceMethod yX12_goodOf) := Wd.of 1336 (by decide +kernel)
theorem w_1337 : Wd (Cond.code yX12_goodOf cX12_goodOf 5 (some FieldType.int)) := Wd.of 1337 (by decide +kernel)
theorem w_1338 : Wd (Cond.constantLong RX12 310 (-4611686018427387904 : Int64)) := Wd.of 1338 (by decide +kernel)
theorem w_1339 : Wd (Cond.methodLink RL 80 yX12_next) := Wd.of 1339 (by decide +kernel)
theorem w_1340 : Wd (Cond.instanceMethod yX12_next) := Wd.of 1340 (by decide +kernel)
theorem w_1341 : Wd (Cond.selects RX12 yX12_next yX12_next) := Wd.of 1341 (by decide +kernel)
theorem w_1342 : Wd (Cond.code yX12_next cX12_next 2 (some FieldType.int)) := Wd.of 1342 (by decide +kernel)
theorem w_1343 : Wd (Cond.methodLink RX12 315 yX12_nextOf) := Wd.of 1343 (by decide +kernel)
theorem w_1345 : Wd (Cond.instanceMethod yX12_nextOf) := Wd.of 1345 (by decide +kernel)
theorem w_1346 : Wd (Cond.code yX12_nextOf cX12_nextOf 7 (some FieldType.int)) := Wd.of 1346 (by decide +kernel)
theorem w_1347 : Wd (Cond.methodLink RX12 312 yX12_where) := Wd.of 1347 (by decide +kernel)
theorem w_1348 : Wd (Cond.static yX12_where) := Wd.of 1348 (by decide +kernel)
theorem w_1349 : Wd (Cond.code yX12_where cX12_where 2 (some FieldType.int)) := Wd.of 1349 (by decide +kernel)
theorem w_1350 : Wd (Cond.methodLink RL 84 yX12_build) := Wd.of 1350 (by decide +kernel)
theorem w_1351 : Wd (Cond.instanceMethod yX12_build) := Wd.of 1351 (by decide +kernel)
theorem w_1352 : Wd (Cond.selects RX12 yX12_build yX12_build) := Wd.of 1352 (by decide +kernel)
theorem w_1353 : Wd (Cond.code yX12_build cX12_build 4 (some FieldType.int)) := Wd.of 1353 (by decide +kernel)
theorem w_1354 : Wd (Cond.methodLink RL 89 yX12_best) := Wd.of 1354 (by decide +kernel)
theorem w_1355 : Wd (Cond.instanceMethod yX12_best) := Wd.of 1355 (by decide +kernel)
theorem w_1356 : Wd (Cond.selects RX12 yX12_best yX12_best) := Wd.of 1356 (by decide +kernel)
theorem w_1357 : Wd (Cond.code yX12_best cX12_best 11 (some FieldType.int)) := Wd.of 1357 (by decide +kernel)
theorem w_1358 : Wd (Cond.methodLink RX12 318 yX12_leastHold) := Wd.of 1358 (by decide +kernel)
theorem w_1360 : Wd (Cond.instanceMethod yX12_leastHold) := Wd.of 1360 (by decide +kernel)
theorem w_1361 : Wd (Cond.code yX12_leastHold cX12_leastHold 4 (some FieldType.int)) := Wd.of 1361 (by decide +kernel)
theorem w_1362 : Wd (Cond.methodLink RL 93 yX12_takes) := Wd.of 1362 (by decide +kernel)
theorem w_1363 : Wd (Cond.instanceMethod yX12_takes) := Wd.of 1363 (by decide +kernel)
theorem w_1364 : Wd (Cond.selects RX12 yX12_takes yX12_takes) := Wd.of 1364 (by decide +kernel)
theorem w_1365 : Wd (Cond.code yX12_takes cX12_takes 1 (some FieldType.int)) := Wd.of 1365 (by decide +kernel)
theorem w_1366 : Wd (Cond.methodLink RX12 327 yX12_isTaken) := Wd.of 1366 (by decide +kernel)
theorem w_1368 : Wd (Cond.instanceMethod yX12_isTaken) := Wd.of 1368 (by decide +kernel)
theorem w_1369 : Wd (Cond.code yX12_isTaken cX12_isTaken 1 (some FieldType.boolean)) := Wd.of 1369 (by decide +kernel)
theorem w_1370 : Wd (Cond.methodLink RX12 321 yX12_covered) := Wd.of 1370 (by decide +kernel)
theorem w_1372 : Wd (Cond.instanceMethod yX12_covered) := Wd.of 1372 (by decide +kernel)
theorem w_1373 : Wd (Cond.code yX12_covered cX12_covered 3 (some FieldType.int)) := Wd.of 1373 (by decide +kernel)
theorem w_1374 : Wd (Cond.methodLink RX12 324 yX12_greens) := Wd.of 1374 (by decide +kernel)
theorem w_1376 : Wd (Cond.instanceMethod yX12_greens) := Wd.of 1376 (by decide +kernel)
theorem w_1377 : Wd (Cond.code yX12_greens cX12_greens 3 (some FieldType.int)) := Wd.of 1377 (by decide +kernel)
theorem w_1378 : Wd (Cond.methodLink RL 97 yX12_when) := Wd.of 1378 (by decide +kernel)
theorem w_1379 : Wd (Cond.instanceMethod yX12_when) := Wd.of 1379 (by decide +kernel)
theorem w_1380 : Wd (Cond.selects RX12 yX12_when yX12_when) := Wd.of 1380 (by decide +kernel)
theorem w_1381 : Wd (Cond.code yX12_when cX12_when 4 (some FieldType.int)) := Wd.of 1381 (by decide +kernel)
theorem w_1382 : Wd (Cond.methodLink RL 101 yX12_spare) := Wd.of 1382 (by decide +kernel)
theorem w_1383 : Wd (Cond.instanceMethod yX12_spare) := Wd.of 1383 (by decide +kernel)
theorem w_1384 : Wd (Cond.selects RX12 yX12_spare yX12_spare) := Wd.of 1384 (by decide +kernel)
theorem w_1385 : Wd (Cond.code yX12_spare cX12_spare 4 (some FieldType.int)) := Wd.of 1385 (by decide +kernel)
theorem w_1386 : Wd (Cond.methodLink RL 105 yX12_brown) := Wd.of 1386 (by decide +kernel)
theorem w_1387 : Wd (Cond.instanceMethod yX12_brown) := Wd.of 1387 (by decide +kernel)
theorem w_1388 : Wd (Cond.selects RX12 yX12_brown yX12_brown) := Wd.of 1388 (by decide +kernel)
theorem w_1389 : Wd (Cond.code yX12_brown cX12_brown 4 (some FieldType.int)) := Wd.of 1389 (by decide +kernel)
theorem w_1390 : Wd (Cond.methodLink RL 109 yX12_holes) := Wd.of 1390 (by decide +kernel)
theorem w_1391 : Wd (Cond.instanceMethod yX12_holes) := Wd.of 1391 (by decide +kernel)
theorem w_1392 : Wd (Cond.selects RX12 yX12_holes yX12_holes) := Wd.of 1392 (by decide +kernel)
theorem w_1393 : Wd (Cond.code yX12_holes cX12_holes 7 (some FieldType.int)) := Wd.of 1393 (by decide +kernel)
theorem w_1394 : Wd (Cond.methodLink RX12 332 yX12_isBeyond) := Wd.of 1394 (by decide +kernel)
theorem w_1395 : Wd (Cond.static yX12_isBeyond) := Wd.of 1395 (by decide +kernel)
theorem w_1396 : Wd (Cond.code yX12_isBeyond cX12_isBeyond 8 (some FieldType.boolean)) := Wd.of 1396 (by decide +kernel)
theorem w_1397 : Wd (Cond.constantLong RX12 330 (4 : Int64)) := Wd.of 1397 (by decide +kernel)
theorem w_1398 : Wd (Cond.methodLink RL 113 yX12_closes) := Wd.of 1398 (by decide +kernel)
theorem w_1399 : Wd (Cond.instanceMethod yX12_closes) := Wd.of 1399 (by decide +kernel)
theorem w_1400 : Wd (Cond.selects RX12 yX12_closes yX12_closes) := Wd.of 1400 (by decide +kernel)
theorem w_1401 : Wd (Cond.code yX12_closes cX12_closes 9 (some FieldType.int)) := Wd.of 1401 (by decide +kernel)
theorem w_1402 : Wd (Cond.methodLink RX12 336 yX12_holes) := Wd.of 1402 (by decide +kernel)
theorem w_1403 : Wd (Cond.methodLink RL 117 yX12_slipped) := Wd.of 1403 (by decide +kernel)
theorem w_1404 : Wd (Cond.instanceMethod yX12_slipped) := Wd.of 1404 (by decide +kernel)
theorem w_1405 : Wd (Cond.selects RX12 yX12_slipped yX12_slipped) := Wd.of 1405 (by decide +kernel)
theorem w_1406 : Wd (Cond.code yX12_slipped cX12_slipped 4 (some FieldType.int)) := Wd.of 1406 (by decide +kernel)
theorem w_1407 : Wd (Cond.methodLink RL 121 yX12_image) := Wd.of 1407 (by decide +kernel)
theorem w_1408 : Wd (Cond.instanceMethod yX12_image) := Wd.of 1408 (by decide +kernel)
theorem w_1409 : Wd (Cond.selects RX12 yX12_image yX12_image) := Wd.of 1409 (by decide +kernel)
theorem w_1410 : Wd (Cond.code yX12_image cX12_image 2 (some FieldType.int)) := Wd.of 1410 (by decide +kernel)
theorem w_1411 : Wd (Cond.methodLink RL 125 yX12_back) := Wd.of 1411 (by decide +kernel)
theorem w_1412 : Wd (Cond.instanceMethod yX12_back) := Wd.of 1412 (by decide +kernel)
theorem w_1413 : Wd (Cond.selects RX12 yX12_back yX12_back) := Wd.of 1413 (by decide +kernel)
theorem w_1414 : Wd (Cond.code yX12_back cX12_back 2 (some FieldType.int)) := Wd.of 1414 (by decide +kernel)
theorem w_1415 : Wd (Cond.methodLink RL 129 yX12_count) := Wd.of 1415 (by decide +kernel)
theorem w_1416 : Wd (Cond.instanceMethod yX12_count) := Wd.of 1416 (by decide +kernel)
theorem w_1417 : Wd (Cond.selects RX12 yX12_count yX12_count) := Wd.of 1417 (by decide +kernel)
theorem w_1418 : Wd (Cond.code yX12_count cX12_count 2 (some FieldType.int)) := Wd.of 1418 (by decide +kernel)
theorem w_1419 : Wd (Cond.methodLink RL 133 yX12_sheet) := Wd.of 1419 (by decide +kernel)
theorem w_1420 : Wd (Cond.instanceMethod yX12_sheet) := Wd.of 1420 (by decide +kernel)
theorem w_1421 : Wd (Cond.selects RX12 yX12_sheet yX12_sheet) := Wd.of 1421 (by decide +kernel)
theorem w_1422 : Wd (Cond.code yX12_sheet cX12_sheet 5 (some FieldType.int)) := Wd.of 1422 (by decide +kernel)
theorem w_1423 : Wd (Cond.methodLink RX12 356 yX12_isSheet) := Wd.of 1423 (by decide +kernel)
theorem w_1424 : Wd (Cond.static yX12_isSheet) := Wd.of 1424 (by decide +kernel)
theorem w_1425 : Wd (Cond.code yX12_isSheet cX12_isSheet 1 (some FieldType.boolean)) := Wd.of 1425 (by decide +kernel)
theorem w_1426 : Wd (Cond.constantLong RX12 354 (3 : Int64)) := Wd.of 1426 (by decide +kernel)
theorem w_1427 : Wd (Cond.constantLong RX12 359 (2 : Int64)) := Wd.of 1427 (by decide +kernel)
theorem w_1428 : Wd (Cond.methodLink RL 137 yX12_cell) := Wd.of 1428 (by decide +kernel)
theorem w_1429 : Wd (Cond.instanceMethod yX12_cell) := Wd.of 1429 (by decide +kernel)
theorem w_1430 : Wd (Cond.selects RX12 yX12_cell yX12_cell) := Wd.of 1430 (by decide +kernel)
theorem w_1431 : Wd (Cond.code yX12_cell cX12_cell 4 (some FieldType.int)) := Wd.of 1431 (by decide +kernel)
theorem w_1432 : Wd (Cond.methodLink RL 142 yX12_copy) := Wd.of 1432 (by decide +kernel)
theorem w_1433 : Wd (Cond.instanceMethod yX12_copy) := Wd.of 1433 (by decide +kernel)
theorem w_1434 : Wd (Cond.selects RX12 yX12_copy yX12_copy) := Wd.of 1434 (by decide +kernel)
theorem w_1435 : Wd (Cond.code yX12_copy cX12_copy 9 (some FieldType.int)) := Wd.of 1435 (by decide +kernel)
theorem w_1436 : Wd (Cond.methodLink RL 146 yX12_strips) := Wd.of 1436 (by decide +kernel)
theorem w_1437 : Wd (Cond.instanceMethod yX12_strips) := Wd.of 1437 (by decide +kernel)
theorem w_1438 : Wd (Cond.selects RX12 yX12_strips yX12_strips) := Wd.of 1438 (by decide +kernel)
theorem w_1439 : Wd (Cond.code yX12_strips cX12_strips 8 (some FieldType.int)) := Wd.of 1439 (by decide +kernel)
theorem w_1440 : Wd (Cond.constantLong RX12 361 (12 : Int64)) := Wd.of 1440 (by decide +kernel)
theorem w_1441 : Wd (Cond.methodLink RX12 363 yX12_lay) := Wd.of 1441 (by decide +kernel)
theorem w_1442 : Wd (Cond.methodLink RL 150 yX12_taken) := Wd.of 1442 (by decide +kernel)
theorem w_1443 : Wd (Cond.instanceMethod yX12_taken) := Wd.of 1443 (by decide +kernel)
theorem w_1444 : Wd (Cond.selects RX12 yX12_taken yX12_taken) := Wd.of 1444 (by decide +kernel)
theorem w_1445 : Wd (Cond.code yX12_taken cX12_taken 4 (some FieldType.int)) := Wd.of 1445 (by decide +kernel)
theorem w_1446 : Wd (Cond.methodLink RX12 366 yX12_over) := Wd.of 1446 (by decide +kernel)
theorem w_1447 : Wd (Cond.static yX12_over) := Wd.of 1447 (by decide +kernel)
theorem w_1448 : Wd (Cond.code yX12_over cX12_over 1 (some FieldType.int)) := Wd.of 1448 (by decide +kernel)
theorem w_1449 : Wd (Cond.constantLong RL 40 (4294967295 : Int64)) := Wd.of 1449 (by decide +kernel)
theorem w_1450 : Wd (Cond.sameMethod RX2 "NestsByKnots$Hitch" "knot" "(I)I") := Wd.of 1450 (by decide +kernel)
theorem w_1451 : Wd (Cond.sameMethod RX3 "NestsByKnots$Loop" "knot" "(I)I") := Wd.of 1451 (by decide +kernel)
theorem w_1461 : Wd (Cond.fieldLink RJ0 9 "java/lang/String" "value" "[B") := Wd.of 1461 (by decide +kernel)
theorem w_1462 : Wd (Cond.fieldLink RJ0 15 "java/lang/String" "coder" "B") := Wd.of 1462 (by decide +kernel)
end
section
/-! THE CORE: a method's code run over one world; 'Tr' is a goal over a world, 'Ct' a method's contract over a world. -/
abbrev Mu : Type := MethodName × ByteArray × Nat × Option FieldType
/-- the tables' side: classes and slots, array classes (int, byte, boolean, and of Tuck, Text, Sheet), String constants' cells and their bytes' cells -/
abbrev GT : Type := va_G × (Nat → ClassId) × (Nat → Nat) × (Nat → Nat)
/-- what else holds at a method's start, and what its end is -/
abbrev OT : Type := (State → Array Value → (Nat → Prop) → Prop) × (List Frame → Array Value → State → (Nat → Prop) → State → Prop)
def TYS (G : GT) : List (ClassId × FieldType) := [(G.2.1 0, .int), (G.2.1 1, .byte), (G.2.1 2, .boolean), (G.2.1 3, .object RX10), (G.2.1 4, .object RX9), (G.2.1 5, .object RX7)]
def nestL : List (String × Nat × MethodName) := [(RX11, 9, yX6_init), (RX4, 39, yX0_init), (RX11, 67, yX7_init), (RX4, 60, yX11_longOf), (RX4, 63, yX11_firstOf), (RX4, 66, yX11_stepOf), (RX4, 148, yX11_placeOf), (RX4, 151, yX11_fits)]
def castL : List (String × String) := [(RX1, RX3), (RX2, RX3), (RX8, RX3), (RX1, RX2), (RX3, RX10), (RX2, RX10), (RX8, RX10), (RX1, RX10), (RX5, RX10)]
def ncL : List (String × String) := [(RX5, RX3), (RX10, RX3), (RX3, RX2), (RX8, RX2), (RX5, RX2), (RX10, RX2), (RX3, RX8), (RX2, RX8), (RX1, RX8), (RX5, RX8), (RX10, RX8), (RX3, RX1), (RX2, RX1), (RX8, RX1), (RX5, RX1), (RX10, RX1), (RX3, RX5), (RX2, RX5), (RX8, RX5), (RX1, RX5), (RX10, RX5)]
def strL : List (String × Nat × String) := [(RX11, 28, "rub 3 ; next cross * 2 - y ; take 3 < y and 4 < x ;"), (RX6, 118, "x"), (RX6, 124, "y"), (RX6, 126, "cross"), (RX6, 128, "long"), (RX6, 130, "age"), (RX6, 132, "strips"), (RX6, 134, "rub"), (RX6, 136, "next"), (RX6, 138, "take"), (RX6, 140, "or"), (RX6, 142, "and"), (RX6, 144, "not"), (RX6, 154, "();+-*<=")]
def sLen : List Nat := [51, 1, 1, 5, 4, 3, 6, 3, 4, 4, 2, 3, 3, 8]
def sByt : List (List Int32) := [[114, 117, 98, 32, 51, 32, 59, 32, 110, 101, 120, 116, 32, 99, 114, 111, 115, 115, 32, 42, 32, 50, 32, 45, 32, 121, 32, 59, 32, 116, 97, 107, 101, 32, 51, 32, 60, 32, 121, 32, 97, 110, 100, 32, 52, 32, 60, 32, 120, 32, 59], [120], [121], [99, 114, 111, 115, 115], [108, 111, 110, 103], [97, 103, 101], [115, 116, 114, 105, 112, 115], [114, 117, 98], [110, 101, 120, 116], [116, 97, 107, 101], [111, 114], [97, 110, 100], [110, 111, 116], [40, 41, 59, 43, 45, 42, 60, 61]]
def XB (G : GT) (U : State) : Prop := (∀ q ∈ nestL, va_Nw (.methodLinkNest q.1 q.2.1 q.2.2 "NestsByKnots") U) ∧ (∀ q ∈ castL, va_Nw (.castable q.1 q.2) U) ∧ (∀ q ∈ ncL, va_Nc q.1 q.2 U) ∧ (∀ (i : Nat) (q : String × Nat × String), strL[i]? = some q → vk_R q.1 q.2.1 q.2.2 (G.2.2.1 i) U) ∧ (∀ C ∈ [RX10, RX9, RX7], va_AO C U)
def SK (G : GT) (A : Nat → Prop) (U : State) (H : Heap) : Prop := vk_S 14 sLen sByt G.2.2.1 G.2.2.2 A U H ∧ va_Z "java/lang/String" "COMPACT_STRINGS" "Z" (.int 1) A U H
def Am (G : GT) (A : Nat → Prop) (U : State) (H : Heap) : Prop := (∀ w, Wd w → ∀ a : Array Value, w.before a U = true) ∧ XB G U ∧ va_K G.1 vwCl (TYS G) U ∧ SK G A U H
theorem Am.warm {G : GT} {A : Nat → Prop} {s U : State} {H : Heap} (hW : s.WarmedH U.vm) (h : Am G A s H) : Am G A U H := by
  obtain ⟨h1, ⟨x1, x2, x3, x4, x5⟩, h3, h4, h5⟩ := h
  exact ⟨fun w hw a => word_at hW (good_of_word hw.2) (h1 w hw #[]), ⟨fun q hq => va_Nw.warmM hW (x1 q hq), fun q hq => va_Nw.warmC hW (x2 q hq), fun q hq => va_Nc.moved hW.alike (x3 q hq), fun i q hq => vk_R.warm hW (x4 i q hq), fun C hC => va_AO.moved hW.alike (x5 C hC)⟩, va_K.moved hW.alike h3, vk_S.moved hW.alike h4, va_Z.moved hW.alike h5⟩
theorem Am.same {G : GT} {A : Nat → Prop} {u U : State} {H : Heap} (hv : u.vm = U.vm) (h : Am G A u H) : Am G A U H := Am.warm (by rw [← hv]; exact State.WarmedH.refl u) h
theorem Am.kept {G : GT} {A : Nat → Prop} {U : State} {H H1 : Heap} (h : Am G A U H) (hq : ∀ a : Nat, a < H.size → ¬ A a → H1[a]? = H[a]?) : Am G A U H1 := ⟨h.1, h.2.1, h.2.2.1, h.2.2.2.1.kept hq, h.2.2.2.2.kept hq⟩
theorem Am.narrow {G : GT} {A B : Nat → Prop} {U : State} {H : Heap} (h : Am G A U H) (hAB : ∀ q, B q → A q) : Am G B U H := ⟨h.1, h.2.1, h.2.2.1, h.2.2.2.1.narrow hAB, h.2.2.2.2.narrow hAB⟩
/-- what holds all through a method's body -/
def Cx (G : GT) (μ : Mu) (O : OT) (p : Program) (s : State) (m : MethodId) (args : Array Value) (meth : Method) (c : Code) (A : Nat → Prop) : Prop :=
  p.tables.exec = Jvm.exec ∧ c.code = μ.2.1 ∧ c.maxLocals = μ.2.2.1 ∧ s.vm.findClass μ.1.cls = some m.cls ∧ meth.sig.returnType = μ.2.2.2 ∧ meth.locks = false ∧ Am G A s s.heap ∧ (∀ q, s.heap.size ≤ q → A q) ∧ meth.name = μ.1.name ∧ O.1 s args A
def Tr (G : GT) (μ : Mu) (R : Room) (O : OT) (cs ss pc : Nat) (lv : List (Nat × Value)) (st : List Value) (ws : va_W) : Prop :=
  ∀ (p : Program) (l : Launch) (e : Env) (s : State) (m : MethodId) (args : Array Value) (below : List Frame) (meth : Method) (c : Code) (A : Nat → Prop) (H : Heap) (locs : List Loc) (ls : Array Slot),
    Cx G μ O p s m args meth c A → lv_has ls μ.2.2.1 lv → va_P G.1 vwCl ws H → va_D A ws → va_S A s.heap H locs → W p l e R s m args below meth c H locs cs ss (O.2 below args s A) (F0 m pc ls st)
def Qg (G : GT) (E : Option Value → va_W → Prop) (A : Nat → Prop) : Array Value → State → Outcome → State → Prop := fun _ st oc t => (∃ (v : Option Value) (ws : va_W), oc = .returned v ∧ E v ws ∧ va_P G.1 vwCl ws t.heap ∧ va_D A ws) ∧ va_F A st t
/-- a method's own end -/
def OM (G : GT) (E : Option Value → va_W → Prop) (mc ms : Nat) : OT := (fun _ _ _ => True, fun below args s A => MQ below (Qg G E A) args s mc ms A)
def Rm (d mc ms : Nat) : Room := { frames := d, cells := mc, slots := ms, locals := 40 * d }
def GSt (G : GT) (ws : va_W) (sz : Nat) (U : State) : Prop := U.heap.size = sz ∧ va_P G.1 vwCl ws U.heap ∧ va_D (fun _ => True) ws ∧ Am G (va_A ws sz) U U.heap
/-- a method's contract: at these arguments, over this world, it returns, with E of its answer and the world behind it -/
def Ct (G : GT) (μ : Mu) (d mc ms : Nat) (av : List Value) (ws : va_W) (E : Option Value → va_W → Prop) : Prop :=
  ∀ (l : Launch) (sz : Nat), Met l μ.1 [Cond.code μ.1 μ.2.1 μ.2.2.1 μ.2.2.2] (Rm d mc ms) (va_Pc av (GSt G ws sz)) (Qg G E (va_A ws sz)) mc ms (va_A ws sz)
theorem Ct.intro {G : GT} {μ : Mu} {d mc ms : Nat} {av : List Value} {ws : va_W} {E : Option Value → va_W → Prop} (lv : List (Nat × Value)) (hp : plainName μ.1.cls = true) (hl : lv_args 0 av = lv) (hn : (lg_sl av).length ≤ μ.2.2.1) (k : Tr G μ (Rm d mc ms) (OM G E mc ms) 0 0 0 lv [] ws) : Ct G μ d mc ms av ws E := by
  intro l sz
  refine Met.ofW (cc := μ.2.1) (maxL := μ.2.2.1) (ret := μ.2.2.2) hp rfl ?_
  intro p e s m args below meth c s₁ B hml hv
  obtain ⟨rfl, hsz, hP, hD0, hAm⟩ := hv
  subst hsz
  have hin : meth.name = μ.1.name := (name_of_methodNamed B.named B.method).1
  rw [lg_entry_eq]
  subst hl
  exact k p l e s m _ below meth c _ _ _ _ ⟨B.exec, B.bytes, hml, findClass_of_methodNamed B.named, B.returns, B.notSynchronized, hAm, fun q h => Or.inr h, hin, trivial⟩ (lv_entry av hn) hP hD0.self va_S.rf
/-- a weaker end -/
theorem Ct.mono {G : GT} {μ : Mu} {d mc ms : Nat} {av : List Value} {ws : va_W} {E E' : Option Value → va_W → Prop} (h : Ct G μ d mc ms av ws E) (hE : ∀ v w, E v w → E' v w) : Ct G μ d mc ms av ws E' := by
  intro l sz
  have hM := h l sz
  unfold Met at hM ⊢
  intro p e ha hc hk s m args below hf hap hP hKz
  obtain ⟨k, o, h0, h1, h2, h4, h5⟩ := hM p e ha hc hk s m args below hf hap hP hKz
  refine ⟨k, o, h0, h1, h2, ?_, h5⟩
  obtain ⟨⟨v, w, a1, a2, a3⟩, a4⟩ := h4
  exact ⟨⟨v, w, a1, hE v w a2, a3⟩, a4⟩
/-- an instruction's row: what it is, how long, what comes behind it -/
def Dc (μ : Mu) (pc : Nat) (i : Instr) (n pc' : Nat) : Prop := decode μ.2.1 pc = .ok (i, n) ∧ pc + n = pc'
def Db (μ : Mu) (pc : Nat) (i : Instr) (off : Int) (pc' tgt : Nat) : Prop := decode μ.2.1 pc = .ok (i, 3) ∧ pc + 3 = pc' ∧ (pc : Int) + off = (tgt : Int)


theorem z_iconst {G : GT} {μ : Mu} {R : Room} {O : OT} {cs ss pc pc' : Nat} {lv : List (Nat × Value)} {st : List Value} {ws : va_W} {n : Int} {v : Int32} (hd : Dc μ pc (.iconst n) 1 pc') (hv : Int32.ofInt n = v) (k : Tr G μ R O cs ss pc' lv (.int v :: st) ws) : Tr G μ R O cs ss pc lv (st) ws := fun p l ev s m args below meth c A H locs ls C hl hP hD hS => by
  obtain ⟨hx, hb, hml, hown, hr, hlk, hAm, hA, hnm, hO⟩ := id C
  obtain ⟨hd, rfl⟩ := hd
  exact lv_iconst hx hb hd hv (k p l ev s m args below meth c A H locs ls C hl hP hD hS)
theorem z_bipush {G : GT} {μ : Mu} {R : Room} {O : OT} {cs ss pc pc' : Nat} {lv : List (Nat × Value)} {st : List Value} {ws : va_W} {n : Int} {v : Int32} (hd : Dc μ pc (.bipush n) 2 pc') (hv : (Int8.ofInt n).toInt32 = v) (k : Tr G μ R O cs ss pc' lv (.int v :: st) ws) : Tr G μ R O cs ss pc lv (st) ws := fun p l ev s m args below meth c A H locs ls C hl hP hD hS => by
  obtain ⟨hx, hb, hml, hown, hr, hlk, hAm, hA, hnm, hO⟩ := id C
  obtain ⟨hd, rfl⟩ := hd
  exact lv_bipush hx hb hd hv (k p l ev s m args below meth c A H locs ls C hl hP hD hS)
theorem z_sipush {G : GT} {μ : Mu} {R : Room} {O : OT} {cs ss pc pc' : Nat} {lv : List (Nat × Value)} {st : List Value} {ws : va_W} {n : Int} {v : Int32} (hd : Dc μ pc (.sipush n) 3 pc') (hv : (Int16.ofInt n).toInt32 = v) (k : Tr G μ R O cs ss pc' lv (.int v :: st) ws) : Tr G μ R O cs ss pc lv (st) ws := fun p l ev s m args below meth c A H locs ls C hl hP hD hS => by
  obtain ⟨hx, hb, hml, hown, hr, hlk, hAm, hA, hnm, hO⟩ := id C
  obtain ⟨hd, rfl⟩ := hd
  exact lv_sipush hx hb hd hv (k p l ev s m args below meth c A H locs ls C hl hP hD hS)
theorem z_lconst {G : GT} {μ : Mu} {R : Room} {O : OT} {cs ss pc pc' : Nat} {lv : List (Nat × Value)} {st : List Value} {ws : va_W} {n : Fin 2} {v : Int64} (hd : Dc μ pc (.lconst n) 1 pc') (hv : Int64.ofNat (n : Nat) = v) (k : Tr G μ R O cs ss pc' lv (.long v :: st) ws) : Tr G μ R O cs ss pc lv (st) ws := fun p l ev s m args below meth c A H locs ls C hl hP hD hS => by
  obtain ⟨hx, hb, hml, hown, hr, hlk, hAm, hA, hnm, hO⟩ := id C
  obtain ⟨hd, rfl⟩ := hd
  exact lv_lconst hx hb hd hv (k p l ev s m args below meth c A H locs ls C hl hP hD hS)
theorem z_null {G : GT} {μ : Mu} {R : Room} {O : OT} {cs ss pc pc' : Nat} {lv : List (Nat × Value)} {st : List Value} {ws : va_W}  (hd : Dc μ pc (.aconst_null) 1 pc')  (k : Tr G μ R O cs ss pc' lv (.null :: st) ws) : Tr G μ R O cs ss pc lv (st) ws := fun p l ev s m args below meth c A H locs ls C hl hP hD hS => by
  obtain ⟨hx, hb, hml, hown, hr, hlk, hAm, hA, hnm, hO⟩ := id C
  obtain ⟨hd, rfl⟩ := hd
  exact lv_null hx hb hd (k p l ev s m args below meth c A H locs ls C hl hP hD hS)
theorem z_iload_n {G : GT} {μ : Mu} {R : Room} {O : OT} {cs ss pc pc' : Nat} {lv : List (Nat × Value)} {st : List Value} {ws : va_W} {j : Fin 4} {x : Int32} (hd : Dc μ pc (.iload_n j) 1 pc') (i : Nat) (hi : lv[i]? = some (j.val, .int x)) (k : Tr G μ R O cs ss pc' lv (.int x :: st) ws) : Tr G μ R O cs ss pc lv (st) ws := fun p l ev s m args below meth c A H locs ls C hl hP hD hS => by
  obtain ⟨hx, hb, hml, hown, hr, hlk, hAm, hA, hnm, hO⟩ := id C
  obtain ⟨hd, rfl⟩ := hd
  exact lv_iload_n hx hb hd rfl (hl.2.2 _ (List.mem_of_getElem? hi)) (k p l ev s m args below meth c A H locs ls C hl hP hD hS)
theorem z_iload {G : GT} {μ : Mu} {R : Room} {O : OT} {cs ss pc pc' : Nat} {lv : List (Nat × Value)} {st : List Value} {ws : va_W} {j : Nat} {x : Int32} (hd : Dc μ pc (.iload j) 2 pc') (i : Nat) (hi : lv[i]? = some (j, .int x)) (k : Tr G μ R O cs ss pc' lv (.int x :: st) ws) : Tr G μ R O cs ss pc lv (st) ws := fun p l ev s m args below meth c A H locs ls C hl hP hD hS => by
  obtain ⟨hx, hb, hml, hown, hr, hlk, hAm, hA, hnm, hO⟩ := id C
  obtain ⟨hd, rfl⟩ := hd
  exact lv_iload hx hb hd (hl.2.2 _ (List.mem_of_getElem? hi)) (k p l ev s m args below meth c A H locs ls C hl hP hD hS)
theorem z_aload_n {G : GT} {μ : Mu} {R : Room} {O : OT} {cs ss pc pc' : Nat} {lv : List (Nat × Value)} {st : List Value} {ws : va_W} {j : Fin 4} {x : Nat} (hd : Dc μ pc (.aload_n j) 1 pc') (i : Nat) (hi : lv[i]? = some (j.val, .ref x)) (k : Tr G μ R O cs ss pc' lv (.ref x :: st) ws) : Tr G μ R O cs ss pc lv (st) ws := fun p l ev s m args below meth c A H locs ls C hl hP hD hS => by
  obtain ⟨hx, hb, hml, hown, hr, hlk, hAm, hA, hnm, hO⟩ := id C
  obtain ⟨hd, rfl⟩ := hd
  exact lv_aload_n hx hb hd rfl (hl.2.2 _ (List.mem_of_getElem? hi)) (k p l ev s m args below meth c A H locs ls C hl hP hD hS)
theorem z_aload {G : GT} {μ : Mu} {R : Room} {O : OT} {cs ss pc pc' : Nat} {lv : List (Nat × Value)} {st : List Value} {ws : va_W} {j : Nat} {x : Nat} (hd : Dc μ pc (.aload j) 2 pc') (i : Nat) (hi : lv[i]? = some (j, .ref x)) (k : Tr G μ R O cs ss pc' lv (.ref x :: st) ws) : Tr G μ R O cs ss pc lv (st) ws := fun p l ev s m args below meth c A H locs ls C hl hP hD hS => by
  obtain ⟨hx, hb, hml, hown, hr, hlk, hAm, hA, hnm, hO⟩ := id C
  obtain ⟨hd, rfl⟩ := hd
  exact lv_aload hx hb hd (hl.2.2 _ (List.mem_of_getElem? hi)) (k p l ev s m args below meth c A H locs ls C hl hP hD hS)
theorem z_lload_n {G : GT} {μ : Mu} {R : Room} {O : OT} {cs ss pc pc' : Nat} {lv : List (Nat × Value)} {st : List Value} {ws : va_W} {j : Fin 4} {x : Int64} (hd : Dc μ pc (.lload_n j) 1 pc') (i : Nat) (hi : lv[i]? = some (j.val, .long x)) (k : Tr G μ R O cs ss pc' lv (.long x :: st) ws) : Tr G μ R O cs ss pc lv (st) ws := fun p l ev s m args below meth c A H locs ls C hl hP hD hS => by
  obtain ⟨hx, hb, hml, hown, hr, hlk, hAm, hA, hnm, hO⟩ := id C
  obtain ⟨hd, rfl⟩ := hd
  exact lv_lload_n hx hb hd rfl (hl.2.2 _ (List.mem_of_getElem? hi)) (k p l ev s m args below meth c A H locs ls C hl hP hD hS)
theorem z_lload {G : GT} {μ : Mu} {R : Room} {O : OT} {cs ss pc pc' : Nat} {lv : List (Nat × Value)} {st : List Value} {ws : va_W} {j : Nat} {x : Int64} (hd : Dc μ pc (.lload j) 2 pc') (i : Nat) (hi : lv[i]? = some (j, .long x)) (k : Tr G μ R O cs ss pc' lv (.long x :: st) ws) : Tr G μ R O cs ss pc lv (st) ws := fun p l ev s m args below meth c A H locs ls C hl hP hD hS => by
  obtain ⟨hx, hb, hml, hown, hr, hlk, hAm, hA, hnm, hO⟩ := id C
  obtain ⟨hd, rfl⟩ := hd
  exact lv_lload hx hb hd (hl.2.2 _ (List.mem_of_getElem? hi)) (k p l ev s m args below meth c A H locs ls C hl hP hD hS)
theorem z_iadd {G : GT} {μ : Mu} {R : Room} {O : OT} {cs ss pc pc' : Nat} {lv : List (Nat × Value)} {st : List Value} {ws : va_W} {x y : Int32} (hd : Dc μ pc (.iadd) 1 pc')  (k : Tr G μ R O cs ss pc' lv (.int (x + y) :: st) ws) : Tr G μ R O cs ss pc lv (.int y :: .int x :: st) ws := fun p l ev s m args below meth c A H locs ls C hl hP hD hS => by
  obtain ⟨hx, hb, hml, hown, hr, hlk, hAm, hA, hnm, hO⟩ := id C
  obtain ⟨hd, rfl⟩ := hd
  exact lv_iadd hx hb hd (k p l ev s m args below meth c A H locs ls C hl hP hD hS)
theorem z_isub {G : GT} {μ : Mu} {R : Room} {O : OT} {cs ss pc pc' : Nat} {lv : List (Nat × Value)} {st : List Value} {ws : va_W} {x y : Int32} (hd : Dc μ pc (.isub) 1 pc')  (k : Tr G μ R O cs ss pc' lv (.int (x - y) :: st) ws) : Tr G μ R O cs ss pc lv (.int y :: .int x :: st) ws := fun p l ev s m args below meth c A H locs ls C hl hP hD hS => by
  obtain ⟨hx, hb, hml, hown, hr, hlk, hAm, hA, hnm, hO⟩ := id C
  obtain ⟨hd, rfl⟩ := hd
  exact lv_isub hx hb hd (k p l ev s m args below meth c A H locs ls C hl hP hD hS)
theorem z_imul {G : GT} {μ : Mu} {R : Room} {O : OT} {cs ss pc pc' : Nat} {lv : List (Nat × Value)} {st : List Value} {ws : va_W} {x y : Int32} (hd : Dc μ pc (.imul) 1 pc')  (k : Tr G μ R O cs ss pc' lv (.int (x * y) :: st) ws) : Tr G μ R O cs ss pc lv (.int y :: .int x :: st) ws := fun p l ev s m args below meth c A H locs ls C hl hP hD hS => by
  obtain ⟨hx, hb, hml, hown, hr, hlk, hAm, hA, hnm, hO⟩ := id C
  obtain ⟨hd, rfl⟩ := hd
  exact lv_imul hx hb hd (k p l ev s m args below meth c A H locs ls C hl hP hD hS)
theorem z_iand {G : GT} {μ : Mu} {R : Room} {O : OT} {cs ss pc pc' : Nat} {lv : List (Nat × Value)} {st : List Value} {ws : va_W} {x y : Int32} (hd : Dc μ pc (.iand) 1 pc')  (k : Tr G μ R O cs ss pc' lv (.int (x &&& y) :: st) ws) : Tr G μ R O cs ss pc lv (.int y :: .int x :: st) ws := fun p l ev s m args below meth c A H locs ls C hl hP hD hS => by
  obtain ⟨hx, hb, hml, hown, hr, hlk, hAm, hA, hnm, hO⟩ := id C
  obtain ⟨hd, rfl⟩ := hd
  exact lv_iand hx hb hd (k p l ev s m args below meth c A H locs ls C hl hP hD hS)
theorem z_ior {G : GT} {μ : Mu} {R : Room} {O : OT} {cs ss pc pc' : Nat} {lv : List (Nat × Value)} {st : List Value} {ws : va_W} {x y : Int32} (hd : Dc μ pc (.ior) 1 pc')  (k : Tr G μ R O cs ss pc' lv (.int (x ||| y) :: st) ws) : Tr G μ R O cs ss pc lv (.int y :: .int x :: st) ws := fun p l ev s m args below meth c A H locs ls C hl hP hD hS => by
  obtain ⟨hx, hb, hml, hown, hr, hlk, hAm, hA, hnm, hO⟩ := id C
  obtain ⟨hd, rfl⟩ := hd
  exact lv_ior hx hb hd (k p l ev s m args below meth c A H locs ls C hl hP hD hS)
theorem z_ixor {G : GT} {μ : Mu} {R : Room} {O : OT} {cs ss pc pc' : Nat} {lv : List (Nat × Value)} {st : List Value} {ws : va_W} {x y : Int32} (hd : Dc μ pc (.ixor) 1 pc')  (k : Tr G μ R O cs ss pc' lv (.int (x ^^^ y) :: st) ws) : Tr G μ R O cs ss pc lv (.int y :: .int x :: st) ws := fun p l ev s m args below meth c A H locs ls C hl hP hD hS => by
  obtain ⟨hx, hb, hml, hown, hr, hlk, hAm, hA, hnm, hO⟩ := id C
  obtain ⟨hd, rfl⟩ := hd
  exact lv_ixor hx hb hd (k p l ev s m args below meth c A H locs ls C hl hP hD hS)
theorem z_ishl {G : GT} {μ : Mu} {R : Room} {O : OT} {cs ss pc pc' : Nat} {lv : List (Nat × Value)} {st : List Value} {ws : va_W} {x y : Int32} (hd : Dc μ pc (.ishl) 1 pc')  (k : Tr G μ R O cs ss pc' lv (.int (x <<< (y &&& 31)) :: st) ws) : Tr G μ R O cs ss pc lv (.int y :: .int x :: st) ws := fun p l ev s m args below meth c A H locs ls C hl hP hD hS => by
  obtain ⟨hx, hb, hml, hown, hr, hlk, hAm, hA, hnm, hO⟩ := id C
  obtain ⟨hd, rfl⟩ := hd
  exact lv_ishl hx hb hd (k p l ev s m args below meth c A H locs ls C hl hP hD hS)
theorem z_ishr {G : GT} {μ : Mu} {R : Room} {O : OT} {cs ss pc pc' : Nat} {lv : List (Nat × Value)} {st : List Value} {ws : va_W} {x y : Int32} (hd : Dc μ pc (.ishr) 1 pc')  (k : Tr G μ R O cs ss pc' lv (.int (x >>> (y &&& 31)) :: st) ws) : Tr G μ R O cs ss pc lv (.int y :: .int x :: st) ws := fun p l ev s m args below meth c A H locs ls C hl hP hD hS => by
  obtain ⟨hx, hb, hml, hown, hr, hlk, hAm, hA, hnm, hO⟩ := id C
  obtain ⟨hd, rfl⟩ := hd
  exact lv_ishr hx hb hd (k p l ev s m args below meth c A H locs ls C hl hP hD hS)
theorem z_idiv {G : GT} {μ : Mu} {R : Room} {O : OT} {cs ss pc pc' : Nat} {lv : List (Nat × Value)} {st : List Value} {ws : va_W} {x y : Int32} (hd : Dc μ pc (.idiv) 1 pc') (hne : ¬ y = 0) (k : Tr G μ R O cs ss pc' lv (.int (x / y) :: st) ws) : Tr G μ R O cs ss pc lv (.int y :: .int x :: st) ws := fun p l ev s m args below meth c A H locs ls C hl hP hD hS => by
  obtain ⟨hx, hb, hml, hown, hr, hlk, hAm, hA, hnm, hO⟩ := id C
  obtain ⟨hd, rfl⟩ := hd
  exact lv_idiv hx hb hd hne (k p l ev s m args below meth c A H locs ls C hl hP hD hS)
theorem z_irem {G : GT} {μ : Mu} {R : Room} {O : OT} {cs ss pc pc' : Nat} {lv : List (Nat × Value)} {st : List Value} {ws : va_W} {x y : Int32} (hd : Dc μ pc (.irem) 1 pc') (hne : ¬ y = 0) (k : Tr G μ R O cs ss pc' lv (.int (x - x / y * y) :: st) ws) : Tr G μ R O cs ss pc lv (.int y :: .int x :: st) ws := fun p l ev s m args below meth c A H locs ls C hl hP hD hS => by
  obtain ⟨hx, hb, hml, hown, hr, hlk, hAm, hA, hnm, hO⟩ := id C
  obtain ⟨hd, rfl⟩ := hd
  exact lv_irem hx hb hd hne (k p l ev s m args below meth c A H locs ls C hl hP hD hS)
theorem z_ineg {G : GT} {μ : Mu} {R : Room} {O : OT} {cs ss pc pc' : Nat} {lv : List (Nat × Value)} {st : List Value} {ws : va_W} {x : Int32} (hd : Dc μ pc (.ineg) 1 pc')  (k : Tr G μ R O cs ss pc' lv (.int (-x) :: st) ws) : Tr G μ R O cs ss pc lv (.int x :: st) ws := fun p l ev s m args below meth c A H locs ls C hl hP hD hS => by
  obtain ⟨hx, hb, hml, hown, hr, hlk, hAm, hA, hnm, hO⟩ := id C
  obtain ⟨hd, rfl⟩ := hd
  exact lv_ineg hx hb hd (k p l ev s m args below meth c A H locs ls C hl hP hD hS)
theorem z_iushr {G : GT} {μ : Mu} {R : Room} {O : OT} {cs ss pc pc' : Nat} {lv : List (Nat × Value)} {st : List Value} {ws : va_W} {x y : Int32} (hd : Dc μ pc (.iushr) 1 pc')  (k : Tr G μ R O cs ss pc' lv (.int ((x.toUInt32 >>> (y.toUInt32 &&& Int32.toUInt32 31)).toInt32) :: st) ws) : Tr G μ R O cs ss pc lv (.int y :: .int x :: st) ws := fun p l ev s m args below meth c A H locs ls C hl hP hD hS => by
  obtain ⟨hx, hb, hml, hown, hr, hlk, hAm, hA, hnm, hO⟩ := id C
  obtain ⟨hd, rfl⟩ := hd
  exact lv_iushr hx hb hd rfl (k p l ev s m args below meth c A H locs ls C hl hP hD hS)
theorem z_i2l {G : GT} {μ : Mu} {R : Room} {O : OT} {cs ss pc pc' : Nat} {lv : List (Nat × Value)} {st : List Value} {ws : va_W} {x : Int32} (hd : Dc μ pc (.i2l) 1 pc')  (k : Tr G μ R O cs ss pc' lv (.long x.toInt64 :: st) ws) : Tr G μ R O cs ss pc lv (.int x :: st) ws := fun p l ev s m args below meth c A H locs ls C hl hP hD hS => by
  obtain ⟨hx, hb, hml, hown, hr, hlk, hAm, hA, hnm, hO⟩ := id C
  obtain ⟨hd, rfl⟩ := hd
  exact lv_i2l hx hb hd rfl (k p l ev s m args below meth c A H locs ls C hl hP hD hS)
theorem z_i2b {G : GT} {μ : Mu} {R : Room} {O : OT} {cs ss pc pc' : Nat} {lv : List (Nat × Value)} {st : List Value} {ws : va_W} {x : Int32} (hd : Dc μ pc (.i2b) 1 pc')  (k : Tr G μ R O cs ss pc' lv (.int x.toInt8.toInt32 :: st) ws) : Tr G μ R O cs ss pc lv (.int x :: st) ws := fun p l ev s m args below meth c A H locs ls C hl hP hD hS => by
  obtain ⟨hx, hb, hml, hown, hr, hlk, hAm, hA, hnm, hO⟩ := id C
  obtain ⟨hd, rfl⟩ := hd
  exact lv_i2b hx hb hd rfl (k p l ev s m args below meth c A H locs ls C hl hP hD hS)
theorem z_i2s {G : GT} {μ : Mu} {R : Room} {O : OT} {cs ss pc pc' : Nat} {lv : List (Nat × Value)} {st : List Value} {ws : va_W} {x : Int32} (hd : Dc μ pc (.i2s) 1 pc')  (k : Tr G μ R O cs ss pc' lv (.int x.toInt16.toInt32 :: st) ws) : Tr G μ R O cs ss pc lv (.int x :: st) ws := fun p l ev s m args below meth c A H locs ls C hl hP hD hS => by
  obtain ⟨hx, hb, hml, hown, hr, hlk, hAm, hA, hnm, hO⟩ := id C
  obtain ⟨hd, rfl⟩ := hd
  exact lv_i2s hx hb hd rfl (k p l ev s m args below meth c A H locs ls C hl hP hD hS)
theorem z_i2c {G : GT} {μ : Mu} {R : Room} {O : OT} {cs ss pc pc' : Nat} {lv : List (Nat × Value)} {st : List Value} {ws : va_W} {x : Int32} (hd : Dc μ pc (.i2c) 1 pc')  (k : Tr G μ R O cs ss pc' lv (.int ((x.toUInt32 % 65536).toInt32) :: st) ws) : Tr G μ R O cs ss pc lv (.int x :: st) ws := fun p l ev s m args below meth c A H locs ls C hl hP hD hS => by
  obtain ⟨hx, hb, hml, hown, hr, hlk, hAm, hA, hnm, hO⟩ := id C
  obtain ⟨hd, rfl⟩ := hd
  exact lv_i2c hx hb hd rfl (k p l ev s m args below meth c A H locs ls C hl hP hD hS)
theorem z_l2i {G : GT} {μ : Mu} {R : Room} {O : OT} {cs ss pc pc' : Nat} {lv : List (Nat × Value)} {st : List Value} {ws : va_W} {x : Int64} (hd : Dc μ pc (.l2i) 1 pc')  (k : Tr G μ R O cs ss pc' lv (.int x.toInt32 :: st) ws) : Tr G μ R O cs ss pc lv (.long x :: st) ws := fun p l ev s m args below meth c A H locs ls C hl hP hD hS => by
  obtain ⟨hx, hb, hml, hown, hr, hlk, hAm, hA, hnm, hO⟩ := id C
  obtain ⟨hd, rfl⟩ := hd
  exact lv_l2i hx hb hd rfl (k p l ev s m args below meth c A H locs ls C hl hP hD hS)
theorem z_ladd {G : GT} {μ : Mu} {R : Room} {O : OT} {cs ss pc pc' : Nat} {lv : List (Nat × Value)} {st : List Value} {ws : va_W} {x y : Int64} (hd : Dc μ pc (.ladd) 1 pc')  (k : Tr G μ R O cs ss pc' lv (.long (x + y) :: st) ws) : Tr G μ R O cs ss pc lv (.long y :: .long x :: st) ws := fun p l ev s m args below meth c A H locs ls C hl hP hD hS => by
  obtain ⟨hx, hb, hml, hown, hr, hlk, hAm, hA, hnm, hO⟩ := id C
  obtain ⟨hd, rfl⟩ := hd
  exact lv_ladd hx hb hd (k p l ev s m args below meth c A H locs ls C hl hP hD hS)
theorem z_lsub {G : GT} {μ : Mu} {R : Room} {O : OT} {cs ss pc pc' : Nat} {lv : List (Nat × Value)} {st : List Value} {ws : va_W} {x y : Int64} (hd : Dc μ pc (.lsub) 1 pc')  (k : Tr G μ R O cs ss pc' lv (.long (x - y) :: st) ws) : Tr G μ R O cs ss pc lv (.long y :: .long x :: st) ws := fun p l ev s m args below meth c A H locs ls C hl hP hD hS => by
  obtain ⟨hx, hb, hml, hown, hr, hlk, hAm, hA, hnm, hO⟩ := id C
  obtain ⟨hd, rfl⟩ := hd
  exact lv_lsub hx hb hd (k p l ev s m args below meth c A H locs ls C hl hP hD hS)
theorem z_lmul {G : GT} {μ : Mu} {R : Room} {O : OT} {cs ss pc pc' : Nat} {lv : List (Nat × Value)} {st : List Value} {ws : va_W} {x y : Int64} (hd : Dc μ pc (.lmul) 1 pc')  (k : Tr G μ R O cs ss pc' lv (.long (x * y) :: st) ws) : Tr G μ R O cs ss pc lv (.long y :: .long x :: st) ws := fun p l ev s m args below meth c A H locs ls C hl hP hD hS => by
  obtain ⟨hx, hb, hml, hown, hr, hlk, hAm, hA, hnm, hO⟩ := id C
  obtain ⟨hd, rfl⟩ := hd
  exact lv_lmul hx hb hd (k p l ev s m args below meth c A H locs ls C hl hP hD hS)
theorem z_land {G : GT} {μ : Mu} {R : Room} {O : OT} {cs ss pc pc' : Nat} {lv : List (Nat × Value)} {st : List Value} {ws : va_W} {x y : Int64} (hd : Dc μ pc (.land) 1 pc')  (k : Tr G μ R O cs ss pc' lv (.long (x &&& y) :: st) ws) : Tr G μ R O cs ss pc lv (.long y :: .long x :: st) ws := fun p l ev s m args below meth c A H locs ls C hl hP hD hS => by
  obtain ⟨hx, hb, hml, hown, hr, hlk, hAm, hA, hnm, hO⟩ := id C
  obtain ⟨hd, rfl⟩ := hd
  exact lv_land hx hb hd (k p l ev s m args below meth c A H locs ls C hl hP hD hS)
theorem z_lor {G : GT} {μ : Mu} {R : Room} {O : OT} {cs ss pc pc' : Nat} {lv : List (Nat × Value)} {st : List Value} {ws : va_W} {x y : Int64} (hd : Dc μ pc (.lor) 1 pc')  (k : Tr G μ R O cs ss pc' lv (.long (x ||| y) :: st) ws) : Tr G μ R O cs ss pc lv (.long y :: .long x :: st) ws := fun p l ev s m args below meth c A H locs ls C hl hP hD hS => by
  obtain ⟨hx, hb, hml, hown, hr, hlk, hAm, hA, hnm, hO⟩ := id C
  obtain ⟨hd, rfl⟩ := hd
  exact lv_lor hx hb hd (k p l ev s m args below meth c A H locs ls C hl hP hD hS)
theorem z_lshl {G : GT} {μ : Mu} {R : Room} {O : OT} {cs ss pc pc' : Nat} {lv : List (Nat × Value)} {st : List Value} {ws : va_W} {x : Int64} {y : Int32} (hd : Dc μ pc (.lshl) 1 pc')  (k : Tr G μ R O cs ss pc' lv (.long (x <<< (y.toInt64 &&& 63)) :: st) ws) : Tr G μ R O cs ss pc lv (.int y :: .long x :: st) ws := fun p l ev s m args below meth c A H locs ls C hl hP hD hS => by
  obtain ⟨hx, hb, hml, hown, hr, hlk, hAm, hA, hnm, hO⟩ := id C
  obtain ⟨hd, rfl⟩ := hd
  exact lv_lshl hx hb hd rfl (k p l ev s m args below meth c A H locs ls C hl hP hD hS)
theorem z_lshr {G : GT} {μ : Mu} {R : Room} {O : OT} {cs ss pc pc' : Nat} {lv : List (Nat × Value)} {st : List Value} {ws : va_W} {x : Int64} {y : Int32} (hd : Dc μ pc (.lshr) 1 pc')  (k : Tr G μ R O cs ss pc' lv (.long (x >>> (y.toInt64 &&& 63)) :: st) ws) : Tr G μ R O cs ss pc lv (.int y :: .long x :: st) ws := fun p l ev s m args below meth c A H locs ls C hl hP hD hS => by
  obtain ⟨hx, hb, hml, hown, hr, hlk, hAm, hA, hnm, hO⟩ := id C
  obtain ⟨hd, rfl⟩ := hd
  exact lv_lshr hx hb hd rfl (k p l ev s m args below meth c A H locs ls C hl hP hD hS)
theorem z_lcmp {G : GT} {μ : Mu} {R : Room} {O : OT} {cs ss pc pc' : Nat} {lv : List (Nat × Value)} {st : List Value} {ws : va_W} {x y : Int64} (hd : Dc μ pc (.lcmp) 1 pc')  (k : Tr G μ R O cs ss pc' lv (.int (lg_cmp x y) :: st) ws) : Tr G μ R O cs ss pc lv (.long y :: .long x :: st) ws := fun p l ev s m args below meth c A H locs ls C hl hP hD hS => by
  obtain ⟨hx, hb, hml, hown, hr, hlk, hAm, hA, hnm, hO⟩ := id C
  obtain ⟨hd, rfl⟩ := hd
  exact W.lcmp hx hb hd (k p l ev s m args below meth c A H locs ls C hl hP hD hS)
theorem z_dup {G : GT} {μ : Mu} {R : Room} {O : OT} {cs ss pc pc' : Nat} {lv : List (Nat × Value)} {st : List Value} {ws : va_W} {v : Value} (hd : Dc μ pc (.dup) 1 pc') (hv : v.category = 1) (k : Tr G μ R O cs ss pc' lv (v :: v :: st) ws) : Tr G μ R O cs ss pc lv (v :: st) ws := fun p l ev s m args below meth c A H locs ls C hl hP hD hS => by
  obtain ⟨hx, hb, hml, hown, hr, hlk, hAm, hA, hnm, hO⟩ := id C
  obtain ⟨hd, rfl⟩ := hd
  exact lv_dup hx hb hd hv (k p l ev s m args below meth c A H locs ls C hl hP hD hS)
theorem z_pop {G : GT} {μ : Mu} {R : Room} {O : OT} {cs ss pc pc' : Nat} {lv : List (Nat × Value)} {st : List Value} {ws : va_W} {v : Value} (hd : Dc μ pc (.pop) 1 pc') (hv : v.category = 1) (k : Tr G μ R O cs ss pc' lv (st) ws) : Tr G μ R O cs ss pc lv (v :: st) ws := fun p l ev s m args below meth c A H locs ls C hl hP hD hS => by
  obtain ⟨hx, hb, hml, hown, hr, hlk, hAm, hA, hnm, hO⟩ := id C
  obtain ⟨hd, rfl⟩ := hd
  exact lv_pop hx hb hd hv (k p l ev s m args below meth c A H locs ls C hl hP hD hS)
theorem z_ldc {G : GT} {μ : Mu} {R : Room} {O : OT} {cs ss pc pc' : Nat} {lv : List (Nat × Value)} {st : List Value} {ws : va_W} {j : Nat} {v : Int32} (hd : Dc μ pc (.ldc j) 2 pc') (hw : Wd (.constant μ.1.cls j v)) (k : Tr G μ R O cs ss pc' lv (.int v :: st) ws) : Tr G μ R O cs ss pc lv (st) ws := fun p l ev s m args below meth c A H locs ls C hl hP hD hS => by
  obtain ⟨hx, hb, hml, hown, hr, hlk, hAm, hA, hnm, hO⟩ := id C
  obtain ⟨hd, rfl⟩ := hd
  exact lv_ldc hx hb hown (hAm.1 _ hw _) hd (k p l ev s m args below meth c A H locs ls C hl hP hD hS)
theorem z_ldcw {G : GT} {μ : Mu} {R : Room} {O : OT} {cs ss pc pc' : Nat} {lv : List (Nat × Value)} {st : List Value} {ws : va_W} {j : Nat} {v : Int32} (hd : Dc μ pc (.ldc_w j) 3 pc') (hw : Wd (.constant μ.1.cls j v)) (k : Tr G μ R O cs ss pc' lv (.int v :: st) ws) : Tr G μ R O cs ss pc lv (st) ws := fun p l ev s m args below meth c A H locs ls C hl hP hD hS => by
  obtain ⟨hx, hb, hml, hown, hr, hlk, hAm, hA, hnm, hO⟩ := id C
  obtain ⟨hd, rfl⟩ := hd
  exact lv_ldcw hx hb hown (hAm.1 _ hw _) hd (k p l ev s m args below meth c A H locs ls C hl hP hD hS)
theorem z_ldc2 {G : GT} {μ : Mu} {R : Room} {O : OT} {cs ss pc pc' : Nat} {lv : List (Nat × Value)} {st : List Value} {ws : va_W} {j : Nat} {v : Int64} (hd : Dc μ pc (.ldc2_w j) 3 pc') (hw : Wd (.constantLong μ.1.cls j v)) (k : Tr G μ R O cs ss pc' lv (.long v :: st) ws) : Tr G μ R O cs ss pc lv (st) ws := fun p l ev s m args below meth c A H locs ls C hl hP hD hS => by
  obtain ⟨hx, hb, hml, hown, hr, hlk, hAm, hA, hnm, hO⟩ := id C
  obtain ⟨hd, rfl⟩ := hd
  exact lv_ldc2 hx hb hown (hAm.1 _ hw _) hd (k p l ev s m args below meth c A H locs ls C hl hP hD hS)
theorem z_ldcs {G : GT} {μ : Mu} {R : Room} {O : OT} {cs ss pc pc' : Nat} {lv : List (Nat × Value)} {st : List Value} {ws : va_W} {j : Nat} {tx : String} (hd : Dc μ pc (.ldc j) 2 pc') (i : Nat) (hw : strL[i]? = some (μ.1.cls, j, tx)) (k : Tr G μ R O cs ss pc' lv (.ref (G.2.2.1 i) :: st) ws) : Tr G μ R O cs ss pc lv (st) ws := fun p l ev s m args below meth c A H locs ls C hl hP hD hS => by
  obtain ⟨hx, hb, hml, hown, hr, hlk, hAm, hA, hnm, hO⟩ := id C
  obtain ⟨hd, rfl⟩ := hd
  exact va_ldcS hx hb hown (hAm.2.1.2.2.2.1 i _ hw) hd (k p l ev s m args below meth c A H locs ls C hl hP hD hS)
theorem z_istore_n {G : GT} {μ : Mu} {R : Room} {O : OT} {cs ss pc pc' : Nat} {lv : List (Nat × Value)} {st : List Value} {ws : va_W} {j : Fin 4} {x : Int32} (lv' : List (Nat × Value)) (hd : Dc μ pc (.istore_n j) 1 pc') (hn : j.val < μ.2.2.1) (hl' : (j.val, Value.int x) :: lv.filter (fun q => !(q.1 == j.val) && !(q.1 + 1 == j.val && q.2.category == 2)) = lv') (k : Tr G μ R O cs ss pc' lv' (st) ws) : Tr G μ R O cs ss pc lv (.int x :: st) ws := fun p l ev s m args below meth c A H locs ls C hl hP hD hS => by
  obtain ⟨hx, hb, hml, hown, hr, hlk, hAm, hA, hnm, hO⟩ := id C
  obtain ⟨hd, rfl⟩ := hd
  exact lv_istore_n hx hb hd rfl hl hn hl' (fun ls' hl2 => k p l ev s m args below meth c A H locs ls' C hl2 hP hD hS)
theorem z_istore {G : GT} {μ : Mu} {R : Room} {O : OT} {cs ss pc pc' : Nat} {lv : List (Nat × Value)} {st : List Value} {ws : va_W} {j : Nat} {x : Int32} (lv' : List (Nat × Value)) (hd : Dc μ pc (.istore j) 2 pc') (hn : j < μ.2.2.1) (hl' : (j, Value.int x) :: lv.filter (fun q => !(q.1 == j) && !(q.1 + 1 == j && q.2.category == 2)) = lv') (k : Tr G μ R O cs ss pc' lv' (st) ws) : Tr G μ R O cs ss pc lv (.int x :: st) ws := fun p l ev s m args below meth c A H locs ls C hl hP hD hS => by
  obtain ⟨hx, hb, hml, hown, hr, hlk, hAm, hA, hnm, hO⟩ := id C
  obtain ⟨hd, rfl⟩ := hd
  exact lv_istore hx hb hd hl hn hl' (fun ls' hl2 => k p l ev s m args below meth c A H locs ls' C hl2 hP hD hS)
theorem z_astore_n {G : GT} {μ : Mu} {R : Room} {O : OT} {cs ss pc pc' : Nat} {lv : List (Nat × Value)} {st : List Value} {ws : va_W} {j : Fin 4} {x : Nat} (lv' : List (Nat × Value)) (hd : Dc μ pc (.astore_n j) 1 pc') (hn : j.val < μ.2.2.1) (hl' : (j.val, Value.ref x) :: lv.filter (fun q => !(q.1 == j.val) && !(q.1 + 1 == j.val && q.2.category == 2)) = lv') (k : Tr G μ R O cs ss pc' lv' (st) ws) : Tr G μ R O cs ss pc lv (.ref x :: st) ws := fun p l ev s m args below meth c A H locs ls C hl hP hD hS => by
  obtain ⟨hx, hb, hml, hown, hr, hlk, hAm, hA, hnm, hO⟩ := id C
  obtain ⟨hd, rfl⟩ := hd
  exact lv_astore_n hx hb hd rfl hl hn hl' (fun ls' hl2 => k p l ev s m args below meth c A H locs ls' C hl2 hP hD hS)
theorem z_astore {G : GT} {μ : Mu} {R : Room} {O : OT} {cs ss pc pc' : Nat} {lv : List (Nat × Value)} {st : List Value} {ws : va_W} {j : Nat} {x : Nat} (lv' : List (Nat × Value)) (hd : Dc μ pc (.astore j) 2 pc') (hn : j < μ.2.2.1) (hl' : (j, Value.ref x) :: lv.filter (fun q => !(q.1 == j) && !(q.1 + 1 == j && q.2.category == 2)) = lv') (k : Tr G μ R O cs ss pc' lv' (st) ws) : Tr G μ R O cs ss pc lv (.ref x :: st) ws := fun p l ev s m args below meth c A H locs ls C hl hP hD hS => by
  obtain ⟨hx, hb, hml, hown, hr, hlk, hAm, hA, hnm, hO⟩ := id C
  obtain ⟨hd, rfl⟩ := hd
  exact lv_astore hx hb hd hl hn hl' (fun ls' hl2 => k p l ev s m args below meth c A H locs ls' C hl2 hP hD hS)
theorem z_iinc {G : GT} {μ : Mu} {R : Room} {O : OT} {cs ss pc pc' : Nat} {lv : List (Nat × Value)} {st : List Value} {ws : va_W} {j : Nat} {d : Int} {x : Int32} (v : Int32) (lv' : List (Nat × Value)) (i : Nat) (hd : Dc μ pc (.iinc j d) 3 pc') (hi : lv[i]? = some (j, .int x)) (hv : x + Int32.ofInt d = v) (hn : j < μ.2.2.1) (hl' : (j, Value.int v) :: lv.filter (fun q => !(q.1 == j) && !(q.1 + 1 == j && q.2.category == 2)) = lv') (k : Tr G μ R O cs ss pc' lv' (st) ws) : Tr G μ R O cs ss pc lv (st) ws := fun p l ev s m args below meth c A H locs ls C hl hP hD hS => by
  obtain ⟨hx, hb, hml, hown, hr, hlk, hAm, hA, hnm, hO⟩ := id C
  obtain ⟨hd, rfl⟩ := hd
  exact lv_iinc hx hb hd hl hi hv hn hl' (fun ls' hl2 => k p l ev s m args below meth c A H locs ls' C hl2 hP hD hS)
theorem z_icmp_eq {G : GT} {μ : Mu} {R : Room} {O : OT} {cs ss pc pc' tgt : Nat} {lv : List (Nat × Value)} {st : List Value} {ws : va_W} {off : Int} {x y : Int32} (hd : Db μ pc (.if_icmp .eq off) off pc' tgt) (kt : x = y → Tr G μ R O cs ss tgt lv (st) ws) (kf : ¬ x = y → Tr G μ R O cs ss pc' lv (st) ws) : Tr G μ R O cs ss pc lv (.int y :: .int x :: st) ws := fun p l ev s m args below meth c A H locs ls C hl hP hD hS => by
  obtain ⟨hx, hb, hml, hown, hr, hlk, hAm, hA, hnm, hO⟩ := id C
  obtain ⟨hd, rfl, ht⟩ := hd
  exact lv_icmp_eq hx hb hd ht (fun q => kt q p l ev s m args below meth c A H locs ls C hl hP hD hS) (fun q => kf q p l ev s m args below meth c A H locs ls C hl hP hD hS)
theorem z_if_eq {G : GT} {μ : Mu} {R : Room} {O : OT} {cs ss pc pc' tgt : Nat} {lv : List (Nat × Value)} {st : List Value} {ws : va_W} {off : Int} {x : Int32} (hd : Db μ pc (.ifCond .eq off) off pc' tgt) (kt : x = 0 → Tr G μ R O cs ss tgt lv (st) ws) (kf : ¬ x = 0 → Tr G μ R O cs ss pc' lv (st) ws) : Tr G μ R O cs ss pc lv (.int x :: st) ws := fun p l ev s m args below meth c A H locs ls C hl hP hD hS => by
  obtain ⟨hx, hb, hml, hown, hr, hlk, hAm, hA, hnm, hO⟩ := id C
  obtain ⟨hd, rfl, ht⟩ := hd
  exact lv_if_eq hx hb hd ht (fun q => kt q p l ev s m args below meth c A H locs ls C hl hP hD hS) (fun q => kf q p l ev s m args below meth c A H locs ls C hl hP hD hS)
theorem z_icmp_ne {G : GT} {μ : Mu} {R : Room} {O : OT} {cs ss pc pc' tgt : Nat} {lv : List (Nat × Value)} {st : List Value} {ws : va_W} {off : Int} {x y : Int32} (hd : Db μ pc (.if_icmp .ne off) off pc' tgt) (kt : ¬ x = y → Tr G μ R O cs ss tgt lv (st) ws) (kf : x = y → Tr G μ R O cs ss pc' lv (st) ws) : Tr G μ R O cs ss pc lv (.int y :: .int x :: st) ws := fun p l ev s m args below meth c A H locs ls C hl hP hD hS => by
  obtain ⟨hx, hb, hml, hown, hr, hlk, hAm, hA, hnm, hO⟩ := id C
  obtain ⟨hd, rfl, ht⟩ := hd
  exact lv_icmp_ne hx hb hd ht (fun q => kt q p l ev s m args below meth c A H locs ls C hl hP hD hS) (fun q => kf q p l ev s m args below meth c A H locs ls C hl hP hD hS)
theorem z_if_ne {G : GT} {μ : Mu} {R : Room} {O : OT} {cs ss pc pc' tgt : Nat} {lv : List (Nat × Value)} {st : List Value} {ws : va_W} {off : Int} {x : Int32} (hd : Db μ pc (.ifCond .ne off) off pc' tgt) (kt : ¬ x = 0 → Tr G μ R O cs ss tgt lv (st) ws) (kf : x = 0 → Tr G μ R O cs ss pc' lv (st) ws) : Tr G μ R O cs ss pc lv (.int x :: st) ws := fun p l ev s m args below meth c A H locs ls C hl hP hD hS => by
  obtain ⟨hx, hb, hml, hown, hr, hlk, hAm, hA, hnm, hO⟩ := id C
  obtain ⟨hd, rfl, ht⟩ := hd
  exact lv_if_ne hx hb hd ht (fun q => kt q p l ev s m args below meth c A H locs ls C hl hP hD hS) (fun q => kf q p l ev s m args below meth c A H locs ls C hl hP hD hS)
theorem z_icmp_lt {G : GT} {μ : Mu} {R : Room} {O : OT} {cs ss pc pc' tgt : Nat} {lv : List (Nat × Value)} {st : List Value} {ws : va_W} {off : Int} {x y : Int32} (hd : Db μ pc (.if_icmp .lt off) off pc' tgt) (kt : x < y → Tr G μ R O cs ss tgt lv (st) ws) (kf : ¬ x < y → Tr G μ R O cs ss pc' lv (st) ws) : Tr G μ R O cs ss pc lv (.int y :: .int x :: st) ws := fun p l ev s m args below meth c A H locs ls C hl hP hD hS => by
  obtain ⟨hx, hb, hml, hown, hr, hlk, hAm, hA, hnm, hO⟩ := id C
  obtain ⟨hd, rfl, ht⟩ := hd
  exact lv_icmp_lt hx hb hd ht (fun q => kt q p l ev s m args below meth c A H locs ls C hl hP hD hS) (fun q => kf q p l ev s m args below meth c A H locs ls C hl hP hD hS)
theorem z_if_lt {G : GT} {μ : Mu} {R : Room} {O : OT} {cs ss pc pc' tgt : Nat} {lv : List (Nat × Value)} {st : List Value} {ws : va_W} {off : Int} {x : Int32} (hd : Db μ pc (.ifCond .lt off) off pc' tgt) (kt : x < 0 → Tr G μ R O cs ss tgt lv (st) ws) (kf : ¬ x < 0 → Tr G μ R O cs ss pc' lv (st) ws) : Tr G μ R O cs ss pc lv (.int x :: st) ws := fun p l ev s m args below meth c A H locs ls C hl hP hD hS => by
  obtain ⟨hx, hb, hml, hown, hr, hlk, hAm, hA, hnm, hO⟩ := id C
  obtain ⟨hd, rfl, ht⟩ := hd
  exact lv_if_lt hx hb hd ht (fun q => kt q p l ev s m args below meth c A H locs ls C hl hP hD hS) (fun q => kf q p l ev s m args below meth c A H locs ls C hl hP hD hS)
theorem z_icmp_ge {G : GT} {μ : Mu} {R : Room} {O : OT} {cs ss pc pc' tgt : Nat} {lv : List (Nat × Value)} {st : List Value} {ws : va_W} {off : Int} {x y : Int32} (hd : Db μ pc (.if_icmp .ge off) off pc' tgt) (kt : y ≤ x → Tr G μ R O cs ss tgt lv (st) ws) (kf : ¬ y ≤ x → Tr G μ R O cs ss pc' lv (st) ws) : Tr G μ R O cs ss pc lv (.int y :: .int x :: st) ws := fun p l ev s m args below meth c A H locs ls C hl hP hD hS => by
  obtain ⟨hx, hb, hml, hown, hr, hlk, hAm, hA, hnm, hO⟩ := id C
  obtain ⟨hd, rfl, ht⟩ := hd
  exact lv_icmp_ge hx hb hd ht (fun q => kt q p l ev s m args below meth c A H locs ls C hl hP hD hS) (fun q => kf q p l ev s m args below meth c A H locs ls C hl hP hD hS)
theorem z_if_ge {G : GT} {μ : Mu} {R : Room} {O : OT} {cs ss pc pc' tgt : Nat} {lv : List (Nat × Value)} {st : List Value} {ws : va_W} {off : Int} {x : Int32} (hd : Db μ pc (.ifCond .ge off) off pc' tgt) (kt : 0 ≤ x → Tr G μ R O cs ss tgt lv (st) ws) (kf : ¬ 0 ≤ x → Tr G μ R O cs ss pc' lv (st) ws) : Tr G μ R O cs ss pc lv (.int x :: st) ws := fun p l ev s m args below meth c A H locs ls C hl hP hD hS => by
  obtain ⟨hx, hb, hml, hown, hr, hlk, hAm, hA, hnm, hO⟩ := id C
  obtain ⟨hd, rfl, ht⟩ := hd
  exact lv_if_ge hx hb hd ht (fun q => kt q p l ev s m args below meth c A H locs ls C hl hP hD hS) (fun q => kf q p l ev s m args below meth c A H locs ls C hl hP hD hS)
theorem z_icmp_gt {G : GT} {μ : Mu} {R : Room} {O : OT} {cs ss pc pc' tgt : Nat} {lv : List (Nat × Value)} {st : List Value} {ws : va_W} {off : Int} {x y : Int32} (hd : Db μ pc (.if_icmp .gt off) off pc' tgt) (kt : y < x → Tr G μ R O cs ss tgt lv (st) ws) (kf : ¬ y < x → Tr G μ R O cs ss pc' lv (st) ws) : Tr G μ R O cs ss pc lv (.int y :: .int x :: st) ws := fun p l ev s m args below meth c A H locs ls C hl hP hD hS => by
  obtain ⟨hx, hb, hml, hown, hr, hlk, hAm, hA, hnm, hO⟩ := id C
  obtain ⟨hd, rfl, ht⟩ := hd
  exact lv_icmp_gt hx hb hd ht (fun q => kt q p l ev s m args below meth c A H locs ls C hl hP hD hS) (fun q => kf q p l ev s m args below meth c A H locs ls C hl hP hD hS)
theorem z_if_gt {G : GT} {μ : Mu} {R : Room} {O : OT} {cs ss pc pc' tgt : Nat} {lv : List (Nat × Value)} {st : List Value} {ws : va_W} {off : Int} {x : Int32} (hd : Db μ pc (.ifCond .gt off) off pc' tgt) (kt : 0 < x → Tr G μ R O cs ss tgt lv (st) ws) (kf : ¬ 0 < x → Tr G μ R O cs ss pc' lv (st) ws) : Tr G μ R O cs ss pc lv (.int x :: st) ws := fun p l ev s m args below meth c A H locs ls C hl hP hD hS => by
  obtain ⟨hx, hb, hml, hown, hr, hlk, hAm, hA, hnm, hO⟩ := id C
  obtain ⟨hd, rfl, ht⟩ := hd
  exact lv_if_gt hx hb hd ht (fun q => kt q p l ev s m args below meth c A H locs ls C hl hP hD hS) (fun q => kf q p l ev s m args below meth c A H locs ls C hl hP hD hS)
theorem z_icmp_le {G : GT} {μ : Mu} {R : Room} {O : OT} {cs ss pc pc' tgt : Nat} {lv : List (Nat × Value)} {st : List Value} {ws : va_W} {off : Int} {x y : Int32} (hd : Db μ pc (.if_icmp .le off) off pc' tgt) (kt : x ≤ y → Tr G μ R O cs ss tgt lv (st) ws) (kf : ¬ x ≤ y → Tr G μ R O cs ss pc' lv (st) ws) : Tr G μ R O cs ss pc lv (.int y :: .int x :: st) ws := fun p l ev s m args below meth c A H locs ls C hl hP hD hS => by
  obtain ⟨hx, hb, hml, hown, hr, hlk, hAm, hA, hnm, hO⟩ := id C
  obtain ⟨hd, rfl, ht⟩ := hd
  exact lv_icmp_le hx hb hd ht (fun q => kt q p l ev s m args below meth c A H locs ls C hl hP hD hS) (fun q => kf q p l ev s m args below meth c A H locs ls C hl hP hD hS)
theorem z_if_le {G : GT} {μ : Mu} {R : Room} {O : OT} {cs ss pc pc' tgt : Nat} {lv : List (Nat × Value)} {st : List Value} {ws : va_W} {off : Int} {x : Int32} (hd : Db μ pc (.ifCond .le off) off pc' tgt) (kt : x ≤ 0 → Tr G μ R O cs ss tgt lv (st) ws) (kf : ¬ x ≤ 0 → Tr G μ R O cs ss pc' lv (st) ws) : Tr G μ R O cs ss pc lv (.int x :: st) ws := fun p l ev s m args below meth c A H locs ls C hl hP hD hS => by
  obtain ⟨hx, hb, hml, hown, hr, hlk, hAm, hA, hnm, hO⟩ := id C
  obtain ⟨hd, rfl, ht⟩ := hd
  exact lv_if_le hx hb hd ht (fun q => kt q p l ev s m args below meth c A H locs ls C hl hP hD hS) (fun q => kf q p l ev s m args below meth c A H locs ls C hl hP hD hS)
theorem z_goto {G : GT} {μ : Mu} {R : Room} {O : OT} {cs ss pc pc' tgt : Nat} {lv : List (Nat × Value)} {st : List Value} {ws : va_W} {off : Int} (hd : Db μ pc (.goto off) off pc' tgt) (k : Tr G μ R O cs ss tgt lv (st) ws) : Tr G μ R O cs ss pc lv (st) ws := fun p l ev s m args below meth c A H locs ls C hl hP hD hS => by
  obtain ⟨hx, hb, hml, hown, hr, hlk, hAm, hA, hnm, hO⟩ := id C
  obtain ⟨hd, -, ht⟩ := hd
  exact lv_goto hx hb hd ht (k p l ev s m args below meth c A H locs ls C hl hP hD hS)
end
section
/-- a field, as the class 'own' names it by its constant: class ci's slot k -/
def FA (own : String) (j ci k : Nat) : Prop := ∃ (C : String) (T : u_T) (N : Nat) (ref : String), vwCl[ci]? = some (C, T, N) ∧ k < N ∧ (∀ w ∈ u_ws C T N, Wd w) ∧ Wd (.fieldLink own j ref (T k).2.1 (T k).2.2.1) ∧ (ref = (T k).1 ∨ Wd (.sameField ref (T k).1 (T k).2.1 (T k).2.2.1))
/-- .. that is written: its type; 'fin': final -/
def FP (own : String) (j ci k : Nat) (ty : FieldType) (fin : Bool) : Prop := ∃ (C : String) (T : u_T) (N : Nat) (ty0 : Nat → FieldType), vwCl[ci]? = some (C, T, N) ∧ k < N ∧ (∀ w ∈ u_ws C T N, Wd w) ∧ Wd (.fieldLink own j (T k).1 (T k).2.1 (T k).2.2.1) ∧ (∀ k, k < N → parseFieldDescriptor (T k).2.2.1 = some (ty0 k)) ∧ (∀ a, a < N → ∀ b, b < N → a ≠ b → (T a).2.1 ≠ (T b).2.1) ∧ (T k).2.2.2 = fin ∧ parseFieldDescriptor (T k).2.2.1 = some ty ∧ (fin = true → (T k).1 = own)
theorem FA.same {own : String} {j : Nat} {args : Array Value} {s : State} {ref ow n d : String} (hAm : ∀ w, Wd w → ∀ a : Array Value, w.before a s = true) (h : ref = ow ∨ Wd (.sameField ref ow n d)) : ∀ x, s.fieldFound? ow n d = some x → s.fieldFound? ref n d = some x := by
  rcases h with rfl | h
  · exact fun _ h => h
  · exact u_same (hAm _ h args)
theorem z_get {G : GT} {μ : Mu} {R : Room} {O : OT} {cs ss pc pc' : Nat} {lv : List (Nat × Value)} {st : List Value} {ws : va_W} {j a ci k : Nat} {fs : List Value} {v : Value} (q0 : Nat) (hf : FA μ.1.cls j ci k) (he : ws[q0]? = some (a, .inr (ci, fs))) (hv : fs[k]? = some v) (hd : Dc μ pc (.getfield j) 3 pc') (k : Tr G μ R O cs ss pc' lv (v :: st) ws) : Tr G μ R O cs ss pc lv (.ref a :: st) ws := fun p l ev s m args below meth c A H locs ls C hl hP hD hS => by
  obtain ⟨hx, hb, hml, hown, hr, hlk, hAm, hA, hnm, hO⟩ := id C
  obtain ⟨hd, rfl⟩ := hd
  obtain ⟨C1, T1, N1, ref, h1, h2, h3, h4, h5⟩ := hf
  exact va_get (Ts := u_ws C1 T1 N1) hx hb (fun w hw => hAm.1 w (h3 w hw) _) (fun _ h => h) hown hAm.2.2.1 hP q0 he h1 _ h2 (hAm.1 _ h4 _) (FA.same (own := C1) (j := 0) (args := #[]) hAm.1 h5) hv hd (k p l ev s m args below meth c A H locs ls C hl hP hD hS)
theorem z_put {G : GT} {μ : Mu} {R : Room} {O : OT} {cs ss pc pc' : Nat} {lv : List (Nat × Value)} {st : List Value} {ws : va_W} {j a ci k : Nat} {fs : List Value} {ty : FieldType} {v : Value} (q0 : Nat) (ws' : va_W) (hf : FP μ.1.cls j ci k ty false) (he : ws[q0]? = some (a, .inr (ci, fs))) (hn : narrow ty v = v) (hfit : fits ty v = true) (hl9 : k < fs.length) (hw : ws.set q0 (a, .inr (ci, fs.set k v)) = ws') (hd : Dc μ pc (.putfield j) 3 pc') (k : Tr G μ R O cs ss pc' lv (st) ws') : Tr G μ R O cs ss pc lv (v :: .ref a :: st) ws := fun p l ev s m args below meth c A H locs ls C hl hP hD hS => by
  obtain ⟨hx, hb, hml, hown, hr, hlk, hAm, hA, hnm, hO⟩ := id C
  obtain ⟨hd, rfl⟩ := hd
  obtain ⟨C1, T1, N1, ty0, h1, h2, h3, h4, h5, h6, h7, h8, h9⟩ := hf
  subst hw
  exact va_put (Ts := u_ws C1 T1 N1) hx hb (fun w hw => hAm.1 w (h3 w hw) _) (fun _ h => h) ty0 h5 h6 hown hAm.2.2.1 hP hD hS q0 he h1 _ h2 (hAm.1 _ h4 _) (fun _ h => h) h7 h8 hn hfit hl9 hd (fun H1 locs1 hP1 hD1 hS1 => k p l ev s m args below meth c A H1 locs1 ls C hl hP1 hD1 hS1)
theorem z_putF {G : GT} {μ : Mu} {R : Room} {O : OT} {cs ss pc pc' : Nat} {lv : List (Nat × Value)} {st : List Value} {ws : va_W} {j a ci k : Nat} {fs : List Value} {ty : FieldType} {v : Value} (q0 : Nat) (ws' : va_W) (hf : FP μ.1.cls j ci k ty true) (hin2 : μ.1.name = "<init>") (he : ws[q0]? = some (a, .inr (ci, fs))) (hn : narrow ty v = v) (hfit : fits ty v = true) (hl9 : k < fs.length) (hw : ws.set q0 (a, .inr (ci, fs.set k v)) = ws') (hd : Dc μ pc (.putfield j) 3 pc') (k : Tr G μ R O cs ss pc' lv (st) ws') : Tr G μ R O cs ss pc lv (v :: .ref a :: st) ws := fun p l ev s m args below meth c A H locs ls C hl hP hD hS => by
  obtain ⟨hx, hb, hml, hown, hr, hlk, hAm, hA, hnm, hO⟩ := id C
  obtain ⟨hd, rfl⟩ := hd
  obtain ⟨C1, T1, N1, ty0, h1, h2, h3, h4, h5, h6, h7, h8, h9⟩ := hf
  subst hw
  exact va_putF (Ts := u_ws C1 T1 N1) hx hb (fun w hw => hAm.1 w (h3 w hw) _) (fun _ h => h) ty0 h5 h6 hown hAm.2.2.1 hP hD hS q0 he h1 _ h2 (hAm.1 _ h4 _) (fun _ h => h) h7 (hnm.trans hin2) (h9 rfl) h8 hn hfit hl9 hd (fun H1 locs1 hP1 hD1 hS1 => k p l ev s m args below meth c A H1 locs1 ls C hl hP1 hD1 hS1)
theorem z_iald {G : GT} {μ : Mu} {R : Room} {O : OT} {cs ss pc pc' : Nat} {lv : List (Nat × Value)} {st : List Value} {ws : va_W} {a n : Nat} {f : Nat → Int32} {i : Int32} (q0 : Nat) (he : ws[q0]? = some (a, .inl (G.2.1 0, n, .inl f))) (hin : vp_in i n) (hd : Dc μ pc (.iaload) 1 pc') (k : Tr G μ R O cs ss pc' lv (.int (f i.toNatClampNeg) :: st) ws) : Tr G μ R O cs ss pc lv (.int i :: .ref a :: st) ws := fun p l ev s m args below meth c A H locs ls C hl hP hD hS => by
  obtain ⟨hx, hb, hml, hown, hr, hlk, hAm, hA, hnm, hO⟩ := id C
  obtain ⟨hd, rfl⟩ := hd
  exact va_iald hx hb hAm.2.2.1 hP q0 0 he rfl hin hd (k p l ev s m args below meth c A H locs ls C hl hP hD hS)
theorem z_ialdN {G : GT} {μ : Mu} {R : Room} {O : OT} {cs ss pc pc' : Nat} {lv : List (Nat × Value)} {st : List Value} {ws : va_W} {a n : Nat} {f : Nat → Int32} {i : Int32} (q0 j : Nat) (he : ws[q0]? = some (a, .inl (G.2.1 0, n, .inl f))) (hi : i.toInt = (j : Int)) (hj : j < n) (hd : Dc μ pc (.iaload) 1 pc') (k : Tr G μ R O cs ss pc' lv (.int (f j) :: st) ws) : Tr G μ R O cs ss pc lv (.int i :: .ref a :: st) ws := by
  refine z_iald q0 he (vp_in_iff.mpr ⟨by omega, by omega⟩) hd ?_
  have e : i.toNatClampNeg = j := by
    show i.toInt.toNat = j
    omega
  rw [e]; exact k
theorem z_bald {G : GT} {μ : Mu} {R : Room} {O : OT} {cs ss pc pc' : Nat} {lv : List (Nat × Value)} {st : List Value} {ws : va_W} {a n : Nat} {f : Nat → Int32} {i : Int32} (q0 : Nat) (he : ws[q0]? = some (a, .inl (G.2.1 1, n, .inl f))) (hin : vp_in i n) (hd : Dc μ pc (.baload) 1 pc') (k : Tr G μ R O cs ss pc' lv (.int (f i.toNatClampNeg) :: st) ws) : Tr G μ R O cs ss pc lv (.int i :: .ref a :: st) ws := fun p l ev s m args below meth c A H locs ls C hl hP hD hS => by
  obtain ⟨hx, hb, hml, hown, hr, hlk, hAm, hA, hnm, hO⟩ := id C
  obtain ⟨hd, rfl⟩ := hd
  exact va_bald hx hb hAm.2.2.1 hP q0 1 he rfl hin hd (k p l ev s m args below meth c A H locs ls C hl hP hD hS)
theorem z_baldN {G : GT} {μ : Mu} {R : Room} {O : OT} {cs ss pc pc' : Nat} {lv : List (Nat × Value)} {st : List Value} {ws : va_W} {a n : Nat} {f : Nat → Int32} {i : Int32} (q0 j : Nat) (he : ws[q0]? = some (a, .inl (G.2.1 1, n, .inl f))) (hi : i.toInt = (j : Int)) (hj : j < n) (hd : Dc μ pc (.baload) 1 pc') (k : Tr G μ R O cs ss pc' lv (.int (f j) :: st) ws) : Tr G μ R O cs ss pc lv (.int i :: .ref a :: st) ws := by
  refine z_bald q0 he (vp_in_iff.mpr ⟨by omega, by omega⟩) hd ?_
  have e : i.toNatClampNeg = j := by
    show i.toInt.toNat = j
    omega
  rw [e]; exact k
theorem z_zald {G : GT} {μ : Mu} {R : Room} {O : OT} {cs ss pc pc' : Nat} {lv : List (Nat × Value)} {st : List Value} {ws : va_W} {a n : Nat} {f : Nat → Int32} {i : Int32} (q0 : Nat) (he : ws[q0]? = some (a, .inl (G.2.1 2, n, .inl f))) (hin : vp_in i n) (hd : Dc μ pc (.baload) 1 pc') (k : Tr G μ R O cs ss pc' lv (.int (f i.toNatClampNeg) :: st) ws) : Tr G μ R O cs ss pc lv (.int i :: .ref a :: st) ws := fun p l ev s m args below meth c A H locs ls C hl hP hD hS => by
  obtain ⟨hx, hb, hml, hown, hr, hlk, hAm, hA, hnm, hO⟩ := id C
  obtain ⟨hd, rfl⟩ := hd
  exact va_zald hx hb hAm.2.2.1 hP q0 2 he rfl hin hd (k p l ev s m args below meth c A H locs ls C hl hP hD hS)
theorem z_zaldN {G : GT} {μ : Mu} {R : Room} {O : OT} {cs ss pc pc' : Nat} {lv : List (Nat × Value)} {st : List Value} {ws : va_W} {a n : Nat} {f : Nat → Int32} {i : Int32} (q0 j : Nat) (he : ws[q0]? = some (a, .inl (G.2.1 2, n, .inl f))) (hi : i.toInt = (j : Int)) (hj : j < n) (hd : Dc μ pc (.baload) 1 pc') (k : Tr G μ R O cs ss pc' lv (.int (f j) :: st) ws) : Tr G μ R O cs ss pc lv (.int i :: .ref a :: st) ws := by
  refine z_zald q0 he (vp_in_iff.mpr ⟨by omega, by omega⟩) hd ?_
  have e : i.toNatClampNeg = j := by
    show i.toInt.toNat = j
    omega
  rw [e]; exact k
theorem z_iastN {G : GT} {μ : Mu} {R : Room} {O : OT} {cs ss pc pc' : Nat} {lv : List (Nat × Value)} {st : List Value} {ws : va_W} {a n : Nat} {f : Nat → Int32} {i x : Int32} (q0 j : Nat) (ws' : va_W) (he : ws[q0]? = some (a, .inl (G.2.1 0, n, .inl f))) (hi : i.toInt = (j : Int)) (hj : j < n) (hw : ws.set q0 (a, .inl (G.2.1 0, n, .inl (upd f j (x)))) = ws') (hd : Dc μ pc (.iastore) 1 pc') (k : Tr G μ R O cs ss pc' lv (st) ws') : Tr G μ R O cs ss pc lv (.int x :: .int i :: .ref a :: st) ws := fun p l ev s m args below meth c A H locs ls C hl hP hD hS => by
  obtain ⟨hx, hb, hml, hown, hr, hlk, hAm, hA, hnm, hO⟩ := id C
  obtain ⟨hd, rfl⟩ := hd
  have e : i.toNatClampNeg = j := by
    show i.toInt.toNat = j
    omega
  subst hw
  refine va_iast hx hb hAm.2.2.1 hP hD hS q0 0 he rfl (vp_in_iff.mpr ⟨by omega, by omega⟩) hd (fun H1 locs1 hP1 hD1 hS1 => ?_)
  rw [e] at hP1 hD1
  exact k p l ev s m args below meth c A H1 locs1 ls C hl hP1 hD1 hS1
theorem z_bastN {G : GT} {μ : Mu} {R : Room} {O : OT} {cs ss pc pc' : Nat} {lv : List (Nat × Value)} {st : List Value} {ws : va_W} {a n : Nat} {f : Nat → Int32} {i x : Int32} (q0 j : Nat) (ws' : va_W) (he : ws[q0]? = some (a, .inl (G.2.1 1, n, .inl f))) (hi : i.toInt = (j : Int)) (hj : j < n) (hw : ws.set q0 (a, .inl (G.2.1 1, n, .inl (upd f j (vp_nar .byte x)))) = ws') (hd : Dc μ pc (.bastore) 1 pc') (k : Tr G μ R O cs ss pc' lv (st) ws') : Tr G μ R O cs ss pc lv (.int x :: .int i :: .ref a :: st) ws := fun p l ev s m args below meth c A H locs ls C hl hP hD hS => by
  obtain ⟨hx, hb, hml, hown, hr, hlk, hAm, hA, hnm, hO⟩ := id C
  obtain ⟨hd, rfl⟩ := hd
  have e : i.toNatClampNeg = j := by
    show i.toInt.toNat = j
    omega
  subst hw
  refine va_bast hx hb hAm.2.2.1 hP hD hS q0 1 he rfl (vp_in_iff.mpr ⟨by omega, by omega⟩) hd (fun H1 locs1 hP1 hD1 hS1 => ?_)
  rw [e] at hP1 hD1
  exact k p l ev s m args below meth c A H1 locs1 ls C hl hP1 hD1 hS1
theorem z_zastN {G : GT} {μ : Mu} {R : Room} {O : OT} {cs ss pc pc' : Nat} {lv : List (Nat × Value)} {st : List Value} {ws : va_W} {a n : Nat} {f : Nat → Int32} {i x : Int32} (q0 j : Nat) (ws' : va_W) (he : ws[q0]? = some (a, .inl (G.2.1 2, n, .inl f))) (hi : i.toInt = (j : Int)) (hj : j < n) (hw : ws.set q0 (a, .inl (G.2.1 2, n, .inl (upd f j (vp_nar .boolean x)))) = ws') (hd : Dc μ pc (.bastore) 1 pc') (k : Tr G μ R O cs ss pc' lv (st) ws') : Tr G μ R O cs ss pc lv (.int x :: .int i :: .ref a :: st) ws := fun p l ev s m args below meth c A H locs ls C hl hP hD hS => by
  obtain ⟨hx, hb, hml, hown, hr, hlk, hAm, hA, hnm, hO⟩ := id C
  obtain ⟨hd, rfl⟩ := hd
  have e : i.toNatClampNeg = j := by
    show i.toInt.toNat = j
    omega
  subst hw
  refine va_zast hx hb hAm.2.2.1 hP hD hS q0 2 he rfl (vp_in_iff.mpr ⟨by omega, by omega⟩) hd (fun H1 locs1 hP1 hD1 hS1 => ?_)
  rw [e] at hP1 hD1
  exact k p l ev s m args below meth c A H1 locs1 ls C hl hP1 hD1 hS1
theorem z_aldq {G : GT} {μ : Mu} {R : Room} {O : OT} {cs ss pc pc' : Nat} {lv : List (Nat × Value)} {st : List Value} {ws : va_W} {a n : Nat} {f : Nat → Option Nat} {i : Int32} {C0 : String} (q0 t0 j : Nat) (he : ws[q0]? = some (a, .inl (G.2.1 t0, n, .inr (.inr (.inr (.inr f)))))) (ht : (TYS G)[t0]? = some (G.2.1 t0, .object C0)) (hi : i.toInt = (j : Int)) (hj : j < n) (hd : Dc μ pc (.aaload) 1 pc') (k : Tr G μ R O cs ss pc' lv (va_rf (f j) :: st) ws) : Tr G μ R O cs ss pc lv (.int i :: .ref a :: st) ws := fun p l ev s m args below meth c A H locs ls C hl hP hD hS => by
  obtain ⟨hx, hb, hml, hown, hr, hlk, hAm, hA, hnm, hO⟩ := id C
  obtain ⟨hd, rfl⟩ := hd
  have e : i.toNatClampNeg = j := by
    show i.toInt.toNat = j
    omega
  refine va_aldq hx hb hAm.2.2.1 hP q0 t0 he ht (vp_in_iff.mpr ⟨by omega, by omega⟩) hd ?_
  rw [e]; exact (k p l ev s m args below meth c A H locs ls C hl hP hD hS)
theorem z_alen {G : GT} {μ : Mu} {R : Room} {O : OT} {cs ss pc pc' : Nat} {lv : List (Nat × Value)} {st : List Value} {ws : va_W} {a : Nat} {x : vp_A} {cA : ClassId} {ty : FieldType} (q0 t0 : Nat) (v : Int32) (he : ws[q0]? = some (a, .inl (cA, x))) (ht : (TYS G)[t0]? = some (cA, ty)) (hv : Int32.ofNat x.1 = v) (hd : Dc μ pc (.arraylength) 1 pc') (k : Tr G μ R O cs ss pc' lv (.int v :: st) ws) : Tr G μ R O cs ss pc lv (.ref a :: st) ws := fun p l ev s m args below meth c A H locs ls C hl hP hD hS => by
  obtain ⟨hx, hb, hml, hown, hr, hlk, hAm, hA, hnm, hO⟩ := id C
  obtain ⟨hd, rfl⟩ := hd
  exact va_alen hx hb hAm.2.2.1 hP q0 t0 he ht hv hd (k p l ev s m args below meth c A H locs ls C hl hP hD hS)
theorem z_widen {G : GT} {μ : Mu} {R : Room} {O : OT} {cs ss pc pc' : Nat} {lv : List (Nat × Value)} {st : List Value} {ws : va_W} (cs' ss' : Nat) (h1 : cs ≤ cs') (h2 : ss ≤ ss') (k : Tr G μ R O cs' ss' pc lv (st) ws) : Tr G μ R O cs ss pc lv (st) ws := fun p l ev s m args below meth c A H locs ls C hl hP hD hS => by
  obtain ⟨hx, hb, hml, hown, hr, hlk, hAm, hA, hnm, hO⟩ := id C
  exact W.widen h1 h2 (k p l ev s m args below meth c A H locs ls C hl hP hD hS)
theorem z_iret {G : GT} {μ : Mu} {R : Room} {E : Option Value → va_W → Prop} {mc ms pc : Nat} {lv : List (Nat × Value)} {ws : va_W} {x : Int32} (pc' : Nat) (hd : Dc μ pc (.ireturn) 1 pc') (hr0 : μ.2.2.2 = some .int) (hE : E (some (.int x)) ws) : Tr G μ R (OM G E mc ms) mc ms pc lv ([.int x]) ws := fun p l ev s m args below meth c A H locs ls C hl hP hD hS => by
  obtain ⟨hx, hb, hml, hown, hr, hlk, hAm, hA, hnm, hO⟩ := id C
  exact W.iret hx hb (hr.trans hr0) (fun t ht hW => ⟨⟨some (.int x), ws, rfl, hE, by rw [ht]; exact hP, hD⟩, hS.F ht⟩) hS.2.2 hd.1 hlk
theorem z_zret {G : GT} {μ : Mu} {R : Room} {E : Option Value → va_W → Prop} {mc ms pc : Nat} {lv : List (Nat × Value)} {ws : va_W} {x : Int32} (pc' : Nat) (hd : Dc μ pc (.ireturn) 1 pc') (hr0 : μ.2.2.2 = some .boolean) (hx0 : narrow .boolean (.int x) = .int x) (hE : E (some (.int x)) ws) : Tr G μ R (OM G E mc ms) mc ms pc lv ([.int x]) ws := fun p l ev s m args below meth c A H locs ls C hl hP hD hS => by
  obtain ⟨hx, hb, hml, hown, hr, hlk, hAm, hA, hnm, hO⟩ := id C
  exact W.zret hx hb (hr.trans hr0) hx0 (fun t ht hW => ⟨⟨some (.int x), ws, rfl, hE, by rw [ht]; exact hP, hD⟩, hS.F ht⟩) hS.2.2 hd.1 hlk
theorem z_lret {G : GT} {μ : Mu} {R : Room} {E : Option Value → va_W → Prop} {mc ms pc : Nat} {lv : List (Nat × Value)} {ws : va_W} {x : Int64} (pc' : Nat) (hd : Dc μ pc (.lreturn) 1 pc') (hr0 : μ.2.2.2 = some .long) (hE : E (some (.long x)) ws) : Tr G μ R (OM G E mc ms) mc ms pc lv ([.long x]) ws := fun p l ev s m args below meth c A H locs ls C hl hP hD hS => by
  obtain ⟨hx, hb, hml, hown, hr, hlk, hAm, hA, hnm, hO⟩ := id C
  exact W.lret hx hb (hr.trans hr0) (fun t ht hW => ⟨⟨some (.long x), ws, rfl, hE, by rw [ht]; exact hP, hD⟩, hS.F ht⟩) hS.2.2 hd.1 hlk
theorem z_vret {G : GT} {μ : Mu} {R : Room} {E : Option Value → va_W → Prop} {mc ms pc : Nat} {lv : List (Nat × Value)} {ws : va_W} (pc' : Nat) (hd : Dc μ pc (.return_) 1 pc') (hr0 : μ.2.2.2 = none) (hE : E none ws) : Tr G μ R (OM G E mc ms) mc ms pc lv ([]) ws := fun p l ev s m args below meth c A H locs ls C hl hP hD hS => by
  obtain ⟨hx, hb, hml, hown, hr, hlk, hAm, hA, hnm, hO⟩ := id C
  exact W.vret hx hb (hr.trans hr0) (fun t ht hW => ⟨⟨none, ws, rfl, hE, by rw [ht]; exact hP, hD⟩, hS.F ht⟩) hS.2.2 hd.1 hlk
theorem z_sub {A : Nat → Prop} {s : State} {ws : va_W} {H : Heap} {locs : List Loc} (hD : va_D A ws) (hS : va_S A s.heap H locs) (hA : ∀ q, s.heap.size ≤ q → A q) : ∀ q, va_A ws H.size q → A q := by
  intro q h
  rcases h with ⟨k, e, h⟩ | h
  · exact hD.2 k (q, e) h
  · exact hA q (Nat.le_trans hS.1 h)
/-- behind a call -/
theorem z_after {p : Program} {l : Launch} {e : Env} {R : Room} {s : State} {m : MethodId} {args : Array Value} {below : List Frame} {meth : Method} {c : Code} {H : Heap} {locs : List Loc} {cs ss mc ms pc : Nat} {Q : State → Prop} {ls : Array Slot} {st0 rest : List Value} {G : GT} {E : Option Value → va_W → Prop} {A : Nat → Prop} {a : Array Value} {wc : va_W} {H0 : Heap}
    (hr : va_Run p l e R s m args below meth c H locs cs ss mc ms (F0 m pc ls st0) rest (Qg G E (va_A wc H.size) a) (va_A wc H.size)) (hsub : ∀ q, va_A wc H.size q → A q) (hS : va_S A H0 H locs)
    (kk : ∀ (v : Option Value) (ws' : va_W) (H1 : Heap) (locs1 : List Loc), E v ws' → va_P G.1 vwCl ws' H1 → va_D (va_A wc H.size) ws' → H.size ≤ H1.size → (∀ q : Nat, q < H.size → ¬ va_A wc H.size q → H1[q]? = H[q]?) → va_S A H0 H1 locs1 → W p l e R s m args below meth c H1 locs1 (cs + mc) (ss + ms) Q (F0 m (pc + 3) ls (v.toList ++ rest))) : W p l e R s m args below meth c H locs cs ss Q (F0 m pc ls st0) := by
  intro T hT X
  obtain ⟨v, st₀, t, T', L, h0, X', hL, e1, e2, ⟨⟨v', ws', hv, hE, hP', hD'⟩, hz, hk⟩, st⟩ := hr T hT X
  cases hv
  rw [h0] at hz hk
  rw [← e1] at hP' hz hk
  obtain ⟨t2, a1, b1⟩ := kk v ws' T'.heap (locs ++ L) hE hP' hD' hz hk
    ⟨Nat.le_trans hS.1 hz, fun q h1 h2 => by rw [hk q (Nat.lt_of_lt_of_le h1 hS.1) (fun z => h2 (hsub q z))]; exact hS.2.1 q h1 h2, fun q hq => by
      rcases List.mem_append.mp hq with h | h
      · exact hS.2.2 q h
      · exact hsub _ (hL q h)⟩ T' rfl X'
  exact ⟨t2, st t2 a1, b1⟩
theorem z_blind {G : GT} {av : List Value} {ws : va_W} {sz : Nat} : FrameBlind (va_Pc av (GSt G ws sz)) := by
  intro a U g mk h
  obtain ⟨rfl, h1, h2, h3, h4⟩ := h
  exact ⟨rfl, h1, h2, h3, Am.same (u := U) (U := U.calling g mk _) rfl h4⟩
theorem z_code1 {μ : Mu} : ∀ w ∈ [Cond.code μ.1 μ.2.1 μ.2.2.1 μ.2.2.2], w = Cond.code μ.1 μ.2.1 μ.2.2.1 μ.2.2.2 := fun w h => by simpa using h
/-- a method as the words of the tables have it: its code, its class, how many arguments -/
def Cm (μ : Mu) (n : Nat) : Prop := Wd (.code μ.1 μ.2.1 μ.2.2.1 μ.2.2.2) ∧ Wd (.initialized μ.1.cls) ∧ (μ.1.cls ≠ "java/lang/invoke/MethodHandle" ∧ μ.1.cls ≠ "java/lang/invoke/VarHandle") ∧ (parseMethodDescriptor μ.1.desc).map (fun d => d.parameters.length) = some n ∧ μ.2.2.1 ≤ 21
/-- a call's words: static; virtual on the class itself; a constructor -/
def CaS (own : String) (j : Nat) (μ : Mu) (n : Nat) : Prop := Cm μ n ∧ Wd (.static μ.1) ∧ (Wd (.methodLink own j μ.1) ∨ (own, j, μ.1) ∈ nestL)
def CaV (own : String) (j : Nat) (C : String) (μ : Mu) (n : Nat) : Prop := Cm μ n ∧ Wd (.instanceMethod μ.1) ∧ Wd (.selects C μ.1 μ.1) ∧ Wd (.methodLink own j μ.1)
def CaI (own : String) (j : Nat) (μ : Mu) (n : Nat) : Prop := Cm μ n ∧ Wd (.instanceMethod μ.1) ∧ μ.1.name = "<init>" ∧ μ.2.2.2 = none ∧ (Wd (.methodLink own j μ.1) ∨ (own, j, μ.1) ∈ nestL)
theorem Cm.ok {G : GT} {A : Nat → Prop} {H : Heap} {s : State} (hAm : Am G A s H) {args : Array Value} {own : String} {j : Nat} {μ : Mu} {n d mc ms : Nat} {R : Room} (h : Cm μ n) (hR1 : d + 1 ≤ R.frames) (hR2 : 40 * d + 40 ≤ R.locals) (hl : Wd (.methodLink own j μ.1)) :
    CallB R s args own j μ.1 μ.2.1 μ.2.2.1 μ.2.2.2 [Cond.code μ.1 μ.2.1 μ.2.2.1 μ.2.2.2] (Rm d mc ms) mc ms n := by
  obtain ⟨h1, h2, h3, h4, h5⟩ := h
  refine ⟨rfl, rfl, hR1, (by show 8 + (μ.2.2.1 + 11) + 40 * d ≤ R.locals; omega), ?_, List.mem_cons_self, hAm.1 _ h1 _, hAm.1 _ h2 _, h3, fun sig h => ?_, hAm.1 _ hl _⟩
  · intro w hw a' U hW
    rw [z_code1 w hw]
    exact (Am.warm hW hAm).1 _ h1 _
  · rw [h] at h4
    exact (Option.some.inj h4).symm
theorem Cm.okN {G : GT} {A : Nat → Prop} {H : Heap} {s : State} (hAm : Am G A s H) {args : Array Value} {own : String} {j : Nat} {μ : Mu} {n d mc ms : Nat} {R : Room} (h : Cm μ n) (hR1 : d + 1 ≤ R.frames) (hR2 : 40 * d + 40 ≤ R.locals) (hl : (own, j, μ.1) ∈ nestL) :
    va_CN R s args own j μ.1 "NestsByKnots" μ.2.1 μ.2.2.1 μ.2.2.2 [Cond.code μ.1 μ.2.1 μ.2.2.1 μ.2.2.2] (Rm d mc ms) mc ms n := by
  obtain ⟨h1, h2, h3, h4, h5⟩ := h
  refine ⟨⟨rfl, rfl, hR1, (by show 8 + (μ.2.2.1 + 11) + 40 * d ≤ R.locals; omega), ?_, List.mem_cons_self⟩, hAm.1 _ h1 _, hAm.1 _ h2 _, h3, fun sig h => ?_, va_Nw.use rfl (hAm.2.1.1 _ hl)⟩
  · intro w hw a' U hW
    rw [z_code1 w hw]
    exact (Am.warm hW hAm).1 _ h1 _
  · rw [h] at h4
    exact (Option.some.inj h4).symm
theorem z_PcS {G : GT} {A : Nat → Prop} {s : State} {H : Heap} {locs : List Loc} {ws : va_W} {av : List Value} (hAm : Am G A s s.heap) (hP : va_P G.1 vwCl ws H) (hD : va_D A ws) (hS : va_S A s.heap H locs) (hsub : ∀ q, va_A ws H.size q → A q) : ∀ U : State, U.heap = H → s.WarmedH U.vm → va_Pc av (GSt G ws H.size) av.toArray U := by
  intro U hU hW
  subst hU
  exact ⟨rfl, rfl, hP, hD.weaken (fun _ _ _ _ => trivial), Am.warm hW ((hAm.kept hS.2.1).narrow hsub)⟩

def Ei (F : Int32 → va_W → Prop) : Option Value → va_W → Prop := fun v w => ∃ r : Int32, v = some (.int r) ∧ F r w
def El (F : Int64 → va_W → Prop) : Option Value → va_W → Prop := fun v w => ∃ r : Int64, v = some (.long r) ∧ F r w
def Ea (F : Option Nat → va_W → Prop) : Option Value → va_W → Prop := fun v w => ∃ r : Option Nat, v = some (va_rf r) ∧ F r w
def Ev (F : va_W → Prop) : Option Value → va_W → Prop := fun v w => v = none ∧ F w
def rmok (d mc ms cs ss : Nat) (R : Room) : Bool := Nat.ble (d + 1) R.frames && (Nat.ble (40 * d + 40) R.locals && (Nat.ble (cs + mc) R.cells && Nat.ble (ss + ms) R.slots))
theorem rmok_spec {d mc ms cs ss : Nat} {R : Room} (h : rmok d mc ms cs ss R = true) : d + 1 ≤ R.frames ∧ 40 * d + 40 ≤ R.locals ∧ cs + mc ≤ R.cells ∧ ss + ms ≤ R.slots := by
  simp only [rmok, Bool.and_eq_true] at h
  exact ⟨Nat.le_of_ble_eq_true h.1, Nat.le_of_ble_eq_true h.2.1, Nat.le_of_ble_eq_true h.2.2.1, Nat.le_of_ble_eq_true h.2.2.2⟩
theorem z_callS {G : GT} {μ : Mu} {R : Room} {O : OT} {cs ss pc pc' : Nat} {lv : List (Nat × Value)} {st : List Value} {ws : va_W} {st0 : List Value} {μ' : Mu} {j n d mc ms : Nat} {E' : Option Value → va_W → Prop} {av : List Value} (hw : CaS μ.1.cls j μ' n) (hc : Ct G μ' d mc ms av ws E') (hst : st0 = av.reverse ++ st) (hn : av.length = n) (h8 : (st.map fun v => v.category).sum ≤ 8) (hR : rmok d mc ms cs ss R = true) (hd : Dc μ pc (.invokestatic j) 3 pc') (kk : ∀ v ws', E' v ws' → Tr G μ R O (cs + mc) (ss + ms) pc' lv (v.toList ++ st) ws') : Tr G μ R O cs ss pc lv st0 ws := fun p l ev s m args below meth c A H locs ls C hl hP hD hS => by
  obtain ⟨hx, hb, hml, hown, hr, hlk, hAm, hA, hnm, hO⟩ := id C
  obtain ⟨hd, rfl⟩ := hd
  obtain ⟨r1, r2, r3⟩ := rmok_spec hR
  obtain ⟨w1, w2, w3⟩ := hw
  subst hst
  rcases w3 with w3 | w3
  · exact z_after (va_runS (As := av) (rest := st) ⟨hx, hb, hml, hown, (fun w h => absurd h List.not_mem_nil : ∀ w ∈ ([] : List Cond), w.before args s = true)⟩ (hc l H.size) ⟨Cm.ok hAm w1 r1 r2 w3, hAm.1 _ w2 _⟩ ⟨z_blind, z_PcS (av := av) hAm hP hD hS (z_sub hD hS hA)⟩ rfl hn hl.1 rfl (lv_room h8) hd r3) (z_sub hD hS hA) hS (fun v ws' H1 locs1 hE hP1 hD1 hz hk hS1 => kk v ws' hE p l ev s m args below meth c A H1 locs1 ls C hl hP1 (hD1.weaken (fun _ _ _ h => z_sub hD hS hA _ h)) hS1)
  · exact z_after (va_runSN (As := av) (rest := st) ⟨hx, hb, hml, hown, (fun w h => absurd h List.not_mem_nil : ∀ w ∈ ([] : List Cond), w.before args s = true)⟩ (hc l H.size) ⟨Cm.okN hAm w1 r1 r2 w3, hAm.1 _ w2 _, trivial⟩ ⟨z_blind, z_PcS (av := av) hAm hP hD hS (z_sub hD hS hA)⟩ rfl hn hl.1 rfl (lv_room h8) hd r3) (z_sub hD hS hA) hS (fun v ws' H1 locs1 hE hP1 hD1 hz hk hS1 => kk v ws' hE p l ev s m args below meth c A H1 locs1 ls C hl hP1 (hD1.weaken (fun _ _ _ h => z_sub hD hS hA _ h)) hS1)
theorem z_callV {G : GT} {μ : Mu} {R : Room} {O : OT} {cs ss pc pc' : Nat} {lv : List (Nat × Value)} {st : List Value} {ws : va_W} {st0 : List Value} {μ' : Mu} {j n d mc ms : Nat} {E' : Option Value → va_W → Prop} {C1 : String} {a ci : Nat} {fs As : List Value} (q0 : Nat) (hw : CaV μ.1.cls j C1 μ' n) (he : ws[q0]? = some (a, .inr (ci, fs))) (hci : (vwCl[ci]?).map (fun q => q.1) = some C1) (hc : Ct G μ' d mc ms (.ref a :: As) ws E') (hst : st0 = As.reverse ++ .ref a :: st) (hn : As.length = n) (h8 : (st.map fun v => v.category).sum ≤ 8) (hR : rmok d mc ms cs ss R = true) (hd : Dc μ pc (.invokevirtual j) 3 pc') (kk : ∀ v ws', E' v ws' → Tr G μ R O (cs + mc) (ss + ms) pc' lv (v.toList ++ st) ws') : Tr G μ R O cs ss pc lv st0 ws := fun p l ev s m args below meth c A H locs ls C hl hP hD hS => by
  obtain ⟨hx, hb, hml, hown, hr, hlk, hAm, hA, hnm, hO⟩ := id C
  obtain ⟨hd, rfl⟩ := hd
  obtain ⟨r1, r2, r3⟩ := rmok_spec hR
  obtain ⟨w1, w2, w3, w4⟩ := hw
  subst hst
  obtain ⟨q, hq, rfl⟩ := Option.map_eq_some_iff.mp hci
  exact z_after (va_runV (As := As) (rest := st) ⟨hx, hb, hml, hown, (fun w h => absurd h List.not_mem_nil : ∀ w ∈ ([] : List Cond), w.before args s = true)⟩ (hc l H.size) ⟨Cm.ok hAm w1 r1 r2 w4, hAm.1 _ w2 _, hAm.1 _ w3 _⟩ ⟨z_blind, va_recv hAm.2.2.1 hP hq he, z_PcS (av := (.ref a :: As)) hAm hP hD hS (z_sub hD hS hA)⟩ rfl hn hl.1 rfl (lv_room h8) hd r3) (z_sub hD hS hA) hS (fun v ws' H1 locs1 hE hP1 hD1 hz hk hS1 => kk v ws' hE p l ev s m args below meth c A H1 locs1 ls C hl hP1 (hD1.weaken (fun _ _ _ h => z_sub hD hS hA _ h)) hS1)
theorem z_callI {G : GT} {μ : Mu} {R : Room} {O : OT} {cs ss pc pc' : Nat} {lv : List (Nat × Value)} {st : List Value} {ws : va_W} {st0 : List Value} {μ' : Mu} {j n d mc ms : Nat} {E' : Option Value → va_W → Prop} {a : Nat} {As : List Value} (hw : CaI μ.1.cls j μ' n) (hc : Ct G μ' d mc ms (.ref a :: As) ws E') (hst : st0 = As.reverse ++ .ref a :: st) (hn : As.length = n) (h8 : (st.map fun v => v.category).sum ≤ 8) (hR : rmok d mc ms cs ss R = true) (hd : Dc μ pc (.invokespecial j) 3 pc') (kk : ∀ v ws', E' v ws' → Tr G μ R O (cs + mc) (ss + ms) pc' lv (v.toList ++ st) ws') : Tr G μ R O cs ss pc lv st0 ws := fun p l ev s m args below meth c A H locs ls C hl hP hD hS => by
  obtain ⟨hx, hb, hml, hown, hr, hlk, hAm, hA, hnm, hO⟩ := id C
  obtain ⟨hd, rfl⟩ := hd
  obtain ⟨r1, r2, r3⟩ := rmok_spec hR
  obtain ⟨w1, w2, w5, w6, w3⟩ := hw
  subst hst
  obtain ⟨y', b', n', ret'⟩ := μ'
  dsimp only at w6
  subst w6
  rcases w3 with w3 | w3
  · exact z_after (va_runI (As := As) (rest := st) ⟨hx, hb, hml, hown, (fun w h => absurd h List.not_mem_nil : ∀ w ∈ ([] : List Cond), w.before args s = true)⟩ (hc l H.size) ⟨Cm.ok hAm w1 r1 r2 w3, w5, hAm.1 _ w2 _⟩ ⟨z_blind, z_PcS (av := (.ref a :: As)) hAm hP hD hS (z_sub hD hS hA)⟩ rfl hn hl.1 rfl (lv_room h8) hd r3) (z_sub hD hS hA) hS (fun v ws' H1 locs1 hE hP1 hD1 hz hk hS1 => kk v ws' hE p l ev s m args below meth c A H1 locs1 ls C hl hP1 (hD1.weaken (fun _ _ _ h => z_sub hD hS hA _ h)) hS1)
  · exact z_after (va_runIN (As := As) (rest := st) ⟨hx, hb, hml, hown, (fun w h => absurd h List.not_mem_nil : ∀ w ∈ ([] : List Cond), w.before args s = true)⟩ (hc l H.size) ⟨Cm.okN hAm w1 r1 r2 w3, w5, hAm.1 _ w2 _⟩ ⟨z_blind, z_PcS (av := (.ref a :: As)) hAm hP hD hS (z_sub hD hS hA)⟩ rfl hn hl.1 rfl (lv_room h8) hd r3) (z_sub hD hS hA) hS (fun v ws' H1 locs1 hE hP1 hD1 hz hk hS1 => kk v ws' hE p l ev s m args below meth c A H1 locs1 ls C hl hP1 (hD1.weaken (fun _ _ _ h => z_sub hD hS hA _ h)) hS1)
end
