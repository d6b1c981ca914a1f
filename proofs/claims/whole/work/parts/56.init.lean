/-! THE CONSTRUCTORS of the reference and of class X -/
def xL (l : List Nat) (k : Nat) : Nat := l.getD k 0
def spA (A : Nat → Nat → Int32) (p : Nat) (wd : Int64) : Nat → Nat → Int32 := vf_upd A 1 (itL (spF p wd) (A 1) 8)
def A7 : Nat → Nat → Int32 := spA (spA (spA (spA (spA (spA (spA (fun _ _ => 0) 0 8247606183035157280) 8 7954896756974776943) 16 8319028301984309293) 24 2339936919715340651) 32 7286880410626193696) 40 7020658958593440800) 48 8655983492970061856
def A0 : Nat → Nat → Int32 := vf_upd A7 2 (upd (A7 2) 0 56)
def I0 : Nat → Int32 := upd (upd (fun _ => 0) 14 48) 3 1
set_option maxHeartbeats 8000000 in
set_option maxRecDepth 100000 in
theorem s_X12_init (G : GT) (b : Nat → Nat) (a : Nat) (hb : b 0 = a) : Tr G mX12_init (Rm 1 13 1458) (OM G (fun v w => ∃ (b : Nat → Nat) (J : Nat → Int32) (tw : Int64), v = none ∧ b 0 = a ∧ w = MW G b I0 A0 J tw) 13 1458) 13 1458 114 [(0, .ref (b 0))] [] (MW G b (upd (fun _ => 0) 14 48) (fun _ _ => 0) (fun _ => 0) 0) := by
  refine z_aload_n d_X12_init_114 0 rfl ?_
  refine z_iconst (v := nI 0) d_X12_init_115 (by decide) ?_
  refine z_ldc2 d_X12_init_116 w_0990 ?_
  refine z_callV 0 c_X12_59 rfl rfl (t_X12_spell G b (upd (fun _ => 0) 14 48) (fun _ _ => 0) (fun _ => 0) 0 0 8247606183035157280 (by decide)) rfl rfl (Nat.le_of_ble_eq_true rfl) rfl d_X12_init_119 ?_
  rintro v w ⟨rfl, rfl⟩
  refine z_aload_n d_X12_init_122 0 rfl ?_
  refine z_bipush (v := nI 8) d_X12_init_123 (by decide) ?_
  refine z_ldc2 d_X12_init_125 w_0996 ?_
  refine z_callV 0 c_X12_59 rfl rfl (t_X12_spell G b (upd (fun _ => 0) 14 48) (spA (fun _ _ => 0) 0 8247606183035157280) (fun _ => 0) 0 8 7954896756974776943 (by decide)) rfl rfl (Nat.le_of_ble_eq_true rfl) rfl d_X12_init_128 ?_
  rintro v w ⟨rfl, rfl⟩
  refine z_aload_n d_X12_init_131 0 rfl ?_
  refine z_bipush (v := nI 16) d_X12_init_132 (by decide) ?_
  refine z_ldc2 d_X12_init_134 w_0997 ?_
  refine z_callV 0 c_X12_59 rfl rfl (t_X12_spell G b (upd (fun _ => 0) 14 48) (spA (spA (fun _ _ => 0) 0 8247606183035157280) 8 7954896756974776943) (fun _ => 0) 0 16 8319028301984309293 (by decide)) rfl rfl (Nat.le_of_ble_eq_true rfl) rfl d_X12_init_137 ?_
  rintro v w ⟨rfl, rfl⟩
  refine z_aload_n d_X12_init_140 0 rfl ?_
  refine z_bipush (v := nI 24) d_X12_init_141 (by decide) ?_
  refine z_ldc2 d_X12_init_143 w_0998 ?_
  refine z_callV 0 c_X12_59 rfl rfl (t_X12_spell G b (upd (fun _ => 0) 14 48) (spA (spA (spA (fun _ _ => 0) 0 8247606183035157280) 8 7954896756974776943) 16 8319028301984309293) (fun _ => 0) 0 24 2339936919715340651 (by decide)) rfl rfl (Nat.le_of_ble_eq_true rfl) rfl d_X12_init_146 ?_
  rintro v w ⟨rfl, rfl⟩
  refine z_aload_n d_X12_init_149 0 rfl ?_
  refine z_bipush (v := nI 32) d_X12_init_150 (by decide) ?_
  refine z_ldc2 d_X12_init_152 w_0999 ?_
  refine z_callV 0 c_X12_59 rfl rfl (t_X12_spell G b (upd (fun _ => 0) 14 48) (spA (spA (spA (spA (fun _ _ => 0) 0 8247606183035157280) 8 7954896756974776943) 16 8319028301984309293) 24 2339936919715340651) (fun _ => 0) 0 32 7286880410626193696 (by decide)) rfl rfl (Nat.le_of_ble_eq_true rfl) rfl d_X12_init_155 ?_
  rintro v w ⟨rfl, rfl⟩
  refine z_aload_n d_X12_init_158 0 rfl ?_
  refine z_bipush (v := nI 40) d_X12_init_159 (by decide) ?_
  refine z_ldc2 d_X12_init_161 w_1000 ?_
  refine z_callV 0 c_X12_59 rfl rfl (t_X12_spell G b (upd (fun _ => 0) 14 48) (spA (spA (spA (spA (spA (fun _ _ => 0) 0 8247606183035157280) 8 7954896756974776943) 16 8319028301984309293) 24 2339936919715340651) 32 7286880410626193696) (fun _ => 0) 0 40 7020658958593440800 (by decide)) rfl rfl (Nat.le_of_ble_eq_true rfl) rfl d_X12_init_164 ?_
  rintro v w ⟨rfl, rfl⟩
  refine z_aload_n d_X12_init_167 0 rfl ?_
  refine z_bipush (v := nI 48) d_X12_init_168 (by decide) ?_
  refine z_ldc2 d_X12_init_170 w_1001 ?_
  refine z_callV 0 c_X12_59 rfl rfl (t_X12_spell G b (upd (fun _ => 0) 14 48) (spA (spA (spA (spA (spA (spA (fun _ _ => 0) 0 8247606183035157280) 8 7954896756974776943) 16 8319028301984309293) 24 2339936919715340651) 32 7286880410626193696) 40 7020658958593440800) (fun _ => 0) 0 48 8655983492970061856 (by decide)) rfl rfl (Nat.le_of_ble_eq_true rfl) rfl d_X12_init_173 ?_
  rintro v w ⟨rfl, rfl⟩
  refine z_aload_n d_X12_init_176 0 rfl ?_
  refine z_get (v := .ref (b 2)) 0 f_X12_17_12 rfl rfl d_X12_init_177 ?_
  refine z_iconst (v := 0) d_X12_init_180 (by decide) ?_
  refine z_bipush (v := 56) d_X12_init_181 (by decide) ?_
  refine z_iastN 2 0 (MW G b (upd (fun _ => 0) 14 48) A0 (fun _ => 0) 0) rfl rfl (by decide) rfl d_X12_init_183 ?_
  refine z_aload_n d_X12_init_184 0 rfl ?_
  refine z_iconst (v := 1) d_X12_init_185 (by decide) ?_
  refine z_put 0 (MW G b I0 A0 (fun _ => 0) 0) p_X12_75_12 rfl rfl rfl (Nat.le_of_ble_eq_true rfl) rfl d_X12_init_186 ?_
  exact z_vret _ d_X12_init_189 rfl ⟨b, _, _, rfl, hb, rfl⟩
set_option maxHeartbeats 8000000 in
set_option maxRecDepth 100000 in
theorem t_X12_init (G : GT) (a : Nat) : Ct G mX12_init 1 13 1458 [.ref a] [(a, .inr (12, [.int 0, .null, .null, .int 0, .int 0, .null, .int 0, .null, .null, .null, .null, .null, .int 0, .int 0, .int 0, .int 0, .int 0, .int 0, .int 0, .long 0, .int 0, .int 0, .int 0, .int 0, .int 0, .int 0, .int 0, .int 0, .int 0, .int 0, .null, .int 0, .int 0, .int 0, .int 0, .int 0, .null, .null, .null, .null]))] (fun v w => ∃ (b : Nat → Nat) (J : Nat → Int32) (tw : Int64), v = none ∧ b 0 = a ∧ w = MW G b I0 A0 J tw) := by
  refine Ct.intro [(0, .ref a)] (by decide) rfl (Nat.le_of_ble_eq_true rfl) ?_
  refine z_aload_n d_X12_init_0 0 rfl ?_
  refine z_objInit w_0989 rfl d_X12_init_1 ?_
  refine z_aload_n d_X12_init_4 0 rfl ?_
  refine z_sipush (v := 960) d_X12_init_5 (by decide) ?_
  refine z_newa (ty := .int) (a0 := (960, .inl (fun _ => 0))) 0 960 rfl rfl w_0126 (fun _ => rfl) rfl (by decide) rfl d_X12_init_8 (fun q1 => ?_)
  refine z_putF 0 ([(a, .inr (12, [.int 0, .ref q1, .null, .int 0, .int 0, .null, .int 0, .null, .null, .null, .null, .null, .int 0, .int 0, .int 0, .int 0, .int 0, .int 0, .int 0, .long 0, .int 0, .int 0, .int 0, .int 0, .int 0, .int 0, .int 0, .int 0, .int 0, .int 0, .null, .int 0, .int 0, .int 0, .int 0, .int 0, .null, .null, .null, .null])), (q1, .inl (G.2.1 0, 960, .inl (fun _ => 0)))]) p_X12_13_12 rfl rfl rfl rfl (Nat.le_of_ble_eq_true rfl) rfl d_X12_init_10 ?_
  refine z_aload_n d_X12_init_13 0 rfl ?_
  refine z_bipush (v := 6) d_X12_init_14 (by decide) ?_
  refine z_newa (ty := .int) (a0 := (6, .inl (fun _ => 0))) 0 6 rfl rfl w_0126 (fun _ => rfl) rfl (by decide) rfl d_X12_init_16 (fun q2 => ?_)
  refine z_putF 0 ([(a, .inr (12, [.int 0, .ref q1, .ref q2, .int 0, .int 0, .null, .int 0, .null, .null, .null, .null, .null, .int 0, .int 0, .int 0, .int 0, .int 0, .int 0, .int 0, .long 0, .int 0, .int 0, .int 0, .int 0, .int 0, .int 0, .int 0, .int 0, .int 0, .int 0, .null, .int 0, .int 0, .int 0, .int 0, .int 0, .null, .null, .null, .null])), (q1, .inl (G.2.1 0, 960, .inl (fun _ => 0))), (q2, .inl (G.2.1 0, 6, .inl (fun _ => 0)))]) p_X12_17_12 rfl rfl rfl rfl (Nat.le_of_ble_eq_true rfl) rfl d_X12_init_18 ?_
  refine z_aload_n d_X12_init_21 0 rfl ?_
  refine z_sipush (v := 160) d_X12_init_22 (by decide) ?_
  refine z_newa (ty := .int) (a0 := (160, .inl (fun _ => 0))) 0 160 rfl rfl w_0126 (fun _ => rfl) rfl (by decide) rfl d_X12_init_25 (fun q5 => ?_)
  refine z_putF 0 ([(a, .inr (12, [.int 0, .ref q1, .ref q2, .int 0, .int 0, .ref q5, .int 0, .null, .null, .null, .null, .null, .int 0, .int 0, .int 0, .int 0, .int 0, .int 0, .int 0, .long 0, .int 0, .int 0, .int 0, .int 0, .int 0, .int 0, .int 0, .int 0, .int 0, .int 0, .null, .int 0, .int 0, .int 0, .int 0, .int 0, .null, .null, .null, .null])), (q1, .inl (G.2.1 0, 960, .inl (fun _ => 0))), (q2, .inl (G.2.1 0, 6, .inl (fun _ => 0))), (q5, .inl (G.2.1 0, 160, .inl (fun _ => 0)))]) p_X12_20_12 rfl rfl rfl rfl (Nat.le_of_ble_eq_true rfl) rfl d_X12_init_27 ?_
  refine z_aload_n d_X12_init_30 0 rfl ?_
  refine z_bipush (v := 16) d_X12_init_31 (by decide) ?_
  refine z_newa (ty := .int) (a0 := (16, .inl (fun _ => 0))) 0 16 rfl rfl w_0126 (fun _ => rfl) rfl (by decide) rfl d_X12_init_33 (fun q7 => ?_)
  refine z_putF 0 ([(a, .inr (12, [.int 0, .ref q1, .ref q2, .int 0, .int 0, .ref q5, .int 0, .ref q7, .null, .null, .null, .null, .int 0, .int 0, .int 0, .int 0, .int 0, .int 0, .int 0, .long 0, .int 0, .int 0, .int 0, .int 0, .int 0, .int 0, .int 0, .int 0, .int 0, .int 0, .null, .int 0, .int 0, .int 0, .int 0, .int 0, .null, .null, .null, .null])), (q1, .inl (G.2.1 0, 960, .inl (fun _ => 0))), (q2, .inl (G.2.1 0, 6, .inl (fun _ => 0))), (q5, .inl (G.2.1 0, 160, .inl (fun _ => 0))), (q7, .inl (G.2.1 0, 16, .inl (fun _ => 0)))]) p_X12_23_12 rfl rfl rfl rfl (Nat.le_of_ble_eq_true rfl) rfl d_X12_init_35 ?_
  refine z_aload_n d_X12_init_38 0 rfl ?_
  refine z_bipush (v := 16) d_X12_init_39 (by decide) ?_
  refine z_newa (ty := .int) (a0 := (16, .inl (fun _ => 0))) 0 16 rfl rfl w_0126 (fun _ => rfl) rfl (by decide) rfl d_X12_init_41 (fun q8 => ?_)
  refine z_putF 0 ([(a, .inr (12, [.int 0, .ref q1, .ref q2, .int 0, .int 0, .ref q5, .int 0, .ref q7, .ref q8, .null, .null, .null, .int 0, .int 0, .int 0, .int 0, .int 0, .int 0, .int 0, .long 0, .int 0, .int 0, .int 0, .int 0, .int 0, .int 0, .int 0, .int 0, .int 0, .int 0, .null, .int 0, .int 0, .int 0, .int 0, .int 0, .null, .null, .null, .null])), (q1, .inl (G.2.1 0, 960, .inl (fun _ => 0))), (q2, .inl (G.2.1 0, 6, .inl (fun _ => 0))), (q5, .inl (G.2.1 0, 160, .inl (fun _ => 0))), (q7, .inl (G.2.1 0, 16, .inl (fun _ => 0))), (q8, .inl (G.2.1 0, 16, .inl (fun _ => 0)))]) p_X12_26_12 rfl rfl rfl rfl (Nat.le_of_ble_eq_true rfl) rfl d_X12_init_43 ?_
  refine z_aload_n d_X12_init_46 0 rfl ?_
  refine z_bipush (v := 16) d_X12_init_47 (by decide) ?_
  refine z_newa (ty := .int) (a0 := (16, .inl (fun _ => 0))) 0 16 rfl rfl w_0126 (fun _ => rfl) rfl (by decide) rfl d_X12_init_49 (fun q9 => ?_)
  refine z_putF 0 ([(a, .inr (12, [.int 0, .ref q1, .ref q2, .int 0, .int 0, .ref q5, .int 0, .ref q7, .ref q8, .ref q9, .null, .null, .int 0, .int 0, .int 0, .int 0, .int 0, .int 0, .int 0, .long 0, .int 0, .int 0, .int 0, .int 0, .int 0, .int 0, .int 0, .int 0, .int 0, .int 0, .null, .int 0, .int 0, .int 0, .int 0, .int 0, .null, .null, .null, .null])), (q1, .inl (G.2.1 0, 960, .inl (fun _ => 0))), (q2, .inl (G.2.1 0, 6, .inl (fun _ => 0))), (q5, .inl (G.2.1 0, 160, .inl (fun _ => 0))), (q7, .inl (G.2.1 0, 16, .inl (fun _ => 0))), (q8, .inl (G.2.1 0, 16, .inl (fun _ => 0))), (q9, .inl (G.2.1 0, 16, .inl (fun _ => 0)))]) p_X12_29_12 rfl rfl rfl rfl (Nat.le_of_ble_eq_true rfl) rfl d_X12_init_51 ?_
  refine z_aload_n d_X12_init_54 0 rfl ?_
  refine z_bipush (v := 16) d_X12_init_55 (by decide) ?_
  refine z_newa (ty := .int) (a0 := (16, .inl (fun _ => 0))) 0 16 rfl rfl w_0126 (fun _ => rfl) rfl (by decide) rfl d_X12_init_57 (fun q10 => ?_)
  refine z_putF 0 ([(a, .inr (12, [.int 0, .ref q1, .ref q2, .int 0, .int 0, .ref q5, .int 0, .ref q7, .ref q8, .ref q9, .ref q10, .null, .int 0, .int 0, .int 0, .int 0, .int 0, .int 0, .int 0, .long 0, .int 0, .int 0, .int 0, .int 0, .int 0, .int 0, .int 0, .int 0, .int 0, .int 0, .null, .int 0, .int 0, .int 0, .int 0, .int 0, .null, .null, .null, .null])), (q1, .inl (G.2.1 0, 960, .inl (fun _ => 0))), (q2, .inl (G.2.1 0, 6, .inl (fun _ => 0))), (q5, .inl (G.2.1 0, 160, .inl (fun _ => 0))), (q7, .inl (G.2.1 0, 16, .inl (fun _ => 0))), (q8, .inl (G.2.1 0, 16, .inl (fun _ => 0))), (q9, .inl (G.2.1 0, 16, .inl (fun _ => 0))), (q10, .inl (G.2.1 0, 16, .inl (fun _ => 0)))]) p_X12_32_12 rfl rfl rfl rfl (Nat.le_of_ble_eq_true rfl) rfl d_X12_init_59 ?_
  refine z_aload_n d_X12_init_62 0 rfl ?_
  refine z_bipush (v := 16) d_X12_init_63 (by decide) ?_
  refine z_newa (ty := .int) (a0 := (16, .inl (fun _ => 0))) 0 16 rfl rfl w_0126 (fun _ => rfl) rfl (by decide) rfl d_X12_init_65 (fun q11 => ?_)
  refine z_putF 0 ([(a, .inr (12, [.int 0, .ref q1, .ref q2, .int 0, .int 0, .ref q5, .int 0, .ref q7, .ref q8, .ref q9, .ref q10, .ref q11, .int 0, .int 0, .int 0, .int 0, .int 0, .int 0, .int 0, .long 0, .int 0, .int 0, .int 0, .int 0, .int 0, .int 0, .int 0, .int 0, .int 0, .int 0, .null, .int 0, .int 0, .int 0, .int 0, .int 0, .null, .null, .null, .null])), (q1, .inl (G.2.1 0, 960, .inl (fun _ => 0))), (q2, .inl (G.2.1 0, 6, .inl (fun _ => 0))), (q5, .inl (G.2.1 0, 160, .inl (fun _ => 0))), (q7, .inl (G.2.1 0, 16, .inl (fun _ => 0))), (q8, .inl (G.2.1 0, 16, .inl (fun _ => 0))), (q9, .inl (G.2.1 0, 16, .inl (fun _ => 0))), (q10, .inl (G.2.1 0, 16, .inl (fun _ => 0))), (q11, .inl (G.2.1 0, 16, .inl (fun _ => 0)))]) p_X12_35_12 rfl rfl rfl rfl (Nat.le_of_ble_eq_true rfl) rfl d_X12_init_67 ?_
  refine z_aload_n d_X12_init_70 0 rfl ?_
  refine z_bipush (v := 48) d_X12_init_71 (by decide) ?_
  refine z_put 0 ([(a, .inr (12, [.int 0, .ref q1, .ref q2, .int 0, .int 0, .ref q5, .int 0, .ref q7, .ref q8, .ref q9, .ref q10, .ref q11, .int 0, .int 0, .int 48, .int 0, .int 0, .int 0, .int 0, .long 0, .int 0, .int 0, .int 0, .int 0, .int 0, .int 0, .int 0, .int 0, .int 0, .int 0, .null, .int 0, .int 0, .int 0, .int 0, .int 0, .null, .null, .null, .null])), (q1, .inl (G.2.1 0, 960, .inl (fun _ => 0))), (q2, .inl (G.2.1 0, 6, .inl (fun _ => 0))), (q5, .inl (G.2.1 0, 160, .inl (fun _ => 0))), (q7, .inl (G.2.1 0, 16, .inl (fun _ => 0))), (q8, .inl (G.2.1 0, 16, .inl (fun _ => 0))), (q9, .inl (G.2.1 0, 16, .inl (fun _ => 0))), (q10, .inl (G.2.1 0, 16, .inl (fun _ => 0))), (q11, .inl (G.2.1 0, 16, .inl (fun _ => 0)))]) p_X12_38_12 rfl rfl rfl (Nat.le_of_ble_eq_true rfl) rfl d_X12_init_73 ?_
  refine z_aload_n d_X12_init_76 0 rfl ?_
  refine z_bipush (v := 80) d_X12_init_77 (by decide) ?_
  refine z_newa (ty := .int) (a0 := (80, .inl (fun _ => 0))) 0 80 rfl rfl w_0126 (fun _ => rfl) rfl (by decide) rfl d_X12_init_79 (fun q30 => ?_)
  refine z_putF 0 ([(a, .inr (12, [.int 0, .ref q1, .ref q2, .int 0, .int 0, .ref q5, .int 0, .ref q7, .ref q8, .ref q9, .ref q10, .ref q11, .int 0, .int 0, .int 48, .int 0, .int 0, .int 0, .int 0, .long 0, .int 0, .int 0, .int 0, .int 0, .int 0, .int 0, .int 0, .int 0, .int 0, .int 0, .ref q30, .int 0, .int 0, .int 0, .int 0, .int 0, .null, .null, .null, .null])), (q1, .inl (G.2.1 0, 960, .inl (fun _ => 0))), (q2, .inl (G.2.1 0, 6, .inl (fun _ => 0))), (q5, .inl (G.2.1 0, 160, .inl (fun _ => 0))), (q7, .inl (G.2.1 0, 16, .inl (fun _ => 0))), (q8, .inl (G.2.1 0, 16, .inl (fun _ => 0))), (q9, .inl (G.2.1 0, 16, .inl (fun _ => 0))), (q10, .inl (G.2.1 0, 16, .inl (fun _ => 0))), (q11, .inl (G.2.1 0, 16, .inl (fun _ => 0))), (q30, .inl (G.2.1 0, 80, .inl (fun _ => 0)))]) p_X12_41_12 rfl rfl rfl rfl (Nat.le_of_ble_eq_true rfl) rfl d_X12_init_81 ?_
  refine z_aload_n d_X12_init_84 0 rfl ?_
  refine z_iconst (v := 4) d_X12_init_85 (by decide) ?_
  refine z_newa (ty := .boolean) (a0 := (4, .inl (fun _ => 0))) 2 4 rfl rfl w_1122 (fun _ => rfl) rfl (by decide) rfl d_X12_init_86 (fun q36 => ?_)
  refine z_putF 0 ([(a, .inr (12, [.int 0, .ref q1, .ref q2, .int 0, .int 0, .ref q5, .int 0, .ref q7, .ref q8, .ref q9, .ref q10, .ref q11, .int 0, .int 0, .int 48, .int 0, .int 0, .int 0, .int 0, .long 0, .int 0, .int 0, .int 0, .int 0, .int 0, .int 0, .int 0, .int 0, .int 0, .int 0, .ref q30, .int 0, .int 0, .int 0, .int 0, .int 0, .ref q36, .null, .null, .null])), (q1, .inl (G.2.1 0, 960, .inl (fun _ => 0))), (q2, .inl (G.2.1 0, 6, .inl (fun _ => 0))), (q5, .inl (G.2.1 0, 160, .inl (fun _ => 0))), (q7, .inl (G.2.1 0, 16, .inl (fun _ => 0))), (q8, .inl (G.2.1 0, 16, .inl (fun _ => 0))), (q9, .inl (G.2.1 0, 16, .inl (fun _ => 0))), (q10, .inl (G.2.1 0, 16, .inl (fun _ => 0))), (q11, .inl (G.2.1 0, 16, .inl (fun _ => 0))), (q30, .inl (G.2.1 0, 80, .inl (fun _ => 0))), (q36, .inl (G.2.1 2, 4, .inl (fun _ => 0)))]) p_X12_44_12 rfl rfl rfl rfl (Nat.le_of_ble_eq_true rfl) rfl d_X12_init_88 ?_
  refine z_aload_n d_X12_init_91 0 rfl ?_
  refine z_iconst (v := 4) d_X12_init_92 (by decide) ?_
  refine z_newa (ty := .int) (a0 := (4, .inl (fun _ => 0))) 0 4 rfl rfl w_0126 (fun _ => rfl) rfl (by decide) rfl d_X12_init_93 (fun q37 => ?_)
  refine z_putF 0 ([(a, .inr (12, [.int 0, .ref q1, .ref q2, .int 0, .int 0, .ref q5, .int 0, .ref q7, .ref q8, .ref q9, .ref q10, .ref q11, .int 0, .int 0, .int 48, .int 0, .int 0, .int 0, .int 0, .long 0, .int 0, .int 0, .int 0, .int 0, .int 0, .int 0, .int 0, .int 0, .int 0, .int 0, .ref q30, .int 0, .int 0, .int 0, .int 0, .int 0, .ref q36, .ref q37, .null, .null])), (q1, .inl (G.2.1 0, 960, .inl (fun _ => 0))), (q2, .inl (G.2.1 0, 6, .inl (fun _ => 0))), (q5, .inl (G.2.1 0, 160, .inl (fun _ => 0))), (q7, .inl (G.2.1 0, 16, .inl (fun _ => 0))), (q8, .inl (G.2.1 0, 16, .inl (fun _ => 0))), (q9, .inl (G.2.1 0, 16, .inl (fun _ => 0))), (q10, .inl (G.2.1 0, 16, .inl (fun _ => 0))), (q11, .inl (G.2.1 0, 16, .inl (fun _ => 0))), (q30, .inl (G.2.1 0, 80, .inl (fun _ => 0))), (q36, .inl (G.2.1 2, 4, .inl (fun _ => 0))), (q37, .inl (G.2.1 0, 4, .inl (fun _ => 0)))]) p_X12_48_12 rfl rfl rfl rfl (Nat.le_of_ble_eq_true rfl) rfl d_X12_init_95 ?_
  refine z_aload_n d_X12_init_98 0 rfl ?_
  refine z_iconst (v := 4) d_X12_init_99 (by decide) ?_
  refine z_newa (ty := .int) (a0 := (4, .inl (fun _ => 0))) 0 4 rfl rfl w_0126 (fun _ => rfl) rfl (by decide) rfl d_X12_init_100 (fun q38 => ?_)
  refine z_putF 0 ([(a, .inr (12, [.int 0, .ref q1, .ref q2, .int 0, .int 0, .ref q5, .int 0, .ref q7, .ref q8, .ref q9, .ref q10, .ref q11, .int 0, .int 0, .int 48, .int 0, .int 0, .int 0, .int 0, .long 0, .int 0, .int 0, .int 0, .int 0, .int 0, .int 0, .int 0, .int 0, .int 0, .int 0, .ref q30, .int 0, .int 0, .int 0, .int 0, .int 0, .ref q36, .ref q37, .ref q38, .null])), (q1, .inl (G.2.1 0, 960, .inl (fun _ => 0))), (q2, .inl (G.2.1 0, 6, .inl (fun _ => 0))), (q5, .inl (G.2.1 0, 160, .inl (fun _ => 0))), (q7, .inl (G.2.1 0, 16, .inl (fun _ => 0))), (q8, .inl (G.2.1 0, 16, .inl (fun _ => 0))), (q9, .inl (G.2.1 0, 16, .inl (fun _ => 0))), (q10, .inl (G.2.1 0, 16, .inl (fun _ => 0))), (q11, .inl (G.2.1 0, 16, .inl (fun _ => 0))), (q30, .inl (G.2.1 0, 80, .inl (fun _ => 0))), (q36, .inl (G.2.1 2, 4, .inl (fun _ => 0))), (q37, .inl (G.2.1 0, 4, .inl (fun _ => 0))), (q38, .inl (G.2.1 0, 4, .inl (fun _ => 0)))]) p_X12_51_12 rfl rfl rfl rfl (Nat.le_of_ble_eq_true rfl) rfl d_X12_init_102 ?_
  refine z_aload_n d_X12_init_105 0 rfl ?_
  refine z_sipush (v := 160) d_X12_init_106 (by decide) ?_
  refine z_newa (ty := .int) (a0 := (160, .inl (fun _ => 0))) 0 160 rfl rfl w_0126 (fun _ => rfl) rfl (by decide) rfl d_X12_init_109 (fun q39 => ?_)
  refine z_putF 0 ([(a, .inr (12, [.int 0, .ref q1, .ref q2, .int 0, .int 0, .ref q5, .int 0, .ref q7, .ref q8, .ref q9, .ref q10, .ref q11, .int 0, .int 0, .int 48, .int 0, .int 0, .int 0, .int 0, .long 0, .int 0, .int 0, .int 0, .int 0, .int 0, .int 0, .int 0, .int 0, .int 0, .int 0, .ref q30, .int 0, .int 0, .int 0, .int 0, .int 0, .ref q36, .ref q37, .ref q38, .ref q39])), (q1, .inl (G.2.1 0, 960, .inl (fun _ => 0))), (q2, .inl (G.2.1 0, 6, .inl (fun _ => 0))), (q5, .inl (G.2.1 0, 160, .inl (fun _ => 0))), (q7, .inl (G.2.1 0, 16, .inl (fun _ => 0))), (q8, .inl (G.2.1 0, 16, .inl (fun _ => 0))), (q9, .inl (G.2.1 0, 16, .inl (fun _ => 0))), (q10, .inl (G.2.1 0, 16, .inl (fun _ => 0))), (q11, .inl (G.2.1 0, 16, .inl (fun _ => 0))), (q30, .inl (G.2.1 0, 80, .inl (fun _ => 0))), (q36, .inl (G.2.1 2, 4, .inl (fun _ => 0))), (q37, .inl (G.2.1 0, 4, .inl (fun _ => 0))), (q38, .inl (G.2.1 0, 4, .inl (fun _ => 0))), (q39, .inl (G.2.1 0, 160, .inl (fun _ => 0)))]) p_X12_54_12 rfl rfl rfl rfl (Nat.le_of_ble_eq_true rfl) rfl d_X12_init_111 ?_
  exact s_X12_init G (xL [a, q1, q2, 0, 0, q5, 0, q7, q8, q9, q10, q11, 0, 0, 0, 0, 0, 0, 0, 0, 0, 0, 0, 0, 0, 0, 0, 0, 0, 0, q30, 0, 0, 0, 0, 0, q36, q37, q38, q39]) a rfl
def cd0 : CD := ([3], [-3, 2, -14, -2, -13], [3, -2, -10, 4, -1, -10, -8])
def fB : List Int32 := [114, 117, 98, 32, 51, 32, 59, 32, 110, 101, 120, 116, 32, 99, 114, 111, 115, 115, 32, 42, 32, 50, 32, 45, 32, 121, 32, 59, 32, 116, 97, 107, 101, 32, 51, 32, 60, 32, 121, 32, 97, 110, 100, 32, 52, 32, 60, 32, 120, 32, 59, 32, 32, 32, 32, 32]
theorem f_txt : txP (chS 0) 51 = .inr cd0 := by decide +kernel
theorem f_txm : txP (fun i => fB.getD i 0) 56 = .inr cd0 := by decide +kernel
theorem f_bm : ∀ i, i < 56 → bM A0 0 i = fB.getD i 0 := by decide +kernel
theorem f_b0 : ∀ i, i < 56 → 0 ≤ (fB.getD i 0).toInt := by decide +kernel
theorem f_ok : TxOk A0 0 cd0 := ⟨by decide, 56, by decide, by decide +kernel, fun i hi => by rw [f_bm i hi]; exact f_b0 i hi, by rw [txP_c f_bm]; exact f_txm⟩
theorem f_at : ∀ c, c < 25 → (0 : Int32) = atS A0 (nI c) 0 := by decide +kernel
theorem f_bt (i : Nat) : bt 0 i = false := by simp [bt]
theorem f_by : ∀ k, k < 51 → (vp_nar .byte (chS 0 k).toInt8.toInt32 = sb (chS 0 k) ∧ 0 ≤ (chS 0 k).toInt ∧ (chS 0 k).toInt ≤ 255) := by decide +kernel
