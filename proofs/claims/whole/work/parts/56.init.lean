/-! THE CONSTRUCTORS of the reference and of class X -/
def xL (l : List Nat) (k : Nat) : Nat := l.getD k 0
def spA (A : Nat → Nat → Int32) (p : Nat) (wd : Int64) : Nat → Nat → Int32 := vf_upd A 1 (itL (spF p wd) (A 1) 8)
def A7 : Nat → Nat → Int32 := spA (spA (spA (spA (spA (spA (spA (fun _ _ => 0) 0 8247606183035157280) 8 7954896756974776943) 16 8319028301984309293) 24 2339936919715340651) 32 7286880410626193696) 40 7020658958593440800) 48 8655983492970061856
def A0 : Nat → Nat → Int32 := vf_upd A7 2 (upd (A7 2) 0 56)
def I0 : Nat → Int32 := upd (upd (fun _ => 0) 14 48) 3 1
theorem t_sp (G : GT) (b : Nat → Nat) (I : Nat → Int32) (A : Nat → Nat → Int32) (J : Nat → Int32) (tw : Int64) (p : Nat) (wd : Int64) (hp : p ≤ 100) : Ct G mX12_spell 0 0 0 [.ref (b 0), .int (nI p), .long wd] (MW G b I A J tw) (Pv (MW G b I (spA A p wd) J tw)) := t_X12_spell G b I A J tw p wd hp
set_option maxHeartbeats 8000000 in
set_option maxRecDepth 100000 in
theorem s_X12_init (G : GT) (b : Nat → Nat) (a : Nat) (hb : b 0 = a) : Tr G mX12_init (Rm 1 13 1458) (OM G (fun v w => ∃ (b : Nat → Nat) (J : Nat → Int32) (tw : Int64), v = none ∧ b 0 = a ∧ w = MW G b I0 A0 J tw) 13 1458) 13 1458 114 [(0, .ref (b 0))] [] (MW G b (upd (fun _ => 0) 14 48) (fun _ _ => 0) (fun _ => 0) 0) := by
  generalize hI : upd (fun _ => 0) 14 48 = I1
  generalize hA0 : (fun _ _ => 0 : Nat → Nat → Int32) = B0
  generalize hJ : (fun _ => 0 : Nat → Int32) = J1
  refine z_aload_n d_X12_init_114 0 rfl ?_
  refine z_iconst (v := nI 0) d_X12_init_115 (by decide) ?_
  refine z_ldc2 d_X12_init_116 w_0990 ?_
  refine z_callV 0 c_X12_59 rfl rfl (t_sp G b I1 B0 J1 0 0 8247606183035157280 (by decide)) rfl rfl (Nat.le_of_ble_eq_true rfl) rfl d_X12_init_119 ?_
  rintro v w ⟨rfl, rfl⟩
  generalize hA1 : spA B0 0 8247606183035157280 = B1
  refine z_aload_n d_X12_init_122 0 rfl ?_
  refine z_bipush (v := nI 8) d_X12_init_123 (by decide) ?_
  refine z_ldc2 d_X12_init_125 w_0996 ?_
  refine z_callV 0 c_X12_59 rfl rfl (t_sp G b I1 B1 J1 0 8 7954896756974776943 (by decide)) rfl rfl (Nat.le_of_ble_eq_true rfl) rfl d_X12_init_128 ?_
  rintro v w ⟨rfl, rfl⟩
  generalize hA2 : spA B1 8 7954896756974776943 = B2
  refine z_aload_n d_X12_init_131 0 rfl ?_
  refine z_bipush (v := nI 16) d_X12_init_132 (by decide) ?_
  refine z_ldc2 d_X12_init_134 w_0997 ?_
  refine z_callV 0 c_X12_59 rfl rfl (t_sp G b I1 B2 J1 0 16 8319028301984309293 (by decide)) rfl rfl (Nat.le_of_ble_eq_true rfl) rfl d_X12_init_137 ?_
  rintro v w ⟨rfl, rfl⟩
  generalize hA3 : spA B2 16 8319028301984309293 = B3
  refine z_aload_n d_X12_init_140 0 rfl ?_
  refine z_bipush (v := nI 24) d_X12_init_141 (by decide) ?_
  refine z_ldc2 d_X12_init_143 w_0998 ?_
  refine z_callV 0 c_X12_59 rfl rfl (t_sp G b I1 B3 J1 0 24 2339936919715340651 (by decide)) rfl rfl (Nat.le_of_ble_eq_true rfl) rfl d_X12_init_146 ?_
  rintro v w ⟨rfl, rfl⟩
  generalize hA4 : spA B3 24 2339936919715340651 = B4
  refine z_aload_n d_X12_init_149 0 rfl ?_
  refine z_bipush (v := nI 32) d_X12_init_150 (by decide) ?_
  refine z_ldc2 d_X12_init_152 w_0999 ?_
  refine z_callV 0 c_X12_59 rfl rfl (t_sp G b I1 B4 J1 0 32 7286880410626193696 (by decide)) rfl rfl (Nat.le_of_ble_eq_true rfl) rfl d_X12_init_155 ?_
  rintro v w ⟨rfl, rfl⟩
  generalize hA5 : spA B4 32 7286880410626193696 = B5
  refine z_aload_n d_X12_init_158 0 rfl ?_
  refine z_bipush (v := nI 40) d_X12_init_159 (by decide) ?_
  refine z_ldc2 d_X12_init_161 w_1000 ?_
  refine z_callV 0 c_X12_59 rfl rfl (t_sp G b I1 B5 J1 0 40 7020658958593440800 (by decide)) rfl rfl (Nat.le_of_ble_eq_true rfl) rfl d_X12_init_164 ?_
  rintro v w ⟨rfl, rfl⟩
  generalize hA6 : spA B5 40 7020658958593440800 = B6
  refine z_aload_n d_X12_init_167 0 rfl ?_
  refine z_bipush (v := nI 48) d_X12_init_168 (by decide) ?_
  refine z_ldc2 d_X12_init_170 w_1001 ?_
  refine z_callV 0 c_X12_59 rfl rfl (t_sp G b I1 B6 J1 0 48 8655983492970061856 (by decide)) rfl rfl (Nat.le_of_ble_eq_true rfl) rfl d_X12_init_173 ?_
  rintro v w ⟨rfl, rfl⟩
  generalize hA7 : spA B6 48 8655983492970061856 = B7
  refine z_aload_n d_X12_init_176 0 rfl ?_
  refine z_get (v := .ref (b 2)) 0 f_X12_17_12 rfl rfl d_X12_init_177 ?_
  refine z_iconst (v := 0) d_X12_init_180 (by decide) ?_
  refine z_bipush (v := 56) d_X12_init_181 (by decide) ?_
  refine z_iastN 2 0 (MW G b I1 (vf_upd B7 2 (upd (B7 2) 0 56)) J1 0) rfl rfl (by decide) (mw_2 G b I1 B7 J1 0 _) d_X12_init_183 ?_
  refine z_aload_n d_X12_init_184 0 rfl ?_
  refine z_iconst (v := 1) d_X12_init_185 (by decide) ?_
  refine z_put 0 (MW G b (upd I1 3 1) (vf_upd B7 2 (upd (B7 2) 0 56)) J1 0) p_X12_75_12 rfl rfl rfl (Nat.le_of_ble_eq_true rfl) (mw_3 G b I1 _ J1 0 _) d_X12_init_186 ?_
  have e1 : upd I1 3 1 = I0 := by subst hI; rfl
  have e2 : vf_upd B7 2 (upd (B7 2) 0 56) = A0 := by subst hA7; subst hA6; subst hA5; subst hA4; subst hA3; subst hA2; subst hA1; subst hA0; rfl
  rw [e1, e2]
  exact z_vret _ d_X12_init_189 rfl ⟨b, _, _, rfl, hb, rfl⟩
set_option maxHeartbeats 8000000 in
set_option maxRecDepth 100000 in
theorem t_X12_init (G : GT) (a : Nat) : Ct G mX12_init 1 13 1458 [.ref a] [(a, .inr (12, [.int 0, .null, .null, .int 0, .int 0, .null, .int 0, .null, .null, .null, .null, .null, .int 0, .int 0, .int 0, .int 0, .int 0, .int 0, .int 0, .long 0, .int 0, .int 0, .int 0, .int 0, .int 0, .int 0, .int 0, .int 0, .int 0, .int 0, .null, .int 0, .int 0, .int 0, .int 0, .int 0, .null, .null, .null, .null]))] (fun v w => ∃ (b : Nat → Nat) (J : Nat → Int32) (tw : Int64), v = none ∧ b 0 = a ∧ w = MW G b I0 A0 J tw) := by
  refine Ct.intro [(0, .ref a)] (by decide) rfl (Nat.le_of_ble_eq_true rfl) ?_
  refine z_aload_n d_X12_init_0 0 rfl ?_
  refine z_objInit w_0989 rfl d_X12_init_1 ?_
  refine z_aload_n d_X12_init_4 0 rfl ?_
  refine z_sipush (v := 960) d_X12_init_5 (by decide) ?_
  refine z_newa (ty := .int) (a0 := (960, .inl (fun _ => 0))) 0 960 rfl rfl w_0126 (fun _ => rfl) rfl (by decide) rfl d_X12_init_8 (fun q1 => ?_)
  refine z_putF 0 ([(a, .inr (12, [.int 0, .ref q1, .null, .int 0, .int 0, .null, .int 0, .null, .null, .null, .null, .null, .int 0, .int 0, .int 0, .int 0, .int 0, .int 0, .int 0, .long 0, .int 0, .int 0, .int 0, .int 0, .int 0, .int 0, .int 0, .int 0, .int 0, .int 0, .null, .int 0, .int 0, .int 0, .int 0, .int 0, .null, .null, .null, .null])), (q1, .inl (G.2.1 0, 960, .inl (fun _ => 0)))]) p_X12_13_12 rfl rfl rfl rfl (Nat.le_of_ble_eq_true rfl) rfl d_X12_init_10 ?_
  refine z_aload_n d_X12_init_13 0 rfl ?_
  refine z_bipush (v := 6) d_X12_init_14 (by decide) ?_
  refine z_newa (ty := .int) (a0 := (6, .inl (fun _ => 0))) 0 6 rfl rfl w_0126 (fun _ => rfl) rfl (by decide) rfl d_X12_init_16 (fun q2 => ?_)
  refine z_putF 0 ([(a, .inr (12, [.int 0, .ref q1, .ref q2, .int 0, .int 0, .null, .int 0, .null, .null, .null, .null, .null, .int 0, .int 0, .int 0, .int 0, .int 0, .int 0, .int 0, .long 0, .int 0, .int 0, .int 0, .int 0, .int 0, .int 0, .int 0, .int 0, .int 0, .int 0, .null, .int 0, .int 0, .int 0, .int 0, .int 0, .null, .null, .null, .null])), (q1, .inl (G.2.1 0, 960, .inl (fun _ => 0))), (q2, .inl (G.2.1 0, 6, .inl (fun _ => 0)))]) p_X12_17_12 rfl rfl rfl rfl (Nat.le_of_ble_eq_true rfl) rfl d_X12_init_18 ?_
  refine z_aload_n d_X12_init_21 0 rfl ?_
  refine z_sipush (v := 160) d_X12_init_22 (by decide) ?_
  refine z_newa (ty := .int) (a0 := (160, .inl (fun _ => 0))) 0 160 rfl rfl w_0126 (fun _ => rfl) rfl (by decide) rfl d_X12_init_25 (fun q5 => ?_)
  refine z_putF 0 ([(a, .inr (12, [.int 0, .ref q1, .ref q2, .int 0, .int 0, .ref q5, .int 0, .null, .null, .null, .null, .null, .int 0, .int 0, .int 0, .int 0, .int 0, .int 0, .int 0, .long 0, .int 0, .int 0, .int 0, .int 0, .int 0, .int 0, .int 0, .int 0, .int 0, .int 0, .null, .int 0, .int 0, .int 0, .int 0, .int 0, .null, .null, .null, .null])), (q1, .inl (G.2.1 0, 960, .inl (fun _ => 0))), (q2, .inl (G.2.1 0, 6, .inl (fun _ => 0))), (q5, .inl (G.2.1 0, 160, .inl (fun _ => 0)))]) p_X12_20_12 rfl rfl rfl rfl (Nat.le_of_ble_eq_true rfl) rfl d_X12_init_27 ?_
  refine z_aload_n d_X12_init_30 0 rfl ?_
  refine z_bipush (v := 16) d_X12_init_31 (by decide) ?_
  refine z_newa (ty := .int) (a0 := (16, .inl (fun _ => 0))) 0 16 rfl rfl w_0126 (fun _ => rfl) rfl (by decide) rfl d_X12_init_33 (fun q7 => ?_)
  refine z_putF 0 ([(a, .inr (12, [.int 0, .ref q1, .ref q2, .int 0, .int 0, .ref q5, .int 0, .ref q7, .null, .null, .null, .null, .int 0, .int 0, .int 0, .int 0, .int 0, .int 0, .int 0, .long 0, .int 0, .int 0, .int 0, .int 0, .int 0, .int 0, .int 0, .int 0, .int 0, .int 0, .null, .int 0, .int 0, .int 0, .int 0, .int 0, .null, .null, .null, .null])), (q1, .inl (G.2.1 0, 960, .inl (fun _ => 0))), (q2, .inl (G.2.1 0, 6, .inl (fun _ => 0))), (q5, .inl (G.2.1 0, 160, .inl (fun _ => 0))), (q7, .inl (G.2.1 0, 16, .inl (fun _ => 0)))]) p_X12_23_12 rfl rfl rfl rfl (Nat.le_of_ble_eq_true rfl) rfl d_X12_init_35 ?_
  refine z_aload_n d_X12_init_38 0 rfl ?_
  refine z_bipush (v := 16) d_X12_init_39 (by decide) ?_
  refine z_newa (ty := .int) (a0 := (16, .inl (fun _ => 0))) 0 16 rfl rfl w_0126 (fun _ => rfl) rfl (by decide) rfl d_X12_init_41 (fun q8 => ?_)
  refine z_putF 0 ([(a, .inr (12, [.int 0, .ref q1, .ref q2, .int 0, .int 0, .ref q5, .int 0, .ref q7, .ref q8, .null, .null, .null, .int 0, .int 0, .int 0, .int 0, .int 0, .int 0, .int 0, .long 0, .int 0, .int 0, .int 0, .int 0, .int 0, .int 0, .int 0, .int 0, .int 0, .int 0, .null, .int 0, .int 0, .int 0, .int 0, .int 0, .null, .null, .null, .null])), (q1, .inl (G.2.1 0, 960, .inl (fun _ => 0))), (q2, .inl (G.2.1 0, 6, .inl (fun _ => 0))), (q5, .inl (G.2.1 0, 160, .inl (fun _ => 0))), (q7, .inl (G.2.1 0, 16, .inl (fun _ => 0))), (q8, .inl (G.2.1 0, 16, .inl (fun _ => 0)))]) p_X12_26_12 rfl rfl rfl rfl (Nat.le_of_ble_eq_true rfl) rfl d_X12_init_43 ?_
  refine z_aload_n d_X12_init_46 0 rfl ?_
  refine z_bipush (v := 16) d_X12_init_47 (by decide) ?_
  refine z_newa (ty := .int) (a0 := (16, .inl (fun _ => 0))) 0 16 rfl rfl w_0126 (fun _ => rfl) rfl (by decide) rfl d_X12_init_49 (fun q9 => ?_)
  refine z_putF 0 ([(a, .inr (12, [.int 0, .ref q1, .ref q2, .int 0, .int 0, .ref q5, .int 0, .ref q7, .ref q8, .ref q9, .null, .null, .int 0, .int 0, .int 0, .int 0, .int 0, .int 0, .int 0, .long 0, .int 0, .int 0, .int 0, .int 0, .int 0, .int 0, .int 0, .int 0, .int 0, .int 0, .null, .int 0, .int 0, .int 0, .int 0, .int 0, .null, .null, .null, .null])), (q1, .inl (G.2.1 0, 960, .inl (fun _ => 0))), (q2, .inl (G.2.1 0, 6, .inl (fun _ => 0))), (q5, .inl (G.2.1 0, 160, .inl (fun _ => 0))), (q7, .inl (G.2.1 0, 16, .inl (fun _ => 0))), (q8, .inl (G.2.1 0, 16, .inl (fun _ => 0))), (q9, .inl (G.2.1 0, 16, .inl (fun _ => 0)))]) p_X12_29_12 rfl rfl rfl rfl (Nat.le_of_ble_eq_true rfl) rfl d_X12_init_51 ?_
  refine z_aload_n d_X12_init_54 0 rfl ?_
  refine z_bipush (v := 16) d_X12_init_55 (by decide) ?_
  refine z_newa (ty := .int) (a0 := (16, .inl (fun _ => 0))) 0 16 rfl rfl w_0126 (fun _ => rfl) rfl (by decide) rfl d_X12_init_57 (fun q10 => ?_)
  refine z_putF 0 ([(a, .inr (12, [.int 0, .ref q1, .ref q2, .int 0, .int 0, .ref q5, .int 0, .ref q7, .ref q8, .ref q9, .ref q10, .null, .int 0, .int 0, .int 0, .int 0, .int 0, .int 0, .int 0, .long 0, .int 0, .int 0, .int 0, .int 0, .int 0, .int 0, .int 0, .int 0, .int 0, .int 0, .null, .int 0, .int 0, .int 0, .int 0, .int 0, .null, .null, .null, .null])), (q1, .inl (G.2.1 0, 960, .inl (fun _ => 0))), (q2, .inl (G.2.1 0, 6, .inl (fun _ => 0))), (q5, .inl (G.2.1 0, 160, .inl (fun _ => 0))), (q7, .inl (G.2.1 0, 16, .inl (fun _ => 0))), (q8, .inl (G.2.1 0, 16, .inl (fun _ => 0))), (q9, .inl (G.2.1 0, 16, .inl (fun _ => 0))), (q10, .inl (G.2.1 0, 16, .inl (fun _ => 0)))]) p_X12_32_12 rfl rfl rfl rfl (Nat.le_of_ble_eq_true rfl) rfl d_X12_init_59 ?_
  refine z_aload_n d_X12_init_62 0 rfl ?_
  refine z_bipush (v := 16) d_X12_init_63 (by decide) ?_
  refine z_newa (ty := .int) (a0 := (16, .inl (fun _ => 0))) 0 16 rfl rfl w_0126 (fun _ => rfl) rfl (by decide) rfl d_X12_init_65 (fun q11 => ?_)
  refine z_putF 0 ([(a, .inr (12, [.int 0, .ref q1, .ref q2, .int 0, .int 0, .ref q5, .int 0, .ref q7, .ref q8, .ref q9, .ref q10, .ref q11, .int 0, .int 0, .int 0, .int 0, .int 0, .int 0, .int 0, .long 0, .int 0, .int 0, .int 0, .int 0, .int 0, .int 0, .int 0, .int 0, .int 0, .int 0, .null, .int 0, .int 0, .int 0, .int 0, .int 0, .null, .null, .null, .null])), (q1, .inl (G.2.1 0, 960, .inl (fun _ => 0))), (q2, .inl (G.2.1 0, 6, .inl (fun _ => 0))), (q5, .inl (G.2.1 0, 160, .inl (fun _ => 0))), (q7, .inl (G.2.1 0, 16, .inl (fun _ => 0))), (q8, .inl (G.2.1 0, 16, .inl (fun _ => 0))), (q9, .inl (G.2.1 0, 16, .inl (fun _ => 0))), (q10, .inl (G.2.1 0, 16, .inl (fun _ => 0))), (q11, .inl (G.2.1 0, 16, .inl (fun _ => 0)))]) p_X12_35_12 rfl rfl rfl rfl (Nat.le_of_ble_eq_true rfl) rfl d_X12_init_67 ?_
  refine z_aload_n d_X12_init_70 0 rfl ?_
  refine z_bipush (v := 48) d_X12_init_71 (by decide) ?_
  refine z_put 0 ([(a, .inr (12, [.int 0, .ref q1, .ref q2, .int 0, .int 0, .ref q5, .int 0, .ref q7, .ref q8, .ref q9, .ref q10, .ref q11, .int 0, .int 0, .int 48, .int 0, .int 0, .int 0, .int 0, .long 0, .int 0, .int 0, .int 0, .int 0, .int 0, .int 0, .int 0, .int 0, .int 0, .int 0, .null, .int 0, .int 0, .int 0, .int 0, .int 0, .null, .null, .null, .null])), (q1, .inl (G.2.1 0, 960, .inl (fun _ => 0))), (q2, .inl (G.2.1 0, 6, .inl (fun _ => 0))), (q5, .inl (G.2.1 0, 160, .inl (fun _ => 0))), (q7, .inl (G.2.1 0, 16, .inl (fun _ => 0))), (q8, .inl (G.2.1 0, 16, .inl (fun _ => 0))), (q9, .inl (G.2.1 0, 16, .inl (fun _ => 0))), (q10, .inl (G.2.1 0, 16, .inl (fun _ => 0))), (q11, .inl (G.2.1 0, 16, .inl (fun _ => 0)))]) p_X12_38_12 rfl rfl rfl (Nat.le_of_ble_eq_true rfl) rfl d_X12_init_73 ?_
  refine z_aload_n d_X12_init_76 0 rfl ?_
  refine z_bipush (v := 80) d_X12_init_77 (by decide) ?_
  refine z_newa (ty := .int) (a0 := (80, .inl (fun _ => 0))) 0 80 rfl rfl w_0126 (fun _ => rfl) rfl (by decide) rfl d_X12_init_79 (fun q30 => ?_)
  refine z_putF 0 ([(a, .inr (12, [.int 0, .ref q1, .ref q2, .int 0, .int 0, .ref q5, .int 0, .ref q7, .ref q8, .ref q9, .ref q10, .ref q11, .int 0, .int 0, .int 48, .int 0, .int 0, .int 0, .int 0, .long 0, .int 0, .int 0, .int 0, .int 0, .int 0, .int 0, .int 0, .int 0, .int 0, .int 0, .ref q30, .int 0, .int 0, .int 0, .int 0, .int 0, .null, .null, .null, .null])), (q1, .inl (G.2.1 0, 960, .inl (fun _ => 0))), (q2, .inl (G.2.1 0, 6, .inl (fun _ => 0))), (q5, .inl (G.2.1 0, 160, .inl (fun _ => 0))), (q7, .inl (G.2.1 0, 16, .inl (fun _ => 0))), (q8, .inl (G.2.1 0, 16, .inl (fun _ => 0))), (q9, .inl (G.2.1 0, 16, .inl (fun _ => 0))), (q10, .inl (G.2.1 0, 16, .inl (fun _ => 0))), (q11, .inl (G.2.1 0, 16, .inl (fun _ => 0))), (q30, .inl (G.2.1 0, 80, .inl (fun _ => 0)))]) p_X12_41_12 rfl rfl rfl rfl (Nat.le_of_ble_eq_true rfl) rfl d_X12_init_81 ?_
  refine z_aload_n d_X12_init_84 0 rfl ?_
  refine z_iconst (v := 4) d_X12_init_85 (by decide) ?_
  refine z_newa (ty := .boolean) (a0 := (4, .inl (fun _ => 0))) 2 4 rfl rfl w_1122 (fun _ => rfl) rfl (by decide) rfl d_X12_init_86 (fun q36 => ?_)
  refine z_putF 0 ([(a, .inr (12, [.int 0, .ref q1, .ref q2, .int 0, .int 0, .ref q5, .int 0, .ref q7, .ref q8, .ref q9, .ref q10, .ref q11, .int 0, .int 0, .int 48, .int 0, .int 0, .int 0, .int 0, .long 0, .int 0, .int 0, .int 0, .int 0, .int 0, .int 0, .int 0, .int 0, .int 0, .int 0, .ref q30, .int 0, .int 0, .int 0, .int 0, .int 0, .ref q36, .null, .null, .null])), (q1, .inl (G.2.1 0, 960, .inl (fun _ => 0))), (q2, .inl (G.2.1 0, 6, .inl (fun _ => 0))), (q5, .inl (G.2.1 0, 160, .inl (fun _ => 0))), (q7, .inl (G.2.1 0, 16, .inl (fun _ => 0))), (q8, .inl (G.2.1 0, 16, .inl (fun _ => 0))), (q9, .inl (G.2.1 0, 16, .inl (fun _ => 0))), (q10, .inl (G.2.1 0, 16, .inl (fun _ => 0))), (q11, .inl (G.2.1 0, 16, .inl (fun _ => 0))), (q30, .inl (G.2.1 0, 80, .inl (fun _ => 0))), (q36, .inl (G.2.1 2, 4, .inl (fun _ => 0)))]) p_X12_44_12 rfl rfl rfl rfl (Nat.le_of_ble_eq_true rfl) rfl d_X12_init_88 ?_
  refine z_aload_n d_X12_init_91 0 rfl ?_
  refine z_iconst (v := 4) d_X12_init_92 (by decide) ?_
  refine z_newa (ty := .int) (a0 := (4, .inl (fun _ => 0))) 0 4 rfl rfl w_0126 (fun _ => rfl) rfl (by decide) rfl d_X12_init_93 (fun q37 => ?_)
  refine z_putF 0 ([(a, .inr (12, [.int 0, .ref q1, .ref q2, .int 0, .int 0, .ref q5, .int 0, .ref q7, .ref q8, .ref q9, .ref q10, .ref q11, .int 0, .int 0, .int 48, .int 0, .int 0, .int 0, .int 0, .long 0, .int 0, .int 0, .int 0, .int 0, .int 0, .int 0, .int 0, .int 0, .int 0, .int 0, .ref q30, .int 0, .int 0, .int 0, .int 0, .int 0, .ref q36, .ref q37, .null, .null])), (q1, .inl (G.2.1 0, 960, .inl (fun _ => 0))), (q2, .inl (G.2.1 0, 6, .inl (fun _ => 0))), (q5, .inl (G.2.1 0, 160, .inl (fun _ => 0))), (q7, .inl (G.2.1 0, 16, .inl (fun _ => 0))), (q8, .inl (G.2.1 0, 16, .inl (fun _ => 0))), (q9, .inl (G.2.1 0, 16, .inl (fun _ => 0))), (q10, .inl (G.2.1 0, 16, .inl (fun _ => 0))), (q11, .inl (G.2.1 0, 16, .inl (fun _ => 0))), (q30, .inl (G.2.1 0, 80, .inl (fun _ => 0))), (q36, .inl (G.2.1 2, 4, .inl (fun _ => 0))), (q37, .inl (G.2.1 0, 4, .inl (fun _ => 0)))]) p_X12_48_12 rfl rfl rfl rfl (Nat.le_of_ble_eq_true rfl) rfl d_X12_init_95 ?_
  refine z_aload_n d_X12_init_98 0 rfl ?_
  refine z_iconst (v := 4) d_X12_init_99 (by decide) ?_
  refine z_newa (ty := .int) (a0 := (4, .inl (fun _ => 0))) 0 4 rfl rfl w_0126 (fun _ => rfl) rfl (by decide) rfl d_X12_init_100 (fun q38 => ?_)
  refine z_putF 0 ([(a, .inr (12, [.int 0, .ref q1, .ref q2, .int 0, .int 0, .ref q5, .int 0, .ref q7, .ref q8, .ref q9, .ref q10, .ref q11, .int 0, .int 0, .int 48, .int 0, .int 0, .int 0, .int 0, .long 0, .int 0, .int 0, .int 0, .int 0, .int 0, .int 0, .int 0, .int 0, .int 0, .int 0, .ref q30, .int 0, .int 0, .int 0, .int 0, .int 0, .ref q36, .ref q37, .ref q38, .null])), (q1, .inl (G.2.1 0, 960, .inl (fun _ => 0))), (q2, .inl (G.2.1 0, 6, .inl (fun _ => 0))), (q5, .inl (G.2.1 0, 160, .inl (fun _ => 0))), (q7, .inl (G.2.1 0, 16, .inl (fun _ => 0))), (q8, .inl (G.2.1 0, 16, .inl (fun _ => 0))), (q9, .inl (G.2.1 0, 16, .inl (fun _ => 0))), (q10, .inl (G.2.1 0, 16, .inl (fun _ => 0))), (q11, .inl (G.2.1 0, 16, .inl (fun _ => 0))), (q30, .inl (G.2.1 0, 80, .inl (fun _ => 0))), (q36, .inl (G.2.1 2, 4, .inl (fun _ => 0))), (q37, .inl (G.2.1 0, 4, .inl (fun _ => 0))), (q38, .inl (G.2.1 0, 4, .inl (fun _ => 0)))]) p_X12_51_12 rfl rfl rfl rfl (Nat.le_of_ble_eq_true rfl) rfl d_X12_init_102 ?_
  refine z_aload_n d_X12_init_105 0 rfl ?_
  refine z_sipush (v := 160) d_X12_init_106 (by decide) ?_
  refine z_newa (ty := .int) (a0 := (160, .inl (fun _ => 0))) 0 160 rfl rfl w_0126 (fun _ => rfl) rfl (by decide) rfl d_X12_init_109 (fun q39 => ?_)
  refine z_putF 0 ([(a, .inr (12, [.int 0, .ref q1, .ref q2, .int 0, .int 0, .ref q5, .int 0, .ref q7, .ref q8, .ref q9, .ref q10, .ref q11, .int 0, .int 0, .int 48, .int 0, .int 0, .int 0, .int 0, .long 0, .int 0, .int 0, .int 0, .int 0, .int 0, .int 0, .int 0, .int 0, .int 0, .int 0, .ref q30, .int 0, .int 0, .int 0, .int 0, .int 0, .ref q36, .ref q37, .ref q38, .ref q39])), (q1, .inl (G.2.1 0, 960, .inl (fun _ => 0))), (q2, .inl (G.2.1 0, 6, .inl (fun _ => 0))), (q5, .inl (G.2.1 0, 160, .inl (fun _ => 0))), (q7, .inl (G.2.1 0, 16, .inl (fun _ => 0))), (q8, .inl (G.2.1 0, 16, .inl (fun _ => 0))), (q9, .inl (G.2.1 0, 16, .inl (fun _ => 0))), (q10, .inl (G.2.1 0, 16, .inl (fun _ => 0))), (q11, .inl (G.2.1 0, 16, .inl (fun _ => 0))), (q30, .inl (G.2.1 0, 80, .inl (fun _ => 0))), (q36, .inl (G.2.1 2, 4, .inl (fun _ => 0))), (q37, .inl (G.2.1 0, 4, .inl (fun _ => 0))), (q38, .inl (G.2.1 0, 4, .inl (fun _ => 0))), (q39, .inl (G.2.1 0, 160, .inl (fun _ => 0)))]) p_X12_54_12 rfl rfl rfl rfl (Nat.le_of_ble_eq_true rfl) rfl d_X12_init_111 ?_
  exact s_X12_init G (xL [a, q1, q2, 0, 0, q5, 0, q7, q8, q9, q10, q11, 0, 0, 0, 0, 0, 0, 0, 0, 0, 0, 0, 0, 0, 0, 0, 0, 0, 0, q30, 0, 0, 0, 0, 0, q36, q37, q38, q39]) a rfl
def cd0 : CD := ([3], [-3, 2, -14, -2, -13], [3, -2, -10, 4, -1, -10, -8])
def fB : List Int32 := [114, 117, 98, 32, 51, 32, 59, 32, 110, 101, 120, 116, 32, 99, 114, 111, 115, 115, 32, 42, 32, 50, 32, 45, 32, 121, 32, 59, 32, 116, 97, 107, 101, 32, 51, 32, 60, 32, 121, 32, 97, 110, 100, 32, 52, 32, 60, 32, 120, 32, 59, 32, 32, 32, 32, 32]
section
variable {B : Nat → Int32} {n : Nat}
theorem g_one {o p q : Nat} {v : Int32} (h : tkL B n p = 2 ∨ tkL B n p = 3) (hn : nxL B n p = q) (hv : vlL B n p = v) : oneP B n o p = .inr ([v], q) := by
  subst hn; subst hv
  cases o with
  | zero => rw [oneP_0]; unfold onP; rw [if_pos h]
  | succ o => rw [oneP_s]; unfold onP; rw [if_pos h]
theorem g_lp {op : Int32 → Int32} {sub : Nat → PR} {q : Nat} {c : List Int32} (h : op (tkL B n q) = 0) (f : Nat) : lpS B n op sub f c q = .inr (c, q) := by
  cases f with
  | zero => rfl
  | succ f => unfold lpS; rw [if_pos h]
theorem g_th1 {op : Int32 → Int32} {sub : Nat → PR} {p q : Nat} {c : List Int32} (h1 : sub p = .inr (c, q)) (h : op (tkL B n q) = 0) : thL B n sub op p = .inr (c, q) := by
  unfold thL; rw [h1]; exact g_lp h _
theorem g_th2 {op : Int32 → Int32} {sub : Nat → PR} {p q q1 q2 : Nat} {c c2 : List Int32} {s : Int32} (h1 : sub p = .inr (c, q)) (hs : op (tkL B n q) = s) (h0 : ¬ s = 0) (hx : nxL B n q = q1) (h2 : sub q1 = .inr (c2, q2)) (h : op (tkL B n q2) = 0) : thL B n sub op p = .inr (c ++ c2 ++ [s], q2) := by
  unfold thL; rw [h1]
  show lpS B n op sub (n + 1) c q = _
  unfold lpS
  rw [hs, if_neg h0, hx, h2]
  exact g_lp h _
theorem g_cm1 {su : Nat → PR} {p q : Nat} {c : List Int32} (h1 : su p = .inr (c, q)) (h : opC (tkL B n q) = 0) : cmP B n su p = .inr (c, q) := by
  unfold cmP; rw [h1]; show (if _ then _ else _) = _; rw [if_pos h]
theorem g_cm2 {su : Nat → PR} {p q q1 q2 : Nat} {c c2 : List Int32} {s : Int32} (h1 : su p = .inr (c, q)) (hs : opC (tkL B n q) = s) (h0 : ¬ s = 0) (hx : nxL B n q = q1) (h2 : su q1 = .inr (c2, q2)) : cmP B n su p = .inr (c ++ c2 ++ [s], q2) := by
  unfold cmP; rw [h1]; show (if _ then _ else _) = _; rw [hs, if_neg h0, hx, h2]
theorem g_dn {o p : Nat} {r : PR} (h9 : ¬ tkL B n p = 9) (h : cmP B n (sumP B n (o + 1)) p = r) : denP B n (o + 1) p = r := by
  rw [denP_s]; unfold dnP; rw [if_neg (fun hh => h9 hh.1)]; exact h
theorem g_par {k : Int32} {p p1 q q1 : Nat} {c : List Int32} (hk : tkL B n p = k) (hp : nxL B n p = p1) (he : eitP B n 5 p1 = .inr (c, q)) (h : tkL B n q = 59) (hq : nxL B n q = q1) : parP B n k p = .inr (c, q1) := by
  unfold parP; rw [if_pos hk, hp, he]; show (if _ then _ else _) = _; rw [if_pos h, hq]
/-- the first text: out of its tokens its code -/
theorem g_tx (t0 : tkL B n 0 = 4 ∧ nxL B n 0 = 3) (t3 : tkL B n 3 = 2 ∧ nxL B n 3 = 5 ∧ vlL B n 3 = 3) (t5 : tkL B n 5 = 59 ∧ nxL B n 5 = 7) (t7 : tkL B n 7 = 5 ∧ nxL B n 7 = 12) (t12 : tkL B n 12 = 3 ∧ nxL B n 12 = 18 ∧ vlL B n 12 = -3) (t18 : tkL B n 18 = 42 ∧ nxL B n 18 = 20) (t20 : tkL B n 20 = 2 ∧ nxL B n 20 = 22 ∧ vlL B n 20 = 2) (t22 : tkL B n 22 = 45 ∧ nxL B n 22 = 24) (t24 : tkL B n 24 = 3 ∧ nxL B n 24 = 26 ∧ vlL B n 24 = -2) (t26 : tkL B n 26 = 59 ∧ nxL B n 26 = 28) (t28 : tkL B n 28 = 6 ∧ nxL B n 28 = 33) (t33 : tkL B n 33 = 2 ∧ nxL B n 33 = 35 ∧ vlL B n 33 = 3) (t35 : tkL B n 35 = 60 ∧ nxL B n 35 = 37) (t37 : tkL B n 37 = 3 ∧ nxL B n 37 = 39 ∧ vlL B n 37 = -2) (t39 : tkL B n 39 = 8 ∧ nxL B n 39 = 43) (t43 : tkL B n 43 = 2 ∧ nxL B n 43 = 45 ∧ vlL B n 43 = 4) (t45 : tkL B n 45 = 60 ∧ nxL B n 45 = 47) (t47 : tkL B n 47 = 3 ∧ nxL B n 47 = 49 ∧ vlL B n 47 = -1) (t49 : tkL B n 49 = 59 ∧ nxL B n 49 = 51) (t51 : tkL B n 51 = 0) : txP B n = .inr cd0 := by
  obtain ⟨k0, x0⟩ := t0
  obtain ⟨k3, x3, v3⟩ := t3
  obtain ⟨k5, x5⟩ := t5
  obtain ⟨k7, x7⟩ := t7
  obtain ⟨k12, x12, v12⟩ := t12
  obtain ⟨k18, x18⟩ := t18
  obtain ⟨k20, x20, v20⟩ := t20
  obtain ⟨k22, x22⟩ := t22
  obtain ⟨k24, x24, v24⟩ := t24
  obtain ⟨k26, x26⟩ := t26
  obtain ⟨k28, x28⟩ := t28
  obtain ⟨k33, x33, v33⟩ := t33
  obtain ⟨k35, x35⟩ := t35
  obtain ⟨k37, x37, v37⟩ := t37
  obtain ⟨k39, x39⟩ := t39
  obtain ⟨k43, x43, v43⟩ := t43
  obtain ⟨k45, x45⟩ := t45
  obtain ⟨k47, x47, v47⟩ := t47
  obtain ⟨k49, x49⟩ := t49
  have k51 := t51
  have s1 : ∀ {o p q : Nat} {v : Int32}, (tkL B n p = 2 ∨ tkL B n p = 3) → nxL B n p = q → vlL B n p = v → opT (tkL B n q) = 0 → terP B n o p = .inr ([v], q) := fun h1 h2 h3 h4 => g_th1 (g_one h1 h2 h3) h4
  have s2 : ∀ {o p q : Nat} {v : Int32}, (tkL B n p = 2 ∨ tkL B n p = 3) → nxL B n p = q → vlL B n p = v → opT (tkL B n q) = 0 → opA (tkL B n q) = 0 → sumP B n o p = .inr ([v], q) := fun h1 h2 h3 h4 h5 => g_th1 (s1 h1 h2 h3 h4) h5
  have e0 : parP B n 4 0 = .inr ([3], 7) := by
    refine g_par k0 x0 ?_ k5 x5
    rw [eitP_eq]
    exact g_th1 (g_th1 (g_dn (by rw [k3]; decide) (g_cm1 (s2 (Or.inl k3) x3 v3 (by rw [k5]; decide) (by rw [k5]; decide)) (by rw [k5]; decide))) (by rw [k5]; decide)) (by rw [k5]; decide)
  have e1 : parP B n 5 7 = .inr ([-3, 2, -14, -2, -13], 28) := by
    refine g_par k7 x7 ?_ k26 x26
    rw [eitP_eq]
    have a1 : terP B n 5 12 = .inr ([-3, 2, -14], 22) := g_th2 (g_one (Or.inr k12) x12 v12) (show opT (tkL B n 18) = -14 by rw [k18]; decide) (by decide) x18 (g_one (Or.inl k20) x20 v20) (by rw [k22]; decide)
    have a2 : sumP B n 5 12 = .inr ([-3, 2, -14, -2, -13], 26) := g_th2 a1 (show opA (tkL B n 22) = -13 by rw [k22]; decide) (by decide) x22 (s1 (Or.inr k24) x24 v24 (by rw [k26]; decide)) (by rw [k26]; decide)
    exact g_th1 (g_th1 (g_dn (by rw [k12]; decide) (g_cm1 a2 (by rw [k26]; decide))) (by rw [k26]; decide)) (by rw [k26]; decide)
  have e2 : parP B n 6 28 = .inr ([3, -2, -10, 4, -1, -10, -8], 51) := by
    refine g_par k28 x28 ?_ k49 x49
    rw [eitP_eq]
    have a1 : denP B n 5 33 = .inr ([3, -2, -10], 39) := g_dn (by rw [k33]; decide) (g_cm2 (s2 (Or.inl k33) x33 v33 (by rw [k35]; decide) (by rw [k35]; decide)) (show opC (tkL B n 35) = -10 by rw [k35]; decide) (by decide) x35 (s2 (Or.inr k37) x37 v37 (by rw [k39]; decide) (by rw [k39]; decide)))
    have a2 : denP B n 5 43 = .inr ([4, -1, -10], 49) := g_dn (by rw [k43]; decide) (g_cm2 (s2 (Or.inl k43) x43 v43 (by rw [k45]; decide) (by rw [k45]; decide)) (show opC (tkL B n 45) = -10 by rw [k45]; decide) (by decide) x45 (s2 (Or.inr k47) x47 v47 (by rw [k49]; decide) (by rw [k49]; decide)))
    exact g_th1 (g_th2 a1 (show opN (tkL B n 39) = -8 by rw [k39]; decide) (by decide) x39 a2 (by rw [k49]; decide)) (by rw [k49]; decide)
  unfold txP
  rw [e0]
  show (match parP B n 5 7 with | .inl z => _ | .inr (c1, q1) => _) = _
  rw [e1]
  show (match parP B n 6 28 with | .inl z => _ | .inr (c1, q1) => _) = _
  rw [e2]
  show (if tkL B n 51 = 0 then _ else _) = _
  rw [if_pos k51]; rfl
end
theorem f_txt : txP (chS 0) 51 = .inr cd0 := g_tx (by decide +kernel) (by decide +kernel) (by decide +kernel) (by decide +kernel) (by decide +kernel) (by decide +kernel) (by decide +kernel) (by decide +kernel) (by decide +kernel) (by decide +kernel) (by decide +kernel) (by decide +kernel) (by decide +kernel) (by decide +kernel) (by decide +kernel) (by decide +kernel) (by decide +kernel) (by decide +kernel) (by decide +kernel) (by decide +kernel)
theorem f_txm : txP (fun i => fB.getD i 0) 56 = .inr cd0 := g_tx (by decide +kernel) (by decide +kernel) (by decide +kernel) (by decide +kernel) (by decide +kernel) (by decide +kernel) (by decide +kernel) (by decide +kernel) (by decide +kernel) (by decide +kernel) (by decide +kernel) (by decide +kernel) (by decide +kernel) (by decide +kernel) (by decide +kernel) (by decide +kernel) (by decide +kernel) (by decide +kernel) (by decide +kernel) (by decide +kernel)
theorem f_bm : ∀ i, i < 56 → bM A0 0 i = fB.getD i 0 := by decide +kernel
theorem f_b0 : ∀ i, i < 56 → 0 ≤ (fB.getD i 0).toInt := by decide +kernel
theorem f_ok : TxOk A0 0 cd0 := ⟨by decide, 56, by decide, by decide +kernel, fun i hi => by rw [f_bm i hi]; exact f_b0 i hi, by rw [txP_c f_bm]; exact f_txm⟩
theorem f_at : ∀ c, c < 25 → (0 : Int32) = atS A0 (nI c) 0 := by decide +kernel
theorem f_bt (i : Nat) : bt 0 i = false := by simp [bt]
theorem f_by : ∀ k, k < 51 → (vp_nar .byte (chS 0 k).toInt8.toInt32 = sb (chS 0 k) ∧ 0 ≤ (chS 0 k).toInt ∧ (chS 0 k).toInt ≤ 255) := by decide +kernel
