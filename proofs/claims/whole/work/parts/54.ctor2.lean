/-! CONSTRUCTORS of class X: the reader, a net -/
theorem in_get {ws L : va_W} {u : Nat × va_E} : (ws ++ (u :: L))[ws.length]? = some u := by
  rw [List.getElem?_append_right (Nat.le_refl _), Nat.sub_self]; rfl
theorem in_set {ws L : va_W} {u v : Nat × va_E} : (ws ++ (u :: L)).set ws.length v = ws ++ (v :: L) := by
  rw [List.set_append_right _ _ (Nat.le_refl _), Nat.sub_self]; rfl
theorem in_app {ws L : va_W} {u c : Nat × va_E} : (ws ++ (u :: L)) ++ [c] = ws ++ (u :: (L ++ [c])) := by
  rw [List.append_assoc]; rfl
set_option maxHeartbeats 4000000 in
set_option maxRecDepth 100000 in
theorem t_X6_init (G : GT) (ws : va_W) (a : Nat) : Ct G mX6_init 1 3 323 [.ref a] (ws ++ [(a, .inr (6, [.int 0, .null, .int 0, .int 0, .int 0, .int 0, .int 0, .null, .int 0, .null]))]) (fun v w => ∃ q1 q2 q3 : Nat, v = none ∧ w = ws ++ [(a, .inr (6, [.int 0, .ref q1, .int 0, .int 0, .int 0, .int 0, .int 0, .ref q2, .int 0, .ref q3])), (q1, .inl (G.2.1 1, 160, .inl (fun _ => 0))), (q2, .inl (G.2.1 0, 160, .inl (fun _ => 0))), (q3, .inl (G.2.1 0, 3, .inl (fun _ => 0)))]) := by
  refine Ct.intro [(0, .ref a)] (by decide) rfl (Nat.le_of_ble_eq_true rfl) ?_
  refine z_aload_n d_X6_init_0 0 rfl ?_
  refine z_objInit w_0092 rfl d_X6_init_1 ?_
  refine z_aload_n d_X6_init_4 0 rfl ?_
  refine z_sipush (v := 160) d_X6_init_5 (by decide) ?_
  refine z_newa (ty := .byte) (a0 := (160, .inl (fun _ => 0))) 1 160 rfl rfl w_0125 (fun _ => rfl) rfl (by decide) rfl d_X6_init_8 (fun q1 => ?_)
  rw [in_app]
  refine z_putF ws.length _ p_X6_9_6 rfl in_get rfl rfl (Nat.le_of_ble_eq_true rfl) in_set d_X6_init_10 ?_
  refine z_aload_n d_X6_init_13 0 rfl ?_
  refine z_sipush (v := 160) d_X6_init_14 (by decide) ?_
  refine z_newa (ty := .int) (a0 := (160, .inl (fun _ => 0))) 0 160 rfl rfl w_0126 (fun _ => rfl) rfl (by decide) rfl d_X6_init_17 (fun q2 => ?_)
  rw [in_app]
  refine z_putF ws.length _ p_X6_15_6 rfl in_get rfl rfl (Nat.le_of_ble_eq_true rfl) in_set d_X6_init_19 ?_
  refine z_aload_n d_X6_init_22 0 rfl ?_
  refine z_iconst (v := 3) d_X6_init_23 (by decide) ?_
  refine z_newa (ty := .int) (a0 := (3, .inl (fun _ => 0))) 0 3 rfl rfl w_0126 (fun _ => rfl) rfl (by decide) rfl d_X6_init_24 (fun q3 => ?_)
  rw [in_app]
  refine z_putF ws.length _ p_X6_19_6 rfl in_get rfl rfl (Nat.le_of_ble_eq_true rfl) in_set d_X6_init_26 ?_
  exact z_vret _ d_X6_init_29 rfl ⟨q1, q2, q3, rfl, rfl⟩
set_option maxHeartbeats 4000000 in
set_option maxRecDepth 100000 in
theorem t_X4_init (G : GT) (ws : va_W) (a b : Nat) : Ct G mX4_init 2 7 241 [.ref a, .ref b] (ws ++ [(a, .inr (4, [.null, .null, .null, .null, .int 0, .int 0, .int 0, .null, .null, .null, .null]))]) (fun v w => ∃ q1 q2 q3 q4 q5 q6 q7 : Nat, v = none ∧ w = ws ++ [(a, .inr (4, [.ref q1, .ref q2, .ref q3, .ref q4, .int 0, .int 0, .int 48, .ref b, .ref q5, .ref q6, .ref q7])), (q1, .inl (G.2.1 3, 16, .inr (.inr (.inr (.inr (fun _ => none)))))), (q2, .inl (G.2.1 0, 16, .inl (fun _ => 0))), (q3, .inl (G.2.1 0, 16, .inl (fun _ => 0))), (q4, .inl (G.2.1 0, 25, .inl (fun _ => 0))), (q5, .inl (G.2.1 0, 6, .inl (fun _ => 0))), (q6, .inl (G.2.1 0, 160, .inl (fun _ => 0))), (q7, .inr (0, [.int (-1), .int 0]))]) := by
  refine Ct.intro [(0, .ref a), (1, .ref b)] (by decide) rfl (Nat.le_of_ble_eq_true rfl) ?_
  refine z_aload_n d_X4_init_0 0 rfl ?_
  refine z_objInit w_0377 rfl d_X4_init_1 ?_
  refine z_aload_n d_X4_init_4 0 rfl ?_
  refine z_bipush (v := 16) d_X4_init_5 (by decide) ?_
  refine z_newq (C0 := RX10) 3 16 rfl (List.mem_cons_self ..) w_0378 rfl (by decide) rfl d_X4_init_7 (fun q1 => ?_)
  rw [in_app]
  refine z_putF ws.length _ p_X4_11_4 rfl in_get rfl rfl (Nat.le_of_ble_eq_true rfl) in_set d_X4_init_10 ?_
  refine z_aload_n d_X4_init_13 0 rfl ?_
  refine z_bipush (v := 16) d_X4_init_14 (by decide) ?_
  refine z_newa (ty := .int) (a0 := (16, .inl (fun _ => 0))) 0 16 rfl rfl w_0126 (fun _ => rfl) rfl (by decide) rfl d_X4_init_16 (fun q2 => ?_)
  rw [in_app]
  refine z_putF ws.length _ p_X4_17_4 rfl in_get rfl rfl (Nat.le_of_ble_eq_true rfl) in_set d_X4_init_18 ?_
  refine z_aload_n d_X4_init_21 0 rfl ?_
  refine z_bipush (v := 16) d_X4_init_22 (by decide) ?_
  refine z_newa (ty := .int) (a0 := (16, .inl (fun _ => 0))) 0 16 rfl rfl w_0126 (fun _ => rfl) rfl (by decide) rfl d_X4_init_24 (fun q3 => ?_)
  rw [in_app]
  refine z_putF ws.length _ p_X4_21_4 rfl in_get rfl rfl (Nat.le_of_ble_eq_true rfl) in_set d_X4_init_26 ?_
  refine z_aload_n d_X4_init_29 0 rfl ?_
  refine z_bipush (v := 25) d_X4_init_30 (by decide) ?_
  refine z_newa (ty := .int) (a0 := (25, .inl (fun _ => 0))) 0 25 rfl rfl w_0126 (fun _ => rfl) rfl (by decide) rfl d_X4_init_32 (fun q4 => ?_)
  rw [in_app]
  refine z_putF ws.length _ p_X4_24_4 rfl in_get rfl rfl (Nat.le_of_ble_eq_true rfl) in_set d_X4_init_34 ?_
  refine z_aload_n d_X4_init_37 0 rfl ?_
  refine z_bipush (v := 48) d_X4_init_38 (by decide) ?_
  refine z_put ws.length _ p_X4_27_4 in_get rfl rfl (Nat.le_of_ble_eq_true rfl) in_set d_X4_init_40 ?_
  refine z_aload_n d_X4_init_43 0 rfl ?_
  refine z_bipush (v := 6) d_X4_init_44 (by decide) ?_
  refine z_newa (ty := .int) (a0 := (6, .inl (fun _ => 0))) 0 6 rfl rfl w_0126 (fun _ => rfl) rfl (by decide) rfl d_X4_init_46 (fun q5 => ?_)
  rw [in_app]
  refine z_putF ws.length _ p_X4_31_4 rfl in_get rfl rfl (Nat.le_of_ble_eq_true rfl) in_set d_X4_init_48 ?_
  refine z_aload_n d_X4_init_51 0 rfl ?_
  refine z_sipush (v := 160) d_X4_init_52 (by decide) ?_
  refine z_newa (ty := .int) (a0 := (160, .inl (fun _ => 0))) 0 160 rfl rfl w_0126 (fun _ => rfl) rfl (by decide) rfl d_X4_init_55 (fun q6 => ?_)
  rw [in_app]
  refine z_putF ws.length _ p_X4_34_4 rfl in_get rfl rfl (Nat.le_of_ble_eq_true rfl) in_set d_X4_init_57 ?_
  refine z_aload_n d_X4_init_60 0 rfl ?_
  refine z_new (C0 := RX0) (T1 := TX0) (N := 2) (ci := 0) (fs := [.int 0, .int 0]) tyX0 rfl u_X0 tyX0_ok w_0380 w_0381 w_0069 (by decide +kernel) rfl d_X4_init_61 (fun q7 => ?_)
  refine z_dup d_X4_init_64 rfl ?_
  refine z_callI c_X4_39 (t_X0_init G _ _ q7 (.int 0) (.int 0) get_last) rfl rfl (Nat.le_of_ble_eq_true rfl) rfl d_X4_init_65 ?_
  rintro v w ⟨rfl, rfl⟩
  rw [set_last, in_app]
  refine z_putF ws.length _ p_X4_40_4 rfl in_get rfl rfl (Nat.le_of_ble_eq_true rfl) in_set d_X4_init_68 ?_
  refine z_aload_n d_X4_init_71 0 rfl ?_
  refine z_aload_n d_X4_init_72 1 rfl ?_
  refine z_put ws.length _ p_X4_44_4 in_get rfl rfl (Nat.le_of_ble_eq_true rfl) in_set d_X4_init_73 ?_
  exact z_vret _ d_X4_init_76 rfl ⟨q1, q2, q3, q4, q5, q6, q7, rfl, rfl⟩
