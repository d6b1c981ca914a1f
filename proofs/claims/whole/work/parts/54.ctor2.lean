/-! CONSTRUCTORS of class X: the reader, a net -/
theorem in_get {ws L : va_W} {u : Nat × va_E} : (ws ++ (u :: L))[ws.length]? = some u := by
  rw [List.getElem?_append_right (Nat.le_refl _), Nat.sub_self]; rfl
theorem in_set {ws L : va_W} {u v : Nat × va_E} : (ws ++ (u :: L)).set ws.length v = ws ++ (v :: L) := by
  rw [List.set_append_right _ _ (Nat.le_refl _), Nat.sub_self]; rfl
theorem in_app {ws L : va_W} {u c : Nat × va_E} : (ws ++ (u :: L)) ++ [c] = ws ++ (u :: (L ++ [c])) := by
  rw [List.append_assoc]; rfl
set_option maxHeartbeats 4000000 in
set_option maxRecDepth 100000 in
theorem t_X6_init (G : GT) (ws : va_W) (a : Nat) : Ct G mX6_init 1 3 323 [.ref a] (ws ++ [(a, .inr (6, [.int 0, .null, .int 0, .int 0, .int 0, .int 0, .int 0, .null, .int 0, .null]))]) (fun v w => ∃ q1 q2 q3 : Nat, v = none ∧ w = ws ++ [(a, .inr (6, [.int 0, .ref q1, .int 0, .int 0, .int 0, .int 0, .int 0, .ref q2, .int 0, .ref q3])), (q1, .inl (G.2.1 1, 160, .inl (fun _ => 0))), (q2, .inl (G.2.1 0, 160, .inl (fun _ => 0))), (q3, .inl (G.2.1 0, 3, .inl (fun _ => 0)))]) := by
  refine Ct.intro [(0, .ref a)] (by decide) rfl (Nat.le_of_ble_eq_true rfl) ?_
  refine z_aload_n d_X6_init_0 0 rfl ?_
  refine z_objInit w_0092 rfl d_X6_init_1 ?_
  refine z_aload_n d_X6_init_4 0 rfl ?_
  refine z_sipush (v := 160) d_X6_init_5 (by decide) ?_
  refine z_newa (ty := .byte) (a0 := (160, .inl (fun _ => 0))) 1 160 rfl rfl w_0125 (fun _ => rfl) rfl (by decide) rfl d_X6_init_8 (fun q1 => ?_)
  rw [in_app]
  refine z_putF ws.length _ p_X6_9_6 rfl in_get rfl rfl (Nat.le_of_ble_eq_true rfl) in_set d_X6_init_10 ?_
  refine z_aload_n d_X6_init_13 0 rfl ?_
  refine z_sipush (v := 160) d_X6_init_14 (by decide) ?_
  refine z_newa (ty := .int) (a0 := (160, .inl (fun _ => 0))) 0 160 rfl rfl w_0126 (fun _ => rfl) rfl (by decide) rfl d_X6_init_17 (fun q2 => ?_)
  rw [in_app]
  refine z_putF ws.length _ p_X6_15_6 rfl in_get rfl rfl (Nat.le_of_ble_eq_true rfl) in_set d_X6_init_19 ?_
  refine z_aload_n d_X6_init_22 0 rfl ?_
  refine z_iconst (v := 3) d_X6_init_23 (by decide) ?_
  refine z_newa (ty := .int) (a0 := (3, .inl (fun _ => 0))) 0 3 rfl rfl w_0126 (fun _ => rfl) rfl (by decide) rfl d_X6_init_24 (fun q3 => ?_)
  rw [in_app]
  refine z_putF ws.length _ p_X6_19_6 rfl in_get rfl rfl (Nat.le_of_ble_eq_true rfl) in_set d_X6_init_26 ?_
  exact z_vret _ d_X6_init_29 rfl ⟨q1, q2, q3, rfl, rfl⟩
