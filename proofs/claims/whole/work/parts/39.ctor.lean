/-! CONSTRUCTORS of class X: strips, texts, choices, sheets -/
theorem set_get {ws : va_W} {q0 : Nat} {u v : Nat × va_E} (h : ws[q0]? = some u) : (ws.set q0 v)[q0]? = some v := by
  have hl : q0 < ws.length := (List.getElem?_eq_some_iff.mp h).1
  rw [List.getElem?_set_self hl]
set_option maxHeartbeats 4000000 in
set_option maxRecDepth 100000 in
theorem t_X9_init (G : GT) (ws : va_W) (q0 a : Nat) (u0 u1 u2 : Value) (num : Int32) (c e : Nat) (he : ws[q0]? = some (a, .inr (9, [u0, u1, u2]))) : Ct G mX9_init 1 0 0 [.ref a, .int num, .ref c, .ref e] ws (Pv (ws.set q0 (a, .inr (9, [.int num, .ref c, .ref e])))) := by
  refine Ct.intro [(0, .ref a), (1, .int num), (2, .ref c), (3, .ref e)] (by decide) rfl (Nat.le_of_ble_eq_true rfl) ?_
  refine z_aload_n d_X9_init_0 0 rfl ?_
  refine z_objInit w_0360 rfl d_X9_init_1 ?_
  refine z_aload_n d_X9_init_4 0 rfl ?_
  refine z_iload_n d_X9_init_5 1 rfl ?_
  refine z_putF q0 _ p_X9_9_9 rfl he rfl rfl (Nat.le_of_ble_eq_true rfl) rfl d_X9_init_6 ?_
  refine z_aload_n d_X9_init_9 0 rfl ?_
  refine z_aload_n d_X9_init_10 2 rfl ?_
  refine z_putF q0 _ p_X9_15_9 rfl (set_get he) rfl rfl (Nat.le_of_ble_eq_true rfl) (List.set_set _) d_X9_init_11 ?_
  refine z_aload_n d_X9_init_14 0 rfl ?_
  refine z_aload_n d_X9_init_15 3 rfl ?_
  refine z_putF q0 _ p_X9_19_9 rfl (set_get he) rfl rfl (Nat.le_of_ble_eq_true rfl) (List.set_set _) d_X9_init_16 ?_
  exact z_vret _ d_X9_init_19 rfl (Pv.of rfl)
set_option maxHeartbeats 4000000 in
set_option maxRecDepth 100000 in
theorem t_X10_init (G : GT) (ws : va_W) (q0 a ci : Nat) (u : Value) (num : Int32) (hc : tC ci) (he : ws[q0]? = some (a, .inr (ci, [u]))) : Ct G mX10_init 1 0 0 [.ref a, .int num] ws (Pv (ws.set q0 (a, .inr (ci, [.int num])))) := by
  refine Ct.intro [(0, .ref a), (1, .int num)] (by decide) rfl (Nat.le_of_ble_eq_true rfl) ?_
  refine z_aload_n d_X10_init_0 0 rfl ?_
  refine z_objInit w_0519 rfl d_X10_init_1 ?_
  refine z_aload_n d_X10_init_4 0 rfl ?_
  refine z_iload_n d_X10_init_5 1 rfl ?_
  have k : Tr G mX10_init (Rm 1 0 0) (OM G (Pv (ws.set q0 (a, .inr (ci, [.int num])))) 0 0) 0 0 9 [(0, .ref a), (1, .int num)] [] (ws.set q0 (a, .inr (ci, [.int num]))) := z_vret _ d_X10_init_9 rfl (Pv.of rfl)
  rcases hc with rfl | rfl | rfl | rfl | rfl | rfl
  · exact z_putF q0 _ p_X10_7_10 rfl he rfl rfl (Nat.le_of_ble_eq_true rfl) rfl d_X10_init_6 k
  · exact z_putF q0 _ p_X10_7_3 rfl he rfl rfl (Nat.le_of_ble_eq_true rfl) rfl d_X10_init_6 k
  · exact z_putF q0 _ p_X10_7_2 rfl he rfl rfl (Nat.le_of_ble_eq_true rfl) rfl d_X10_init_6 k
  · exact z_putF q0 _ p_X10_7_8 rfl he rfl rfl (Nat.le_of_ble_eq_true rfl) rfl d_X10_init_6 k
  · exact z_putF q0 _ p_X10_7_1 rfl he rfl rfl (Nat.le_of_ble_eq_true rfl) rfl d_X10_init_6 k
  · exact z_putF q0 _ p_X10_7_5 rfl he rfl rfl (Nat.le_of_ble_eq_true rfl) rfl d_X10_init_6 k
set_option maxHeartbeats 4000000 in
set_option maxRecDepth 100000 in
theorem t_X3_init (G : GT) (ws : va_W) (q0 a ci : Nat) (u : Value) (num : Int32) (hc : tC ci) (he : ws[q0]? = some (a, .inr (ci, [u]))) : Ct G mX3_init 2 0 0 [.ref a, .int num] ws (Pv (ws.set q0 (a, .inr (ci, [.int num])))) := by
  refine Ct.intro [(0, .ref a), (1, .int num)] (by decide) rfl (Nat.le_of_ble_eq_true rfl) ?_
  refine z_aload_n d_X3_init_0 0 rfl ?_
  refine z_iload_n d_X3_init_1 1 rfl ?_
  refine z_callI c_X3_1 (t_X10_init G ws q0 a ci u num hc he) rfl rfl (Nat.le_of_ble_eq_true rfl) rfl d_X3_init_2 ?_
  rintro v w ⟨rfl, rfl⟩
  exact z_vret _ d_X3_init_5 rfl (Pv.of rfl)
set_option maxHeartbeats 4000000 in
set_option maxRecDepth 100000 in
theorem t_X2_init (G : GT) (ws : va_W) (q0 a ci : Nat) (u : Value) (num : Int32) (hc : tC ci) (he : ws[q0]? = some (a, .inr (ci, [u]))) : Ct G mX2_init 3 0 0 [.ref a, .int num] ws (Pv (ws.set q0 (a, .inr (ci, [.int num])))) := by
  refine Ct.intro [(0, .ref a), (1, .int num)] (by decide) rfl (Nat.le_of_ble_eq_true rfl) ?_
  refine z_aload_n d_X2_init_0 0 rfl ?_
  refine z_iload_n d_X2_init_1 1 rfl ?_
  refine z_callI c_X2_1 (t_X3_init G ws q0 a ci u num hc he) rfl rfl (Nat.le_of_ble_eq_true rfl) rfl d_X2_init_2 ?_
  rintro v w ⟨rfl, rfl⟩
  exact z_vret _ d_X2_init_5 rfl (Pv.of rfl)
set_option maxHeartbeats 4000000 in
set_option maxRecDepth 100000 in
theorem t_X8_init (G : GT) (ws : va_W) (q0 a ci : Nat) (u : Value) (num : Int32) (hc : tC ci) (he : ws[q0]? = some (a, .inr (ci, [u]))) : Ct G mX8_init 3 0 0 [.ref a, .int num] ws (Pv (ws.set q0 (a, .inr (ci, [.int num])))) := by
  refine Ct.intro [(0, .ref a), (1, .int num)] (by decide) rfl (Nat.le_of_ble_eq_true rfl) ?_
  refine z_aload_n d_X8_init_0 0 rfl ?_
  refine z_iload_n d_X8_init_1 1 rfl ?_
  refine z_callI c_X8_1 (t_X3_init G ws q0 a ci u num hc he) rfl rfl (Nat.le_of_ble_eq_true rfl) rfl d_X8_init_2 ?_
  rintro v w ⟨rfl, rfl⟩
  exact z_vret _ d_X8_init_5 rfl (Pv.of rfl)
set_option maxHeartbeats 4000000 in
set_option maxRecDepth 100000 in
theorem t_X1_init (G : GT) (ws : va_W) (q0 a ci : Nat) (u : Value) (num : Int32) (hc : tC ci) (he : ws[q0]? = some (a, .inr (ci, [u]))) : Ct G mX1_init 4 0 0 [.ref a, .int num] ws (Pv (ws.set q0 (a, .inr (ci, [.int num])))) := by
  refine Ct.intro [(0, .ref a), (1, .int num)] (by decide) rfl (Nat.le_of_ble_eq_true rfl) ?_
  refine z_aload_n d_X1_init_0 0 rfl ?_
  refine z_iload_n d_X1_init_1 1 rfl ?_
  refine z_callI c_X1_1 (t_X2_init G ws q0 a ci u num hc he) rfl rfl (Nat.le_of_ble_eq_true rfl) rfl d_X1_init_2 ?_
  rintro v w ⟨rfl, rfl⟩
  exact z_vret _ d_X1_init_5 rfl (Pv.of rfl)
set_option maxHeartbeats 4000000 in
set_option maxRecDepth 100000 in
theorem t_X5_init (G : GT) (ws : va_W) (q0 a ci : Nat) (u : Value) (num : Int32) (hc : tC ci) (he : ws[q0]? = some (a, .inr (ci, [u]))) : Ct G mX5_init 2 0 0 [.ref a, .int num] ws (Pv (ws.set q0 (a, .inr (ci, [.int num])))) := by
  refine Ct.intro [(0, .ref a), (1, .int num)] (by decide) rfl (Nat.le_of_ble_eq_true rfl) ?_
  refine z_aload_n d_X5_init_0 0 rfl ?_
  refine z_iload_n d_X5_init_1 1 rfl ?_
  refine z_callI c_X5_1 (t_X10_init G ws q0 a ci u num hc he) rfl rfl (Nat.le_of_ble_eq_true rfl) rfl d_X5_init_2 ?_
  rintro v w ⟨rfl, rfl⟩
  exact z_vret _ d_X5_init_5 rfl (Pv.of rfl)
set_option maxHeartbeats 4000000 in
set_option maxRecDepth 100000 in
theorem t_X0_init (G : GT) (ws : va_W) (q0 a : Nat) (u0 u1 : Value) (he : ws[q0]? = some (a, .inr (0, [u0, u1]))) : Ct G mX0_init 1 0 0 [.ref a] ws (Pv (ws.set q0 (a, .inr (0, [.int (-1), u1])))) := by
  refine Ct.intro [(0, .ref a)] (by decide) rfl (Nat.le_of_ble_eq_true rfl) ?_
  refine z_aload_n d_X0_init_0 0 rfl ?_
  refine z_objInit w_0385 rfl d_X0_init_1 ?_
  refine z_aload_n d_X0_init_4 0 rfl ?_
  refine z_iconst (v := (-1)) d_X0_init_5 (by decide) ?_
  refine z_put q0 _ p_X0_9_0 he rfl rfl (Nat.le_of_ble_eq_true rfl) rfl d_X0_init_6 ?_
  exact z_vret _ d_X0_init_9 rfl (Pv.of rfl)
set_option maxHeartbeats 4000000 in
set_option maxRecDepth 100000 in
theorem t_X7_init (G : GT) (ws : va_W) (q0 a : Nat) (u0 u1 u2 : Value) (he : ws[q0]? = some (a, .inr (7, [u0, u1, u2]))) : Ct G mX7_init 1 1 40 [.ref a] ws (fun v w => ∃ q : Nat, v = none ∧ w = ws.set q0 (a, .inr (7, [.int (-1), u1, .ref q])) ++ [(q, .inl (G.2.1 0, 40, .inl (fun _ => 0)))]) := by
  refine Ct.intro [(0, .ref a)] (by decide) rfl (Nat.le_of_ble_eq_true rfl) ?_
  refine z_aload_n d_X7_init_0 0 rfl ?_
  refine z_objInit w_0440 rfl d_X7_init_1 ?_
  refine z_aload_n d_X7_init_4 0 rfl ?_
  refine z_iconst (v := (-1)) d_X7_init_5 (by decide) ?_
  refine z_put q0 _ p_X7_9_7 he rfl rfl (Nat.le_of_ble_eq_true rfl) rfl d_X7_init_6 ?_
  refine z_aload_n d_X7_init_9 0 rfl ?_
  refine z_bipush (v := 40) d_X7_init_10 (by decide) ?_
  refine z_newa (ty := .int) (a0 := (40, .inl (fun _ => 0))) 0 40 rfl rfl w_0126 (fun _ => rfl) rfl (by decide) rfl d_X7_init_12 (fun q => ?_)
  refine z_putF q0 _ p_X7_15_7 rfl (z_appL q0 _ (set_get he)) rfl rfl (Nat.le_of_ble_eq_true rfl) (by rw [List.set_append_left _ _ (by rw [List.length_set]; exact (List.getElem?_eq_some_iff.mp he).1), List.set_set]) d_X7_init_14 ?_
  exact z_vret _ d_X7_init_17 rfl ⟨q, rfl, rfl⟩
set_option maxHeartbeats 4000000 in
set_option maxRecDepth 100000 in
theorem t_X11_knotOf (G : GT) (ws : va_W) (k : Nat) (num : Int32) (hk : k < 6) : Ct G mX11_knotOf 6 1 1 [.int (nI k), .int num] ws (fun v w => ∃ q : Nat, v = some (.ref q) ∧ w = ws ++ [(q, .inr (kdC (nI k), [.int num]))]) := by
  refine Ct.intro [(0, .int (nI k)), (1, .int num)] (by decide) rfl (Nat.le_of_ble_eq_true rfl) ?_
  refine z_iload_n d_X11_knotOf_0 0 rfl ?_
  have e := nI_i (n := k) (by omega)
  by_cases h1 : k = 1
  · subst h1
    refine z_swIn (tgt := 36) (off := 35) d_X11_knotOf_1 (show (nI 1).toInt = 1 from e) (by decide) (by decide) (by decide) (by decide) ?_
    refine z_new (C0 := RX3) (T1 := TX3) (N := 1) (ci := 3) (fs := [.int 0]) (tyX3) rfl u_X3 tyX3_ok w_0511 w_0512 w_0073 (by decide +kernel) rfl d_X11_knotOf_36 (fun q => ?_)
    refine z_dup d_X11_knotOf_39 rfl ?_
    refine z_iload_n d_X11_knotOf_40 1 rfl ?_
    refine z_callI c_X11_294 (t_X3_init G (ws ++ [(q, .inr (3, [.int 0]))]) ws.length q 3 (.int 0) num (by unfold tC; decide) get_last) rfl rfl (Nat.le_of_ble_eq_true rfl) rfl d_X11_knotOf_41 ?_
    rintro v w ⟨rfl, rfl⟩
    exact z_aret _ d_X11_knotOf_44 rfl (Or.inl ⟨_, rfl⟩) (Or.inr ⟨_, rfl⟩) ⟨q, rfl, set_last⟩
  by_cases h2 : k = 2
  · subst h2
    refine z_swIn (tgt := 45) (off := 44) d_X11_knotOf_1 (show (nI 2).toInt = 2 from e) (by decide) (by decide) (by decide) (by decide) ?_
    refine z_new (C0 := RX2) (T1 := TX2) (N := 1) (ci := 2) (fs := [.int 0]) (tyX2) rfl u_X2 tyX2_ok w_0529 w_0530 w_0074 (by decide +kernel) rfl d_X11_knotOf_45 (fun q => ?_)
    refine z_dup d_X11_knotOf_48 rfl ?_
    refine z_iload_n d_X11_knotOf_49 1 rfl ?_
    refine z_callI c_X11_298 (t_X2_init G (ws ++ [(q, .inr (2, [.int 0]))]) ws.length q 2 (.int 0) num (by unfold tC; decide) get_last) rfl rfl (Nat.le_of_ble_eq_true rfl) rfl d_X11_knotOf_50 ?_
    rintro v w ⟨rfl, rfl⟩
    exact z_aret _ d_X11_knotOf_53 rfl (Or.inl ⟨_, rfl⟩) (Or.inr ⟨_, rfl⟩) ⟨q, rfl, set_last⟩
  by_cases h3 : k = 3
  · subst h3
    refine z_swIn (tgt := 54) (off := 53) d_X11_knotOf_1 (show (nI 3).toInt = 3 from e) (by decide) (by decide) (by decide) (by decide) ?_
    refine z_new (C0 := RX8) (T1 := TX8) (N := 1) (ci := 8) (fs := [.int 0]) (tyX8) rfl u_X8 tyX8_ok w_0537 w_0538 w_0075 (by decide +kernel) rfl d_X11_knotOf_54 (fun q => ?_)
    refine z_dup d_X11_knotOf_57 rfl ?_
    refine z_iload_n d_X11_knotOf_58 1 rfl ?_
    refine z_callI c_X11_301 (t_X8_init G (ws ++ [(q, .inr (8, [.int 0]))]) ws.length q 8 (.int 0) num (by unfold tC; decide) get_last) rfl rfl (Nat.le_of_ble_eq_true rfl) rfl d_X11_knotOf_59 ?_
    rintro v w ⟨rfl, rfl⟩
    exact z_aret _ d_X11_knotOf_62 rfl (Or.inl ⟨_, rfl⟩) (Or.inr ⟨_, rfl⟩) ⟨q, rfl, set_last⟩
  by_cases h4 : k = 4
  · subst h4
    refine z_swIn (tgt := 63) (off := 62) d_X11_knotOf_1 (show (nI 4).toInt = 4 from e) (by decide) (by decide) (by decide) (by decide) ?_
    refine z_new (C0 := RX1) (T1 := TX1) (N := 1) (ci := 1) (fs := [.int 0]) (tyX1) rfl u_X1 tyX1_ok w_0545 w_0546 w_0076 (by decide +kernel) rfl d_X11_knotOf_63 (fun q => ?_)
    refine z_dup d_X11_knotOf_66 rfl ?_
    refine z_iload_n d_X11_knotOf_67 1 rfl ?_
    refine z_callI c_X11_304 (t_X1_init G (ws ++ [(q, .inr (1, [.int 0]))]) ws.length q 1 (.int 0) num (by unfold tC; decide) get_last) rfl rfl (Nat.le_of_ble_eq_true rfl) rfl d_X11_knotOf_68 ?_
    rintro v w ⟨rfl, rfl⟩
    exact z_aret _ d_X11_knotOf_71 rfl (Or.inl ⟨_, rfl⟩) (Or.inr ⟨_, rfl⟩) ⟨q, rfl, set_last⟩
  by_cases h5 : k = 5
  · subst h5
    refine z_swIn (tgt := 72) (off := 71) d_X11_knotOf_1 (show (nI 5).toInt = 5 from e) (by decide) (by decide) (by decide) (by decide) ?_
    refine z_new (C0 := RX5) (T1 := TX5) (N := 1) (ci := 5) (fs := [.int 0]) (tyX5) rfl u_X5 tyX5_ok w_0553 w_0554 w_0077 (by decide +kernel) rfl d_X11_knotOf_72 (fun q => ?_)
    refine z_dup d_X11_knotOf_75 rfl ?_
    refine z_iload_n d_X11_knotOf_76 1 rfl ?_
    refine z_callI c_X11_307 (t_X5_init G (ws ++ [(q, .inr (5, [.int 0]))]) ws.length q 5 (.int 0) num (by unfold tC; decide) get_last) rfl rfl (Nat.le_of_ble_eq_true rfl) rfl d_X11_knotOf_77 ?_
    rintro v w ⟨rfl, rfl⟩
    exact z_aret _ d_X11_knotOf_80 rfl (Or.inl ⟨_, rfl⟩) (Or.inr ⟨_, rfl⟩) ⟨q, rfl, set_last⟩
  have hk0 : k = 0 := by omega
  subst hk0
  refine z_swOut (tgt := 81) d_X11_knotOf_1 (by omega) (by decide) ?_
  refine z_new (C0 := RX10) (T1 := TX10) (N := 1) (ci := 10) (fs := [.int 0]) (tyX10) rfl u_X10 tyX10_ok w_0561 w_0562 w_0072 (by decide +kernel) rfl d_X11_knotOf_81 (fun q => ?_)
  refine z_dup d_X11_knotOf_84 rfl ?_
  refine z_iload_n d_X11_knotOf_85 1 rfl ?_
  refine z_callI c_X11_308 (t_X10_init G (ws ++ [(q, .inr (10, [.int 0]))]) ws.length q 10 (.int 0) num (by unfold tC; decide) get_last) rfl rfl (Nat.le_of_ble_eq_true rfl) rfl d_X11_knotOf_86 ?_
  rintro v w ⟨rfl, rfl⟩
  exact z_aret _ d_X11_knotOf_89 rfl (Or.inl ⟨_, rfl⟩) (Or.inr ⟨_, rfl⟩) ⟨q, rfl, set_last⟩
theorem get3 {w : va_W} {t c e : Nat × va_E} : (((w ++ [t]) ++ [c]) ++ [e])[w.length]? = some t := z_appL _ _ (z_appL _ _ get_last)
theorem set3 {w : va_W} {t t2 c e : Nat × va_E} : (((w ++ [t]) ++ [c]) ++ [e]).set w.length t2 = w ++ [t2, c, e] := by
  rw [List.append_assoc, List.append_assoc, List.set_append_right _ _ (Nat.le_refl _), Nat.sub_self]; rfl
theorem getT {w : va_W} {a b c : Nat × va_E} : (w ++ [a, b, c])[w.length]? = some a ∧ (w ++ [a, b, c])[w.length + 1]? = some b ∧ (w ++ [a, b, c])[w.length + 2]? = some c := by
  refine ⟨?_, ?_, ?_⟩
  · rw [List.getElem?_append_right (Nat.le_refl _), Nat.sub_self]; rfl
  · rw [List.getElem?_append_right (by omega), show w.length + 1 - w.length = 1 by omega]; rfl
  · rw [List.getElem?_append_right (by omega), show w.length + 2 - w.length = 2 by omega]; rfl
theorem getD_app1 {a b : List Int32} {j : Nat} (h : j < a.length) : (a ++ b).getD j 0 = a.getD j 0 := by rw [List.getD_eq_getElem?_getD, List.getD_eq_getElem?_getD, List.getElem?_append_left h]
theorem getD_app2 {a b : List Int32} {j : Nat} : (a ++ b).getD (a.length + j) 0 = b.getD j 0 := by rw [List.getD_eq_getElem?_getD, List.getD_eq_getElem?_getD, List.getElem?_append_right (by omega), Nat.add_sub_cancel_left]
theorem Rd.tx {G : GT} {cd : CD} {S : Nat → Int32} {T : Nat → Nat → Int32} {num : Int32} {q c e : Nat} {g : Nat → Int32} {tl : va_W} (h : Rd cd S T) (hg : ∀ i, i < (cd.1 ++ cd.2.1 ++ cd.2.2).length → g i = T 0 i) : TxR G cd num q (tl ++ [(q, .inr (9, [.int num, .ref c, .ref e])), (c, .inl (G.2.1 0, (cd.1 ++ cd.2.1 ++ cd.2.2).length, .inl g)), (e, .inl (G.2.1 0, 3, .inl (T 1)))]) := by
  obtain ⟨h1, h2, h3, h4, h5, h6, h7⟩ := h
  have e0 : (cd.1 ++ cd.2.1 ++ cd.2.2).length = cdL cd := by rw [List.length_append, List.length_append]; rfl
  obtain ⟨k0, k1, k2⟩ := getT (w := tl) (a := (q, .inr (9, [.int num, .ref c, .ref e]))) (b := (c, .inl (G.2.1 0, (cd.1 ++ cd.2.1 ++ cd.2.2).length, .inl g))) (c := (e, .inl (G.2.1 0, 3, .inl (T 1))))
  rw [e0] at k1 ⊢
  rw [e0] at k0 k2
  refine ⟨tl.length, tl.length + 1, tl.length + 2, c, e, g, T 1, k0, k1, k2, by rw [← e0]; exact h6, fun p hp => ?_⟩
  have hf : ∀ j, j < (cd.1 ++ cd.2.1 ++ cd.2.2).length → g j = (cd.1 ++ cd.2.1 ++ cd.2.2).getD j 0 := fun j hj => (hg j hj).trans (h2 j hj)
  have hl : (cd.1 ++ cd.2.1 ++ cd.2.2).length = cd.1.length + cd.2.1.length + cd.2.2.length := e0
  refine ⟨?_, ?_, h7 p hp⟩
  · rcases (show p = 0 ∨ p = 1 ∨ p = 2 by omega) with rfl | rfl | rfl
    · rw [h3]; show _ = nI (0 + cd.1.length); rw [Nat.zero_add]
    · rw [h4, List.length_append]; rfl
    · rw [h5, List.length_append, List.length_append]; rfl
  · rcases (show p = 0 ∨ p = 1 ∨ p = 2 by omega) with rfl | rfl | rfl
    · intro j hj
      have hj2 : j < cd.1.length := hj
      show g (0 + j) = cd.1.getD j 0
      rw [Nat.zero_add, hf j (by omega), List.append_assoc, getD_app1 hj2]
    · intro j hj
      have hj2 : j < cd.2.1.length := hj
      show g (cd.1.length + j) = cd.2.1.getD j 0
      rw [hf _ (by omega), List.append_assoc, getD_app2, getD_app1 hj2]
    · intro j hj
      have hj2 : j < cd.2.2.length := hj
      show g (cd.1.length + cd.2.1.length + j) = cd.2.2.getD j 0
      rw [hf _ (by omega), ← List.length_append, getD_app2]
set_option maxHeartbeats 4000000 in
set_option maxRecDepth 100000 in
theorem t_X6_made (G : GT) (x : Nat → Nat) (N : Nat → Int32) (R : Nat → Nat → Int32) (K : Nat → Nat → Option Nat) (r : Nat → Nat) (S : Nat → Int32) (T : Nat → Nat → Int32) (tl : va_W) (cd : CD) (num : Int32) (h : Rd cd S T) : Ct G mX6_made 2 3 166 [.ref (x 1), .int num] (XW G x N R K r S T tl) (fun v w => ∃ (a : Nat) (tl2 : va_W), v = some (.ref a) ∧ w = XW G x N R K r S T (tl ++ tl2) ∧ TxR G cd num a (tl ++ tl2)) := by
  have hL := h.2.2.2.2.2.1
  refine Ct.intro [(0, .ref (x 1)), (1, .int num)] (by decide) rfl (Nat.le_of_ble_eq_true rfl) ?_
  refine z_new (C0 := RX9) (T1 := TX9) (N := 3) (ci := 9) (fs := [.int 0, .null, .null]) tyX9 rfl u_X9 tyX9_ok w_0339 w_0340 w_0065 (by decide +kernel) rfl d_X6_made_0 (fun q => ?_)
  refine z_dup d_X6_made_3 rfl ?_
  refine z_iload_n d_X6_made_4 1 rfl ?_
  refine z_aload_n d_X6_made_5 0 rfl ?_
  refine z_get (v := .ref (x 3)) 1 f_X6_15_6 rfl rfl d_X6_made_6 ?_
  refine z_aload_n d_X6_made_9 0 rfl ?_
  refine z_get (v := .int (S 5)) 1 f_X6_29_6 rfl rfl d_X6_made_10 ?_
  refine z_top h.1 ?_
  refine z_callS c_X6_50 (t_J7_copyOf G 3 (x 3) 160 (cd.1 ++ cd.2.1 ++ cd.2.2).length (T 0) (by decide) hL _ rfl) rfl rfl (Nat.le_of_ble_eq_true rfl) rfl d_X6_made_13 ?_
  rintro v w ⟨qc, g, rfl, rfl, hg⟩
  refine z_aload_n d_X6_made_16 0 rfl ?_
  refine z_get (v := .ref (x 4)) 1 f_X6_19_6 rfl rfl d_X6_made_17 ?_
  refine z_clone (N := 3) (f := T 1) 4 rfl w_0355 rfl rfl rfl d_X6_made_20 (fun qe => ?_)
  refine z_castI _ get_last w_0356 d_X6_made_23 ?_
  refine z_callI c_X6_61 (t_X9_init G _ (XW G x N R K r S T tl).length q (.int 0) .null .null num qc qe get3) rfl rfl (Nat.le_of_ble_eq_true rfl) rfl d_X6_made_26 ?_
  rintro v w ⟨rfl, rfl⟩
  rw [set3]
  exact z_aret _ d_X6_made_29 rfl (Or.inl ⟨_, rfl⟩) (Or.inr ⟨_, rfl⟩) ⟨q, _, rfl, rfl, h.tx hg⟩
