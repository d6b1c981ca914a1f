/-! THE NET of class X: strips put and dropped, what they cross and hold -/
theorem is_f {I : Nat → Int32} {s : Int32} (h : s.toInt < 0 ∨ 16 ≤ s.toInt) : (0 : Int32) = b01 (isS I s) := by
  refine b01_f (fun hh => ?_)
  simp only [isS, Bool.and_eq_true, decide_eq_true_eq] at hh
  omega
set_option maxHeartbeats 4000000 in
set_option maxRecDepth 100000 in
theorem t_X4_has (G : GT) (x : Nat → Nat) (N : Nat → Int32) (R : Nat → Nat → Int32) (K : Nat → Nat → Option Nat) (r : Nat → Nat) (S : Nat → Int32) (T : Nat → Nat → Int32) (tl : va_W) (I : Nat → Int32) (A : Nat → Nat → Int32) (h : NtR I A (N 2) (N 3) (N 4) (R 1) (R 2) (R 3) (K 0) tl) (s : Int32)  : Ct G mX4_has 0 0 0 [.ref (x 6), .int s] (XW G x N R K r S T tl) (Pi (b01 (isS I s)) (XW G x N R K r S T tl)) := by
  refine Ct.intro [(0, .ref (x 6)), (1, .int s)] (by decide) rfl (Nat.le_of_ble_eq_true rfl) ?_
  refine z_iload_n d_X4_has_0 1 rfl ?_
  refine z_if_lt d_X4_has_1 (fun c_1 => ?_) (fun c_1 => ?_)
  · refine z_iconst (v := 0) d_X4_has_23 (by decide) ?_
    exact z_zret _ d_X4_has_24 rfl (by first | rfl | decide) (Pi.of (is_f (Or.inl (by rw [lt_i, i_0] at c_1; omega))))
  · refine z_iload_n d_X4_has_4 1 rfl ?_
    refine z_bipush (v := 16) d_X4_has_5 (by decide) ?_
    refine z_icmp_ge d_X4_has_7 (fun c_7 => ?_) (fun c_7 => ?_)
    · refine z_iconst (v := 0) d_X4_has_23 (by decide) ?_
      exact z_zret _ d_X4_has_24 rfl (by first | rfl | decide) (Pi.of (is_f (Or.inr (by rw [lt_i, l_16] at c_7; omega))))
    · obtain ⟨k, hk, rfl⟩ : ∃ k : Nat, k < 16 ∧ s = nI k := ⟨s.toInt.toNat, by rw [lt_i, i_0] at c_1; rw [lt_i, l_16] at c_7; omega, eq_nI (by rw [lt_i, i_0] at c_1; omega)⟩
      refine z_aload_n d_X4_has_10 0 rfl ?_
      refine z_get (v := .ref (x 7)) (6) f_X4_11_4 rfl rfl d_X4_has_11 ?_
      refine z_iload_n d_X4_has_14 1 rfl ?_
      cases hb : bt (I 12) k
      · refine z_aldq (C0 := RX10) 7 3 k rfl rfl (nI_toInt (by omega)) (by omega) d_X4_has_15 ?_
        rw [h.k0 hk hb]
        refine z_ifnullN d_X4_has_16 ?_
        refine z_iconst (v := 0) d_X4_has_23 (by decide) ?_
        exact z_zret _ d_X4_has_24 rfl (by first | rfl | decide) (Pi.of (by rw [isS_bt hk, hb]; rfl))
      · refine z_aldq (C0 := RX10) 7 3 k rfl rfl (nI_toInt (by omega)) (by omega) d_X4_has_15 ?_
        obtain ⟨a15, q15, ha15, hq15⟩ := h.k1 hk hb
        rw [ha15]
        refine z_ifnullR d_X4_has_16 ?_
        refine z_iconst (v := 1) d_X4_has_19 (by decide) ?_
        refine z_goto d_X4_has_20 ?_
        exact z_zret _ d_X4_has_24 rfl (by first | rfl | decide) (Pi.of (by rw [isS_bt hk, hb]; rfl))
set_option maxHeartbeats 4000000 in
set_option maxRecDepth 100000 in
theorem t_X4_size (G : GT) (x : Nat → Nat) (N : Nat → Int32) (R : Nat → Nat → Int32) (K : Nat → Nat → Option Nat) (r : Nat → Nat) (S : Nat → Int32) (T : Nat → Nat → Int32) (tl : va_W) (I : Nat → Int32) (A : Nat → Nat → Int32) (h : NtR I A (N 2) (N 3) (N 4) (R 1) (R 2) (R 3) (K 0) tl)  : Ct G mX4_size 1 0 0 [.ref (x 6)] (XW G x N R K r S T tl) (Pi (pcI (I 12)) (XW G x N R K r S T tl)) := by
  refine Ct.intro [(0, .ref (x 6))] (by decide) rfl (Nat.le_of_ble_eq_true rfl) ?_
  refine z_aload_n d_X4_size_0 0 rfl ?_
  refine z_get (v := .int (N 2)) (6) f_X4_48_4 rfl rfl d_X4_size_1 ?_
  refine z_callSp c_X4_51 (t_J6_bitCount_0f7a4 G (N 2) (XW G x N R K r S T tl)) rfl rfl (Nat.le_of_ble_eq_true rfl) rfl d_X4_size_4 ?_
  exact z_iret _ d_X4_size_7 rfl (Pi.of (by rw [h.al]))
def lfS (th : Int32) : Int32 := if frN th = 16 then -1 else nI (frN th)
set_option maxHeartbeats 4000000 in
set_option maxRecDepth 100000 in
theorem l_X4_leastFree (G : GT) (x : Nat → Nat) (N : Nat → Int32) (R : Nat → Nat → Int32) (K : Nat → Nat → Option Nat) (r : Nat → Nat) (S : Nat → Int32) (T : Nat → Nat → Int32) (tl : va_W) (I : Nat → Int32) (A : Nat → Nat → Int32) (h : NtR I A (N 2) (N 3) (N 4) (R 1) (R 2) (R 3) (K 0) tl) : ∀ (n : Nat) (k : Nat) (hk9 : k ≤ 16) (hm : 16 < k + n) (hr : frR (I 12) (16 - k) k = frN (I 12)), Tr G mX4_leastFree (Rm 0 0 0) (OM G (Pi (lfS (I 12)) (XW G x N R K r S T tl)) 0 0) 0 0 2 [(1, .int (nI k)), (0, .ref (x 6))] [] (XW G x N R K r S T tl) := by
  intro n
  induction n with
  | zero =>
    intro k hk9 hm hr
    exact absurd hm (by omega)
  | succ n ih =>
    intro k hk9 hm hr
    refine z_iload_n d_X4_leastFree_2 0 rfl ?_
    refine z_bipush (v := 16) d_X4_leastFree_3 (by decide) ?_
    refine z_icmp_ge d_X4_leastFree_5 (fun c_5 => ?_) (fun c_5 => ?_)
    · refine z_iconst (v := -1) d_X4_leastFree_25 (by decide) ?_
      exact z_iret _ d_X4_leastFree_26 rfl (Pi.of (by have h9 := ge_nI (N := 16) (by omega) (by decide) c_5; rw [show 16 - k = 0 by omega] at hr; unfold lfS; rw [← hr]; show _ = if k = 16 then _ else _; rw [if_pos (by omega)]))
    · have hk : k < 16 := lt_nI (by omega) (by decide) c_5
      refine z_aload_n d_X4_leastFree_8 1 rfl ?_
      refine z_get (v := .ref (x 7)) (6) f_X4_11_4 rfl rfl d_X4_leastFree_9 ?_
      refine z_iload_n d_X4_leastFree_12 0 rfl ?_
      cases hb : bt (I 12) k
      · refine z_aldq (C0 := RX10) 7 3 k rfl rfl (nI_toInt (by omega)) (by omega) d_X4_leastFree_13 ?_
        rw [h.k0 hk hb]
        refine z_ifnonnullN d_X4_leastFree_14 ?_
        refine z_iload_n d_X4_leastFree_17 0 rfl ?_
        exact z_iret _ d_X4_leastFree_18 rfl (Pi.of (by have h9 := lt_nI (N := 16) (by omega) (by decide) c_5; rw [show 16 - k = (15 - k) + 1 by omega, frR, if_neg (by rw [sb1 (by omega), hb]; decide)] at hr; unfold lfS; rw [← hr, if_neg (by omega)]))
      · refine z_aldq (C0 := RX10) 7 3 k rfl rfl (nI_toInt (by omega)) (by omega) d_X4_leastFree_13 ?_
        obtain ⟨a13, q13, ha13, hq13⟩ := h.k1 hk hb
        rw [ha13]
        refine z_ifnonnullR d_X4_leastFree_14 ?_
        refine z_iinc (nI (k + 1)) [(1, .int (nI (k + 1))), (0, .ref (x 6))] 0 d_X4_leastFree_19 rfl (nI_1 _) (by decide) rfl ?_
        refine z_goto d_X4_leastFree_22 ?_
        exact ih (k + 1) (by omega) (by omega) (by rw [show 16 - k = (15 - k) + 1 by omega, frR, if_pos ((sb1 (by omega)).mpr hb)] at hr; rw [show 16 - (k + 1) = 15 - k by omega]; exact hr)
set_option maxHeartbeats 4000000 in
set_option maxRecDepth 100000 in
theorem t_X4_leastFree (G : GT) (x : Nat → Nat) (N : Nat → Int32) (R : Nat → Nat → Int32) (K : Nat → Nat → Option Nat) (r : Nat → Nat) (S : Nat → Int32) (T : Nat → Nat → Int32) (tl : va_W) (I : Nat → Int32) (A : Nat → Nat → Int32) (h : NtR I A (N 2) (N 3) (N 4) (R 1) (R 2) (R 3) (K 0) tl)  : Ct G mX4_leastFree 0 0 0 [.ref (x 6)] (XW G x N R K r S T tl) (Pi (lfS (I 12)) (XW G x N R K r S T tl)) := by
  refine Ct.intro [(0, .ref (x 6))] (by decide) rfl (Nat.le_of_ble_eq_true rfl) ?_
  refine z_iconst (v := 0) d_X4_leastFree_0 (by decide) ?_
  refine z_istore_n [(1, .int 0), (0, .ref (x 6))] d_X4_leastFree_1 (by decide) rfl ?_
  exact l_X4_leastFree G x N R K r S T tl I A h 17 0 (by omega) (by omega) rfl
theorem tC_c1 {ci : Nat} (h : tC ci) : ∃ C1, (vwCl[ci]?).map (fun q => q.1) = some C1 ∧ (C1 = RX10 ∨ (C1, RX10) ∈ castL) := by
  rcases h with rfl | rfl | rfl | rfl | rfl | rfl
  · exact ⟨_, rfl, Or.inl rfl⟩
  · exact ⟨_, rfl, Or.inr (List.mem_of_getElem? (i := 4) rfl)⟩
  · exact ⟨_, rfl, Or.inr (List.mem_of_getElem? (i := 5) rfl)⟩
  · exact ⟨_, rfl, Or.inr (List.mem_of_getElem? (i := 6) rfl)⟩
  · exact ⟨_, rfl, Or.inr (List.mem_of_getElem? (i := 7) rfl)⟩
  · exact ⟨_, rfl, Or.inr (List.mem_of_getElem? (i := 8) rfl)⟩
set_option maxHeartbeats 4000000 in
set_option maxRecDepth 100000 in
theorem l_X4_put (G : GT) (x : Nat → Nat) (N : Nat → Int32) (R : Nat → Nat → Int32) (K : Nat → Nat → Option Nat) (r : Nat → Nat) (S : Nat → Int32) (T : Nat → Nat → Int32) (tl : va_W) (s c st lg a q ci : Nat) (nu : Int32) (wh : Int32) (hs : s < 16) (hW : WP wh c st lg) (hci : tC ci) (hq : tl[q]? = some (a, .inr (ci, [.int nu]))) : ∀ (n : Nat) (i : Nat) (hi : i ≤ lg) (hm : lg < i + n), Tr G mX4_put (Rm 1 0 0) (OM G (Pv (XW G x (upd N 2 (N 2 ||| 1 <<< (nI s &&& 31))) (vf_upd (vf_upd (vf_upd R 1 (upd (R 1) s wh)) 2 (upd (R 2) s (N 3))) 3 (lyP s c st (R 3) lg)) (vf_upd K 0 (va_up (K 0) s (some a))) r S T tl)) 0 0) 0 0 39 [(4, .int (nI i)), (3, .int wh), (2, .ref a), (1, .int (nI s)), (0, .ref (x 6))] [] (XW G x (upd N 2 (N 2 ||| 1 <<< (nI s &&& 31))) (vf_upd (vf_upd (vf_upd R 1 (upd (R 1) s wh)) 2 (upd (R 2) s (N 3))) 3 (lyP s c st (R 3) i)) (vf_upd K 0 (va_up (K 0) s (some a))) r S T tl) := by
  intro n
  induction n with
  | zero =>
    intro i hi hm
    exact absurd hm (by omega)
  | succ n ih =>
    intro i hi hm
    refine z_iload d_X4_put_39 0 rfl ?_
    refine z_iload_n d_X4_put_41 1 rfl ?_
    refine z_callSp c_X4_60 (t_X11_longOf G wh (XW G x (upd N 2 (N 2 ||| 1 <<< (nI s &&& 31))) (vf_upd (vf_upd (vf_upd R 1 (upd (R 1) s wh)) 2 (upd (R 2) s (N 3))) 3 (lyP s c st (R 3) i)) (vf_upd K 0 (va_up (K 0) s (some a))) r S T tl)) rfl rfl (Nat.le_of_ble_eq_true rfl) rfl d_X4_put_42 ?_
    refine z_icmp_ge d_X4_put_45 (fun c_45 => ?_) (fun c_45 => ?_)
    · exact z_vret _ d_X4_put_77 rfl (Pv.of (by rw [show i = lg by have := hW.2.2.1; rw [hW.2.2.2.2.2.2.1] at c_45; have h9 := ge_nI (by omega) (by omega) c_45; omega]))
    · have h9 : i < lg := by have := hW.2.2.1; rw [hW.2.2.2.2.2.2.1] at c_45; exact lt_nI (by omega) (by omega) c_45
      refine z_aload_n d_X4_put_48 4 rfl ?_
      refine z_get (v := .ref (x 10)) (6) f_X4_24_4 rfl rfl d_X4_put_49 ?_
      refine z_iload_n d_X4_put_52 1 rfl ?_
      refine z_callSp c_X4_63 (t_X11_firstOf G wh (XW G x (upd N 2 (N 2 ||| 1 <<< (nI s &&& 31))) (vf_upd (vf_upd (vf_upd R 1 (upd (R 1) s wh)) 2 (upd (R 2) s (N 3))) 3 (lyP s c st (R 3) i)) (vf_upd K 0 (va_up (K 0) s (some a))) r S T tl)) rfl rfl (Nat.le_of_ble_eq_true rfl) rfl d_X4_put_53 ?_
      refine z_iload d_X4_put_56 0 rfl ?_
      refine z_iload_n d_X4_put_58 1 rfl ?_
      refine z_callSp c_X4_66 (t_X11_stepOf G wh (XW G x (upd N 2 (N 2 ||| 1 <<< (nI s &&& 31))) (vf_upd (vf_upd (vf_upd R 1 (upd (R 1) s wh)) 2 (upd (R 2) s (N 3))) 3 (lyP s c st (R 3) i)) (vf_upd K 0 (va_up (K 0) s (some a))) r S T tl)) rfl rfl (Nat.le_of_ble_eq_true rfl) rfl d_X4_put_59 ?_
      refine z_imul d_X4_put_62 ?_
      refine z_iadd d_X4_put_63 ?_
      refine z_dup2 d_X4_put_64 rfl rfl ?_
      refine z_ialdN (10) (c + i * st) rfl (hW.ix h9) (hW.2.2.2.2.1 i h9) d_X4_put_65 ?_
      refine z_iconst (v := 1) d_X4_put_66 (by decide) ?_
      refine z_iload_n d_X4_put_67 3 rfl ?_
      refine z_ishl d_X4_put_68 ?_
      refine z_ior d_X4_put_69 ?_
      refine z_iastN 10 (c + i * st) (XW G x (upd N 2 (N 2 ||| 1 <<< (nI s &&& 31))) (vf_upd (vf_upd (vf_upd R 1 (upd (R 1) s wh)) 2 (upd (R 2) s (N 3))) 3 (upd (lyP s c st (R 3) i) (c + i * st) (((lyP s c st (R 3) i) (c + i * st)) ||| (1 <<< ((nI s) &&& 31))))) (vf_upd K 0 (va_up (K 0) s (some a))) r S T tl) rfl (hW.ix h9) (hW.2.2.2.2.1 i h9) rfl d_X4_put_70 ?_
      refine z_iinc (nI (i + 1)) [(4, .int (nI (i + 1))), (3, .int wh), (2, .ref a), (1, .int (nI s)), (0, .ref (x 6))] 0 d_X4_put_71 rfl (nI_1 _) (by decide) rfl ?_
      refine z_goto d_X4_put_74 ?_
      exact ih (i + 1) (by omega) (by omega)
set_option maxHeartbeats 4000000 in
set_option maxRecDepth 100000 in
theorem t_X4_put (G : GT) (x : Nat → Nat) (N : Nat → Int32) (R : Nat → Nat → Int32) (K : Nat → Nat → Option Nat) (r : Nat → Nat) (S : Nat → Int32) (T : Nat → Nat → Int32) (tl : va_W) (s c st lg a q ci : Nat) (nu : Int32) (wh : Int32) (hs : s < 16) (hW : WP wh c st lg) (hci : tC ci) (hq : tl[q]? = some (a, .inr (ci, [.int nu]))) : Ct G mX4_put 1 0 0 [.ref (x 6), .int (nI s), .ref a, .int wh] (XW G x N R K r S T tl) (Pv (XW G x (upd N 2 (N 2 ||| 1 <<< (nI s &&& 31))) (vf_upd (vf_upd (vf_upd R 1 (upd (R 1) s wh)) 2 (upd (R 2) s (N 3))) 3 (lyP s c st (R 3) lg)) (vf_upd K 0 (va_up (K 0) s (some a))) r S T tl)) := by
  obtain ⟨C1, hC1, hsub⟩ := tC_c1 hci
  refine Ct.intro [(0, .ref (x 6)), (1, .int (nI s)), (2, .ref a), (3, .int wh)] (by decide) rfl (Nat.le_of_ble_eq_true rfl) ?_
  refine z_aload_n d_X4_put_0 0 rfl ?_
  refine z_get (v := .ref (x 7)) (6) f_X4_11_4 rfl rfl d_X4_put_1 ?_
  refine z_iload_n d_X4_put_4 1 rfl ?_
  refine z_aload_n d_X4_put_5 2 rfl ?_
  refine z_astR (E0 := RX10) 7 3 (q + 31) s (XW G x N R (vf_upd K 0 (va_up (K 0) s (some a))) r S T tl) rfl rfl hq hC1 hsub (nI_toInt (by omega)) (by omega) (xa_7 G x N R K r S T tl _) d_X4_put_6 ?_
  refine z_aload_n d_X4_put_7 0 rfl ?_
  refine z_get (v := .ref (x 8)) (6) f_X4_17_4 rfl rfl d_X4_put_8 ?_
  refine z_iload_n d_X4_put_11 1 rfl ?_
  refine z_iload_n d_X4_put_12 3 rfl ?_
  refine z_iastN 8 s (XW G x N (vf_upd R 1 (upd (R 1) s wh)) (vf_upd K 0 (va_up (K 0) s (some a))) r S T tl) rfl (nI_toInt (by omega)) (by omega) (xa_8 G x N R (vf_upd K 0 (va_up (K 0) s (some a))) r S T tl _) d_X4_put_13 ?_
  refine z_aload_n d_X4_put_14 0 rfl ?_
  refine z_get (v := .ref (x 9)) (6) f_X4_21_4 rfl rfl d_X4_put_15 ?_
  refine z_iload_n d_X4_put_18 1 rfl ?_
  refine z_aload_n d_X4_put_19 0 rfl ?_
  refine z_get (v := .int (N 3)) (6) f_X4_57_4 rfl rfl d_X4_put_20 ?_
  refine z_iastN 9 s (XW G x N (vf_upd (vf_upd R 1 (upd (R 1) s wh)) 2 (upd (R 2) s (N 3))) (vf_upd K 0 (va_up (K 0) s (some a))) r S T tl) rfl (nI_toInt (by omega)) (by omega) (xa_9 G x N (vf_upd R 1 (upd (R 1) s wh)) (vf_upd K 0 (va_up (K 0) s (some a))) r S T tl _) d_X4_put_23 ?_
  refine z_aload_n d_X4_put_24 0 rfl ?_
  refine z_dup d_X4_put_25 rfl ?_
  refine z_get (v := .int (N 2)) (6) f_X4_48_4 rfl rfl d_X4_put_26 ?_
  refine z_iconst (v := 1) d_X4_put_29 (by decide) ?_
  refine z_iload_n d_X4_put_30 1 rfl ?_
  refine z_ishl d_X4_put_31 ?_
  refine z_ior d_X4_put_32 ?_
  refine z_put 6 (XW G x (upd N 2 ((N 2) ||| (1 <<< ((nI s) &&& 31)))) (vf_upd (vf_upd R 1 (upd (R 1) s wh)) 2 (upd (R 2) s (N 3))) (vf_upd K 0 (va_up (K 0) s (some a))) r S T tl) p_X4_48_4 rfl rfl rfl (Nat.le_of_ble_eq_true rfl) (xf_6_4 G x N (vf_upd (vf_upd R 1 (upd (R 1) s wh)) 2 (upd (R 2) s (N 3))) (vf_upd K 0 (va_up (K 0) s (some a))) r S T tl _) d_X4_put_33 ?_
  refine z_iconst (v := 0) d_X4_put_36 (by decide) ?_
  refine z_istore [(4, .int 0), (0, .ref (x 6)), (1, .int (nI s)), (2, .ref a), (3, .int wh)] d_X4_put_37 (by decide) rfl ?_
  refine z_perm [0, 4, 3, 2, 1] rfl ?_
  exact l_X4_put G x N R K r S T tl s c st lg a q ci nu wh hs hW hci hq (lg + 1) 0 (by omega) (by omega)
set_option maxHeartbeats 4000000 in
set_option maxRecDepth 100000 in
theorem l2_X4_drop (G : GT) (x : Nat → Nat) (N : Nat → Int32) (R : Nat → Nat → Int32) (K : Nat → Nat → Option Nat) (r : Nat → Nat) (S : Nat → Int32) (T : Nat → Nat → Int32) (tl : va_W) (bits : Int32) : ∀ (n : Nat) (k : Nat) (hk : k ≤ 25) (hm : 25 < k + n), Tr G mX4_drop (Rm 0 0 0) (OM G (Pv (XW G x (upd N 2 (N 2 &&& (bits ^^^ (-1)))) (vf_upd R 3 (ldL bits (R 3) 25)) (vf_upd K 0 (dpL bits (K 0) 16)) r S T tl)) 0 0) 0 0 43 [(2, .int (nI k)), (1, .int bits), (0, .ref (x 6))] [] (XW G x (upd N 2 (N 2 &&& (bits ^^^ (-1)))) (vf_upd R 3 (ldL bits (R 3) k)) (vf_upd K 0 (dpL bits (K 0) 16)) r S T tl) := by
  intro n
  induction n with
  | zero =>
    intro k hk hm
    exact absurd hm (by omega)
  | succ n ih =>
    intro k hk hm
    refine z_iload_n d_X4_drop_43 0 rfl ?_
    refine z_bipush (v := 25) d_X4_drop_44 (by decide) ?_
    refine z_icmp_ge d_X4_drop_46 (fun c_46 => ?_) (fun c_46 => ?_)
    · exact z_vret _ d_X4_drop_67 rfl (Pv.of (by have h9 := ge_nI (N := 25) (by omega) (by decide) c_46; rw [show k = 25 by omega]))
    · have h9 : k < 25 := lt_nI (by omega) (by decide) c_46
      refine z_aload_n d_X4_drop_49 2 rfl ?_
      refine z_get (v := .ref (x 10)) (6) f_X4_24_4 rfl rfl d_X4_drop_50 ?_
      refine z_iload_n d_X4_drop_53 0 rfl ?_
      refine z_dup2 d_X4_drop_54 rfl rfl ?_
      refine z_ialdN (10) k rfl (nI_toInt (by omega)) (by omega) d_X4_drop_55 ?_
      refine z_iload_n d_X4_drop_56 1 rfl ?_
      refine z_iconst (v := -1) d_X4_drop_57 (by decide) ?_
      refine z_ixor d_X4_drop_58 ?_
      refine z_iand d_X4_drop_59 ?_
      refine z_iastN 10 k (XW G x (upd N 2 (N 2 &&& (bits ^^^ (-1)))) (vf_upd R 3 (upd (ldL bits (R 3) k) k (((ldL bits (R 3) k) k) &&& (bits ^^^ (-1))))) (vf_upd K 0 (dpL bits (K 0) 16)) r S T tl) rfl (nI_toInt (by omega)) (by omega) rfl d_X4_drop_60 ?_
      refine z_iinc (nI (k + 1)) [(2, .int (nI (k + 1))), (1, .int bits), (0, .ref (x 6))] 0 d_X4_drop_61 rfl (nI_1 _) (by decide) rfl ?_
      refine z_goto d_X4_drop_64 ?_
      exact ih (k + 1) (by omega) (by omega)
theorem dpF_t {bits : Int32} {f : Nat → Option Nat} {k : Nat} (h : ¬ bits >>> (nI k &&& 31) &&& 1 = 0) : va_up (dpL bits f k) k none = dpL bits f (k + 1) := by show _ = dpF bits k (dpL bits f k); rw [dpF, if_neg h]
theorem dpF_f {bits : Int32} {f : Nat → Option Nat} {k : Nat} (h : bits >>> (nI k &&& 31) &&& 1 = 0) : dpL bits f k = dpL bits f (k + 1) := by show _ = dpF bits k (dpL bits f k); rw [dpF, if_pos h]
set_option maxHeartbeats 4000000 in
set_option maxRecDepth 100000 in
theorem l1_X4_drop (G : GT) (x : Nat → Nat) (N : Nat → Int32) (R : Nat → Nat → Int32) (K : Nat → Nat → Option Nat) (r : Nat → Nat) (S : Nat → Int32) (T : Nat → Nat → Int32) (tl : va_W) (bits : Int32) : ∀ (n : Nat) (k : Nat) (hk : k ≤ 16) (hm : 16 < k + n), Tr G mX4_drop (Rm 0 0 0) (OM G (Pv (XW G x (upd N 2 (N 2 &&& (bits ^^^ (-1)))) (vf_upd R 3 (ldL bits (R 3) 25)) (vf_upd K 0 (dpL bits (K 0) 16)) r S T tl)) 0 0) 0 0 2 [(2, .int (nI k)), (1, .int bits), (0, .ref (x 6))] [] (XW G x N R (vf_upd K 0 (dpL bits (K 0) k)) r S T tl) := by
  intro n
  induction n with
  | zero =>
    intro k hk hm
    exact absurd hm (by omega)
  | succ n ih =>
    intro k hk hm
    refine z_iload_n d_X4_drop_2 0 rfl ?_
    refine z_bipush (v := 16) d_X4_drop_3 (by decide) ?_
    refine z_icmp_ge d_X4_drop_5 (fun c_5 => ?_) (fun c_5 => ?_)
    · refine z_aload_n d_X4_drop_29 2 rfl ?_
      refine z_dup d_X4_drop_30 rfl ?_
      refine z_get (v := .int (N 2)) (6) f_X4_48_4 rfl rfl d_X4_drop_31 ?_
      refine z_iload_n d_X4_drop_34 1 rfl ?_
      refine z_iconst (v := -1) d_X4_drop_35 (by decide) ?_
      refine z_ixor d_X4_drop_36 ?_
      refine z_iand d_X4_drop_37 ?_
      refine z_put 6 (XW G x (upd N 2 ((N 2) &&& (bits ^^^ (-1)))) R (vf_upd K 0 (dpL bits (K 0) k)) r S T tl) p_X4_48_4 rfl rfl rfl (Nat.le_of_ble_eq_true rfl) (xf_6_4 G x N R (vf_upd K 0 (dpL bits (K 0) k)) r S T tl _) d_X4_drop_38 ?_
      refine z_iconst (v := 0) d_X4_drop_41 (by decide) ?_
      refine z_istore_n [(2, .int 0), (1, .int bits), (0, .ref (x 6))] d_X4_drop_42 (by decide) rfl ?_
      rw [show k = 16 by have h9 := ge_nI (N := 16) (by omega) (by decide) c_5; omega]
      exact l2_X4_drop G x N R K r S T tl bits 26 0 (by omega) (by omega)
    · have h9 : k < 16 := lt_nI (by omega) (by decide) c_5
      refine z_iload_n d_X4_drop_8 1 rfl ?_
      refine z_iload_n d_X4_drop_9 0 rfl ?_
      refine z_ishr d_X4_drop_10 ?_
      refine z_iconst (v := 1) d_X4_drop_11 (by decide) ?_
      refine z_iand d_X4_drop_12 ?_
      refine z_if_eq d_X4_drop_13 (fun c_13 => ?_) (fun c_13 => ?_)
      · refine z_iinc (nI (k + 1)) [(2, .int (nI (k + 1))), (1, .int bits), (0, .ref (x 6))] 0 d_X4_drop_23 rfl (nI_1 _) (by decide) rfl ?_
        refine z_goto d_X4_drop_26 ?_
        rw [dpF_f c_13]
        exact ih (k + 1) (by omega) (by omega)
      · refine z_aload_n d_X4_drop_16 2 rfl ?_
        refine z_get (v := .ref (x 7)) (6) f_X4_11_4 rfl rfl d_X4_drop_17 ?_
        refine z_iload_n d_X4_drop_20 0 rfl ?_
        refine z_null d_X4_drop_21 ?_
        refine z_astN (E0 := RX10) 7 3 k (XW G x N R (vf_upd K 0 (va_up (dpL bits (K 0) k) k none)) r S T tl) rfl rfl (nI_toInt (by omega)) (by omega) rfl d_X4_drop_22 ?_
        refine z_iinc (nI (k + 1)) [(2, .int (nI (k + 1))), (1, .int bits), (0, .ref (x 6))] 0 d_X4_drop_23 rfl (nI_1 _) (by decide) rfl ?_
        refine z_goto d_X4_drop_26 ?_
        rw [dpF_t c_13]
        exact ih (k + 1) (by omega) (by omega)
set_option maxHeartbeats 4000000 in
set_option maxRecDepth 100000 in
theorem t_X4_drop (G : GT) (x : Nat → Nat) (N : Nat → Int32) (R : Nat → Nat → Int32) (K : Nat → Nat → Option Nat) (r : Nat → Nat) (S : Nat → Int32) (T : Nat → Nat → Int32) (tl : va_W) (bits : Int32)  : Ct G mX4_drop 0 0 0 [.ref (x 6), .int bits] (XW G x N R K r S T tl) (Pv (XW G x (upd N 2 (N 2 &&& (bits ^^^ (-1)))) (vf_upd R 3 (ldL bits (R 3) 25)) (vf_upd K 0 (dpL bits (K 0) 16)) r S T tl)) := by
  refine Ct.intro [(0, .ref (x 6)), (1, .int bits)] (by decide) rfl (Nat.le_of_ble_eq_true rfl) ?_
  refine z_iconst (v := 0) d_X4_drop_0 (by decide) ?_
  refine z_istore_n [(2, .int 0), (0, .ref (x 6)), (1, .int bits)] d_X4_drop_1 (by decide) rfl ?_
  refine z_perm [0, 2, 1] rfl ?_
  exact l1_X4_drop G x N R K r S T tl bits 17 0 (by omega) (by omega)
set_option maxHeartbeats 4000000 in
set_option maxRecDepth 100000 in
theorem t_X4_lose (G : GT) (x : Nat → Nat) (N : Nat → Int32) (R : Nat → Nat → Int32) (K : Nat → Nat → Option Nat) (r : Nat → Nat) (S : Nat → Int32) (T : Nat → Nat → Int32) (tl : va_W) (bits : Int32)  : Ct G mX4_lose 1 0 0 [.ref (x 6), .int bits] (XW G x N R K r S T tl) (Pi (pcI bits) (XW G x (upd N 2 (N 2 &&& (bits ^^^ (-1)))) (vf_upd R 3 (ldL bits (R 3) 25)) (vf_upd K 0 (dpL bits (K 0) 16)) r S T tl)) := by
  refine Ct.intro [(0, .ref (x 6)), (1, .int bits)] (by decide) rfl (Nat.le_of_ble_eq_true rfl) ?_
  refine z_aload_n d_X4_lose_0 0 rfl ?_
  refine z_iload_n d_X4_lose_1 1 rfl ?_
  refine z_callVv 6 c_X4_69 (t_X4_drop G x N R K r S T tl  bits ) rfl rfl rfl rfl (Nat.le_of_ble_eq_true rfl) rfl d_X4_lose_2 ?_
  refine z_iload_n d_X4_lose_5 1 rfl ?_
  refine z_callSp c_X4_51 (t_J6_bitCount_0f7a4 G bits (XW G x (upd N 2 ((N 2) &&& (bits ^^^ (-1)))) (vf_upd R 3 (ldL bits (R 3) 25)) (vf_upd K 0 (dpL bits (K 0) 16)) r S T tl)) rfl rfl (Nat.le_of_ble_eq_true rfl) rfl d_X4_lose_6 ?_
  exact z_iret _ d_X4_lose_9 rfl (Pi.of rfl)
set_option maxHeartbeats 4000000 in
set_option maxRecDepth 100000 in
theorem t_X4_ageOf (G : GT) (x : Nat → Nat) (N : Nat → Int32) (R : Nat → Nat → Int32) (K : Nat → Nat → Option Nat) (r : Nat → Nat) (S : Nat → Int32) (T : Nat → Nat → Int32) (tl : va_W) (I : Nat → Int32) (A : Nat → Nat → Int32) (h : NtR I A (N 2) (N 3) (N 4) (R 1) (R 2) (R 3) (K 0) tl) (s : Nat) (th : Int32) (hs : s < 16) : Ct G mX4_ageOf 0 0 0 [.ref (x 6), .int (nI s), .int th] (XW G x N R K r S T tl) (Pi (th - A 10 s) (XW G x N R K r S T tl)) := by
  refine Ct.intro [(0, .ref (x 6)), (1, .int (nI s)), (2, .int th)] (by decide) rfl (Nat.le_of_ble_eq_true rfl) ?_
  refine z_iload_n d_X4_ageOf_0 2 rfl ?_
  refine z_aload_n d_X4_ageOf_1 0 rfl ?_
  refine z_get (v := .ref (x 9)) (6) f_X4_21_4 rfl rfl d_X4_ageOf_2 ?_
  refine z_iload_n d_X4_ageOf_5 1 rfl ?_
  refine z_ialdN (9) s rfl (nI_toInt (by omega)) (by omega) d_X4_ageOf_6 ?_
  refine z_isub d_X4_ageOf_7 ?_
  exact z_iret _ d_X4_ageOf_8 rfl (Pi.of (by rw [h.la hs]))
set_option maxHeartbeats 4000000 in
set_option maxRecDepth 100000 in
theorem t_X4_isGreen (G : GT) (x : Nat → Nat) (N : Nat → Int32) (R : Nat → Nat → Int32) (K : Nat → Nat → Option Nat) (r : Nat → Nat) (S : Nat → Int32) (T : Nat → Nat → Int32) (tl : va_W) (I : Nat → Int32) (A : Nat → Nat → Int32) (h : NtR I A (N 2) (N 3) (N 4) (R 1) (R 2) (R 3) (K 0) tl) (s : Nat) (th : Int32) (hs : s < 16) : Ct G mX4_isGreen 1 0 0 [.ref (x 6), .int (nI s), .int th] (XW G x N R K r S T tl) (Pi (b01 (decide (th - A 10 s < I 14))) (XW G x N R K r S T tl)) := by
  refine Ct.intro [(0, .ref (x 6)), (1, .int (nI s)), (2, .int th)] (by decide) rfl (Nat.le_of_ble_eq_true rfl) ?_
  refine z_aload_n d_X4_isGreen_0 0 rfl ?_
  refine z_iload_n d_X4_isGreen_1 1 rfl ?_
  refine z_iload_n d_X4_isGreen_2 2 rfl ?_
  refine z_callVp 6 c_X4_73 (t_X4_ageOf G x N R K r S T tl I A h s th hs) rfl rfl rfl rfl (Nat.le_of_ble_eq_true rfl) rfl d_X4_isGreen_3 ?_
  refine z_aload_n d_X4_isGreen_6 0 rfl ?_
  refine z_get (v := .int (N 4)) (6) f_X4_27_4 rfl rfl d_X4_isGreen_7 ?_
  refine z_icmp_ge d_X4_isGreen_10 (fun c_10 => ?_) (fun c_10 => ?_)
  · refine z_iconst (v := 0) d_X4_isGreen_17 (by decide) ?_
    exact z_zret _ d_X4_isGreen_18 rfl (by first | rfl | decide) (Pi.of (by rw [h.gr] at c_10; simp [b01, c_10]))
  · refine z_iconst (v := 1) d_X4_isGreen_13 (by decide) ?_
    refine z_goto d_X4_isGreen_14 ?_
    exact z_zret _ d_X4_isGreen_18 rfl (by first | rfl | decide) (Pi.of (by rw [h.gr] at c_10; simp [b01, c_10]))
theorem orS_t {P : Nat → Bool} {k : Nat} {a : Int32} (hp : P k = true) (ha : a = itL (orF P) 0 k) : a ||| 1 <<< (nI k &&& 31) = itL (orF P) 0 (k + 1) := by rw [itL, orF, if_pos hp, ← ha]
theorem orS_f {P : Nat → Bool} {k : Nat} {a : Int32} (hp : P k = false) (ha : a = itL (orF P) 0 k) : a = itL (orF P) 0 (k + 1) := by rw [itL, orF, if_neg (by rw [hp]; decide), ← ha, Int32.or_zero]
def grQ (I : Nat → Int32) (A : Nat → Nat → Int32) (th : Int32) (k : Nat) : Bool := isS I (nI k) && decide (th - A 10 k < I 14)
def slQ (I : Nat → Int32) (A : Nat → Nat → Int32) (k : Nat) : Bool := isS I (nI k) && slS I A k
theorem b01_z {p : Bool} (h : b01 p = 0) : p = false := b01_0.mp h
theorem b01_o {p : Bool} (h : ¬ b01 p = 0) : p = true := b01_n0.mp h
set_option maxHeartbeats 4000000 in
set_option maxRecDepth 100000 in
theorem l_X4_greenBits (G : GT) (x : Nat → Nat) (N : Nat → Int32) (R : Nat → Nat → Int32) (K : Nat → Nat → Option Nat) (r : Nat → Nat) (S : Nat → Int32) (T : Nat → Nat → Int32) (tl : va_W) (I : Nat → Int32) (A : Nat → Nat → Int32) (h : NtR I A (N 2) (N 3) (N 4) (R 1) (R 2) (R 3) (K 0) tl) (th : Int32) : ∀ (n : Nat) (k : Nat) (a : Int32) (hk9 : k ≤ 16) (hm : 16 < k + n) (ha : a = itL (orF (grQ I A th)) 0 k), Tr G mX4_greenBits (Rm 2 0 0) (OM G (Pi (orS (grQ I A th) 16) (XW G x N R K r S T tl)) 0 0) 0 0 4 [(3, .int (nI k)), (2, .int a), (1, .int th), (0, .ref (x 6))] [] (XW G x N R K r S T tl) := by
  intro n
  induction n with
  | zero =>
    intro k a hk9 hm ha
    exact absurd hm (by omega)
  | succ n ih =>
    intro k a hk9 hm ha
    refine z_iload_n d_X4_greenBits_4 0 rfl ?_
    refine z_bipush (v := 16) d_X4_greenBits_5 (by decide) ?_
    refine z_icmp_ge d_X4_greenBits_7 (fun c_7 => ?_) (fun c_7 => ?_)
    · refine z_iload_n d_X4_greenBits_39 1 rfl ?_
      exact z_iret _ d_X4_greenBits_40 rfl (Pi.of (by have h9 := ge_nI (N := 16) (by omega) (by decide) c_7; rw [ha, orS, show k = 16 by omega]))
    · have hk : k < 16 := lt_nI (by omega) (by decide) c_7
      refine z_aload_n d_X4_greenBits_10 3 rfl ?_
      refine z_iload_n d_X4_greenBits_11 0 rfl ?_
      refine z_callVp 6 c_X4_77 (t_X4_has G x N R K r S T tl I A h (nI k) ) rfl rfl rfl rfl (Nat.le_of_ble_eq_true rfl) rfl d_X4_greenBits_12 ?_
      refine z_if_eq d_X4_greenBits_15 (fun c_15 => ?_) (fun c_15 => ?_)
      · refine z_iinc (nI (k + 1)) [(3, .int (nI (k + 1))), (2, .int a), (1, .int th), (0, .ref (x 6))] 0 d_X4_greenBits_33 rfl (nI_1 _) (by decide) rfl ?_
        refine z_goto d_X4_greenBits_36 ?_
        exact ih (k + 1) _ (by omega) (by omega) (orS_f (P := grQ I A th) (by rw [grQ, b01_z c_15]; rfl) ha)
      · refine z_aload_n d_X4_greenBits_18 3 rfl ?_
        refine z_iload_n d_X4_greenBits_19 0 rfl ?_
        refine z_iload_n d_X4_greenBits_20 2 rfl ?_
        refine z_callVp 6 c_X4_81 (t_X4_isGreen G x N R K r S T tl I A h k th hk) rfl rfl rfl rfl (Nat.le_of_ble_eq_true rfl) rfl d_X4_greenBits_21 ?_
        refine z_if_eq d_X4_greenBits_24 (fun c_24 => ?_) (fun c_24 => ?_)
        · refine z_iinc (nI (k + 1)) [(3, .int (nI (k + 1))), (2, .int a), (1, .int th), (0, .ref (x 6))] 0 d_X4_greenBits_33 rfl (nI_1 _) (by decide) rfl ?_
          refine z_goto d_X4_greenBits_36 ?_
          exact ih (k + 1) _ (by omega) (by omega) (orS_f (P := grQ I A th) (by rw [grQ, b01_z c_24, Bool.and_false]) ha)
        · refine z_iload_n d_X4_greenBits_27 1 rfl ?_
          refine z_iconst (v := 1) d_X4_greenBits_28 (by decide) ?_
          refine z_iload_n d_X4_greenBits_29 0 rfl ?_
          refine z_ishl d_X4_greenBits_30 ?_
          refine z_ior d_X4_greenBits_31 ?_
          refine z_istore_n [(2, .int (a ||| (1 <<< ((nI k) &&& 31)))), (3, .int (nI k)), (1, .int th), (0, .ref (x 6))] d_X4_greenBits_32 (by decide) rfl ?_
          refine z_iinc (nI (k + 1)) [(3, .int (nI (k + 1))), (2, .int (a ||| (1 <<< ((nI k) &&& 31)))), (1, .int th), (0, .ref (x 6))] 1 d_X4_greenBits_33 rfl (nI_1 _) (by decide) rfl ?_
          refine z_goto d_X4_greenBits_36 ?_
          exact ih (k + 1) _ (by omega) (by omega) (orS_t (P := grQ I A th) (by rw [grQ, b01_o c_15, b01_o c_24]; rfl) ha)
set_option maxHeartbeats 4000000 in
set_option maxRecDepth 100000 in
theorem t_X4_greenBits (G : GT) (x : Nat → Nat) (N : Nat → Int32) (R : Nat → Nat → Int32) (K : Nat → Nat → Option Nat) (r : Nat → Nat) (S : Nat → Int32) (T : Nat → Nat → Int32) (tl : va_W) (I : Nat → Int32) (A : Nat → Nat → Int32) (h : NtR I A (N 2) (N 3) (N 4) (R 1) (R 2) (R 3) (K 0) tl) (th : Int32)  : Ct G mX4_greenBits 2 0 0 [.ref (x 6), .int th] (XW G x N R K r S T tl) (Pi (orS (grQ I A th) 16) (XW G x N R K r S T tl)) := by
  refine Ct.intro [(0, .ref (x 6)), (1, .int th)] (by decide) rfl (Nat.le_of_ble_eq_true rfl) ?_
  refine z_iconst (v := 0) d_X4_greenBits_0 (by decide) ?_
  refine z_istore_n [(2, .int 0), (0, .ref (x 6)), (1, .int th)] d_X4_greenBits_1 (by decide) rfl ?_
  refine z_iconst (v := 0) d_X4_greenBits_2 (by decide) ?_
  refine z_istore_n [(3, .int 0), (2, .int 0), (0, .ref (x 6)), (1, .int th)] d_X4_greenBits_3 (by decide) rfl ?_
  refine z_perm [0, 1, 3, 2] rfl ?_
  exact l_X4_greenBits G x N R K r S T tl I A h th 17 0 0 (by omega) (by omega) rfl
set_option maxHeartbeats 4000000 in
set_option maxRecDepth 100000 in
theorem l_X4_slipping (G : GT) (x : Nat → Nat) (N : Nat → Int32) (R : Nat → Nat → Int32) (K : Nat → Nat → Option Nat) (r : Nat → Nat) (S : Nat → Int32) (T : Nat → Nat → Int32) (tl : va_W) (I : Nat → Int32) (A : Nat → Nat → Int32) (h : NtR I A (N 2) (N 3) (N 4) (R 1) (R 2) (R 3) (K 0) tl) : ∀ (n : Nat) (k : Nat) (a : Int32) (hk9 : k ≤ 16) (hm : 16 < k + n) (ha : a = itL (orF (slQ I A)) 0 k), Tr G mX4_slipping (Rm 4 0 0) (OM G (Pi (orS (slQ I A) 16) (XW G x N R K r S T tl)) 0 0) 0 0 4 [(2, .int (nI k)), (1, .int a), (0, .ref (x 6))] [] (XW G x N R K r S T tl) := by
  intro n
  induction n with
  | zero =>
    intro k a hk9 hm ha
    exact absurd hm (by omega)
  | succ n ih =>
    intro k a hk9 hm ha
    refine z_iload_n d_X4_slipping_4 0 rfl ?_
    refine z_bipush (v := 16) d_X4_slipping_5 (by decide) ?_
    refine z_icmp_ge d_X4_slipping_7 (fun c_7 => ?_) (fun c_7 => ?_)
    · refine z_iload_n d_X4_slipping_51 1 rfl ?_
      exact z_iret _ d_X4_slipping_52 rfl (Pi.of (by have h9 := ge_nI (N := 16) (by omega) (by decide) c_7; rw [ha, orS, show k = 16 by omega]))
    · have hk : k < 16 := lt_nI (by omega) (by decide) c_7
      refine z_aload_n d_X4_slipping_10 2 rfl ?_
      refine z_iload_n d_X4_slipping_11 0 rfl ?_
      refine z_callVp 6 c_X4_77 (t_X4_has G x N R K r S T tl I A h (nI k) ) rfl rfl rfl rfl (Nat.le_of_ble_eq_true rfl) rfl d_X4_slipping_12 ?_
      refine z_if_eq d_X4_slipping_15 (fun c_15 => ?_) (fun c_15 => ?_)
      · refine z_iinc (nI (k + 1)) [(2, .int (nI (k + 1))), (1, .int a), (0, .ref (x 6))] 0 d_X4_slipping_45 rfl (nI_1 _) (by decide) rfl ?_
        refine z_goto d_X4_slipping_48 ?_
        exact ih (k + 1) _ (by omega) (by omega) (orS_f (P := slQ I A) (by rw [slQ, b01_z c_15]; rfl) ha)
      · have hb : bt (I 12) k = true := by rw [← isS_bt hk]; exact b01_o c_15
        refine z_aload_n d_X4_slipping_18 2 rfl ?_
        refine z_get (v := .ref (x 7)) (6) f_X4_11_4 rfl rfl d_X4_slipping_19 ?_
        refine z_iload_n d_X4_slipping_22 0 rfl ?_
        refine z_aldq (C0 := RX10) 7 3 k rfl rfl (nI_toInt (by omega)) (by omega) d_X4_slipping_23 ?_
        obtain ⟨a23, q23, ha23, hq23⟩ := h.k1 hk hb
        rw [ha23]
        refine z_aload_n d_X4_slipping_24 2 rfl ?_
        refine z_iload_n d_X4_slipping_25 0 rfl ?_
        refine z_aload_n d_X4_slipping_26 2 rfl ?_
        refine z_get (v := .int (N 3)) (6) f_X4_57_4 rfl rfl d_X4_slipping_27 ?_
        refine z_callVp 6 c_X4_73 (t_X4_ageOf G x N R K r S T tl I A h k (N 3) hk) rfl rfl rfl rfl (Nat.le_of_ble_eq_true rfl) rfl d_X4_slipping_30 ?_
        refine z_vslips (q23 + 31) (h.kd hk hb) hq23 w_0920 (Nat.le_of_ble_eq_true rfl) rfl d_X4_slipping_33 ?_
        refine z_if_eq d_X4_slipping_36 (fun c_36 => ?_) (fun c_36 => ?_)
        · refine z_iinc (nI (k + 1)) [(2, .int (nI (k + 1))), (1, .int a), (0, .ref (x 6))] 0 d_X4_slipping_45 rfl (nI_1 _) (by decide) rfl ?_
          refine z_goto d_X4_slipping_48 ?_
          exact ih (k + 1) _ (by omega) (by omega) (orS_f (P := slQ I A) (by rw [slQ, show slS I A k = slK (A 7 k) (A 9 k) (I 13 - A 10 k) from rfl, ← h.ho, b01_z c_36, Bool.and_false]) ha)
        · refine z_iload_n d_X4_slipping_39 1 rfl ?_
          refine z_iconst (v := 1) d_X4_slipping_40 (by decide) ?_
          refine z_iload_n d_X4_slipping_41 0 rfl ?_
          refine z_ishl d_X4_slipping_42 ?_
          refine z_ior d_X4_slipping_43 ?_
          refine z_istore_n [(1, .int (a ||| (1 <<< ((nI k) &&& 31)))), (2, .int (nI k)), (0, .ref (x 6))] d_X4_slipping_44 (by decide) rfl ?_
          refine z_iinc (nI (k + 1)) [(2, .int (nI (k + 1))), (1, .int (a ||| (1 <<< ((nI k) &&& 31)))), (0, .ref (x 6))] 1 d_X4_slipping_45 rfl (nI_1 _) (by decide) rfl ?_
          refine z_goto d_X4_slipping_48 ?_
          exact ih (k + 1) _ (by omega) (by omega) (orS_t (P := slQ I A) (by rw [slQ, show slS I A k = slK (A 7 k) (A 9 k) (I 13 - A 10 k) from rfl, ← h.ho, b01_o c_15, b01_o c_36]; rfl) ha)
set_option maxHeartbeats 4000000 in
set_option maxRecDepth 100000 in
theorem t_X4_slipping (G : GT) (x : Nat → Nat) (N : Nat → Int32) (R : Nat → Nat → Int32) (K : Nat → Nat → Option Nat) (r : Nat → Nat) (S : Nat → Int32) (T : Nat → Nat → Int32) (tl : va_W) (I : Nat → Int32) (A : Nat → Nat → Int32) (h : NtR I A (N 2) (N 3) (N 4) (R 1) (R 2) (R 3) (K 0) tl)  : Ct G mX4_slipping 4 0 0 [.ref (x 6)] (XW G x N R K r S T tl) (Pi (orS (slQ I A) 16) (XW G x N R K r S T tl)) := by
  refine Ct.intro [(0, .ref (x 6))] (by decide) rfl (Nat.le_of_ble_eq_true rfl) ?_
  refine z_iconst (v := 0) d_X4_slipping_0 (by decide) ?_
  refine z_istore_n [(1, .int 0), (0, .ref (x 6))] d_X4_slipping_1 (by decide) rfl ?_
  refine z_iconst (v := 0) d_X4_slipping_2 (by decide) ?_
  refine z_istore_n [(2, .int 0), (1, .int 0), (0, .ref (x 6))] d_X4_slipping_3 (by decide) rfl ?_
  exact l_X4_slipping G x N R K r S T tl I A h 17 0 0 (by omega) (by omega) rfl
set_option maxHeartbeats 4000000 in
set_option maxRecDepth 100000 in
theorem l_X4_met (G : GT) (x : Nat → Nat) (N : Nat → Int32) (R : Nat → Nat → Int32) (K : Nat → Nat → Option Nat) (r : Nat → Nat) (S : Nat → Int32) (T : Nat → Nat → Int32) (tl : va_W) (wh oth most : Int32) (c st lg : Nat) (hW : WP wh c st lg) : ∀ (n : Nat) (i : Nat) (a : Int32) (hi : i ≤ lg) (hm : lg < i + n) (ha : a = itL (metF (R 3) c st oth most) 0 i), Tr G mX4_met (Rm 1 0 0) (OM G (Pi (metS (R 3) c st lg oth most) (XW G x N R K r S T tl)) 0 0) 0 0 6 [(5, .int (nI i)), (4, .int a), (3, .int most), (2, .int oth), (1, .int wh), (0, .ref (x 6))] [] (XW G x N R K r S T tl) := by
  intro n
  induction n with
  | zero =>
    intro i a hi hm ha
    exact absurd hm (by omega)
  | succ n ih =>
    intro i a hi hm ha
    refine z_iload d_X4_met_6 0 rfl ?_
    refine z_iload_n d_X4_met_8 4 rfl ?_
    refine z_callSp c_X4_60 (t_X11_longOf G wh (XW G x N R K r S T tl)) rfl rfl (Nat.le_of_ble_eq_true rfl) rfl d_X4_met_9 ?_
    refine z_icmp_ge d_X4_met_12 (fun c_12 => ?_) (fun c_12 => ?_)
    · refine z_iload d_X4_met_56 1 rfl ?_
      exact z_iret _ d_X4_met_58 rfl (Pi.of (by rw [ha, metS, show i = lg by have := hW.2.2.1; rw [hW.2.2.2.2.2.2.1] at c_12; have h9 := ge_nI (by omega) (by omega) c_12; omega]))
    · have h9 : i < lg := by have := hW.2.2.1; rw [hW.2.2.2.2.2.2.1] at c_12; exact lt_nI (by omega) (by omega) c_12
      refine z_aload_n d_X4_met_15 5 rfl ?_
      refine z_get (v := .ref (x 10)) (6) f_X4_24_4 rfl rfl d_X4_met_16 ?_
      refine z_iload_n d_X4_met_19 4 rfl ?_
      refine z_callSp c_X4_63 (t_X11_firstOf G wh (XW G x N R K r S T tl)) rfl rfl (Nat.le_of_ble_eq_true rfl) rfl d_X4_met_20 ?_
      refine z_iload d_X4_met_23 0 rfl ?_
      refine z_iload_n d_X4_met_25 4 rfl ?_
      refine z_callSp c_X4_66 (t_X11_stepOf G wh (XW G x N R K r S T tl)) rfl rfl (Nat.le_of_ble_eq_true rfl) rfl d_X4_met_26 ?_
      refine z_imul d_X4_met_29 ?_
      refine z_iadd d_X4_met_30 ?_
      refine z_ialdN (10) (c + i * st) rfl (hW.ix h9) (hW.2.2.2.2.1 i h9) d_X4_met_31 ?_
      refine z_iload_n d_X4_met_32 3 rfl ?_
      refine z_iand d_X4_met_33 ?_
      refine z_istore [(6, .int (((R 3) (c + i * st)) &&& oth)), (5, .int (nI i)), (4, .int a), (3, .int most), (2, .int oth), (1, .int wh), (0, .ref (x 6))] d_X4_met_34 (by decide) rfl ?_
      refine z_iload d_X4_met_36 2 rfl ?_
      refine z_iload d_X4_met_38 0 rfl ?_
      refine z_callSp c_X4_51 (t_J6_bitCount_0f7a4 G (((R 3) (c + i * st)) &&& oth) (XW G x N R K r S T tl)) rfl rfl (Nat.le_of_ble_eq_true rfl) rfl d_X4_met_40 ?_
      refine z_iload_n d_X4_met_43 3 rfl ?_
      refine z_mmin c_X4_96 (Nat.le_of_ble_eq_true rfl) rfl d_X4_met_44 ?_
      refine z_iadd d_X4_met_47 ?_
      refine z_istore [(4, .int (a + (mnS (pcI (((R 3) (c + i * st)) &&& oth)) most))), (6, .int (((R 3) (c + i * st)) &&& oth)), (5, .int (nI i)), (3, .int most), (2, .int oth), (1, .int wh), (0, .ref (x 6))] d_X4_met_48 (by decide) rfl ?_
      refine z_iinc (nI (i + 1)) [(5, .int (nI (i + 1))), (4, .int (a + (mnS (pcI (((R 3) (c + i * st)) &&& oth)) most))), (6, .int (((R 3) (c + i * st)) &&& oth)), (3, .int most), (2, .int oth), (1, .int wh), (0, .ref (x 6))] 2 d_X4_met_50 rfl (nI_1 _) (by decide) rfl ?_
      refine z_goto d_X4_met_53 ?_
      refine z_perm [0, 1, 3, 4, 5, 6] rfl ?_
      exact ih (i + 1) _ (by omega) (by omega) (by rw [ha]; rfl)
set_option maxHeartbeats 4000000 in
set_option maxRecDepth 100000 in
theorem t_X4_met (G : GT) (x : Nat → Nat) (N : Nat → Int32) (R : Nat → Nat → Int32) (K : Nat → Nat → Option Nat) (r : Nat → Nat) (S : Nat → Int32) (T : Nat → Nat → Int32) (tl : va_W) (wh oth most : Int32) (c st lg : Nat) (hW : WP wh c st lg)  : Ct G mX4_met 1 0 0 [.ref (x 6), .int wh, .int oth, .int most] (XW G x N R K r S T tl) (Pi (metS (R 3) c st lg oth most) (XW G x N R K r S T tl)) := by
  refine Ct.intro [(0, .ref (x 6)), (1, .int wh), (2, .int oth), (3, .int most)] (by decide) rfl (Nat.le_of_ble_eq_true rfl) ?_
  refine z_iconst (v := 0) d_X4_met_0 (by decide) ?_
  refine z_istore [(4, .int 0), (0, .ref (x 6)), (1, .int wh), (2, .int oth), (3, .int most)] d_X4_met_1 (by decide) rfl ?_
  refine z_iconst (v := 0) d_X4_met_3 (by decide) ?_
  refine z_istore [(5, .int 0), (4, .int 0), (0, .ref (x 6)), (1, .int wh), (2, .int oth), (3, .int most)] d_X4_met_4 (by decide) rfl ?_
  refine z_perm [0, 1, 5, 4, 3, 2] rfl ?_
  exact l_X4_met G x N R K r S T tl wh oth most c st lg hW (lg + 1) 0 0 (by omega) (by omega) rfl
set_option maxHeartbeats 4000000 in
set_option maxRecDepth 100000 in
theorem t_X4_crosses (G : GT) (x : Nat → Nat) (N : Nat → Int32) (R : Nat → Nat → Int32) (K : Nat → Nat → Option Nat) (r : Nat → Nat) (S : Nat → Int32) (T : Nat → Nat → Int32) (tl : va_W) (I : Nat → Int32) (A : Nat → Nat → Int32) (h : NtR I A (N 2) (N 3) (N 4) (R 1) (R 2) (R 3) (K 0) tl) (s : Nat) (mask : Int32) (hs : s < 16) (hb : bt (I 12) s = true) (hm : Sb mask (I 12)) : Ct G mX4_crosses 2 0 0 [.ref (x 6), .int (nI s), .int mask] (XW G x N R K r S T tl) (Pi (crS A s mask 16) (XW G x N R K r S T tl)) := by
  have hW0 := okW_WP (h.ok hs hb)
  obtain ⟨c, st, lg, hW⟩ := hW0
  have hw := h.wh hs
  refine Ct.intro [(0, .ref (x 6)), (1, .int (nI s)), (2, .int mask)] (by decide) rfl (Nat.le_of_ble_eq_true rfl) ?_
  refine z_aload_n d_X4_crosses_0 0 rfl ?_
  refine z_aload_n d_X4_crosses_1 0 rfl ?_
  refine z_get (v := .ref (x 8)) (6) f_X4_17_4 rfl rfl d_X4_crosses_2 ?_
  refine z_iload_n d_X4_crosses_5 1 rfl ?_
  refine z_ialdN (8) s rfl (nI_toInt (by omega)) (by omega) d_X4_crosses_6 ?_
  refine z_top hw ?_
  refine z_iload_n d_X4_crosses_7 2 rfl ?_
  refine z_iconst (v := 1) d_X4_crosses_8 (by decide) ?_
  refine z_iload_n d_X4_crosses_9 1 rfl ?_
  refine z_ishl d_X4_crosses_10 ?_
  refine z_iconst (v := -1) d_X4_crosses_11 (by decide) ?_
  refine z_ixor d_X4_crosses_12 ?_
  refine z_iand d_X4_crosses_13 ?_
  refine z_bipush (v := 16) d_X4_crosses_14 (by decide) ?_
  refine z_callVp 6 c_X4_88 (t_X4_met G x N R K r S T tl (A 8 s) (mask &&& ((1 <<< ((nI s) &&& 31)) ^^^ (-1))) 16 c st lg hW) rfl rfl rfl rfl (Nat.le_of_ble_eq_true rfl) rfl d_X4_crosses_16 ?_
  exact z_iret _ d_X4_crosses_19 rfl (Pi.of (by rw [met_cr h hs hb hW hm (by decide)]))
theorem ti_nn (A : Nat → Nat → Int32) (s : Nat) : 0 ≤ (tiS A s).toInt := by
  unfold tiS; (repeat' split) <;> decide
set_option maxHeartbeats 4000000 in
set_option maxRecDepth 100000 in
theorem t_X4_rubs (G : GT) (x : Nat → Nat) (N : Nat → Int32) (R : Nat → Nat → Int32) (K : Nat → Nat → Option Nat) (r : Nat → Nat) (S : Nat → Int32) (T : Nat → Nat → Int32) (tl : va_W) (I : Nat → Int32) (A : Nat → Nat → Int32) (h : NtR I A (N 2) (N 3) (N 4) (R 1) (R 2) (R 3) (K 0) tl) (s : Nat) (mask : Int32) (hs : s < 16) (hb : bt (I 12) s = true) (hm : Sb mask (I 12)) : Ct G mX4_rubs 4 0 0 [.ref (x 6), .int (nI s), .int mask] (XW G x N R K r S T tl) (Pi (crS A s mask (tiS A s)) (XW G x N R K r S T tl)) := by
  have hW0 := okW_WP (h.ok hs hb)
  obtain ⟨c, st, lg, hW⟩ := hW0
  have hw := h.wh hs
  have hk := hs
  refine Ct.intro [(0, .ref (x 6)), (1, .int (nI s)), (2, .int mask)] (by decide) rfl (Nat.le_of_ble_eq_true rfl) ?_
  refine z_aload_n d_X4_rubs_0 0 rfl ?_
  refine z_iload_n d_X4_rubs_1 1 rfl ?_
  refine z_callVp 6 c_X4_77 (t_X4_has G x N R K r S T tl I A h (nI s) ) rfl rfl rfl rfl (Nat.le_of_ble_eq_true rfl) rfl d_X4_rubs_2 ?_
  refine z_if_eq d_X4_rubs_5 (fun c_5 => ?_) (fun c_5 => ?_)
  · exact absurd c_5 (by rw [isS_bt hs, hb]; decide)
  refine z_aload_n d_X4_rubs_8 0 rfl ?_
  refine z_aload_n d_X4_rubs_9 0 rfl ?_
  refine z_get (v := .ref (x 8)) (6) f_X4_17_4 rfl rfl d_X4_rubs_10 ?_
  refine z_iload_n d_X4_rubs_13 1 rfl ?_
  refine z_ialdN (8) s rfl (nI_toInt (by omega)) (by omega) d_X4_rubs_14 ?_
  refine z_top hw ?_
  refine z_iload_n d_X4_rubs_15 2 rfl ?_
  refine z_iconst (v := 1) d_X4_rubs_16 (by decide) ?_
  refine z_iload_n d_X4_rubs_17 1 rfl ?_
  refine z_ishl d_X4_rubs_18 ?_
  refine z_iconst (v := -1) d_X4_rubs_19 (by decide) ?_
  refine z_ixor d_X4_rubs_20 ?_
  refine z_iand d_X4_rubs_21 ?_
  refine z_aload_n d_X4_rubs_22 0 rfl ?_
  refine z_get (v := .ref (x 7)) (6) f_X4_11_4 rfl rfl d_X4_rubs_23 ?_
  refine z_iload_n d_X4_rubs_26 1 rfl ?_
  refine z_aldq (C0 := RX10) 7 3 s rfl rfl (nI_toInt (by omega)) (by omega) d_X4_rubs_27 ?_
  obtain ⟨a27, q27, ha27, hq27⟩ := h.k1 hk hb
  rw [ha27]
  refine z_vties (q27 + 31) (h.kd hk hb) hq27 w_0705 (Nat.le_of_ble_eq_true rfl) rfl d_X4_rubs_28 ?_
  refine z_callVp 6 c_X4_88 (t_X4_met G x N R K r S T tl (A 8 s) (mask &&& ((1 <<< ((nI s) &&& 31)) ^^^ (-1))) (tiK (A 7 s)) c st lg hW) rfl rfl rfl rfl (Nat.le_of_ble_eq_true rfl) rfl d_X4_rubs_31 ?_
  refine z_goto d_X4_rubs_34 ?_
  exact z_iret _ d_X4_rubs_38 rfl (Pi.of (by rw [show tiK (A 7 s) = tiS A s from rfl, met_cr h hs hb hW hm (ti_nn A s)]))
def nm6 (f : Nat → Int32) (a b c d e g : Int32) : Nat → Int32 := upd (upd (upd (upd (upd (upd f 0 a) 1 b) 2 c) 3 d) 4 e) 5 g
theorem nm6_F (f : Nat → Int32) (a b c d e g : Int32) : ∀ k, k < 6 → nm6 f a b c d e g k = nmF a b c d e g k := by
  intro k hk
  rcases (show k = 0 ∨ k = 1 ∨ k = 2 ∨ k = 3 ∨ k = 4 ∨ k = 5 by omega) with rfl | rfl | rfl | rfl | rfl | rfl <;> rfl
set_option maxHeartbeats 4000000 in
set_option maxRecDepth 100000 in
theorem t_X4_name (G : GT) (x : Nat → Nat) (N : Nat → Int32) (R : Nat → Nat → Int32) (K : Nat → Nat → Option Nat) (r : Nat → Nat) (S : Nat → Int32) (T : Nat → Nat → Int32) (tl : va_W) (a : Int32) (b : Int32) (c : Int32) (d : Int32) (e : Int32) (g : Int32)  : Ct G mX4_name 0 0 0 [.ref (x 6), .int a, .int b, .int c, .int d, .int e, .int g] (XW G x N R K r S T tl) (Pv (XW G x N R K r S (vf_upd T 2 (nm6 (T 2) a b c d e g)) tl)) := by
  refine Ct.intro [(0, .ref (x 6)), (1, .int a), (2, .int b), (3, .int c), (4, .int d), (5, .int e), (6, .int g)] (by decide) rfl (Nat.le_of_ble_eq_true rfl) ?_
  refine z_aload_n d_X4_name_0 0 rfl ?_
  refine z_get (v := .ref (x 11)) (6) f_X4_31_4 rfl rfl d_X4_name_1 ?_
  refine z_iconst (v := 0) d_X4_name_4 (by decide) ?_
  refine z_iload_n d_X4_name_5 1 rfl ?_
  refine z_iastN 11 0 (XW G x N R K r S (vf_upd T 2 (upd (T 2) 0 a)) tl) rfl rfl (by decide) (xa_11 G x N R K r S T tl _) d_X4_name_6 ?_
  refine z_aload_n d_X4_name_7 0 rfl ?_
  refine z_get (v := .ref (x 11)) (6) f_X4_31_4 rfl rfl d_X4_name_8 ?_
  refine z_iconst (v := 1) d_X4_name_11 (by decide) ?_
  refine z_iload_n d_X4_name_12 2 rfl ?_
  refine z_iastN 11 1 (XW G x N R K r S (vf_upd T 2 (upd (upd (T 2) 0 a) 1 b)) tl) rfl rfl (by decide) rfl d_X4_name_13 ?_
  refine z_aload_n d_X4_name_14 0 rfl ?_
  refine z_get (v := .ref (x 11)) (6) f_X4_31_4 rfl rfl d_X4_name_15 ?_
  refine z_iconst (v := 2) d_X4_name_18 (by decide) ?_
  refine z_iload_n d_X4_name_19 3 rfl ?_
  refine z_iastN 11 2 (XW G x N R K r S (vf_upd T 2 (upd (upd (upd (T 2) 0 a) 1 b) 2 c)) tl) rfl rfl (by decide) rfl d_X4_name_20 ?_
  refine z_aload_n d_X4_name_21 0 rfl ?_
  refine z_get (v := .ref (x 11)) (6) f_X4_31_4 rfl rfl d_X4_name_22 ?_
  refine z_iconst (v := 3) d_X4_name_25 (by decide) ?_
  refine z_iload d_X4_name_26 4 rfl ?_
  refine z_iastN 11 3 (XW G x N R K r S (vf_upd T 2 (upd (upd (upd (upd (T 2) 0 a) 1 b) 2 c) 3 d)) tl) rfl rfl (by decide) rfl d_X4_name_28 ?_
  refine z_aload_n d_X4_name_29 0 rfl ?_
  refine z_get (v := .ref (x 11)) (6) f_X4_31_4 rfl rfl d_X4_name_30 ?_
  refine z_iconst (v := 4) d_X4_name_33 (by decide) ?_
  refine z_iload d_X4_name_34 5 rfl ?_
  refine z_iastN 11 4 (XW G x N R K r S (vf_upd T 2 (upd (upd (upd (upd (upd (T 2) 0 a) 1 b) 2 c) 3 d) 4 e)) tl) rfl rfl (by decide) rfl d_X4_name_36 ?_
  refine z_aload_n d_X4_name_37 0 rfl ?_
  refine z_get (v := .ref (x 11)) (6) f_X4_31_4 rfl rfl d_X4_name_38 ?_
  refine z_iconst (v := 5) d_X4_name_41 (by decide) ?_
  refine z_iload d_X4_name_42 6 rfl ?_
  refine z_iastN 11 5 (XW G x N R K r S (vf_upd T 2 (upd (upd (upd (upd (upd (upd (T 2) 0 a) 1 b) 2 c) 3 d) 4 e) 5 g)) tl) rfl rfl (by decide) rfl d_X4_name_44 ?_
  exact z_vret _ d_X4_name_45 rfl (Pv.of rfl)
set_option maxHeartbeats 4000000 in
set_option maxRecDepth 100000 in
theorem t_X4_nameStrip (G : GT) (x : Nat → Nat) (N : Nat → Int32) (R : Nat → Nat → Int32) (K : Nat → Nat → Option Nat) (r : Nat → Nat) (S : Nat → Int32) (T : Nat → Nat → Int32) (tl : va_W) (wh : Int32) (cr : Int32) (ag : Int32) (sn : Int32)  : Ct G mX4_nameStrip 1 0 0 [.ref (x 6), .int wh, .int cr, .int ag, .int sn] (XW G x N R K r S T tl) (Pv (XW G x N R K r S (vf_upd T 2 (nm6 (T 2) (irm (wh / 100) 5) (wh / 100 / 5) cr (irm wh 10) ag sn)) tl)) := by
  refine Ct.intro [(0, .ref (x 6)), (1, .int wh), (2, .int cr), (3, .int ag), (4, .int sn)] (by decide) rfl (Nat.le_of_ble_eq_true rfl) ?_
  refine z_aload_n d_X4_nameStrip_0 0 rfl ?_
  refine z_iload_n d_X4_nameStrip_1 1 rfl ?_
  refine z_callSp c_X4_63 (t_X11_firstOf G wh (XW G x N R K r S T tl)) rfl rfl (Nat.le_of_ble_eq_true rfl) rfl d_X4_nameStrip_2 ?_
  refine z_iconst (v := 5) d_X4_nameStrip_5 (by decide) ?_
  refine z_irm d_X4_nameStrip_6 (by decide) ?_
  refine z_iload_n d_X4_nameStrip_7 1 rfl ?_
  refine z_callSp c_X4_63 (t_X11_firstOf G wh (XW G x N R K r S T tl)) rfl rfl (Nat.le_of_ble_eq_true rfl) rfl d_X4_nameStrip_8 ?_
  refine z_iconst (v := 5) d_X4_nameStrip_11 (by decide) ?_
  refine z_idiv d_X4_nameStrip_12 (by decide) ?_
  refine z_iload_n d_X4_nameStrip_13 2 rfl ?_
  refine z_iload_n d_X4_nameStrip_14 1 rfl ?_
  refine z_callSp c_X4_60 (t_X11_longOf G wh (XW G x N R K r S T tl)) rfl rfl (Nat.le_of_ble_eq_true rfl) rfl d_X4_nameStrip_15 ?_
  refine z_iload_n d_X4_nameStrip_18 3 rfl ?_
  refine z_iload d_X4_nameStrip_19 4 rfl ?_
  refine z_callVv 6 c_X4_123 (t_X4_name G x N R K r S T tl  (irm (wh / 100) 5) ((wh / 100) / 5) cr (irm wh 10) ag sn ) rfl rfl rfl rfl (Nat.le_of_ble_eq_true rfl) rfl d_X4_nameStrip_21 ?_
  exact z_vret _ d_X4_nameStrip_24 rfl (Pv.of rfl)
theorem TxR.at {G : GT} {cd : CD} {num : Int32} {a : Nat} {tl : va_W} (h : TxR G cd num a tl) : ∃ q : Nat, ∃ fs : List Value, tl[q]? = some (a, .inr (9, fs)) := by
  obtain ⟨q, q1, q2, c, e, f, g, hq, -⟩ := h
  exact ⟨q, _, hq⟩
theorem rub_S (v : Int32) : mxS 0 (mnS 99 v) = wiS v 0 99 := by
  unfold mxS mnS wiS
  by_cases h1 : v < 0
  · have h2 : ¬ 99 < v := by rw [lt_i] at h1 ⊢; rw [i_0] at h1; rw [l_99]; omega
    have h3 : ¬ 0 < v := by rw [lt_i] at h1 ⊢; rw [i_0] at *; omega
    rw [if_neg h2, if_neg h3, if_pos h1]
  · rw [if_neg h1]
    by_cases h2 : 99 < v
    · rw [if_pos h2, if_pos (by decide)]
    · rw [if_neg h2]
      by_cases h3 : 0 < v
      · rw [if_pos h3]
      · rw [if_neg h3]; rw [lt_i] at h1 h3; rw [i_0] at *; rw [eq_i, i_0]; omega
set_option maxHeartbeats 4000000 in
set_option maxRecDepth 100000 in
theorem t_X4_hold (G : GT) (x : Nat → Nat) (N : Nat → Int32) (R : Nat → Nat → Int32) (K : Nat → Nat → Option Nat) (r : Nat → Nat) (S : Nat → Int32) (T : Nat → Nat → Int32) (tl : va_W) (I : Nat → Int32) (A : Nat → Nat → Int32) (h : NtR I A (N 2) (N 3) (N 4) (R 1) (R 2) (R 3) (K 0) tl) (cd : CD) (num : Int32) (hT : TxR G cd num (r 0) tl) (s : Nat) (mask : Int32) (th : Int32) (hs : s < 16) (hb : bt (I 12) s = true) (hm : Sb mask (I 12)) : Ct G mX4_hold 5 0 0 [.ref (x 6), .int (nI s), .int mask, .int th] (XW G x N R K r S T tl) (Px G x N R K r S tl (some (.int (hoS cd (upd I 13 th) A s mask)))) := by
  have hk := hs
  have hw := h.wh hs
  refine Ct.intro [(0, .ref (x 6)), (1, .int (nI s)), (2, .int mask), (3, .int th)] (by decide) rfl (Nat.le_of_ble_eq_true rfl) ?_
  refine z_aload_n d_X4_hold_0 0 rfl ?_
  refine z_iload_n d_X4_hold_1 1 rfl ?_
  refine z_callVp 6 c_X4_77 (t_X4_has G x N R K r S T tl I A h (nI s) ) rfl rfl rfl rfl (Nat.le_of_ble_eq_true rfl) rfl d_X4_hold_2 ?_
  refine z_if_ne d_X4_hold_5 (fun c_5 => ?_) (fun c_5 => ?_)
  rotate_left
  · exact absurd c_5 (by rw [isS_bt hs, hb]; decide)
  refine z_aload_n d_X4_hold_10 0 rfl ?_
  refine z_iload_n d_X4_hold_11 1 rfl ?_
  refine z_iload_n d_X4_hold_12 3 rfl ?_
  refine z_callVp 6 c_X4_73 (t_X4_ageOf G x N R K r S T tl I A h s th hk) rfl rfl rfl rfl (Nat.le_of_ble_eq_true rfl) rfl d_X4_hold_13 ?_
  refine z_istore [(4, .int (th - A 10 s)), (0, .ref (x 6)), (1, .int (nI s)), (2, .int mask), (3, .int th)] d_X4_hold_16 (by decide) rfl ?_
  refine z_aload_n d_X4_hold_18 1 rfl ?_
  refine z_aload_n d_X4_hold_19 1 rfl ?_
  refine z_get (v := .ref (x 8)) (6) f_X4_17_4 rfl rfl d_X4_hold_20 ?_
  refine z_iload_n d_X4_hold_23 2 rfl ?_
  refine z_ialdN (8) s rfl (nI_toInt (by omega)) (by omega) d_X4_hold_24 ?_
  refine z_top hw ?_
  refine z_aload_n d_X4_hold_25 1 rfl ?_
  refine z_iload_n d_X4_hold_26 2 rfl ?_
  refine z_iload_n d_X4_hold_27 3 rfl ?_
  refine z_callVp 6 c_X4_101 (t_X4_crosses G x N R K r S T tl I A h s mask hk hb hm) rfl rfl rfl rfl (Nat.le_of_ble_eq_true rfl) rfl d_X4_hold_28 ?_
  refine z_iload d_X4_hold_31 0 rfl ?_
  refine z_iload_n d_X4_hold_33 3 rfl ?_
  refine z_callSp c_X4_51 (t_J6_bitCount_0f7a4 G mask (XW G x N R K r S T tl)) rfl rfl (Nat.le_of_ble_eq_true rfl) rfl d_X4_hold_34 ?_
  refine z_callVv 6 c_X4_104 (t_X4_nameStrip G x N R K r S T tl  (A 8 s) (crS A s mask 16) (th - A 10 s) (pcI mask) ) rfl rfl rfl rfl (Nat.le_of_ble_eq_true rfl) rfl d_X4_hold_37 ?_
  refine z_iconst (v := 0) d_X4_hold_40 (by decide) ?_
  refine z_bipush (v := 99) d_X4_hold_41 (by decide) ?_
  refine z_aload_n d_X4_hold_43 1 rfl ?_
  refine z_get (v := .ref (r 0)) (6) f_X4_44_4 rfl rfl d_X4_hold_44 ?_
  refine z_iconst (v := 0) d_X4_hold_47 (by decide) ?_
  refine z_aload_n d_X4_hold_48 1 rfl ?_
  refine z_get (v := .ref (x 11)) (6) f_X4_31_4 rfl rfl d_X4_hold_49 ?_
  refine z_aload_n d_X4_hold_52 1 rfl ?_
  refine z_get (v := .ref (x 12)) (6) f_X4_34_4 rfl rfl d_X4_hold_53 ?_
  obtain ⟨qt, fs9, hqt⟩ := hT.at
  refine z_callV (qt + 31) c_X4_108 hqt rfl (t_X9_worth G x N R K r S (vf_upd T 2 (nm6 (T 2) (irm ((A 8 s) / 100) 5) ((A 8 s) / 100 / 5) (crS A s mask 16) (irm (A 8 s) 10) (th - A 10 s) (pcI mask))) tl cd num (r 0) hT 0 (by decide)) rfl rfl (Nat.le_of_ble_eq_true rfl) rfl d_X4_hold_56 ?_
  rintro v56 w56 ⟨rfl, T56, rfl⟩
  refine z_mmin c_X4_96 (Nat.le_of_ble_eq_true rfl) rfl d_X4_hold_59 ?_
  refine z_mmax c_X4_114 (Nat.le_of_ble_eq_true rfl) rfl d_X4_hold_62 ?_
  refine z_istore [(5, .int (mxS 0 (mnS 99 (vOf ((vf_upd T 2 (nm6 (T 2) (irm ((A 8 s) / 100) 5) ((A 8 s) / 100 / 5) (crS A s mask 16) (irm (A 8 s) 10) (th - A 10 s) (pcI mask))) 2) (pt cd 0))))), (4, .int (th - A 10 s)), (0, .ref (x 6)), (1, .int (nI s)), (2, .int mask), (3, .int th)] d_X4_hold_65 (by decide) rfl ?_
  refine z_aload_n d_X4_hold_67 2 rfl ?_
  refine z_get (v := .ref (x 7)) (6) f_X4_11_4 rfl rfl d_X4_hold_68 ?_
  refine z_iload_n d_X4_hold_71 3 rfl ?_
  refine z_aldq (C0 := RX10) 7 3 s rfl rfl (nI_toInt (by omega)) (by omega) d_X4_hold_72 ?_
  obtain ⟨a72, q72, ha72, hq72⟩ := h.k1 hk hb
  rw [ha72]
  refine z_iload d_X4_hold_73 1 rfl ?_
  refine z_vknot (q72 + 31) (h.kd hk hb) hq72 w_0734 (Nat.le_of_ble_eq_true rfl) rfl d_X4_hold_75 ?_
  refine z_iconst (v := 0) d_X4_hold_78 (by decide) ?_
  refine z_mmax c_X4_114 (Nat.le_of_ble_eq_true rfl) rfl d_X4_hold_79 ?_
  refine z_iload d_X4_hold_82 0 rfl ?_
  refine z_aload_n d_X4_hold_84 2 rfl ?_
  refine z_iload_n d_X4_hold_85 3 rfl ?_
  refine z_iload_n d_X4_hold_86 4 rfl ?_
  refine z_callVp 6 c_X4_120 (t_X4_rubs G x N R K r S T56 tl I A h s mask hk hb hm) rfl rfl rfl rfl (Nat.le_of_ble_eq_true rfl) rfl d_X4_hold_87 ?_
  refine z_imul d_X4_hold_90 ?_
  refine z_iadd d_X4_hold_91 ?_
  exact z_iret _ d_X4_hold_92 rfl ⟨px_i (by show mxS (knK (A 7 s) (A 9 s) (th - A 10 s)) 0 + mxS 0 (mnS 99 (vOf (nm6 (T 2) (irm (A 8 s / 100) 5) (A 8 s / 100 / 5) (crS A s mask 16) (irm (A 8 s) 10) (th - A 10 s) (pcI mask)) (pt cd 0))) * crS A s mask (tiS A s) = _; rw [vO_c (nm6_F _ _ _ _ _ _ _), rub_S]; rfl), _, rfl⟩
