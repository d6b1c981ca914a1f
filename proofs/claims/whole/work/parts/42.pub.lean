/-! THE PUBLIC METHODS of class X: the net -/
theorem l_8 : (8 : Int32).toInt = 8 := by decide
set_option maxHeartbeats 4000000 in
set_option maxRecDepth 100000 in
theorem t_X11_out (G : GT) (x : Nat → Nat) (N : Nat → Int32) (R : Nat → Nat → Int32) (K : Nat → Nat → Option Nat) (r : Nat → Nat) (S : Nat → Int32) (T : Nat → Nat → Int32) (tl : va_W) (I : Nat → Int32) (A : Nat → Nat → Int32) (hx : XRel G I A N R K r tl) (s : Int32)  : Ct G mX11_out 2 0 0 [.ref (x 0), .int s] (XW G x N R K r S T tl) (XP G x (some (.int (outR I s))) (outI I s) A) := by
  have h := hx.nt
  refine Ct.intro [(0, .ref (x 0)), (1, .int s)] (by decide) rfl (Nat.le_of_ble_eq_true rfl) ?_
  refine z_aload_n d_X11_out_0 0 rfl ?_
  refine z_get (v := .ref (x 6)) (0) f_X11_60_11 rfl rfl d_X11_out_1 ?_
  refine z_iload_n d_X11_out_4 1 rfl ?_
  refine z_callVp 6 c_X11_83 (t_X4_has G x N R K r S T tl I A h s ) rfl rfl rfl rfl (Nat.le_of_ble_eq_true rfl) rfl d_X11_out_5 ?_
  refine z_if_ne d_X11_out_8 (fun c_8 => ?_) (fun c_8 => ?_)
  · refine z_aload_n d_X11_out_14 0 rfl ?_
    refine z_get (v := .ref (x 6)) (0) f_X11_60_11 rfl rfl d_X11_out_15 ?_
    refine z_iconst (v := 1) d_X11_out_18 (by decide) ?_
    refine z_iload_n d_X11_out_19 1 rfl ?_
    refine z_ishl d_X11_out_20 ?_
    refine z_callVv 6 c_X11_87 (t_X4_drop G x N R K r S T tl  (1 <<< (s &&& 31)) ) rfl rfl rfl rfl (Nat.le_of_ble_eq_true rfl) rfl d_X11_out_21 ?_
    refine z_aload_n d_X11_out_24 0 rfl ?_
    refine z_get (v := .ref (x 6)) (0) f_X11_60_11 rfl rfl d_X11_out_25 ?_
    refine z_callVp 6 c_X11_91 (t_X4_size G x (upd N 2 ((N 2) &&& ((1 <<< (s &&& 31)) ^^^ (-1)))) (vf_upd R 3 (ldL (1 <<< (s &&& 31)) (R 3) 25)) (vf_upd K 0 (dpL (1 <<< (s &&& 31)) (K 0) 16)) r S T tl (drI I (1 <<< (s &&& 31))) A (h.drop (1 <<< (s &&& 31)))) rfl rfl rfl rfl (Nat.le_of_ble_eq_true rfl) rfl d_X11_out_28 ?_
    exact z_iret _ d_X11_out_31 rfl (XP.of (by rw [outR, if_pos (b01_o c_8)]; rfl) (by rw [outI, if_pos (b01_o c_8)]; exact hx.net0 (fun i hi => if_neg (by omega)) (fun _ _ => rfl) (fun i hi => if_neg (by omega)) (fun i hi => if_neg (by omega)) (fun i hi => if_neg (by omega)) (h.drop (1 <<< (s &&& 31)))))
  · refine z_bipush (v := -2) d_X11_out_11 (by decide) ?_
    exact z_iret _ d_X11_out_13 rfl (XP.of (by rw [outR, if_neg (by rw [b01_z c_8]; decide)]) (by rw [outI, if_neg (by rw [b01_z c_8]; decide)]; exact hx))
set_option maxHeartbeats 4000000 in
set_option maxRecDepth 100000 in
theorem t_X11_hours (G : GT) (x : Nat → Nat) (N : Nat → Int32) (R : Nat → Nat → Int32) (K : Nat → Nat → Option Nat) (r : Nat → Nat) (S : Nat → Int32) (T : Nat → Nat → Int32) (tl : va_W) (I : Nat → Int32) (A : Nat → Nat → Int32) (hx : XRel G I A N R K r tl) (n0 : Int32)  : Ct G mX11_hours 0 0 0 [.ref (x 0), .int n0] (XW G x N R K r S T tl) (XP G x (some (.int (houR I n0))) (houI I n0) A) := by
  have h := hx.nt
  refine Ct.intro [(0, .ref (x 0)), (1, .int n0)] (by decide) rfl (Nat.le_of_ble_eq_true rfl) ?_
  refine z_iload_n d_X11_hours_0 1 rfl ?_
  refine z_iconst (v := 1) d_X11_hours_1 (by decide) ?_
  refine z_icmp_lt d_X11_hours_2 (fun c_2 => ?_) (fun c_2 => ?_)
  · refine z_bipush (v := -2) d_X11_hours_11 (by decide) ?_
    exact z_iret _ d_X11_hours_13 rfl (XP.of (by rw [houR, if_neg (by rw [inB_iff]; simp only [lt_i, i_1, l_99] at c_2; omega)]) (by rw [houI, if_neg (by rw [inB_iff]; simp only [lt_i, i_1, l_99] at c_2; omega)]; exact hx))
  · refine z_iload_n d_X11_hours_5 1 rfl ?_
    refine z_bipush (v := 99) d_X11_hours_6 (by decide) ?_
    refine z_icmp_le d_X11_hours_8 (fun c_8 => ?_) (fun c_8 => ?_)
    · refine z_aload_n d_X11_hours_14 0 rfl ?_
      refine z_get (v := .ref (x 6)) (0) f_X11_60_11 rfl rfl d_X11_hours_15 ?_
      refine z_get (v := .int (N 3)) (6) f_X11_94_4 rfl rfl d_X11_hours_18 ?_
      refine z_top h.ho ?_
      refine z_iload_n d_X11_hours_21 1 rfl ?_
      refine z_iadd d_X11_hours_22 ?_
      refine z_sipush (v := 9999) d_X11_hours_23 (by decide) ?_
      refine z_icmp_le d_X11_hours_26 (fun c_26 => ?_) (fun c_26 => ?_)
      · refine z_aload_n d_X11_hours_32 0 rfl ?_
        refine z_get (v := .ref (x 6)) (0) f_X11_60_11 rfl rfl d_X11_hours_33 ?_
        refine z_dup d_X11_hours_36 rfl ?_
        refine z_get (v := .int (N 3)) (6) f_X11_94_4 rfl rfl d_X11_hours_37 ?_
        refine z_top h.ho ?_
        refine z_iload_n d_X11_hours_40 1 rfl ?_
        refine z_iadd d_X11_hours_41 ?_
        refine z_put 6 (XW G x (upd N 3 ((I 13) + n0)) R K r S T tl) p_X11_94_4 rfl rfl rfl (Nat.le_of_ble_eq_true rfl) (xf_6_5 G x N R K r S T tl _) d_X11_hours_42 ?_
        refine z_aload_n d_X11_hours_45 0 rfl ?_
        refine z_get (v := .ref (x 6)) (0) f_X11_60_11 rfl rfl d_X11_hours_46 ?_
        refine z_get (v := .int ((I 13) + n0)) (6) f_X11_94_4 rfl rfl d_X11_hours_49 ?_
        exact z_iret _ d_X11_hours_52 rfl (XP.of (by rw [houR, if_pos (by rw [inB_iff]; simp only [lt_i, i_1, l_99] at c_2 c_8; omega), if_neg c_26]) (by rw [houI, if_pos (by rw [inB_iff]; simp only [lt_i, i_1, l_99] at c_2 c_8; omega), if_neg c_26]; exact hx.net0 (fun i hi => if_neg (by omega)) (fun _ _ => rfl) (fun i hi => if_neg (by omega)) (fun _ _ => rfl) (fun _ _ => rfl) ⟨h.al, rfl, h.gr, h.2.2.2⟩))
      · refine z_bipush (v := -4) d_X11_hours_29 (by decide) ?_
        exact z_iret _ d_X11_hours_31 rfl (XP.of (by rw [houR, if_pos (by rw [inB_iff]; simp only [lt_i, i_1, l_99] at c_2 c_8; omega), if_pos c_26]) (by rw [houI, if_pos (by rw [inB_iff]; simp only [lt_i, i_1, l_99] at c_2 c_8; omega), if_pos c_26]; exact hx))
    · refine z_bipush (v := -2) d_X11_hours_11 (by decide) ?_
      exact z_iret _ d_X11_hours_13 rfl (XP.of (by rw [houR, if_neg (by rw [inB_iff]; simp only [lt_i, i_1, l_99] at c_2 c_8; omega)]) (by rw [houI, if_neg (by rw [inB_iff]; simp only [lt_i, i_1, l_99] at c_2 c_8; omega)]; exact hx))
set_option maxHeartbeats 4000000 in
set_option maxRecDepth 100000 in
theorem t_X11_green (G : GT) (x : Nat → Nat) (N : Nat → Int32) (R : Nat → Nat → Int32) (K : Nat → Nat → Option Nat) (r : Nat → Nat) (S : Nat → Int32) (T : Nat → Nat → Int32) (tl : va_W) (I : Nat → Int32) (A : Nat → Nat → Int32) (hx : XRel G I A N R K r tl) (n0 : Int32)  : Ct G mX11_green 0 0 0 [.ref (x 0), .int n0] (XW G x N R K r S T tl) (XP G x (some (.int (greR I n0))) (greI I n0) A) := by
  have h := hx.nt
  refine Ct.intro [(0, .ref (x 0)), (1, .int n0)] (by decide) rfl (Nat.le_of_ble_eq_true rfl) ?_
  refine z_iload_n d_X11_green_0 1 rfl ?_
  refine z_iconst (v := 1) d_X11_green_1 (by decide) ?_
  refine z_icmp_lt d_X11_green_2 (fun c_2 => ?_) (fun c_2 => ?_)
  · refine z_bipush (v := -2) d_X11_green_11 (by decide) ?_
    exact z_iret _ d_X11_green_13 rfl (XP.of (by rw [greR, if_neg (by rw [inB_iff]; simp only [lt_i, i_1, l_99] at c_2; omega)]) (by rw [greI, if_neg (by rw [inB_iff]; simp only [lt_i, i_1, l_99] at c_2; omega)]; exact hx))
  · refine z_iload_n d_X11_green_5 1 rfl ?_
    refine z_bipush (v := 99) d_X11_green_6 (by decide) ?_
    refine z_icmp_le d_X11_green_8 (fun c_8 => ?_) (fun c_8 => ?_)
    · refine z_aload_n d_X11_green_14 0 rfl ?_
      refine z_get (v := .ref (x 6)) (0) f_X11_60_11 rfl rfl d_X11_green_15 ?_
      refine z_get (v := .int (N 4)) (6) f_X11_97_4 rfl rfl d_X11_green_18 ?_
      refine z_top h.gr ?_
      refine z_istore_n [(2, .int (I 14)), (0, .ref (x 0)), (1, .int n0)] d_X11_green_21 (by decide) rfl ?_
      refine z_aload_n d_X11_green_22 1 rfl ?_
      refine z_get (v := .ref (x 6)) (0) f_X11_60_11 rfl rfl d_X11_green_23 ?_
      refine z_iload_n d_X11_green_26 2 rfl ?_
      refine z_put 6 (XW G x (upd N 4 n0) R K r S T tl) p_X11_97_4 rfl rfl rfl (Nat.le_of_ble_eq_true rfl) (xf_6_6 G x N R K r S T tl _) d_X11_green_27 ?_
      refine z_iload_n d_X11_green_30 0 rfl ?_
      exact z_iret _ d_X11_green_31 rfl (XP.of (by rw [greR, if_pos (by rw [inB_iff]; simp only [lt_i, i_1, l_99] at c_2 c_8; omega)]) (by rw [greI, if_pos (by rw [inB_iff]; simp only [lt_i, i_1, l_99] at c_2 c_8; omega)]; exact hx.net0 (fun i hi => if_neg (by omega)) (fun _ _ => rfl) (fun i hi => if_neg (by omega)) (fun _ _ => rfl) (fun _ _ => rfl) ⟨h.al, h.ho, rfl, h.2.2.2⟩))
    · refine z_bipush (v := -2) d_X11_green_11 (by decide) ?_
      exact z_iret _ d_X11_green_13 rfl (XP.of (by rw [greR, if_neg (by rw [inB_iff]; simp only [lt_i, i_1, l_99] at c_2 c_8; omega)]) (by rw [greI, if_neg (by rw [inB_iff]; simp only [lt_i, i_1, l_99] at c_2 c_8; omega)]; exact hx))
theorem okC_nI {c : Int32} (h : okC c = true) : ∃ k : Nat, k < 25 ∧ c = nI k := by
  rw [okC, Bool.and_eq_true, decide_eq_true_eq, decide_eq_true_eq] at h
  exact ⟨c.toInt.toNat, by omega, eq_nI (by omega)⟩
theorem isS_k {I : Nat → Int32} {s : Int32} (h : isS I s = true) : ∃ k : Nat, k < 16 ∧ s = nI k ∧ bt (I 12) k = true := by
  have h0 := h
  simp only [isS, Bool.and_eq_true, decide_eq_true_eq] at h
  refine ⟨s.toInt.toNat, by omega, eq_nI (by omega), ?_⟩
  have e : s = nI s.toInt.toNat := eq_nI (by omega)
  rw [e, isS_bt (by omega)] at h0
  exact h0
set_option maxHeartbeats 4000000 in
set_option maxRecDepth 100000 in
theorem t_X11_at (G : GT) (x : Nat → Nat) (N : Nat → Int32) (R : Nat → Nat → Int32) (K : Nat → Nat → Option Nat) (r : Nat → Nat) (S : Nat → Int32) (T : Nat → Nat → Int32) (tl : va_W) (I : Nat → Int32) (A : Nat → Nat → Int32) (hx : XRel G I A N R K r tl) (c : Int32)  : Ct G mX11_at 1 0 0 [.ref (x 0), .int c] (XW G x N R K r S T tl) (XP G x (some (.int (atR I A c))) I A) := by
  have h := hx.nt
  refine Ct.intro [(0, .ref (x 0)), (1, .int c)] (by decide) rfl (Nat.le_of_ble_eq_true rfl) ?_
  refine z_iload_n d_X11_at_0 1 rfl ?_
  refine z_callSp c_X11_149 (t_X11_isCrossing G c (XW G x N R K r S T tl)) rfl rfl (Nat.le_of_ble_eq_true rfl) rfl d_X11_at_1 ?_
  refine z_if_eq d_X11_at_4 (fun c_4 => ?_) (fun c_4 => ?_)
  · refine z_bipush (v := -2) d_X11_at_19 (by decide) ?_
    exact z_iret _ d_X11_at_21 rfl (XP.of (by rw [atR, if_neg (by rw [b01_z c_4]; decide)]) hx)
  · obtain ⟨k, hk, rfl⟩ : ∃ k : Nat, k < 25 ∧ c = nI k := okC_nI (b01_o c_4)
    refine z_aload_n d_X11_at_7 0 rfl ?_
    refine z_get (v := .ref (x 6)) (0) f_X11_60_11 rfl rfl d_X11_at_8 ?_
    refine z_get (v := .ref (x 10)) (6) f_X11_152_4 rfl rfl d_X11_at_11 ?_
    refine z_iload_n d_X11_at_14 1 rfl ?_
    refine z_ialdN (10) k rfl (nI_i (by omega)) (by omega) d_X11_at_15 ?_
    refine z_goto d_X11_at_16 ?_
    exact z_iret _ d_X11_at_21 rfl (XP.of (by rw [atR, if_pos (b01_o c_4), h.ly hk]) hx)
set_option maxHeartbeats 4000000 in
set_option maxRecDepth 100000 in
theorem t_X11_falls (G : GT) (x : Nat → Nat) (N : Nat → Int32) (R : Nat → Nat → Int32) (K : Nat → Nat → Option Nat) (r : Nat → Nat) (S : Nat → Int32) (T : Nat → Nat → Int32) (tl : va_W) (I : Nat → Int32) (A : Nat → Nat → Int32) (hx : XRel G I A N R K r tl)  : Ct G mX11_falls 6 0 0 [.ref (x 0)] (XW G x N R K r S T tl) (XP G x (some (.int (faS A (I 12)))) I A) := by
  have h := hx.nt
  refine Ct.intro [(0, .ref (x 0))] (by decide) rfl (Nat.le_of_ble_eq_true rfl) ?_
  refine z_aload_n d_X11_falls_0 0 rfl ?_
  refine z_get (v := .ref (x 6)) (0) f_X11_60_11 rfl rfl d_X11_falls_1 ?_
  refine z_aload_n d_X11_falls_4 0 rfl ?_
  refine z_get (v := .ref (x 6)) (0) f_X11_60_11 rfl rfl d_X11_falls_5 ?_
  refine z_get (v := .int (N 2)) (6) f_X11_132_4 rfl rfl d_X11_falls_8 ?_
  refine z_top h.al ?_
  refine z_callVp 6 c_X11_176 (t_X4_falling G x N R K r S T tl I A h (I 12) (Sb.rf _)) rfl rfl rfl rfl (Nat.le_of_ble_eq_true rfl) rfl d_X11_falls_11 ?_
  exact z_iret _ d_X11_falls_14 rfl (XP.of rfl hx)
set_option maxHeartbeats 4000000 in
set_option maxRecDepth 100000 in
theorem t_X11_holes (G : GT) (x : Nat → Nat) (N : Nat → Int32) (R : Nat → Nat → Int32) (K : Nat → Nat → Option Nat) (r : Nat → Nat) (S : Nat → Int32) (T : Nat → Nat → Int32) (tl : va_W) (I : Nat → Int32) (A : Nat → Nat → Int32) (hx : XRel G I A N R K r tl)  : Ct G mX11_holes 3 0 0 [.ref (x 0)] (XW G x N R K r S T tl) (XP G x (some (.int (hlS I A))) I A) := by
  have h := hx.nt
  refine Ct.intro [(0, .ref (x 0))] (by decide) rfl (Nat.le_of_ble_eq_true rfl) ?_
  refine z_aload_n d_X11_holes_0 0 rfl ?_
  refine z_get (v := .ref (x 6)) (0) f_X11_60_11 rfl rfl d_X11_holes_1 ?_
  refine z_callVp 6 c_X11_226 (t_X4_holeBits G x N R K r S T tl I A h  ) rfl rfl rfl rfl (Nat.le_of_ble_eq_true rfl) rfl d_X11_holes_4 ?_
  exact z_iret _ d_X11_holes_7 rfl (XP.of rfl hx)
set_option maxHeartbeats 4000000 in
set_option maxRecDepth 100000 in
theorem t_X11_takes (G : GT) (x : Nat → Nat) (N : Nat → Int32) (R : Nat → Nat → Int32) (K : Nat → Nat → Option Nat) (r : Nat → Nat) (S : Nat → Int32) (T : Nat → Nat → Int32) (tl : va_W) (I : Nat → Int32) (A : Nat → Nat → Int32) (hx : XRel G I A N R K r tl) (t : Nat) (cd : CD) (hOk : TxOk A t cd) (h4 : I 4 = nI t)  : Ct G mX11_takes 9 0 0 [.ref (x 0)] (XW G x N R K r S T tl) (XP G x (some (.int (b01 (tkS cd I A)))) I A) := by
  have h := hx.nt
  obtain ⟨num, hnum⟩ : ∃ num : Int32, num = nI t := ⟨_, rfl⟩
  have hT : TxR G cd num (r 0) tl := by rw [hnum]; exact hx.tx hOk h4
  refine Ct.intro [(0, .ref (x 0))] (by decide) rfl (Nat.le_of_ble_eq_true rfl) ?_
  refine z_aload_n d_X11_takes_0 0 rfl ?_
  refine z_get (v := .ref (x 6)) (0) f_X11_60_11 rfl rfl d_X11_takes_1 ?_
  refine z_aload_n d_X11_takes_4 0 rfl ?_
  refine z_get (v := .ref (x 6)) (0) f_X11_60_11 rfl rfl d_X11_takes_5 ?_
  refine z_get (v := .int (N 3)) (6) f_X11_94_4 rfl rfl d_X11_takes_8 ?_
  refine z_top h.ho ?_
  refine z_callV 6 c_X11_220 rfl rfl (t_X4_isTaken G x N R K r S T tl I A h cd num hT (I 13) ) rfl rfl (Nat.le_of_ble_eq_true rfl) rfl d_X11_takes_11 ?_
  rintro v11 w11 ⟨rfl, T11, rfl⟩
  refine z_if_eq d_X11_takes_14 (fun c_14 => ?_) (fun c_14 => ?_)
  · refine z_iconst (v := 0) d_X11_takes_21 (by decide) ?_
    exact z_iret _ d_X11_takes_22 rfl (XP.of (by have e := b01_z c_14; rw [upd_self] at e; rw [e]; rfl) hx)
  · refine z_iconst (v := 1) d_X11_takes_17 (by decide) ?_
    refine z_goto d_X11_takes_18 ?_
    exact z_iret _ d_X11_takes_22 rfl (XP.of (by have e := b01_o c_14; rw [upd_self] at e; rw [e]; rfl) hx)
set_option maxHeartbeats 4000000 in
set_option maxRecDepth 100000 in
theorem t_X11_slipped (G : GT) (x : Nat → Nat) (N : Nat → Int32) (R : Nat → Nat → Int32) (K : Nat → Nat → Option Nat) (r : Nat → Nat) (S : Nat → Int32) (T : Nat → Nat → Int32) (tl : va_W) (I : Nat → Int32) (A : Nat → Nat → Int32) (hx : XRel G I A N R K r tl)  : Ct G mX11_slipped 6 0 0 [.ref (x 0)] (XW G x N R K r S T tl) (XP G x (some (.int (slR I A))) (slI I A) A) := by
  have h := hx.nt
  refine Ct.intro [(0, .ref (x 0))] (by decide) rfl (Nat.le_of_ble_eq_true rfl) ?_
  refine z_aload_n d_X11_slipped_0 0 rfl ?_
  refine z_get (v := .ref (x 6)) (0) f_X11_60_11 rfl rfl d_X11_slipped_1 ?_
  refine z_aload_n d_X11_slipped_4 0 rfl ?_
  refine z_get (v := .ref (x 6)) (0) f_X11_60_11 rfl rfl d_X11_slipped_5 ?_
  refine z_aload_n d_X11_slipped_8 0 rfl ?_
  refine z_get (v := .ref (x 6)) (0) f_X11_60_11 rfl rfl d_X11_slipped_9 ?_
  refine z_callVp 6 c_X11_233 (t_X4_slipping G x N R K r S T tl I A h  ) rfl rfl rfl rfl (Nat.le_of_ble_eq_true rfl) rfl d_X11_slipped_12 ?_
  refine z_callVp 6 c_X11_170 (t_X4_withFallen G x N R K r S T tl I A h (orS (slQ I A) 16) ) rfl rfl rfl rfl (Nat.le_of_ble_eq_true rfl) rfl d_X11_slipped_15 ?_
  refine z_callVp 6 c_X11_173 (t_X4_lose G x N R K r S T tl  ((orS (slQ I A) 16) ||| faS A (I 12 &&& ((orS (slQ I A) 16) ^^^ (-1)))) ) rfl rfl rfl rfl (Nat.le_of_ble_eq_true rfl) rfl d_X11_slipped_18 ?_
  exact z_iret _ d_X11_slipped_21 rfl (XP.of (by rw [slip_1, slR]; exact pc_sub (lvA_sub.tr (by rw [sl_M]; exact (Sb.rf _).and))) (by rw [slip_1]; exact hx.net0 (fun i hi => if_neg (by omega)) (fun _ _ => rfl) (fun i hi => if_neg (by omega)) (fun i hi => if_neg (by omega)) (fun i hi => if_neg (by omega)) (by have h9 := h.drop (I 12 &&& (lvA A (slM I A) ^^^ (-1))); rw [drI, sub_2 (lvA_sub.tr (by rw [sl_M]; exact (Sb.rf _).and))] at h9; exact h9)))
set_option maxHeartbeats 4000000 in
set_option maxRecDepth 100000 in
theorem t_X11_pull (G : GT) (x : Nat → Nat) (N : Nat → Int32) (R : Nat → Nat → Int32) (K : Nat → Nat → Option Nat) (r : Nat → Nat) (S : Nat → Int32) (T : Nat → Nat → Int32) (tl : va_W) (I : Nat → Int32) (A : Nat → Nat → Int32) (hx : XRel G I A N R K r tl) (t : Nat) (cd : CD) (hOk : TxOk A t cd) (h4 : I 4 = nI t) (c : Int32) (sg : Int32) (what : Int32)  : Ct G mX11_pull 8 0 0 [.ref (x 0), .int c, .int sg, .int what] (XW G x N R K r S T tl) (XP G x (some (.int (puR cd I A c sg what))) I A) := by
  have h := hx.nt
  obtain ⟨num, hnum⟩ : ∃ num : Int32, num = nI t := ⟨_, rfl⟩
  have hT : TxR G cd num (r 0) tl := by rw [hnum]; exact hx.tx hOk h4
  refine Ct.intro [(0, .ref (x 0)), (1, .int c), (2, .int sg), (3, .int what)] (by decide) rfl (Nat.le_of_ble_eq_true rfl) ?_
  refine z_iload_n d_X11_pull_0 1 rfl ?_
  refine z_iload_n d_X11_pull_1 2 rfl ?_
  refine z_callSp c_X11_164 (t_X11_isPull G c sg (XW G x N R K r S T tl)) rfl rfl (Nat.le_of_ble_eq_true rfl) rfl d_X11_pull_2 ?_
  refine z_if_eq d_X11_pull_5 (fun c_5 => ?_) (fun c_5 => ?_)
  · refine z_bipush (v := -2) d_X11_pull_17 (by decide) ?_
    exact z_iret _ d_X11_pull_19 rfl (XP.of (by rw [puR, if_neg (by rw [Bool.and_eq_true]; rintro ⟨g1, g2⟩; rw [b01_z c_5] at g1; exact absurd g1 (by decide))]) hx)
  · refine z_iload_n d_X11_pull_8 3 rfl ?_
    refine z_if_lt d_X11_pull_9 (fun c_9 => ?_) (fun c_9 => ?_)
    · refine z_bipush (v := -2) d_X11_pull_17 (by decide) ?_
      exact z_iret _ d_X11_pull_19 rfl (XP.of (by rw [puR, if_neg (by rw [Bool.and_eq_true]; rintro ⟨g1, g2⟩; rw [inB_iff] at g2; simp only [lt_i, i_0, i_1] at c_9; omega)]) hx)
    · refine z_iload_n d_X11_pull_12 3 rfl ?_
      refine z_iconst (v := 1) d_X11_pull_13 (by decide) ?_
      refine z_icmp_le d_X11_pull_14 (fun c_14 => ?_) (fun c_14 => ?_)
      · have hpu := b01_o c_5
        have hpc : okC c = true := by have h9 := hpu; rw [puP, Bool.and_eq_true] at h9; exact h9.1
        obtain ⟨k, hk, rfl⟩ := okC_nI hpc
        refine z_aload_n d_X11_pull_20 0 rfl ?_
        refine z_get (v := .ref (x 6)) (0) f_X11_60_11 rfl rfl d_X11_pull_21 ?_
        refine z_iload_n d_X11_pull_24 1 rfl ?_
        refine z_iload_n d_X11_pull_25 2 rfl ?_
        refine z_callV 6 c_X11_167 rfl rfl (t_X4_takenByPull G x N R K r S T tl I A h cd num hT k sg hk) rfl rfl (Nat.le_of_ble_eq_true rfl) rfl d_X11_pull_26 ?_
        rintro v26 w26 ⟨rfl, T26, rfl⟩
        refine z_istore [(4, .int (I 12 &&& (lbS cd I A (nI k) sg ^^^ (-1)))), (0, .ref (x 0)), (1, .int (nI k)), (2, .int sg), (3, .int what)] d_X11_pull_29 (by decide) rfl ?_
        refine z_iload_n d_X11_pull_31 4 rfl ?_
        refine z_if_ne d_X11_pull_32 (fun c_32 => ?_) (fun c_32 => ?_)
        · refine z_aload_n d_X11_pull_40 1 rfl ?_
          refine z_get (v := .ref (x 6)) (0) f_X11_60_11 rfl rfl d_X11_pull_41 ?_
          refine z_iload d_X11_pull_44 0 rfl ?_
          refine z_callVp 6 c_X11_170 (t_X4_withFallen G x N R K r S T26 tl I A h (I 12 &&& (lbS cd I A (nI k) sg ^^^ (-1))) ) rfl rfl rfl rfl (Nat.le_of_ble_eq_true rfl) rfl d_X11_pull_46 ?_
          exact z_iret _ d_X11_pull_49 rfl (XP.of (by rw [puR, if_pos (by rw [Bool.and_eq_true]; refine ⟨hpu, ?_⟩; rw [inB_iff]; simp only [lt_i, i_0, i_1] at c_9 c_14; omega)]; rw [if_neg c_32]; exact pull_1 lbS_sub) hx)
        · refine z_iload d_X11_pull_35 0 rfl ?_
          refine z_goto d_X11_pull_37 ?_
          exact z_iret _ d_X11_pull_49 rfl (XP.of (by rw [puR, if_pos (by rw [Bool.and_eq_true]; refine ⟨hpu, ?_⟩; rw [inB_iff]; simp only [lt_i, i_0, i_1] at c_9 c_14; omega)]; rw [if_pos c_32]) hx)
      · refine z_bipush (v := -2) d_X11_pull_17 (by decide) ?_
        exact z_iret _ d_X11_pull_19 rfl (XP.of (by rw [puR, if_neg (by rw [Bool.and_eq_true]; rintro ⟨g1, g2⟩; rw [inB_iff] at g2; simp only [lt_i, i_0, i_1] at c_9 c_14; omega)]) hx)
set_option maxHeartbeats 4000000 in
set_option maxRecDepth 100000 in
theorem t_X11_pulled (G : GT) (x : Nat → Nat) (N : Nat → Int32) (R : Nat → Nat → Int32) (K : Nat → Nat → Option Nat) (r : Nat → Nat) (S : Nat → Int32) (T : Nat → Nat → Int32) (tl : va_W) (I : Nat → Int32) (A : Nat → Nat → Int32) (hx : XRel G I A N R K r tl) (t : Nat) (cd : CD) (hOk : TxOk A t cd) (h4 : I 4 = nI t) (c : Int32) (sg : Int32)  : Ct G mX11_pulled 8 0 0 [.ref (x 0), .int c, .int sg] (XW G x N R K r S T tl) (XP G x (some (.int (pdR cd I A c sg))) (pdI cd I A c sg) A) := by
  have h := hx.nt
  obtain ⟨num, hnum⟩ : ∃ num : Int32, num = nI t := ⟨_, rfl⟩
  have hT : TxR G cd num (r 0) tl := by rw [hnum]; exact hx.tx hOk h4
  refine Ct.intro [(0, .ref (x 0)), (1, .int c), (2, .int sg)] (by decide) rfl (Nat.le_of_ble_eq_true rfl) ?_
  refine z_iload_n d_X11_pulled_0 1 rfl ?_
  refine z_iload_n d_X11_pulled_1 2 rfl ?_
  refine z_callSp c_X11_164 (t_X11_isPull G c sg (XW G x N R K r S T tl)) rfl rfl (Nat.le_of_ble_eq_true rfl) rfl d_X11_pulled_2 ?_
  refine z_if_ne d_X11_pulled_5 (fun c_5 => ?_) (fun c_5 => ?_)
  · have hpu := b01_o c_5
    have hpc : okC c = true := by have h9 := hpu; rw [puP, Bool.and_eq_true] at h9; exact h9.1
    obtain ⟨k, hk, rfl⟩ := okC_nI hpc
    refine z_aload_n d_X11_pulled_11 0 rfl ?_
    refine z_get (v := .ref (x 6)) (0) f_X11_60_11 rfl rfl d_X11_pulled_12 ?_
    refine z_aload_n d_X11_pulled_15 0 rfl ?_
    refine z_get (v := .ref (x 6)) (0) f_X11_60_11 rfl rfl d_X11_pulled_16 ?_
    refine z_aload_n d_X11_pulled_19 0 rfl ?_
    refine z_get (v := .ref (x 6)) (0) f_X11_60_11 rfl rfl d_X11_pulled_20 ?_
    refine z_iload_n d_X11_pulled_23 1 rfl ?_
    refine z_iload_n d_X11_pulled_24 2 rfl ?_
    refine z_callV 6 c_X11_167 rfl rfl (t_X4_takenByPull G x N R K r S T tl I A h cd num hT k sg hk) rfl rfl (Nat.le_of_ble_eq_true rfl) rfl d_X11_pulled_25 ?_
    rintro v25 w25 ⟨rfl, T25, rfl⟩
    refine z_callVp 6 c_X11_170 (t_X4_withFallen G x N R K r S T25 tl I A h (I 12 &&& (lbS cd I A (nI k) sg ^^^ (-1))) ) rfl rfl rfl rfl (Nat.le_of_ble_eq_true rfl) rfl d_X11_pulled_28 ?_
    refine z_callVp 6 c_X11_173 (t_X4_lose G x N R K r S T25 tl  ((I 12 &&& (lbS cd I A (nI k) sg ^^^ (-1))) ||| faS A (I 12 &&& ((I 12 &&& (lbS cd I A (nI k) sg ^^^ (-1))) ^^^ (-1)))) ) rfl rfl rfl rfl (Nat.le_of_ble_eq_true rfl) rfl d_X11_pulled_31 ?_
    exact z_iret _ d_X11_pulled_34 rfl (XP.of (by rw [pull_1 lbS_sub, pdR, if_pos hpu]; exact pc_sub (lvA_sub.tr lbS_sub)) (by rw [pull_1 lbS_sub, pdI, if_pos hpu]; exact hx.net0 (fun i hi => if_neg (by omega)) (fun _ _ => rfl) (fun i hi => if_neg (by omega)) (fun i hi => if_neg (by omega)) (fun i hi => if_neg (by omega)) (by have h9 := h.drop (I 12 &&& (lvA A (lbS cd I A (nI k) sg) ^^^ (-1))); rw [drI, sub_2 (lvA_sub.tr lbS_sub)] at h9; exact h9)))
  · refine z_bipush (v := -2) d_X11_pulled_8 (by decide) ?_
    exact z_iret _ d_X11_pulled_10 rfl (XP.of (by rw [pdR, if_neg (by rw [b01_z c_5]; decide)]) (by rw [pdI, if_neg (by rw [b01_z c_5]; decide)]; exact hx))
