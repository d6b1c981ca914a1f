/-! THE READER of class X: its grammar -/
def CtR (G : GT) (x : Nat → Nat) (N : Nat → Int32) (R : Nat → Nat → Int32) (K : Nat → Nat → Option Nat) (r : Nat → Nat) (tl : va_W) (B : Nat → Int32) (n : Nat) (μ : Mu) (dep : Nat) (a : Int32) (P : Nat → PR) : Prop := ∀ (p : Nat) (c : List Int32) (S : Nat → Int32) (T : Nat → Nat → Int32), p ≤ n → c.length ≤ p → RS B n p c S (T 0) → Ct G μ dep 0 0 [.ref (x 1), .int a] (XW G x N R K r S T tl) (RT G x N R K r (T 1) tl (RP B n c (P p)))
def CtF (G : GT) (x : Nat → Nat) (N : Nat → Int32) (R : Nat → Nat → Int32) (K : Nat → Nat → Option Nat) (r : Nat → Nat) (tl : va_W) (μ : Mu) (dep : Nat) : Prop := ∀ (a : Int32) (z : Nat) (S : Nat → Int32) (T : Nat → Nat → Int32), RF z S → Ct G μ dep 0 0 [.ref (x 1), .int a] (XW G x N R K r S T tl) (RT G x N R K r (T 1) tl (fun S2 _ => RF z S2))
theorem t_adv (G : GT) (x : Nat → Nat) (N : Nat → Int32) (R : Nat → Nat → Int32) (K : Nat → Nat → Option Nat) (r : Nat → Nat) (tl : va_W) (B : Nat → Int32) (n : Nat) (hn : n ≤ 160) (h0 : N 0 = nI n) (hB : Tp B n (R 0)) (p : Nat) (c : List Int32) (S : Nat → Int32) (T : Nat → Nat → Int32) (hp : p ≤ n) (h : RS B n p c S (T 0)) (h1 : ¬ tkL B n p = 1) : Ct G mX6_advance 7 0 0 [.ref (x 1)] (XW G x N R K r S T tl) (RT G x N R K r (T 1) tl (fun S2 t2 => RS B n (nxL B n p) c S2 t2)) := by
  have e0 := h.1.2.2.2.1 h1
  have h9 := t_X6_advance G x N R K r S T tl B n hn h0 hB (nxL B n p) (nx_le B hp) e0
  rw [h.1.2.2.2.2.1, h.1.2.2.2.2.2] at h9
  refine h9.mono (fun v w hE => ?_)
  obtain ⟨rfl, S2, rfl, h2⟩ := hE
  exact ⟨rfl, S2, T, rfl, rfl, h2, h.2⟩
set_option maxHeartbeats 4000000 in
set_option maxRecDepth 100000 in
theorem t_refS (G : GT) (x : Nat → Nat) (N : Nat → Int32) (R : Nat → Nat → Int32) (K : Nat → Nat → Option Nat) (r : Nat → Nat) (S : Nat → Int32) (T : Nat → Nat → Int32) (tl : va_W) (B : Nat → Int32) (n : Nat) (hn : n ≤ 160) (h0 : N 0 = nI n) (hB : Tp B n (R 0)) (p : Nat) (c : List Int32) (hp : p ≤ n) (h : RS B n p c S (T 0)) (hL : c.length ≤ 160) : Ct G mX6_refuse 0 0 0 [.ref (x 1)] (XW G x N R K r S T tl) (RT G x N R K r (T 1) tl (fun S2 _ => RF (stL B n p) S2)) := by
  refine Ct.intro [(0, .ref (x 1))] (by decide) rfl (Nat.le_of_ble_eq_true rfl) ?_
  refine z_aload_n d_X6_refuse_0 0 rfl ?_
  refine z_get (v := .int (S 4)) (1) f_X6_32_6 rfl rfl d_X6_refuse_1 ?_
  refine z_top h.1.2.2.2.2.1 ?_
  refine z_iconst (v := -1) d_X6_refuse_4 (by decide) ?_
  refine z_icmp_ne d_X6_refuse_5 (fun c_5 => ?_) (fun c_5 => ?_)
  · exact absurd c_5 (by decide)
  refine z_aload_n d_X6_refuse_8 0 rfl ?_
  refine z_aload_n d_X6_refuse_9 0 rfl ?_
  refine z_get (v := .int (S 1)) (1) f_X6_71_6 rfl rfl d_X6_refuse_10 ?_
  refine z_put 1 (XW G x N R K r (upd S 4 (S 1)) T tl) p_X6_32_6 rfl rfl rfl (Nat.le_of_ble_eq_true rfl) (xf_1_6 G x N R K r S T tl _) d_X6_refuse_13 ?_
  refine z_aload_n d_X6_refuse_16 0 rfl ?_
  refine z_iconst (v := 1) d_X6_refuse_17 (by decide) ?_
  refine z_put 1 (XW G x N R K r (upd (upd S 4 (S 1)) 2 1) T tl) p_X6_42_6 rfl rfl rfl (Nat.le_of_ble_eq_true rfl) (xf_1_4 G x N R K r (upd S 4 (S 1)) T tl _) d_X6_refuse_18 ?_
  exact z_vret _ d_X6_refuse_21 rfl ⟨rfl, _, _, rfl, rfl, rfl, h.1.1, by have := stL_le B hp; omega, _, hL, h.1.2.2.2.2.2⟩
set_option maxHeartbeats 4000000 in
set_option maxRecDepth 100000 in
theorem t_refF (G : GT) (x : Nat → Nat) (N : Nat → Int32) (R : Nat → Nat → Int32) (K : Nat → Nat → Option Nat) (r : Nat → Nat) (S : Nat → Int32) (T : Nat → Nat → Int32) (tl : va_W) (z : Nat) (h : RF z S)  : Ct G mX6_refuse 0 0 0 [.ref (x 1)] (XW G x N R K r S T tl) (RT G x N R K r (T 1) tl (fun S2 _ => RF z S2)) := by
  refine Ct.intro [(0, .ref (x 1))] (by decide) rfl (Nat.le_of_ble_eq_true rfl) ?_
  refine z_aload_n d_X6_refuse_0 0 rfl ?_
  refine z_get (v := .int (S 4)) (1) f_X6_32_6 rfl rfl d_X6_refuse_1 ?_
  refine z_top h.2.1 ?_
  refine z_iconst (v := -1) d_X6_refuse_4 (by decide) ?_
  refine z_icmp_ne d_X6_refuse_5 (fun c_5 => ?_) (fun c_5 => ?_)
  rotate_left
  · exact absurd c_5 (by rw [show (-1 : Int32) = -1 from rfl]; intro hh; have h9 := congrArg Int32.toInt hh; rw [nI_i (by have := h.2.2.1; omega), show (-1 : Int32).toInt = -1 by decide] at h9; omega)
  refine z_aload_n d_X6_refuse_16 0 rfl ?_
  refine z_iconst (v := 1) d_X6_refuse_17 (by decide) ?_
  refine z_put 1 (XW G x N R K r (upd S 2 1) T tl) p_X6_42_6 rfl rfl rfl (Nat.le_of_ble_eq_true rfl) (xf_1_4 G x N R K r S T tl _) d_X6_refuse_18 ?_
  exact z_vret _ d_X6_refuse_21 rfl ⟨rfl, _, _, rfl, rfl, rfl, h.2⟩
set_option maxHeartbeats 4000000 in
set_option maxRecDepth 100000 in
theorem t_emS (G : GT) (x : Nat → Nat) (N : Nat → Int32) (R : Nat → Nat → Int32) (K : Nat → Nat → Option Nat) (r : Nat → Nat) (S : Nat → Int32) (T : Nat → Nat → Int32) (tl : va_W) (B : Nat → Int32) (n q : Nat) (c : List Int32) (s : Int32) (h : RS B n q c S (T 0)) (hL : c.length < 160)  : Ct G mX6_emit 0 0 0 [.ref (x 1), .int s] (XW G x N R K r S T tl) (RT G x N R K r (T 1) tl (fun S2 t2 => RS B n q (c ++ [s]) S2 t2)) := by
  refine Ct.intro [(0, .ref (x 1)), (1, .int s)] (by decide) rfl (Nat.le_of_ble_eq_true rfl) ?_
  refine z_aload_n d_X6_emit_0 0 rfl ?_
  refine z_get (v := .int (S 5)) (1) f_X6_29_6 rfl rfl d_X6_emit_1 ?_
  refine z_top h.1.2.2.2.2.2 ?_
  refine z_sipush (v := 160) d_X6_emit_4 (by decide) ?_
  refine z_icmp_ge d_X6_emit_7 (fun c_7 => ?_) (fun c_7 => ?_)
  · exact absurd c_7 (by rw [show (160 : Int32) = nI 160 from rfl]; intro hh; have := ge_nI (by omega) (by decide) hh; omega)
  refine z_aload_n d_X6_emit_10 0 rfl ?_
  refine z_get (v := .ref (x 3)) (1) f_X6_15_6 rfl rfl d_X6_emit_11 ?_
  refine z_aload_n d_X6_emit_14 0 rfl ?_
  refine z_get (v := .int (S 5)) (1) f_X6_29_6 rfl rfl d_X6_emit_15 ?_
  refine z_top h.1.2.2.2.2.2 ?_
  refine z_iload_n d_X6_emit_18 1 rfl ?_
  refine z_iastN 3 c.length (XW G x N R K r S (vf_upd T 0 (upd (T 0) c.length s)) tl) rfl (nI_i (by omega)) hL (xa_3 G x N R K r S T tl _) d_X6_emit_19 ?_
  refine z_aload_n d_X6_emit_20 0 rfl ?_
  refine z_dup d_X6_emit_21 rfl ?_
  refine z_get (v := .int (S 5)) (1) f_X6_29_6 rfl rfl d_X6_emit_22 ?_
  refine z_top h.1.2.2.2.2.2 ?_
  refine z_iconst (v := 1) d_X6_emit_25 (by decide) ?_
  refine z_iadd d_X6_emit_26 ?_
  refine z_put 1 (XW G x N R K r (upd S 5 ((nI (c.length)) + 1)) (vf_upd T 0 (upd (T 0) c.length s)) tl) p_X6_29_6 rfl rfl rfl (Nat.le_of_ble_eq_true rfl) (xf_1_8 G x N R K r S (vf_upd T 0 (upd (T 0) c.length s)) tl _) d_X6_emit_27 ?_
  exact z_vret _ d_X6_emit_30 rfl ⟨rfl, _, _, rfl, rfl, by rw [nI_1]; exact h.emit⟩
set_option maxHeartbeats 4000000 in
set_option maxRecDepth 100000 in
theorem t_emF (G : GT) (x : Nat → Nat) (N : Nat → Int32) (R : Nat → Nat → Int32) (K : Nat → Nat → Option Nat) (r : Nat → Nat) (S : Nat → Int32) (T : Nat → Nat → Int32) (tl : va_W) (z : Nat) (s : Int32) (h : RF z S)  : Ct G mX6_emit 0 0 0 [.ref (x 1), .int s] (XW G x N R K r S T tl) (RT G x N R K r (T 1) tl (fun S2 _ => RF z S2)) := by
  obtain ⟨L, hL, h5⟩ := h.2.2.2
  refine Ct.intro [(0, .ref (x 1)), (1, .int s)] (by decide) rfl (Nat.le_of_ble_eq_true rfl) ?_
  refine z_aload_n d_X6_emit_0 0 rfl ?_
  refine z_get (v := .int (S 5)) (1) f_X6_29_6 rfl rfl d_X6_emit_1 ?_
  refine z_top h5 ?_
  refine z_sipush (v := 160) d_X6_emit_4 (by decide) ?_
  refine z_icmp_ge d_X6_emit_7 (fun c_7 => ?_) (fun c_7 => ?_)
  · exact z_vret _ d_X6_emit_30 rfl ⟨rfl, _, _, rfl, rfl, h⟩
  · have hL2 : L < 160 := lt_nI (by omega) (by decide) c_7
    refine z_aload_n d_X6_emit_10 0 rfl ?_
    refine z_get (v := .ref (x 3)) (1) f_X6_15_6 rfl rfl d_X6_emit_11 ?_
    refine z_aload_n d_X6_emit_14 0 rfl ?_
    refine z_get (v := .int (S 5)) (1) f_X6_29_6 rfl rfl d_X6_emit_15 ?_
    refine z_top h5 ?_
    refine z_iload_n d_X6_emit_18 1 rfl ?_
    refine z_iastN 3 L (XW G x N R K r S (vf_upd T 0 (upd (T 0) L s)) tl) rfl (nI_i (by omega)) hL2 (xa_3 G x N R K r S T tl _) d_X6_emit_19 ?_
    refine z_aload_n d_X6_emit_20 0 rfl ?_
    refine z_dup d_X6_emit_21 rfl ?_
    refine z_get (v := .int (S 5)) (1) f_X6_29_6 rfl rfl d_X6_emit_22 ?_
    refine z_top h5 ?_
    refine z_iconst (v := 1) d_X6_emit_25 (by decide) ?_
    refine z_iadd d_X6_emit_26 ?_
    refine z_put 1 (XW G x N R K r (upd S 5 ((nI L) + 1)) (vf_upd T 0 (upd (T 0) L s)) tl) p_X6_29_6 rfl rfl rfl (Nat.le_of_ble_eq_true rfl) (xf_1_8 G x N R K r S (vf_upd T 0 (upd (T 0) L s)) tl _) d_X6_emit_27 ?_
    exact z_vret _ d_X6_emit_30 rfl ⟨rfl, _, _, rfl, rfl, h.1, h.2.1, h.2.2.1, L + 1, by omega, nI_1 L⟩
set_option maxHeartbeats 4000000 in
set_option maxRecDepth 100000 in
theorem t_expS (G : GT) (x : Nat → Nat) (N : Nat → Int32) (R : Nat → Nat → Int32) (K : Nat → Nat → Option Nat) (r : Nat → Nat) (S : Nat → Int32) (T : Nat → Nat → Int32) (tl : va_W) (B : Nat → Int32) (n : Nat) (hn : n ≤ 160) (h0 : N 0 = nI n) (hB : Tp B n (R 0)) (p : Nat) (c : List Int32) (k : Int32) (hp : p ≤ n) (hL : c.length ≤ 160) (k0 : ¬ k = 0) (k1 : ¬ k = 1) (h : RS B n p c S (T 0))  : Ct G mX6_expect 8 0 0 [.ref (x 1), .int k] (XW G x N R K r S T tl) (RT G x N R K r (T 1) tl (fun S2 t2 => if tkL B n p = k then RS B n (nxL B n p) c S2 t2 else RF (stL B n p) S2)) := by
  refine Ct.intro [(0, .ref (x 1)), (1, .int k)] (by decide) rfl (Nat.le_of_ble_eq_true rfl) ?_
  refine z_aload_n d_X6_expect_0 0 rfl ?_
  refine z_get (v := .int (S 2)) (1) f_X6_42_6 rfl rfl d_X6_expect_1 ?_
  refine z_top h.1.2.1 ?_
  refine z_iload_n d_X6_expect_4 1 rfl ?_
  refine z_icmp_ne d_X6_expect_5 (fun c_5 => ?_) (fun c_5 => ?_)
  · refine z_aload_n d_X6_expect_15 0 rfl ?_
    refine z_callV 1 c_X6_45 rfl rfl (t_refS G x N R K r S T tl B n hn h0 hB p c hp h (by (try simp only [List.length_append, List.length_cons, List.length_nil]); omega)) rfl rfl (Nat.le_of_ble_eq_true rfl) rfl d_X6_expect_16 ?_
    rintro v16 w16 ⟨rfl, S16, T16, rfl, hT16, h16⟩
    exact z_vret _ d_X6_expect_19 rfl ⟨rfl, _, _, rfl, (hT16.trans rfl), (if_neg c_5).mpr h16⟩
  · refine z_aload_n d_X6_expect_8 0 rfl ?_
    refine z_callV 1 c_X6_35 rfl rfl (t_adv G x N R K r tl B n hn h0 hB p c S T hp h (by rw [c_5]; exact k1)) rfl rfl (Nat.le_of_ble_eq_true rfl) rfl d_X6_expect_9 ?_
    rintro v9 w9 ⟨rfl, S9, T9, rfl, hT9, h9⟩
    refine z_goto d_X6_expect_12 ?_
    exact z_vret _ d_X6_expect_19 rfl ⟨rfl, _, _, rfl, (hT9.trans rfl), (if_pos c_5).mpr h9⟩
set_option maxHeartbeats 4000000 in
set_option maxRecDepth 100000 in
theorem t_expF (G : GT) (x : Nat → Nat) (N : Nat → Int32) (R : Nat → Nat → Int32) (K : Nat → Nat → Option Nat) (r : Nat → Nat) (S : Nat → Int32) (T : Nat → Nat → Int32) (tl : va_W) (z : Nat) (k : Int32) (h : RF z S) (k1 : ¬ k = 1)  : Ct G mX6_expect 1 0 0 [.ref (x 1), .int k] (XW G x N R K r S T tl) (RT G x N R K r (T 1) tl (fun S2 _ => RF z S2)) := by
  refine Ct.intro [(0, .ref (x 1)), (1, .int k)] (by decide) rfl (Nat.le_of_ble_eq_true rfl) ?_
  refine z_aload_n d_X6_expect_0 0 rfl ?_
  refine z_get (v := .int (S 2)) (1) f_X6_42_6 rfl rfl d_X6_expect_1 ?_
  refine z_top h.1 ?_
  refine z_iload_n d_X6_expect_4 1 rfl ?_
  refine z_icmp_ne d_X6_expect_5 (fun c_5 => ?_) (fun c_5 => ?_)
  rotate_left
  · exact absurd c_5 (fun hh => k1 hh.symm)
  refine z_aload_n d_X6_expect_15 0 rfl ?_
  refine z_callV 1 c_X6_45 rfl rfl (t_refF G x N R K r S T tl z h) rfl rfl (Nat.le_of_ble_eq_true rfl) rfl d_X6_expect_16 ?_
  rintro v16 w16 ⟨rfl, S16, T16, rfl, hT16, h16⟩
  exact z_vret _ d_X6_expect_19 rfl ⟨rfl, _, _, rfl, (hT16.trans rfl), h16⟩
set_option maxHeartbeats 4000000 in
set_option maxRecDepth 100000 in
theorem f_X6_one (G : GT) (x : Nat → Nat) (N : Nat → Int32) (R : Nat → Nat → Int32) (K : Nat → Nat → Option Nat) (r : Nat → Nat) (S : Nat → Int32) (T : Nat → Nat → Int32) (tl : va_W) (a : Int32) (z : Nat) (h : RF z S)  : Ct G mX6_one 1 0 0 [.ref (x 1), .int a] (XW G x N R K r S T tl) (RT G x N R K r (T 1) tl (fun S2 _ => RF z S2)) := by
  refine Ct.intro [(0, .ref (x 1)), (1, .int a)] (by decide) rfl (Nat.le_of_ble_eq_true rfl) ?_
  refine z_aload_n d_X6_one_0 0 rfl ?_
  refine z_get (v := .int (S 2)) (1) f_X6_42_6 rfl rfl d_X6_one_1 ?_
  refine z_top h.1 ?_
  refine z_iconst (v := 2) d_X6_one_4 (by decide) ?_
  refine z_icmp_eq d_X6_one_5 (fun c_5 => ?_) (fun c_5 => ?_)
  · exact absurd c_5 (by decide)
  refine z_aload_n d_X6_one_8 0 rfl ?_
  refine z_get (v := .int (S 2)) (1) f_X6_42_6 rfl rfl d_X6_one_9 ?_
  refine z_top h.1 ?_
  refine z_iconst (v := 3) d_X6_one_12 (by decide) ?_
  refine z_icmp_ne d_X6_one_13 (fun c_13 => ?_) (fun c_13 => ?_)
  rotate_left
  · exact absurd c_13 (by decide)
  refine z_aload_n d_X6_one_31 0 rfl ?_
  refine z_get (v := .int (S 2)) (1) f_X6_42_6 rfl rfl d_X6_one_32 ?_
  refine z_top h.1 ?_
  refine z_bipush (v := 45) d_X6_one_35 (by decide) ?_
  refine z_icmp_ne d_X6_one_37 (fun c_37 => ?_) (fun c_37 => ?_)
  rotate_left
  · exact absurd c_37 (by decide)
  refine z_aload_n d_X6_one_65 0 rfl ?_
  refine z_get (v := .int (S 2)) (1) f_X6_42_6 rfl rfl d_X6_one_66 ?_
  refine z_top h.1 ?_
  refine z_bipush (v := 40) d_X6_one_69 (by decide) ?_
  refine z_icmp_ne d_X6_one_71 (fun c_71 => ?_) (fun c_71 => ?_)
  rotate_left
  · exact absurd c_71 (by decide)
  refine z_aload_n d_X6_one_99 0 rfl ?_
  refine z_callV 1 c_X6_45 rfl rfl (t_refF G x N R K r S T tl z h) rfl rfl (Nat.le_of_ble_eq_true rfl) rfl d_X6_one_100 ?_
  rintro v100 w100 ⟨rfl, S100, T100, rfl, hT100, h100⟩
  exact z_vret _ d_X6_one_103 rfl ⟨rfl, _, _, rfl, (hT100.trans rfl), h100⟩
theorem F_X6_one (G : GT) (x : Nat → Nat) (N : Nat → Int32) (R : Nat → Nat → Int32) (K : Nat → Nat → Option Nat) (r : Nat → Nat) (tl : va_W) : CtF G x N R K r tl mX6_one 1 := fun a z S T h => f_X6_one G x N R K r S T tl a z h
set_option maxHeartbeats 4000000 in
set_option maxRecDepth 100000 in
theorem f_X6_term (G : GT) (x : Nat → Nat) (N : Nat → Int32) (R : Nat → Nat → Int32) (K : Nat → Nat → Option Nat) (r : Nat → Nat) (S : Nat → Int32) (T : Nat → Nat → Int32) (tl : va_W) (a : Int32) (z : Nat) (h : RF z S)  : Ct G mX6_term 2 0 0 [.ref (x 1), .int a] (XW G x N R K r S T tl) (RT G x N R K r (T 1) tl (fun S2 _ => RF z S2)) := by
  refine Ct.intro [(0, .ref (x 1)), (1, .int a)] (by decide) rfl (Nat.le_of_ble_eq_true rfl) ?_
  refine z_aload_n d_X6_term_0 0 rfl ?_
  refine z_iload_n d_X6_term_1 1 rfl ?_
  refine z_callV 1 c_X6_89 rfl rfl (F_X6_one G x N R K r tl _ z S T h) rfl rfl (Nat.le_of_ble_eq_true rfl) rfl d_X6_term_2 ?_
  rintro v2 w2 ⟨rfl, S2, T2, rfl, hT2, h2⟩
  refine z_iconst (v := 0) d_X6_term_5 (by decide) ?_
  refine z_istore_n [(2, .int 0), (0, .ref (x 1)), (1, .int a)] d_X6_term_6 (by decide) rfl ?_
  refine z_iload_n d_X6_term_7 0 rfl ?_
  refine z_sipush (v := 160) d_X6_term_8 (by decide) ?_
  refine z_icmp_ge d_X6_term_11 (fun c_11 => ?_) (fun c_11 => ?_)
  · exact absurd c_11 (by decide)
  refine z_aload_n d_X6_term_14 1 rfl ?_
  refine z_get (v := .int (S2 2)) (1) f_X6_42_6 rfl rfl d_X6_term_15 ?_
  refine z_top h2.1 ?_
  refine z_bipush (v := 42) d_X6_term_18 (by decide) ?_
  refine z_icmp_ne d_X6_term_20 (fun c_20 => ?_) (fun c_20 => ?_)
  rotate_left
  · exact absurd c_20 (by decide)
  exact z_vret _ d_X6_term_44 rfl ⟨rfl, _, _, rfl, (hT2.trans rfl), h2⟩
theorem F_X6_term (G : GT) (x : Nat → Nat) (N : Nat → Int32) (R : Nat → Nat → Int32) (K : Nat → Nat → Option Nat) (r : Nat → Nat) (tl : va_W) : CtF G x N R K r tl mX6_term 2 := fun a z S T h => f_X6_term G x N R K r S T tl a z h
set_option maxHeartbeats 4000000 in
set_option maxRecDepth 100000 in
theorem f_X6_sum (G : GT) (x : Nat → Nat) (N : Nat → Int32) (R : Nat → Nat → Int32) (K : Nat → Nat → Option Nat) (r : Nat → Nat) (S : Nat → Int32) (T : Nat → Nat → Int32) (tl : va_W) (a : Int32) (z : Nat) (h : RF z S)  : Ct G mX6_sum 3 0 0 [.ref (x 1), .int a] (XW G x N R K r S T tl) (RT G x N R K r (T 1) tl (fun S2 _ => RF z S2)) := by
  refine Ct.intro [(0, .ref (x 1)), (1, .int a)] (by decide) rfl (Nat.le_of_ble_eq_true rfl) ?_
  refine z_aload_n d_X6_sum_0 0 rfl ?_
  refine z_iload_n d_X6_sum_1 1 rfl ?_
  refine z_callV 1 c_X6_86 rfl rfl (F_X6_term G x N R K r tl _ z S T h) rfl rfl (Nat.le_of_ble_eq_true rfl) rfl d_X6_sum_2 ?_
  rintro v2 w2 ⟨rfl, S2, T2, rfl, hT2, h2⟩
  refine z_iconst (v := 0) d_X6_sum_5 (by decide) ?_
  refine z_istore_n [(2, .int 0), (0, .ref (x 1)), (1, .int a)] d_X6_sum_6 (by decide) rfl ?_
  refine z_iload_n d_X6_sum_7 0 rfl ?_
  refine z_sipush (v := 160) d_X6_sum_8 (by decide) ?_
  refine z_icmp_ge d_X6_sum_11 (fun c_11 => ?_) (fun c_11 => ?_)
  · exact absurd c_11 (by decide)
  refine z_aload_n d_X6_sum_14 1 rfl ?_
  refine z_get (v := .int (S2 2)) (1) f_X6_42_6 rfl rfl d_X6_sum_15 ?_
  refine z_top h2.1 ?_
  refine z_bipush (v := 43) d_X6_sum_18 (by decide) ?_
  refine z_icmp_eq d_X6_sum_20 (fun c_20 => ?_) (fun c_20 => ?_)
  · exact absurd c_20 (by decide)
  refine z_aload_n d_X6_sum_23 1 rfl ?_
  refine z_get (v := .int (S2 2)) (1) f_X6_42_6 rfl rfl d_X6_sum_24 ?_
  refine z_top h2.1 ?_
  refine z_bipush (v := 45) d_X6_sum_27 (by decide) ?_
  refine z_icmp_ne d_X6_sum_29 (fun c_29 => ?_) (fun c_29 => ?_)
  rotate_left
  · exact absurd c_29 (by decide)
  exact z_vret _ d_X6_sum_69 rfl ⟨rfl, _, _, rfl, (hT2.trans rfl), h2⟩
theorem F_X6_sum (G : GT) (x : Nat → Nat) (N : Nat → Int32) (R : Nat → Nat → Int32) (K : Nat → Nat → Option Nat) (r : Nat → Nat) (tl : va_W) : CtF G x N R K r tl mX6_sum 3 := fun a z S T h => f_X6_sum G x N R K r S T tl a z h
set_option maxHeartbeats 4000000 in
set_option maxRecDepth 100000 in
theorem f_X6_denied (G : GT) (x : Nat → Nat) (N : Nat → Int32) (R : Nat → Nat → Int32) (K : Nat → Nat → Option Nat) (r : Nat → Nat) (S : Nat → Int32) (T : Nat → Nat → Int32) (tl : va_W) (a : Int32) (z : Nat) (h : RF z S)  : Ct G mX6_denied 4 0 0 [.ref (x 1), .int a] (XW G x N R K r S T tl) (RT G x N R K r (T 1) tl (fun S2 _ => RF z S2)) := by
  refine Ct.intro [(0, .ref (x 1)), (1, .int a)] (by decide) rfl (Nat.le_of_ble_eq_true rfl) ?_
  refine z_aload_n d_X6_denied_0 0 rfl ?_
  refine z_get (v := .int (S 2)) (1) f_X6_42_6 rfl rfl d_X6_denied_1 ?_
  refine z_top h.1 ?_
  refine z_bipush (v := 9) d_X6_denied_4 (by decide) ?_
  refine z_icmp_ne d_X6_denied_6 (fun c_6 => ?_) (fun c_6 => ?_)
  rotate_left
  · exact absurd c_6 (by decide)
  refine z_aload_n d_X6_denied_32 0 rfl ?_
  refine z_iload_n d_X6_denied_33 1 rfl ?_
  refine z_callV 1 c_X6_83 rfl rfl (F_X6_sum G x N R K r tl _ z S T h) rfl rfl (Nat.le_of_ble_eq_true rfl) rfl d_X6_denied_34 ?_
  rintro v34 w34 ⟨rfl, S34, T34, rfl, hT34, h34⟩
  refine z_aload_n d_X6_denied_37 0 rfl ?_
  refine z_get (v := .int (S34 2)) (1) f_X6_42_6 rfl rfl d_X6_denied_38 ?_
  refine z_top h34.1 ?_
  refine z_bipush (v := 60) d_X6_denied_41 (by decide) ?_
  refine z_icmp_eq d_X6_denied_43 (fun c_43 => ?_) (fun c_43 => ?_)
  · exact absurd c_43 (by decide)
  refine z_aload_n d_X6_denied_46 0 rfl ?_
  refine z_get (v := .int (S34 2)) (1) f_X6_42_6 rfl rfl d_X6_denied_47 ?_
  refine z_top h34.1 ?_
  refine z_bipush (v := 61) d_X6_denied_50 (by decide) ?_
  refine z_icmp_ne d_X6_denied_52 (fun c_52 => ?_) (fun c_52 => ?_)
  rotate_left
  · exact absurd c_52 (by decide)
  exact z_vret _ d_X6_denied_86 rfl ⟨rfl, _, _, rfl, (hT34.trans rfl), h34⟩
theorem F_X6_denied (G : GT) (x : Nat → Nat) (N : Nat → Int32) (R : Nat → Nat → Int32) (K : Nat → Nat → Option Nat) (r : Nat → Nat) (tl : va_W) : CtF G x N R K r tl mX6_denied 4 := fun a z S T h => f_X6_denied G x N R K r S T tl a z h
set_option maxHeartbeats 4000000 in
set_option maxRecDepth 100000 in
theorem f_X6_both (G : GT) (x : Nat → Nat) (N : Nat → Int32) (R : Nat → Nat → Int32) (K : Nat → Nat → Option Nat) (r : Nat → Nat) (S : Nat → Int32) (T : Nat → Nat → Int32) (tl : va_W) (a : Int32) (z : Nat) (h : RF z S)  : Ct G mX6_both 5 0 0 [.ref (x 1), .int a] (XW G x N R K r S T tl) (RT G x N R K r (T 1) tl (fun S2 _ => RF z S2)) := by
  refine Ct.intro [(0, .ref (x 1)), (1, .int a)] (by decide) rfl (Nat.le_of_ble_eq_true rfl) ?_
  refine z_aload_n d_X6_both_0 0 rfl ?_
  refine z_iload_n d_X6_both_1 1 rfl ?_
  refine z_callV 1 c_X6_80 rfl rfl (F_X6_denied G x N R K r tl _ z S T h) rfl rfl (Nat.le_of_ble_eq_true rfl) rfl d_X6_both_2 ?_
  rintro v2 w2 ⟨rfl, S2, T2, rfl, hT2, h2⟩
  refine z_iconst (v := 0) d_X6_both_5 (by decide) ?_
  refine z_istore_n [(2, .int 0), (0, .ref (x 1)), (1, .int a)] d_X6_both_6 (by decide) rfl ?_
  refine z_iload_n d_X6_both_7 0 rfl ?_
  refine z_sipush (v := 160) d_X6_both_8 (by decide) ?_
  refine z_icmp_ge d_X6_both_11 (fun c_11 => ?_) (fun c_11 => ?_)
  · exact absurd c_11 (by decide)
  refine z_aload_n d_X6_both_14 1 rfl ?_
  refine z_get (v := .int (S2 2)) (1) f_X6_42_6 rfl rfl d_X6_both_15 ?_
  refine z_top h2.1 ?_
  refine z_bipush (v := 8) d_X6_both_18 (by decide) ?_
  refine z_icmp_ne d_X6_both_20 (fun c_20 => ?_) (fun c_20 => ?_)
  rotate_left
  · exact absurd c_20 (by decide)
  exact z_vret _ d_X6_both_44 rfl ⟨rfl, _, _, rfl, (hT2.trans rfl), h2⟩
theorem F_X6_both (G : GT) (x : Nat → Nat) (N : Nat → Int32) (R : Nat → Nat → Int32) (K : Nat → Nat → Option Nat) (r : Nat → Nat) (tl : va_W) : CtF G x N R K r tl mX6_both 5 := fun a z S T h => f_X6_both G x N R K r S T tl a z h
set_option maxHeartbeats 4000000 in
set_option maxRecDepth 100000 in
theorem f_X6_either (G : GT) (x : Nat → Nat) (N : Nat → Int32) (R : Nat → Nat → Int32) (K : Nat → Nat → Option Nat) (r : Nat → Nat) (S : Nat → Int32) (T : Nat → Nat → Int32) (tl : va_W) (a : Int32) (z : Nat) (h : RF z S)  : Ct G mX6_either 6 0 0 [.ref (x 1), .int a] (XW G x N R K r S T tl) (RT G x N R K r (T 1) tl (fun S2 _ => RF z S2)) := by
  refine Ct.intro [(0, .ref (x 1)), (1, .int a)] (by decide) rfl (Nat.le_of_ble_eq_true rfl) ?_
  refine z_aload_n d_X6_either_0 0 rfl ?_
  refine z_iload_n d_X6_either_1 1 rfl ?_
  refine z_callV 1 c_X6_74 rfl rfl (F_X6_both G x N R K r tl _ z S T h) rfl rfl (Nat.le_of_ble_eq_true rfl) rfl d_X6_either_2 ?_
  rintro v2 w2 ⟨rfl, S2, T2, rfl, hT2, h2⟩
  refine z_iconst (v := 0) d_X6_either_5 (by decide) ?_
  refine z_istore_n [(2, .int 0), (0, .ref (x 1)), (1, .int a)] d_X6_either_6 (by decide) rfl ?_
  refine z_iload_n d_X6_either_7 0 rfl ?_
  refine z_sipush (v := 160) d_X6_either_8 (by decide) ?_
  refine z_icmp_ge d_X6_either_11 (fun c_11 => ?_) (fun c_11 => ?_)
  · exact absurd c_11 (by decide)
  refine z_aload_n d_X6_either_14 1 rfl ?_
  refine z_get (v := .int (S2 2)) (1) f_X6_42_6 rfl rfl d_X6_either_15 ?_
  refine z_top h2.1 ?_
  refine z_bipush (v := 7) d_X6_either_18 (by decide) ?_
  refine z_icmp_ne d_X6_either_20 (fun c_20 => ?_) (fun c_20 => ?_)
  rotate_left
  · exact absurd c_20 (by decide)
  exact z_vret _ d_X6_either_44 rfl ⟨rfl, _, _, rfl, (hT2.trans rfl), h2⟩
theorem F_X6_either (G : GT) (x : Nat → Nat) (N : Nat → Int32) (R : Nat → Nat → Int32) (K : Nat → Nat → Option Nat) (r : Nat → Nat) (tl : va_W) : CtF G x N R K r tl mX6_either 6 := fun a z S T h => f_X6_either G x N R K r S T tl a z h
set_option maxHeartbeats 4000000 in
set_option maxRecDepth 100000 in
theorem t_one0 (G : GT) (x : Nat → Nat) (N : Nat → Int32) (R : Nat → Nat → Int32) (K : Nat → Nat → Option Nat) (r : Nat → Nat) (S : Nat → Int32) (T : Nat → Nat → Int32) (tl : va_W) (B : Nat → Int32) (n : Nat) (hn : n ≤ 160) (h0 : N 0 = nI n) (hB : Tp B n (R 0)) (p : Nat) (c : List Int32) (hp : p ≤ n) (hc : c.length ≤ p) (h : RS B n p c S (T 0))  : Ct G mX6_one 9 0 0 [.ref (x 1), .int 5] (XW G x N R K r S T tl) (RT G x N R K r (T 1) tl (RP B n c (oneP B n 0 p))) := by
  refine Ct.intro [(0, .ref (x 1)), (1, .int 5)] (by decide) rfl (Nat.le_of_ble_eq_true rfl) ?_
  refine z_aload_n d_X6_one_0 0 rfl ?_
  refine z_get (v := .int (S 2)) (1) f_X6_42_6 rfl rfl d_X6_one_1 ?_
  refine z_top h.1.2.1 ?_
  refine z_iconst (v := 2) d_X6_one_4 (by decide) ?_
  refine z_icmp_eq d_X6_one_5 (fun c_5 => ?_) (fun c_5 => ?_)
  · have hk0 := nx_tk (B := B) (n := n) (p := p) c_5 (by decide) (by decide)
    have hn0 := nx_le B hp
    refine z_aload_n d_X6_one_16 0 rfl ?_
    refine z_aload_n d_X6_one_17 0 rfl ?_
    refine z_get (v := .int (S 3)) (1) f_X6_92_6 rfl rfl d_X6_one_18 ?_
    refine z_top (h.1.2.2.1 (Or.inl c_5)) ?_
    refine z_callV 1 c_X6_77 rfl rfl (t_emS G x N R K r S T tl B n p c (vlL B n p) h (by (try simp only [List.length_append, List.length_cons, List.length_nil]); omega)) rfl rfl (Nat.le_of_ble_eq_true rfl) rfl d_X6_one_21 ?_
    rintro v21 w21 ⟨rfl, S21, T21, rfl, hT21, h21⟩
    refine z_aload_n d_X6_one_24 0 rfl ?_
    have hk25 := nx_tk (B := B) (n := n) (p := p) c_5 (by decide) (by decide)
    have hn25 := nx_le B hp
    refine z_callV 1 c_X6_35 rfl rfl (t_adv G x N R K r tl B n hn h0 hB p (c ++ [(vlL B n p)]) S21 T21 hp h21 (by rw [c_5]; decide)) rfl rfl (Nat.le_of_ble_eq_true rfl) rfl d_X6_one_25 ?_
    rintro v25 w25 ⟨rfl, S25, T25, rfl, hT25, h25⟩
    refine z_goto d_X6_one_28 ?_
    exact z_vret _ d_X6_one_103 rfl ⟨rfl, _, _, rfl, (hT25.trans (hT21.trans rfl)), RP.ok (by rw [oneP_0, onP]; rw [if_pos (Or.inl c_5)]) h25 (by simp only [List.append_assoc])⟩
  · refine z_aload_n d_X6_one_8 0 rfl ?_
    refine z_get (v := .int (S 2)) (1) f_X6_42_6 rfl rfl d_X6_one_9 ?_
    refine z_top h.1.2.1 ?_
    refine z_iconst (v := 3) d_X6_one_12 (by decide) ?_
    refine z_icmp_ne d_X6_one_13 (fun c_13 => ?_) (fun c_13 => ?_)
    · refine z_aload_n d_X6_one_31 0 rfl ?_
      refine z_get (v := .int (S 2)) (1) f_X6_42_6 rfl rfl d_X6_one_32 ?_
      refine z_top h.1.2.1 ?_
      refine z_bipush (v := 45) d_X6_one_35 (by decide) ?_
      refine z_icmp_ne d_X6_one_37 (fun c_37 => ?_) (fun c_37 => ?_)
      · refine z_aload_n d_X6_one_65 0 rfl ?_
        refine z_get (v := .int (S 2)) (1) f_X6_42_6 rfl rfl d_X6_one_66 ?_
        refine z_top h.1.2.1 ?_
        refine z_bipush (v := 40) d_X6_one_69 (by decide) ?_
        refine z_icmp_ne d_X6_one_71 (fun c_71 => ?_) (fun c_71 => ?_)
        · refine z_aload_n d_X6_one_99 0 rfl ?_
          refine z_callV 1 c_X6_45 rfl rfl (t_refS G x N R K r S T tl B n hn h0 hB p c hp h (by (try simp only [List.length_append, List.length_cons, List.length_nil]); omega)) rfl rfl (Nat.le_of_ble_eq_true rfl) rfl d_X6_one_100 ?_
          rintro v100 w100 ⟨rfl, S100, T100, rfl, hT100, h100⟩
          exact z_vret _ d_X6_one_103 rfl ⟨rfl, _, _, rfl, (hT100.trans rfl), RP.bad (by rw [oneP_0, onP]; rw [if_neg (fun hh => hh.elim c_5 c_13)]; rw [if_neg (fun hh => c_37 hh.1), if_neg (fun hh => c_71 hh.1)]) h100⟩
        · refine z_iload_n d_X6_one_74 1 rfl ?_
          refine z_iconst (v := 5) d_X6_one_75 (by decide) ?_
          refine z_icmp_ge d_X6_one_76 (fun c_76 => ?_) (fun c_76 => ?_)
          rotate_left
          · exact absurd c_76 (by decide)
          refine z_aload_n d_X6_one_99 0 rfl ?_
          refine z_callV 1 c_X6_45 rfl rfl (t_refS G x N R K r S T tl B n hn h0 hB p c hp h (by (try simp only [List.length_append, List.length_cons, List.length_nil]); omega)) rfl rfl (Nat.le_of_ble_eq_true rfl) rfl d_X6_one_100 ?_
          rintro v100 w100 ⟨rfl, S100, T100, rfl, hT100, h100⟩
          exact z_vret _ d_X6_one_103 rfl ⟨rfl, _, _, rfl, (hT100.trans rfl), RP.bad (by rw [oneP_0, onP]; rw [if_neg (fun hh => hh.elim c_5 c_13)]; rw [if_neg (fun hh => c_37 hh.1), if_neg (fun hh => absurd hh.2 (by decide))]) h100⟩
      · refine z_iload_n d_X6_one_40 1 rfl ?_
        refine z_iconst (v := 5) d_X6_one_41 (by decide) ?_
        refine z_icmp_ge d_X6_one_42 (fun c_42 => ?_) (fun c_42 => ?_)
        rotate_left
        · exact absurd c_42 (by decide)
        refine z_aload_n d_X6_one_65 0 rfl ?_
        refine z_get (v := .int (S 2)) (1) f_X6_42_6 rfl rfl d_X6_one_66 ?_
        refine z_top h.1.2.1 ?_
        refine z_bipush (v := 40) d_X6_one_69 (by decide) ?_
        refine z_icmp_ne d_X6_one_71 (fun c_71 => ?_) (fun c_71 => ?_)
        · refine z_aload_n d_X6_one_99 0 rfl ?_
          refine z_callV 1 c_X6_45 rfl rfl (t_refS G x N R K r S T tl B n hn h0 hB p c hp h (by (try simp only [List.length_append, List.length_cons, List.length_nil]); omega)) rfl rfl (Nat.le_of_ble_eq_true rfl) rfl d_X6_one_100 ?_
          rintro v100 w100 ⟨rfl, S100, T100, rfl, hT100, h100⟩
          exact z_vret _ d_X6_one_103 rfl ⟨rfl, _, _, rfl, (hT100.trans rfl), RP.bad (by rw [oneP_0, onP]; rw [if_neg (fun hh => hh.elim c_5 c_13)]; rw [if_neg (fun hh => absurd hh.2 (by decide)), if_neg (fun hh => c_71 hh.1)]) h100⟩
        · refine z_iload_n d_X6_one_74 1 rfl ?_
          refine z_iconst (v := 5) d_X6_one_75 (by decide) ?_
          refine z_icmp_ge d_X6_one_76 (fun c_76 => ?_) (fun c_76 => ?_)
          rotate_left
          · exact absurd c_76 (by decide)
          refine z_aload_n d_X6_one_99 0 rfl ?_
          refine z_callV 1 c_X6_45 rfl rfl (t_refS G x N R K r S T tl B n hn h0 hB p c hp h (by (try simp only [List.length_append, List.length_cons, List.length_nil]); omega)) rfl rfl (Nat.le_of_ble_eq_true rfl) rfl d_X6_one_100 ?_
          rintro v100 w100 ⟨rfl, S100, T100, rfl, hT100, h100⟩
          exact z_vret _ d_X6_one_103 rfl ⟨rfl, _, _, rfl, (hT100.trans rfl), RP.bad (by rw [oneP_0, onP]; rw [if_neg (fun hh => hh.elim c_5 c_13)]; rw [if_neg (fun hh => absurd hh.2 (by decide)), if_neg (fun hh => absurd hh.2 (by decide))]) h100⟩
    · have hk0 := nx_tk (B := B) (n := n) (p := p) c_13 (by decide) (by decide)
      have hn0 := nx_le B hp
      refine z_aload_n d_X6_one_16 0 rfl ?_
      refine z_aload_n d_X6_one_17 0 rfl ?_
      refine z_get (v := .int (S 3)) (1) f_X6_92_6 rfl rfl d_X6_one_18 ?_
      refine z_top (h.1.2.2.1 (Or.inr c_13)) ?_
      refine z_callV 1 c_X6_77 rfl rfl (t_emS G x N R K r S T tl B n p c (vlL B n p) h (by (try simp only [List.length_append, List.length_cons, List.length_nil]); omega)) rfl rfl (Nat.le_of_ble_eq_true rfl) rfl d_X6_one_21 ?_
      rintro v21 w21 ⟨rfl, S21, T21, rfl, hT21, h21⟩
      refine z_aload_n d_X6_one_24 0 rfl ?_
      have hk25 := nx_tk (B := B) (n := n) (p := p) c_13 (by decide) (by decide)
      have hn25 := nx_le B hp
      refine z_callV 1 c_X6_35 rfl rfl (t_adv G x N R K r tl B n hn h0 hB p (c ++ [(vlL B n p)]) S21 T21 hp h21 (by rw [c_13]; decide)) rfl rfl (Nat.le_of_ble_eq_true rfl) rfl d_X6_one_25 ?_
      rintro v25 w25 ⟨rfl, S25, T25, rfl, hT25, h25⟩
      refine z_goto d_X6_one_28 ?_
      exact z_vret _ d_X6_one_103 rfl ⟨rfl, _, _, rfl, (hT25.trans (hT21.trans rfl)), RP.ok (by rw [oneP_0, onP]; rw [if_pos (Or.inr c_13)]) h25 (by simp only [List.append_assoc])⟩
set_option maxHeartbeats 4000000 in
set_option maxRecDepth 100000 in
theorem t_oneS (G : GT) (x : Nat → Nat) (N : Nat → Int32) (R : Nat → Nat → Int32) (K : Nat → Nat → Option Nat) (r : Nat → Nat) (S : Nat → Int32) (T : Nat → Nat → Int32) (tl : va_W) (B : Nat → Int32) (n : Nat) (hn : n ≤ 160) (h0 : N 0 = nI n) (hB : Tp B n (R 0)) (p : Nat) (c : List Int32) (hp : p ≤ n) (hc : c.length ≤ p) (h : RS B n p c S (T 0)) (d o de dn : Nat) (hd : d < 5) (hei : CtR G x N R K r tl B n mX6_either de (nI (d + 1)) (eitP B n o)) (hon : CtR G x N R K r tl B n mX6_one dn (nI (d + 1)) (oneP B n o)) (dp : Nat) (hd1 : 9 ≤ dp) (hd2 : de + 1 ≤ dp) (hd3 : dn + 1 ≤ dp)  : Ct G mX6_one dp 0 0 [.ref (x 1), .int (nI d)] (XW G x N R K r S T tl) (RT G x N R K r (T 1) tl (RP B n c (oneP B n (o + 1) p))) := by
  refine Ct.intro [(0, .ref (x 1)), (1, .int (nI d))] (by decide) rfl (Nat.le_of_ble_eq_true rfl) ?_
  refine z_aload_n d_X6_one_0 0 rfl ?_
  refine z_get (v := .int (S 2)) (1) f_X6_42_6 rfl rfl d_X6_one_1 ?_
  refine z_top h.1.2.1 ?_
  refine z_iconst (v := 2) d_X6_one_4 (by decide) ?_
  refine z_icmp_eq d_X6_one_5 (fun c_5 => ?_) (fun c_5 => ?_)
  · have hk0 := nx_tk (B := B) (n := n) (p := p) c_5 (by decide) (by decide)
    have hn0 := nx_le B hp
    refine z_aload_n d_X6_one_16 0 rfl ?_
    refine z_aload_n d_X6_one_17 0 rfl ?_
    refine z_get (v := .int (S 3)) (1) f_X6_92_6 rfl rfl d_X6_one_18 ?_
    refine z_top (h.1.2.2.1 (Or.inl c_5)) ?_
    refine z_callV 1 c_X6_77 rfl rfl (t_emS G x N R K r S T tl B n p c (vlL B n p) h (by (try simp only [List.length_append, List.length_cons, List.length_nil]); omega)) rfl rfl (Nat.le_of_ble_eq_true rfl) (rm_le (by omega)) d_X6_one_21 ?_
    rintro v21 w21 ⟨rfl, S21, T21, rfl, hT21, h21⟩
    refine z_aload_n d_X6_one_24 0 rfl ?_
    have hk25 := nx_tk (B := B) (n := n) (p := p) c_5 (by decide) (by decide)
    have hn25 := nx_le B hp
    refine z_callV 1 c_X6_35 rfl rfl (t_adv G x N R K r tl B n hn h0 hB p (c ++ [(vlL B n p)]) S21 T21 hp h21 (by rw [c_5]; decide)) rfl rfl (Nat.le_of_ble_eq_true rfl) (rm_le (by omega)) d_X6_one_25 ?_
    rintro v25 w25 ⟨rfl, S25, T25, rfl, hT25, h25⟩
    refine z_goto d_X6_one_28 ?_
    exact z_vret _ d_X6_one_103 rfl ⟨rfl, _, _, rfl, (hT25.trans (hT21.trans rfl)), RP.ok (by rw [oneP_s, onP]; rw [if_pos (Or.inl c_5)]) h25 (by simp only [List.append_assoc])⟩
  · refine z_aload_n d_X6_one_8 0 rfl ?_
    refine z_get (v := .int (S 2)) (1) f_X6_42_6 rfl rfl d_X6_one_9 ?_
    refine z_top h.1.2.1 ?_
    refine z_iconst (v := 3) d_X6_one_12 (by decide) ?_
    refine z_icmp_ne d_X6_one_13 (fun c_13 => ?_) (fun c_13 => ?_)
    · refine z_aload_n d_X6_one_31 0 rfl ?_
      refine z_get (v := .int (S 2)) (1) f_X6_42_6 rfl rfl d_X6_one_32 ?_
      refine z_top h.1.2.1 ?_
      refine z_bipush (v := 45) d_X6_one_35 (by decide) ?_
      refine z_icmp_ne d_X6_one_37 (fun c_37 => ?_) (fun c_37 => ?_)
      · refine z_aload_n d_X6_one_65 0 rfl ?_
        refine z_get (v := .int (S 2)) (1) f_X6_42_6 rfl rfl d_X6_one_66 ?_
        refine z_top h.1.2.1 ?_
        refine z_bipush (v := 40) d_X6_one_69 (by decide) ?_
        refine z_icmp_ne d_X6_one_71 (fun c_71 => ?_) (fun c_71 => ?_)
        · refine z_aload_n d_X6_one_99 0 rfl ?_
          refine z_callV 1 c_X6_45 rfl rfl (t_refS G x N R K r S T tl B n hn h0 hB p c hp h (by (try simp only [List.length_append, List.length_cons, List.length_nil]); omega)) rfl rfl (Nat.le_of_ble_eq_true rfl) (rm_le (by omega)) d_X6_one_100 ?_
          rintro v100 w100 ⟨rfl, S100, T100, rfl, hT100, h100⟩
          exact z_vret _ d_X6_one_103 rfl ⟨rfl, _, _, rfl, (hT100.trans rfl), RP.bad (by rw [oneP_s, onP]; rw [if_neg (fun hh => hh.elim c_5 c_13)]; rw [if_neg (fun hh => c_37 hh.1), if_neg (fun hh => c_71 hh.1)]) h100⟩
        · refine z_iload_n d_X6_one_74 1 rfl ?_
          refine z_iconst (v := 5) d_X6_one_75 (by decide) ?_
          refine z_icmp_ge d_X6_one_76 (fun c_76 => ?_) (fun c_76 => ?_)
          · exact absurd c_76 (by rw [show (5 : Int32) = nI 5 from rfl]; intro hh; have := ge_nI (by omega) (by decide) hh; omega)
          refine z_aload_n d_X6_one_79 0 rfl ?_
          have hk80 := nx_tk (B := B) (n := n) (p := p) c_71 (by decide) (by decide)
          have hn80 := nx_le B hp
          refine z_callV 1 c_X6_35 rfl rfl (t_adv G x N R K r tl B n hn h0 hB p c S T hp h (by rw [c_71]; decide)) rfl rfl (Nat.le_of_ble_eq_true rfl) (rm_le (by omega)) d_X6_one_80 ?_
          rintro v80 w80 ⟨rfl, S80, T80, rfl, hT80, h80⟩
          refine z_aload_n d_X6_one_83 0 rfl ?_
          refine z_iload_n d_X6_one_84 1 rfl ?_
          refine z_iconst (v := 1) d_X6_one_85 (by decide) ?_
          refine z_iadd d_X6_one_86 ?_
          refine z_top (nI_1 d) ?_
          refine z_callV 1 c_X6_68 rfl rfl (hei (nxL B n p) c S80 T80 (nx_le B hp) (by (try simp only [List.length_append, List.length_cons, List.length_nil]); omega) h80) rfl rfl (Nat.le_of_ble_eq_true rfl) (rm_le (by omega)) d_X6_one_87 ?_
          rintro v87 w87 ⟨rfl, S87, T87, rfl, hT87, h87⟩
          rcases hr87 : eitP B n o (nxL B n p) with f87 | ⟨c87, q87⟩
          · rw [hr87] at h87
            replace h87 : RF f87 S87 := h87
            refine z_aload_n d_X6_one_90 0 rfl ?_
            refine z_bipush (v := 41) d_X6_one_91 (by decide) ?_
            refine z_callV 1 c_X6_64 rfl rfl (t_expF G x N R K r S87 T87 tl f87 41 h87 (by decide)) rfl rfl (Nat.le_of_ble_eq_true rfl) (rm_le (by omega)) d_X6_one_93 ?_
            rintro v93 w93 ⟨rfl, S93, T93, rfl, hT93, h93⟩
            refine z_goto d_X6_one_96 ?_
            exact z_vret _ d_X6_one_103 rfl ⟨rfl, _, _, rfl, (hT93.trans (hT87.trans (hT80.trans rfl))), RP.bad (by rw [oneP_s, onP]; rw [if_neg (fun hh => hh.elim c_5 c_13)]; rw [if_neg (fun hh => c_37 hh.1), if_pos ⟨c_71, rfl⟩, hr87]) h93⟩
          · rw [hr87] at h87
            replace h87 : RS B n q87 (c ++ c87) S87 (T87 0) := h87
            have hg87 := ((lv_gd B n o).2.2 _ (nx_le B hp)).1 c87 q87 hr87
            have ga87 := hg87.1
            have gb87 := hg87.2.1
            have gc87 := hg87.2.2.1
            refine z_aload_n d_X6_one_90 0 rfl ?_
            refine z_bipush (v := 41) d_X6_one_91 (by decide) ?_
            refine z_callV 1 c_X6_64 rfl rfl (t_expS G x N R K r S87 T87 tl B n hn h0 hB q87 (c ++ c87) 41 hg87.2.1 (by (try simp only [List.length_append, List.length_cons, List.length_nil]); omega) (by decide) (by decide) h87) rfl rfl (Nat.le_of_ble_eq_true rfl) (rm_le (by omega)) d_X6_one_93 ?_
            rintro v93 w93 ⟨rfl, S93, T93, rfl, hT93, h93⟩
            by_cases he93 : tkL B n q87 = 41
            · replace h93 : RS B n (nxL B n q87) (c ++ c87) S93 (T93 0) := (if_pos he93).mp h93
              have hk93 := nx_tk (B := B) (n := n) (p := q87) he93 (by decide) (by decide)
              have hn93 := nx_le B hg87.2.1
              refine z_goto d_X6_one_96 ?_
              exact z_vret _ d_X6_one_103 rfl ⟨rfl, _, _, rfl, (hT93.trans (hT87.trans (hT80.trans rfl))), RP.ok (by rw [oneP_s, onP]; rw [if_neg (fun hh => hh.elim c_5 c_13)]; rw [if_neg (fun hh => c_37 hh.1), if_pos ⟨c_71, rfl⟩, hr87]; exact if_pos he93) h93 (by simp only [List.append_assoc])⟩
            · replace h93 : RF (stL B n q87) S93 := (if_neg he93).mp h93
              refine z_goto d_X6_one_96 ?_
              exact z_vret _ d_X6_one_103 rfl ⟨rfl, _, _, rfl, (hT93.trans (hT87.trans (hT80.trans rfl))), RP.bad (by rw [oneP_s, onP]; rw [if_neg (fun hh => hh.elim c_5 c_13)]; rw [if_neg (fun hh => c_37 hh.1), if_pos ⟨c_71, rfl⟩, hr87]; exact if_neg he93) h93⟩
      · refine z_iload_n d_X6_one_40 1 rfl ?_
        refine z_iconst (v := 5) d_X6_one_41 (by decide) ?_
        refine z_icmp_ge d_X6_one_42 (fun c_42 => ?_) (fun c_42 => ?_)
        · exact absurd c_42 (by rw [show (5 : Int32) = nI 5 from rfl]; intro hh; have := ge_nI (by omega) (by decide) hh; omega)
        refine z_aload_n d_X6_one_45 0 rfl ?_
        have hk46 := nx_tk (B := B) (n := n) (p := p) c_37 (by decide) (by decide)
        have hn46 := nx_le B hp
        refine z_callV 1 c_X6_35 rfl rfl (t_adv G x N R K r tl B n hn h0 hB p c S T hp h (by rw [c_37]; decide)) rfl rfl (Nat.le_of_ble_eq_true rfl) (rm_le (by omega)) d_X6_one_46 ?_
        rintro v46 w46 ⟨rfl, S46, T46, rfl, hT46, h46⟩
        refine z_aload_n d_X6_one_49 0 rfl ?_
        refine z_iload_n d_X6_one_50 1 rfl ?_
        refine z_iconst (v := 1) d_X6_one_51 (by decide) ?_
        refine z_iadd d_X6_one_52 ?_
        refine z_top (nI_1 d) ?_
        refine z_callV 1 c_X6_89 rfl rfl (hon (nxL B n p) c S46 T46 (nx_le B hp) (by (try simp only [List.length_append, List.length_cons, List.length_nil]); omega) h46) rfl rfl (Nat.le_of_ble_eq_true rfl) (rm_le (by omega)) d_X6_one_53 ?_
        rintro v53 w53 ⟨rfl, S53, T53, rfl, hT53, h53⟩
        rcases hr53 : oneP B n o (nxL B n p) with f53 | ⟨c53, q53⟩
        · rw [hr53] at h53
          replace h53 : RF f53 S53 := h53
          refine z_aload_n d_X6_one_56 0 rfl ?_
          refine z_bipush (v := -15) d_X6_one_57 (by decide) ?_
          refine z_callV 1 c_X6_77 rfl rfl (t_emF G x N R K r S53 T53 tl f53 (-15) h53) rfl rfl (Nat.le_of_ble_eq_true rfl) (rm_le (by omega)) d_X6_one_59 ?_
          rintro v59 w59 ⟨rfl, S59, T59, rfl, hT59, h59⟩
          refine z_goto d_X6_one_62 ?_
          exact z_vret _ d_X6_one_103 rfl ⟨rfl, _, _, rfl, (hT59.trans (hT53.trans (hT46.trans rfl))), RP.bad (by rw [oneP_s, onP]; rw [if_neg (fun hh => hh.elim c_5 c_13)]; rw [if_pos ⟨c_37, rfl⟩, hr53]) h59⟩
        · rw [hr53] at h53
          replace h53 : RS B n q53 (c ++ c53) S53 (T53 0) := h53
          have hg53 := ((lv_gd B n o).1 _ (nx_le B hp)).1 c53 q53 hr53
          have ga53 := hg53.1
          have gb53 := hg53.2.1
          have gc53 := hg53.2.2.1
          refine z_aload_n d_X6_one_56 0 rfl ?_
          refine z_bipush (v := -15) d_X6_one_57 (by decide) ?_
          refine z_callV 1 c_X6_77 rfl rfl (t_emS G x N R K r S53 T53 tl B n q53 (c ++ c53) (-15) h53 (by (try simp only [List.length_append, List.length_cons, List.length_nil]); omega)) rfl rfl (Nat.le_of_ble_eq_true rfl) (rm_le (by omega)) d_X6_one_59 ?_
          rintro v59 w59 ⟨rfl, S59, T59, rfl, hT59, h59⟩
          refine z_goto d_X6_one_62 ?_
          exact z_vret _ d_X6_one_103 rfl ⟨rfl, _, _, rfl, (hT59.trans (hT53.trans (hT46.trans rfl))), RP.ok (by rw [oneP_s, onP]; rw [if_neg (fun hh => hh.elim c_5 c_13)]; rw [if_pos ⟨c_37, rfl⟩, hr53]) h59 (by simp only [List.append_assoc])⟩
    · have hk0 := nx_tk (B := B) (n := n) (p := p) c_13 (by decide) (by decide)
      have hn0 := nx_le B hp
      refine z_aload_n d_X6_one_16 0 rfl ?_
      refine z_aload_n d_X6_one_17 0 rfl ?_
      refine z_get (v := .int (S 3)) (1) f_X6_92_6 rfl rfl d_X6_one_18 ?_
      refine z_top (h.1.2.2.1 (Or.inr c_13)) ?_
      refine z_callV 1 c_X6_77 rfl rfl (t_emS G x N R K r S T tl B n p c (vlL B n p) h (by (try simp only [List.length_append, List.length_cons, List.length_nil]); omega)) rfl rfl (Nat.le_of_ble_eq_true rfl) (rm_le (by omega)) d_X6_one_21 ?_
      rintro v21 w21 ⟨rfl, S21, T21, rfl, hT21, h21⟩
      refine z_aload_n d_X6_one_24 0 rfl ?_
      have hk25 := nx_tk (B := B) (n := n) (p := p) c_13 (by decide) (by decide)
      have hn25 := nx_le B hp
      refine z_callV 1 c_X6_35 rfl rfl (t_adv G x N R K r tl B n hn h0 hB p (c ++ [(vlL B n p)]) S21 T21 hp h21 (by rw [c_13]; decide)) rfl rfl (Nat.le_of_ble_eq_true rfl) (rm_le (by omega)) d_X6_one_25 ?_
      rintro v25 w25 ⟨rfl, S25, T25, rfl, hT25, h25⟩
      refine z_goto d_X6_one_28 ?_
      exact z_vret _ d_X6_one_103 rfl ⟨rfl, _, _, rfl, (hT25.trans (hT21.trans rfl)), RP.ok (by rw [oneP_s, onP]; rw [if_pos (Or.inr c_13)]) h25 (by simp only [List.append_assoc])⟩
theorem op_end {B : Nat → Int32} {n q i : Nat} {op : Int32 → Int32} (ho : OpOk op) (hq : q ≤ n) (hn : n ≤ 160) (hi : i ≤ q) (h : ¬ nI i < 160) : op (tkL B n q) = 0 := by
  by_cases h0 : op (tkL B n q) = 0
  · exact h0
  · have h1 := op_tk (B := B) (n := n) (q := q) ho.1 ho.2.1 h0
    have h2 := stL_ge B n q
    have h3 := nx_le B hq
    rw [show (160 : Int32) = nI 160 from rfl] at h
    have := ge_nI (by omega) (by decide) h
    omega
set_option maxHeartbeats 4000000 in
set_option maxRecDepth 100000 in
theorem lr_term (G : GT) (x : Nat → Nat) (N : Nat → Int32) (R : Nat → Nat → Int32) (K : Nat → Nat → Option Nat) (r : Nat → Nat) (tl : va_W) (B : Nat → Int32) (n : Nat) (hn : n ≤ 160) (h0 : N 0 = nI n) (hB : Tp B n (R 0)) (T1 : Nat → Int32) (c0 : List Int32) (d : Nat) (P : Nat → PR) (dn : Nat) (hP : CtR G x N R K r tl B n mX6_one dn (nI d) P) (gd : GdP n P) (dp : Nat) (hd1 : 9 ≤ dp) (hd2 : dn + 1 ≤ dp) : ∀ (f : Nat)  (i : Nat) (c : List Int32) (q : Nat) (S : Nat → Int32) (T : Nat → Nat → Int32) (hT : T 1 = T1) (h : RS B n q (c0 ++ c) S (T 0)) (hq : q ≤ n) (hc : c0.length + c.length ≤ q) (hi : i ≤ q) (hm : n < q + f), Tr G mX6_term (Rm dp 0 0) (OM G (RT G x N R K r T1 tl (RP B n c0 (lpS B n opT P f c q))) 0 0) 0 0 7 [(2, .int (nI i)), (0, .ref (x 1)), (1, .int (nI d))] [] (XW G x N R K r S T tl) := by
  intro f
  induction f with
  | zero =>
    intro i c q S T hT h hq hc hi hm
    exact absurd hm (by omega)
  | succ f ih =>
    intro i c q S T hT h hq hc hi hm
    refine z_iload_n d_X6_term_7 0 rfl ?_
    refine z_sipush (v := 160) d_X6_term_8 (by decide) ?_
    refine z_icmp_ge d_X6_term_11 (fun c_11 => ?_) (fun c_11 => ?_)
    · have hop : opT (tkL B n q) = 0 := op_end opT_ok hq hn hi c_11
      exact z_vret _ d_X6_term_44 rfl ⟨rfl, _, _, rfl, hT, RP.ok (by rw [lpS, if_pos hop]) h rfl⟩
    · refine z_aload_n d_X6_term_14 1 rfl ?_
      refine z_get (v := .int (S 2)) (1) f_X6_42_6 rfl rfl d_X6_term_15 ?_
      refine z_top h.1.2.1 ?_
      refine z_bipush (v := 42) d_X6_term_18 (by decide) ?_
      refine z_icmp_ne d_X6_term_20 (fun c_20 => ?_) (fun c_20 => ?_)
      · have hop : opT (tkL B n q) = 0 := by unfold opT; rw [if_neg c_20]
        exact z_vret _ d_X6_term_44 rfl ⟨rfl, _, _, rfl, hT, RP.ok (by rw [lpS, if_pos hop]) h rfl⟩
      · have hop : opT (tkL B n q) = -14 := by rw [c_20]; rfl
        refine z_aload_n d_X6_term_23 1 rfl ?_
        have hk24 := nx_tk (B := B) (n := n) (p := q) c_20 (by decide) (by decide)
        have hn24 := nx_le B hq
        refine z_callV 1 c_X6_35 rfl rfl (t_adv G x N R K r tl B n hn h0 hB q (c0 ++ c) S T hq h (by rw [c_20]; decide)) rfl rfl (Nat.le_of_ble_eq_true rfl) (rm_le (by omega)) d_X6_term_24 ?_
        rintro v24 w24 ⟨rfl, S24, T24, rfl, hT24, h24⟩
        refine z_aload_n d_X6_term_27 1 rfl ?_
        refine z_iload_n d_X6_term_28 2 rfl ?_
        refine z_callV 1 c_X6_89 rfl rfl (hP (nxL B n q) (c0 ++ c) S24 T24 (nx_le B hq) (by (try simp only [List.length_append, List.length_cons, List.length_nil]); omega) h24) rfl rfl (Nat.le_of_ble_eq_true rfl) (rm_le (by omega)) d_X6_term_29 ?_
        rintro v29 w29 ⟨rfl, S29, T29, rfl, hT29, h29⟩
        rcases hr29 : P (nxL B n q) with f29 | ⟨c29, q29⟩
        · rw [hr29] at h29
          replace h29 : RF f29 S29 := h29
          refine z_aload_n d_X6_term_32 1 rfl ?_
          refine z_bipush (v := -14) d_X6_term_33 (by decide) ?_
          refine z_callV 1 c_X6_77 rfl rfl (t_emF G x N R K r S29 T29 tl f29 (-14) h29) rfl rfl (Nat.le_of_ble_eq_true rfl) (rm_le (by omega)) d_X6_term_35 ?_
          rintro v35 w35 ⟨rfl, S35, T35, rfl, hT35, h35⟩
          refine z_iinc (nI (i + 1)) [(2, .int (nI (i + 1))), (0, .ref (x 1)), (1, .int (nI d))] 0 d_X6_term_38 rfl (nI_1 _) (by decide) rfl ?_
          refine z_goto d_X6_term_41 ?_
          refine z_iload_n d_X6_term_7 0 rfl ?_
          refine z_sipush (v := 160) d_X6_term_8 (by decide) ?_
          refine z_icmp_ge d_X6_term_11 (fun c_11 => ?_) (fun c_11 => ?_)
          · exact z_vret _ d_X6_term_44 rfl ⟨rfl, _, _, rfl, (hT35.trans (hT29.trans (hT24.trans hT))), RP.bad (by rw [lpS, if_neg (by rw [hop]; decide), hr29]) h35⟩
          · refine z_aload_n d_X6_term_14 1 rfl ?_
            refine z_get (v := .int (S35 2)) (1) f_X6_42_6 rfl rfl d_X6_term_15 ?_
            refine z_top h35.1 ?_
            refine z_bipush (v := 42) d_X6_term_18 (by decide) ?_
            refine z_icmp_ne d_X6_term_20 (fun c_20 => ?_) (fun c_20 => ?_)
            rotate_left
            · exact absurd c_20 (by decide)
            exact z_vret _ d_X6_term_44 rfl ⟨rfl, _, _, rfl, (hT35.trans (hT29.trans (hT24.trans hT))), RP.bad (by rw [lpS, if_neg (by rw [hop]; decide), hr29]) h35⟩
        · rw [hr29] at h29
          replace h29 : RS B n q29 ((c0 ++ c) ++ c29) S29 (T29 0) := h29
          have hg29 := (gd _ (nx_le B hq)).1 c29 q29 hr29
          have ga29 := hg29.1
          have gb29 := hg29.2.1
          have gc29 := hg29.2.2.1
          refine z_aload_n d_X6_term_32 1 rfl ?_
          refine z_bipush (v := -14) d_X6_term_33 (by decide) ?_
          refine z_callV 1 c_X6_77 rfl rfl (t_emS G x N R K r S29 T29 tl B n q29 ((c0 ++ c) ++ c29) (-14) h29 (by (try simp only [List.length_append, List.length_cons, List.length_nil]); omega)) rfl rfl (Nat.le_of_ble_eq_true rfl) (rm_le (by omega)) d_X6_term_35 ?_
          rintro v35 w35 ⟨rfl, S35, T35, rfl, hT35, h35⟩
          refine z_iinc (nI (i + 1)) [(2, .int (nI (i + 1))), (0, .ref (x 1)), (1, .int (nI d))] 0 d_X6_term_38 rfl (nI_1 _) (by decide) rfl ?_
          refine z_goto d_X6_term_41 ?_
          have e9 : lpS B n opT P (f + 1) c q = lpS B n opT P f (c ++ c29 ++ [-14]) q29 := by rw [lpS, if_neg (by rw [hop]; decide), hr29, hop]
          rw [e9]
          exact ih (i + 1) (c ++ c29 ++ [-14]) q29 S35 T35 (hT35.trans (hT29.trans (hT24.trans hT))) (by rw [← List.append_assoc, ← List.append_assoc]; exact h35) gb29 (by (try simp only [List.length_append, List.length_cons, List.length_nil]); omega) (by omega) (by omega)
set_option maxHeartbeats 4000000 in
set_option maxRecDepth 100000 in
theorem t_X6_term (G : GT) (x : Nat → Nat) (N : Nat → Int32) (R : Nat → Nat → Int32) (K : Nat → Nat → Option Nat) (r : Nat → Nat) (S : Nat → Int32) (T : Nat → Nat → Int32) (tl : va_W) (B : Nat → Int32) (n : Nat) (hn : n ≤ 160) (h0 : N 0 = nI n) (hB : Tp B n (R 0)) (p : Nat) (c : List Int32) (hp : p ≤ n) (hc : c.length ≤ p) (h : RS B n p c S (T 0)) (d : Nat) (P : Nat → PR) (dn : Nat) (hP : CtR G x N R K r tl B n mX6_one dn (nI d) P) (gd : GdP n P) (dp : Nat) (hd1 : 9 ≤ dp) (hd2 : dn + 1 ≤ dp)  : Ct G mX6_term dp 0 0 [.ref (x 1), .int (nI d)] (XW G x N R K r S T tl) (RT G x N R K r (T 1) tl (RP B n c (thL B n P opT p))) := by
  refine Ct.intro [(0, .ref (x 1)), (1, .int (nI d))] (by decide) rfl (Nat.le_of_ble_eq_true rfl) ?_
  refine z_aload_n d_X6_term_0 0 rfl ?_
  refine z_iload_n d_X6_term_1 1 rfl ?_
  refine z_callV 1 c_X6_89 rfl rfl (hP p c S T hp (by (try simp only [List.length_append, List.length_cons, List.length_nil]); omega) h) rfl rfl (Nat.le_of_ble_eq_true rfl) (rm_le (by omega)) d_X6_term_2 ?_
  rintro v2 w2 ⟨rfl, S2, T2, rfl, hT2, h2⟩
  rcases hr2 : P p with f2 | ⟨c2, q2⟩
  · rw [hr2] at h2
    replace h2 : RF f2 S2 := h2
    refine z_iconst (v := 0) d_X6_term_5 (by decide) ?_
    refine z_istore_n [(2, .int 0), (0, .ref (x 1)), (1, .int (nI d))] d_X6_term_6 (by decide) rfl ?_
    refine z_iload_n d_X6_term_7 0 rfl ?_
    refine z_sipush (v := 160) d_X6_term_8 (by decide) ?_
    refine z_icmp_ge d_X6_term_11 (fun c_11 => ?_) (fun c_11 => ?_)
    · exact absurd c_11 (by decide)
    refine z_aload_n d_X6_term_14 1 rfl ?_
    refine z_get (v := .int (S2 2)) (1) f_X6_42_6 rfl rfl d_X6_term_15 ?_
    refine z_top h2.1 ?_
    refine z_bipush (v := 42) d_X6_term_18 (by decide) ?_
    refine z_icmp_ne d_X6_term_20 (fun c_20 => ?_) (fun c_20 => ?_)
    rotate_left
    · exact absurd c_20 (by decide)
    exact z_vret _ d_X6_term_44 rfl ⟨rfl, _, _, rfl, (hT2.trans rfl), RP.bad (by rw [thL, hr2]) h2⟩
  · rw [hr2] at h2
    replace h2 : RS B n q2 (c ++ c2) S2 (T2 0) := h2
    have hg2 := (gd _ hp).1 c2 q2 hr2
    have ga2 := hg2.1
    have gb2 := hg2.2.1
    have gc2 := hg2.2.2.1
    refine z_iconst (v := 0) d_X6_term_5 (by decide) ?_
    refine z_istore_n [(2, .int 0), (0, .ref (x 1)), (1, .int (nI d))] d_X6_term_6 (by decide) rfl ?_
    have e9 : thL B n P opT p = lpS B n opT P (n + 1) c2 q2 := by rw [thL, hr2]
    rw [e9]
    exact lr_term G x N R K r tl B n hn h0 hB (T 1) c d P dn hP gd dp hd1 hd2 (n + 1) 0 c2 q2 S2 T2 (hT2.trans rfl) h2 gb2 (by (try simp only [List.length_append, List.length_cons, List.length_nil]); omega) (by omega) (by omega)
theorem P_term (G : GT) (x : Nat → Nat) (N : Nat → Int32) (R : Nat → Nat → Int32) (K : Nat → Nat → Option Nat) (r : Nat → Nat) (tl : va_W) (B : Nat → Int32) (n : Nat) (hn : n ≤ 160) (h0 : N 0 = nI n) (hB : Tp B n (R 0)) (d : Nat) (P : Nat → PR) (dn : Nat) (hP : CtR G x N R K r tl B n mX6_one dn (nI d) P) (gd : GdP n P) (dp : Nat) (hd1 : 9 ≤ dp) (hd2 : dn + 1 ≤ dp) : CtR G x N R K r tl B n mX6_term dp (nI d) (thL B n P opT) := fun p c S T hp hc h => t_X6_term G x N R K r S T tl B n hn h0 hB p c hp hc h d P dn hP gd dp hd1 hd2
set_option maxHeartbeats 4000000 in
set_option maxRecDepth 100000 in
theorem lr_sum (G : GT) (x : Nat → Nat) (N : Nat → Int32) (R : Nat → Nat → Int32) (K : Nat → Nat → Option Nat) (r : Nat → Nat) (tl : va_W) (B : Nat → Int32) (n : Nat) (hn : n ≤ 160) (h0 : N 0 = nI n) (hB : Tp B n (R 0)) (T1 : Nat → Int32) (c0 : List Int32) (d : Nat) (P : Nat → PR) (dn : Nat) (hP : CtR G x N R K r tl B n mX6_term dn (nI d) P) (gd : GdP n P) (dp : Nat) (hd1 : 9 ≤ dp) (hd2 : dn + 1 ≤ dp) : ∀ (f : Nat)  (i : Nat) (c : List Int32) (q : Nat) (S : Nat → Int32) (T : Nat → Nat → Int32) (hT : T 1 = T1) (h : RS B n q (c0 ++ c) S (T 0)) (hq : q ≤ n) (hc : c0.length + c.length ≤ q) (hi : i ≤ q) (hm : n < q + f), Tr G mX6_sum (Rm dp 0 0) (OM G (RT G x N R K r T1 tl (RP B n c0 (lpS B n opA P f c q))) 0 0) 0 0 7 [(2, .int (nI i)), (0, .ref (x 1)), (1, .int (nI d))] [] (XW G x N R K r S T tl) := by
  intro f
  induction f with
  | zero =>
    intro i c q S T hT h hq hc hi hm
    exact absurd hm (by omega)
  | succ f ih =>
    intro i c q S T hT h hq hc hi hm
    refine z_iload_n d_X6_sum_7 0 rfl ?_
    refine z_sipush (v := 160) d_X6_sum_8 (by decide) ?_
    refine z_icmp_ge d_X6_sum_11 (fun c_11 => ?_) (fun c_11 => ?_)
    · have hop : opA (tkL B n q) = 0 := op_end opA_ok hq hn hi c_11
      exact z_vret _ d_X6_sum_69 rfl ⟨rfl, _, _, rfl, hT, RP.ok (by rw [lpS, if_pos hop]) h rfl⟩
    · refine z_aload_n d_X6_sum_14 1 rfl ?_
      refine z_get (v := .int (S 2)) (1) f_X6_42_6 rfl rfl d_X6_sum_15 ?_
      refine z_top h.1.2.1 ?_
      refine z_bipush (v := 43) d_X6_sum_18 (by decide) ?_
      refine z_icmp_eq d_X6_sum_20 (fun c_20 => ?_) (fun c_20 => ?_)
      · have hop : opA (tkL B n q) = -12 := by rw [c_20]; rfl
        refine z_aload_n d_X6_sum_32 1 rfl ?_
        refine z_get (v := .int (S 2)) (1) f_X6_42_6 rfl rfl d_X6_sum_33 ?_
        refine z_top h.1.2.1 ?_
        refine z_bipush (v := 43) d_X6_sum_36 (by decide) ?_
        refine z_icmp_ne d_X6_sum_38 (fun c_38 => ?_) (fun c_38 => ?_)
        · exact absurd c_38 (fun hh => hh c_20)
        refine z_bipush (v := -12) d_X6_sum_41 (by decide) ?_
        refine z_goto d_X6_sum_43 ?_
        refine z_istore_n [(3, .int (-12)), (2, .int (nI i)), (0, .ref (x 1)), (1, .int (nI d))] d_X6_sum_48 (by decide) rfl ?_
        refine z_aload_n d_X6_sum_49 2 rfl ?_
        have hk50 := nx_tk (B := B) (n := n) (p := q) c_20 (by decide) (by decide)
        have hn50 := nx_le B hq
        refine z_callV 1 c_X6_35 rfl rfl (t_adv G x N R K r tl B n hn h0 hB q (c0 ++ c) S T hq h (by rw [c_20]; decide)) rfl rfl (Nat.le_of_ble_eq_true rfl) (rm_le (by omega)) d_X6_sum_50 ?_
        rintro v50 w50 ⟨rfl, S50, T50, rfl, hT50, h50⟩
        refine z_aload_n d_X6_sum_53 2 rfl ?_
        refine z_iload_n d_X6_sum_54 3 rfl ?_
        refine z_callV 1 c_X6_86 rfl rfl (hP (nxL B n q) (c0 ++ c) S50 T50 (nx_le B hq) (by (try simp only [List.length_append, List.length_cons, List.length_nil]); omega) h50) rfl rfl (Nat.le_of_ble_eq_true rfl) (rm_le (by omega)) d_X6_sum_55 ?_
        rintro v55 w55 ⟨rfl, S55, T55, rfl, hT55, h55⟩
        rcases hr55 : P (nxL B n q) with f55 | ⟨c55, q55⟩
        · rw [hr55] at h55
          replace h55 : RF f55 S55 := h55
          refine z_aload_n d_X6_sum_58 2 rfl ?_
          refine z_iload_n d_X6_sum_59 0 rfl ?_
          refine z_callV 1 c_X6_77 rfl rfl (t_emF G x N R K r S55 T55 tl f55 (-12) h55) rfl rfl (Nat.le_of_ble_eq_true rfl) (rm_le (by omega)) d_X6_sum_60 ?_
          rintro v60 w60 ⟨rfl, S60, T60, rfl, hT60, h60⟩
          refine z_iinc (nI (i + 1)) [(2, .int (nI (i + 1))), (3, .int (-12)), (0, .ref (x 1)), (1, .int (nI d))] 1 d_X6_sum_63 rfl (nI_1 _) (by decide) rfl ?_
          refine z_goto d_X6_sum_66 ?_
          refine z_iload_n d_X6_sum_7 0 rfl ?_
          refine z_sipush (v := 160) d_X6_sum_8 (by decide) ?_
          refine z_icmp_ge d_X6_sum_11 (fun c_11 => ?_) (fun c_11 => ?_)
          · exact z_vret _ d_X6_sum_69 rfl ⟨rfl, _, _, rfl, (hT60.trans (hT55.trans (hT50.trans hT))), RP.bad (by rw [lpS, if_neg (by rw [hop]; decide), hr55]) h60⟩
          · refine z_aload_n d_X6_sum_14 2 rfl ?_
            refine z_get (v := .int (S60 2)) (1) f_X6_42_6 rfl rfl d_X6_sum_15 ?_
            refine z_top h60.1 ?_
            refine z_bipush (v := 43) d_X6_sum_18 (by decide) ?_
            refine z_icmp_eq d_X6_sum_20 (fun c_20 => ?_) (fun c_20 => ?_)
            · exact absurd c_20 (by decide)
            refine z_aload_n d_X6_sum_23 2 rfl ?_
            refine z_get (v := .int (S60 2)) (1) f_X6_42_6 rfl rfl d_X6_sum_24 ?_
            refine z_top h60.1 ?_
            refine z_bipush (v := 45) d_X6_sum_27 (by decide) ?_
            refine z_icmp_ne d_X6_sum_29 (fun c_29 => ?_) (fun c_29 => ?_)
            rotate_left
            · exact absurd c_29 (by decide)
            exact z_vret _ d_X6_sum_69 rfl ⟨rfl, _, _, rfl, (hT60.trans (hT55.trans (hT50.trans hT))), RP.bad (by rw [lpS, if_neg (by rw [hop]; decide), hr55]) h60⟩
        · rw [hr55] at h55
          replace h55 : RS B n q55 ((c0 ++ c) ++ c55) S55 (T55 0) := h55
          have hg55 := (gd _ (nx_le B hq)).1 c55 q55 hr55
          have ga55 := hg55.1
          have gb55 := hg55.2.1
          have gc55 := hg55.2.2.1
          refine z_aload_n d_X6_sum_58 2 rfl ?_
          refine z_iload_n d_X6_sum_59 0 rfl ?_
          refine z_callV 1 c_X6_77 rfl rfl (t_emS G x N R K r S55 T55 tl B n q55 ((c0 ++ c) ++ c55) (-12) h55 (by (try simp only [List.length_append, List.length_cons, List.length_nil]); omega)) rfl rfl (Nat.le_of_ble_eq_true rfl) (rm_le (by omega)) d_X6_sum_60 ?_
          rintro v60 w60 ⟨rfl, S60, T60, rfl, hT60, h60⟩
          refine z_iinc (nI (i + 1)) [(2, .int (nI (i + 1))), (3, .int (-12)), (0, .ref (x 1)), (1, .int (nI d))] 1 d_X6_sum_63 rfl (nI_1 _) (by decide) rfl ?_
          refine z_goto d_X6_sum_66 ?_
          refine z_perm [0, 2, 3] rfl ?_
          have e9 : lpS B n opA P (f + 1) c q = lpS B n opA P f (c ++ c55 ++ [-12]) q55 := by rw [lpS, if_neg (by rw [hop]; decide), hr55, hop]
          rw [e9]
          exact ih (i + 1) (c ++ c55 ++ [-12]) q55 S60 T60 (hT60.trans (hT55.trans (hT50.trans hT))) (by rw [← List.append_assoc, ← List.append_assoc]; exact h60) gb55 (by (try simp only [List.length_append, List.length_cons, List.length_nil]); omega) (by omega) (by omega)
      · refine z_aload_n d_X6_sum_23 1 rfl ?_
        refine z_get (v := .int (S 2)) (1) f_X6_42_6 rfl rfl d_X6_sum_24 ?_
        refine z_top h.1.2.1 ?_
        refine z_bipush (v := 45) d_X6_sum_27 (by decide) ?_
        refine z_icmp_ne d_X6_sum_29 (fun c_29 => ?_) (fun c_29 => ?_)
        · have hop : opA (tkL B n q) = 0 := by unfold opA; rw [if_neg c_20]; rw [if_neg c_29]
          exact z_vret _ d_X6_sum_69 rfl ⟨rfl, _, _, rfl, hT, RP.ok (by rw [lpS, if_pos hop]) h rfl⟩
        · have hop : opA (tkL B n q) = -13 := by rw [c_29]; rfl
          refine z_aload_n d_X6_sum_32 1 rfl ?_
          refine z_get (v := .int (S 2)) (1) f_X6_42_6 rfl rfl d_X6_sum_33 ?_
          refine z_top h.1.2.1 ?_
          refine z_bipush (v := 43) d_X6_sum_36 (by decide) ?_
          refine z_icmp_ne d_X6_sum_38 (fun c_38 => ?_) (fun c_38 => ?_)
          rotate_left
          · exact absurd c_38 (by rw [c_29]; decide)
          refine z_bipush (v := -13) d_X6_sum_46 (by decide) ?_
          refine z_istore_n [(3, .int (-13)), (2, .int (nI i)), (0, .ref (x 1)), (1, .int (nI d))] d_X6_sum_48 (by decide) rfl ?_
          refine z_aload_n d_X6_sum_49 2 rfl ?_
          have hk50 := nx_tk (B := B) (n := n) (p := q) c_29 (by decide) (by decide)
          have hn50 := nx_le B hq
          refine z_callV 1 c_X6_35 rfl rfl (t_adv G x N R K r tl B n hn h0 hB q (c0 ++ c) S T hq h (by rw [c_29]; decide)) rfl rfl (Nat.le_of_ble_eq_true rfl) (rm_le (by omega)) d_X6_sum_50 ?_
          rintro v50 w50 ⟨rfl, S50, T50, rfl, hT50, h50⟩
          refine z_aload_n d_X6_sum_53 2 rfl ?_
          refine z_iload_n d_X6_sum_54 3 rfl ?_
          refine z_callV 1 c_X6_86 rfl rfl (hP (nxL B n q) (c0 ++ c) S50 T50 (nx_le B hq) (by (try simp only [List.length_append, List.length_cons, List.length_nil]); omega) h50) rfl rfl (Nat.le_of_ble_eq_true rfl) (rm_le (by omega)) d_X6_sum_55 ?_
          rintro v55 w55 ⟨rfl, S55, T55, rfl, hT55, h55⟩
          rcases hr55 : P (nxL B n q) with f55 | ⟨c55, q55⟩
          · rw [hr55] at h55
            replace h55 : RF f55 S55 := h55
            refine z_aload_n d_X6_sum_58 2 rfl ?_
            refine z_iload_n d_X6_sum_59 0 rfl ?_
            refine z_callV 1 c_X6_77 rfl rfl (t_emF G x N R K r S55 T55 tl f55 (-13) h55) rfl rfl (Nat.le_of_ble_eq_true rfl) (rm_le (by omega)) d_X6_sum_60 ?_
            rintro v60 w60 ⟨rfl, S60, T60, rfl, hT60, h60⟩
            refine z_iinc (nI (i + 1)) [(2, .int (nI (i + 1))), (3, .int (-13)), (0, .ref (x 1)), (1, .int (nI d))] 1 d_X6_sum_63 rfl (nI_1 _) (by decide) rfl ?_
            refine z_goto d_X6_sum_66 ?_
            refine z_iload_n d_X6_sum_7 0 rfl ?_
            refine z_sipush (v := 160) d_X6_sum_8 (by decide) ?_
            refine z_icmp_ge d_X6_sum_11 (fun c_11 => ?_) (fun c_11 => ?_)
            · exact z_vret _ d_X6_sum_69 rfl ⟨rfl, _, _, rfl, (hT60.trans (hT55.trans (hT50.trans hT))), RP.bad (by rw [lpS, if_neg (by rw [hop]; decide), hr55]) h60⟩
            · refine z_aload_n d_X6_sum_14 2 rfl ?_
              refine z_get (v := .int (S60 2)) (1) f_X6_42_6 rfl rfl d_X6_sum_15 ?_
              refine z_top h60.1 ?_
              refine z_bipush (v := 43) d_X6_sum_18 (by decide) ?_
              refine z_icmp_eq d_X6_sum_20 (fun c_20 => ?_) (fun c_20 => ?_)
              · exact absurd c_20 (by decide)
              refine z_aload_n d_X6_sum_23 2 rfl ?_
              refine z_get (v := .int (S60 2)) (1) f_X6_42_6 rfl rfl d_X6_sum_24 ?_
              refine z_top h60.1 ?_
              refine z_bipush (v := 45) d_X6_sum_27 (by decide) ?_
              refine z_icmp_ne d_X6_sum_29 (fun c_29 => ?_) (fun c_29 => ?_)
              rotate_left
              · exact absurd c_29 (by decide)
              exact z_vret _ d_X6_sum_69 rfl ⟨rfl, _, _, rfl, (hT60.trans (hT55.trans (hT50.trans hT))), RP.bad (by rw [lpS, if_neg (by rw [hop]; decide), hr55]) h60⟩
          · rw [hr55] at h55
            replace h55 : RS B n q55 ((c0 ++ c) ++ c55) S55 (T55 0) := h55
            have hg55 := (gd _ (nx_le B hq)).1 c55 q55 hr55
            have ga55 := hg55.1
            have gb55 := hg55.2.1
            have gc55 := hg55.2.2.1
            refine z_aload_n d_X6_sum_58 2 rfl ?_
            refine z_iload_n d_X6_sum_59 0 rfl ?_
            refine z_callV 1 c_X6_77 rfl rfl (t_emS G x N R K r S55 T55 tl B n q55 ((c0 ++ c) ++ c55) (-13) h55 (by (try simp only [List.length_append, List.length_cons, List.length_nil]); omega)) rfl rfl (Nat.le_of_ble_eq_true rfl) (rm_le (by omega)) d_X6_sum_60 ?_
            rintro v60 w60 ⟨rfl, S60, T60, rfl, hT60, h60⟩
            refine z_iinc (nI (i + 1)) [(2, .int (nI (i + 1))), (3, .int (-13)), (0, .ref (x 1)), (1, .int (nI d))] 1 d_X6_sum_63 rfl (nI_1 _) (by decide) rfl ?_
            refine z_goto d_X6_sum_66 ?_
            refine z_perm [0, 2, 3] rfl ?_
            have e9 : lpS B n opA P (f + 1) c q = lpS B n opA P f (c ++ c55 ++ [-13]) q55 := by rw [lpS, if_neg (by rw [hop]; decide), hr55, hop]
            rw [e9]
            exact ih (i + 1) (c ++ c55 ++ [-13]) q55 S60 T60 (hT60.trans (hT55.trans (hT50.trans hT))) (by rw [← List.append_assoc, ← List.append_assoc]; exact h60) gb55 (by (try simp only [List.length_append, List.length_cons, List.length_nil]); omega) (by omega) (by omega)
set_option maxHeartbeats 4000000 in
set_option maxRecDepth 100000 in
theorem t_X6_sum (G : GT) (x : Nat → Nat) (N : Nat → Int32) (R : Nat → Nat → Int32) (K : Nat → Nat → Option Nat) (r : Nat → Nat) (S : Nat → Int32) (T : Nat → Nat → Int32) (tl : va_W) (B : Nat → Int32) (n : Nat) (hn : n ≤ 160) (h0 : N 0 = nI n) (hB : Tp B n (R 0)) (p : Nat) (c : List Int32) (hp : p ≤ n) (hc : c.length ≤ p) (h : RS B n p c S (T 0)) (d : Nat) (P : Nat → PR) (dn : Nat) (hP : CtR G x N R K r tl B n mX6_term dn (nI d) P) (gd : GdP n P) (dp : Nat) (hd1 : 9 ≤ dp) (hd2 : dn + 1 ≤ dp)  : Ct G mX6_sum dp 0 0 [.ref (x 1), .int (nI d)] (XW G x N R K r S T tl) (RT G x N R K r (T 1) tl (RP B n c (thL B n P opA p))) := by
  refine Ct.intro [(0, .ref (x 1)), (1, .int (nI d))] (by decide) rfl (Nat.le_of_ble_eq_true rfl) ?_
  refine z_aload_n d_X6_sum_0 0 rfl ?_
  refine z_iload_n d_X6_sum_1 1 rfl ?_
  refine z_callV 1 c_X6_86 rfl rfl (hP p c S T hp (by (try simp only [List.length_append, List.length_cons, List.length_nil]); omega) h) rfl rfl (Nat.le_of_ble_eq_true rfl) (rm_le (by omega)) d_X6_sum_2 ?_
  rintro v2 w2 ⟨rfl, S2, T2, rfl, hT2, h2⟩
  rcases hr2 : P p with f2 | ⟨c2, q2⟩
  · rw [hr2] at h2
    replace h2 : RF f2 S2 := h2
    refine z_iconst (v := 0) d_X6_sum_5 (by decide) ?_
    refine z_istore_n [(2, .int 0), (0, .ref (x 1)), (1, .int (nI d))] d_X6_sum_6 (by decide) rfl ?_
    refine z_iload_n d_X6_sum_7 0 rfl ?_
    refine z_sipush (v := 160) d_X6_sum_8 (by decide) ?_
    refine z_icmp_ge d_X6_sum_11 (fun c_11 => ?_) (fun c_11 => ?_)
    · exact absurd c_11 (by decide)
    refine z_aload_n d_X6_sum_14 1 rfl ?_
    refine z_get (v := .int (S2 2)) (1) f_X6_42_6 rfl rfl d_X6_sum_15 ?_
    refine z_top h2.1 ?_
    refine z_bipush (v := 43) d_X6_sum_18 (by decide) ?_
    refine z_icmp_eq d_X6_sum_20 (fun c_20 => ?_) (fun c_20 => ?_)
    · exact absurd c_20 (by decide)
    refine z_aload_n d_X6_sum_23 1 rfl ?_
    refine z_get (v := .int (S2 2)) (1) f_X6_42_6 rfl rfl d_X6_sum_24 ?_
    refine z_top h2.1 ?_
    refine z_bipush (v := 45) d_X6_sum_27 (by decide) ?_
    refine z_icmp_ne d_X6_sum_29 (fun c_29 => ?_) (fun c_29 => ?_)
    rotate_left
    · exact absurd c_29 (by decide)
    exact z_vret _ d_X6_sum_69 rfl ⟨rfl, _, _, rfl, (hT2.trans rfl), RP.bad (by rw [thL, hr2]) h2⟩
  · rw [hr2] at h2
    replace h2 : RS B n q2 (c ++ c2) S2 (T2 0) := h2
    have hg2 := (gd _ hp).1 c2 q2 hr2
    have ga2 := hg2.1
    have gb2 := hg2.2.1
    have gc2 := hg2.2.2.1
    refine z_iconst (v := 0) d_X6_sum_5 (by decide) ?_
    refine z_istore_n [(2, .int 0), (0, .ref (x 1)), (1, .int (nI d))] d_X6_sum_6 (by decide) rfl ?_
    have e9 : thL B n P opA p = lpS B n opA P (n + 1) c2 q2 := by rw [thL, hr2]
    rw [e9]
    exact lr_sum G x N R K r tl B n hn h0 hB (T 1) c d P dn hP gd dp hd1 hd2 (n + 1) 0 c2 q2 S2 T2 (hT2.trans rfl) h2 gb2 (by (try simp only [List.length_append, List.length_cons, List.length_nil]); omega) (by omega) (by omega)
theorem P_sum (G : GT) (x : Nat → Nat) (N : Nat → Int32) (R : Nat → Nat → Int32) (K : Nat → Nat → Option Nat) (r : Nat → Nat) (tl : va_W) (B : Nat → Int32) (n : Nat) (hn : n ≤ 160) (h0 : N 0 = nI n) (hB : Tp B n (R 0)) (d : Nat) (P : Nat → PR) (dn : Nat) (hP : CtR G x N R K r tl B n mX6_term dn (nI d) P) (gd : GdP n P) (dp : Nat) (hd1 : 9 ≤ dp) (hd2 : dn + 1 ≤ dp) : CtR G x N R K r tl B n mX6_sum dp (nI d) (thL B n P opA) := fun p c S T hp hc h => t_X6_sum G x N R K r S T tl B n hn h0 hB p c hp hc h d P dn hP gd dp hd1 hd2
set_option maxHeartbeats 4000000 in
set_option maxRecDepth 100000 in
theorem lr_both (G : GT) (x : Nat → Nat) (N : Nat → Int32) (R : Nat → Nat → Int32) (K : Nat → Nat → Option Nat) (r : Nat → Nat) (tl : va_W) (B : Nat → Int32) (n : Nat) (hn : n ≤ 160) (h0 : N 0 = nI n) (hB : Tp B n (R 0)) (T1 : Nat → Int32) (c0 : List Int32) (d : Nat) (P : Nat → PR) (dn : Nat) (hP : CtR G x N R K r tl B n mX6_denied dn (nI d) P) (gd : GdP n P) (dp : Nat) (hd1 : 9 ≤ dp) (hd2 : dn + 1 ≤ dp) : ∀ (f : Nat)  (i : Nat) (c : List Int32) (q : Nat) (S : Nat → Int32) (T : Nat → Nat → Int32) (hT : T 1 = T1) (h : RS B n q (c0 ++ c) S (T 0)) (hq : q ≤ n) (hc : c0.length + c.length ≤ q) (hi : i ≤ q) (hm : n < q + f), Tr G mX6_both (Rm dp 0 0) (OM G (RT G x N R K r T1 tl (RP B n c0 (lpS B n opN P f c q))) 0 0) 0 0 7 [(2, .int (nI i)), (0, .ref (x 1)), (1, .int (nI d))] [] (XW G x N R K r S T tl) := by
  intro f
  induction f with
  | zero =>
    intro i c q S T hT h hq hc hi hm
    exact absurd hm (by omega)
  | succ f ih =>
    intro i c q S T hT h hq hc hi hm
    refine z_iload_n d_X6_both_7 0 rfl ?_
    refine z_sipush (v := 160) d_X6_both_8 (by decide) ?_
    refine z_icmp_ge d_X6_both_11 (fun c_11 => ?_) (fun c_11 => ?_)
    · have hop : opN (tkL B n q) = 0 := op_end opN_ok hq hn hi c_11
      exact z_vret _ d_X6_both_44 rfl ⟨rfl, _, _, rfl, hT, RP.ok (by rw [lpS, if_pos hop]) h rfl⟩
    · refine z_aload_n d_X6_both_14 1 rfl ?_
      refine z_get (v := .int (S 2)) (1) f_X6_42_6 rfl rfl d_X6_both_15 ?_
      refine z_top h.1.2.1 ?_
      refine z_bipush (v := 8) d_X6_both_18 (by decide) ?_
      refine z_icmp_ne d_X6_both_20 (fun c_20 => ?_) (fun c_20 => ?_)
      · have hop : opN (tkL B n q) = 0 := by unfold opN; rw [if_neg c_20]
        exact z_vret _ d_X6_both_44 rfl ⟨rfl, _, _, rfl, hT, RP.ok (by rw [lpS, if_pos hop]) h rfl⟩
      · have hop : opN (tkL B n q) = -8 := by rw [c_20]; rfl
        refine z_aload_n d_X6_both_23 1 rfl ?_
        have hk24 := nx_tk (B := B) (n := n) (p := q) c_20 (by decide) (by decide)
        have hn24 := nx_le B hq
        refine z_callV 1 c_X6_35 rfl rfl (t_adv G x N R K r tl B n hn h0 hB q (c0 ++ c) S T hq h (by rw [c_20]; decide)) rfl rfl (Nat.le_of_ble_eq_true rfl) (rm_le (by omega)) d_X6_both_24 ?_
        rintro v24 w24 ⟨rfl, S24, T24, rfl, hT24, h24⟩
        refine z_aload_n d_X6_both_27 1 rfl ?_
        refine z_iload_n d_X6_both_28 2 rfl ?_
        refine z_callV 1 c_X6_80 rfl rfl (hP (nxL B n q) (c0 ++ c) S24 T24 (nx_le B hq) (by (try simp only [List.length_append, List.length_cons, List.length_nil]); omega) h24) rfl rfl (Nat.le_of_ble_eq_true rfl) (rm_le (by omega)) d_X6_both_29 ?_
        rintro v29 w29 ⟨rfl, S29, T29, rfl, hT29, h29⟩
        rcases hr29 : P (nxL B n q) with f29 | ⟨c29, q29⟩
        · rw [hr29] at h29
          replace h29 : RF f29 S29 := h29
          refine z_aload_n d_X6_both_32 1 rfl ?_
          refine z_bipush (v := -8) d_X6_both_33 (by decide) ?_
          refine z_callV 1 c_X6_77 rfl rfl (t_emF G x N R K r S29 T29 tl f29 (-8) h29) rfl rfl (Nat.le_of_ble_eq_true rfl) (rm_le (by omega)) d_X6_both_35 ?_
          rintro v35 w35 ⟨rfl, S35, T35, rfl, hT35, h35⟩
          refine z_iinc (nI (i + 1)) [(2, .int (nI (i + 1))), (0, .ref (x 1)), (1, .int (nI d))] 0 d_X6_both_38 rfl (nI_1 _) (by decide) rfl ?_
          refine z_goto d_X6_both_41 ?_
          refine z_iload_n d_X6_both_7 0 rfl ?_
          refine z_sipush (v := 160) d_X6_both_8 (by decide) ?_
          refine z_icmp_ge d_X6_both_11 (fun c_11 => ?_) (fun c_11 => ?_)
          · exact z_vret _ d_X6_both_44 rfl ⟨rfl, _, _, rfl, (hT35.trans (hT29.trans (hT24.trans hT))), RP.bad (by rw [lpS, if_neg (by rw [hop]; decide), hr29]) h35⟩
          · refine z_aload_n d_X6_both_14 1 rfl ?_
            refine z_get (v := .int (S35 2)) (1) f_X6_42_6 rfl rfl d_X6_both_15 ?_
            refine z_top h35.1 ?_
            refine z_bipush (v := 8) d_X6_both_18 (by decide) ?_
            refine z_icmp_ne d_X6_both_20 (fun c_20 => ?_) (fun c_20 => ?_)
            rotate_left
            · exact absurd c_20 (by decide)
            exact z_vret _ d_X6_both_44 rfl ⟨rfl, _, _, rfl, (hT35.trans (hT29.trans (hT24.trans hT))), RP.bad (by rw [lpS, if_neg (by rw [hop]; decide), hr29]) h35⟩
        · rw [hr29] at h29
          replace h29 : RS B n q29 ((c0 ++ c) ++ c29) S29 (T29 0) := h29
          have hg29 := (gd _ (nx_le B hq)).1 c29 q29 hr29
          have ga29 := hg29.1
          have gb29 := hg29.2.1
          have gc29 := hg29.2.2.1
          refine z_aload_n d_X6_both_32 1 rfl ?_
          refine z_bipush (v := -8) d_X6_both_33 (by decide) ?_
          refine z_callV 1 c_X6_77 rfl rfl (t_emS G x N R K r S29 T29 tl B n q29 ((c0 ++ c) ++ c29) (-8) h29 (by (try simp only [List.length_append, List.length_cons, List.length_nil]); omega)) rfl rfl (Nat.le_of_ble_eq_true rfl) (rm_le (by omega)) d_X6_both_35 ?_
          rintro v35 w35 ⟨rfl, S35, T35, rfl, hT35, h35⟩
          refine z_iinc (nI (i + 1)) [(2, .int (nI (i + 1))), (0, .ref (x 1)), (1, .int (nI d))] 0 d_X6_both_38 rfl (nI_1 _) (by decide) rfl ?_
          refine z_goto d_X6_both_41 ?_
          have e9 : lpS B n opN P (f + 1) c q = lpS B n opN P f (c ++ c29 ++ [-8]) q29 := by rw [lpS, if_neg (by rw [hop]; decide), hr29, hop]
          rw [e9]
          exact ih (i + 1) (c ++ c29 ++ [-8]) q29 S35 T35 (hT35.trans (hT29.trans (hT24.trans hT))) (by rw [← List.append_assoc, ← List.append_assoc]; exact h35) gb29 (by (try simp only [List.length_append, List.length_cons, List.length_nil]); omega) (by omega) (by omega)
set_option maxHeartbeats 4000000 in
set_option maxRecDepth 100000 in
theorem t_X6_both (G : GT) (x : Nat → Nat) (N : Nat → Int32) (R : Nat → Nat → Int32) (K : Nat → Nat → Option Nat) (r : Nat → Nat) (S : Nat → Int32) (T : Nat → Nat → Int32) (tl : va_W) (B : Nat → Int32) (n : Nat) (hn : n ≤ 160) (h0 : N 0 = nI n) (hB : Tp B n (R 0)) (p : Nat) (c : List Int32) (hp : p ≤ n) (hc : c.length ≤ p) (h : RS B n p c S (T 0)) (d : Nat) (P : Nat → PR) (dn : Nat) (hP : CtR G x N R K r tl B n mX6_denied dn (nI d) P) (gd : GdP n P) (dp : Nat) (hd1 : 9 ≤ dp) (hd2 : dn + 1 ≤ dp)  : Ct G mX6_both dp 0 0 [.ref (x 1), .int (nI d)] (XW G x N R K r S T tl) (RT G x N R K r (T 1) tl (RP B n c (thL B n P opN p))) := by
  refine Ct.intro [(0, .ref (x 1)), (1, .int (nI d))] (by decide) rfl (Nat.le_of_ble_eq_true rfl) ?_
  refine z_aload_n d_X6_both_0 0 rfl ?_
  refine z_iload_n d_X6_both_1 1 rfl ?_
  refine z_callV 1 c_X6_80 rfl rfl (hP p c S T hp (by (try simp only [List.length_append, List.length_cons, List.length_nil]); omega) h) rfl rfl (Nat.le_of_ble_eq_true rfl) (rm_le (by omega)) d_X6_both_2 ?_
  rintro v2 w2 ⟨rfl, S2, T2, rfl, hT2, h2⟩
  rcases hr2 : P p with f2 | ⟨c2, q2⟩
  · rw [hr2] at h2
    replace h2 : RF f2 S2 := h2
    refine z_iconst (v := 0) d_X6_both_5 (by decide) ?_
    refine z_istore_n [(2, .int 0), (0, .ref (x 1)), (1, .int (nI d))] d_X6_both_6 (by decide) rfl ?_
    refine z_iload_n d_X6_both_7 0 rfl ?_
    refine z_sipush (v := 160) d_X6_both_8 (by decide) ?_
    refine z_icmp_ge d_X6_both_11 (fun c_11 => ?_) (fun c_11 => ?_)
    · exact absurd c_11 (by decide)
    refine z_aload_n d_X6_both_14 1 rfl ?_
    refine z_get (v := .int (S2 2)) (1) f_X6_42_6 rfl rfl d_X6_both_15 ?_
    refine z_top h2.1 ?_
    refine z_bipush (v := 8) d_X6_both_18 (by decide) ?_
    refine z_icmp_ne d_X6_both_20 (fun c_20 => ?_) (fun c_20 => ?_)
    rotate_left
    · exact absurd c_20 (by decide)
    exact z_vret _ d_X6_both_44 rfl ⟨rfl, _, _, rfl, (hT2.trans rfl), RP.bad (by rw [thL, hr2]) h2⟩
  · rw [hr2] at h2
    replace h2 : RS B n q2 (c ++ c2) S2 (T2 0) := h2
    have hg2 := (gd _ hp).1 c2 q2 hr2
    have ga2 := hg2.1
    have gb2 := hg2.2.1
    have gc2 := hg2.2.2.1
    refine z_iconst (v := 0) d_X6_both_5 (by decide) ?_
    refine z_istore_n [(2, .int 0), (0, .ref (x 1)), (1, .int (nI d))] d_X6_both_6 (by decide) rfl ?_
    have e9 : thL B n P opN p = lpS B n opN P (n + 1) c2 q2 := by rw [thL, hr2]
    rw [e9]
    exact lr_both G x N R K r tl B n hn h0 hB (T 1) c d P dn hP gd dp hd1 hd2 (n + 1) 0 c2 q2 S2 T2 (hT2.trans rfl) h2 gb2 (by (try simp only [List.length_append, List.length_cons, List.length_nil]); omega) (by omega) (by omega)
theorem P_both (G : GT) (x : Nat → Nat) (N : Nat → Int32) (R : Nat → Nat → Int32) (K : Nat → Nat → Option Nat) (r : Nat → Nat) (tl : va_W) (B : Nat → Int32) (n : Nat) (hn : n ≤ 160) (h0 : N 0 = nI n) (hB : Tp B n (R 0)) (d : Nat) (P : Nat → PR) (dn : Nat) (hP : CtR G x N R K r tl B n mX6_denied dn (nI d) P) (gd : GdP n P) (dp : Nat) (hd1 : 9 ≤ dp) (hd2 : dn + 1 ≤ dp) : CtR G x N R K r tl B n mX6_both dp (nI d) (thL B n P opN) := fun p c S T hp hc h => t_X6_both G x N R K r S T tl B n hn h0 hB p c hp hc h d P dn hP gd dp hd1 hd2
set_option maxHeartbeats 4000000 in
set_option maxRecDepth 100000 in
theorem lr_either (G : GT) (x : Nat → Nat) (N : Nat → Int32) (R : Nat → Nat → Int32) (K : Nat → Nat → Option Nat) (r : Nat → Nat) (tl : va_W) (B : Nat → Int32) (n : Nat) (hn : n ≤ 160) (h0 : N 0 = nI n) (hB : Tp B n (R 0)) (T1 : Nat → Int32) (c0 : List Int32) (d : Nat) (P : Nat → PR) (dn : Nat) (hP : CtR G x N R K r tl B n mX6_both dn (nI d) P) (gd : GdP n P) (dp : Nat) (hd1 : 9 ≤ dp) (hd2 : dn + 1 ≤ dp) : ∀ (f : Nat)  (i : Nat) (c : List Int32) (q : Nat) (S : Nat → Int32) (T : Nat → Nat → Int32) (hT : T 1 = T1) (h : RS B n q (c0 ++ c) S (T 0)) (hq : q ≤ n) (hc : c0.length + c.length ≤ q) (hi : i ≤ q) (hm : n < q + f), Tr G mX6_either (Rm dp 0 0) (OM G (RT G x N R K r T1 tl (RP B n c0 (lpS B n opO P f c q))) 0 0) 0 0 7 [(2, .int (nI i)), (0, .ref (x 1)), (1, .int (nI d))] [] (XW G x N R K r S T tl) := by
  intro f
  induction f with
  | zero =>
    intro i c q S T hT h hq hc hi hm
    exact absurd hm (by omega)
  | succ f ih =>
    intro i c q S T hT h hq hc hi hm
    refine z_iload_n d_X6_either_7 0 rfl ?_
    refine z_sipush (v := 160) d_X6_either_8 (by decide) ?_
    refine z_icmp_ge d_X6_either_11 (fun c_11 => ?_) (fun c_11 => ?_)
    · have hop : opO (tkL B n q) = 0 := op_end opO_ok hq hn hi c_11
      exact z_vret _ d_X6_either_44 rfl ⟨rfl, _, _, rfl, hT, RP.ok (by rw [lpS, if_pos hop]) h rfl⟩
    · refine z_aload_n d_X6_either_14 1 rfl ?_
      refine z_get (v := .int (S 2)) (1) f_X6_42_6 rfl rfl d_X6_either_15 ?_
      refine z_top h.1.2.1 ?_
      refine z_bipush (v := 7) d_X6_either_18 (by decide) ?_
      refine z_icmp_ne d_X6_either_20 (fun c_20 => ?_) (fun c_20 => ?_)
      · have hop : opO (tkL B n q) = 0 := by unfold opO; rw [if_neg c_20]
        exact z_vret _ d_X6_either_44 rfl ⟨rfl, _, _, rfl, hT, RP.ok (by rw [lpS, if_pos hop]) h rfl⟩
      · have hop : opO (tkL B n q) = -7 := by rw [c_20]; rfl
        refine z_aload_n d_X6_either_23 1 rfl ?_
        have hk24 := nx_tk (B := B) (n := n) (p := q) c_20 (by decide) (by decide)
        have hn24 := nx_le B hq
        refine z_callV 1 c_X6_35 rfl rfl (t_adv G x N R K r tl B n hn h0 hB q (c0 ++ c) S T hq h (by rw [c_20]; decide)) rfl rfl (Nat.le_of_ble_eq_true rfl) (rm_le (by omega)) d_X6_either_24 ?_
        rintro v24 w24 ⟨rfl, S24, T24, rfl, hT24, h24⟩
        refine z_aload_n d_X6_either_27 1 rfl ?_
        refine z_iload_n d_X6_either_28 2 rfl ?_
        refine z_callV 1 c_X6_74 rfl rfl (hP (nxL B n q) (c0 ++ c) S24 T24 (nx_le B hq) (by (try simp only [List.length_append, List.length_cons, List.length_nil]); omega) h24) rfl rfl (Nat.le_of_ble_eq_true rfl) (rm_le (by omega)) d_X6_either_29 ?_
        rintro v29 w29 ⟨rfl, S29, T29, rfl, hT29, h29⟩
        rcases hr29 : P (nxL B n q) with f29 | ⟨c29, q29⟩
        · rw [hr29] at h29
          replace h29 : RF f29 S29 := h29
          refine z_aload_n d_X6_either_32 1 rfl ?_
          refine z_bipush (v := -7) d_X6_either_33 (by decide) ?_
          refine z_callV 1 c_X6_77 rfl rfl (t_emF G x N R K r S29 T29 tl f29 (-7) h29) rfl rfl (Nat.le_of_ble_eq_true rfl) (rm_le (by omega)) d_X6_either_35 ?_
          rintro v35 w35 ⟨rfl, S35, T35, rfl, hT35, h35⟩
          refine z_iinc (nI (i + 1)) [(2, .int (nI (i + 1))), (0, .ref (x 1)), (1, .int (nI d))] 0 d_X6_either_38 rfl (nI_1 _) (by decide) rfl ?_
          refine z_goto d_X6_either_41 ?_
          refine z_iload_n d_X6_either_7 0 rfl ?_
          refine z_sipush (v := 160) d_X6_either_8 (by decide) ?_
          refine z_icmp_ge d_X6_either_11 (fun c_11 => ?_) (fun c_11 => ?_)
          · exact z_vret _ d_X6_either_44 rfl ⟨rfl, _, _, rfl, (hT35.trans (hT29.trans (hT24.trans hT))), RP.bad (by rw [lpS, if_neg (by rw [hop]; decide), hr29]) h35⟩
          · refine z_aload_n d_X6_either_14 1 rfl ?_
            refine z_get (v := .int (S35 2)) (1) f_X6_42_6 rfl rfl d_X6_either_15 ?_
            refine z_top h35.1 ?_
            refine z_bipush (v := 7) d_X6_either_18 (by decide) ?_
            refine z_icmp_ne d_X6_either_20 (fun c_20 => ?_) (fun c_20 => ?_)
            rotate_left
            · exact absurd c_20 (by decide)
            exact z_vret _ d_X6_either_44 rfl ⟨rfl, _, _, rfl, (hT35.trans (hT29.trans (hT24.trans hT))), RP.bad (by rw [lpS, if_neg (by rw [hop]; decide), hr29]) h35⟩
        · rw [hr29] at h29
          replace h29 : RS B n q29 ((c0 ++ c) ++ c29) S29 (T29 0) := h29
          have hg29 := (gd _ (nx_le B hq)).1 c29 q29 hr29
          have ga29 := hg29.1
          have gb29 := hg29.2.1
          have gc29 := hg29.2.2.1
          refine z_aload_n d_X6_either_32 1 rfl ?_
          refine z_bipush (v := -7) d_X6_either_33 (by decide) ?_
          refine z_callV 1 c_X6_77 rfl rfl (t_emS G x N R K r S29 T29 tl B n q29 ((c0 ++ c) ++ c29) (-7) h29 (by (try simp only [List.length_append, List.length_cons, List.length_nil]); omega)) rfl rfl (Nat.le_of_ble_eq_true rfl) (rm_le (by omega)) d_X6_either_35 ?_
          rintro v35 w35 ⟨rfl, S35, T35, rfl, hT35, h35⟩
          refine z_iinc (nI (i + 1)) [(2, .int (nI (i + 1))), (0, .ref (x 1)), (1, .int (nI d))] 0 d_X6_either_38 rfl (nI_1 _) (by decide) rfl ?_
          refine z_goto d_X6_either_41 ?_
          have e9 : lpS B n opO P (f + 1) c q = lpS B n opO P f (c ++ c29 ++ [-7]) q29 := by rw [lpS, if_neg (by rw [hop]; decide), hr29, hop]
          rw [e9]
          exact ih (i + 1) (c ++ c29 ++ [-7]) q29 S35 T35 (hT35.trans (hT29.trans (hT24.trans hT))) (by rw [← List.append_assoc, ← List.append_assoc]; exact h35) gb29 (by (try simp only [List.length_append, List.length_cons, List.length_nil]); omega) (by omega) (by omega)
set_option maxHeartbeats 4000000 in
set_option maxRecDepth 100000 in
theorem t_X6_either (G : GT) (x : Nat → Nat) (N : Nat → Int32) (R : Nat → Nat → Int32) (K : Nat → Nat → Option Nat) (r : Nat → Nat) (S : Nat → Int32) (T : Nat → Nat → Int32) (tl : va_W) (B : Nat → Int32) (n : Nat) (hn : n ≤ 160) (h0 : N 0 = nI n) (hB : Tp B n (R 0)) (p : Nat) (c : List Int32) (hp : p ≤ n) (hc : c.length ≤ p) (h : RS B n p c S (T 0)) (d : Nat) (P : Nat → PR) (dn : Nat) (hP : CtR G x N R K r tl B n mX6_both dn (nI d) P) (gd : GdP n P) (dp : Nat) (hd1 : 9 ≤ dp) (hd2 : dn + 1 ≤ dp)  : Ct G mX6_either dp 0 0 [.ref (x 1), .int (nI d)] (XW G x N R K r S T tl) (RT G x N R K r (T 1) tl (RP B n c (thL B n P opO p))) := by
  refine Ct.intro [(0, .ref (x 1)), (1, .int (nI d))] (by decide) rfl (Nat.le_of_ble_eq_true rfl) ?_
  refine z_aload_n d_X6_either_0 0 rfl ?_
  refine z_iload_n d_X6_either_1 1 rfl ?_
  refine z_callV 1 c_X6_74 rfl rfl (hP p c S T hp (by (try simp only [List.length_append, List.length_cons, List.length_nil]); omega) h) rfl rfl (Nat.le_of_ble_eq_true rfl) (rm_le (by omega)) d_X6_either_2 ?_
  rintro v2 w2 ⟨rfl, S2, T2, rfl, hT2, h2⟩
  rcases hr2 : P p with f2 | ⟨c2, q2⟩
  · rw [hr2] at h2
    replace h2 : RF f2 S2 := h2
    refine z_iconst (v := 0) d_X6_either_5 (by decide) ?_
    refine z_istore_n [(2, .int 0), (0, .ref (x 1)), (1, .int (nI d))] d_X6_either_6 (by decide) rfl ?_
    refine z_iload_n d_X6_either_7 0 rfl ?_
    refine z_sipush (v := 160) d_X6_either_8 (by decide) ?_
    refine z_icmp_ge d_X6_either_11 (fun c_11 => ?_) (fun c_11 => ?_)
    · exact absurd c_11 (by decide)
    refine z_aload_n d_X6_either_14 1 rfl ?_
    refine z_get (v := .int (S2 2)) (1) f_X6_42_6 rfl rfl d_X6_either_15 ?_
    refine z_top h2.1 ?_
    refine z_bipush (v := 7) d_X6_either_18 (by decide) ?_
    refine z_icmp_ne d_X6_either_20 (fun c_20 => ?_) (fun c_20 => ?_)
    rotate_left
    · exact absurd c_20 (by decide)
    exact z_vret _ d_X6_either_44 rfl ⟨rfl, _, _, rfl, (hT2.trans rfl), RP.bad (by rw [thL, hr2]) h2⟩
  · rw [hr2] at h2
    replace h2 : RS B n q2 (c ++ c2) S2 (T2 0) := h2
    have hg2 := (gd _ hp).1 c2 q2 hr2
    have ga2 := hg2.1
    have gb2 := hg2.2.1
    have gc2 := hg2.2.2.1
    refine z_iconst (v := 0) d_X6_either_5 (by decide) ?_
    refine z_istore_n [(2, .int 0), (0, .ref (x 1)), (1, .int (nI d))] d_X6_either_6 (by decide) rfl ?_
    have e9 : thL B n P opO p = lpS B n opO P (n + 1) c2 q2 := by rw [thL, hr2]
    rw [e9]
    exact lr_either G x N R K r tl B n hn h0 hB (T 1) c d P dn hP gd dp hd1 hd2 (n + 1) 0 c2 q2 S2 T2 (hT2.trans rfl) h2 gb2 (by (try simp only [List.length_append, List.length_cons, List.length_nil]); omega) (by omega) (by omega)
theorem P_either (G : GT) (x : Nat → Nat) (N : Nat → Int32) (R : Nat → Nat → Int32) (K : Nat → Nat → Option Nat) (r : Nat → Nat) (tl : va_W) (B : Nat → Int32) (n : Nat) (hn : n ≤ 160) (h0 : N 0 = nI n) (hB : Tp B n (R 0)) (d : Nat) (P : Nat → PR) (dn : Nat) (hP : CtR G x N R K r tl B n mX6_both dn (nI d) P) (gd : GdP n P) (dp : Nat) (hd1 : 9 ≤ dp) (hd2 : dn + 1 ≤ dp) : CtR G x N R K r tl B n mX6_either dp (nI d) (thL B n P opO) := fun p c S T hp hc h => t_X6_either G x N R K r S T tl B n hn h0 hB p c hp hc h d P dn hP gd dp hd1 hd2
set_option maxHeartbeats 4000000 in
set_option maxRecDepth 100000 in
theorem t_den0 (G : GT) (x : Nat → Nat) (N : Nat → Int32) (R : Nat → Nat → Int32) (K : Nat → Nat → Option Nat) (r : Nat → Nat) (S : Nat → Int32) (T : Nat → Nat → Int32) (tl : va_W) (B : Nat → Int32) (n : Nat) (hn : n ≤ 160) (h0 : N 0 = nI n) (hB : Tp B n (R 0)) (p : Nat) (c : List Int32) (hp : p ≤ n) (hc : c.length ≤ p) (h : RS B n p c S (T 0)) (ds : Nat) (hsum : CtR G x N R K r tl B n mX6_sum ds 5 (sumP B n 0)) (dp : Nat) (hd1 : 9 ≤ dp) (hd2 : ds + 1 ≤ dp)  : Ct G mX6_denied dp 0 0 [.ref (x 1), .int 5] (XW G x N R K r S T tl) (RT G x N R K r (T 1) tl (RP B n c (denP B n 0 p))) := by
  refine Ct.intro [(0, .ref (x 1)), (1, .int 5)] (by decide) rfl (Nat.le_of_ble_eq_true rfl) ?_
  refine z_aload_n d_X6_denied_0 0 rfl ?_
  refine z_get (v := .int (S 2)) (1) f_X6_42_6 rfl rfl d_X6_denied_1 ?_
  refine z_top h.1.2.1 ?_
  refine z_bipush (v := 9) d_X6_denied_4 (by decide) ?_
  refine z_icmp_ne d_X6_denied_6 (fun c_6 => ?_) (fun c_6 => ?_)
  · refine z_aload_n d_X6_denied_32 0 rfl ?_
    refine z_iload_n d_X6_denied_33 1 rfl ?_
    refine z_callV 1 c_X6_83 rfl rfl (hsum p c S T hp (by (try simp only [List.length_append, List.length_cons, List.length_nil]); omega) h) rfl rfl (Nat.le_of_ble_eq_true rfl) (rm_le (by omega)) d_X6_denied_34 ?_
    rintro v34 w34 ⟨rfl, S34, T34, rfl, hT34, h34⟩
    rcases hr34 : sumP B n 0 p with f34 | ⟨c34, q34⟩
    · rw [hr34] at h34
      replace h34 : RF f34 S34 := h34
      refine z_aload_n d_X6_denied_37 0 rfl ?_
      refine z_get (v := .int (S34 2)) (1) f_X6_42_6 rfl rfl d_X6_denied_38 ?_
      refine z_top h34.1 ?_
      refine z_bipush (v := 60) d_X6_denied_41 (by decide) ?_
      refine z_icmp_eq d_X6_denied_43 (fun c_43 => ?_) (fun c_43 => ?_)
      · exact absurd c_43 (by decide)
      refine z_aload_n d_X6_denied_46 0 rfl ?_
      refine z_get (v := .int (S34 2)) (1) f_X6_42_6 rfl rfl d_X6_denied_47 ?_
      refine z_top h34.1 ?_
      refine z_bipush (v := 61) d_X6_denied_50 (by decide) ?_
      refine z_icmp_ne d_X6_denied_52 (fun c_52 => ?_) (fun c_52 => ?_)
      rotate_left
      · exact absurd c_52 (by decide)
      exact z_vret _ d_X6_denied_86 rfl ⟨rfl, _, _, rfl, (hT34.trans rfl), RP.bad (by rw [denP_0, dnP, if_neg (fun hh => c_6 hh.1), cmP, hr34]) h34⟩
    · rw [hr34] at h34
      replace h34 : RS B n q34 (c ++ c34) S34 (T34 0) := h34
      have hg34 := (sum_gd B n 0 _ hp).1 c34 q34 hr34
      have ga34 := hg34.1
      have gb34 := hg34.2.1
      have gc34 := hg34.2.2.1
      refine z_aload_n d_X6_denied_37 0 rfl ?_
      refine z_get (v := .int (S34 2)) (1) f_X6_42_6 rfl rfl d_X6_denied_38 ?_
      refine z_top h34.1.2.1 ?_
      refine z_bipush (v := 60) d_X6_denied_41 (by decide) ?_
      refine z_icmp_eq d_X6_denied_43 (fun c_43 => ?_) (fun c_43 => ?_)
      · have hop : opC (tkL B n q34) = -10 := by rw [c_43]; rfl
        refine z_aload_n d_X6_denied_55 0 rfl ?_
        refine z_get (v := .int (S34 2)) (1) f_X6_42_6 rfl rfl d_X6_denied_56 ?_
        refine z_top h34.1.2.1 ?_
        refine z_bipush (v := 60) d_X6_denied_59 (by decide) ?_
        refine z_icmp_ne d_X6_denied_61 (fun c_61 => ?_) (fun c_61 => ?_)
        · exact absurd c_61 (fun hh => hh c_43)
        refine z_bipush (v := -10) d_X6_denied_64 (by decide) ?_
        refine z_goto d_X6_denied_66 ?_
        refine z_istore_n [(2, .int (-10)), (0, .ref (x 1)), (1, .int 5)] d_X6_denied_71 (by decide) rfl ?_
        refine z_aload_n d_X6_denied_72 1 rfl ?_
        have hk73 := nx_tk (B := B) (n := n) (p := q34) c_43 (by decide) (by decide)
        have hn73 := nx_le B hg34.2.1
        refine z_callV 1 c_X6_35 rfl rfl (t_adv G x N R K r tl B n hn h0 hB q34 (c ++ c34) S34 T34 hg34.2.1 h34 (by rw [c_43]; decide)) rfl rfl (Nat.le_of_ble_eq_true rfl) (rm_le (by omega)) d_X6_denied_73 ?_
        rintro v73 w73 ⟨rfl, S73, T73, rfl, hT73, h73⟩
        refine z_aload_n d_X6_denied_76 1 rfl ?_
        refine z_iload_n d_X6_denied_77 2 rfl ?_
        refine z_callV 1 c_X6_83 rfl rfl (hsum (nxL B n q34) (c ++ c34) S73 T73 (nx_le B hg34.2.1) (by (try simp only [List.length_append, List.length_cons, List.length_nil]); omega) h73) rfl rfl (Nat.le_of_ble_eq_true rfl) (rm_le (by omega)) d_X6_denied_78 ?_
        rintro v78 w78 ⟨rfl, S78, T78, rfl, hT78, h78⟩
        rcases hr78 : sumP B n 0 (nxL B n q34) with f78 | ⟨c78, q78⟩
        · rw [hr78] at h78
          replace h78 : RF f78 S78 := h78
          refine z_aload_n d_X6_denied_81 1 rfl ?_
          refine z_iload_n d_X6_denied_82 0 rfl ?_
          refine z_callV 1 c_X6_77 rfl rfl (t_emF G x N R K r S78 T78 tl f78 (-10) h78) rfl rfl (Nat.le_of_ble_eq_true rfl) (rm_le (by omega)) d_X6_denied_83 ?_
          rintro v83 w83 ⟨rfl, S83, T83, rfl, hT83, h83⟩
          exact z_vret _ d_X6_denied_86 rfl ⟨rfl, _, _, rfl, (hT83.trans (hT78.trans (hT73.trans (hT34.trans rfl)))), RP.bad (by rw [denP_0, dnP, if_neg (fun hh => c_6 hh.1), cmP, hr34]; show (if _ then _ else _) = _; rw [if_neg (by rw [hop]; decide), hr78]) h83⟩
        · rw [hr78] at h78
          replace h78 : RS B n q78 ((c ++ c34) ++ c78) S78 (T78 0) := h78
          have hg78 := (sum_gd B n 0 _ (nx_le B hg34.2.1)).1 c78 q78 hr78
          have ga78 := hg78.1
          have gb78 := hg78.2.1
          have gc78 := hg78.2.2.1
          refine z_aload_n d_X6_denied_81 1 rfl ?_
          refine z_iload_n d_X6_denied_82 0 rfl ?_
          refine z_callV 1 c_X6_77 rfl rfl (t_emS G x N R K r S78 T78 tl B n q78 ((c ++ c34) ++ c78) (-10) h78 (by (try simp only [List.length_append, List.length_cons, List.length_nil]); omega)) rfl rfl (Nat.le_of_ble_eq_true rfl) (rm_le (by omega)) d_X6_denied_83 ?_
          rintro v83 w83 ⟨rfl, S83, T83, rfl, hT83, h83⟩
          exact z_vret _ d_X6_denied_86 rfl ⟨rfl, _, _, rfl, (hT83.trans (hT78.trans (hT73.trans (hT34.trans rfl)))), RP.ok (by rw [denP_0, dnP, if_neg (fun hh => c_6 hh.1), cmP, hr34]; show (if _ then _ else _) = _; rw [if_neg (by rw [hop]; decide), hr78, hop]) h83 (by simp only [List.append_assoc])⟩
      · refine z_aload_n d_X6_denied_46 0 rfl ?_
        refine z_get (v := .int (S34 2)) (1) f_X6_42_6 rfl rfl d_X6_denied_47 ?_
        refine z_top h34.1.2.1 ?_
        refine z_bipush (v := 61) d_X6_denied_50 (by decide) ?_
        refine z_icmp_ne d_X6_denied_52 (fun c_52 => ?_) (fun c_52 => ?_)
        · have hop : opC (tkL B n q34) = 0 := by unfold opC; rw [if_neg c_43, if_neg c_52]
          exact z_vret _ d_X6_denied_86 rfl ⟨rfl, _, _, rfl, (hT34.trans rfl), RP.ok (by rw [denP_0, dnP, if_neg (fun hh => c_6 hh.1), cmP, hr34]; exact if_pos hop) h34 (by simp only [List.append_assoc])⟩
        · have hop : opC (tkL B n q34) = -11 := by rw [c_52]; rfl
          refine z_aload_n d_X6_denied_55 0 rfl ?_
          refine z_get (v := .int (S34 2)) (1) f_X6_42_6 rfl rfl d_X6_denied_56 ?_
          refine z_top h34.1.2.1 ?_
          refine z_bipush (v := 60) d_X6_denied_59 (by decide) ?_
          refine z_icmp_ne d_X6_denied_61 (fun c_61 => ?_) (fun c_61 => ?_)
          rotate_left
          · exact absurd c_61 (by rw [c_52]; decide)
          refine z_bipush (v := -11) d_X6_denied_69 (by decide) ?_
          refine z_istore_n [(2, .int (-11)), (0, .ref (x 1)), (1, .int 5)] d_X6_denied_71 (by decide) rfl ?_
          refine z_aload_n d_X6_denied_72 1 rfl ?_
          have hk73 := nx_tk (B := B) (n := n) (p := q34) c_52 (by decide) (by decide)
          have hn73 := nx_le B hg34.2.1
          refine z_callV 1 c_X6_35 rfl rfl (t_adv G x N R K r tl B n hn h0 hB q34 (c ++ c34) S34 T34 hg34.2.1 h34 (by rw [c_52]; decide)) rfl rfl (Nat.le_of_ble_eq_true rfl) (rm_le (by omega)) d_X6_denied_73 ?_
          rintro v73 w73 ⟨rfl, S73, T73, rfl, hT73, h73⟩
          refine z_aload_n d_X6_denied_76 1 rfl ?_
          refine z_iload_n d_X6_denied_77 2 rfl ?_
          refine z_callV 1 c_X6_83 rfl rfl (hsum (nxL B n q34) (c ++ c34) S73 T73 (nx_le B hg34.2.1) (by (try simp only [List.length_append, List.length_cons, List.length_nil]); omega) h73) rfl rfl (Nat.le_of_ble_eq_true rfl) (rm_le (by omega)) d_X6_denied_78 ?_
          rintro v78 w78 ⟨rfl, S78, T78, rfl, hT78, h78⟩
          rcases hr78 : sumP B n 0 (nxL B n q34) with f78 | ⟨c78, q78⟩
          · rw [hr78] at h78
            replace h78 : RF f78 S78 := h78
            refine z_aload_n d_X6_denied_81 1 rfl ?_
            refine z_iload_n d_X6_denied_82 0 rfl ?_
            refine z_callV 1 c_X6_77 rfl rfl (t_emF G x N R K r S78 T78 tl f78 (-11) h78) rfl rfl (Nat.le_of_ble_eq_true rfl) (rm_le (by omega)) d_X6_denied_83 ?_
            rintro v83 w83 ⟨rfl, S83, T83, rfl, hT83, h83⟩
            exact z_vret _ d_X6_denied_86 rfl ⟨rfl, _, _, rfl, (hT83.trans (hT78.trans (hT73.trans (hT34.trans rfl)))), RP.bad (by rw [denP_0, dnP, if_neg (fun hh => c_6 hh.1), cmP, hr34]; show (if _ then _ else _) = _; rw [if_neg (by rw [hop]; decide), hr78]) h83⟩
          · rw [hr78] at h78
            replace h78 : RS B n q78 ((c ++ c34) ++ c78) S78 (T78 0) := h78
            have hg78 := (sum_gd B n 0 _ (nx_le B hg34.2.1)).1 c78 q78 hr78
            have ga78 := hg78.1
            have gb78 := hg78.2.1
            have gc78 := hg78.2.2.1
            refine z_aload_n d_X6_denied_81 1 rfl ?_
            refine z_iload_n d_X6_denied_82 0 rfl ?_
            refine z_callV 1 c_X6_77 rfl rfl (t_emS G x N R K r S78 T78 tl B n q78 ((c ++ c34) ++ c78) (-11) h78 (by (try simp only [List.length_append, List.length_cons, List.length_nil]); omega)) rfl rfl (Nat.le_of_ble_eq_true rfl) (rm_le (by omega)) d_X6_denied_83 ?_
            rintro v83 w83 ⟨rfl, S83, T83, rfl, hT83, h83⟩
            exact z_vret _ d_X6_denied_86 rfl ⟨rfl, _, _, rfl, (hT83.trans (hT78.trans (hT73.trans (hT34.trans rfl)))), RP.ok (by rw [denP_0, dnP, if_neg (fun hh => c_6 hh.1), cmP, hr34]; show (if _ then _ else _) = _; rw [if_neg (by rw [hop]; decide), hr78, hop]) h83 (by simp only [List.append_assoc])⟩
  · refine z_iload_n d_X6_denied_9 1 rfl ?_
    refine z_iconst (v := 5) d_X6_denied_10 (by decide) ?_
    refine z_icmp_ge d_X6_denied_11 (fun c_11 => ?_) (fun c_11 => ?_)
    rotate_left
    · exact absurd c_11 (by decide)
    refine z_aload_n d_X6_denied_32 0 rfl ?_
    refine z_iload_n d_X6_denied_33 1 rfl ?_
    refine z_callV 1 c_X6_83 rfl rfl (hsum p c S T hp (by (try simp only [List.length_append, List.length_cons, List.length_nil]); omega) h) rfl rfl (Nat.le_of_ble_eq_true rfl) (rm_le (by omega)) d_X6_denied_34 ?_
    rintro v34 w34 ⟨rfl, S34, T34, rfl, hT34, h34⟩
    rcases hr34 : sumP B n 0 p with f34 | ⟨c34, q34⟩
    · rw [hr34] at h34
      replace h34 : RF f34 S34 := h34
      refine z_aload_n d_X6_denied_37 0 rfl ?_
      refine z_get (v := .int (S34 2)) (1) f_X6_42_6 rfl rfl d_X6_denied_38 ?_
      refine z_top h34.1 ?_
      refine z_bipush (v := 60) d_X6_denied_41 (by decide) ?_
      refine z_icmp_eq d_X6_denied_43 (fun c_43 => ?_) (fun c_43 => ?_)
      · exact absurd c_43 (by decide)
      refine z_aload_n d_X6_denied_46 0 rfl ?_
      refine z_get (v := .int (S34 2)) (1) f_X6_42_6 rfl rfl d_X6_denied_47 ?_
      refine z_top h34.1 ?_
      refine z_bipush (v := 61) d_X6_denied_50 (by decide) ?_
      refine z_icmp_ne d_X6_denied_52 (fun c_52 => ?_) (fun c_52 => ?_)
      rotate_left
      · exact absurd c_52 (by decide)
      exact z_vret _ d_X6_denied_86 rfl ⟨rfl, _, _, rfl, (hT34.trans rfl), RP.bad (by rw [denP_0, dnP, if_neg (fun hh => absurd hh.2 (by decide)), cmP, hr34]) h34⟩
    · rw [hr34] at h34
      replace h34 : RS B n q34 (c ++ c34) S34 (T34 0) := h34
      have hg34 := (sum_gd B n 0 _ hp).1 c34 q34 hr34
      have ga34 := hg34.1
      have gb34 := hg34.2.1
      have gc34 := hg34.2.2.1
      refine z_aload_n d_X6_denied_37 0 rfl ?_
      refine z_get (v := .int (S34 2)) (1) f_X6_42_6 rfl rfl d_X6_denied_38 ?_
      refine z_top h34.1.2.1 ?_
      refine z_bipush (v := 60) d_X6_denied_41 (by decide) ?_
      refine z_icmp_eq d_X6_denied_43 (fun c_43 => ?_) (fun c_43 => ?_)
      · have hop : opC (tkL B n q34) = -10 := by rw [c_43]; rfl
        refine z_aload_n d_X6_denied_55 0 rfl ?_
        refine z_get (v := .int (S34 2)) (1) f_X6_42_6 rfl rfl d_X6_denied_56 ?_
        refine z_top h34.1.2.1 ?_
        refine z_bipush (v := 60) d_X6_denied_59 (by decide) ?_
        refine z_icmp_ne d_X6_denied_61 (fun c_61 => ?_) (fun c_61 => ?_)
        · exact absurd c_61 (fun hh => hh c_43)
        refine z_bipush (v := -10) d_X6_denied_64 (by decide) ?_
        refine z_goto d_X6_denied_66 ?_
        refine z_istore_n [(2, .int (-10)), (0, .ref (x 1)), (1, .int 5)] d_X6_denied_71 (by decide) rfl ?_
        refine z_aload_n d_X6_denied_72 1 rfl ?_
        have hk73 := nx_tk (B := B) (n := n) (p := q34) c_43 (by decide) (by decide)
        have hn73 := nx_le B hg34.2.1
        refine z_callV 1 c_X6_35 rfl rfl (t_adv G x N R K r tl B n hn h0 hB q34 (c ++ c34) S34 T34 hg34.2.1 h34 (by rw [c_43]; decide)) rfl rfl (Nat.le_of_ble_eq_true rfl) (rm_le (by omega)) d_X6_denied_73 ?_
        rintro v73 w73 ⟨rfl, S73, T73, rfl, hT73, h73⟩
        refine z_aload_n d_X6_denied_76 1 rfl ?_
        refine z_iload_n d_X6_denied_77 2 rfl ?_
        refine z_callV 1 c_X6_83 rfl rfl (hsum (nxL B n q34) (c ++ c34) S73 T73 (nx_le B hg34.2.1) (by (try simp only [List.length_append, List.length_cons, List.length_nil]); omega) h73) rfl rfl (Nat.le_of_ble_eq_true rfl) (rm_le (by omega)) d_X6_denied_78 ?_
        rintro v78 w78 ⟨rfl, S78, T78, rfl, hT78, h78⟩
        rcases hr78 : sumP B n 0 (nxL B n q34) with f78 | ⟨c78, q78⟩
        · rw [hr78] at h78
          replace h78 : RF f78 S78 := h78
          refine z_aload_n d_X6_denied_81 1 rfl ?_
          refine z_iload_n d_X6_denied_82 0 rfl ?_
          refine z_callV 1 c_X6_77 rfl rfl (t_emF G x N R K r S78 T78 tl f78 (-10) h78) rfl rfl (Nat.le_of_ble_eq_true rfl) (rm_le (by omega)) d_X6_denied_83 ?_
          rintro v83 w83 ⟨rfl, S83, T83, rfl, hT83, h83⟩
          exact z_vret _ d_X6_denied_86 rfl ⟨rfl, _, _, rfl, (hT83.trans (hT78.trans (hT73.trans (hT34.trans rfl)))), RP.bad (by rw [denP_0, dnP, if_neg (fun hh => absurd hh.2 (by decide)), cmP, hr34]; show (if _ then _ else _) = _; rw [if_neg (by rw [hop]; decide), hr78]) h83⟩
        · rw [hr78] at h78
          replace h78 : RS B n q78 ((c ++ c34) ++ c78) S78 (T78 0) := h78
          have hg78 := (sum_gd B n 0 _ (nx_le B hg34.2.1)).1 c78 q78 hr78
          have ga78 := hg78.1
          have gb78 := hg78.2.1
          have gc78 := hg78.2.2.1
          refine z_aload_n d_X6_denied_81 1 rfl ?_
          refine z_iload_n d_X6_denied_82 0 rfl ?_
          refine z_callV 1 c_X6_77 rfl rfl (t_emS G x N R K r S78 T78 tl B n q78 ((c ++ c34) ++ c78) (-10) h78 (by (try simp only [List.length_append, List.length_cons, List.length_nil]); omega)) rfl rfl (Nat.le_of_ble_eq_true rfl) (rm_le (by omega)) d_X6_denied_83 ?_
          rintro v83 w83 ⟨rfl, S83, T83, rfl, hT83, h83⟩
          exact z_vret _ d_X6_denied_86 rfl ⟨rfl, _, _, rfl, (hT83.trans (hT78.trans (hT73.trans (hT34.trans rfl)))), RP.ok (by rw [denP_0, dnP, if_neg (fun hh => absurd hh.2 (by decide)), cmP, hr34]; show (if _ then _ else _) = _; rw [if_neg (by rw [hop]; decide), hr78, hop]) h83 (by simp only [List.append_assoc])⟩
      · refine z_aload_n d_X6_denied_46 0 rfl ?_
        refine z_get (v := .int (S34 2)) (1) f_X6_42_6 rfl rfl d_X6_denied_47 ?_
        refine z_top h34.1.2.1 ?_
        refine z_bipush (v := 61) d_X6_denied_50 (by decide) ?_
        refine z_icmp_ne d_X6_denied_52 (fun c_52 => ?_) (fun c_52 => ?_)
        · have hop : opC (tkL B n q34) = 0 := by unfold opC; rw [if_neg c_43, if_neg c_52]
          exact z_vret _ d_X6_denied_86 rfl ⟨rfl, _, _, rfl, (hT34.trans rfl), RP.ok (by rw [denP_0, dnP, if_neg (fun hh => absurd hh.2 (by decide)), cmP, hr34]; exact if_pos hop) h34 (by simp only [List.append_assoc])⟩
        · have hop : opC (tkL B n q34) = -11 := by rw [c_52]; rfl
          refine z_aload_n d_X6_denied_55 0 rfl ?_
          refine z_get (v := .int (S34 2)) (1) f_X6_42_6 rfl rfl d_X6_denied_56 ?_
          refine z_top h34.1.2.1 ?_
          refine z_bipush (v := 60) d_X6_denied_59 (by decide) ?_
          refine z_icmp_ne d_X6_denied_61 (fun c_61 => ?_) (fun c_61 => ?_)
          rotate_left
          · exact absurd c_61 (by rw [c_52]; decide)
          refine z_bipush (v := -11) d_X6_denied_69 (by decide) ?_
          refine z_istore_n [(2, .int (-11)), (0, .ref (x 1)), (1, .int 5)] d_X6_denied_71 (by decide) rfl ?_
          refine z_aload_n d_X6_denied_72 1 rfl ?_
          have hk73 := nx_tk (B := B) (n := n) (p := q34) c_52 (by decide) (by decide)
          have hn73 := nx_le B hg34.2.1
          refine z_callV 1 c_X6_35 rfl rfl (t_adv G x N R K r tl B n hn h0 hB q34 (c ++ c34) S34 T34 hg34.2.1 h34 (by rw [c_52]; decide)) rfl rfl (Nat.le_of_ble_eq_true rfl) (rm_le (by omega)) d_X6_denied_73 ?_
          rintro v73 w73 ⟨rfl, S73, T73, rfl, hT73, h73⟩
          refine z_aload_n d_X6_denied_76 1 rfl ?_
          refine z_iload_n d_X6_denied_77 2 rfl ?_
          refine z_callV 1 c_X6_83 rfl rfl (hsum (nxL B n q34) (c ++ c34) S73 T73 (nx_le B hg34.2.1) (by (try simp only [List.length_append, List.length_cons, List.length_nil]); omega) h73) rfl rfl (Nat.le_of_ble_eq_true rfl) (rm_le (by omega)) d_X6_denied_78 ?_
          rintro v78 w78 ⟨rfl, S78, T78, rfl, hT78, h78⟩
          rcases hr78 : sumP B n 0 (nxL B n q34) with f78 | ⟨c78, q78⟩
          · rw [hr78] at h78
            replace h78 : RF f78 S78 := h78
            refine z_aload_n d_X6_denied_81 1 rfl ?_
            refine z_iload_n d_X6_denied_82 0 rfl ?_
            refine z_callV 1 c_X6_77 rfl rfl (t_emF G x N R K r S78 T78 tl f78 (-11) h78) rfl rfl (Nat.le_of_ble_eq_true rfl) (rm_le (by omega)) d_X6_denied_83 ?_
            rintro v83 w83 ⟨rfl, S83, T83, rfl, hT83, h83⟩
            exact z_vret _ d_X6_denied_86 rfl ⟨rfl, _, _, rfl, (hT83.trans (hT78.trans (hT73.trans (hT34.trans rfl)))), RP.bad (by rw [denP_0, dnP, if_neg (fun hh => absurd hh.2 (by decide)), cmP, hr34]; show (if _ then _ else _) = _; rw [if_neg (by rw [hop]; decide), hr78]) h83⟩
          · rw [hr78] at h78
            replace h78 : RS B n q78 ((c ++ c34) ++ c78) S78 (T78 0) := h78
            have hg78 := (sum_gd B n 0 _ (nx_le B hg34.2.1)).1 c78 q78 hr78
            have ga78 := hg78.1
            have gb78 := hg78.2.1
            have gc78 := hg78.2.2.1
            refine z_aload_n d_X6_denied_81 1 rfl ?_
            refine z_iload_n d_X6_denied_82 0 rfl ?_
            refine z_callV 1 c_X6_77 rfl rfl (t_emS G x N R K r S78 T78 tl B n q78 ((c ++ c34) ++ c78) (-11) h78 (by (try simp only [List.length_append, List.length_cons, List.length_nil]); omega)) rfl rfl (Nat.le_of_ble_eq_true rfl) (rm_le (by omega)) d_X6_denied_83 ?_
            rintro v83 w83 ⟨rfl, S83, T83, rfl, hT83, h83⟩
            exact z_vret _ d_X6_denied_86 rfl ⟨rfl, _, _, rfl, (hT83.trans (hT78.trans (hT73.trans (hT34.trans rfl)))), RP.ok (by rw [denP_0, dnP, if_neg (fun hh => absurd hh.2 (by decide)), cmP, hr34]; show (if _ then _ else _) = _; rw [if_neg (by rw [hop]; decide), hr78, hop]) h83 (by simp only [List.append_assoc])⟩
set_option maxHeartbeats 4000000 in
set_option maxRecDepth 100000 in
theorem t_denS (G : GT) (x : Nat → Nat) (N : Nat → Int32) (R : Nat → Nat → Int32) (K : Nat → Nat → Option Nat) (r : Nat → Nat) (S : Nat → Int32) (T : Nat → Nat → Int32) (tl : va_W) (B : Nat → Int32) (n : Nat) (hn : n ≤ 160) (h0 : N 0 = nI n) (hB : Tp B n (R 0)) (p : Nat) (c : List Int32) (hp : p ≤ n) (hc : c.length ≤ p) (h : RS B n p c S (T 0)) (d o : Nat) (hd : d < 5) (ds : Nat) (hsum : CtR G x N R K r tl B n mX6_sum ds (nI d) (sumP B n (o + 1))) (dn : Nat) (hnot : CtR G x N R K r tl B n mX6_denied dn (nI (d + 1)) (denP B n o)) (dp : Nat) (hd1 : 9 ≤ dp) (hd2 : ds + 1 ≤ dp) (hd3 : dn + 1 ≤ dp)  : Ct G mX6_denied dp 0 0 [.ref (x 1), .int (nI d)] (XW G x N R K r S T tl) (RT G x N R K r (T 1) tl (RP B n c (denP B n (o + 1) p))) := by
  refine Ct.intro [(0, .ref (x 1)), (1, .int (nI d))] (by decide) rfl (Nat.le_of_ble_eq_true rfl) ?_
  refine z_aload_n d_X6_denied_0 0 rfl ?_
  refine z_get (v := .int (S 2)) (1) f_X6_42_6 rfl rfl d_X6_denied_1 ?_
  refine z_top h.1.2.1 ?_
  refine z_bipush (v := 9) d_X6_denied_4 (by decide) ?_
  refine z_icmp_ne d_X6_denied_6 (fun c_6 => ?_) (fun c_6 => ?_)
  · refine z_aload_n d_X6_denied_32 0 rfl ?_
    refine z_iload_n d_X6_denied_33 1 rfl ?_
    refine z_callV 1 c_X6_83 rfl rfl (hsum p c S T hp (by (try simp only [List.length_append, List.length_cons, List.length_nil]); omega) h) rfl rfl (Nat.le_of_ble_eq_true rfl) (rm_le (by omega)) d_X6_denied_34 ?_
    rintro v34 w34 ⟨rfl, S34, T34, rfl, hT34, h34⟩
    rcases hr34 : sumP B n (o + 1) p with f34 | ⟨c34, q34⟩
    · rw [hr34] at h34
      replace h34 : RF f34 S34 := h34
      refine z_aload_n d_X6_denied_37 0 rfl ?_
      refine z_get (v := .int (S34 2)) (1) f_X6_42_6 rfl rfl d_X6_denied_38 ?_
      refine z_top h34.1 ?_
      refine z_bipush (v := 60) d_X6_denied_41 (by decide) ?_
      refine z_icmp_eq d_X6_denied_43 (fun c_43 => ?_) (fun c_43 => ?_)
      · exact absurd c_43 (by decide)
      refine z_aload_n d_X6_denied_46 0 rfl ?_
      refine z_get (v := .int (S34 2)) (1) f_X6_42_6 rfl rfl d_X6_denied_47 ?_
      refine z_top h34.1 ?_
      refine z_bipush (v := 61) d_X6_denied_50 (by decide) ?_
      refine z_icmp_ne d_X6_denied_52 (fun c_52 => ?_) (fun c_52 => ?_)
      rotate_left
      · exact absurd c_52 (by decide)
      exact z_vret _ d_X6_denied_86 rfl ⟨rfl, _, _, rfl, (hT34.trans rfl), RP.bad (by rw [denP_s, dnP, if_neg (fun hh => c_6 hh.1), cmP, hr34]) h34⟩
    · rw [hr34] at h34
      replace h34 : RS B n q34 (c ++ c34) S34 (T34 0) := h34
      have hg34 := (sum_gd B n (o + 1) _ hp).1 c34 q34 hr34
      have ga34 := hg34.1
      have gb34 := hg34.2.1
      have gc34 := hg34.2.2.1
      refine z_aload_n d_X6_denied_37 0 rfl ?_
      refine z_get (v := .int (S34 2)) (1) f_X6_42_6 rfl rfl d_X6_denied_38 ?_
      refine z_top h34.1.2.1 ?_
      refine z_bipush (v := 60) d_X6_denied_41 (by decide) ?_
      refine z_icmp_eq d_X6_denied_43 (fun c_43 => ?_) (fun c_43 => ?_)
      · have hop : opC (tkL B n q34) = -10 := by rw [c_43]; rfl
        refine z_aload_n d_X6_denied_55 0 rfl ?_
        refine z_get (v := .int (S34 2)) (1) f_X6_42_6 rfl rfl d_X6_denied_56 ?_
        refine z_top h34.1.2.1 ?_
        refine z_bipush (v := 60) d_X6_denied_59 (by decide) ?_
        refine z_icmp_ne d_X6_denied_61 (fun c_61 => ?_) (fun c_61 => ?_)
        · exact absurd c_61 (fun hh => hh c_43)
        refine z_bipush (v := -10) d_X6_denied_64 (by decide) ?_
        refine z_goto d_X6_denied_66 ?_
        refine z_istore_n [(2, .int (-10)), (0, .ref (x 1)), (1, .int (nI d))] d_X6_denied_71 (by decide) rfl ?_
        refine z_aload_n d_X6_denied_72 1 rfl ?_
        have hk73 := nx_tk (B := B) (n := n) (p := q34) c_43 (by decide) (by decide)
        have hn73 := nx_le B hg34.2.1
        refine z_callV 1 c_X6_35 rfl rfl (t_adv G x N R K r tl B n hn h0 hB q34 (c ++ c34) S34 T34 hg34.2.1 h34 (by rw [c_43]; decide)) rfl rfl (Nat.le_of_ble_eq_true rfl) (rm_le (by omega)) d_X6_denied_73 ?_
        rintro v73 w73 ⟨rfl, S73, T73, rfl, hT73, h73⟩
        refine z_aload_n d_X6_denied_76 1 rfl ?_
        refine z_iload_n d_X6_denied_77 2 rfl ?_
        refine z_callV 1 c_X6_83 rfl rfl (hsum (nxL B n q34) (c ++ c34) S73 T73 (nx_le B hg34.2.1) (by (try simp only [List.length_append, List.length_cons, List.length_nil]); omega) h73) rfl rfl (Nat.le_of_ble_eq_true rfl) (rm_le (by omega)) d_X6_denied_78 ?_
        rintro v78 w78 ⟨rfl, S78, T78, rfl, hT78, h78⟩
        rcases hr78 : sumP B n (o + 1) (nxL B n q34) with f78 | ⟨c78, q78⟩
        · rw [hr78] at h78
          replace h78 : RF f78 S78 := h78
          refine z_aload_n d_X6_denied_81 1 rfl ?_
          refine z_iload_n d_X6_denied_82 0 rfl ?_
          refine z_callV 1 c_X6_77 rfl rfl (t_emF G x N R K r S78 T78 tl f78 (-10) h78) rfl rfl (Nat.le_of_ble_eq_true rfl) (rm_le (by omega)) d_X6_denied_83 ?_
          rintro v83 w83 ⟨rfl, S83, T83, rfl, hT83, h83⟩
          exact z_vret _ d_X6_denied_86 rfl ⟨rfl, _, _, rfl, (hT83.trans (hT78.trans (hT73.trans (hT34.trans rfl)))), RP.bad (by rw [denP_s, dnP, if_neg (fun hh => c_6 hh.1), cmP, hr34]; show (if _ then _ else _) = _; rw [if_neg (by rw [hop]; decide), hr78]) h83⟩
        · rw [hr78] at h78
          replace h78 : RS B n q78 ((c ++ c34) ++ c78) S78 (T78 0) := h78
          have hg78 := (sum_gd B n (o + 1) _ (nx_le B hg34.2.1)).1 c78 q78 hr78
          have ga78 := hg78.1
          have gb78 := hg78.2.1
          have gc78 := hg78.2.2.1
          refine z_aload_n d_X6_denied_81 1 rfl ?_
          refine z_iload_n d_X6_denied_82 0 rfl ?_
          refine z_callV 1 c_X6_77 rfl rfl (t_emS G x N R K r S78 T78 tl B n q78 ((c ++ c34) ++ c78) (-10) h78 (by (try simp only [List.length_append, List.length_cons, List.length_nil]); omega)) rfl rfl (Nat.le_of_ble_eq_true rfl) (rm_le (by omega)) d_X6_denied_83 ?_
          rintro v83 w83 ⟨rfl, S83, T83, rfl, hT83, h83⟩
          exact z_vret _ d_X6_denied_86 rfl ⟨rfl, _, _, rfl, (hT83.trans (hT78.trans (hT73.trans (hT34.trans rfl)))), RP.ok (by rw [denP_s, dnP, if_neg (fun hh => c_6 hh.1), cmP, hr34]; show (if _ then _ else _) = _; rw [if_neg (by rw [hop]; decide), hr78, hop]) h83 (by simp only [List.append_assoc])⟩
      · refine z_aload_n d_X6_denied_46 0 rfl ?_
        refine z_get (v := .int (S34 2)) (1) f_X6_42_6 rfl rfl d_X6_denied_47 ?_
        refine z_top h34.1.2.1 ?_
        refine z_bipush (v := 61) d_X6_denied_50 (by decide) ?_
        refine z_icmp_ne d_X6_denied_52 (fun c_52 => ?_) (fun c_52 => ?_)
        · have hop : opC (tkL B n q34) = 0 := by unfold opC; rw [if_neg c_43, if_neg c_52]
          exact z_vret _ d_X6_denied_86 rfl ⟨rfl, _, _, rfl, (hT34.trans rfl), RP.ok (by rw [denP_s, dnP, if_neg (fun hh => c_6 hh.1), cmP, hr34]; exact if_pos hop) h34 (by simp only [List.append_assoc])⟩
        · have hop : opC (tkL B n q34) = -11 := by rw [c_52]; rfl
          refine z_aload_n d_X6_denied_55 0 rfl ?_
          refine z_get (v := .int (S34 2)) (1) f_X6_42_6 rfl rfl d_X6_denied_56 ?_
          refine z_top h34.1.2.1 ?_
          refine z_bipush (v := 60) d_X6_denied_59 (by decide) ?_
          refine z_icmp_ne d_X6_denied_61 (fun c_61 => ?_) (fun c_61 => ?_)
          rotate_left
          · exact absurd c_61 (by rw [c_52]; decide)
          refine z_bipush (v := -11) d_X6_denied_69 (by decide) ?_
          refine z_istore_n [(2, .int (-11)), (0, .ref (x 1)), (1, .int (nI d))] d_X6_denied_71 (by decide) rfl ?_
          refine z_aload_n d_X6_denied_72 1 rfl ?_
          have hk73 := nx_tk (B := B) (n := n) (p := q34) c_52 (by decide) (by decide)
          have hn73 := nx_le B hg34.2.1
          refine z_callV 1 c_X6_35 rfl rfl (t_adv G x N R K r tl B n hn h0 hB q34 (c ++ c34) S34 T34 hg34.2.1 h34 (by rw [c_52]; decide)) rfl rfl (Nat.le_of_ble_eq_true rfl) (rm_le (by omega)) d_X6_denied_73 ?_
          rintro v73 w73 ⟨rfl, S73, T73, rfl, hT73, h73⟩
          refine z_aload_n d_X6_denied_76 1 rfl ?_
          refine z_iload_n d_X6_denied_77 2 rfl ?_
          refine z_callV 1 c_X6_83 rfl rfl (hsum (nxL B n q34) (c ++ c34) S73 T73 (nx_le B hg34.2.1) (by (try simp only [List.length_append, List.length_cons, List.length_nil]); omega) h73) rfl rfl (Nat.le_of_ble_eq_true rfl) (rm_le (by omega)) d_X6_denied_78 ?_
          rintro v78 w78 ⟨rfl, S78, T78, rfl, hT78, h78⟩
          rcases hr78 : sumP B n (o + 1) (nxL B n q34) with f78 | ⟨c78, q78⟩
          · rw [hr78] at h78
            replace h78 : RF f78 S78 := h78
            refine z_aload_n d_X6_denied_81 1 rfl ?_
            refine z_iload_n d_X6_denied_82 0 rfl ?_
            refine z_callV 1 c_X6_77 rfl rfl (t_emF G x N R K r S78 T78 tl f78 (-11) h78) rfl rfl (Nat.le_of_ble_eq_true rfl) (rm_le (by omega)) d_X6_denied_83 ?_
            rintro v83 w83 ⟨rfl, S83, T83, rfl, hT83, h83⟩
            exact z_vret _ d_X6_denied_86 rfl ⟨rfl, _, _, rfl, (hT83.trans (hT78.trans (hT73.trans (hT34.trans rfl)))), RP.bad (by rw [denP_s, dnP, if_neg (fun hh => c_6 hh.1), cmP, hr34]; show (if _ then _ else _) = _; rw [if_neg (by rw [hop]; decide), hr78]) h83⟩
          · rw [hr78] at h78
            replace h78 : RS B n q78 ((c ++ c34) ++ c78) S78 (T78 0) := h78
            have hg78 := (sum_gd B n (o + 1) _ (nx_le B hg34.2.1)).1 c78 q78 hr78
            have ga78 := hg78.1
            have gb78 := hg78.2.1
            have gc78 := hg78.2.2.1
            refine z_aload_n d_X6_denied_81 1 rfl ?_
            refine z_iload_n d_X6_denied_82 0 rfl ?_
            refine z_callV 1 c_X6_77 rfl rfl (t_emS G x N R K r S78 T78 tl B n q78 ((c ++ c34) ++ c78) (-11) h78 (by (try simp only [List.length_append, List.length_cons, List.length_nil]); omega)) rfl rfl (Nat.le_of_ble_eq_true rfl) (rm_le (by omega)) d_X6_denied_83 ?_
            rintro v83 w83 ⟨rfl, S83, T83, rfl, hT83, h83⟩
            exact z_vret _ d_X6_denied_86 rfl ⟨rfl, _, _, rfl, (hT83.trans (hT78.trans (hT73.trans (hT34.trans rfl)))), RP.ok (by rw [denP_s, dnP, if_neg (fun hh => c_6 hh.1), cmP, hr34]; show (if _ then _ else _) = _; rw [if_neg (by rw [hop]; decide), hr78, hop]) h83 (by simp only [List.append_assoc])⟩
  · refine z_iload_n d_X6_denied_9 1 rfl ?_
    refine z_iconst (v := 5) d_X6_denied_10 (by decide) ?_
    refine z_icmp_ge d_X6_denied_11 (fun c_11 => ?_) (fun c_11 => ?_)
    · exact absurd c_11 (by rw [show (5 : Int32) = nI 5 from rfl]; intro hh; have := ge_nI (by omega) (by decide) hh; omega)
    refine z_aload_n d_X6_denied_14 0 rfl ?_
    have hk15 := nx_tk (B := B) (n := n) (p := p) c_6 (by decide) (by decide)
    have hn15 := nx_le B hp
    refine z_callV 1 c_X6_35 rfl rfl (t_adv G x N R K r tl B n hn h0 hB p c S T hp h (by rw [c_6]; decide)) rfl rfl (Nat.le_of_ble_eq_true rfl) (rm_le (by omega)) d_X6_denied_15 ?_
    rintro v15 w15 ⟨rfl, S15, T15, rfl, hT15, h15⟩
    refine z_aload_n d_X6_denied_18 0 rfl ?_
    refine z_iload_n d_X6_denied_19 1 rfl ?_
    refine z_iconst (v := 1) d_X6_denied_20 (by decide) ?_
    refine z_iadd d_X6_denied_21 ?_
    refine z_top (nI_1 d) ?_
    refine z_callV 1 c_X6_80 rfl rfl (hnot (nxL B n p) c S15 T15 (nx_le B hp) (by (try simp only [List.length_append, List.length_cons, List.length_nil]); omega) h15) rfl rfl (Nat.le_of_ble_eq_true rfl) (rm_le (by omega)) d_X6_denied_22 ?_
    rintro v22 w22 ⟨rfl, S22, T22, rfl, hT22, h22⟩
    rcases hr22 : denP B n o (nxL B n p) with f22 | ⟨c22, q22⟩
    · rw [hr22] at h22
      replace h22 : RF f22 S22 := h22
      refine z_aload_n d_X6_denied_25 0 rfl ?_
      refine z_bipush (v := -9) d_X6_denied_26 (by decide) ?_
      refine z_callV 1 c_X6_77 rfl rfl (t_emF G x N R K r S22 T22 tl f22 (-9) h22) rfl rfl (Nat.le_of_ble_eq_true rfl) (rm_le (by omega)) d_X6_denied_28 ?_
      rintro v28 w28 ⟨rfl, S28, T28, rfl, hT28, h28⟩
      exact z_vret _ d_X6_denied_31 rfl ⟨rfl, _, _, rfl, (hT28.trans (hT22.trans (hT15.trans rfl))), RP.bad (by rw [denP_s, dnP, if_pos ⟨c_6, rfl⟩, hr22]) h28⟩
    · rw [hr22] at h22
      replace h22 : RS B n q22 (c ++ c22) S22 (T22 0) := h22
      have hg22 := ((lv_gd B n o).2.1 _ (nx_le B hp)).1 c22 q22 hr22
      have ga22 := hg22.1
      have gb22 := hg22.2.1
      have gc22 := hg22.2.2.1
      refine z_aload_n d_X6_denied_25 0 rfl ?_
      refine z_bipush (v := -9) d_X6_denied_26 (by decide) ?_
      refine z_callV 1 c_X6_77 rfl rfl (t_emS G x N R K r S22 T22 tl B n q22 (c ++ c22) (-9) h22 (by (try simp only [List.length_append, List.length_cons, List.length_nil]); omega)) rfl rfl (Nat.le_of_ble_eq_true rfl) (rm_le (by omega)) d_X6_denied_28 ?_
      rintro v28 w28 ⟨rfl, S28, T28, rfl, hT28, h28⟩
      exact z_vret _ d_X6_denied_31 rfl ⟨rfl, _, _, rfl, (hT28.trans (hT22.trans (hT15.trans rfl))), RP.ok (by rw [denP_s, dnP, if_pos ⟨c_6, rfl⟩, hr22]) h28 (by simp only [List.append_assoc])⟩
set_option maxRecDepth 100000 in
/-- the levels, so deep -/
theorem PX_lv (G : GT) (x : Nat → Nat) (N : Nat → Int32) (R : Nat → Nat → Int32) (K : Nat → Nat → Option Nat) (r : Nat → Nat) (tl : va_W) (B : Nat → Int32) (n : Nat) (hn : n ≤ 160) (h0 : N 0 = nI n) (hB : Tp B n (R 0)) : ∀ o, o ≤ 5 → CtR G x N R K r tl B n mX6_one (9 + 6 * o) (nI (5 - o)) (oneP B n o) ∧ CtR G x N R K r tl B n mX6_denied (12 + 6 * o) (nI (5 - o)) (denP B n o) ∧ CtR G x N R K r tl B n mX6_either (14 + 6 * o) (nI (5 - o)) (eitP B n o)
  | 0, _ => by
    have h1 : CtR G x N R K r tl B n mX6_one (9 + 6 * (0)) (nI (5 - (0))) (oneP B n (0)) := fun p c S T hp hc h => t_one0 G x N R K r S T tl B n hn h0 hB p c hp hc h
    have h2 : CtR G x N R K r tl B n mX6_term (10 + 6 * (0)) (nI (5 - (0))) (terP B n (0)) := P_term G x N R K r tl B n hn h0 hB _ _ _ h1 (lv_gd B n (0)).1 _ (by omega) (by omega)
    have h3 : CtR G x N R K r tl B n mX6_sum (11 + 6 * (0)) (nI (5 - (0))) (sumP B n (0)) := P_sum G x N R K r tl B n hn h0 hB _ _ _ h2 (ter_gd B n (0)) _ (by omega) (by omega)
    have h4 : CtR G x N R K r tl B n mX6_denied (12 + 6 * (0)) (nI (5 - (0))) (denP B n (0)) := fun p c S T hp hc h => t_den0 G x N R K r S T tl B n hn h0 hB p c hp hc h _ h3 _ (by omega) (by omega)
    have h5 : CtR G x N R K r tl B n mX6_both (13 + 6 * (0)) (nI (5 - (0))) (botP B n (0)) := P_both G x N R K r tl B n hn h0 hB _ _ _ h4 (lv_gd B n (0)).2.1 _ (by omega) (by omega)
    have h6 : CtR G x N R K r tl B n mX6_either (14 + 6 * (0)) (nI (5 - (0))) (thL B n (botP B n (0)) opO) := P_either G x N R K r tl B n hn h0 hB _ _ _ h5 (bot_gd B n (0)) _ (by omega) (by omega)
    exact ⟨h1, h4, by rw [show eitP B n (0) = thL B n (botP B n (0)) opO from rfl]; exact h6⟩
  | o + 1, ho => by
    obtain ⟨g1, g2, g3⟩ := PX_lv G x N R K r tl B n hn h0 hB o (by omega)
    rw [show 5 - o = (5 - (o + 1)) + 1 by omega] at g1 g2 g3
    have h1 : CtR G x N R K r tl B n mX6_one (9 + 6 * (o + 1)) (nI (5 - (o + 1))) (oneP B n (o + 1)) := fun p c S T hp hc h => t_oneS G x N R K r S T tl B n hn h0 hB p c hp hc h (5 - (o + 1)) o (14 + 6 * o) (9 + 6 * o) (by omega) g3 g1 (9 + 6 * (o + 1)) (by omega) (by omega) (by omega)
    have h2 : CtR G x N R K r tl B n mX6_term (10 + 6 * (o + 1)) (nI (5 - (o + 1))) (terP B n (o + 1)) := P_term G x N R K r tl B n hn h0 hB _ _ _ h1 (lv_gd B n (o + 1)).1 _ (by omega) (by omega)
    have h3 : CtR G x N R K r tl B n mX6_sum (11 + 6 * (o + 1)) (nI (5 - (o + 1))) (sumP B n (o + 1)) := P_sum G x N R K r tl B n hn h0 hB _ _ _ h2 (ter_gd B n (o + 1)) _ (by omega) (by omega)
    have h4 : CtR G x N R K r tl B n mX6_denied (12 + 6 * (o + 1)) (nI (5 - (o + 1))) (denP B n (o + 1)) := fun p c S T hp hc h => t_denS G x N R K r S T tl B n hn h0 hB p c hp hc h (5 - (o + 1)) o (by omega) (11 + 6 * (o + 1)) h3 (12 + 6 * o) g2 (12 + 6 * (o + 1)) (by omega) (by omega) (by omega)
    have h5 : CtR G x N R K r tl B n mX6_both (13 + 6 * (o + 1)) (nI (5 - (o + 1))) (botP B n (o + 1)) := P_both G x N R K r tl B n hn h0 hB _ _ _ h4 (lv_gd B n (o + 1)).2.1 _ (by omega) (by omega)
    have h6 : CtR G x N R K r tl B n mX6_either (14 + 6 * (o + 1)) (nI (5 - (o + 1))) (thL B n (botP B n (o + 1)) opO) := P_either G x N R K r tl B n hn h0 hB _ _ _ h5 (bot_gd B n (o + 1)) _ (by omega) (by omega)
    exact ⟨h1, h4, by rw [show eitP B n (o + 1) = thL B n (botP B n (o + 1)) opO from rfl]; exact h6⟩
theorem PX_E (G : GT) (x : Nat → Nat) (N : Nat → Int32) (R : Nat → Nat → Int32) (K : Nat → Nat → Option Nat) (r : Nat → Nat) (tl : va_W) (B : Nat → Int32) (n : Nat) (hn : n ≤ 160) (h0 : N 0 = nI n) (hB : Tp B n (R 0)) : CtR G x N R K r tl B n mX6_either 44 0 (eitP B n 5) := (PX_lv G x N R K r tl B n hn h0 hB 5 (Nat.le_refl 5)).2.2
