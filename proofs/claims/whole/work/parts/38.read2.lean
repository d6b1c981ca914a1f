/-! THE READER of class X: a text as a whole -/
set_option maxHeartbeats 4000000 in
set_option maxRecDepth 100000 in
theorem t_partS (G : GT) (x : Nat → Nat) (N : Nat → Int32) (R : Nat → Nat → Int32) (K : Nat → Nat → Option Nat) (r : Nat → Nat) (S : Nat → Int32) (T : Nat → Nat → Int32) (tl : va_W) (B : Nat → Int32) (n : Nat) (hn : n ≤ 160) (h0 : N 0 = nI n) (hB : Tp B n (R 0)) (p : Nat) (c : List Int32) (hp : p ≤ n) (hc : c.length ≤ p) (h : RS B n p c S (T 0)) (key : Int32) (wh : Nat) (hw : wh < 3) (k0 : ¬ key = 0) (k1 : ¬ key = 1)  : Ct G mX6_part 45 0 0 [.ref (x 1), .int key, .int (nI wh)] (XW G x N R K r S T tl) (fun v w => v = none ∧ ∃ (S2 : Nat → Int32) (T2 : Nat → Nat → Int32), w = XW G x N R K r S2 T2 tl ∧ T2 1 = upd (T 1) wh (S2 5) ∧ RP B n c (parP B n key p) S2 (T2 0)) := by
  refine Ct.intro [(0, .ref (x 1)), (1, .int key), (2, .int (nI wh))] (by decide) rfl (Nat.le_of_ble_eq_true rfl) ?_
  refine z_aload_n d_X6_part_0 0 rfl ?_
  refine z_iload_n d_X6_part_1 1 rfl ?_
  refine z_callV 1 c_X6_64 rfl rfl (t_expS G x N R K r S T tl B n hn h0 hB p c key hp (by (try simp only [List.length_append, List.length_cons, List.length_nil]); omega) k0 k1 h) rfl rfl (Nat.le_of_ble_eq_true rfl) rfl d_X6_part_2 ?_
  rintro v2 w2 ⟨rfl, S2, T2, rfl, hT2, h2⟩
  by_cases he2 : tkL B n p = key
  · replace h2 : RS B n (nxL B n p) c S2 (T2 0) := (if_pos he2).mp h2
    have hk2 := nx_tk (B := B) (n := n) (p := p) he2 k0 k1
    have hn2 := nx_le B hp
    refine z_aload_n d_X6_part_5 0 rfl ?_
    refine z_iconst (v := 0) d_X6_part_6 (by decide) ?_
    refine z_callV 1 c_X6_68 rfl rfl (PX_E G x N R K r tl B n hn h0 hB (nxL B n p) c S2 T2 (nx_le B hp) (by (try simp only [List.length_append, List.length_cons, List.length_nil]); omega) h2) rfl rfl (Nat.le_of_ble_eq_true rfl) rfl d_X6_part_7 ?_
    rintro v7 w7 ⟨rfl, S7, T7, rfl, hT7, h7⟩
    rcases hr7 : eitP B n 5 (nxL B n p) with f7 | ⟨c7, q7⟩
    · rw [hr7] at h7
      replace h7 : RF f7 S7 := h7
      refine z_aload_n d_X6_part_10 0 rfl ?_
      refine z_bipush (v := 59) d_X6_part_11 (by decide) ?_
      refine z_callV 1 c_X6_64 rfl rfl (t_expF G x N R K r S7 T7 tl f7 59 h7 (by decide)) rfl rfl (Nat.le_of_ble_eq_true rfl) rfl d_X6_part_13 ?_
      rintro v13 w13 ⟨rfl, S13, T13, rfl, hT13, h13⟩
      refine z_aload_n d_X6_part_16 0 rfl ?_
      refine z_get (v := .ref (x 4)) (1) f_X6_19_6 rfl rfl d_X6_part_17 ?_
      refine z_iload_n d_X6_part_20 2 rfl ?_
      refine z_aload_n d_X6_part_21 0 rfl ?_
      refine z_get (v := .int (S13 5)) (1) f_X6_29_6 rfl rfl d_X6_part_22 ?_
      refine z_iastN 4 wh (XW G x N R K r S13 (vf_upd T13 1 (upd (T13 1) wh (S13 5))) tl) rfl (nI_toInt (by omega)) (by omega) (xa_4 G x N R K r S13 T13 tl _) d_X6_part_25 ?_
      exact z_vret _ d_X6_part_26 rfl ⟨rfl, _, _, rfl, (by show upd (T13 1) wh (S13 5) = upd (T 1) wh (S13 5); rw [(hT13.trans (hT7.trans (hT2.trans rfl)))]), RP.bad (by rw [parP, if_pos he2, hr7]) h13⟩
    · rw [hr7] at h7
      replace h7 : RS B n q7 (c ++ c7) S7 (T7 0) := h7
      have hg7 := ((lv_gd B n 5).2.2 _ (nx_le B hp)).1 c7 q7 hr7
      have ga7 := hg7.1
      have gb7 := hg7.2.1
      have gc7 := hg7.2.2.1
      refine z_aload_n d_X6_part_10 0 rfl ?_
      refine z_bipush (v := 59) d_X6_part_11 (by decide) ?_
      refine z_callV 1 c_X6_64 rfl rfl (t_expS G x N R K r S7 T7 tl B n hn h0 hB q7 (c ++ c7) 59 hg7.2.1 (by (try simp only [List.length_append, List.length_cons, List.length_nil]); omega) (by decide) (by decide) h7) rfl rfl (Nat.le_of_ble_eq_true rfl) rfl d_X6_part_13 ?_
      rintro v13 w13 ⟨rfl, S13, T13, rfl, hT13, h13⟩
      by_cases he13 : tkL B n q7 = 59
      · replace h13 : RS B n (nxL B n q7) (c ++ c7) S13 (T13 0) := (if_pos he13).mp h13
        have hk13 := nx_tk (B := B) (n := n) (p := q7) he13 (by decide) (by decide)
        have hn13 := nx_le B hg7.2.1
        refine z_aload_n d_X6_part_16 0 rfl ?_
        refine z_get (v := .ref (x 4)) (1) f_X6_19_6 rfl rfl d_X6_part_17 ?_
        refine z_iload_n d_X6_part_20 2 rfl ?_
        refine z_aload_n d_X6_part_21 0 rfl ?_
        refine z_get (v := .int (S13 5)) (1) f_X6_29_6 rfl rfl d_X6_part_22 ?_
        refine z_iastN 4 wh (XW G x N R K r S13 (vf_upd T13 1 (upd (T13 1) wh (S13 5))) tl) rfl (nI_toInt (by omega)) (by omega) (xa_4 G x N R K r S13 T13 tl _) d_X6_part_25 ?_
        exact z_vret _ d_X6_part_26 rfl ⟨rfl, _, _, rfl, (by show upd (T13 1) wh (S13 5) = upd (T 1) wh (S13 5); rw [(hT13.trans (hT7.trans (hT2.trans rfl)))]), RP.ok (by rw [parP, if_pos he2, hr7]; exact if_pos he13) (show RS B n _ _ S13 (T13 0) from h13) rfl⟩
      · replace h13 : RF (stL B n q7) S13 := (if_neg he13).mp h13
        refine z_aload_n d_X6_part_16 0 rfl ?_
        refine z_get (v := .ref (x 4)) (1) f_X6_19_6 rfl rfl d_X6_part_17 ?_
        refine z_iload_n d_X6_part_20 2 rfl ?_
        refine z_aload_n d_X6_part_21 0 rfl ?_
        refine z_get (v := .int (S13 5)) (1) f_X6_29_6 rfl rfl d_X6_part_22 ?_
        refine z_iastN 4 wh (XW G x N R K r S13 (vf_upd T13 1 (upd (T13 1) wh (S13 5))) tl) rfl (nI_toInt (by omega)) (by omega) (xa_4 G x N R K r S13 T13 tl _) d_X6_part_25 ?_
        exact z_vret _ d_X6_part_26 rfl ⟨rfl, _, _, rfl, (by show upd (T13 1) wh (S13 5) = upd (T 1) wh (S13 5); rw [(hT13.trans (hT7.trans (hT2.trans rfl)))]), RP.bad (by rw [parP, if_pos he2, hr7]; exact if_neg he13) h13⟩
  · replace h2 : RF (stL B n p) S2 := (if_neg he2).mp h2
    refine z_aload_n d_X6_part_5 0 rfl ?_
    refine z_iconst (v := 0) d_X6_part_6 (by decide) ?_
    refine z_callV 1 c_X6_68 rfl rfl (F_X6_either G x N R K r tl _ (stL B n p) S2 T2 h2) rfl rfl (Nat.le_of_ble_eq_true rfl) rfl d_X6_part_7 ?_
    rintro v7 w7 ⟨rfl, S7, T7, rfl, hT7, h7⟩
    refine z_aload_n d_X6_part_10 0 rfl ?_
    refine z_bipush (v := 59) d_X6_part_11 (by decide) ?_
    refine z_callV 1 c_X6_64 rfl rfl (t_expF G x N R K r S7 T7 tl (stL B n p) 59 h7 (by decide)) rfl rfl (Nat.le_of_ble_eq_true rfl) rfl d_X6_part_13 ?_
    rintro v13 w13 ⟨rfl, S13, T13, rfl, hT13, h13⟩
    refine z_aload_n d_X6_part_16 0 rfl ?_
    refine z_get (v := .ref (x 4)) (1) f_X6_19_6 rfl rfl d_X6_part_17 ?_
    refine z_iload_n d_X6_part_20 2 rfl ?_
    refine z_aload_n d_X6_part_21 0 rfl ?_
    refine z_get (v := .int (S13 5)) (1) f_X6_29_6 rfl rfl d_X6_part_22 ?_
    refine z_iastN 4 wh (XW G x N R K r S13 (vf_upd T13 1 (upd (T13 1) wh (S13 5))) tl) rfl (nI_toInt (by omega)) (by omega) (xa_4 G x N R K r S13 T13 tl _) d_X6_part_25 ?_
    exact z_vret _ d_X6_part_26 rfl ⟨rfl, _, _, rfl, (by show upd (T13 1) wh (S13 5) = upd (T 1) wh (S13 5); rw [(hT13.trans (hT7.trans (hT2.trans rfl)))]), RP.bad (by rw [parP, if_neg he2]) h13⟩
set_option maxHeartbeats 4000000 in
set_option maxRecDepth 100000 in
theorem t_partF (G : GT) (x : Nat → Nat) (N : Nat → Int32) (R : Nat → Nat → Int32) (K : Nat → Nat → Option Nat) (r : Nat → Nat) (S : Nat → Int32) (T : Nat → Nat → Int32) (tl : va_W) (z : Nat) (h : RF z S) (key : Int32) (wh : Nat) (hw : wh < 3) (k1 : ¬ key = 1)  : Ct G mX6_part 7 0 0 [.ref (x 1), .int key, .int (nI wh)] (XW G x N R K r S T tl) (fun v w => v = none ∧ ∃ (S2 : Nat → Int32) (T2 : Nat → Nat → Int32), w = XW G x N R K r S2 T2 tl ∧ RF z S2) := by
  refine Ct.intro [(0, .ref (x 1)), (1, .int key), (2, .int (nI wh))] (by decide) rfl (Nat.le_of_ble_eq_true rfl) ?_
  refine z_aload_n d_X6_part_0 0 rfl ?_
  refine z_iload_n d_X6_part_1 1 rfl ?_
  refine z_callV 1 c_X6_64 rfl rfl (t_expF G x N R K r S T tl z key h k1) rfl rfl (Nat.le_of_ble_eq_true rfl) rfl d_X6_part_2 ?_
  rintro v2 w2 ⟨rfl, S2, T2, rfl, hT2, h2⟩
  refine z_aload_n d_X6_part_5 0 rfl ?_
  refine z_iconst (v := 0) d_X6_part_6 (by decide) ?_
  refine z_callV 1 c_X6_68 rfl rfl (F_X6_either G x N R K r tl _ z S2 T2 h2) rfl rfl (Nat.le_of_ble_eq_true rfl) rfl d_X6_part_7 ?_
  rintro v7 w7 ⟨rfl, S7, T7, rfl, hT7, h7⟩
  refine z_aload_n d_X6_part_10 0 rfl ?_
  refine z_bipush (v := 59) d_X6_part_11 (by decide) ?_
  refine z_callV 1 c_X6_64 rfl rfl (t_expF G x N R K r S7 T7 tl z 59 h7 (by decide)) rfl rfl (Nat.le_of_ble_eq_true rfl) rfl d_X6_part_13 ?_
  rintro v13 w13 ⟨rfl, S13, T13, rfl, hT13, h13⟩
  refine z_aload_n d_X6_part_16 0 rfl ?_
  refine z_get (v := .ref (x 4)) (1) f_X6_19_6 rfl rfl d_X6_part_17 ?_
  refine z_iload_n d_X6_part_20 2 rfl ?_
  refine z_aload_n d_X6_part_21 0 rfl ?_
  refine z_get (v := .int (S13 5)) (1) f_X6_29_6 rfl rfl d_X6_part_22 ?_
  refine z_iastN 4 wh (XW G x N R K r S13 (vf_upd T13 1 (upd (T13 1) wh (S13 5))) tl) rfl (nI_toInt (by omega)) (by omega) (xa_4 G x N R K r S13 T13 tl _) d_X6_part_25 ?_
  exact z_vret _ d_X6_part_26 rfl ⟨rfl, _, _, rfl, h13⟩
theorem ends_ok {e0 e1 e2 e3 : Nat → Int32} {a b c : Int32} (h1 : e1 = upd e0 0 a) (h2 : e2 = upd e1 1 b) (h3 : e3 = upd e2 2 c) : e3 0 = a ∧ e3 1 = b ∧ e3 2 = c := by subst h1; subst h2; subst h3; exact ⟨rfl, rfl, rfl⟩
/-- what the scratch holds once a text is read -/
def Rd (cd : CD) (S : Nat → Int32) (T : Nat → Nat → Int32) : Prop := S 5 = nI (cd.1 ++ cd.2.1 ++ cd.2.2).length ∧ (∀ i, i < (cd.1 ++ cd.2.1 ++ cd.2.2).length → T 0 i = (cd.1 ++ cd.2.1 ++ cd.2.2).getD i 0) ∧ T 1 0 = nI cd.1.length ∧ T 1 1 = nI (cd.1 ++ cd.2.1).length ∧ T 1 2 = nI (cd.1 ++ cd.2.1 ++ cd.2.2).length ∧ (cd.1 ++ cd.2.1 ++ cd.2.2).length ≤ 160 ∧ ∀ p, p < 3 → ∀ nm, ∃ x, Vl nm (pt cd p) x
def RdP (r : Nat ⊕ CD) (v : Option Value) (S : Nat → Int32) (T : Nat → Nat → Int32) : Prop := match r with
  | .inl z => v = some (.int (nI z))
  | .inr cd => v = some (.int (-1)) ∧ Rd cd S T
theorem RdP.bad {r : Nat ⊕ CD} {x : Int32} {S : Nat → Int32} {T : Nat → Nat → Int32} {z : Nat} (hr : r = .inl z) (h : x = nI z) : RdP r (some (.int x)) S T := by subst hr; subst h; exact rfl
theorem RdP.ok {r : Nat ⊕ CD} {x : Int32} {S : Nat → Int32} {T : Nat → Nat → Int32} {cd : CD} (hr : r = .inr cd) (h : x = -1) (hd : Rd cd S T) : RdP r (some (.int x)) S T := by subst hr; subst h; exact ⟨rfl, hd⟩
set_option maxHeartbeats 4000000 in
set_option maxRecDepth 100000 in
theorem t_X6_readTape (G : GT) (x : Nat → Nat) (N : Nat → Int32) (R : Nat → Nat → Int32) (K : Nat → Nat → Option Nat) (r : Nat → Nat) (S : Nat → Int32) (T : Nat → Nat → Int32) (tl : va_W) (B : Nat → Int32) (n : Nat) (hn : n ≤ 160) (h0 : N 0 = nI n) (hB : Tp B n (R 0))  : Ct G mX6_readTape 46 0 0 [.ref (x 1)] (XW G x N R K r S T tl) (fun v w => ∃ (S2 : Nat → Int32) (T2 : Nat → Nat → Int32), w = XW G x (upd N 0 0) R K r S2 T2 tl ∧ RdP (txP B n) v S2 T2) := by
  refine Ct.intro [(0, .ref (x 1))] (by decide) rfl (Nat.le_of_ble_eq_true rfl) ?_
  refine z_aload_n d_X6_readTape_0 0 rfl ?_
  refine z_iconst (v := 0) d_X6_readTape_1 (by decide) ?_
  refine z_put 1 (XW G x N R K r (upd S 0 0) T tl) p_X6_26_6 rfl rfl rfl (Nat.le_of_ble_eq_true rfl) (xf_1_2 G x N R K r S T tl _) d_X6_readTape_2 ?_
  refine z_aload_n d_X6_readTape_5 0 rfl ?_
  refine z_iconst (v := 0) d_X6_readTape_6 (by decide) ?_
  refine z_put 1 (XW G x N R K r (upd (upd S 0 0) 5 0) T tl) p_X6_29_6 rfl rfl rfl (Nat.le_of_ble_eq_true rfl) (xf_1_8 G x N R K r (upd S 0 0) T tl _) d_X6_readTape_7 ?_
  refine z_aload_n d_X6_readTape_10 0 rfl ?_
  refine z_iconst (v := -1) d_X6_readTape_11 (by decide) ?_
  refine z_put 1 (XW G x N R K r (upd (upd (upd S 0 0) 5 0) 4 (-1)) T tl) p_X6_32_6 rfl rfl rfl (Nat.le_of_ble_eq_true rfl) (xf_1_6 G x N R K r (upd (upd S 0 0) 5 0) T tl _) d_X6_readTape_12 ?_
  refine z_aload_n d_X6_readTape_15 0 rfl ?_
  refine z_callV 1 c_X6_35 rfl rfl (t_X6_advance G x N R K r (upd (upd (upd S 0 0) 5 0) 4 (-1)) T tl B n hn h0 hB 0 (Nat.zero_le _) rfl) rfl rfl (Nat.le_of_ble_eq_true rfl) rfl d_X6_readTape_16 ?_
  rintro v16 w16 ⟨rfl, S16, rfl, ha16⟩
  have h16 : RS B n 0 [] S16 (T 0) := ⟨ha16, fun i hi => absurd hi (Nat.not_lt_zero _)⟩
  refine z_aload_n d_X6_readTape_19 0 rfl ?_
  refine z_iconst (v := 4) d_X6_readTape_20 (by decide) ?_
  refine z_iconst (v := 0) d_X6_readTape_21 (by decide) ?_
  refine z_callV 1 c_X6_38 rfl rfl (t_partS G x N R K r S16 T tl B n hn h0 hB 0 ([]) (Nat.zero_le _) (by (try simp only [List.length_append, List.length_cons, List.length_nil]); omega) h16 4 0 (by decide) (by decide) (by decide)) rfl rfl (Nat.le_of_ble_eq_true rfl) rfl d_X6_readTape_22 ?_
  rintro v22 w22 ⟨rfl, S22, T22, rfl, hT22, h22⟩
  rcases hr22 : parP B n 4 0 with f22 | ⟨c22, q22⟩
  · rw [hr22] at h22
    replace h22 : RF f22 S22 := h22
    refine z_aload_n d_X6_readTape_25 0 rfl ?_
    refine z_iconst (v := 5) d_X6_readTape_26 (by decide) ?_
    refine z_iconst (v := 1) d_X6_readTape_27 (by decide) ?_
    refine z_callV 1 c_X6_38 rfl rfl (t_partF G x N R K r S22 T22 tl f22 h22 5 1 (by decide) (by decide)) rfl rfl (Nat.le_of_ble_eq_true rfl) rfl d_X6_readTape_28 ?_
    rintro v28 w28 ⟨rfl, S28, T28, rfl, h28⟩
    refine z_aload_n d_X6_readTape_31 0 rfl ?_
    refine z_bipush (v := 6) d_X6_readTape_32 (by decide) ?_
    refine z_iconst (v := 2) d_X6_readTape_34 (by decide) ?_
    refine z_callV 1 c_X6_38 rfl rfl (t_partF G x N R K r S28 T28 tl f22 h28 6 2 (by decide) (by decide)) rfl rfl (Nat.le_of_ble_eq_true rfl) rfl d_X6_readTape_35 ?_
    rintro v35 w35 ⟨rfl, S35, T35, rfl, h35⟩
    refine z_aload_n d_X6_readTape_38 0 rfl ?_
    refine z_get (v := .int (S35 2)) (1) f_X6_42_6 rfl rfl d_X6_readTape_39 ?_
    refine z_top h35.1 ?_
    refine z_if_eq d_X6_readTape_42 (fun c_42 => ?_) (fun c_42 => ?_)
    · exact absurd c_42 (by decide)
    refine z_aload_n d_X6_readTape_45 0 rfl ?_
    refine z_callV 1 c_X6_45 rfl rfl (t_refF G x N R K r S35 T35 tl f22 h35) rfl rfl (Nat.le_of_ble_eq_true rfl) rfl d_X6_readTape_46 ?_
    rintro v46 w46 ⟨rfl, S46, T46, rfl, hT46, h46⟩
    refine z_aload_n d_X6_readTape_49 0 rfl ?_
    refine z_iconst (v := 0) d_X6_readTape_50 (by decide) ?_
    refine z_put 1 (XW G x (upd N 0 0) R K r S46 T46 tl) p_X6_22_6 rfl rfl rfl (Nat.le_of_ble_eq_true rfl) (xf_1_0 G x N R K r S46 T46 tl _) d_X6_readTape_51 ?_
    refine z_aload_n d_X6_readTape_54 0 rfl ?_
    refine z_get (v := .int (S46 4)) (1) f_X6_32_6 rfl rfl d_X6_readTape_55 ?_
    exact z_iret _ d_X6_readTape_58 rfl ⟨_, _, rfl, RdP.bad (by rw [txP, hr22]) h46.2.1⟩
  · rw [hr22] at h22
    replace h22 : RS B n q22 (c22) S22 (T22 0) := h22
    have hg22 := par_gd B n 4 (by decide) (by decide) _ (Nat.zero_le _) c22 q22 hr22
    have ga22 := hg22.1
    have gb22 := hg22.2.1
    have gc22 := hg22.2.2.1
    refine z_aload_n d_X6_readTape_25 0 rfl ?_
    refine z_iconst (v := 5) d_X6_readTape_26 (by decide) ?_
    refine z_iconst (v := 1) d_X6_readTape_27 (by decide) ?_
    refine z_callV 1 c_X6_38 rfl rfl (t_partS G x N R K r S22 T22 tl B n hn h0 hB q22 c22 hg22.2.1 (by (try simp only [List.length_append, List.length_cons, List.length_nil]); omega) h22 5 1 (by decide) (by decide) (by decide)) rfl rfl (Nat.le_of_ble_eq_true rfl) rfl d_X6_readTape_28 ?_
    rintro v28 w28 ⟨rfl, S28, T28, rfl, hT28, h28⟩
    rcases hr28 : parP B n 5 q22 with f28 | ⟨c28, q28⟩
    · rw [hr28] at h28
      replace h28 : RF f28 S28 := h28
      refine z_aload_n d_X6_readTape_31 0 rfl ?_
      refine z_bipush (v := 6) d_X6_readTape_32 (by decide) ?_
      refine z_iconst (v := 2) d_X6_readTape_34 (by decide) ?_
      refine z_callV 1 c_X6_38 rfl rfl (t_partF G x N R K r S28 T28 tl f28 h28 6 2 (by decide) (by decide)) rfl rfl (Nat.le_of_ble_eq_true rfl) rfl d_X6_readTape_35 ?_
      rintro v35 w35 ⟨rfl, S35, T35, rfl, h35⟩
      refine z_aload_n d_X6_readTape_38 0 rfl ?_
      refine z_get (v := .int (S35 2)) (1) f_X6_42_6 rfl rfl d_X6_readTape_39 ?_
      refine z_top h35.1 ?_
      refine z_if_eq d_X6_readTape_42 (fun c_42 => ?_) (fun c_42 => ?_)
      · exact absurd c_42 (by decide)
      refine z_aload_n d_X6_readTape_45 0 rfl ?_
      refine z_callV 1 c_X6_45 rfl rfl (t_refF G x N R K r S35 T35 tl f28 h35) rfl rfl (Nat.le_of_ble_eq_true rfl) rfl d_X6_readTape_46 ?_
      rintro v46 w46 ⟨rfl, S46, T46, rfl, hT46, h46⟩
      refine z_aload_n d_X6_readTape_49 0 rfl ?_
      refine z_iconst (v := 0) d_X6_readTape_50 (by decide) ?_
      refine z_put 1 (XW G x (upd N 0 0) R K r S46 T46 tl) p_X6_22_6 rfl rfl rfl (Nat.le_of_ble_eq_true rfl) (xf_1_0 G x N R K r S46 T46 tl _) d_X6_readTape_51 ?_
      refine z_aload_n d_X6_readTape_54 0 rfl ?_
      refine z_get (v := .int (S46 4)) (1) f_X6_32_6 rfl rfl d_X6_readTape_55 ?_
      exact z_iret _ d_X6_readTape_58 rfl ⟨_, _, rfl, RdP.bad (by rw [txP, hr22]; show (match parP B n 5 q22 with | .inl z => _ | .inr (c1, q1) => _) = _; rw [hr28]) h46.2.1⟩
    · rw [hr28] at h28
      replace h28 : RS B n q28 (c22 ++ c28) S28 (T28 0) := h28
      have hg28 := par_gd B n 5 (by decide) (by decide) _ hg22.2.1 c28 q28 hr28
      have ga28 := hg28.1
      have gb28 := hg28.2.1
      have gc28 := hg28.2.2.1
      refine z_aload_n d_X6_readTape_31 0 rfl ?_
      refine z_bipush (v := 6) d_X6_readTape_32 (by decide) ?_
      refine z_iconst (v := 2) d_X6_readTape_34 (by decide) ?_
      refine z_callV 1 c_X6_38 rfl rfl (t_partS G x N R K r S28 T28 tl B n hn h0 hB q28 (c22 ++ c28) hg28.2.1 (by (try simp only [List.length_append, List.length_cons, List.length_nil]); omega) h28 6 2 (by decide) (by decide) (by decide)) rfl rfl (Nat.le_of_ble_eq_true rfl) rfl d_X6_readTape_35 ?_
      rintro v35 w35 ⟨rfl, S35, T35, rfl, hT35, h35⟩
      rcases hr35 : parP B n 6 q28 with f35 | ⟨c35, q35⟩
      · rw [hr35] at h35
        replace h35 : RF f35 S35 := h35
        refine z_aload_n d_X6_readTape_38 0 rfl ?_
        refine z_get (v := .int (S35 2)) (1) f_X6_42_6 rfl rfl d_X6_readTape_39 ?_
        refine z_top h35.1 ?_
        refine z_if_eq d_X6_readTape_42 (fun c_42 => ?_) (fun c_42 => ?_)
        · exact absurd c_42 (by decide)
        refine z_aload_n d_X6_readTape_45 0 rfl ?_
        refine z_callV 1 c_X6_45 rfl rfl (t_refF G x N R K r S35 T35 tl f35 h35) rfl rfl (Nat.le_of_ble_eq_true rfl) rfl d_X6_readTape_46 ?_
        rintro v46 w46 ⟨rfl, S46, T46, rfl, hT46, h46⟩
        refine z_aload_n d_X6_readTape_49 0 rfl ?_
        refine z_iconst (v := 0) d_X6_readTape_50 (by decide) ?_
        refine z_put 1 (XW G x (upd N 0 0) R K r S46 T46 tl) p_X6_22_6 rfl rfl rfl (Nat.le_of_ble_eq_true rfl) (xf_1_0 G x N R K r S46 T46 tl _) d_X6_readTape_51 ?_
        refine z_aload_n d_X6_readTape_54 0 rfl ?_
        refine z_get (v := .int (S46 4)) (1) f_X6_32_6 rfl rfl d_X6_readTape_55 ?_
        exact z_iret _ d_X6_readTape_58 rfl ⟨_, _, rfl, RdP.bad (by rw [txP, hr22]; show (match parP B n 5 q22 with | .inl z => _ | .inr (c1, q1) => _) = _; rw [hr28]; show (match parP B n 6 q28 with | .inl z => _ | .inr (c2, q2) => _) = _; rw [hr35]) h46.2.1⟩
      · rw [hr35] at h35
        replace h35 : RS B n q35 ((c22 ++ c28) ++ c35) S35 (T35 0) := h35
        have hg35 := par_gd B n 6 (by decide) (by decide) _ hg28.2.1 c35 q35 hr35
        have ga35 := hg35.1
        have gb35 := hg35.2.1
        have gc35 := hg35.2.2.1
        refine z_aload_n d_X6_readTape_38 0 rfl ?_
        refine z_get (v := .int (S35 2)) (1) f_X6_42_6 rfl rfl d_X6_readTape_39 ?_
        refine z_top h35.1.2.1 ?_
        refine z_if_eq d_X6_readTape_42 (fun c_42 => ?_) (fun c_42 => ?_)
        · refine z_aload_n d_X6_readTape_49 0 rfl ?_
          refine z_iconst (v := 0) d_X6_readTape_50 (by decide) ?_
          refine z_put 1 (XW G x (upd N 0 0) R K r S35 T35 tl) p_X6_22_6 rfl rfl rfl (Nat.le_of_ble_eq_true rfl) (xf_1_0 G x N R K r S35 T35 tl _) d_X6_readTape_51 ?_
          refine z_aload_n d_X6_readTape_54 0 rfl ?_
          refine z_get (v := .int (S35 4)) (1) f_X6_32_6 rfl rfl d_X6_readTape_55 ?_
          exact z_iret _ d_X6_readTape_58 rfl ⟨_, _, rfl, RdP.ok (by rw [txP, hr22]; show (match parP B n 5 q22 with | .inl z => _ | .inr (c1, q1) => _) = _; rw [hr28]; show (match parP B n 6 q28 with | .inl z => _ | .inr (c2, q2) => _) = _; rw [hr35]; show (if tkL B n q35 = 0 then _ else _) = _; rw [if_pos c_42]) h35.1.2.2.2.2.1 (by have e := ends_ok hT22 hT28 hT35; exact ⟨h35.1.2.2.2.2.2, h35.2, e.1.trans h22.1.2.2.2.2.2, e.2.1.trans h28.1.2.2.2.2.2, e.2.2.trans h35.1.2.2.2.2.2, (by (try simp only [List.length_append, List.length_cons, List.length_nil]); omega), fun p hp => by rcases (show p = 0 ∨ p = 1 ∨ p = 2 by omega) with rfl | rfl | rfl; exact hg22.2.2.2.2; exact hg28.2.2.2.2; exact hg35.2.2.2.2⟩)⟩
        · refine z_aload_n d_X6_readTape_45 0 rfl ?_
          refine z_callV 1 c_X6_45 rfl rfl (t_refS G x N R K r S35 T35 tl B n hn h0 hB q35 ((c22 ++ c28) ++ c35) hg35.2.1 h35 (by (try simp only [List.length_append, List.length_cons, List.length_nil]); omega)) rfl rfl (Nat.le_of_ble_eq_true rfl) rfl d_X6_readTape_46 ?_
          rintro v46 w46 ⟨rfl, S46, T46, rfl, hT46, h46⟩
          refine z_aload_n d_X6_readTape_49 0 rfl ?_
          refine z_iconst (v := 0) d_X6_readTape_50 (by decide) ?_
          refine z_put 1 (XW G x (upd N 0 0) R K r S46 T46 tl) p_X6_22_6 rfl rfl rfl (Nat.le_of_ble_eq_true rfl) (xf_1_0 G x N R K r S46 T46 tl _) d_X6_readTape_51 ?_
          refine z_aload_n d_X6_readTape_54 0 rfl ?_
          refine z_get (v := .int (S46 4)) (1) f_X6_32_6 rfl rfl d_X6_readTape_55 ?_
          exact z_iret _ d_X6_readTape_58 rfl ⟨_, _, rfl, RdP.bad (by rw [txP, hr22]; show (match parP B n 5 q22 with | .inl z => _ | .inr (c1, q1) => _) = _; rw [hr28]; show (match parP B n 6 q28 with | .inl z => _ | .inr (c2, q2) => _) = _; rw [hr35]; show (if tkL B n q35 = 0 then _ else _) = _; rw [if_neg c_42]) h46.2.1⟩
