/-! THE READER over the world of the constructor -/
def YF0 (x : Nat → Nat) : List Value := [.ref (x 1), .ref (x 5), .int 0, .null, .null, .int 0, .ref (x 22)]
def YW (G : GT) (x : Nat → Nat) (N : Nat → Int32) (R : Nat → Nat → Int32) (K : Nat → Nat → Option Nat) (r : Nat → Nat) (S : Nat → Int32) (T : Nat → Nat → Int32) (tl : va_W) : va_W := (x 0, .inr (11, YF0 x)) :: (x 1, .inr (6, XF1 x N r S)) :: (x 2, .inl (G.2.1 1, 160, .inl (R 0))) :: (x 3, .inl (G.2.1 0, 160, .inl (T 0))) :: (x 4, .inl (G.2.1 0, 3, .inl (T 1))) :: tl
theorem yf_1_0 (G : GT) (x : Nat → Nat) (N : Nat → Int32) (R : Nat → Nat → Int32) (K : Nat → Nat → Option Nat) (r : Nat → Nat) (S : Nat → Int32) (T : Nat → Nat → Int32) (tl : va_W) (v : Int32) : (YW G x N R K r S T tl).set 1 (x 1, .inr (6, (XF1 x N r S).set 0 (.int v))) = YW G x (upd N 0 v) R K r S T tl := rfl
theorem yf_1_2 (G : GT) (x : Nat → Nat) (N : Nat → Int32) (R : Nat → Nat → Int32) (K : Nat → Nat → Option Nat) (r : Nat → Nat) (S : Nat → Int32) (T : Nat → Nat → Int32) (tl : va_W) (v : Int32) : (YW G x N R K r S T tl).set 1 (x 1, .inr (6, (XF1 x N r S).set 2 (.int v))) = YW G x N R K r (upd S 0 v) T tl := rfl
theorem yf_1_3 (G : GT) (x : Nat → Nat) (N : Nat → Int32) (R : Nat → Nat → Int32) (K : Nat → Nat → Option Nat) (r : Nat → Nat) (S : Nat → Int32) (T : Nat → Nat → Int32) (tl : va_W) (v : Int32) : (YW G x N R K r S T tl).set 1 (x 1, .inr (6, (XF1 x N r S).set 3 (.int v))) = YW G x N R K r (upd S 1 v) T tl := rfl
theorem yf_1_4 (G : GT) (x : Nat → Nat) (N : Nat → Int32) (R : Nat → Nat → Int32) (K : Nat → Nat → Option Nat) (r : Nat → Nat) (S : Nat → Int32) (T : Nat → Nat → Int32) (tl : va_W) (v : Int32) : (YW G x N R K r S T tl).set 1 (x 1, .inr (6, (XF1 x N r S).set 4 (.int v))) = YW G x N R K r (upd S 2 v) T tl := rfl
theorem yf_1_5 (G : GT) (x : Nat → Nat) (N : Nat → Int32) (R : Nat → Nat → Int32) (K : Nat → Nat → Option Nat) (r : Nat → Nat) (S : Nat → Int32) (T : Nat → Nat → Int32) (tl : va_W) (v : Int32) : (YW G x N R K r S T tl).set 1 (x 1, .inr (6, (XF1 x N r S).set 5 (.int v))) = YW G x N R K r (upd S 3 v) T tl := rfl
theorem yf_1_6 (G : GT) (x : Nat → Nat) (N : Nat → Int32) (R : Nat → Nat → Int32) (K : Nat → Nat → Option Nat) (r : Nat → Nat) (S : Nat → Int32) (T : Nat → Nat → Int32) (tl : va_W) (v : Int32) : (YW G x N R K r S T tl).set 1 (x 1, .inr (6, (XF1 x N r S).set 6 (.int v))) = YW G x N R K r (upd S 4 v) T tl := rfl
theorem yf_1_8 (G : GT) (x : Nat → Nat) (N : Nat → Int32) (R : Nat → Nat → Int32) (K : Nat → Nat → Option Nat) (r : Nat → Nat) (S : Nat → Int32) (T : Nat → Nat → Int32) (tl : va_W) (v : Int32) : (YW G x N R K r S T tl).set 1 (x 1, .inr (6, (XF1 x N r S).set 8 (.int v))) = YW G x N R K r (upd S 5 v) T tl := rfl
theorem ya_2 (G : GT) (x : Nat → Nat) (N : Nat → Int32) (R : Nat → Nat → Int32) (K : Nat → Nat → Option Nat) (r : Nat → Nat) (S : Nat → Int32) (T : Nat → Nat → Int32) (tl : va_W) (g : Nat → Int32) : (YW G x N R K r S T tl).set 2 (x 2, .inl (G.2.1 1, 160, .inl g)) = YW G x N (vf_upd R 0 g) K r S T tl := rfl
theorem ya_3 (G : GT) (x : Nat → Nat) (N : Nat → Int32) (R : Nat → Nat → Int32) (K : Nat → Nat → Option Nat) (r : Nat → Nat) (S : Nat → Int32) (T : Nat → Nat → Int32) (tl : va_W) (g : Nat → Int32) : (YW G x N R K r S T tl).set 3 (x 3, .inl (G.2.1 0, 160, .inl g)) = YW G x N R K r S (vf_upd T 0 g) tl := rfl
theorem ya_4 (G : GT) (x : Nat → Nat) (N : Nat → Int32) (R : Nat → Nat → Int32) (K : Nat → Nat → Option Nat) (r : Nat → Nat) (S : Nat → Int32) (T : Nat → Nat → Int32) (tl : va_W) (g : Nat → Int32) : (YW G x N R K r S T tl).set 4 (x 4, .inl (G.2.1 0, 3, .inl g)) = YW G x N R K r S (vf_upd T 1 g) tl := rfl
theorem yw_app (G : GT) (x : Nat → Nat) (N : Nat → Int32) (R : Nat → Nat → Int32) (K : Nat → Nat → Option Nat) (r : Nat → Nat) (S : Nat → Int32) (T : Nat → Nat → Int32) (tl : va_W) (u : va_W) : YW G x N R K r S T tl ++ u = YW G x N R K r S T (tl ++ u) := rfl
def y9_REx (G : GT) (x : Nat → Nat) (N : Nat → Int32) (R : Nat → Nat → Int32) (K : Nat → Nat → Option Nat) (r : Nat → Nat) (T : Nat → Nat → Int32) (tl : va_W) (F : (Nat → Int32) → Prop) : Option Value → va_W → Prop := fun v w => v = none ∧ ∃ S : Nat → Int32, w = YW G x N R K r S T tl ∧ F S
def y9_RT (G : GT) (x : Nat → Nat) (N : Nat → Int32) (R : Nat → Nat → Int32) (K : Nat → Nat → Option Nat) (r : Nat → Nat) (T1 : Nat → Int32) (tl : va_W) (F : (Nat → Int32) → (Nat → Int32) → Prop) : Option Value → va_W → Prop := fun v w => v = none ∧ ∃ (S : Nat → Int32) (T : Nat → Nat → Int32), w = YW G x N R K r S T tl ∧ T 1 = T1 ∧ F S (T 0)
/-! THE READER of class X: its tokens -/
set_option maxHeartbeats 4000000 in
set_option maxRecDepth 100000 in
theorem y9_t_X6_append (G : GT) (x : Nat → Nat) (N : Nat → Int32) (R : Nat → Nat → Int32) (K : Nat → Nat → Option Nat) (r : Nat → Nat) (S : Nat → Int32) (T : Nat → Nat → Int32) (tl : va_W) (k : Nat) (b : Int32) (hk : k < 160) (h0 : N 0 = nI k)  : Ct G mX6_append 0 0 0 [.ref (x 1), .int b] (YW G x N R K r S T tl) (Pv (YW G x (upd N 0 (nI (k + 1))) (vf_upd R 0 (upd (R 0) k (vp_nar .byte b))) K r S T tl)) := by
  refine Ct.intro [(0, .ref (x 1)), (1, .int b)] (by decide) rfl (Nat.le_of_ble_eq_true rfl) ?_
  refine z_aload_n d_X6_append_0 0 rfl ?_
  refine z_get (v := .int (N 0)) (1) f_X6_22_6 rfl rfl d_X6_append_1 ?_
  refine z_top h0 ?_
  refine z_sipush (v := 160) d_X6_append_4 (by decide) ?_
  refine z_icmp_ge d_X6_append_7 (fun c_7 => ?_) (fun c_7 => ?_)
  · exact absurd c_7 (by rw [show (160 : Int32) = nI 160 from rfl]; intro h; exact absurd (ge_nI (by omega) (by decide) h) (by omega))
  refine z_aload_n d_X6_append_10 0 rfl ?_
  refine z_get (v := .ref (x 2)) (1) f_X6_9_6 rfl rfl d_X6_append_11 ?_
  refine z_aload_n d_X6_append_14 0 rfl ?_
  refine z_get (v := .int (N 0)) (1) f_X6_22_6 rfl rfl d_X6_append_15 ?_
  refine z_top h0 ?_
  refine z_iload_n d_X6_append_18 1 rfl ?_
  refine z_bastN 2 k (YW G x N (vf_upd R 0 (upd (R 0) k (vp_nar .byte b))) K r S T tl) rfl (nI_toInt (by omega)) (by omega) (ya_2 G x N R K r S T tl _) d_X6_append_19 ?_
  refine z_aload_n d_X6_append_20 0 rfl ?_
  refine z_dup d_X6_append_21 rfl ?_
  refine z_get (v := .int (N 0)) (1) f_X6_22_6 rfl rfl d_X6_append_22 ?_
  refine z_top h0 ?_
  refine z_iconst (v := 1) d_X6_append_25 (by decide) ?_
  refine z_iadd d_X6_append_26 ?_
  refine z_put 1 (YW G x (upd N 0 ((nI k) + 1)) (vf_upd R 0 (upd (R 0) k (vp_nar .byte b))) K r S T tl) p_X6_22_6 rfl rfl rfl (Nat.le_of_ble_eq_true rfl) (yf_1_0 G x N (vf_upd R 0 (upd (R 0) k (vp_nar .byte b))) K r S T tl _) d_X6_append_27 ?_
  exact z_vret _ d_X6_append_30 rfl (Pv.of (by rw [nI_1]))
set_option maxHeartbeats 4000000 in
set_option maxRecDepth 100000 in
theorem y9_t_X6_appendF (G : GT) (x : Nat → Nat) (N : Nat → Int32) (R : Nat → Nat → Int32) (K : Nat → Nat → Option Nat) (r : Nat → Nat) (S : Nat → Int32) (T : Nat → Nat → Int32) (tl : va_W) (b : Int32) (h0 : N 0 = nI 160)  : Ct G mX6_append 0 0 0 [.ref (x 1), .int b] (YW G x N R K r S T tl) (Pv (YW G x N R K r S T tl)) := by
  refine Ct.intro [(0, .ref (x 1)), (1, .int b)] (by decide) rfl (Nat.le_of_ble_eq_true rfl) ?_
  refine z_aload_n d_X6_append_0 0 rfl ?_
  refine z_get (v := .int (N 0)) (1) f_X6_22_6 rfl rfl d_X6_append_1 ?_
  refine z_top (h0.trans rfl) ?_
  refine z_sipush (v := 160) d_X6_append_4 (by decide) ?_
  refine z_icmp_ge d_X6_append_7 (fun c_7 => ?_) (fun c_7 => ?_)
  rotate_left
  · exact absurd c_7 (by decide)
  exact z_vret _ d_X6_append_30 rfl (Pv.of rfl)
set_option maxHeartbeats 4000000 in
set_option maxRecDepth 100000 in
theorem y9_l_X6_spells (G : GT) (x : Nat → Nat) (N : Nat → Int32) (R : Nat → Nat → Int32) (K : Nat → Nat → Option Nat) (r : Nat → Nat) (S : Nat → Int32) (T : Nat → Nat → Int32) (tl : va_W) (B : Nat → Int32) (n : Nat) (hn : n ≤ 160) (h0 : N 0 = nI n) (hB : Tp B n (R 0)) (s e i : Nat) (hi : i < 14) (hs : s ≤ e) (he : e ≤ n) (e0 : S 0 = nI e) (e1 : S 1 = nI s) (hl : e - s = sLen.getD i 0) : ∀ (f : Nat) (j : Nat) (hj0 : j ≤ sLen.getD i 0) (hA : ∀ j2, j2 < j → B (s + j2) = chS i j2) (hm : sLen.getD i 0 < j + f), Tr G mX6_spells (Rm 4 0 0) (OM G (Pi (b01 (decide (wlS B s e = sByt.getD i []))) (YW G x N R K r S T tl)) 0 0) 0 0 20 [(2, .int (nI j)), (0, .ref (x 1)), (1, .ref (G.2.2.1 i))] [] (YW G x N R K r S T tl) := by
  intro f
  induction f with
  | zero =>
    intro j hj0 hA hm
    exact absurd hm (by omega)
  | succ f ih =>
    intro j hj0 hA hm
    refine z_iload_n d_X6_spells_20 0 rfl ?_
    refine z_aload_n d_X6_spells_21 2 rfl ?_
    refine z_callKp (i := i) hi c_X6_146 (t_J0_length_8abf5 G i hi (YW G x N R K r S T tl)) rfl rfl (Nat.le_of_ble_eq_true rfl) rfl d_X6_spells_22 ?_
    refine z_icmp_ge d_X6_spells_25 (fun c_25 => ?_) (fun c_25 => ?_)
    · refine z_iconst (v := 1) d_X6_spells_55 (by decide) ?_
      exact z_zret _ d_X6_spells_56 rfl (by first | rfl | decide) (Pi.of (b01_t (by rw [decide_eq_true_eq]; exact wl_eq hi hl (fun j2 h2 => hA j2 (by have hL := sL_small i hi; have := ge_nI (by omega) (by omega) c_25; omega)))))
    · have hL := sL_small i hi
      have hj : j < sLen.getD i 0 := lt_nI (by omega) (by omega) c_25
      refine z_aload_n d_X6_spells_28 1 rfl ?_
      refine z_get (v := .ref (x 2)) (1) f_X6_9_6 rfl rfl d_X6_spells_29 ?_
      refine z_aload_n d_X6_spells_32 1 rfl ?_
      refine z_get (v := .int (S 1)) (1) f_X6_71_6 rfl rfl d_X6_spells_33 ?_
      refine z_top e1 ?_
      refine z_iload_n d_X6_spells_36 0 rfl ?_
      refine z_iadd d_X6_spells_37 ?_
      refine z_baldN (2) (s + j) rfl (by rw [nI_add]; exact nI_i (by omega)) (by omega) d_X6_spells_38 ?_
      refine z_top (hB (s + j) (by omega)).1 ?_
      refine z_aload_n d_X6_spells_39 2 rfl ?_
      refine z_iload_n d_X6_spells_40 0 rfl ?_
      refine z_callKp (i := i) hi c_X6_150 (t_J0_charAt_5068e G i j hi hj (YW G x N R K r S T tl)) rfl rfl (Nat.le_of_ble_eq_true rfl) rfl d_X6_spells_41 ?_
      refine z_icmp_eq d_X6_spells_44 (fun c_44 => ?_) (fun c_44 => ?_)
      · refine z_iinc (nI (j + 1)) [(2, .int (nI (j + 1))), (0, .ref (x 1)), (1, .ref (G.2.2.1 i))] 0 d_X6_spells_49 rfl (nI_1 _) (by decide) rfl ?_
        refine z_goto d_X6_spells_52 ?_
        exact ih (j + 1) (by omega) (fun j2 h2 => by
          by_cases hh : j2 = j
          · rw [hh]; exact (sb_ch (hB (s + j) (by omega)).2 hi hj).mp c_44
          · exact hA j2 (by omega)) (by omega)
      · refine z_iconst (v := 0) d_X6_spells_47 (by decide) ?_
        exact z_zret _ d_X6_spells_48 rfl (by first | rfl | decide) (Pi.of (b01_f (by rw [decide_eq_true_eq]; exact wl_ne (by omega) (fun hh => c_44 ((sb_ch (hB (s + j) (by omega)).2 hi hj).mpr hh)))))
set_option maxHeartbeats 4000000 in
set_option maxRecDepth 100000 in
theorem y9_t_X6_spells (G : GT) (x : Nat → Nat) (N : Nat → Int32) (R : Nat → Nat → Int32) (K : Nat → Nat → Option Nat) (r : Nat → Nat) (S : Nat → Int32) (T : Nat → Nat → Int32) (tl : va_W) (B : Nat → Int32) (n : Nat) (hn : n ≤ 160) (h0 : N 0 = nI n) (hB : Tp B n (R 0)) (s e i : Nat) (hi : i < 14) (hs : s ≤ e) (he : e ≤ n) (e0 : S 0 = nI e) (e1 : S 1 = nI s)  : Ct G mX6_spells 4 0 0 [.ref (x 1), .ref (G.2.2.1 i)] (YW G x N R K r S T tl) (Pi (b01 (decide (wlS B s e = sByt.getD i []))) (YW G x N R K r S T tl)) := by
  refine Ct.intro [(0, .ref (x 1)), (1, .ref (G.2.2.1 i))] (by decide) rfl (Nat.le_of_ble_eq_true rfl) ?_
  refine z_aload_n d_X6_spells_0 0 rfl ?_
  refine z_get (v := .int (S 0)) (1) f_X6_26_6 rfl rfl d_X6_spells_1 ?_
  refine z_top e0 ?_
  refine z_aload_n d_X6_spells_4 0 rfl ?_
  refine z_get (v := .int (S 1)) (1) f_X6_71_6 rfl rfl d_X6_spells_5 ?_
  refine z_top e1 ?_
  refine z_isub d_X6_spells_8 ?_
  refine z_aload_n d_X6_spells_9 1 rfl ?_
  refine z_callKp (i := i) hi c_X6_146 (t_J0_length_8abf5 G i hi (YW G x N R K r S T tl)) rfl rfl (Nat.le_of_ble_eq_true rfl) rfl d_X6_spells_10 ?_
  refine z_icmp_eq d_X6_spells_13 (fun c_13 => ?_) (fun c_13 => ?_)
  · have hl : e - s = sLen.getD i 0 := by rw [nI_sub hs, nI_eq (by omega) (by have hL := sL_small i hi; omega)] at c_13; exact c_13
    refine z_iconst (v := 0) d_X6_spells_18 (by decide) ?_
    refine z_istore_n [(2, .int 0), (0, .ref (x 1)), (1, .ref (G.2.2.1 i))] d_X6_spells_19 (by decide) rfl ?_
    exact y9_l_X6_spells G x N R K r S T tl B n hn h0 hB s e i hi hs he e0 e1 hl (sLen.getD i 0 + 1) 0 (by omega) (fun j2 h2 => absurd h2 (by omega)) (by omega)
  · refine z_iconst (v := 0) d_X6_spells_16 (by decide) ?_
    exact z_zret _ d_X6_spells_17 rfl (by first | rfl | decide) (Pi.of (b01_f (by rw [decide_eq_true_eq]; exact wl_nl hi (fun hh => c_13 (by rw [nI_sub hs, hh])))))
set_option maxHeartbeats 4000000 in
set_option maxRecDepth 100000 in
theorem y9_t_X6_nameHere (G : GT) (x : Nat → Nat) (N : Nat → Int32) (R : Nat → Nat → Int32) (K : Nat → Nat → Option Nat) (r : Nat → Nat) (S : Nat → Int32) (T : Nat → Nat → Int32) (tl : va_W) (B : Nat → Int32) (n : Nat) (hn : n ≤ 160) (h0 : N 0 = nI n) (hB : Tp B n (R 0)) (s e : Nat) (hs : s ≤ e) (he : e ≤ n) (e0 : S 0 = nI e) (e1 : S 1 = nI s)  : Ct G mX6_nameHere 5 0 0 [.ref (x 1)] (YW G x N R K r S T tl) (Pi (nmT (wlS B s e)) (YW G x N R K r S T tl)) := by
  refine Ct.intro [(0, .ref (x 1))] (by decide) rfl (Nat.le_of_ble_eq_true rfl) ?_
  refine z_aload_n d_X6_nameHere_0 0 rfl ?_
  refine z_ldcs d_X6_nameHere_1 1 rfl ?_
  refine z_callVp 1 c_X6_120 (y9_t_X6_spells G x N R K r S T tl B n hn h0 hB s e 1 (by decide) hs he e0 e1) rfl rfl rfl rfl (Nat.le_of_ble_eq_true rfl) rfl d_X6_nameHere_3 ?_
  refine z_if_eq d_X6_nameHere_6 (fun c_6 => ?_) (fun c_6 => ?_)
  · refine z_aload_n d_X6_nameHere_11 0 rfl ?_
    refine z_ldcs d_X6_nameHere_12 2 rfl ?_
    refine z_callVp 1 c_X6_120 (y9_t_X6_spells G x N R K r S T tl B n hn h0 hB s e 2 (by decide) hs he e0 e1) rfl rfl rfl rfl (Nat.le_of_ble_eq_true rfl) rfl d_X6_nameHere_14 ?_
    refine z_if_eq d_X6_nameHere_17 (fun c_17 => ?_) (fun c_17 => ?_)
    · refine z_aload_n d_X6_nameHere_23 0 rfl ?_
      refine z_ldcs d_X6_nameHere_24 3 rfl ?_
      refine z_callVp 1 c_X6_120 (y9_t_X6_spells G x N R K r S T tl B n hn h0 hB s e 3 (by decide) hs he e0 e1) rfl rfl rfl rfl (Nat.le_of_ble_eq_true rfl) rfl d_X6_nameHere_26 ?_
      refine z_if_eq d_X6_nameHere_29 (fun c_29 => ?_) (fun c_29 => ?_)
      · refine z_aload_n d_X6_nameHere_35 0 rfl ?_
        refine z_ldcs d_X6_nameHere_36 4 rfl ?_
        refine z_callVp 1 c_X6_120 (y9_t_X6_spells G x N R K r S T tl B n hn h0 hB s e 4 (by decide) hs he e0 e1) rfl rfl rfl rfl (Nat.le_of_ble_eq_true rfl) rfl d_X6_nameHere_38 ?_
        refine z_if_eq d_X6_nameHere_41 (fun c_41 => ?_) (fun c_41 => ?_)
        · refine z_aload_n d_X6_nameHere_47 0 rfl ?_
          refine z_ldcs d_X6_nameHere_48 5 rfl ?_
          refine z_callVp 1 c_X6_120 (y9_t_X6_spells G x N R K r S T tl B n hn h0 hB s e 5 (by decide) hs he e0 e1) rfl rfl rfl rfl (Nat.le_of_ble_eq_true rfl) rfl d_X6_nameHere_50 ?_
          refine z_if_eq d_X6_nameHere_53 (fun c_53 => ?_) (fun c_53 => ?_)
          · refine z_aload_n d_X6_nameHere_59 0 rfl ?_
            refine z_ldcs d_X6_nameHere_60 6 rfl ?_
            refine z_callVp 1 c_X6_120 (y9_t_X6_spells G x N R K r S T tl B n hn h0 hB s e 6 (by decide) hs he e0 e1) rfl rfl rfl rfl (Nat.le_of_ble_eq_true rfl) rfl d_X6_nameHere_62 ?_
            refine z_if_eq d_X6_nameHere_65 (fun c_65 => ?_) (fun c_65 => ?_)
            · refine z_iconst (v := 0) d_X6_nameHere_73 (by decide) ?_
              exact z_iret _ d_X6_nameHere_74 rfl (Pi.of (by unfold nmT; rw [if_neg (show ¬ wlS B s e = [120] from dec_n c_6)]; rw [if_neg (show ¬ wlS B s e = [121] from dec_n c_17)]; rw [if_neg (show ¬ wlS B s e = [99, 114, 111, 115, 115] from dec_n c_29)]; rw [if_neg (show ¬ wlS B s e = [108, 111, 110, 103] from dec_n c_41)]; rw [if_neg (show ¬ wlS B s e = [97, 103, 101] from dec_n c_53)]; rw [if_neg (show ¬ wlS B s e = [115, 116, 114, 105, 112, 115] from dec_n c_65)]))
            · refine z_bipush (v := -6) d_X6_nameHere_68 (by decide) ?_
              refine z_goto d_X6_nameHere_70 ?_
              exact z_iret _ d_X6_nameHere_74 rfl (Pi.of (by unfold nmT; rw [if_neg (show ¬ wlS B s e = [120] from dec_n c_6)]; rw [if_neg (show ¬ wlS B s e = [121] from dec_n c_17)]; rw [if_neg (show ¬ wlS B s e = [99, 114, 111, 115, 115] from dec_n c_29)]; rw [if_neg (show ¬ wlS B s e = [108, 111, 110, 103] from dec_n c_41)]; rw [if_neg (show ¬ wlS B s e = [97, 103, 101] from dec_n c_53)]; rw [if_pos (show wlS B s e = [115, 116, 114, 105, 112, 115] from dec_y c_65)]))
          · refine z_bipush (v := -5) d_X6_nameHere_56 (by decide) ?_
            exact z_iret _ d_X6_nameHere_58 rfl (Pi.of (by unfold nmT; rw [if_neg (show ¬ wlS B s e = [120] from dec_n c_6)]; rw [if_neg (show ¬ wlS B s e = [121] from dec_n c_17)]; rw [if_neg (show ¬ wlS B s e = [99, 114, 111, 115, 115] from dec_n c_29)]; rw [if_neg (show ¬ wlS B s e = [108, 111, 110, 103] from dec_n c_41)]; rw [if_pos (show wlS B s e = [97, 103, 101] from dec_y c_53)]))
        · refine z_bipush (v := -4) d_X6_nameHere_44 (by decide) ?_
          exact z_iret _ d_X6_nameHere_46 rfl (Pi.of (by unfold nmT; rw [if_neg (show ¬ wlS B s e = [120] from dec_n c_6)]; rw [if_neg (show ¬ wlS B s e = [121] from dec_n c_17)]; rw [if_neg (show ¬ wlS B s e = [99, 114, 111, 115, 115] from dec_n c_29)]; rw [if_pos (show wlS B s e = [108, 111, 110, 103] from dec_y c_41)]))
      · refine z_bipush (v := -3) d_X6_nameHere_32 (by decide) ?_
        exact z_iret _ d_X6_nameHere_34 rfl (Pi.of (by unfold nmT; rw [if_neg (show ¬ wlS B s e = [120] from dec_n c_6)]; rw [if_neg (show ¬ wlS B s e = [121] from dec_n c_17)]; rw [if_pos (show wlS B s e = [99, 114, 111, 115, 115] from dec_y c_29)]))
    · refine z_bipush (v := -2) d_X6_nameHere_20 (by decide) ?_
      exact z_iret _ d_X6_nameHere_22 rfl (Pi.of (by unfold nmT; rw [if_neg (show ¬ wlS B s e = [120] from dec_n c_6)]; rw [if_pos (show wlS B s e = [121] from dec_y c_17)]))
  · refine z_iconst (v := -1) d_X6_nameHere_9 (by decide) ?_
    exact z_iret _ d_X6_nameHere_10 rfl (Pi.of (by unfold nmT; rw [if_pos (show wlS B s e = [120] from dec_y c_6)]))
set_option maxHeartbeats 4000000 in
set_option maxRecDepth 100000 in
theorem y9_t_X6_keyHere (G : GT) (x : Nat → Nat) (N : Nat → Int32) (R : Nat → Nat → Int32) (K : Nat → Nat → Option Nat) (r : Nat → Nat) (S : Nat → Int32) (T : Nat → Nat → Int32) (tl : va_W) (B : Nat → Int32) (n : Nat) (hn : n ≤ 160) (h0 : N 0 = nI n) (hB : Tp B n (R 0)) (s e : Nat) (hs : s ≤ e) (he : e ≤ n) (e0 : S 0 = nI e) (e1 : S 1 = nI s)  : Ct G mX6_keyHere 5 0 0 [.ref (x 1)] (YW G x N R K r S T tl) (Pi (keT (wlS B s e)) (YW G x N R K r S T tl)) := by
  refine Ct.intro [(0, .ref (x 1))] (by decide) rfl (Nat.le_of_ble_eq_true rfl) ?_
  refine z_aload_n d_X6_keyHere_0 0 rfl ?_
  refine z_ldcs d_X6_keyHere_1 7 rfl ?_
  refine z_callVp 1 c_X6_120 (y9_t_X6_spells G x N R K r S T tl B n hn h0 hB s e 7 (by decide) hs he e0 e1) rfl rfl rfl rfl (Nat.le_of_ble_eq_true rfl) rfl d_X6_keyHere_3 ?_
  refine z_if_eq d_X6_keyHere_6 (fun c_6 => ?_) (fun c_6 => ?_)
  · refine z_aload_n d_X6_keyHere_11 0 rfl ?_
    refine z_ldcs d_X6_keyHere_12 8 rfl ?_
    refine z_callVp 1 c_X6_120 (y9_t_X6_spells G x N R K r S T tl B n hn h0 hB s e 8 (by decide) hs he e0 e1) rfl rfl rfl rfl (Nat.le_of_ble_eq_true rfl) rfl d_X6_keyHere_14 ?_
    refine z_if_eq d_X6_keyHere_17 (fun c_17 => ?_) (fun c_17 => ?_)
    · refine z_aload_n d_X6_keyHere_22 0 rfl ?_
      refine z_ldcs d_X6_keyHere_23 9 rfl ?_
      refine z_callVp 1 c_X6_120 (y9_t_X6_spells G x N R K r S T tl B n hn h0 hB s e 9 (by decide) hs he e0 e1) rfl rfl rfl rfl (Nat.le_of_ble_eq_true rfl) rfl d_X6_keyHere_25 ?_
      refine z_if_eq d_X6_keyHere_28 (fun c_28 => ?_) (fun c_28 => ?_)
      · refine z_aload_n d_X6_keyHere_34 0 rfl ?_
        refine z_ldcs d_X6_keyHere_35 10 rfl ?_
        refine z_callVp 1 c_X6_120 (y9_t_X6_spells G x N R K r S T tl B n hn h0 hB s e 10 (by decide) hs he e0 e1) rfl rfl rfl rfl (Nat.le_of_ble_eq_true rfl) rfl d_X6_keyHere_37 ?_
        refine z_if_eq d_X6_keyHere_40 (fun c_40 => ?_) (fun c_40 => ?_)
        · refine z_aload_n d_X6_keyHere_46 0 rfl ?_
          refine z_ldcs d_X6_keyHere_47 11 rfl ?_
          refine z_callVp 1 c_X6_120 (y9_t_X6_spells G x N R K r S T tl B n hn h0 hB s e 11 (by decide) hs he e0 e1) rfl rfl rfl rfl (Nat.le_of_ble_eq_true rfl) rfl d_X6_keyHere_49 ?_
          refine z_if_eq d_X6_keyHere_52 (fun c_52 => ?_) (fun c_52 => ?_)
          · refine z_aload_n d_X6_keyHere_58 0 rfl ?_
            refine z_ldcs d_X6_keyHere_59 12 rfl ?_
            refine z_callVp 1 c_X6_120 (y9_t_X6_spells G x N R K r S T tl B n hn h0 hB s e 12 (by decide) hs he e0 e1) rfl rfl rfl rfl (Nat.le_of_ble_eq_true rfl) rfl d_X6_keyHere_61 ?_
            refine z_if_eq d_X6_keyHere_64 (fun c_64 => ?_) (fun c_64 => ?_)
            · refine z_iconst (v := 1) d_X6_keyHere_72 (by decide) ?_
              exact z_iret _ d_X6_keyHere_73 rfl (Pi.of (by unfold keT; rw [if_neg (show ¬ wlS B s e = [114, 117, 98] from dec_n c_6)]; rw [if_neg (show ¬ wlS B s e = [110, 101, 120, 116] from dec_n c_17)]; rw [if_neg (show ¬ wlS B s e = [116, 97, 107, 101] from dec_n c_28)]; rw [if_neg (show ¬ wlS B s e = [111, 114] from dec_n c_40)]; rw [if_neg (show ¬ wlS B s e = [97, 110, 100] from dec_n c_52)]; rw [if_neg (show ¬ wlS B s e = [110, 111, 116] from dec_n c_64)]))
            · refine z_bipush (v := 9) d_X6_keyHere_67 (by decide) ?_
              refine z_goto d_X6_keyHere_69 ?_
              exact z_iret _ d_X6_keyHere_73 rfl (Pi.of (by unfold keT; rw [if_neg (show ¬ wlS B s e = [114, 117, 98] from dec_n c_6)]; rw [if_neg (show ¬ wlS B s e = [110, 101, 120, 116] from dec_n c_17)]; rw [if_neg (show ¬ wlS B s e = [116, 97, 107, 101] from dec_n c_28)]; rw [if_neg (show ¬ wlS B s e = [111, 114] from dec_n c_40)]; rw [if_neg (show ¬ wlS B s e = [97, 110, 100] from dec_n c_52)]; rw [if_pos (show wlS B s e = [110, 111, 116] from dec_y c_64)]))
          · refine z_bipush (v := 8) d_X6_keyHere_55 (by decide) ?_
            exact z_iret _ d_X6_keyHere_57 rfl (Pi.of (by unfold keT; rw [if_neg (show ¬ wlS B s e = [114, 117, 98] from dec_n c_6)]; rw [if_neg (show ¬ wlS B s e = [110, 101, 120, 116] from dec_n c_17)]; rw [if_neg (show ¬ wlS B s e = [116, 97, 107, 101] from dec_n c_28)]; rw [if_neg (show ¬ wlS B s e = [111, 114] from dec_n c_40)]; rw [if_pos (show wlS B s e = [97, 110, 100] from dec_y c_52)]))
        · refine z_bipush (v := 7) d_X6_keyHere_43 (by decide) ?_
          exact z_iret _ d_X6_keyHere_45 rfl (Pi.of (by unfold keT; rw [if_neg (show ¬ wlS B s e = [114, 117, 98] from dec_n c_6)]; rw [if_neg (show ¬ wlS B s e = [110, 101, 120, 116] from dec_n c_17)]; rw [if_neg (show ¬ wlS B s e = [116, 97, 107, 101] from dec_n c_28)]; rw [if_pos (show wlS B s e = [111, 114] from dec_y c_40)]))
      · refine z_bipush (v := 6) d_X6_keyHere_31 (by decide) ?_
        exact z_iret _ d_X6_keyHere_33 rfl (Pi.of (by unfold keT; rw [if_neg (show ¬ wlS B s e = [114, 117, 98] from dec_n c_6)]; rw [if_neg (show ¬ wlS B s e = [110, 101, 120, 116] from dec_n c_17)]; rw [if_pos (show wlS B s e = [116, 97, 107, 101] from dec_y c_28)]))
    · refine z_iconst (v := 5) d_X6_keyHere_20 (by decide) ?_
      exact z_iret _ d_X6_keyHere_21 rfl (Pi.of (by unfold keT; rw [if_neg (show ¬ wlS B s e = [114, 117, 98] from dec_n c_6)]; rw [if_pos (show wlS B s e = [110, 101, 120, 116] from dec_y c_17)]))
  · refine z_iconst (v := 4) d_X6_keyHere_9 (by decide) ?_
    exact z_iret _ d_X6_keyHere_10 rfl (Pi.of (by unfold keT; rw [if_pos (show wlS B s e = [114, 117, 98] from dec_y c_6)]))
set_option maxHeartbeats 4000000 in
set_option maxRecDepth 100000 in
theorem y9_l_X6_word (G : GT) (x : Nat → Nat) (N : Nat → Int32) (R : Nat → Nat → Int32) (K : Nat → Nat → Option Nat) (r : Nat → Nat) (T : Nat → Nat → Int32) (tl : va_W) (B : Nat → Int32) (n : Nat) (hn : n ≤ 160) (h0 : N 0 = nI n) (hB : Tp B n (R 0)) (s : Nat) (z4 z5 : Int32) : ∀ (f : Nat) (q : Nat) (S : Nat → Int32) (hq : q ≤ n) (hs : s ≤ q) (e0 : S 0 = nI q) (e1 : S 1 = nI s) (e4 : S 4 = z4) (e5 : S 5 = z5) (he : enS isLt B n q = enS isLt B n s) (hm : n < q + f), Tr G mX6_word (Rm 6 0 0) (OM G (y9_REx G x N R K r T tl (fun S => S 0 = nI (enS isLt B n s) ∧ S 1 = nI s ∧ S 2 = (wdT (wlS B s (enS isLt B n s))).1 ∧ S 3 = (wdT (wlS B s (enS isLt B n s))).2 ∧ S 4 = z4 ∧ S 5 = z5)) 0 0) 0 0 0 [(0, .ref (x 1))] [] (YW G x N R K r S T tl) := by
  intro f
  induction f with
  | zero =>
    intro q S hq hs e0 e1 e4 e5 he hm
    exact absurd hm (by omega)
  | succ f ih =>
    intro q S hq hs e0 e1 e4 e5 he hm
    refine z_aload_n d_X6_word_0 0 rfl ?_
    refine z_get (v := .int (S 0)) (1) f_X6_26_6 rfl rfl d_X6_word_1 ?_
    refine z_top e0 ?_
    refine z_aload_n d_X6_word_4 0 rfl ?_
    refine z_get (v := .int (N 0)) (1) f_X6_22_6 rfl rfl d_X6_word_5 ?_
    refine z_top h0 ?_
    refine z_icmp_ge d_X6_word_8 (fun c_8 => ?_) (fun c_8 => ?_)
    · have hx : enS isLt B n s = q := by rw [← he]; exact en_stop (fun hh => c_8 ((nI_ltI (by omega) (by omega)).mpr (by omega)))
      refine z_aload_n d_X6_word_39 0 rfl ?_
      refine z_aload_n d_X6_word_40 0 rfl ?_
      refine z_callVp 1 c_X6_111 (y9_t_X6_nameHere G x N R K r S T tl B n hn h0 hB s q hs hq e0 e1) rfl rfl rfl rfl (Nat.le_of_ble_eq_true rfl) rfl d_X6_word_41 ?_
      refine z_put 1 (YW G x N R K r (upd S 3 (nmT (wlS B s q))) T tl) p_X6_92_6 rfl rfl rfl (Nat.le_of_ble_eq_true rfl) (yf_1_5 G x N R K r S T tl _) d_X6_word_44 ?_
      refine z_aload_n d_X6_word_47 0 rfl ?_
      refine z_aload_n d_X6_word_48 0 rfl ?_
      refine z_get (v := .int (nmT (wlS B s q))) (1) f_X6_92_6 rfl rfl d_X6_word_49 ?_
      refine z_if_ge d_X6_word_52 (fun c_52 => ?_) (fun c_52 => ?_)
      · refine z_aload_n d_X6_word_59 0 rfl ?_
        refine z_callVp 1 c_X6_115 (y9_t_X6_keyHere G x N R K r (upd S 3 (nmT (wlS B s q))) T tl B n hn h0 hB s q hs hq e0 e1) rfl rfl rfl rfl (Nat.le_of_ble_eq_true rfl) rfl d_X6_word_60 ?_
        refine z_put 1 (YW G x N R K r (upd (upd S 3 (nmT (wlS B s q))) 2 (keT (wlS B s q))) T tl) p_X6_42_6 rfl rfl rfl (Nat.le_of_ble_eq_true rfl) (yf_1_4 G x N R K r (upd S 3 (nmT (wlS B s q))) T tl _) d_X6_word_63 ?_
        exact z_vret _ d_X6_word_66 rfl ⟨rfl, _, rfl, e0.trans (by rw [hx]), e1, (by have h9 := wdT_nk (wlS B s q); rw [if_neg (show ¬ nmT (wlS B s q) < 0 from by exact c_52)] at h9; rw [hx]; exact h9.2), (by have h9 := wdT_nk (wlS B s q); rw [if_neg (show ¬ nmT (wlS B s q) < 0 from by exact c_52)] at h9; rw [hx]; exact h9.1), e4, e5⟩
      · refine z_iconst (v := 3) d_X6_word_55 (by decide) ?_
        refine z_goto d_X6_word_56 ?_
        refine z_put 1 (YW G x N R K r (upd (upd S 3 (nmT (wlS B s q))) 2 3) T tl) p_X6_42_6 rfl rfl rfl (Nat.le_of_ble_eq_true rfl) (yf_1_4 G x N R K r (upd S 3 (nmT (wlS B s q))) T tl _) d_X6_word_63 ?_
        exact z_vret _ d_X6_word_66 rfl ⟨rfl, _, rfl, e0.trans (by rw [hx]), e1, (by have h9 := wdT_nk (wlS B s q); rw [if_pos (show nmT (wlS B s q) < 0 from by exact c_52)] at h9; rw [hx]; exact h9.2), (by have h9 := wdT_nk (wlS B s q); rw [if_pos (show nmT (wlS B s q) < 0 from by exact c_52)] at h9; rw [hx]; exact h9.1), e4, e5⟩
    · have hq2 : q < n := lt_nI (by omega) (by omega) c_8
      refine z_aload_n d_X6_word_11 0 rfl ?_
      refine z_get (v := .ref (x 2)) (1) f_X6_9_6 rfl rfl d_X6_word_12 ?_
      refine z_aload_n d_X6_word_15 0 rfl ?_
      refine z_get (v := .int (S 0)) (1) f_X6_26_6 rfl rfl d_X6_word_16 ?_
      refine z_top e0 ?_
      refine z_baldN (2) q rfl (nI_toInt (by omega)) (by omega) d_X6_word_19 ?_
      refine z_callSp c_X6_95 (t_X6_isLetter G ((R 0) q) (YW G x N R K r S T tl)) rfl rfl (Nat.le_of_ble_eq_true rfl) rfl d_X6_word_20 ?_
      refine z_if_eq d_X6_word_23 (fun c_23 => ?_) (fun c_23 => ?_)
      · have hx : enS isLt B n s = q := by rw [← he]; exact en_stop (fun hh => by rw [(hB q hh.1).1, sb_lt (hB q hh.1).2, hh.2] at c_23; exact absurd c_23 (by decide))
        refine z_aload_n d_X6_word_39 0 rfl ?_
        refine z_aload_n d_X6_word_40 0 rfl ?_
        refine z_callVp 1 c_X6_111 (y9_t_X6_nameHere G x N R K r S T tl B n hn h0 hB s q hs hq e0 e1) rfl rfl rfl rfl (Nat.le_of_ble_eq_true rfl) rfl d_X6_word_41 ?_
        refine z_put 1 (YW G x N R K r (upd S 3 (nmT (wlS B s q))) T tl) p_X6_92_6 rfl rfl rfl (Nat.le_of_ble_eq_true rfl) (yf_1_5 G x N R K r S T tl _) d_X6_word_44 ?_
        refine z_aload_n d_X6_word_47 0 rfl ?_
        refine z_aload_n d_X6_word_48 0 rfl ?_
        refine z_get (v := .int (nmT (wlS B s q))) (1) f_X6_92_6 rfl rfl d_X6_word_49 ?_
        refine z_if_ge d_X6_word_52 (fun c_52 => ?_) (fun c_52 => ?_)
        · refine z_aload_n d_X6_word_59 0 rfl ?_
          refine z_callVp 1 c_X6_115 (y9_t_X6_keyHere G x N R K r (upd S 3 (nmT (wlS B s q))) T tl B n hn h0 hB s q hs hq e0 e1) rfl rfl rfl rfl (Nat.le_of_ble_eq_true rfl) rfl d_X6_word_60 ?_
          refine z_put 1 (YW G x N R K r (upd (upd S 3 (nmT (wlS B s q))) 2 (keT (wlS B s q))) T tl) p_X6_42_6 rfl rfl rfl (Nat.le_of_ble_eq_true rfl) (yf_1_4 G x N R K r (upd S 3 (nmT (wlS B s q))) T tl _) d_X6_word_63 ?_
          exact z_vret _ d_X6_word_66 rfl ⟨rfl, _, rfl, e0.trans (by rw [hx]), e1, (by have h9 := wdT_nk (wlS B s q); rw [if_neg (show ¬ nmT (wlS B s q) < 0 from by exact c_52)] at h9; rw [hx]; exact h9.2), (by have h9 := wdT_nk (wlS B s q); rw [if_neg (show ¬ nmT (wlS B s q) < 0 from by exact c_52)] at h9; rw [hx]; exact h9.1), e4, e5⟩
        · refine z_iconst (v := 3) d_X6_word_55 (by decide) ?_
          refine z_goto d_X6_word_56 ?_
          refine z_put 1 (YW G x N R K r (upd (upd S 3 (nmT (wlS B s q))) 2 3) T tl) p_X6_42_6 rfl rfl rfl (Nat.le_of_ble_eq_true rfl) (yf_1_4 G x N R K r (upd S 3 (nmT (wlS B s q))) T tl _) d_X6_word_63 ?_
          exact z_vret _ d_X6_word_66 rfl ⟨rfl, _, rfl, e0.trans (by rw [hx]), e1, (by have h9 := wdT_nk (wlS B s q); rw [if_pos (show nmT (wlS B s q) < 0 from by exact c_52)] at h9; rw [hx]; exact h9.2), (by have h9 := wdT_nk (wlS B s q); rw [if_pos (show nmT (wlS B s q) < 0 from by exact c_52)] at h9; rw [hx]; exact h9.1), e4, e5⟩
      · refine z_aload_n d_X6_word_26 0 rfl ?_
        refine z_dup d_X6_word_27 rfl ?_
        refine z_get (v := .int (S 0)) (1) f_X6_26_6 rfl rfl d_X6_word_28 ?_
        refine z_top e0 ?_
        refine z_iconst (v := 1) d_X6_word_31 (by decide) ?_
        refine z_iadd d_X6_word_32 ?_
        refine z_put 1 (YW G x N R K r (upd S 0 ((nI q) + 1)) T tl) p_X6_26_6 rfl rfl rfl (Nat.le_of_ble_eq_true rfl) (yf_1_2 G x N R K r S T tl _) d_X6_word_33 ?_
        refine z_goto d_X6_word_36 ?_
        exact ih (q + 1) _ (by omega) (by omega) (nI_1 q) e1 e4 e5 ((en_go ⟨hq2, by rw [(hB q hq2).1, sb_lt (hB q hq2).2] at c_23; exact b01_o c_23⟩).trans he) (by omega)
theorem y9_t_X6_word (G : GT) (x : Nat → Nat) (N : Nat → Int32) (R : Nat → Nat → Int32) (K : Nat → Nat → Option Nat) (r : Nat → Nat) (T : Nat → Nat → Int32) (tl : va_W) (B : Nat → Int32) (n : Nat) (hn : n ≤ 160) (h0 : N 0 = nI n) (hB : Tp B n (R 0)) (s : Nat) (z4 z5 : Int32) (q : Nat) (S : Nat → Int32) (hq : q ≤ n) (hs : s ≤ q) (e0 : S 0 = nI q) (e1 : S 1 = nI s) (e4 : S 4 = z4) (e5 : S 5 = z5) (he : enS isLt B n q = enS isLt B n s) : Ct G mX6_word 6 0 0 [.ref (x 1)] (YW G x N R K r S T tl) (y9_REx G x N R K r T tl (fun S => S 0 = nI (enS isLt B n s) ∧ S 1 = nI s ∧ S 2 = (wdT (wlS B s (enS isLt B n s))).1 ∧ S 3 = (wdT (wlS B s (enS isLt B n s))).2 ∧ S 4 = z4 ∧ S 5 = z5)) := by
  refine Ct.intro [(0, .ref (x 1))] (by decide) rfl (Nat.le_of_ble_eq_true rfl) ?_
  exact y9_l_X6_word G x N R K r T tl B n hn h0 hB s z4 z5 (n + 1) q S hq hs e0 e1 e4 e5 he (by omega)
set_option maxHeartbeats 4000000 in
set_option maxRecDepth 100000 in
theorem y9_l_X6_digits (G : GT) (x : Nat → Nat) (N : Nat → Int32) (R : Nat → Nat → Int32) (K : Nat → Nat → Option Nat) (r : Nat → Nat) (T : Nat → Nat → Int32) (tl : va_W) (B : Nat → Int32) (n : Nat) (hn : n ≤ 160) (h0 : N 0 = nI n) (hB : Tp B n (R 0)) (s : Nat) (z4 z5 : Int32) : ∀ (f : Nat) (q : Nat) (S : Nat → Int32) (hq : q ≤ n) (hs : s ≤ q) (e0 : S 0 = nI q) (e1 : S 1 = nI s) (e4 : S 4 = z4) (e5 : S 5 = z5) (he : enS isDg B n q = enS isDg B n s) (e3 : S 3 = nI (nvS B s (q - s))) (hm : n < q + f), Tr G mX6_digits (Rm 1 0 0) (OM G (y9_REx G x N R K r T tl (fun S => S 0 = nI (enS isDg B n s) ∧ S 1 = nI s ∧ S 2 = (if 4 < enS isDg B n s - s then 1 else 2) ∧ S 3 = nI (nvS B s (enS isDg B n s - s)) ∧ S 4 = z4 ∧ S 5 = z5)) 0 0) 0 0 5 [(0, .ref (x 1))] [] (YW G x N R K r S T tl) := by
  intro f
  induction f with
  | zero =>
    intro q S hq hs e0 e1 e4 e5 he e3 hm
    exact absurd hm (by omega)
  | succ f ih =>
    intro q S hq hs e0 e1 e4 e5 he e3 hm
    refine z_aload_n d_X6_digits_5 0 rfl ?_
    refine z_get (v := .int (S 0)) (1) f_X6_26_6 rfl rfl d_X6_digits_6 ?_
    refine z_top e0 ?_
    refine z_aload_n d_X6_digits_9 0 rfl ?_
    refine z_get (v := .int (N 0)) (1) f_X6_22_6 rfl rfl d_X6_digits_10 ?_
    refine z_top h0 ?_
    refine z_icmp_ge d_X6_digits_13 (fun c_13 => ?_) (fun c_13 => ?_)
    · have hx : enS isDg B n s = q := by rw [← he]; exact en_stop (fun hh => c_13 ((nI_ltI (by omega) (by omega)).mpr (by omega)))
      refine z_aload_n d_X6_digits_68 0 rfl ?_
      refine z_aload_n d_X6_digits_69 0 rfl ?_
      refine z_get (v := .int (S 0)) (1) f_X6_26_6 rfl rfl d_X6_digits_70 ?_
      refine z_top e0 ?_
      refine z_aload_n d_X6_digits_73 0 rfl ?_
      refine z_get (v := .int (S 1)) (1) f_X6_71_6 rfl rfl d_X6_digits_74 ?_
      refine z_top e1 ?_
      refine z_isub d_X6_digits_77 ?_
      refine z_iconst (v := 4) d_X6_digits_78 (by decide) ?_
      refine z_icmp_le d_X6_digits_79 (fun c_79 => ?_) (fun c_79 => ?_)
      · refine z_iconst (v := 2) d_X6_digits_86 (by decide) ?_
        refine z_put 1 (YW G x N R K r (upd S 2 2) T tl) p_X6_42_6 rfl rfl rfl (Nat.le_of_ble_eq_true rfl) (yf_1_4 G x N R K r S T tl _) d_X6_digits_87 ?_
        exact z_vret _ d_X6_digits_90 rfl ⟨rfl, _, rfl, e0.trans (by rw [hx]), e1, (by rw [hx, if_neg (by rw [nI_sub hs, show (4 : Int32) = nI 4 from rfl] at c_79; have := ge_nI (by omega) (by omega) c_79; omega)]; rfl), e3.trans (by rw [hx]), e4, e5⟩
      · refine z_iconst (v := 1) d_X6_digits_82 (by decide) ?_
        refine z_goto d_X6_digits_83 ?_
        refine z_put 1 (YW G x N R K r (upd S 2 1) T tl) p_X6_42_6 rfl rfl rfl (Nat.le_of_ble_eq_true rfl) (yf_1_4 G x N R K r S T tl _) d_X6_digits_87 ?_
        exact z_vret _ d_X6_digits_90 rfl ⟨rfl, _, rfl, e0.trans (by rw [hx]), e1, (by rw [hx, if_pos (by rw [nI_sub hs, show (4 : Int32) = nI 4 from rfl] at c_79; exact lt_nI (by omega) (by omega) c_79)]; rfl), e3.trans (by rw [hx]), e4, e5⟩
    · have hq2 : q < n := lt_nI (by omega) (by omega) c_13
      refine z_aload_n d_X6_digits_16 0 rfl ?_
      refine z_get (v := .ref (x 2)) (1) f_X6_9_6 rfl rfl d_X6_digits_17 ?_
      refine z_aload_n d_X6_digits_20 0 rfl ?_
      refine z_get (v := .int (S 0)) (1) f_X6_26_6 rfl rfl d_X6_digits_21 ?_
      refine z_top e0 ?_
      refine z_baldN (2) q rfl (nI_toInt (by omega)) (by omega) d_X6_digits_24 ?_
      refine z_callSp c_X6_102 (t_X6_isDigit G ((R 0) q) (YW G x N R K r S T tl)) rfl rfl (Nat.le_of_ble_eq_true rfl) rfl d_X6_digits_25 ?_
      refine z_if_eq d_X6_digits_28 (fun c_28 => ?_) (fun c_28 => ?_)
      · have hx : enS isDg B n s = q := by rw [← he]; exact en_stop (fun hh => by rw [(hB q hh.1).1, by_dg (hB q hh.1).2, hh.2] at c_28; exact absurd c_28 (by decide))
        refine z_aload_n d_X6_digits_68 0 rfl ?_
        refine z_aload_n d_X6_digits_69 0 rfl ?_
        refine z_get (v := .int (S 0)) (1) f_X6_26_6 rfl rfl d_X6_digits_70 ?_
        refine z_top e0 ?_
        refine z_aload_n d_X6_digits_73 0 rfl ?_
        refine z_get (v := .int (S 1)) (1) f_X6_71_6 rfl rfl d_X6_digits_74 ?_
        refine z_top e1 ?_
        refine z_isub d_X6_digits_77 ?_
        refine z_iconst (v := 4) d_X6_digits_78 (by decide) ?_
        refine z_icmp_le d_X6_digits_79 (fun c_79 => ?_) (fun c_79 => ?_)
        · refine z_iconst (v := 2) d_X6_digits_86 (by decide) ?_
          refine z_put 1 (YW G x N R K r (upd S 2 2) T tl) p_X6_42_6 rfl rfl rfl (Nat.le_of_ble_eq_true rfl) (yf_1_4 G x N R K r S T tl _) d_X6_digits_87 ?_
          exact z_vret _ d_X6_digits_90 rfl ⟨rfl, _, rfl, e0.trans (by rw [hx]), e1, (by rw [hx, if_neg (by rw [nI_sub hs, show (4 : Int32) = nI 4 from rfl] at c_79; have := ge_nI (by omega) (by omega) c_79; omega)]; rfl), e3.trans (by rw [hx]), e4, e5⟩
        · refine z_iconst (v := 1) d_X6_digits_82 (by decide) ?_
          refine z_goto d_X6_digits_83 ?_
          refine z_put 1 (YW G x N R K r (upd S 2 1) T tl) p_X6_42_6 rfl rfl rfl (Nat.le_of_ble_eq_true rfl) (yf_1_4 G x N R K r S T tl _) d_X6_digits_87 ?_
          exact z_vret _ d_X6_digits_90 rfl ⟨rfl, _, rfl, e0.trans (by rw [hx]), e1, (by rw [hx, if_pos (by rw [nI_sub hs, show (4 : Int32) = nI 4 from rfl] at c_79; exact lt_nI (by omega) (by omega) c_79)]; rfl), e3.trans (by rw [hx]), e4, e5⟩
      · have hd2 : isDg (B q) = true := by rw [(hB q hq2).1, by_dg (hB q hq2).2] at c_28; exact b01_o c_28
        have hv2 : 10 * nI (nvS B s (q - s)) + R 0 q - 48 = nI (nvS B s (q + 1 - s)) := by rw [nv_i hd2 ((hB q hq2).1.trans (by_dg2 (hB q hq2).2 hd2)), show q + 1 - s = (q - s) + 1 by omega]; show _ = nI (10 * nvS B s (q - s) + ((B (s + (q - s))).toInt - 48).toNat); rw [show s + (q - s) = q by omega]
        refine z_aload_n d_X6_digits_31 0 rfl ?_
        refine z_bipush (v := 10) d_X6_digits_32 (by decide) ?_
        refine z_aload_n d_X6_digits_34 0 rfl ?_
        refine z_get (v := .int (S 3)) (1) f_X6_92_6 rfl rfl d_X6_digits_35 ?_
        refine z_top e3 ?_
        refine z_imul d_X6_digits_38 ?_
        refine z_aload_n d_X6_digits_39 0 rfl ?_
        refine z_get (v := .ref (x 2)) (1) f_X6_9_6 rfl rfl d_X6_digits_40 ?_
        refine z_aload_n d_X6_digits_43 0 rfl ?_
        refine z_get (v := .int (S 0)) (1) f_X6_26_6 rfl rfl d_X6_digits_44 ?_
        refine z_top e0 ?_
        refine z_baldN (2) q rfl (nI_toInt (by omega)) (by omega) d_X6_digits_47 ?_
        refine z_iadd d_X6_digits_48 ?_
        refine z_bipush (v := 48) d_X6_digits_49 (by decide) ?_
        refine z_isub d_X6_digits_51 ?_
        refine z_put 1 (YW G x N R K r (upd S 3 (((10 * (nI (nvS B s (q - s)))) + ((R 0) q)) - 48)) T tl) p_X6_92_6 rfl rfl rfl (Nat.le_of_ble_eq_true rfl) (yf_1_5 G x N R K r S T tl _) d_X6_digits_52 ?_
        refine z_aload_n d_X6_digits_55 0 rfl ?_
        refine z_dup d_X6_digits_56 rfl ?_
        refine z_get (v := .int (S 0)) (1) f_X6_26_6 rfl rfl d_X6_digits_57 ?_
        refine z_top e0 ?_
        refine z_iconst (v := 1) d_X6_digits_60 (by decide) ?_
        refine z_iadd d_X6_digits_61 ?_
        refine z_put 1 (YW G x N R K r (upd (upd S 3 (((10 * (nI (nvS B s (q - s)))) + ((R 0) q)) - 48)) 0 ((nI q) + 1)) T tl) p_X6_26_6 rfl rfl rfl (Nat.le_of_ble_eq_true rfl) (yf_1_2 G x N R K r (upd S 3 (((10 * (nI (nvS B s (q - s)))) + ((R 0) q)) - 48)) T tl _) d_X6_digits_62 ?_
        refine z_goto d_X6_digits_65 ?_
        exact ih (q + 1) _ (by omega) (by omega) (nI_1 q) e1 e4 e5 ((en_go ⟨hq2, hd2⟩).trans he) hv2 (by omega)
set_option maxHeartbeats 4000000 in
set_option maxRecDepth 100000 in
theorem y9_t_X6_digits (G : GT) (x : Nat → Nat) (N : Nat → Int32) (R : Nat → Nat → Int32) (K : Nat → Nat → Option Nat) (r : Nat → Nat) (S : Nat → Int32) (T : Nat → Nat → Int32) (tl : va_W) (B : Nat → Int32) (n : Nat) (hn : n ≤ 160) (h0 : N 0 = nI n) (hB : Tp B n (R 0)) (s : Nat) (z4 z5 : Int32) (hs : s ≤ n) (e0 : S 0 = nI s) (e1 : S 1 = nI s) (e4 : S 4 = z4) (e5 : S 5 = z5)  : Ct G mX6_digits 1 0 0 [.ref (x 1)] (YW G x N R K r S T tl) (y9_REx G x N R K r T tl (fun S => S 0 = nI (enS isDg B n s) ∧ S 1 = nI s ∧ S 2 = (if 4 < enS isDg B n s - s then 1 else 2) ∧ S 3 = nI (nvS B s (enS isDg B n s - s)) ∧ S 4 = z4 ∧ S 5 = z5)) := by
  refine Ct.intro [(0, .ref (x 1))] (by decide) rfl (Nat.le_of_ble_eq_true rfl) ?_
  refine z_aload_n d_X6_digits_0 0 rfl ?_
  refine z_iconst (v := 0) d_X6_digits_1 (by decide) ?_
  refine z_put 1 (YW G x N R K r (upd S 3 0) T tl) p_X6_92_6 rfl rfl rfl (Nat.le_of_ble_eq_true rfl) (yf_1_5 G x N R K r S T tl _) d_X6_digits_2 ?_
  exact y9_l_X6_digits G x N R K r T tl B n hn h0 hB s z4 z5 (n + 1) s _ hs (Nat.le_refl _) e0 e1 e4 e5 rfl (by rw [Nat.sub_self]; rfl) (by omega)
set_option maxHeartbeats 4000000 in
set_option maxRecDepth 100000 in
theorem y9_l_X6_advance (G : GT) (x : Nat → Nat) (N : Nat → Int32) (R : Nat → Nat → Int32) (K : Nat → Nat → Option Nat) (r : Nat → Nat) (T : Nat → Nat → Int32) (tl : va_W) (B : Nat → Int32) (n : Nat) (hn : n ≤ 160) (h0 : N 0 = nI n) (hB : Tp B n (R 0)) (p : Nat) (z4 z5 : Int32) : ∀ (f : Nat) (q : Nat) (S : Nat → Int32) (hq : q ≤ n) (e0 : S 0 = nI q) (e4 : S 4 = z4) (e5 : S 5 = z5) (he : stL B n p = enS isBl B n q) (hm : n < q + f), Tr G mX6_advance (Rm 7 0 0) (OM G (y9_REx G x N R K r T tl (Ad B n p z4 z5)) 0 0) 0 0 0 [(0, .ref (x 1))] [] (YW G x N R K r S T tl) := by
  intro f
  induction f with
  | zero =>
    intro q S hq e0 e4 e5 he hm
    exact absurd hm (by omega)
  | succ f ih =>
    intro q S hq e0 e4 e5 he hm
    refine z_aload_n d_X6_advance_0 0 rfl ?_
    refine z_get (v := .int (S 0)) (1) f_X6_26_6 rfl rfl d_X6_advance_1 ?_
    refine z_top e0 ?_
    refine z_aload_n d_X6_advance_4 0 rfl ?_
    refine z_get (v := .int (N 0)) (1) f_X6_22_6 rfl rfl d_X6_advance_5 ?_
    refine z_top h0 ?_
    refine z_icmp_ge d_X6_advance_8 (fun c_8 => ?_) (fun c_8 => ?_)
    · have hx : stL B n p = q := by rw [he]; exact en_stop (fun hh => c_8 ((nI_ltI (by omega) (by omega)).mpr (by omega)))
      refine z_aload_n d_X6_advance_52 0 rfl ?_
      refine z_aload_n d_X6_advance_53 0 rfl ?_
      refine z_get (v := .int (S 0)) (1) f_X6_26_6 rfl rfl d_X6_advance_54 ?_
      refine z_top e0 ?_
      refine z_put 1 (YW G x N R K r (upd S 1 (nI q)) T tl) p_X6_71_6 rfl rfl rfl (Nat.le_of_ble_eq_true rfl) (yf_1_3 G x N R K r S T tl _) d_X6_advance_57 ?_
      refine z_aload_n d_X6_advance_60 0 rfl ?_
      refine z_get (v := .int (S 0)) (1) f_X6_26_6 rfl rfl d_X6_advance_61 ?_
      refine z_top e0 ?_
      refine z_aload_n d_X6_advance_64 0 rfl ?_
      refine z_get (v := .int (N 0)) (1) f_X6_22_6 rfl rfl d_X6_advance_65 ?_
      refine z_top h0 ?_
      refine z_icmp_lt d_X6_advance_68 (fun c_68 => ?_) (fun c_68 => ?_)
      · exact absurd c_68 c_8
      refine z_aload_n d_X6_advance_71 0 rfl ?_
      refine z_iconst (v := 0) d_X6_advance_72 (by decide) ?_
      refine z_put 1 (YW G x N R K r (upd (upd S 1 (nI q)) 2 0) T tl) p_X6_42_6 rfl rfl rfl (Nat.le_of_ble_eq_true rfl) (yf_1_4 G x N R K r (upd S 1 (nI q)) T tl _) d_X6_advance_73 ?_
      refine z_goto d_X6_advance_76 ?_
      exact z_vret _ d_X6_advance_165 rfl ⟨rfl, _, rfl, Ad.en hx (fun hh => c_8 ((nI_ltI (by omega) (by omega)).mpr hh)) e0 rfl rfl e4 e5⟩
    · have hq2 : q < n := lt_nI (by omega) (by omega) c_8
      refine z_aload_n d_X6_advance_11 0 rfl ?_
      refine z_get (v := .ref (x 2)) (1) f_X6_9_6 rfl rfl d_X6_advance_12 ?_
      refine z_aload_n d_X6_advance_15 0 rfl ?_
      refine z_get (v := .int (S 0)) (1) f_X6_26_6 rfl rfl d_X6_advance_16 ?_
      refine z_top e0 ?_
      refine z_baldN (2) q rfl (nI_toInt (by omega)) (by omega) d_X6_advance_19 ?_
      refine z_bipush (v := 32) d_X6_advance_20 (by decide) ?_
      refine z_icmp_eq d_X6_advance_22 (fun c_22 => ?_) (fun c_22 => ?_)
      · refine z_aload_n d_X6_advance_39 0 rfl ?_
        refine z_dup d_X6_advance_40 rfl ?_
        refine z_get (v := .int (S 0)) (1) f_X6_26_6 rfl rfl d_X6_advance_41 ?_
        refine z_top e0 ?_
        refine z_iconst (v := 1) d_X6_advance_44 (by decide) ?_
        refine z_iadd d_X6_advance_45 ?_
        refine z_put 1 (YW G x N R K r (upd S 0 ((nI q) + 1)) T tl) p_X6_26_6 rfl rfl rfl (Nat.le_of_ble_eq_true rfl) (yf_1_2 G x N R K r S T tl _) d_X6_advance_46 ?_
        refine z_goto d_X6_advance_49 ?_
        exact ih (q + 1) _ (by omega) (nI_1 q) e4 e5 (he.trans (en_go ⟨hq2, by unfold isBl; rw [Bool.or_eq_true, decide_eq_true_eq, decide_eq_true_eq]; exact Or.inl ((sb_bl (hB q hq2).2).1.mp ((hB q hq2).1.symm.trans c_22))⟩).symm) (by omega)
      · refine z_aload_n d_X6_advance_25 0 rfl ?_
        refine z_get (v := .ref (x 2)) (1) f_X6_9_6 rfl rfl d_X6_advance_26 ?_
        refine z_aload_n d_X6_advance_29 0 rfl ?_
        refine z_get (v := .int (S 0)) (1) f_X6_26_6 rfl rfl d_X6_advance_30 ?_
        refine z_top e0 ?_
        refine z_baldN (2) q rfl (nI_toInt (by omega)) (by omega) d_X6_advance_33 ?_
        refine z_bipush (v := 10) d_X6_advance_34 (by decide) ?_
        refine z_icmp_ne d_X6_advance_36 (fun c_36 => ?_) (fun c_36 => ?_)
        · have hx : stL B n p = q := by rw [he]; exact en_stop (fun hh => by have h9 := hh.2; unfold isBl at h9; rw [Bool.or_eq_true, decide_eq_true_eq, decide_eq_true_eq] at h9; rcases h9 with h9 | h9; exact c_22 ((hB q hq2).1.trans ((sb_bl (hB q hq2).2).1.mpr h9)); exact c_36 ((hB q hq2).1.trans ((sb_bl (hB q hq2).2).2.mpr h9)))
          refine z_aload_n d_X6_advance_52 0 rfl ?_
          refine z_aload_n d_X6_advance_53 0 rfl ?_
          refine z_get (v := .int (S 0)) (1) f_X6_26_6 rfl rfl d_X6_advance_54 ?_
          refine z_top e0 ?_
          refine z_put 1 (YW G x N R K r (upd S 1 (nI q)) T tl) p_X6_71_6 rfl rfl rfl (Nat.le_of_ble_eq_true rfl) (yf_1_3 G x N R K r S T tl _) d_X6_advance_57 ?_
          refine z_aload_n d_X6_advance_60 0 rfl ?_
          refine z_get (v := .int (S 0)) (1) f_X6_26_6 rfl rfl d_X6_advance_61 ?_
          refine z_top e0 ?_
          refine z_aload_n d_X6_advance_64 0 rfl ?_
          refine z_get (v := .int (N 0)) (1) f_X6_22_6 rfl rfl d_X6_advance_65 ?_
          refine z_top h0 ?_
          refine z_icmp_lt d_X6_advance_68 (fun c_68 => ?_) (fun c_68 => ?_)
          rotate_left
          · exact absurd c_68 (fun h => h c_8)
          refine z_aload_n d_X6_advance_79 0 rfl ?_
          refine z_get (v := .ref (x 2)) (1) f_X6_9_6 rfl rfl d_X6_advance_80 ?_
          refine z_aload_n d_X6_advance_83 0 rfl ?_
          refine z_get (v := .int (S 0)) (1) f_X6_26_6 rfl rfl d_X6_advance_84 ?_
          refine z_top e0 ?_
          refine z_baldN (2) q rfl (nI_toInt (by omega)) (by omega) d_X6_advance_87 ?_
          refine z_callSp c_X6_95 (t_X6_isLetter G ((R 0) q) (YW G x N R K r (upd S 1 (nI q)) T tl)) rfl rfl (Nat.le_of_ble_eq_true rfl) rfl d_X6_advance_88 ?_
          refine z_if_eq d_X6_advance_91 (fun c_91 => ?_) (fun c_91 => ?_)
          · refine z_aload_n d_X6_advance_101 0 rfl ?_
            refine z_get (v := .ref (x 2)) (1) f_X6_9_6 rfl rfl d_X6_advance_102 ?_
            refine z_aload_n d_X6_advance_105 0 rfl ?_
            refine z_get (v := .int (S 0)) (1) f_X6_26_6 rfl rfl d_X6_advance_106 ?_
            refine z_top e0 ?_
            refine z_baldN (2) q rfl (nI_toInt (by omega)) (by omega) d_X6_advance_109 ?_
            refine z_callSp c_X6_102 (t_X6_isDigit G ((R 0) q) (YW G x N R K r (upd S 1 (nI q)) T tl)) rfl rfl (Nat.le_of_ble_eq_true rfl) rfl d_X6_advance_110 ?_
            refine z_if_eq d_X6_advance_113 (fun c_113 => ?_) (fun c_113 => ?_)
            · have h91 := b01_z c_91
              have h113 := b01_z c_113
              rw [(hB q hq2).1, sb_lt (hB q hq2).2] at h91
              rw [(hB q hq2).1, by_dg (hB q hq2).2] at h113
              refine z_aload_n d_X6_advance_123 0 rfl ?_
              refine z_aload_n d_X6_advance_124 0 rfl ?_
              refine z_get (v := .ref (x 2)) (1) f_X6_9_6 rfl rfl d_X6_advance_125 ?_
              refine z_aload_n d_X6_advance_128 0 rfl ?_
              refine z_get (v := .int (S 0)) (1) f_X6_26_6 rfl rfl d_X6_advance_129 ?_
              refine z_top e0 ?_
              refine z_baldN (2) q rfl (nI_toInt (by omega)) (by omega) d_X6_advance_132 ?_
              refine z_top (hB q hq2).1 ?_
              refine z_callSp c_X6_108 (t_X6_isSign G _ (hB q hq2).2 (YW G x N R K r (upd S 1 (nI q)) T tl)) rfl rfl (Nat.le_of_ble_eq_true rfl) rfl d_X6_advance_133 ?_
              refine z_if_eq d_X6_advance_136 (fun c_136 => ?_) (fun c_136 => ?_)
              · refine z_iconst (v := 1) d_X6_advance_151 (by decide) ?_
                refine z_put 1 (YW G x N R K r (upd (upd S 1 (nI q)) 2 1) T tl) p_X6_42_6 rfl rfl rfl (Nat.le_of_ble_eq_true rfl) (yf_1_4 G x N R K r (upd S 1 (nI q)) T tl _) d_X6_advance_152 ?_
                refine z_aload_n d_X6_advance_155 0 rfl ?_
                refine z_dup d_X6_advance_156 rfl ?_
                refine z_get (v := .int (S 0)) (1) f_X6_26_6 rfl rfl d_X6_advance_157 ?_
                refine z_top e0 ?_
                refine z_iconst (v := 1) d_X6_advance_160 (by decide) ?_
                refine z_iadd d_X6_advance_161 ?_
                refine z_put 1 (YW G x N R K r (upd (upd (upd S 1 (nI q)) 2 1) 0 ((nI q) + 1)) T tl) p_X6_26_6 rfl rfl rfl (Nat.le_of_ble_eq_true rfl) (yf_1_2 G x N R K r (upd (upd S 1 (nI q)) 2 1) T tl _) d_X6_advance_162 ?_
                exact z_vret _ d_X6_advance_165 rfl ⟨rfl, _, rfl, Ad.no hx hq2 (fun hh => by rw [hh] at h91; exact absurd h91 (by decide)) (fun hh => by rw [hh] at h113; exact absurd h113 (by decide)) (fun hh => by have h9 := b01_z c_136; rw [hh] at h9; exact absurd h9 (by decide)) rfl rfl e4 e5⟩
              · refine z_aload_n d_X6_advance_139 0 rfl ?_
                refine z_get (v := .ref (x 2)) (1) f_X6_9_6 rfl rfl d_X6_advance_140 ?_
                refine z_aload_n d_X6_advance_143 0 rfl ?_
                refine z_get (v := .int (S 0)) (1) f_X6_26_6 rfl rfl d_X6_advance_144 ?_
                refine z_top e0 ?_
                refine z_baldN (2) q rfl (nI_toInt (by omega)) (by omega) d_X6_advance_147 ?_
                refine z_goto d_X6_advance_148 ?_
                refine z_put 1 (YW G x N R K r (upd (upd S 1 (nI q)) 2 ((R 0) q)) T tl) p_X6_42_6 rfl rfl rfl (Nat.le_of_ble_eq_true rfl) (yf_1_4 G x N R K r (upd S 1 (nI q)) T tl _) d_X6_advance_152 ?_
                refine z_aload_n d_X6_advance_155 0 rfl ?_
                refine z_dup d_X6_advance_156 rfl ?_
                refine z_get (v := .int (S 0)) (1) f_X6_26_6 rfl rfl d_X6_advance_157 ?_
                refine z_top e0 ?_
                refine z_iconst (v := 1) d_X6_advance_160 (by decide) ?_
                refine z_iadd d_X6_advance_161 ?_
                refine z_put 1 (YW G x N R K r (upd (upd (upd S 1 (nI q)) 2 ((R 0) q)) 0 ((nI q) + 1)) T tl) p_X6_26_6 rfl rfl rfl (Nat.le_of_ble_eq_true rfl) (yf_1_2 G x N R K r (upd (upd S 1 (nI q)) 2 ((R 0) q)) T tl _) d_X6_advance_162 ?_
                exact z_vret _ d_X6_advance_165 rfl ⟨rfl, _, rfl, Ad.sg hx hq2 (fun hh => by rw [hh] at h91; exact absurd h91 (by decide)) (fun hh => by rw [hh] at h113; exact absurd h113 (by decide)) (b01_o c_136) (nI_1 q) rfl ((hB q hq2).1.trans (sb_sg (hB q hq2).2 (b01_o c_136))) e4 e5⟩
            · refine z_aload_n d_X6_advance_116 0 rfl ?_
              have h91 : isLt (R 0 q) = false := by have h9 := b01_z c_91; exact h9
              rw [(hB q hq2).1, sb_lt (hB q hq2).2] at h91
              have h113 : isDg (R 0 q) = true := b01_o c_113
              rw [(hB q hq2).1, by_dg (hB q hq2).2] at h113
              refine z_callV 1 c_X6_105 rfl rfl (y9_t_X6_digits G x N R K r (upd S 1 (nI q)) T tl B n hn h0 hB q z4 z5 hq e0 rfl e4 e5) rfl rfl (Nat.le_of_ble_eq_true rfl) rfl d_X6_advance_117 ?_
              rintro v9 w9 ⟨rfl, S9, rfl, h9⟩
              refine z_goto d_X6_advance_120 ?_
              exact z_vret _ d_X6_advance_165 rfl ⟨rfl, _, rfl, Ad.dg hx hq2 (fun hh => by rw [hh] at h91; exact absurd h91 (by decide)) h113 h9⟩
          · refine z_aload_n d_X6_advance_94 0 rfl ?_
            have h91 : isLt (R 0 q) = true := by have h9 := b01_o c_91; exact h9
            rw [(hB q hq2).1, sb_lt (hB q hq2).2] at h91
            refine z_callV 1 c_X6_99 rfl rfl (y9_t_X6_word G x N R K r T tl B n hn h0 hB q z4 z5 q ((upd S 1 (nI q))) hq (Nat.le_refl _) e0 rfl e4 e5 rfl) rfl rfl (Nat.le_of_ble_eq_true rfl) rfl d_X6_advance_95 ?_
            rintro v9 w9 ⟨rfl, S9, rfl, h9⟩
            refine z_goto d_X6_advance_98 ?_
            exact z_vret _ d_X6_advance_165 rfl ⟨rfl, _, rfl, Ad.wd hx hq2 h91 h9⟩
        · refine z_aload_n d_X6_advance_39 0 rfl ?_
          refine z_dup d_X6_advance_40 rfl ?_
          refine z_get (v := .int (S 0)) (1) f_X6_26_6 rfl rfl d_X6_advance_41 ?_
          refine z_top e0 ?_
          refine z_iconst (v := 1) d_X6_advance_44 (by decide) ?_
          refine z_iadd d_X6_advance_45 ?_
          refine z_put 1 (YW G x N R K r (upd S 0 ((nI q) + 1)) T tl) p_X6_26_6 rfl rfl rfl (Nat.le_of_ble_eq_true rfl) (yf_1_2 G x N R K r S T tl _) d_X6_advance_46 ?_
          refine z_goto d_X6_advance_49 ?_
          exact ih (q + 1) _ (by omega) (nI_1 q) e4 e5 (he.trans (en_go ⟨hq2, by unfold isBl; rw [Bool.or_eq_true, decide_eq_true_eq, decide_eq_true_eq]; exact Or.inr ((sb_bl (hB q hq2).2).2.mp ((hB q hq2).1.symm.trans c_36))⟩).symm) (by omega)
theorem y9_t_X6_advance (G : GT) (x : Nat → Nat) (N : Nat → Int32) (R : Nat → Nat → Int32) (K : Nat → Nat → Option Nat) (r : Nat → Nat) (S : Nat → Int32) (T : Nat → Nat → Int32) (tl : va_W) (B : Nat → Int32) (n : Nat) (hn : n ≤ 160) (h0 : N 0 = nI n) (hB : Tp B n (R 0)) (p : Nat) (hp : p ≤ n) (e0 : S 0 = nI p) : Ct G mX6_advance 7 0 0 [.ref (x 1)] (YW G x N R K r S T tl) (y9_REx G x N R K r T tl (Ad B n p (S 4) (S 5))) := by
  refine Ct.intro [(0, .ref (x 1))] (by decide) rfl (Nat.le_of_ble_eq_true rfl) ?_
  exact y9_l_X6_advance G x N R K r T tl B n hn h0 hB p (S 4) (S 5) (n + 1) p S hp e0 rfl rfl rfl (by omega)
/-! THE READER of class X: its grammar -/
def y9_CtR (G : GT) (x : Nat → Nat) (N : Nat → Int32) (R : Nat → Nat → Int32) (K : Nat → Nat → Option Nat) (r : Nat → Nat) (tl : va_W) (B : Nat → Int32) (n : Nat) (μ : Mu) (dep : Nat) (a : Int32) (P : Nat → PR) : Prop := ∀ (p : Nat) (c : List Int32) (S : Nat → Int32) (T : Nat → Nat → Int32), p ≤ n → c.length ≤ p → RS B n p c S (T 0) → Ct G μ dep 0 0 [.ref (x 1), .int a] (YW G x N R K r S T tl) (y9_RT G x N R K r (T 1) tl (RP B n c (P p)))
def y9_CtF (G : GT) (x : Nat → Nat) (N : Nat → Int32) (R : Nat → Nat → Int32) (K : Nat → Nat → Option Nat) (r : Nat → Nat) (tl : va_W) (μ : Mu) (dep : Nat) : Prop := ∀ (a : Int32) (z : Nat) (S : Nat → Int32) (T : Nat → Nat → Int32), RF z S → Ct G μ dep 0 0 [.ref (x 1), .int a] (YW G x N R K r S T tl) (y9_RT G x N R K r (T 1) tl (fun S2 _ => RF z S2))
theorem y9_t_adv (G : GT) (x : Nat → Nat) (N : Nat → Int32) (R : Nat → Nat → Int32) (K : Nat → Nat → Option Nat) (r : Nat → Nat) (tl : va_W) (B : Nat → Int32) (n : Nat) (hn : n ≤ 160) (h0 : N 0 = nI n) (hB : Tp B n (R 0)) (p : Nat) (c : List Int32) (S : Nat → Int32) (T : Nat → Nat → Int32) (hp : p ≤ n) (h : RS B n p c S (T 0)) (h1 : ¬ tkL B n p = 1) : Ct G mX6_advance 7 0 0 [.ref (x 1)] (YW G x N R K r S T tl) (y9_RT G x N R K r (T 1) tl (fun S2 t2 => RS B n (nxL B n p) c S2 t2)) := by
  have e0 := h.1.2.2.2.1 h1
  have h9 := y9_t_X6_advance G x N R K r S T tl B n hn h0 hB (nxL B n p) (nx_le B hp) e0
  rw [h.1.2.2.2.2.1, h.1.2.2.2.2.2] at h9
  refine h9.mono (fun v w hE => ?_)
  obtain ⟨rfl, S2, rfl, h2⟩ := hE
  exact ⟨rfl, S2, T, rfl, rfl, h2, h.2⟩
set_option maxHeartbeats 4000000 in
set_option maxRecDepth 100000 in
theorem y9_t_refS (G : GT) (x : Nat → Nat) (N : Nat → Int32) (R : Nat → Nat → Int32) (K : Nat → Nat → Option Nat) (r : Nat → Nat) (S : Nat → Int32) (T : Nat → Nat → Int32) (tl : va_W) (B : Nat → Int32) (n : Nat) (hn : n ≤ 160) (h0 : N 0 = nI n) (hB : Tp B n (R 0)) (p : Nat) (c : List Int32) (hp : p ≤ n) (h : RS B n p c S (T 0)) (hL : c.length ≤ 160) : Ct G mX6_refuse 0 0 0 [.ref (x 1)] (YW G x N R K r S T tl) (y9_RT G x N R K r (T 1) tl (fun S2 _ => RF (stL B n p) S2)) := by
  refine Ct.intro [(0, .ref (x 1))] (by decide) rfl (Nat.le_of_ble_eq_true rfl) ?_
  refine z_aload_n d_X6_refuse_0 0 rfl ?_
  refine z_get (v := .int (S 4)) (1) f_X6_32_6 rfl rfl d_X6_refuse_1 ?_
  refine z_top h.1.2.2.2.2.1 ?_
  refine z_iconst (v := -1) d_X6_refuse_4 (by decide) ?_
  refine z_icmp_ne d_X6_refuse_5 (fun c_5 => ?_) (fun c_5 => ?_)
  · exact absurd c_5 (by decide)
  refine z_aload_n d_X6_refuse_8 0 rfl ?_
  refine z_aload_n d_X6_refuse_9 0 rfl ?_
  refine z_get (v := .int (S 1)) (1) f_X6_71_6 rfl rfl d_X6_refuse_10 ?_
  refine z_put 1 (YW G x N R K r (upd S 4 (S 1)) T tl) p_X6_32_6 rfl rfl rfl (Nat.le_of_ble_eq_true rfl) (yf_1_6 G x N R K r S T tl _) d_X6_refuse_13 ?_
  refine z_aload_n d_X6_refuse_16 0 rfl ?_
  refine z_iconst (v := 1) d_X6_refuse_17 (by decide) ?_
  refine z_put 1 (YW G x N R K r (upd (upd S 4 (S 1)) 2 1) T tl) p_X6_42_6 rfl rfl rfl (Nat.le_of_ble_eq_true rfl) (yf_1_4 G x N R K r (upd S 4 (S 1)) T tl _) d_X6_refuse_18 ?_
  exact z_vret _ d_X6_refuse_21 rfl ⟨rfl, _, _, rfl, rfl, rfl, h.1.1, by have := stL_le B hp; omega, _, hL, h.1.2.2.2.2.2⟩
set_option maxHeartbeats 4000000 in
set_option maxRecDepth 100000 in
theorem y9_t_refF (G : GT) (x : Nat → Nat) (N : Nat → Int32) (R : Nat → Nat → Int32) (K : Nat → Nat → Option Nat) (r : Nat → Nat) (S : Nat → Int32) (T : Nat → Nat → Int32) (tl : va_W) (z : Nat) (h : RF z S)  : Ct G mX6_refuse 0 0 0 [.ref (x 1)] (YW G x N R K r S T tl) (y9_RT G x N R K r (T 1) tl (fun S2 _ => RF z S2)) := by
  refine Ct.intro [(0, .ref (x 1))] (by decide) rfl (Nat.le_of_ble_eq_true rfl) ?_
  refine z_aload_n d_X6_refuse_0 0 rfl ?_
  refine z_get (v := .int (S 4)) (1) f_X6_32_6 rfl rfl d_X6_refuse_1 ?_
  refine z_top h.2.1 ?_
  refine z_iconst (v := -1) d_X6_refuse_4 (by decide) ?_
  refine z_icmp_ne d_X6_refuse_5 (fun c_5 => ?_) (fun c_5 => ?_)
  rotate_left
  · exact absurd c_5 (by rw [show (-1 : Int32) = -1 from rfl]; intro hh; have h9 := congrArg Int32.toInt hh; rw [nI_i (by have := h.2.2.1; omega), show (-1 : Int32).toInt = -1 by decide] at h9; omega)
  refine z_aload_n d_X6_refuse_16 0 rfl ?_
  refine z_iconst (v := 1) d_X6_refuse_17 (by decide) ?_
  refine z_put 1 (YW G x N R K r (upd S 2 1) T tl) p_X6_42_6 rfl rfl rfl (Nat.le_of_ble_eq_true rfl) (yf_1_4 G x N R K r S T tl _) d_X6_refuse_18 ?_
  exact z_vret _ d_X6_refuse_21 rfl ⟨rfl, _, _, rfl, rfl, rfl, h.2⟩
set_option maxHeartbeats 4000000 in
set_option maxRecDepth 100000 in
theorem y9_t_emS (G : GT) (x : Nat → Nat) (N : Nat → Int32) (R : Nat → Nat → Int32) (K : Nat → Nat → Option Nat) (r : Nat → Nat) (S : Nat → Int32) (T : Nat → Nat → Int32) (tl : va_W) (B : Nat → Int32) (n q : Nat) (c : List Int32) (s : Int32) (h : RS B n q c S (T 0)) (hL : c.length < 160)  : Ct G mX6_emit 0 0 0 [.ref (x 1), .int s] (YW G x N R K r S T tl) (y9_RT G x N R K r (T 1) tl (fun S2 t2 => RS B n q (c ++ [s]) S2 t2)) := by
  refine Ct.intro [(0, .ref (x 1)), (1, .int s)] (by decide) rfl (Nat.le_of_ble_eq_true rfl) ?_
  refine z_aload_n d_X6_emit_0 0 rfl ?_
  refine z_get (v := .int (S 5)) (1) f_X6_29_6 rfl rfl d_X6_emit_1 ?_
  refine z_top h.1.2.2.2.2.2 ?_
  refine z_sipush (v := 160) d_X6_emit_4 (by decide) ?_
  refine z_icmp_ge d_X6_emit_7 (fun c_7 => ?_) (fun c_7 => ?_)
  · exact absurd c_7 (by rw [show (160 : Int32) = nI 160 from rfl]; intro hh; have := ge_nI (by omega) (by decide) hh; omega)
  refine z_aload_n d_X6_emit_10 0 rfl ?_
  refine z_get (v := .ref (x 3)) (1) f_X6_15_6 rfl rfl d_X6_emit_11 ?_
  refine z_aload_n d_X6_emit_14 0 rfl ?_
  refine z_get (v := .int (S 5)) (1) f_X6_29_6 rfl rfl d_X6_emit_15 ?_
  refine z_top h.1.2.2.2.2.2 ?_
  refine z_iload_n d_X6_emit_18 1 rfl ?_
  refine z_iastN 3 c.length (YW G x N R K r S (vf_upd T 0 (upd (T 0) c.length s)) tl) rfl (nI_i (by omega)) hL (ya_3 G x N R K r S T tl _) d_X6_emit_19 ?_
  refine z_aload_n d_X6_emit_20 0 rfl ?_
  refine z_dup d_X6_emit_21 rfl ?_
  refine z_get (v := .int (S 5)) (1) f_X6_29_6 rfl rfl d_X6_emit_22 ?_
  refine z_top h.1.2.2.2.2.2 ?_
  refine z_iconst (v := 1) d_X6_emit_25 (by decide) ?_
  refine z_iadd d_X6_emit_26 ?_
  refine z_put 1 (YW G x N R K r (upd S 5 ((nI (c.length)) + 1)) (vf_upd T 0 (upd (T 0) c.length s)) tl) p_X6_29_6 rfl rfl rfl (Nat.le_of_ble_eq_true rfl) (yf_1_8 G x N R K r S (vf_upd T 0 (upd (T 0) c.length s)) tl _) d_X6_emit_27 ?_
  exact z_vret _ d_X6_emit_30 rfl ⟨rfl, _, _, rfl, rfl, by rw [nI_1]; exact h.emit⟩
set_option maxHeartbeats 4000000 in
set_option maxRecDepth 100000 in
theorem y9_t_emF (G : GT) (x : Nat → Nat) (N : Nat → Int32) (R : Nat → Nat → Int32) (K : Nat → Nat → Option Nat) (r : Nat → Nat) (S : Nat → Int32) (T : Nat → Nat → Int32) (tl : va_W) (z : Nat) (s : Int32) (h : RF z S)  : Ct G mX6_emit 0 0 0 [.ref (x 1), .int s] (YW G x N R K r S T tl) (y9_RT G x N R K r (T 1) tl (fun S2 _ => RF z S2)) := by
  obtain ⟨L, hL, h5⟩ := h.2.2.2
  refine Ct.intro [(0, .ref (x 1)), (1, .int s)] (by decide) rfl (Nat.le_of_ble_eq_true rfl) ?_
  refine z_aload_n d_X6_emit_0 0 rfl ?_
  refine z_get (v := .int (S 5)) (1) f_X6_29_6 rfl rfl d_X6_emit_1 ?_
  refine z_top h5 ?_
  refine z_sipush (v := 160) d_X6_emit_4 (by decide) ?_
  refine z_icmp_ge d_X6_emit_7 (fun c_7 => ?_) (fun c_7 => ?_)
  · exact z_vret _ d_X6_emit_30 rfl ⟨rfl, _, _, rfl, rfl, h⟩
  · have hL2 : L < 160 := lt_nI (by omega) (by decide) c_7
    refine z_aload_n d_X6_emit_10 0 rfl ?_
    refine z_get (v := .ref (x 3)) (1) f_X6_15_6 rfl rfl d_X6_emit_11 ?_
    refine z_aload_n d_X6_emit_14 0 rfl ?_
    refine z_get (v := .int (S 5)) (1) f_X6_29_6 rfl rfl d_X6_emit_15 ?_
    refine z_top h5 ?_
    refine z_iload_n d_X6_emit_18 1 rfl ?_
    refine z_iastN 3 L (YW G x N R K r S (vf_upd T 0 (upd (T 0) L s)) tl) rfl (nI_i (by omega)) hL2 (ya_3 G x N R K r S T tl _) d_X6_emit_19 ?_
    refine z_aload_n d_X6_emit_20 0 rfl ?_
    refine z_dup d_X6_emit_21 rfl ?_
    refine z_get (v := .int (S 5)) (1) f_X6_29_6 rfl rfl d_X6_emit_22 ?_
    refine z_top h5 ?_
    refine z_iconst (v := 1) d_X6_emit_25 (by decide) ?_
    refine z_iadd d_X6_emit_26 ?_
    refine z_put 1 (YW G x N R K r (upd S 5 ((nI L) + 1)) (vf_upd T 0 (upd (T 0) L s)) tl) p_X6_29_6 rfl rfl rfl (Nat.le_of_ble_eq_true rfl) (yf_1_8 G x N R K r S (vf_upd T 0 (upd (T 0) L s)) tl _) d_X6_emit_27 ?_
    exact z_vret _ d_X6_emit_30 rfl ⟨rfl, _, _, rfl, rfl, h.1, h.2.1, h.2.2.1, L + 1, by omega, nI_1 L⟩
set_option maxHeartbeats 4000000 in
set_option maxRecDepth 100000 in
theorem y9_t_expS (G : GT) (x : Nat → Nat) (N : Nat → Int32) (R : Nat → Nat → Int32) (K : Nat → Nat → Option Nat) (r : Nat → Nat) (S : Nat → Int32) (T : Nat → Nat → Int32) (tl : va_W) (B : Nat → Int32) (n : Nat) (hn : n ≤ 160) (h0 : N 0 = nI n) (hB : Tp B n (R 0)) (p : Nat) (c : List Int32) (k : Int32) (hp : p ≤ n) (hL : c.length ≤ 160) (k0 : ¬ k = 0) (k1 : ¬ k = 1) (h : RS B n p c S (T 0))  : Ct G mX6_expect 8 0 0 [.ref (x 1), .int k] (YW G x N R K r S T tl) (y9_RT G x N R K r (T 1) tl (fun S2 t2 => if tkL B n p = k then RS B n (nxL B n p) c S2 t2 else RF (stL B n p) S2)) := by
  refine Ct.intro [(0, .ref (x 1)), (1, .int k)] (by decide) rfl (Nat.le_of_ble_eq_true rfl) ?_
  refine z_aload_n d_X6_expect_0 0 rfl ?_
  refine z_get (v := .int (S 2)) (1) f_X6_42_6 rfl rfl d_X6_expect_1 ?_
  refine z_top h.1.2.1 ?_
  refine z_iload_n d_X6_expect_4 1 rfl ?_
  refine z_icmp_ne d_X6_expect_5 (fun c_5 => ?_) (fun c_5 => ?_)
  · refine z_aload_n d_X6_expect_15 0 rfl ?_
    refine z_callV 1 c_X6_45 rfl rfl (y9_t_refS G x N R K r S T tl B n hn h0 hB p c hp h (by (try simp only [List.length_append, List.length_cons, List.length_nil]); omega)) rfl rfl (Nat.le_of_ble_eq_true rfl) rfl d_X6_expect_16 ?_
    rintro v16 w16 ⟨rfl, S16, T16, rfl, hT16, h16⟩
    exact z_vret _ d_X6_expect_19 rfl ⟨rfl, _, _, rfl, (hT16.trans rfl), (if_neg c_5).mpr h16⟩
  · refine z_aload_n d_X6_expect_8 0 rfl ?_
    refine z_callV 1 c_X6_35 rfl rfl (y9_t_adv G x N R K r tl B n hn h0 hB p c S T hp h (by rw [c_5]; exact k1)) rfl rfl (Nat.le_of_ble_eq_true rfl) rfl d_X6_expect_9 ?_
    rintro v9 w9 ⟨rfl, S9, T9, rfl, hT9, h9⟩
    refine z_goto d_X6_expect_12 ?_
    exact z_vret _ d_X6_expect_19 rfl ⟨rfl, _, _, rfl, (hT9.trans rfl), (if_pos c_5).mpr h9⟩
set_option maxHeartbeats 4000000 in
set_option maxRecDepth 100000 in
theorem y9_t_expF (G : GT) (x : Nat → Nat) (N : Nat → Int32) (R : Nat → Nat → Int32) (K : Nat → Nat → Option Nat) (r : Nat → Nat) (S : Nat → Int32) (T : Nat → Nat → Int32) (tl : va_W) (z : Nat) (k : Int32) (h : RF z S) (k1 : ¬ k = 1)  : Ct G mX6_expect 1 0 0 [.ref (x 1), .int k] (YW G x N R K r S T tl) (y9_RT G x N R K r (T 1) tl (fun S2 _ => RF z S2)) := by
  refine Ct.intro [(0, .ref (x 1)), (1, .int k)] (by decide) rfl (Nat.le_of_ble_eq_true rfl) ?_
  refine z_aload_n d_X6_expect_0 0 rfl ?_
  refine z_get (v := .int (S 2)) (1) f_X6_42_6 rfl rfl d_X6_expect_1 ?_
  refine z_top h.1 ?_
  refine z_iload_n d_X6_expect_4 1 rfl ?_
  refine z_icmp_ne d_X6_expect_5 (fun c_5 => ?_) (fun c_5 => ?_)
  rotate_left
  · exact absurd c_5 (fun hh => k1 hh.symm)
  refine z_aload_n d_X6_expect_15 0 rfl ?_
  refine z_callV 1 c_X6_45 rfl rfl (y9_t_refF G x N R K r S T tl z h) rfl rfl (Nat.le_of_ble_eq_true rfl) rfl d_X6_expect_16 ?_
  rintro v16 w16 ⟨rfl, S16, T16, rfl, hT16, h16⟩
  exact z_vret _ d_X6_expect_19 rfl ⟨rfl, _, _, rfl, (hT16.trans rfl), h16⟩
set_option maxHeartbeats 4000000 in
set_option maxRecDepth 100000 in
theorem y9_f_X6_one (G : GT) (x : Nat → Nat) (N : Nat → Int32) (R : Nat → Nat → Int32) (K : Nat → Nat → Option Nat) (r : Nat → Nat) (S : Nat → Int32) (T : Nat → Nat → Int32) (tl : va_W) (a : Int32) (z : Nat) (h : RF z S)  : Ct G mX6_one 1 0 0 [.ref (x 1), .int a] (YW G x N R K r S T tl) (y9_RT G x N R K r (T 1) tl (fun S2 _ => RF z S2)) := by
  refine Ct.intro [(0, .ref (x 1)), (1, .int a)] (by decide) rfl (Nat.le_of_ble_eq_true rfl) ?_
  refine z_aload_n d_X6_one_0 0 rfl ?_
  refine z_get (v := .int (S 2)) (1) f_X6_42_6 rfl rfl d_X6_one_1 ?_
  refine z_top h.1 ?_
  refine z_iconst (v := 2) d_X6_one_4 (by decide) ?_
  refine z_icmp_eq d_X6_one_5 (fun c_5 => ?_) (fun c_5 => ?_)
  · exact absurd c_5 (by decide)
  refine z_aload_n d_X6_one_8 0 rfl ?_
  refine z_get (v := .int (S 2)) (1) f_X6_42_6 rfl rfl d_X6_one_9 ?_
  refine z_top h.1 ?_
  refine z_iconst (v := 3) d_X6_one_12 (by decide) ?_
  refine z_icmp_ne d_X6_one_13 (fun c_13 => ?_) (fun c_13 => ?_)
  rotate_left
  · exact absurd c_13 (by decide)
  refine z_aload_n d_X6_one_31 0 rfl ?_
  refine z_get (v := .int (S 2)) (1) f_X6_42_6 rfl rfl d_X6_one_32 ?_
  refine z_top h.1 ?_
  refine z_bipush (v := 45) d_X6_one_35 (by decide) ?_
  refine z_icmp_ne d_X6_one_37 (fun c_37 => ?_) (fun c_37 => ?_)
  rotate_left
  · exact absurd c_37 (by decide)
  refine z_aload_n d_X6_one_65 0 rfl ?_
  refine z_get (v := .int (S 2)) (1) f_X6_42_6 rfl rfl d_X6_one_66 ?_
  refine z_top h.1 ?_
  refine z_bipush (v := 40) d_X6_one_69 (by decide) ?_
  refine z_icmp_ne d_X6_one_71 (fun c_71 => ?_) (fun c_71 => ?_)
  rotate_left
  · exact absurd c_71 (by decide)
  refine z_aload_n d_X6_one_99 0 rfl ?_
  refine z_callV 1 c_X6_45 rfl rfl (y9_t_refF G x N R K r S T tl z h) rfl rfl (Nat.le_of_ble_eq_true rfl) rfl d_X6_one_100 ?_
  rintro v100 w100 ⟨rfl, S100, T100, rfl, hT100, h100⟩
  exact z_vret _ d_X6_one_103 rfl ⟨rfl, _, _, rfl, (hT100.trans rfl), h100⟩
theorem y9_F_X6_one (G : GT) (x : Nat → Nat) (N : Nat → Int32) (R : Nat → Nat → Int32) (K : Nat → Nat → Option Nat) (r : Nat → Nat) (tl : va_W) : y9_CtF G x N R K r tl mX6_one 1 := fun a z S T h => y9_f_X6_one G x N R K r S T tl a z h
set_option maxHeartbeats 4000000 in
set_option maxRecDepth 100000 in
theorem y9_f_X6_term (G : GT) (x : Nat → Nat) (N : Nat → Int32) (R : Nat → Nat → Int32) (K : Nat → Nat → Option Nat) (r : Nat → Nat) (S : Nat → Int32) (T : Nat → Nat → Int32) (tl : va_W) (a : Int32) (z : Nat) (h : RF z S)  : Ct G mX6_term 2 0 0 [.ref (x 1), .int a] (YW G x N R K r S T tl) (y9_RT G x N R K r (T 1) tl (fun S2 _ => RF z S2)) := by
  refine Ct.intro [(0, .ref (x 1)), (1, .int a)] (by decide) rfl (Nat.le_of_ble_eq_true rfl) ?_
  refine z_aload_n d_X6_term_0 0 rfl ?_
  refine z_iload_n d_X6_term_1 1 rfl ?_
  refine z_callV 1 c_X6_89 rfl rfl (y9_F_X6_one G x N R K r tl _ z S T h) rfl rfl (Nat.le_of_ble_eq_true rfl) rfl d_X6_term_2 ?_
  rintro v2 w2 ⟨rfl, S2, T2, rfl, hT2, h2⟩
  refine z_iconst (v := 0) d_X6_term_5 (by decide) ?_
  refine z_istore_n [(2, .int 0), (0, .ref (x 1)), (1, .int a)] d_X6_term_6 (by decide) rfl ?_
  refine z_iload_n d_X6_term_7 0 rfl ?_
  refine z_sipush (v := 160) d_X6_term_8 (by decide) ?_
  refine z_icmp_ge d_X6_term_11 (fun c_11 => ?_) (fun c_11 => ?_)
  · exact absurd c_11 (by decide)
  refine z_aload_n d_X6_term_14 1 rfl ?_
  refine z_get (v := .int (S2 2)) (1) f_X6_42_6 rfl rfl d_X6_term_15 ?_
  refine z_top h2.1 ?_
  refine z_bipush (v := 42) d_X6_term_18 (by decide) ?_
  refine z_icmp_ne d_X6_term_20 (fun c_20 => ?_) (fun c_20 => ?_)
  rotate_left
  · exact absurd c_20 (by decide)
  exact z_vret _ d_X6_term_44 rfl ⟨rfl, _, _, rfl, (hT2.trans rfl), h2⟩
theorem y9_F_X6_term (G : GT) (x : Nat → Nat) (N : Nat → Int32) (R : Nat → Nat → Int32) (K : Nat → Nat → Option Nat) (r : Nat → Nat) (tl : va_W) : y9_CtF G x N R K r tl mX6_term 2 := fun a z S T h => y9_f_X6_term G x N R K r S T tl a z h
set_option maxHeartbeats 4000000 in
set_option maxRecDepth 100000 in
theorem y9_f_X6_sum (G : GT) (x : Nat → Nat) (N : Nat → Int32) (R : Nat → Nat → Int32) (K : Nat → Nat → Option Nat) (r : Nat → Nat) (S : Nat → Int32) (T : Nat → Nat → Int32) (tl : va_W) (a : Int32) (z : Nat) (h : RF z S)  : Ct G mX6_sum 3 0 0 [.ref (x 1), .int a] (YW G x N R K r S T tl) (y9_RT G x N R K r (T 1) tl (fun S2 _ => RF z S2)) := by
  refine Ct.intro [(0, .ref (x 1)), (1, .int a)] (by decide) rfl (Nat.le_of_ble_eq_true rfl) ?_
  refine z_aload_n d_X6_sum_0 0 rfl ?_
  refine z_iload_n d_X6_sum_1 1 rfl ?_
  refine z_callV 1 c_X6_86 rfl rfl (y9_F_X6_term G x N R K r tl _ z S T h) rfl rfl (Nat.le_of_ble_eq_true rfl) rfl d_X6_sum_2 ?_
  rintro v2 w2 ⟨rfl, S2, T2, rfl, hT2, h2⟩
  refine z_iconst (v := 0) d_X6_sum_5 (by decide) ?_
  refine z_istore_n [(2, .int 0), (0, .ref (x 1)), (1, .int a)] d_X6_sum_6 (by decide) rfl ?_
  refine z_iload_n d_X6_sum_7 0 rfl ?_
  refine z_sipush (v := 160) d_X6_sum_8 (by decide) ?_
  refine z_icmp_ge d_X6_sum_11 (fun c_11 => ?_) (fun c_11 => ?_)
  · exact absurd c_11 (by decide)
  refine z_aload_n d_X6_sum_14 1 rfl ?_
  refine z_get (v := .int (S2 2)) (1) f_X6_42_6 rfl rfl d_X6_sum_15 ?_
  refine z_top h2.1 ?_
  refine z_bipush (v := 43) d_X6_sum_18 (by decide) ?_
  refine z_icmp_eq d_X6_sum_20 (fun c_20 => ?_) (fun c_20 => ?_)
  · exact absurd c_20 (by decide)
  refine z_aload_n d_X6_sum_23 1 rfl ?_
  refine z_get (v := .int (S2 2)) (1) f_X6_42_6 rfl rfl d_X6_sum_24 ?_
  refine z_top h2.1 ?_
  refine z_bipush (v := 45) d_X6_sum_27 (by decide) ?_
  refine z_icmp_ne d_X6_sum_29 (fun c_29 => ?_) (fun c_29 => ?_)
  rotate_left
  · exact absurd c_29 (by decide)
  exact z_vret _ d_X6_sum_69 rfl ⟨rfl, _, _, rfl, (hT2.trans rfl), h2⟩
theorem y9_F_X6_sum (G : GT) (x : Nat → Nat) (N : Nat → Int32) (R : Nat → Nat → Int32) (K : Nat → Nat → Option Nat) (r : Nat → Nat) (tl : va_W) : y9_CtF G x N R K r tl mX6_sum 3 := fun a z S T h => y9_f_X6_sum G x N R K r S T tl a z h
set_option maxHeartbeats 4000000 in
set_option maxRecDepth 100000 in
theorem y9_f_X6_denied (G : GT) (x : Nat → Nat) (N : Nat → Int32) (R : Nat → Nat → Int32) (K : Nat → Nat → Option Nat) (r : Nat → Nat) (S : Nat → Int32) (T : Nat → Nat → Int32) (tl : va_W) (a : Int32) (z : Nat) (h : RF z S)  : Ct G mX6_denied 4 0 0 [.ref (x 1), .int a] (YW G x N R K r S T tl) (y9_RT G x N R K r (T 1) tl (fun S2 _ => RF z S2)) := by
  refine Ct.intro [(0, .ref (x 1)), (1, .int a)] (by decide) rfl (Nat.le_of_ble_eq_true rfl) ?_
  refine z_aload_n d_X6_denied_0 0 rfl ?_
  refine z_get (v := .int (S 2)) (1) f_X6_42_6 rfl rfl d_X6_denied_1 ?_
  refine z_top h.1 ?_
  refine z_bipush (v := 9) d_X6_denied_4 (by decide) ?_
  refine z_icmp_ne d_X6_denied_6 (fun c_6 => ?_) (fun c_6 => ?_)
  rotate_left
  · exact absurd c_6 (by decide)
  refine z_aload_n d_X6_denied_32 0 rfl ?_
  refine z_iload_n d_X6_denied_33 1 rfl ?_
  refine z_callV 1 c_X6_83 rfl rfl (y9_F_X6_sum G x N R K r tl _ z S T h) rfl rfl (Nat.le_of_ble_eq_true rfl) rfl d_X6_denied_34 ?_
  rintro v34 w34 ⟨rfl, S34, T34, rfl, hT34, h34⟩
  refine z_aload_n d_X6_denied_37 0 rfl ?_
  refine z_get (v := .int (S34 2)) (1) f_X6_42_6 rfl rfl d_X6_denied_38 ?_
  refine z_top h34.1 ?_
  refine z_bipush (v := 60) d_X6_denied_41 (by decide) ?_
  refine z_icmp_eq d_X6_denied_43 (fun c_43 => ?_) (fun c_43 => ?_)
  · exact absurd c_43 (by decide)
  refine z_aload_n d_X6_denied_46 0 rfl ?_
  refine z_get (v := .int (S34 2)) (1) f_X6_42_6 rfl rfl d_X6_denied_47 ?_
  refine z_top h34.1 ?_
  refine z_bipush (v := 61) d_X6_denied_50 (by decide) ?_
  refine z_icmp_ne d_X6_denied_52 (fun c_52 => ?_) (fun c_52 => ?_)
  rotate_left
  · exact absurd c_52 (by decide)
  exact z_vret _ d_X6_denied_86 rfl ⟨rfl, _, _, rfl, (hT34.trans rfl), h34⟩
theorem y9_F_X6_denied (G : GT) (x : Nat → Nat) (N : Nat → Int32) (R : Nat → Nat → Int32) (K : Nat → Nat → Option Nat) (r : Nat → Nat) (tl : va_W) : y9_CtF G x N R K r tl mX6_denied 4 := fun a z S T h => y9_f_X6_denied G x N R K r S T tl a z h
set_option maxHeartbeats 4000000 in
set_option maxRecDepth 100000 in
theorem y9_f_X6_both (G : GT) (x : Nat → Nat) (N : Nat → Int32) (R : Nat → Nat → Int32) (K : Nat → Nat → Option Nat) (r : Nat → Nat) (S : Nat → Int32) (T : Nat → Nat → Int32) (tl : va_W) (a : Int32) (z : Nat) (h : RF z S)  : Ct G mX6_both 5 0 0 [.ref (x 1), .int a] (YW G x N R K r S T tl) (y9_RT G x N R K r (T 1) tl (fun S2 _ => RF z S2)) := by
  refine Ct.intro [(0, .ref (x 1)), (1, .int a)] (by decide) rfl (Nat.le_of_ble_eq_true rfl) ?_
  refine z_aload_n d_X6_both_0 0 rfl ?_
  refine z_iload_n d_X6_both_1 1 rfl ?_
  refine z_callV 1 c_X6_80 rfl rfl (y9_F_X6_denied G x N R K r tl _ z S T h) rfl rfl (Nat.le_of_ble_eq_true rfl) rfl d_X6_both_2 ?_
  rintro v2 w2 ⟨rfl, S2, T2, rfl, hT2, h2⟩
  refine z_iconst (v := 0) d_X6_both_5 (by decide) ?_
  refine z_istore_n [(2, .int 0), (0, .ref (x 1)), (1, .int a)] d_X6_both_6 (by decide) rfl ?_
  refine z_iload_n d_X6_both_7 0 rfl ?_
  refine z_sipush (v := 160) d_X6_both_8 (by decide) ?_
  refine z_icmp_ge d_X6_both_11 (fun c_11 => ?_) (fun c_11 => ?_)
  · exact absurd c_11 (by decide)
  refine z_aload_n d_X6_both_14 1 rfl ?_
  refine z_get (v := .int (S2 2)) (1) f_X6_42_6 rfl rfl d_X6_both_15 ?_
  refine z_top h2.1 ?_
  refine z_bipush (v := 8) d_X6_both_18 (by decide) ?_
  refine z_icmp_ne d_X6_both_20 (fun c_20 => ?_) (fun c_20 => ?_)
  rotate_left
  · exact absurd c_20 (by decide)
  exact z_vret _ d_X6_both_44 rfl ⟨rfl, _, _, rfl, (hT2.trans rfl), h2⟩
theorem y9_F_X6_both (G : GT) (x : Nat → Nat) (N : Nat → Int32) (R : Nat → Nat → Int32) (K : Nat → Nat → Option Nat) (r : Nat → Nat) (tl : va_W) : y9_CtF G x N R K r tl mX6_both 5 := fun a z S T h => y9_f_X6_both G x N R K r S T tl a z h
set_option maxHeartbeats 4000000 in
set_option maxRecDepth 100000 in
theorem y9_f_X6_either (G : GT) (x : Nat → Nat) (N : Nat → Int32) (R : Nat → Nat → Int32) (K : Nat → Nat → Option Nat) (r : Nat → Nat) (S : Nat → Int32) (T : Nat → Nat → Int32) (tl : va_W) (a : Int32) (z : Nat) (h : RF z S)  : Ct G mX6_either 6 0 0 [.ref (x 1), .int a] (YW G x N R K r S T tl) (y9_RT G x N R K r (T 1) tl (fun S2 _ => RF z S2)) := by
  refine Ct.intro [(0, .ref (x 1)), (1, .int a)] (by decide) rfl (Nat.le_of_ble_eq_true rfl) ?_
  refine z_aload_n d_X6_either_0 0 rfl ?_
  refine z_iload_n d_X6_either_1 1 rfl ?_
  refine z_callV 1 c_X6_74 rfl rfl (y9_F_X6_both G x N R K r tl _ z S T h) rfl rfl (Nat.le_of_ble_eq_true rfl) rfl d_X6_either_2 ?_
  rintro v2 w2 ⟨rfl, S2, T2, rfl, hT2, h2⟩
  refine z_iconst (v := 0) d_X6_either_5 (by decide) ?_
  refine z_istore_n [(2, .int 0), (0, .ref (x 1)), (1, .int a)] d_X6_either_6 (by decide) rfl ?_
  refine z_iload_n d_X6_either_7 0 rfl ?_
  refine z_sipush (v := 160) d_X6_either_8 (by decide) ?_
  refine z_icmp_ge d_X6_either_11 (fun c_11 => ?_) (fun c_11 => ?_)
  · exact absurd c_11 (by decide)
  refine z_aload_n d_X6_either_14 1 rfl ?_
  refine z_get (v := .int (S2 2)) (1) f_X6_42_6 rfl rfl d_X6_either_15 ?_
  refine z_top h2.1 ?_
  refine z_bipush (v := 7) d_X6_either_18 (by decide) ?_
  refine z_icmp_ne d_X6_either_20 (fun c_20 => ?_) (fun c_20 => ?_)
  rotate_left
  · exact absurd c_20 (by decide)
  exact z_vret _ d_X6_either_44 rfl ⟨rfl, _, _, rfl, (hT2.trans rfl), h2⟩
theorem y9_F_X6_either (G : GT) (x : Nat → Nat) (N : Nat → Int32) (R : Nat → Nat → Int32) (K : Nat → Nat → Option Nat) (r : Nat → Nat) (tl : va_W) : y9_CtF G x N R K r tl mX6_either 6 := fun a z S T h => y9_f_X6_either G x N R K r S T tl a z h
set_option maxHeartbeats 4000000 in
set_option maxRecDepth 100000 in
theorem y9_t_one0 (G : GT) (x : Nat → Nat) (N : Nat → Int32) (R : Nat → Nat → Int32) (K : Nat → Nat → Option Nat) (r : Nat → Nat) (S : Nat → Int32) (T : Nat → Nat → Int32) (tl : va_W) (B : Nat → Int32) (n : Nat) (hn : n ≤ 160) (h0 : N 0 = nI n) (hB : Tp B n (R 0)) (p : Nat) (c : List Int32) (hp : p ≤ n) (hc : c.length ≤ p) (h : RS B n p c S (T 0))  : Ct G mX6_one 9 0 0 [.ref (x 1), .int 5] (YW G x N R K r S T tl) (y9_RT G x N R K r (T 1) tl (RP B n c (oneP B n 0 p))) := by
  refine Ct.intro [(0, .ref (x 1)), (1, .int 5)] (by decide) rfl (Nat.le_of_ble_eq_true rfl) ?_
  refine z_aload_n d_X6_one_0 0 rfl ?_
  refine z_get (v := .int (S 2)) (1) f_X6_42_6 rfl rfl d_X6_one_1 ?_
  refine z_top h.1.2.1 ?_
  refine z_iconst (v := 2) d_X6_one_4 (by decide) ?_
  refine z_icmp_eq d_X6_one_5 (fun c_5 => ?_) (fun c_5 => ?_)
  · have hk0 := nx_tk (B := B) (n := n) (p := p) c_5 (by decide) (by decide)
    have hn0 := nx_le B hp
    refine z_aload_n d_X6_one_16 0 rfl ?_
    refine z_aload_n d_X6_one_17 0 rfl ?_
    refine z_get (v := .int (S 3)) (1) f_X6_92_6 rfl rfl d_X6_one_18 ?_
    refine z_top (h.1.2.2.1 (Or.inl c_5)) ?_
    refine z_callV 1 c_X6_77 rfl rfl (y9_t_emS G x N R K r S T tl B n p c (vlL B n p) h (by (try simp only [List.length_append, List.length_cons, List.length_nil]); omega)) rfl rfl (Nat.le_of_ble_eq_true rfl) rfl d_X6_one_21 ?_
    rintro v21 w21 ⟨rfl, S21, T21, rfl, hT21, h21⟩
    refine z_aload_n d_X6_one_24 0 rfl ?_
    have hk25 := nx_tk (B := B) (n := n) (p := p) c_5 (by decide) (by decide)
    have hn25 := nx_le B hp
    refine z_callV 1 c_X6_35 rfl rfl (y9_t_adv G x N R K r tl B n hn h0 hB p (c ++ [(vlL B n p)]) S21 T21 hp h21 (by rw [c_5]; decide)) rfl rfl (Nat.le_of_ble_eq_true rfl) rfl d_X6_one_25 ?_
    rintro v25 w25 ⟨rfl, S25, T25, rfl, hT25, h25⟩
    refine z_goto d_X6_one_28 ?_
    exact z_vret _ d_X6_one_103 rfl ⟨rfl, _, _, rfl, (hT25.trans (hT21.trans rfl)), RP.ok (by rw [oneP_0, onP]; rw [if_pos (Or.inl c_5)]) h25 (by simp only [List.append_assoc])⟩
  · refine z_aload_n d_X6_one_8 0 rfl ?_
    refine z_get (v := .int (S 2)) (1) f_X6_42_6 rfl rfl d_X6_one_9 ?_
    refine z_top h.1.2.1 ?_
    refine z_iconst (v := 3) d_X6_one_12 (by decide) ?_
    refine z_icmp_ne d_X6_one_13 (fun c_13 => ?_) (fun c_13 => ?_)
    · refine z_aload_n d_X6_one_31 0 rfl ?_
      refine z_get (v := .int (S 2)) (1) f_X6_42_6 rfl rfl d_X6_one_32 ?_
      refine z_top h.1.2.1 ?_
      refine z_bipush (v := 45) d_X6_one_35 (by decide) ?_
      refine z_icmp_ne d_X6_one_37 (fun c_37 => ?_) (fun c_37 => ?_)
      · refine z_aload_n d_X6_one_65 0 rfl ?_
        refine z_get (v := .int (S 2)) (1) f_X6_42_6 rfl rfl d_X6_one_66 ?_
        refine z_top h.1.2.1 ?_
        refine z_bipush (v := 40) d_X6_one_69 (by decide) ?_
        refine z_icmp_ne d_X6_one_71 (fun c_71 => ?_) (fun c_71 => ?_)
        · refine z_aload_n d_X6_one_99 0 rfl ?_
          refine z_callV 1 c_X6_45 rfl rfl (y9_t_refS G x N R K r S T tl B n hn h0 hB p c hp h (by (try simp only [List.length_append, List.length_cons, List.length_nil]); omega)) rfl rfl (Nat.le_of_ble_eq_true rfl) rfl d_X6_one_100 ?_
          rintro v100 w100 ⟨rfl, S100, T100, rfl, hT100, h100⟩
          exact z_vret _ d_X6_one_103 rfl ⟨rfl, _, _, rfl, (hT100.trans rfl), RP.bad (by rw [oneP_0, onP]; rw [if_neg (fun hh => hh.elim c_5 c_13)]; rw [if_neg (fun hh => c_37 hh.1), if_neg (fun hh => c_71 hh.1)]) h100⟩
        · refine z_iload_n d_X6_one_74 1 rfl ?_
          refine z_iconst (v := 5) d_X6_one_75 (by decide) ?_
          refine z_icmp_ge d_X6_one_76 (fun c_76 => ?_) (fun c_76 => ?_)
          rotate_left
          · exact absurd c_76 (by decide)
          refine z_aload_n d_X6_one_99 0 rfl ?_
          refine z_callV 1 c_X6_45 rfl rfl (y9_t_refS G x N R K r S T tl B n hn h0 hB p c hp h (by (try simp only [List.length_append, List.length_cons, List.length_nil]); omega)) rfl rfl (Nat.le_of_ble_eq_true rfl) rfl d_X6_one_100 ?_
          rintro v100 w100 ⟨rfl, S100, T100, rfl, hT100, h100⟩
          exact z_vret _ d_X6_one_103 rfl ⟨rfl, _, _, rfl, (hT100.trans rfl), RP.bad (by rw [oneP_0, onP]; rw [if_neg (fun hh => hh.elim c_5 c_13)]; rw [if_neg (fun hh => c_37 hh.1), if_neg (fun hh => absurd hh.2 (by decide))]) h100⟩
      · refine z_iload_n d_X6_one_40 1 rfl ?_
        refine z_iconst (v := 5) d_X6_one_41 (by decide) ?_
        refine z_icmp_ge d_X6_one_42 (fun c_42 => ?_) (fun c_42 => ?_)
        rotate_left
        · exact absurd c_42 (by decide)
        refine z_aload_n d_X6_one_65 0 rfl ?_
        refine z_get (v := .int (S 2)) (1) f_X6_42_6 rfl rfl d_X6_one_66 ?_
        refine z_top h.1.2.1 ?_
        refine z_bipush (v := 40) d_X6_one_69 (by decide) ?_
        refine z_icmp_ne d_X6_one_71 (fun c_71 => ?_) (fun c_71 => ?_)
        · refine z_aload_n d_X6_one_99 0 rfl ?_
          refine z_callV 1 c_X6_45 rfl rfl (y9_t_refS G x N R K r S T tl B n hn h0 hB p c hp h (by (try simp only [List.length_append, List.length_cons, List.length_nil]); omega)) rfl rfl (Nat.le_of_ble_eq_true rfl) rfl d_X6_one_100 ?_
          rintro v100 w100 ⟨rfl, S100, T100, rfl, hT100, h100⟩
          exact z_vret _ d_X6_one_103 rfl ⟨rfl, _, _, rfl, (hT100.trans rfl), RP.bad (by rw [oneP_0, onP]; rw [if_neg (fun hh => hh.elim c_5 c_13)]; rw [if_neg (fun hh => absurd hh.2 (by decide)), if_neg (fun hh => c_71 hh.1)]) h100⟩
        · refine z_iload_n d_X6_one_74 1 rfl ?_
          refine z_iconst (v := 5) d_X6_one_75 (by decide) ?_
          refine z_icmp_ge d_X6_one_76 (fun c_76 => ?_) (fun c_76 => ?_)
          rotate_left
          · exact absurd c_76 (by decide)
          refine z_aload_n d_X6_one_99 0 rfl ?_
          refine z_callV 1 c_X6_45 rfl rfl (y9_t_refS G x N R K r S T tl B n hn h0 hB p c hp h (by (try simp only [List.length_append, List.length_cons, List.length_nil]); omega)) rfl rfl (Nat.le_of_ble_eq_true rfl) rfl d_X6_one_100 ?_
          rintro v100 w100 ⟨rfl, S100, T100, rfl, hT100, h100⟩
          exact z_vret _ d_X6_one_103 rfl ⟨rfl, _, _, rfl, (hT100.trans rfl), RP.bad (by rw [oneP_0, onP]; rw [if_neg (fun hh => hh.elim c_5 c_13)]; rw [if_neg (fun hh => absurd hh.2 (by decide)), if_neg (fun hh => absurd hh.2 (by decide))]) h100⟩
    · have hk0 := nx_tk (B := B) (n := n) (p := p) c_13 (by decide) (by decide)
      have hn0 := nx_le B hp
      refine z_aload_n d_X6_one_16 0 rfl ?_
      refine z_aload_n d_X6_one_17 0 rfl ?_
      refine z_get (v := .int (S 3)) (1) f_X6_92_6 rfl rfl d_X6_one_18 ?_
      refine z_top (h.1.2.2.1 (Or.inr c_13)) ?_
      refine z_callV 1 c_X6_77 rfl rfl (y9_t_emS G x N R K r S T tl B n p c (vlL B n p) h (by (try simp only [List.length_append, List.length_cons, List.length_nil]); omega)) rfl rfl (Nat.le_of_ble_eq_true rfl) rfl d_X6_one_21 ?_
      rintro v21 w21 ⟨rfl, S21, T21, rfl, hT21, h21⟩
      refine z_aload_n d_X6_one_24 0 rfl ?_
      have hk25 := nx_tk (B := B) (n := n) (p := p) c_13 (by decide) (by decide)
      have hn25 := nx_le B hp
      refine z_callV 1 c_X6_35 rfl rfl (y9_t_adv G x N R K r tl B n hn h0 hB p (c ++ [(vlL B n p)]) S21 T21 hp h21 (by rw [c_13]; decide)) rfl rfl (Nat.le_of_ble_eq_true rfl) rfl d_X6_one_25 ?_
      rintro v25 w25 ⟨rfl, S25, T25, rfl, hT25, h25⟩
      refine z_goto d_X6_one_28 ?_
      exact z_vret _ d_X6_one_103 rfl ⟨rfl, _, _, rfl, (hT25.trans (hT21.trans rfl)), RP.ok (by rw [oneP_0, onP]; rw [if_pos (Or.inr c_13)]) h25 (by simp only [List.append_assoc])⟩
set_option maxHeartbeats 4000000 in
set_option maxRecDepth 100000 in
theorem y9_t_oneS (G : GT) (x : Nat → Nat) (N : Nat → Int32) (R : Nat → Nat → Int32) (K : Nat → Nat → Option Nat) (r : Nat → Nat) (S : Nat → Int32) (T : Nat → Nat → Int32) (tl : va_W) (B : Nat → Int32) (n : Nat) (hn : n ≤ 160) (h0 : N 0 = nI n) (hB : Tp B n (R 0)) (p : Nat) (c : List Int32) (hp : p ≤ n) (hc : c.length ≤ p) (h : RS B n p c S (T 0)) (d o de dn : Nat) (hd : d < 5) (hei : y9_CtR G x N R K r tl B n mX6_either de (nI (d + 1)) (eitP B n o)) (hon : y9_CtR G x N R K r tl B n mX6_one dn (nI (d + 1)) (oneP B n o)) (dp : Nat) (hd1 : 9 ≤ dp) (hd2 : de + 1 ≤ dp) (hd3 : dn + 1 ≤ dp)  : Ct G mX6_one dp 0 0 [.ref (x 1), .int (nI d)] (YW G x N R K r S T tl) (y9_RT G x N R K r (T 1) tl (RP B n c (oneP B n (o + 1) p))) := by
  refine Ct.intro [(0, .ref (x 1)), (1, .int (nI d))] (by decide) rfl (Nat.le_of_ble_eq_true rfl) ?_
  refine z_aload_n d_X6_one_0 0 rfl ?_
  refine z_get (v := .int (S 2)) (1) f_X6_42_6 rfl rfl d_X6_one_1 ?_
  refine z_top h.1.2.1 ?_
  refine z_iconst (v := 2) d_X6_one_4 (by decide) ?_
  refine z_icmp_eq d_X6_one_5 (fun c_5 => ?_) (fun c_5 => ?_)
  · have hk0 := nx_tk (B := B) (n := n) (p := p) c_5 (by decide) (by decide)
    have hn0 := nx_le B hp
    refine z_aload_n d_X6_one_16 0 rfl ?_
    refine z_aload_n d_X6_one_17 0 rfl ?_
    refine z_get (v := .int (S 3)) (1) f_X6_92_6 rfl rfl d_X6_one_18 ?_
    refine z_top (h.1.2.2.1 (Or.inl c_5)) ?_
    refine z_callV 1 c_X6_77 rfl rfl (y9_t_emS G x N R K r S T tl B n p c (vlL B n p) h (by (try simp only [List.length_append, List.length_cons, List.length_nil]); omega)) rfl rfl (Nat.le_of_ble_eq_true rfl) (rm_le (by omega)) d_X6_one_21 ?_
    rintro v21 w21 ⟨rfl, S21, T21, rfl, hT21, h21⟩
    refine z_aload_n d_X6_one_24 0 rfl ?_
    have hk25 := nx_tk (B := B) (n := n) (p := p) c_5 (by decide) (by decide)
    have hn25 := nx_le B hp
    refine z_callV 1 c_X6_35 rfl rfl (y9_t_adv G x N R K r tl B n hn h0 hB p (c ++ [(vlL B n p)]) S21 T21 hp h21 (by rw [c_5]; decide)) rfl rfl (Nat.le_of_ble_eq_true rfl) (rm_le (by omega)) d_X6_one_25 ?_
    rintro v25 w25 ⟨rfl, S25, T25, rfl, hT25, h25⟩
    refine z_goto d_X6_one_28 ?_
    exact z_vret _ d_X6_one_103 rfl ⟨rfl, _, _, rfl, (hT25.trans (hT21.trans rfl)), RP.ok (by rw [oneP_s, onP]; rw [if_pos (Or.inl c_5)]) h25 (by simp only [List.append_assoc])⟩
  · refine z_aload_n d_X6_one_8 0 rfl ?_
    refine z_get (v := .int (S 2)) (1) f_X6_42_6 rfl rfl d_X6_one_9 ?_
    refine z_top h.1.2.1 ?_
    refine z_iconst (v := 3) d_X6_one_12 (by decide) ?_
    refine z_icmp_ne d_X6_one_13 (fun c_13 => ?_) (fun c_13 => ?_)
    · refine z_aload_n d_X6_one_31 0 rfl ?_
      refine z_get (v := .int (S 2)) (1) f_X6_42_6 rfl rfl d_X6_one_32 ?_
      refine z_top h.1.2.1 ?_
      refine z_bipush (v := 45) d_X6_one_35 (by decide) ?_
      refine z_icmp_ne d_X6_one_37 (fun c_37 => ?_) (fun c_37 => ?_)
      · refine z_aload_n d_X6_one_65 0 rfl ?_
        refine z_get (v := .int (S 2)) (1) f_X6_42_6 rfl rfl d_X6_one_66 ?_
        refine z_top h.1.2.1 ?_
        refine z_bipush (v := 40) d_X6_one_69 (by decide) ?_
        refine z_icmp_ne d_X6_one_71 (fun c_71 => ?_) (fun c_71 => ?_)
        · refine z_aload_n d_X6_one_99 0 rfl ?_
          refine z_callV 1 c_X6_45 rfl rfl (y9_t_refS G x N R K r S T tl B n hn h0 hB p c hp h (by (try simp only [List.length_append, List.length_cons, List.length_nil]); omega)) rfl rfl (Nat.le_of_ble_eq_true rfl) (rm_le (by omega)) d_X6_one_100 ?_
          rintro v100 w100 ⟨rfl, S100, T100, rfl, hT100, h100⟩
          exact z_vret _ d_X6_one_103 rfl ⟨rfl, _, _, rfl, (hT100.trans rfl), RP.bad (by rw [oneP_s, onP]; rw [if_neg (fun hh => hh.elim c_5 c_13)]; rw [if_neg (fun hh => c_37 hh.1), if_neg (fun hh => c_71 hh.1)]) h100⟩
        · refine z_iload_n d_X6_one_74 1 rfl ?_
          refine z_iconst (v := 5) d_X6_one_75 (by decide) ?_
          refine z_icmp_ge d_X6_one_76 (fun c_76 => ?_) (fun c_76 => ?_)
          · exact absurd c_76 (by rw [show (5 : Int32) = nI 5 from rfl]; intro hh; have := ge_nI (by omega) (by decide) hh; omega)
          refine z_aload_n d_X6_one_79 0 rfl ?_
          have hk80 := nx_tk (B := B) (n := n) (p := p) c_71 (by decide) (by decide)
          have hn80 := nx_le B hp
          refine z_callV 1 c_X6_35 rfl rfl (y9_t_adv G x N R K r tl B n hn h0 hB p c S T hp h (by rw [c_71]; decide)) rfl rfl (Nat.le_of_ble_eq_true rfl) (rm_le (by omega)) d_X6_one_80 ?_
          rintro v80 w80 ⟨rfl, S80, T80, rfl, hT80, h80⟩
          refine z_aload_n d_X6_one_83 0 rfl ?_
          refine z_iload_n d_X6_one_84 1 rfl ?_
          refine z_iconst (v := 1) d_X6_one_85 (by decide) ?_
          refine z_iadd d_X6_one_86 ?_
          refine z_top (nI_1 d) ?_
          refine z_callV 1 c_X6_68 rfl rfl (hei (nxL B n p) c S80 T80 (nx_le B hp) (by (try simp only [List.length_append, List.length_cons, List.length_nil]); omega) h80) rfl rfl (Nat.le_of_ble_eq_true rfl) (rm_le (by omega)) d_X6_one_87 ?_
          rintro v87 w87 ⟨rfl, S87, T87, rfl, hT87, h87⟩
          rcases hr87 : eitP B n o (nxL B n p) with f87 | ⟨c87, q87⟩
          · rw [hr87] at h87
            replace h87 : RF f87 S87 := h87
            refine z_aload_n d_X6_one_90 0 rfl ?_
            refine z_bipush (v := 41) d_X6_one_91 (by decide) ?_
            refine z_callV 1 c_X6_64 rfl rfl (y9_t_expF G x N R K r S87 T87 tl f87 41 h87 (by decide)) rfl rfl (Nat.le_of_ble_eq_true rfl) (rm_le (by omega)) d_X6_one_93 ?_
            rintro v93 w93 ⟨rfl, S93, T93, rfl, hT93, h93⟩
            refine z_goto d_X6_one_96 ?_
            exact z_vret _ d_X6_one_103 rfl ⟨rfl, _, _, rfl, (hT93.trans (hT87.trans (hT80.trans rfl))), RP.bad (by rw [oneP_s, onP]; rw [if_neg (fun hh => hh.elim c_5 c_13)]; rw [if_neg (fun hh => c_37 hh.1), if_pos ⟨c_71, rfl⟩, hr87]) h93⟩
          · rw [hr87] at h87
            replace h87 : RS B n q87 (c ++ c87) S87 (T87 0) := h87
            have hg87 := ((lv_gd B n o).2.2 _ (nx_le B hp)).1 c87 q87 hr87
            have ga87 := hg87.1
            have gb87 := hg87.2.1
            have gc87 := hg87.2.2.1
            refine z_aload_n d_X6_one_90 0 rfl ?_
            refine z_bipush (v := 41) d_X6_one_91 (by decide) ?_
            refine z_callV 1 c_X6_64 rfl rfl (y9_t_expS G x N R K r S87 T87 tl B n hn h0 hB q87 (c ++ c87) 41 hg87.2.1 (by (try simp only [List.length_append, List.length_cons, List.length_nil]); omega) (by decide) (by decide) h87) rfl rfl (Nat.le_of_ble_eq_true rfl) (rm_le (by omega)) d_X6_one_93 ?_
            rintro v93 w93 ⟨rfl, S93, T93, rfl, hT93, h93⟩
            by_cases he93 : tkL B n q87 = 41
            · replace h93 : RS B n (nxL B n q87) (c ++ c87) S93 (T93 0) := (if_pos he93).mp h93
              have hk93 := nx_tk (B := B) (n := n) (p := q87) he93 (by decide) (by decide)
              have hn93 := nx_le B hg87.2.1
              refine z_goto d_X6_one_96 ?_
              exact z_vret _ d_X6_one_103 rfl ⟨rfl, _, _, rfl, (hT93.trans (hT87.trans (hT80.trans rfl))), RP.ok (by rw [oneP_s, onP]; rw [if_neg (fun hh => hh.elim c_5 c_13)]; rw [if_neg (fun hh => c_37 hh.1), if_pos ⟨c_71, rfl⟩, hr87]; exact if_pos he93) h93 (by simp only [List.append_assoc])⟩
            · replace h93 : RF (stL B n q87) S93 := (if_neg he93).mp h93
              refine z_goto d_X6_one_96 ?_
              exact z_vret _ d_X6_one_103 rfl ⟨rfl, _, _, rfl, (hT93.trans (hT87.trans (hT80.trans rfl))), RP.bad (by rw [oneP_s, onP]; rw [if_neg (fun hh => hh.elim c_5 c_13)]; rw [if_neg (fun hh => c_37 hh.1), if_pos ⟨c_71, rfl⟩, hr87]; exact if_neg he93) h93⟩
      · refine z_iload_n d_X6_one_40 1 rfl ?_
        refine z_iconst (v := 5) d_X6_one_41 (by decide) ?_
        refine z_icmp_ge d_X6_one_42 (fun c_42 => ?_) (fun c_42 => ?_)
        · exact absurd c_42 (by rw [show (5 : Int32) = nI 5 from rfl]; intro hh; have := ge_nI (by omega) (by decide) hh; omega)
        refine z_aload_n d_X6_one_45 0 rfl ?_
        have hk46 := nx_tk (B := B) (n := n) (p := p) c_37 (by decide) (by decide)
        have hn46 := nx_le B hp
        refine z_callV 1 c_X6_35 rfl rfl (y9_t_adv G x N R K r tl B n hn h0 hB p c S T hp h (by rw [c_37]; decide)) rfl rfl (Nat.le_of_ble_eq_true rfl) (rm_le (by omega)) d_X6_one_46 ?_
        rintro v46 w46 ⟨rfl, S46, T46, rfl, hT46, h46⟩
        refine z_aload_n d_X6_one_49 0 rfl ?_
        refine z_iload_n d_X6_one_50 1 rfl ?_
        refine z_iconst (v := 1) d_X6_one_51 (by decide) ?_
        refine z_iadd d_X6_one_52 ?_
        refine z_top (nI_1 d) ?_
        refine z_callV 1 c_X6_89 rfl rfl (hon (nxL B n p) c S46 T46 (nx_le B hp) (by (try simp only [List.length_append, List.length_cons, List.length_nil]); omega) h46) rfl rfl (Nat.le_of_ble_eq_true rfl) (rm_le (by omega)) d_X6_one_53 ?_
        rintro v53 w53 ⟨rfl, S53, T53, rfl, hT53, h53⟩
        rcases hr53 : oneP B n o (nxL B n p) with f53 | ⟨c53, q53⟩
        · rw [hr53] at h53
          replace h53 : RF f53 S53 := h53
          refine z_aload_n d_X6_one_56 0 rfl ?_
          refine z_bipush (v := -15) d_X6_one_57 (by decide) ?_
          refine z_callV 1 c_X6_77 rfl rfl (y9_t_emF G x N R K r S53 T53 tl f53 (-15) h53) rfl rfl (Nat.le_of_ble_eq_true rfl) (rm_le (by omega)) d_X6_one_59 ?_
          rintro v59 w59 ⟨rfl, S59, T59, rfl, hT59, h59⟩
          refine z_goto d_X6_one_62 ?_
          exact z_vret _ d_X6_one_103 rfl ⟨rfl, _, _, rfl, (hT59.trans (hT53.trans (hT46.trans rfl))), RP.bad (by rw [oneP_s, onP]; rw [if_neg (fun hh => hh.elim c_5 c_13)]; rw [if_pos ⟨c_37, rfl⟩, hr53]) h59⟩
        · rw [hr53] at h53
          replace h53 : RS B n q53 (c ++ c53) S53 (T53 0) := h53
          have hg53 := ((lv_gd B n o).1 _ (nx_le B hp)).1 c53 q53 hr53
          have ga53 := hg53.1
          have gb53 := hg53.2.1
          have gc53 := hg53.2.2.1
          refine z_aload_n d_X6_one_56 0 rfl ?_
          refine z_bipush (v := -15) d_X6_one_57 (by decide) ?_
          refine z_callV 1 c_X6_77 rfl rfl (y9_t_emS G x N R K r S53 T53 tl B n q53 (c ++ c53) (-15) h53 (by (try simp only [List.length_append, List.length_cons, List.length_nil]); omega)) rfl rfl (Nat.le_of_ble_eq_true rfl) (rm_le (by omega)) d_X6_one_59 ?_
          rintro v59 w59 ⟨rfl, S59, T59, rfl, hT59, h59⟩
          refine z_goto d_X6_one_62 ?_
          exact z_vret _ d_X6_one_103 rfl ⟨rfl, _, _, rfl, (hT59.trans (hT53.trans (hT46.trans rfl))), RP.ok (by rw [oneP_s, onP]; rw [if_neg (fun hh => hh.elim c_5 c_13)]; rw [if_pos ⟨c_37, rfl⟩, hr53]) h59 (by simp only [List.append_assoc])⟩
    · have hk0 := nx_tk (B := B) (n := n) (p := p) c_13 (by decide) (by decide)
      have hn0 := nx_le B hp
      refine z_aload_n d_X6_one_16 0 rfl ?_
      refine z_aload_n d_X6_one_17 0 rfl ?_
      refine z_get (v := .int (S 3)) (1) f_X6_92_6 rfl rfl d_X6_one_18 ?_
      refine z_top (h.1.2.2.1 (Or.inr c_13)) ?_
      refine z_callV 1 c_X6_77 rfl rfl (y9_t_emS G x N R K r S T tl B n p c (vlL B n p) h (by (try simp only [List.length_append, List.length_cons, List.length_nil]); omega)) rfl rfl (Nat.le_of_ble_eq_true rfl) (rm_le (by omega)) d_X6_one_21 ?_
      rintro v21 w21 ⟨rfl, S21, T21, rfl, hT21, h21⟩
      refine z_aload_n d_X6_one_24 0 rfl ?_
      have hk25 := nx_tk (B := B) (n := n) (p := p) c_13 (by decide) (by decide)
      have hn25 := nx_le B hp
      refine z_callV 1 c_X6_35 rfl rfl (y9_t_adv G x N R K r tl B n hn h0 hB p (c ++ [(vlL B n p)]) S21 T21 hp h21 (by rw [c_13]; decide)) rfl rfl (Nat.le_of_ble_eq_true rfl) (rm_le (by omega)) d_X6_one_25 ?_
      rintro v25 w25 ⟨rfl, S25, T25, rfl, hT25, h25⟩
      refine z_goto d_X6_one_28 ?_
      exact z_vret _ d_X6_one_103 rfl ⟨rfl, _, _, rfl, (hT25.trans (hT21.trans rfl)), RP.ok (by rw [oneP_s, onP]; rw [if_pos (Or.inr c_13)]) h25 (by simp only [List.append_assoc])⟩
set_option maxHeartbeats 4000000 in
set_option maxRecDepth 100000 in
theorem y9_lr_term (G : GT) (x : Nat → Nat) (N : Nat → Int32) (R : Nat → Nat → Int32) (K : Nat → Nat → Option Nat) (r : Nat → Nat) (tl : va_W) (B : Nat → Int32) (n : Nat) (hn : n ≤ 160) (h0 : N 0 = nI n) (hB : Tp B n (R 0)) (T1 : Nat → Int32) (c0 : List Int32) (d : Nat) (P : Nat → PR) (dn : Nat) (hP : y9_CtR G x N R K r tl B n mX6_one dn (nI d) P) (gd : GdP n P) (dp : Nat) (hd1 : 9 ≤ dp) (hd2 : dn + 1 ≤ dp) : ∀ (f : Nat)  (i : Nat) (c : List Int32) (q : Nat) (S : Nat → Int32) (T : Nat → Nat → Int32) (hT : T 1 = T1) (h : RS B n q (c0 ++ c) S (T 0)) (hq : q ≤ n) (hc : c0.length + c.length ≤ q) (hi : i ≤ q) (hm : n < q + f), Tr G mX6_term (Rm dp 0 0) (OM G (y9_RT G x N R K r T1 tl (RP B n c0 (lpS B n opT P f c q))) 0 0) 0 0 7 [(2, .int (nI i)), (0, .ref (x 1)), (1, .int (nI d))] [] (YW G x N R K r S T tl) := by
  intro f
  induction f with
  | zero =>
    intro i c q S T hT h hq hc hi hm
    exact absurd hm (by omega)
  | succ f ih =>
    intro i c q S T hT h hq hc hi hm
    refine z_iload_n d_X6_term_7 0 rfl ?_
    refine z_sipush (v := 160) d_X6_term_8 (by decide) ?_
    refine z_icmp_ge d_X6_term_11 (fun c_11 => ?_) (fun c_11 => ?_)
    · have hop : opT (tkL B n q) = 0 := op_end opT_ok hq hn hi c_11
      exact z_vret _ d_X6_term_44 rfl ⟨rfl, _, _, rfl, hT, RP.ok (by rw [lpS, if_pos hop]) h rfl⟩
    · refine z_aload_n d_X6_term_14 1 rfl ?_
      refine z_get (v := .int (S 2)) (1) f_X6_42_6 rfl rfl d_X6_term_15 ?_
      refine z_top h.1.2.1 ?_
      refine z_bipush (v := 42) d_X6_term_18 (by decide) ?_
      refine z_icmp_ne d_X6_term_20 (fun c_20 => ?_) (fun c_20 => ?_)
      · have hop : opT (tkL B n q) = 0 := by unfold opT; rw [if_neg c_20]
        exact z_vret _ d_X6_term_44 rfl ⟨rfl, _, _, rfl, hT, RP.ok (by rw [lpS, if_pos hop]) h rfl⟩
      · have hop : opT (tkL B n q) = -14 := by rw [c_20]; rfl
        refine z_aload_n d_X6_term_23 1 rfl ?_
        have hk24 := nx_tk (B := B) (n := n) (p := q) c_20 (by decide) (by decide)
        have hn24 := nx_le B hq
        refine z_callV 1 c_X6_35 rfl rfl (y9_t_adv G x N R K r tl B n hn h0 hB q (c0 ++ c) S T hq h (by rw [c_20]; decide)) rfl rfl (Nat.le_of_ble_eq_true rfl) (rm_le (by omega)) d_X6_term_24 ?_
        rintro v24 w24 ⟨rfl, S24, T24, rfl, hT24, h24⟩
        refine z_aload_n d_X6_term_27 1 rfl ?_
        refine z_iload_n d_X6_term_28 2 rfl ?_
        refine z_callV 1 c_X6_89 rfl rfl (hP (nxL B n q) (c0 ++ c) S24 T24 (nx_le B hq) (by (try simp only [List.length_append, List.length_cons, List.length_nil]); omega) h24) rfl rfl (Nat.le_of_ble_eq_true rfl) (rm_le (by omega)) d_X6_term_29 ?_
        rintro v29 w29 ⟨rfl, S29, T29, rfl, hT29, h29⟩
        rcases hr29 : P (nxL B n q) with f29 | ⟨c29, q29⟩
        · rw [hr29] at h29
          replace h29 : RF f29 S29 := h29
          refine z_aload_n d_X6_term_32 1 rfl ?_
          refine z_bipush (v := -14) d_X6_term_33 (by decide) ?_
          refine z_callV 1 c_X6_77 rfl rfl (y9_t_emF G x N R K r S29 T29 tl f29 (-14) h29) rfl rfl (Nat.le_of_ble_eq_true rfl) (rm_le (by omega)) d_X6_term_35 ?_
          rintro v35 w35 ⟨rfl, S35, T35, rfl, hT35, h35⟩
          refine z_iinc (nI (i + 1)) [(2, .int (nI (i + 1))), (0, .ref (x 1)), (1, .int (nI d))] 0 d_X6_term_38 rfl (nI_1 _) (by decide) rfl ?_
          refine z_goto d_X6_term_41 ?_
          refine z_iload_n d_X6_term_7 0 rfl ?_
          refine z_sipush (v := 160) d_X6_term_8 (by decide) ?_
          refine z_icmp_ge d_X6_term_11 (fun c_11 => ?_) (fun c_11 => ?_)
          · exact z_vret _ d_X6_term_44 rfl ⟨rfl, _, _, rfl, (hT35.trans (hT29.trans (hT24.trans hT))), RP.bad (by rw [lpS, if_neg (by rw [hop]; decide), hr29]) h35⟩
          · refine z_aload_n d_X6_term_14 1 rfl ?_
            refine z_get (v := .int (S35 2)) (1) f_X6_42_6 rfl rfl d_X6_term_15 ?_
            refine z_top h35.1 ?_
            refine z_bipush (v := 42) d_X6_term_18 (by decide) ?_
            refine z_icmp_ne d_X6_term_20 (fun c_20 => ?_) (fun c_20 => ?_)
            rotate_left
            · exact absurd c_20 (by decide)
            exact z_vret _ d_X6_term_44 rfl ⟨rfl, _, _, rfl, (hT35.trans (hT29.trans (hT24.trans hT))), RP.bad (by rw [lpS, if_neg (by rw [hop]; decide), hr29]) h35⟩
        · rw [hr29] at h29
          replace h29 : RS B n q29 ((c0 ++ c) ++ c29) S29 (T29 0) := h29
          have hg29 := (gd _ (nx_le B hq)).1 c29 q29 hr29
          have ga29 := hg29.1
          have gb29 := hg29.2.1
          have gc29 := hg29.2.2.1
          refine z_aload_n d_X6_term_32 1 rfl ?_
          refine z_bipush (v := -14) d_X6_term_33 (by decide) ?_
          refine z_callV 1 c_X6_77 rfl rfl (y9_t_emS G x N R K r S29 T29 tl B n q29 ((c0 ++ c) ++ c29) (-14) h29 (by (try simp only [List.length_append, List.length_cons, List.length_nil]); omega)) rfl rfl (Nat.le_of_ble_eq_true rfl) (rm_le (by omega)) d_X6_term_35 ?_
          rintro v35 w35 ⟨rfl, S35, T35, rfl, hT35, h35⟩
          refine z_iinc (nI (i + 1)) [(2, .int (nI (i + 1))), (0, .ref (x 1)), (1, .int (nI d))] 0 d_X6_term_38 rfl (nI_1 _) (by decide) rfl ?_
          refine z_goto d_X6_term_41 ?_
          have e9 : lpS B n opT P (f + 1) c q = lpS B n opT P f (c ++ c29 ++ [-14]) q29 := by rw [lpS, if_neg (by rw [hop]; decide), hr29, hop]
          rw [e9]
          exact ih (i + 1) (c ++ c29 ++ [-14]) q29 S35 T35 (hT35.trans (hT29.trans (hT24.trans hT))) (by rw [← List.append_assoc, ← List.append_assoc]; exact h35) gb29 (by (try simp only [List.length_append, List.length_cons, List.length_nil]); omega) (by omega) (by omega)
set_option maxHeartbeats 4000000 in
set_option maxRecDepth 100000 in
theorem y9_t_X6_term (G : GT) (x : Nat → Nat) (N : Nat → Int32) (R : Nat → Nat → Int32) (K : Nat → Nat → Option Nat) (r : Nat → Nat) (S : Nat → Int32) (T : Nat → Nat → Int32) (tl : va_W) (B : Nat → Int32) (n : Nat) (hn : n ≤ 160) (h0 : N 0 = nI n) (hB : Tp B n (R 0)) (p : Nat) (c : List Int32) (hp : p ≤ n) (hc : c.length ≤ p) (h : RS B n p c S (T 0)) (d : Nat) (P : Nat → PR) (dn : Nat) (hP : y9_CtR G x N R K r tl B n mX6_one dn (nI d) P) (gd : GdP n P) (dp : Nat) (hd1 : 9 ≤ dp) (hd2 : dn + 1 ≤ dp)  : Ct G mX6_term dp 0 0 [.ref (x 1), .int (nI d)] (YW G x N R K r S T tl) (y9_RT G x N R K r (T 1) tl (RP B n c (thL B n P opT p))) := by
  refine Ct.intro [(0, .ref (x 1)), (1, .int (nI d))] (by decide) rfl (Nat.le_of_ble_eq_true rfl) ?_
  refine z_aload_n d_X6_term_0 0 rfl ?_
  refine z_iload_n d_X6_term_1 1 rfl ?_
  refine z_callV 1 c_X6_89 rfl rfl (hP p c S T hp (by (try simp only [List.length_append, List.length_cons, List.length_nil]); omega) h) rfl rfl (Nat.le_of_ble_eq_true rfl) (rm_le (by omega)) d_X6_term_2 ?_
  rintro v2 w2 ⟨rfl, S2, T2, rfl, hT2, h2⟩
  rcases hr2 : P p with f2 | ⟨c2, q2⟩
  · rw [hr2] at h2
    replace h2 : RF f2 S2 := h2
    refine z_iconst (v := 0) d_X6_term_5 (by decide) ?_
    refine z_istore_n [(2, .int 0), (0, .ref (x 1)), (1, .int (nI d))] d_X6_term_6 (by decide) rfl ?_
    refine z_iload_n d_X6_term_7 0 rfl ?_
    refine z_sipush (v := 160) d_X6_term_8 (by decide) ?_
    refine z_icmp_ge d_X6_term_11 (fun c_11 => ?_) (fun c_11 => ?_)
    · exact absurd c_11 (by decide)
    refine z_aload_n d_X6_term_14 1 rfl ?_
    refine z_get (v := .int (S2 2)) (1) f_X6_42_6 rfl rfl d_X6_term_15 ?_
    refine z_top h2.1 ?_
    refine z_bipush (v := 42) d_X6_term_18 (by decide) ?_
    refine z_icmp_ne d_X6_term_20 (fun c_20 => ?_) (fun c_20 => ?_)
    rotate_left
    · exact absurd c_20 (by decide)
    exact z_vret _ d_X6_term_44 rfl ⟨rfl, _, _, rfl, (hT2.trans rfl), RP.bad (by rw [thL, hr2]) h2⟩
  · rw [hr2] at h2
    replace h2 : RS B n q2 (c ++ c2) S2 (T2 0) := h2
    have hg2 := (gd _ hp).1 c2 q2 hr2
    have ga2 := hg2.1
    have gb2 := hg2.2.1
    have gc2 := hg2.2.2.1
    refine z_iconst (v := 0) d_X6_term_5 (by decide) ?_
    refine z_istore_n [(2, .int 0), (0, .ref (x 1)), (1, .int (nI d))] d_X6_term_6 (by decide) rfl ?_
    have e9 : thL B n P opT p = lpS B n opT P (n + 1) c2 q2 := by rw [thL, hr2]
    rw [e9]
    exact y9_lr_term G x N R K r tl B n hn h0 hB (T 1) c d P dn hP gd dp hd1 hd2 (n + 1) 0 c2 q2 S2 T2 (hT2.trans rfl) h2 gb2 (by (try simp only [List.length_append, List.length_cons, List.length_nil]); omega) (by omega) (by omega)
theorem y9_P_term (G : GT) (x : Nat → Nat) (N : Nat → Int32) (R : Nat → Nat → Int32) (K : Nat → Nat → Option Nat) (r : Nat → Nat) (tl : va_W) (B : Nat → Int32) (n : Nat) (hn : n ≤ 160) (h0 : N 0 = nI n) (hB : Tp B n (R 0)) (d : Nat) (P : Nat → PR) (dn : Nat) (hP : y9_CtR G x N R K r tl B n mX6_one dn (nI d) P) (gd : GdP n P) (dp : Nat) (hd1 : 9 ≤ dp) (hd2 : dn + 1 ≤ dp) : y9_CtR G x N R K r tl B n mX6_term dp (nI d) (thL B n P opT) := fun p c S T hp hc h => y9_t_X6_term G x N R K r S T tl B n hn h0 hB p c hp hc h d P dn hP gd dp hd1 hd2
set_option maxHeartbeats 4000000 in
set_option maxRecDepth 100000 in
theorem y9_lr_sum (G : GT) (x : Nat → Nat) (N : Nat → Int32) (R : Nat → Nat → Int32) (K : Nat → Nat → Option Nat) (r : Nat → Nat) (tl : va_W) (B : Nat → Int32) (n : Nat) (hn : n ≤ 160) (h0 : N 0 = nI n) (hB : Tp B n (R 0)) (T1 : Nat → Int32) (c0 : List Int32) (d : Nat) (P : Nat → PR) (dn : Nat) (hP : y9_CtR G x N R K r tl B n mX6_term dn (nI d) P) (gd : GdP n P) (dp : Nat) (hd1 : 9 ≤ dp) (hd2 : dn + 1 ≤ dp) : ∀ (f : Nat)  (i : Nat) (c : List Int32) (q : Nat) (S : Nat → Int32) (T : Nat → Nat → Int32) (hT : T 1 = T1) (h : RS B n q (c0 ++ c) S (T 0)) (hq : q ≤ n) (hc : c0.length + c.length ≤ q) (hi : i ≤ q) (hm : n < q + f), Tr G mX6_sum (Rm dp 0 0) (OM G (y9_RT G x N R K r T1 tl (RP B n c0 (lpS B n opA P f c q))) 0 0) 0 0 7 [(2, .int (nI i)), (0, .ref (x 1)), (1, .int (nI d))] [] (YW G x N R K r S T tl) := by
  intro f
  induction f with
  | zero =>
    intro i c q S T hT h hq hc hi hm
    exact absurd hm (by omega)
  | succ f ih =>
    intro i c q S T hT h hq hc hi hm
    refine z_iload_n d_X6_sum_7 0 rfl ?_
    refine z_sipush (v := 160) d_X6_sum_8 (by decide) ?_
    refine z_icmp_ge d_X6_sum_11 (fun c_11 => ?_) (fun c_11 => ?_)
    · have hop : opA (tkL B n q) = 0 := op_end opA_ok hq hn hi c_11
      exact z_vret _ d_X6_sum_69 rfl ⟨rfl, _, _, rfl, hT, RP.ok (by rw [lpS, if_pos hop]) h rfl⟩
    · refine z_aload_n d_X6_sum_14 1 rfl ?_
      refine z_get (v := .int (S 2)) (1) f_X6_42_6 rfl rfl d_X6_sum_15 ?_
      refine z_top h.1.2.1 ?_
      refine z_bipush (v := 43) d_X6_sum_18 (by decide) ?_
      refine z_icmp_eq d_X6_sum_20 (fun c_20 => ?_) (fun c_20 => ?_)
      · have hop : opA (tkL B n q) = -12 := by rw [c_20]; rfl
        refine z_aload_n d_X6_sum_32 1 rfl ?_
        refine z_get (v := .int (S 2)) (1) f_X6_42_6 rfl rfl d_X6_sum_33 ?_
        refine z_top h.1.2.1 ?_
        refine z_bipush (v := 43) d_X6_sum_36 (by decide) ?_
        refine z_icmp_ne d_X6_sum_38 (fun c_38 => ?_) (fun c_38 => ?_)
        · exact absurd c_38 (fun hh => hh c_20)
        refine z_bipush (v := -12) d_X6_sum_41 (by decide) ?_
        refine z_goto d_X6_sum_43 ?_
        refine z_istore_n [(3, .int (-12)), (2, .int (nI i)), (0, .ref (x 1)), (1, .int (nI d))] d_X6_sum_48 (by decide) rfl ?_
        refine z_aload_n d_X6_sum_49 2 rfl ?_
        have hk50 := nx_tk (B := B) (n := n) (p := q) c_20 (by decide) (by decide)
        have hn50 := nx_le B hq
        refine z_callV 1 c_X6_35 rfl rfl (y9_t_adv G x N R K r tl B n hn h0 hB q (c0 ++ c) S T hq h (by rw [c_20]; decide)) rfl rfl (Nat.le_of_ble_eq_true rfl) (rm_le (by omega)) d_X6_sum_50 ?_
        rintro v50 w50 ⟨rfl, S50, T50, rfl, hT50, h50⟩
        refine z_aload_n d_X6_sum_53 2 rfl ?_
        refine z_iload_n d_X6_sum_54 3 rfl ?_
        refine z_callV 1 c_X6_86 rfl rfl (hP (nxL B n q) (c0 ++ c) S50 T50 (nx_le B hq) (by (try simp only [List.length_append, List.length_cons, List.length_nil]); omega) h50) rfl rfl (Nat.le_of_ble_eq_true rfl) (rm_le (by omega)) d_X6_sum_55 ?_
        rintro v55 w55 ⟨rfl, S55, T55, rfl, hT55, h55⟩
        rcases hr55 : P (nxL B n q) with f55 | ⟨c55, q55⟩
        · rw [hr55] at h55
          replace h55 : RF f55 S55 := h55
          refine z_aload_n d_X6_sum_58 2 rfl ?_
          refine z_iload_n d_X6_sum_59 0 rfl ?_
          refine z_callV 1 c_X6_77 rfl rfl (y9_t_emF G x N R K r S55 T55 tl f55 (-12) h55) rfl rfl (Nat.le_of_ble_eq_true rfl) (rm_le (by omega)) d_X6_sum_60 ?_
          rintro v60 w60 ⟨rfl, S60, T60, rfl, hT60, h60⟩
          refine z_iinc (nI (i + 1)) [(2, .int (nI (i + 1))), (3, .int (-12)), (0, .ref (x 1)), (1, .int (nI d))] 1 d_X6_sum_63 rfl (nI_1 _) (by decide) rfl ?_
          refine z_goto d_X6_sum_66 ?_
          refine z_iload_n d_X6_sum_7 0 rfl ?_
          refine z_sipush (v := 160) d_X6_sum_8 (by decide) ?_
          refine z_icmp_ge d_X6_sum_11 (fun c_11 => ?_) (fun c_11 => ?_)
          · exact z_vret _ d_X6_sum_69 rfl ⟨rfl, _, _, rfl, (hT60.trans (hT55.trans (hT50.trans hT))), RP.bad (by rw [lpS, if_neg (by rw [hop]; decide), hr55]) h60⟩
          · refine z_aload_n d_X6_sum_14 2 rfl ?_
            refine z_get (v := .int (S60 2)) (1) f_X6_42_6 rfl rfl d_X6_sum_15 ?_
            refine z_top h60.1 ?_
            refine z_bipush (v := 43) d_X6_sum_18 (by decide) ?_
            refine z_icmp_eq d_X6_sum_20 (fun c_20 => ?_) (fun c_20 => ?_)
            · exact absurd c_20 (by decide)
            refine z_aload_n d_X6_sum_23 2 rfl ?_
            refine z_get (v := .int (S60 2)) (1) f_X6_42_6 rfl rfl d_X6_sum_24 ?_
            refine z_top h60.1 ?_
            refine z_bipush (v := 45) d_X6_sum_27 (by decide) ?_
            refine z_icmp_ne d_X6_sum_29 (fun c_29 => ?_) (fun c_29 => ?_)
            rotate_left
            · exact absurd c_29 (by decide)
            exact z_vret _ d_X6_sum_69 rfl ⟨rfl, _, _, rfl, (hT60.trans (hT55.trans (hT50.trans hT))), RP.bad (by rw [lpS, if_neg (by rw [hop]; decide), hr55]) h60⟩
        · rw [hr55] at h55
          replace h55 : RS B n q55 ((c0 ++ c) ++ c55) S55 (T55 0) := h55
          have hg55 := (gd _ (nx_le B hq)).1 c55 q55 hr55
          have ga55 := hg55.1
          have gb55 := hg55.2.1
          have gc55 := hg55.2.2.1
          refine z_aload_n d_X6_sum_58 2 rfl ?_
          refine z_iload_n d_X6_sum_59 0 rfl ?_
          refine z_callV 1 c_X6_77 rfl rfl (y9_t_emS G x N R K r S55 T55 tl B n q55 ((c0 ++ c) ++ c55) (-12) h55 (by (try simp only [List.length_append, List.length_cons, List.length_nil]); omega)) rfl rfl (Nat.le_of_ble_eq_true rfl) (rm_le (by omega)) d_X6_sum_60 ?_
          rintro v60 w60 ⟨rfl, S60, T60, rfl, hT60, h60⟩
          refine z_iinc (nI (i + 1)) [(2, .int (nI (i + 1))), (3, .int (-12)), (0, .ref (x 1)), (1, .int (nI d))] 1 d_X6_sum_63 rfl (nI_1 _) (by decide) rfl ?_
          refine z_goto d_X6_sum_66 ?_
          refine z_perm [0, 2, 3] rfl ?_
          have e9 : lpS B n opA P (f + 1) c q = lpS B n opA P f (c ++ c55 ++ [-12]) q55 := by rw [lpS, if_neg (by rw [hop]; decide), hr55, hop]
          rw [e9]
          exact ih (i + 1) (c ++ c55 ++ [-12]) q55 S60 T60 (hT60.trans (hT55.trans (hT50.trans hT))) (by rw [← List.append_assoc, ← List.append_assoc]; exact h60) gb55 (by (try simp only [List.length_append, List.length_cons, List.length_nil]); omega) (by omega) (by omega)
      · refine z_aload_n d_X6_sum_23 1 rfl ?_
        refine z_get (v := .int (S 2)) (1) f_X6_42_6 rfl rfl d_X6_sum_24 ?_
        refine z_top h.1.2.1 ?_
        refine z_bipush (v := 45) d_X6_sum_27 (by decide) ?_
        refine z_icmp_ne d_X6_sum_29 (fun c_29 => ?_) (fun c_29 => ?_)
        · have hop : opA (tkL B n q) = 0 := by unfold opA; rw [if_neg c_20]; rw [if_neg c_29]
          exact z_vret _ d_X6_sum_69 rfl ⟨rfl, _, _, rfl, hT, RP.ok (by rw [lpS, if_pos hop]) h rfl⟩
        · have hop : opA (tkL B n q) = -13 := by rw [c_29]; rfl
          refine z_aload_n d_X6_sum_32 1 rfl ?_
          refine z_get (v := .int (S 2)) (1) f_X6_42_6 rfl rfl d_X6_sum_33 ?_
          refine z_top h.1.2.1 ?_
          refine z_bipush (v := 43) d_X6_sum_36 (by decide) ?_
          refine z_icmp_ne d_X6_sum_38 (fun c_38 => ?_) (fun c_38 => ?_)
          rotate_left
          · exact absurd c_38 (by rw [c_29]; decide)
          refine z_bipush (v := -13) d_X6_sum_46 (by decide) ?_
          refine z_istore_n [(3, .int (-13)), (2, .int (nI i)), (0, .ref (x 1)), (1, .int (nI d))] d_X6_sum_48 (by decide) rfl ?_
          refine z_aload_n d_X6_sum_49 2 rfl ?_
          have hk50 := nx_tk (B := B) (n := n) (p := q) c_29 (by decide) (by decide)
          have hn50 := nx_le B hq
          refine z_callV 1 c_X6_35 rfl rfl (y9_t_adv G x N R K r tl B n hn h0 hB q (c0 ++ c) S T hq h (by rw [c_29]; decide)) rfl rfl (Nat.le_of_ble_eq_true rfl) (rm_le (by omega)) d_X6_sum_50 ?_
          rintro v50 w50 ⟨rfl, S50, T50, rfl, hT50, h50⟩
          refine z_aload_n d_X6_sum_53 2 rfl ?_
          refine z_iload_n d_X6_sum_54 3 rfl ?_
          refine z_callV 1 c_X6_86 rfl rfl (hP (nxL B n q) (c0 ++ c) S50 T50 (nx_le B hq) (by (try simp only [List.length_append, List.length_cons, List.length_nil]); omega) h50) rfl rfl (Nat.le_of_ble_eq_true rfl) (rm_le (by omega)) d_X6_sum_55 ?_
          rintro v55 w55 ⟨rfl, S55, T55, rfl, hT55, h55⟩
          rcases hr55 : P (nxL B n q) with f55 | ⟨c55, q55⟩
          · rw [hr55] at h55
            replace h55 : RF f55 S55 := h55
            refine z_aload_n d_X6_sum_58 2 rfl ?_
            refine z_iload_n d_X6_sum_59 0 rfl ?_
            refine z_callV 1 c_X6_77 rfl rfl (y9_t_emF G x N R K r S55 T55 tl f55 (-13) h55) rfl rfl (Nat.le_of_ble_eq_true rfl) (rm_le (by omega)) d_X6_sum_60 ?_
            rintro v60 w60 ⟨rfl, S60, T60, rfl, hT60, h60⟩
            refine z_iinc (nI (i + 1)) [(2, .int (nI (i + 1))), (3, .int (-13)), (0, .ref (x 1)), (1, .int (nI d))] 1 d_X6_sum_63 rfl (nI_1 _) (by decide) rfl ?_
            refine z_goto d_X6_sum_66 ?_
            refine z_iload_n d_X6_sum_7 0 rfl ?_
            refine z_sipush (v := 160) d_X6_sum_8 (by decide) ?_
            refine z_icmp_ge d_X6_sum_11 (fun c_11 => ?_) (fun c_11 => ?_)
            · exact z_vret _ d_X6_sum_69 rfl ⟨rfl, _, _, rfl, (hT60.trans (hT55.trans (hT50.trans hT))), RP.bad (by rw [lpS, if_neg (by rw [hop]; decide), hr55]) h60⟩
            · refine z_aload_n d_X6_sum_14 2 rfl ?_
              refine z_get (v := .int (S60 2)) (1) f_X6_42_6 rfl rfl d_X6_sum_15 ?_
              refine z_top h60.1 ?_
              refine z_bipush (v := 43) d_X6_sum_18 (by decide) ?_
              refine z_icmp_eq d_X6_sum_20 (fun c_20 => ?_) (fun c_20 => ?_)
              · exact absurd c_20 (by decide)
              refine z_aload_n d_X6_sum_23 2 rfl ?_
              refine z_get (v := .int (S60 2)) (1) f_X6_42_6 rfl rfl d_X6_sum_24 ?_
              refine z_top h60.1 ?_
              refine z_bipush (v := 45) d_X6_sum_27 (by decide) ?_
              refine z_icmp_ne d_X6_sum_29 (fun c_29 => ?_) (fun c_29 => ?_)
              rotate_left
              · exact absurd c_29 (by decide)
              exact z_vret _ d_X6_sum_69 rfl ⟨rfl, _, _, rfl, (hT60.trans (hT55.trans (hT50.trans hT))), RP.bad (by rw [lpS, if_neg (by rw [hop]; decide), hr55]) h60⟩
          · rw [hr55] at h55
            replace h55 : RS B n q55 ((c0 ++ c) ++ c55) S55 (T55 0) := h55
            have hg55 := (gd _ (nx_le B hq)).1 c55 q55 hr55
            have ga55 := hg55.1
            have gb55 := hg55.2.1
            have gc55 := hg55.2.2.1
            refine z_aload_n d_X6_sum_58 2 rfl ?_
            refine z_iload_n d_X6_sum_59 0 rfl ?_
            refine z_callV 1 c_X6_77 rfl rfl (y9_t_emS G x N R K r S55 T55 tl B n q55 ((c0 ++ c) ++ c55) (-13) h55 (by (try simp only [List.length_append, List.length_cons, List.length_nil]); omega)) rfl rfl (Nat.le_of_ble_eq_true rfl) (rm_le (by omega)) d_X6_sum_60 ?_
            rintro v60 w60 ⟨rfl, S60, T60, rfl, hT60, h60⟩
            refine z_iinc (nI (i + 1)) [(2, .int (nI (i + 1))), (3, .int (-13)), (0, .ref (x 1)), (1, .int (nI d))] 1 d_X6_sum_63 rfl (nI_1 _) (by decide) rfl ?_
            refine z_goto d_X6_sum_66 ?_
            refine z_perm [0, 2, 3] rfl ?_
            have e9 : lpS B n opA P (f + 1) c q = lpS B n opA P f (c ++ c55 ++ [-13]) q55 := by rw [lpS, if_neg (by rw [hop]; decide), hr55, hop]
            rw [e9]
            exact ih (i + 1) (c ++ c55 ++ [-13]) q55 S60 T60 (hT60.trans (hT55.trans (hT50.trans hT))) (by rw [← List.append_assoc, ← List.append_assoc]; exact h60) gb55 (by (try simp only [List.length_append, List.length_cons, List.length_nil]); omega) (by omega) (by omega)
set_option maxHeartbeats 4000000 in
set_option maxRecDepth 100000 in
theorem y9_t_X6_sum (G : GT) (x : Nat → Nat) (N : Nat → Int32) (R : Nat → Nat → Int32) (K : Nat → Nat → Option Nat) (r : Nat → Nat) (S : Nat → Int32) (T : Nat → Nat → Int32) (tl : va_W) (B : Nat → Int32) (n : Nat) (hn : n ≤ 160) (h0 : N 0 = nI n) (hB : Tp B n (R 0)) (p : Nat) (c : List Int32) (hp : p ≤ n) (hc : c.length ≤ p) (h : RS B n p c S (T 0)) (d : Nat) (P : Nat → PR) (dn : Nat) (hP : y9_CtR G x N R K r tl B n mX6_term dn (nI d) P) (gd : GdP n P) (dp : Nat) (hd1 : 9 ≤ dp) (hd2 : dn + 1 ≤ dp)  : Ct G mX6_sum dp 0 0 [.ref (x 1), .int (nI d)] (YW G x N R K r S T tl) (y9_RT G x N R K r (T 1) tl (RP B n c (thL B n P opA p))) := by
  refine Ct.intro [(0, .ref (x 1)), (1, .int (nI d))] (by decide) rfl (Nat.le_of_ble_eq_true rfl) ?_
  refine z_aload_n d_X6_sum_0 0 rfl ?_
  refine z_iload_n d_X6_sum_1 1 rfl ?_
  refine z_callV 1 c_X6_86 rfl rfl (hP p c S T hp (by (try simp only [List.length_append, List.length_cons, List.length_nil]); omega) h) rfl rfl (Nat.le_of_ble_eq_true rfl) (rm_le (by omega)) d_X6_sum_2 ?_
  rintro v2 w2 ⟨rfl, S2, T2, rfl, hT2, h2⟩
  rcases hr2 : P p with f2 | ⟨c2, q2⟩
  · rw [hr2] at h2
    replace h2 : RF f2 S2 := h2
    refine z_iconst (v := 0) d_X6_sum_5 (by decide) ?_
    refine z_istore_n [(2, .int 0), (0, .ref (x 1)), (1, .int (nI d))] d_X6_sum_6 (by decide) rfl ?_
    refine z_iload_n d_X6_sum_7 0 rfl ?_
    refine z_sipush (v := 160) d_X6_sum_8 (by decide) ?_
    refine z_icmp_ge d_X6_sum_11 (fun c_11 => ?_) (fun c_11 => ?_)
    · exact absurd c_11 (by decide)
    refine z_aload_n d_X6_sum_14 1 rfl ?_
    refine z_get (v := .int (S2 2)) (1) f_X6_42_6 rfl rfl d_X6_sum_15 ?_
    refine z_top h2.1 ?_
    refine z_bipush (v := 43) d_X6_sum_18 (by decide) ?_
    refine z_icmp_eq d_X6_sum_20 (fun c_20 => ?_) (fun c_20 => ?_)
    · exact absurd c_20 (by decide)
    refine z_aload_n d_X6_sum_23 1 rfl ?_
    refine z_get (v := .int (S2 2)) (1) f_X6_42_6 rfl rfl d_X6_sum_24 ?_
    refine z_top h2.1 ?_
    refine z_bipush (v := 45) d_X6_sum_27 (by decide) ?_
    refine z_icmp_ne d_X6_sum_29 (fun c_29 => ?_) (fun c_29 => ?_)
    rotate_left
    · exact absurd c_29 (by decide)
    exact z_vret _ d_X6_sum_69 rfl ⟨rfl, _, _, rfl, (hT2.trans rfl), RP.bad (by rw [thL, hr2]) h2⟩
  · rw [hr2] at h2
    replace h2 : RS B n q2 (c ++ c2) S2 (T2 0) := h2
    have hg2 := (gd _ hp).1 c2 q2 hr2
    have ga2 := hg2.1
    have gb2 := hg2.2.1
    have gc2 := hg2.2.2.1
    refine z_iconst (v := 0) d_X6_sum_5 (by decide) ?_
    refine z_istore_n [(2, .int 0), (0, .ref (x 1)), (1, .int (nI d))] d_X6_sum_6 (by decide) rfl ?_
    have e9 : thL B n P opA p = lpS B n opA P (n + 1) c2 q2 := by rw [thL, hr2]
    rw [e9]
    exact y9_lr_sum G x N R K r tl B n hn h0 hB (T 1) c d P dn hP gd dp hd1 hd2 (n + 1) 0 c2 q2 S2 T2 (hT2.trans rfl) h2 gb2 (by (try simp only [List.length_append, List.length_cons, List.length_nil]); omega) (by omega) (by omega)
theorem y9_P_sum (G : GT) (x : Nat → Nat) (N : Nat → Int32) (R : Nat → Nat → Int32) (K : Nat → Nat → Option Nat) (r : Nat → Nat) (tl : va_W) (B : Nat → Int32) (n : Nat) (hn : n ≤ 160) (h0 : N 0 = nI n) (hB : Tp B n (R 0)) (d : Nat) (P : Nat → PR) (dn : Nat) (hP : y9_CtR G x N R K r tl B n mX6_term dn (nI d) P) (gd : GdP n P) (dp : Nat) (hd1 : 9 ≤ dp) (hd2 : dn + 1 ≤ dp) : y9_CtR G x N R K r tl B n mX6_sum dp (nI d) (thL B n P opA) := fun p c S T hp hc h => y9_t_X6_sum G x N R K r S T tl B n hn h0 hB p c hp hc h d P dn hP gd dp hd1 hd2
set_option maxHeartbeats 4000000 in
set_option maxRecDepth 100000 in
theorem y9_lr_both (G : GT) (x : Nat → Nat) (N : Nat → Int32) (R : Nat → Nat → Int32) (K : Nat → Nat → Option Nat) (r : Nat → Nat) (tl : va_W) (B : Nat → Int32) (n : Nat) (hn : n ≤ 160) (h0 : N 0 = nI n) (hB : Tp B n (R 0)) (T1 : Nat → Int32) (c0 : List Int32) (d : Nat) (P : Nat → PR) (dn : Nat) (hP : y9_CtR G x N R K r tl B n mX6_denied dn (nI d) P) (gd : GdP n P) (dp : Nat) (hd1 : 9 ≤ dp) (hd2 : dn + 1 ≤ dp) : ∀ (f : Nat)  (i : Nat) (c : List Int32) (q : Nat) (S : Nat → Int32) (T : Nat → Nat → Int32) (hT : T 1 = T1) (h : RS B n q (c0 ++ c) S (T 0)) (hq : q ≤ n) (hc : c0.length + c.length ≤ q) (hi : i ≤ q) (hm : n < q + f), Tr G mX6_both (Rm dp 0 0) (OM G (y9_RT G x N R K r T1 tl (RP B n c0 (lpS B n opN P f c q))) 0 0) 0 0 7 [(2, .int (nI i)), (0, .ref (x 1)), (1, .int (nI d))] [] (YW G x N R K r S T tl) := by
  intro f
  induction f with
  | zero =>
    intro i c q S T hT h hq hc hi hm
    exact absurd hm (by omega)
  | succ f ih =>
    intro i c q S T hT h hq hc hi hm
    refine z_iload_n d_X6_both_7 0 rfl ?_
    refine z_sipush (v := 160) d_X6_both_8 (by decide) ?_
    refine z_icmp_ge d_X6_both_11 (fun c_11 => ?_) (fun c_11 => ?_)
    · have hop : opN (tkL B n q) = 0 := op_end opN_ok hq hn hi c_11
      exact z_vret _ d_X6_both_44 rfl ⟨rfl, _, _, rfl, hT, RP.ok (by rw [lpS, if_pos hop]) h rfl⟩
    · refine z_aload_n d_X6_both_14 1 rfl ?_
      refine z_get (v := .int (S 2)) (1) f_X6_42_6 rfl rfl d_X6_both_15 ?_
      refine z_top h.1.2.1 ?_
      refine z_bipush (v := 8) d_X6_both_18 (by decide) ?_
      refine z_icmp_ne d_X6_both_20 (fun c_20 => ?_) (fun c_20 => ?_)
      · have hop : opN (tkL B n q) = 0 := by unfold opN; rw [if_neg c_20]
        exact z_vret _ d_X6_both_44 rfl ⟨rfl, _, _, rfl, hT, RP.ok (by rw [lpS, if_pos hop]) h rfl⟩
      · have hop : opN (tkL B n q) = -8 := by rw [c_20]; rfl
        refine z_aload_n d_X6_both_23 1 rfl ?_
        have hk24 := nx_tk (B := B) (n := n) (p := q) c_20 (by decide) (by decide)
        have hn24 := nx_le B hq
        refine z_callV 1 c_X6_35 rfl rfl (y9_t_adv G x N R K r tl B n hn h0 hB q (c0 ++ c) S T hq h (by rw [c_20]; decide)) rfl rfl (Nat.le_of_ble_eq_true rfl) (rm_le (by omega)) d_X6_both_24 ?_
        rintro v24 w24 ⟨rfl, S24, T24, rfl, hT24, h24⟩
        refine z_aload_n d_X6_both_27 1 rfl ?_
        refine z_iload_n d_X6_both_28 2 rfl ?_
        refine z_callV 1 c_X6_80 rfl rfl (hP (nxL B n q) (c0 ++ c) S24 T24 (nx_le B hq) (by (try simp only [List.length_append, List.length_cons, List.length_nil]); omega) h24) rfl rfl (Nat.le_of_ble_eq_true rfl) (rm_le (by omega)) d_X6_both_29 ?_
        rintro v29 w29 ⟨rfl, S29, T29, rfl, hT29, h29⟩
        rcases hr29 : P (nxL B n q) with f29 | ⟨c29, q29⟩
        · rw [hr29] at h29
          replace h29 : RF f29 S29 := h29
          refine z_aload_n d_X6_both_32 1 rfl ?_
          refine z_bipush (v := -8) d_X6_both_33 (by decide) ?_
          refine z_callV 1 c_X6_77 rfl rfl (y9_t_emF G x N R K r S29 T29 tl f29 (-8) h29) rfl rfl (Nat.le_of_ble_eq_true rfl) (rm_le (by omega)) d_X6_both_35 ?_
          rintro v35 w35 ⟨rfl, S35, T35, rfl, hT35, h35⟩
          refine z_iinc (nI (i + 1)) [(2, .int (nI (i + 1))), (0, .ref (x 1)), (1, .int (nI d))] 0 d_X6_both_38 rfl (nI_1 _) (by decide) rfl ?_
          refine z_goto d_X6_both_41 ?_
          refine z_iload_n d_X6_both_7 0 rfl ?_
          refine z_sipush (v := 160) d_X6_both_8 (by decide) ?_
          refine z_icmp_ge d_X6_both_11 (fun c_11 => ?_) (fun c_11 => ?_)
          · exact z_vret _ d_X6_both_44 rfl ⟨rfl, _, _, rfl, (hT35.trans (hT29.trans (hT24.trans hT))), RP.bad (by rw [lpS, if_neg (by rw [hop]; decide), hr29]) h35⟩
          · refine z_aload_n d_X6_both_14 1 rfl ?_
            refine z_get (v := .int (S35 2)) (1) f_X6_42_6 rfl rfl d_X6_both_15 ?_
            refine z_top h35.1 ?_
            refine z_bipush (v := 8) d_X6_both_18 (by decide) ?_
            refine z_icmp_ne d_X6_both_20 (fun c_20 => ?_) (fun c_20 => ?_)
            rotate_left
            · exact absurd c_20 (by decide)
            exact z_vret _ d_X6_both_44 rfl ⟨rfl, _, _, rfl, (hT35.trans (hT29.trans (hT24.trans hT))), RP.bad (by rw [lpS, if_neg (by rw [hop]; decide), hr29]) h35⟩
        · rw [hr29] at h29
          replace h29 : RS B n q29 ((c0 ++ c) ++ c29) S29 (T29 0) := h29
          have hg29 := (gd _ (nx_le B hq)).1 c29 q29 hr29
          have ga29 := hg29.1
          have gb29 := hg29.2.1
          have gc29 := hg29.2.2.1
          refine z_aload_n d_X6_both_32 1 rfl ?_
          refine z_bipush (v := -8) d_X6_both_33 (by decide) ?_
          refine z_callV 1 c_X6_77 rfl rfl (y9_t_emS G x N R K r S29 T29 tl B n q29 ((c0 ++ c) ++ c29) (-8) h29 (by (try simp only [List.length_append, List.length_cons, List.length_nil]); omega)) rfl rfl (Nat.le_of_ble_eq_true rfl) (rm_le (by omega)) d_X6_both_35 ?_
          rintro v35 w35 ⟨rfl, S35, T35, rfl, hT35, h35⟩
          refine z_iinc (nI (i + 1)) [(2, .int (nI (i + 1))), (0, .ref (x 1)), (1, .int (nI d))] 0 d_X6_both_38 rfl (nI_1 _) (by decide) rfl ?_
          refine z_goto d_X6_both_41 ?_
          have e9 : lpS B n opN P (f + 1) c q = lpS B n opN P f (c ++ c29 ++ [-8]) q29 := by rw [lpS, if_neg (by rw [hop]; decide), hr29, hop]
          rw [e9]
          exact ih (i + 1) (c ++ c29 ++ [-8]) q29 S35 T35 (hT35.trans (hT29.trans (hT24.trans hT))) (by rw [← List.append_assoc, ← List.append_assoc]; exact h35) gb29 (by (try simp only [List.length_append, List.length_cons, List.length_nil]); omega) (by omega) (by omega)
set_option maxHeartbeats 4000000 in
set_option maxRecDepth 100000 in
theorem y9_t_X6_both (G : GT) (x : Nat → Nat) (N : Nat → Int32) (R : Nat → Nat → Int32) (K : Nat → Nat → Option Nat) (r : Nat → Nat) (S : Nat → Int32) (T : Nat → Nat → Int32) (tl : va_W) (B : Nat → Int32) (n : Nat) (hn : n ≤ 160) (h0 : N 0 = nI n) (hB : Tp B n (R 0)) (p : Nat) (c : List Int32) (hp : p ≤ n) (hc : c.length ≤ p) (h : RS B n p c S (T 0)) (d : Nat) (P : Nat → PR) (dn : Nat) (hP : y9_CtR G x N R K r tl B n mX6_denied dn (nI d) P) (gd : GdP n P) (dp : Nat) (hd1 : 9 ≤ dp) (hd2 : dn + 1 ≤ dp)  : Ct G mX6_both dp 0 0 [.ref (x 1), .int (nI d)] (YW G x N R K r S T tl) (y9_RT G x N R K r (T 1) tl (RP B n c (thL B n P opN p))) := by
  refine Ct.intro [(0, .ref (x 1)), (1, .int (nI d))] (by decide) rfl (Nat.le_of_ble_eq_true rfl) ?_
  refine z_aload_n d_X6_both_0 0 rfl ?_
  refine z_iload_n d_X6_both_1 1 rfl ?_
  refine z_callV 1 c_X6_80 rfl rfl (hP p c S T hp (by (try simp only [List.length_append, List.length_cons, List.length_nil]); omega) h) rfl rfl (Nat.le_of_ble_eq_true rfl) (rm_le (by omega)) d_X6_both_2 ?_
  rintro v2 w2 ⟨rfl, S2, T2, rfl, hT2, h2⟩
  rcases hr2 : P p with f2 | ⟨c2, q2⟩
  · rw [hr2] at h2
    replace h2 : RF f2 S2 := h2
    refine z_iconst (v := 0) d_X6_both_5 (by decide) ?_
    refine z_istore_n [(2, .int 0), (0, .ref (x 1)), (1, .int (nI d))] d_X6_both_6 (by decide) rfl ?_
    refine z_iload_n d_X6_both_7 0 rfl ?_
    refine z_sipush (v := 160) d_X6_both_8 (by decide) ?_
    refine z_icmp_ge d_X6_both_11 (fun c_11 => ?_) (fun c_11 => ?_)
    · exact absurd c_11 (by decide)
    refine z_aload_n d_X6_both_14 1 rfl ?_
    refine z_get (v := .int (S2 2)) (1) f_X6_42_6 rfl rfl d_X6_both_15 ?_
    refine z_top h2.1 ?_
    refine z_bipush (v := 8) d_X6_both_18 (by decide) ?_
    refine z_icmp_ne d_X6_both_20 (fun c_20 => ?_) (fun c_20 => ?_)
    rotate_left
    · exact absurd c_20 (by decide)
    exact z_vret _ d_X6_both_44 rfl ⟨rfl, _, _, rfl, (hT2.trans rfl), RP.bad (by rw [thL, hr2]) h2⟩
  · rw [hr2] at h2
    replace h2 : RS B n q2 (c ++ c2) S2 (T2 0) := h2
    have hg2 := (gd _ hp).1 c2 q2 hr2
    have ga2 := hg2.1
    have gb2 := hg2.2.1
    have gc2 := hg2.2.2.1
    refine z_iconst (v := 0) d_X6_both_5 (by decide) ?_
    refine z_istore_n [(2, .int 0), (0, .ref (x 1)), (1, .int (nI d))] d_X6_both_6 (by decide) rfl ?_
    have e9 : thL B n P opN p = lpS B n opN P (n + 1) c2 q2 := by rw [thL, hr2]
    rw [e9]
    exact y9_lr_both G x N R K r tl B n hn h0 hB (T 1) c d P dn hP gd dp hd1 hd2 (n + 1) 0 c2 q2 S2 T2 (hT2.trans rfl) h2 gb2 (by (try simp only [List.length_append, List.length_cons, List.length_nil]); omega) (by omega) (by omega)
theorem y9_P_both (G : GT) (x : Nat → Nat) (N : Nat → Int32) (R : Nat → Nat → Int32) (K : Nat → Nat → Option Nat) (r : Nat → Nat) (tl : va_W) (B : Nat → Int32) (n : Nat) (hn : n ≤ 160) (h0 : N 0 = nI n) (hB : Tp B n (R 0)) (d : Nat) (P : Nat → PR) (dn : Nat) (hP : y9_CtR G x N R K r tl B n mX6_denied dn (nI d) P) (gd : GdP n P) (dp : Nat) (hd1 : 9 ≤ dp) (hd2 : dn + 1 ≤ dp) : y9_CtR G x N R K r tl B n mX6_both dp (nI d) (thL B n P opN) := fun p c S T hp hc h => y9_t_X6_both G x N R K r S T tl B n hn h0 hB p c hp hc h d P dn hP gd dp hd1 hd2
set_option maxHeartbeats 4000000 in
set_option maxRecDepth 100000 in
theorem y9_lr_either (G : GT) (x : Nat → Nat) (N : Nat → Int32) (R : Nat → Nat → Int32) (K : Nat → Nat → Option Nat) (r : Nat → Nat) (tl : va_W) (B : Nat → Int32) (n : Nat) (hn : n ≤ 160) (h0 : N 0 = nI n) (hB : Tp B n (R 0)) (T1 : Nat → Int32) (c0 : List Int32) (d : Nat) (P : Nat → PR) (dn : Nat) (hP : y9_CtR G x N R K r tl B n mX6_both dn (nI d) P) (gd : GdP n P) (dp : Nat) (hd1 : 9 ≤ dp) (hd2 : dn + 1 ≤ dp) : ∀ (f : Nat)  (i : Nat) (c : List Int32) (q : Nat) (S : Nat → Int32) (T : Nat → Nat → Int32) (hT : T 1 = T1) (h : RS B n q (c0 ++ c) S (T 0)) (hq : q ≤ n) (hc : c0.length + c.length ≤ q) (hi : i ≤ q) (hm : n < q + f), Tr G mX6_either (Rm dp 0 0) (OM G (y9_RT G x N R K r T1 tl (RP B n c0 (lpS B n opO P f c q))) 0 0) 0 0 7 [(2, .int (nI i)), (0, .ref (x 1)), (1, .int (nI d))] [] (YW G x N R K r S T tl) := by
  intro f
  induction f with
  | zero =>
    intro i c q S T hT h hq hc hi hm
    exact absurd hm (by omega)
  | succ f ih =>
    intro i c q S T hT h hq hc hi hm
    refine z_iload_n d_X6_either_7 0 rfl ?_
    refine z_sipush (v := 160) d_X6_either_8 (by decide) ?_
    refine z_icmp_ge d_X6_either_11 (fun c_11 => ?_) (fun c_11 => ?_)
    · have hop : opO (tkL B n q) = 0 := op_end opO_ok hq hn hi c_11
      exact z_vret _ d_X6_either_44 rfl ⟨rfl, _, _, rfl, hT, RP.ok (by rw [lpS, if_pos hop]) h rfl⟩
    · refine z_aload_n d_X6_either_14 1 rfl ?_
      refine z_get (v := .int (S 2)) (1) f_X6_42_6 rfl rfl d_X6_either_15 ?_
      refine z_top h.1.2.1 ?_
      refine z_bipush (v := 7) d_X6_either_18 (by decide) ?_
      refine z_icmp_ne d_X6_either_20 (fun c_20 => ?_) (fun c_20 => ?_)
      · have hop : opO (tkL B n q) = 0 := by unfold opO; rw [if_neg c_20]
        exact z_vret _ d_X6_either_44 rfl ⟨rfl, _, _, rfl, hT, RP.ok (by rw [lpS, if_pos hop]) h rfl⟩
      · have hop : opO (tkL B n q) = -7 := by rw [c_20]; rfl
        refine z_aload_n d_X6_either_23 1 rfl ?_
        have hk24 := nx_tk (B := B) (n := n) (p := q) c_20 (by decide) (by decide)
        have hn24 := nx_le B hq
        refine z_callV 1 c_X6_35 rfl rfl (y9_t_adv G x N R K r tl B n hn h0 hB q (c0 ++ c) S T hq h (by rw [c_20]; decide)) rfl rfl (Nat.le_of_ble_eq_true rfl) (rm_le (by omega)) d_X6_either_24 ?_
        rintro v24 w24 ⟨rfl, S24, T24, rfl, hT24, h24⟩
        refine z_aload_n d_X6_either_27 1 rfl ?_
        refine z_iload_n d_X6_either_28 2 rfl ?_
        refine z_callV 1 c_X6_74 rfl rfl (hP (nxL B n q) (c0 ++ c) S24 T24 (nx_le B hq) (by (try simp only [List.length_append, List.length_cons, List.length_nil]); omega) h24) rfl rfl (Nat.le_of_ble_eq_true rfl) (rm_le (by omega)) d_X6_either_29 ?_
        rintro v29 w29 ⟨rfl, S29, T29, rfl, hT29, h29⟩
        rcases hr29 : P (nxL B n q) with f29 | ⟨c29, q29⟩
        · rw [hr29] at h29
          replace h29 : RF f29 S29 := h29
          refine z_aload_n d_X6_either_32 1 rfl ?_
          refine z_bipush (v := -7) d_X6_either_33 (by decide) ?_
          refine z_callV 1 c_X6_77 rfl rfl (y9_t_emF G x N R K r S29 T29 tl f29 (-7) h29) rfl rfl (Nat.le_of_ble_eq_true rfl) (rm_le (by omega)) d_X6_either_35 ?_
          rintro v35 w35 ⟨rfl, S35, T35, rfl, hT35, h35⟩
          refine z_iinc (nI (i + 1)) [(2, .int (nI (i + 1))), (0, .ref (x 1)), (1, .int (nI d))] 0 d_X6_either_38 rfl (nI_1 _) (by decide) rfl ?_
          refine z_goto d_X6_either_41 ?_
          refine z_iload_n d_X6_either_7 0 rfl ?_
          refine z_sipush (v := 160) d_X6_either_8 (by decide) ?_
          refine z_icmp_ge d_X6_either_11 (fun c_11 => ?_) (fun c_11 => ?_)
          · exact z_vret _ d_X6_either_44 rfl ⟨rfl, _, _, rfl, (hT35.trans (hT29.trans (hT24.trans hT))), RP.bad (by rw [lpS, if_neg (by rw [hop]; decide), hr29]) h35⟩
          · refine z_aload_n d_X6_either_14 1 rfl ?_
            refine z_get (v := .int (S35 2)) (1) f_X6_42_6 rfl rfl d_X6_either_15 ?_
            refine z_top h35.1 ?_
            refine z_bipush (v := 7) d_X6_either_18 (by decide) ?_
            refine z_icmp_ne d_X6_either_20 (fun c_20 => ?_) (fun c_20 => ?_)
            rotate_left
            · exact absurd c_20 (by decide)
            exact z_vret _ d_X6_either_44 rfl ⟨rfl, _, _, rfl, (hT35.trans (hT29.trans (hT24.trans hT))), RP.bad (by rw [lpS, if_neg (by rw [hop]; decide), hr29]) h35⟩
        · rw [hr29] at h29
          replace h29 : RS B n q29 ((c0 ++ c) ++ c29) S29 (T29 0) := h29
          have hg29 := (gd _ (nx_le B hq)).1 c29 q29 hr29
          have ga29 := hg29.1
          have gb29 := hg29.2.1
          have gc29 := hg29.2.2.1
          refine z_aload_n d_X6_either_32 1 rfl ?_
          refine z_bipush (v := -7) d_X6_either_33 (by decide) ?_
          refine z_callV 1 c_X6_77 rfl rfl (y9_t_emS G x N R K r S29 T29 tl B n q29 ((c0 ++ c) ++ c29) (-7) h29 (by (try simp only [List.length_append, List.length_cons, List.length_nil]); omega)) rfl rfl (Nat.le_of_ble_eq_true rfl) (rm_le (by omega)) d_X6_either_35 ?_
          rintro v35 w35 ⟨rfl, S35, T35, rfl, hT35, h35⟩
          refine z_iinc (nI (i + 1)) [(2, .int (nI (i + 1))), (0, .ref (x 1)), (1, .int (nI d))] 0 d_X6_either_38 rfl (nI_1 _) (by decide) rfl ?_
          refine z_goto d_X6_either_41 ?_
          have e9 : lpS B n opO P (f + 1) c q = lpS B n opO P f (c ++ c29 ++ [-7]) q29 := by rw [lpS, if_neg (by rw [hop]; decide), hr29, hop]
          rw [e9]
          exact ih (i + 1) (c ++ c29 ++ [-7]) q29 S35 T35 (hT35.trans (hT29.trans (hT24.trans hT))) (by rw [← List.append_assoc, ← List.append_assoc]; exact h35) gb29 (by (try simp only [List.length_append, List.length_cons, List.length_nil]); omega) (by omega) (by omega)
set_option maxHeartbeats 4000000 in
set_option maxRecDepth 100000 in
theorem y9_t_X6_either (G : GT) (x : Nat → Nat) (N : Nat → Int32) (R : Nat → Nat → Int32) (K : Nat → Nat → Option Nat) (r : Nat → Nat) (S : Nat → Int32) (T : Nat → Nat → Int32) (tl : va_W) (B : Nat → Int32) (n : Nat) (hn : n ≤ 160) (h0 : N 0 = nI n) (hB : Tp B n (R 0)) (p : Nat) (c : List Int32) (hp : p ≤ n) (hc : c.length ≤ p) (h : RS B n p c S (T 0)) (d : Nat) (P : Nat → PR) (dn : Nat) (hP : y9_CtR G x N R K r tl B n mX6_both dn (nI d) P) (gd : GdP n P) (dp : Nat) (hd1 : 9 ≤ dp) (hd2 : dn + 1 ≤ dp)  : Ct G mX6_either dp 0 0 [.ref (x 1), .int (nI d)] (YW G x N R K r S T tl) (y9_RT G x N R K r (T 1) tl (RP B n c (thL B n P opO p))) := by
  refine Ct.intro [(0, .ref (x 1)), (1, .int (nI d))] (by decide) rfl (Nat.le_of_ble_eq_true rfl) ?_
  refine z_aload_n d_X6_either_0 0 rfl ?_
  refine z_iload_n d_X6_either_1 1 rfl ?_
  refine z_callV 1 c_X6_74 rfl rfl (hP p c S T hp (by (try simp only [List.length_append, List.length_cons, List.length_nil]); omega) h) rfl rfl (Nat.le_of_ble_eq_true rfl) (rm_le (by omega)) d_X6_either_2 ?_
  rintro v2 w2 ⟨rfl, S2, T2, rfl, hT2, h2⟩
  rcases hr2 : P p with f2 | ⟨c2, q2⟩
  · rw [hr2] at h2
    replace h2 : RF f2 S2 := h2
    refine z_iconst (v := 0) d_X6_either_5 (by decide) ?_
    refine z_istore_n [(2, .int 0), (0, .ref (x 1)), (1, .int (nI d))] d_X6_either_6 (by decide) rfl ?_
    refine z_iload_n d_X6_either_7 0 rfl ?_
    refine z_sipush (v := 160) d_X6_either_8 (by decide) ?_
    refine z_icmp_ge d_X6_either_11 (fun c_11 => ?_) (fun c_11 => ?_)
    · exact absurd c_11 (by decide)
    refine z_aload_n d_X6_either_14 1 rfl ?_
    refine z_get (v := .int (S2 2)) (1) f_X6_42_6 rfl rfl d_X6_either_15 ?_
    refine z_top h2.1 ?_
    refine z_bipush (v := 7) d_X6_either_18 (by decide) ?_
    refine z_icmp_ne d_X6_either_20 (fun c_20 => ?_) (fun c_20 => ?_)
    rotate_left
    · exact absurd c_20 (by decide)
    exact z_vret _ d_X6_either_44 rfl ⟨rfl, _, _, rfl, (hT2.trans rfl), RP.bad (by rw [thL, hr2]) h2⟩
  · rw [hr2] at h2
    replace h2 : RS B n q2 (c ++ c2) S2 (T2 0) := h2
    have hg2 := (gd _ hp).1 c2 q2 hr2
    have ga2 := hg2.1
    have gb2 := hg2.2.1
    have gc2 := hg2.2.2.1
    refine z_iconst (v := 0) d_X6_either_5 (by decide) ?_
    refine z_istore_n [(2, .int 0), (0, .ref (x 1)), (1, .int (nI d))] d_X6_either_6 (by decide) rfl ?_
    have e9 : thL B n P opO p = lpS B n opO P (n + 1) c2 q2 := by rw [thL, hr2]
    rw [e9]
    exact y9_lr_either G x N R K r tl B n hn h0 hB (T 1) c d P dn hP gd dp hd1 hd2 (n + 1) 0 c2 q2 S2 T2 (hT2.trans rfl) h2 gb2 (by (try simp only [List.length_append, List.length_cons, List.length_nil]); omega) (by omega) (by omega)
theorem y9_P_either (G : GT) (x : Nat → Nat) (N : Nat → Int32) (R : Nat → Nat → Int32) (K : Nat → Nat → Option Nat) (r : Nat → Nat) (tl : va_W) (B : Nat → Int32) (n : Nat) (hn : n ≤ 160) (h0 : N 0 = nI n) (hB : Tp B n (R 0)) (d : Nat) (P : Nat → PR) (dn : Nat) (hP : y9_CtR G x N R K r tl B n mX6_both dn (nI d) P) (gd : GdP n P) (dp : Nat) (hd1 : 9 ≤ dp) (hd2 : dn + 1 ≤ dp) : y9_CtR G x N R K r tl B n mX6_either dp (nI d) (thL B n P opO) := fun p c S T hp hc h => y9_t_X6_either G x N R K r S T tl B n hn h0 hB p c hp hc h d P dn hP gd dp hd1 hd2
set_option maxHeartbeats 4000000 in
set_option maxRecDepth 100000 in
theorem y9_t_den0 (G : GT) (x : Nat → Nat) (N : Nat → Int32) (R : Nat → Nat → Int32) (K : Nat → Nat → Option Nat) (r : Nat → Nat) (S : Nat → Int32) (T : Nat → Nat → Int32) (tl : va_W) (B : Nat → Int32) (n : Nat) (hn : n ≤ 160) (h0 : N 0 = nI n) (hB : Tp B n (R 0)) (p : Nat) (c : List Int32) (hp : p ≤ n) (hc : c.length ≤ p) (h : RS B n p c S (T 0)) (ds : Nat) (hsum : y9_CtR G x N R K r tl B n mX6_sum ds 5 (sumP B n 0)) (dp : Nat) (hd1 : 9 ≤ dp) (hd2 : ds + 1 ≤ dp)  : Ct G mX6_denied dp 0 0 [.ref (x 1), .int 5] (YW G x N R K r S T tl) (y9_RT G x N R K r (T 1) tl (RP B n c (denP B n 0 p))) := by
  refine Ct.intro [(0, .ref (x 1)), (1, .int 5)] (by decide) rfl (Nat.le_of_ble_eq_true rfl) ?_
  refine z_aload_n d_X6_denied_0 0 rfl ?_
  refine z_get (v := .int (S 2)) (1) f_X6_42_6 rfl rfl d_X6_denied_1 ?_
  refine z_top h.1.2.1 ?_
  refine z_bipush (v := 9) d_X6_denied_4 (by decide) ?_
  refine z_icmp_ne d_X6_denied_6 (fun c_6 => ?_) (fun c_6 => ?_)
  · refine z_aload_n d_X6_denied_32 0 rfl ?_
    refine z_iload_n d_X6_denied_33 1 rfl ?_
    refine z_callV 1 c_X6_83 rfl rfl (hsum p c S T hp (by (try simp only [List.length_append, List.length_cons, List.length_nil]); omega) h) rfl rfl (Nat.le_of_ble_eq_true rfl) (rm_le (by omega)) d_X6_denied_34 ?_
    rintro v34 w34 ⟨rfl, S34, T34, rfl, hT34, h34⟩
    rcases hr34 : sumP B n 0 p with f34 | ⟨c34, q34⟩
    · rw [hr34] at h34
      replace h34 : RF f34 S34 := h34
      refine z_aload_n d_X6_denied_37 0 rfl ?_
      refine z_get (v := .int (S34 2)) (1) f_X6_42_6 rfl rfl d_X6_denied_38 ?_
      refine z_top h34.1 ?_
      refine z_bipush (v := 60) d_X6_denied_41 (by decide) ?_
      refine z_icmp_eq d_X6_denied_43 (fun c_43 => ?_) (fun c_43 => ?_)
      · exact absurd c_43 (by decide)
      refine z_aload_n d_X6_denied_46 0 rfl ?_
      refine z_get (v := .int (S34 2)) (1) f_X6_42_6 rfl rfl d_X6_denied_47 ?_
      refine z_top h34.1 ?_
      refine z_bipush (v := 61) d_X6_denied_50 (by decide) ?_
      refine z_icmp_ne d_X6_denied_52 (fun c_52 => ?_) (fun c_52 => ?_)
      rotate_left
      · exact absurd c_52 (by decide)
      exact z_vret _ d_X6_denied_86 rfl ⟨rfl, _, _, rfl, (hT34.trans rfl), RP.bad (by rw [denP_0, dnP, if_neg (fun hh => c_6 hh.1), cmP, hr34]) h34⟩
    · rw [hr34] at h34
      replace h34 : RS B n q34 (c ++ c34) S34 (T34 0) := h34
      have hg34 := (sum_gd B n 0 _ hp).1 c34 q34 hr34
      have ga34 := hg34.1
      have gb34 := hg34.2.1
      have gc34 := hg34.2.2.1
      refine z_aload_n d_X6_denied_37 0 rfl ?_
      refine z_get (v := .int (S34 2)) (1) f_X6_42_6 rfl rfl d_X6_denied_38 ?_
      refine z_top h34.1.2.1 ?_
      refine z_bipush (v := 60) d_X6_denied_41 (by decide) ?_
      refine z_icmp_eq d_X6_denied_43 (fun c_43 => ?_) (fun c_43 => ?_)
      · have hop : opC (tkL B n q34) = -10 := by rw [c_43]; rfl
        refine z_aload_n d_X6_denied_55 0 rfl ?_
        refine z_get (v := .int (S34 2)) (1) f_X6_42_6 rfl rfl d_X6_denied_56 ?_
        refine z_top h34.1.2.1 ?_
        refine z_bipush (v := 60) d_X6_denied_59 (by decide) ?_
        refine z_icmp_ne d_X6_denied_61 (fun c_61 => ?_) (fun c_61 => ?_)
        · exact absurd c_61 (fun hh => hh c_43)
        refine z_bipush (v := -10) d_X6_denied_64 (by decide) ?_
        refine z_goto d_X6_denied_66 ?_
        refine z_istore_n [(2, .int (-10)), (0, .ref (x 1)), (1, .int 5)] d_X6_denied_71 (by decide) rfl ?_
        refine z_aload_n d_X6_denied_72 1 rfl ?_
        have hk73 := nx_tk (B := B) (n := n) (p := q34) c_43 (by decide) (by decide)
        have hn73 := nx_le B hg34.2.1
        refine z_callV 1 c_X6_35 rfl rfl (y9_t_adv G x N R K r tl B n hn h0 hB q34 (c ++ c34) S34 T34 hg34.2.1 h34 (by rw [c_43]; decide)) rfl rfl (Nat.le_of_ble_eq_true rfl) (rm_le (by omega)) d_X6_denied_73 ?_
        rintro v73 w73 ⟨rfl, S73, T73, rfl, hT73, h73⟩
        refine z_aload_n d_X6_denied_76 1 rfl ?_
        refine z_iload_n d_X6_denied_77 2 rfl ?_
        refine z_callV 1 c_X6_83 rfl rfl (hsum (nxL B n q34) (c ++ c34) S73 T73 (nx_le B hg34.2.1) (by (try simp only [List.length_append, List.length_cons, List.length_nil]); omega) h73) rfl rfl (Nat.le_of_ble_eq_true rfl) (rm_le (by omega)) d_X6_denied_78 ?_
        rintro v78 w78 ⟨rfl, S78, T78, rfl, hT78, h78⟩
        rcases hr78 : sumP B n 0 (nxL B n q34) with f78 | ⟨c78, q78⟩
        · rw [hr78] at h78
          replace h78 : RF f78 S78 := h78
          refine z_aload_n d_X6_denied_81 1 rfl ?_
          refine z_iload_n d_X6_denied_82 0 rfl ?_
          refine z_callV 1 c_X6_77 rfl rfl (y9_t_emF G x N R K r S78 T78 tl f78 (-10) h78) rfl rfl (Nat.le_of_ble_eq_true rfl) (rm_le (by omega)) d_X6_denied_83 ?_
          rintro v83 w83 ⟨rfl, S83, T83, rfl, hT83, h83⟩
          exact z_vret _ d_X6_denied_86 rfl ⟨rfl, _, _, rfl, (hT83.trans (hT78.trans (hT73.trans (hT34.trans rfl)))), RP.bad (by rw [denP_0, dnP, if_neg (fun hh => c_6 hh.1), cmP, hr34]; show (if _ then _ else _) = _; rw [if_neg (by rw [hop]; decide), hr78]) h83⟩
        · rw [hr78] at h78
          replace h78 : RS B n q78 ((c ++ c34) ++ c78) S78 (T78 0) := h78
          have hg78 := (sum_gd B n 0 _ (nx_le B hg34.2.1)).1 c78 q78 hr78
          have ga78 := hg78.1
          have gb78 := hg78.2.1
          have gc78 := hg78.2.2.1
          refine z_aload_n d_X6_denied_81 1 rfl ?_
          refine z_iload_n d_X6_denied_82 0 rfl ?_
          refine z_callV 1 c_X6_77 rfl rfl (y9_t_emS G x N R K r S78 T78 tl B n q78 ((c ++ c34) ++ c78) (-10) h78 (by (try simp only [List.length_append, List.length_cons, List.length_nil]); omega)) rfl rfl (Nat.le_of_ble_eq_true rfl) (rm_le (by omega)) d_X6_denied_83 ?_
          rintro v83 w83 ⟨rfl, S83, T83, rfl, hT83, h83⟩
          exact z_vret _ d_X6_denied_86 rfl ⟨rfl, _, _, rfl, (hT83.trans (hT78.trans (hT73.trans (hT34.trans rfl)))), RP.ok (by rw [denP_0, dnP, if_neg (fun hh => c_6 hh.1), cmP, hr34]; show (if _ then _ else _) = _; rw [if_neg (by rw [hop]; decide), hr78, hop]) h83 (by simp only [List.append_assoc])⟩
      · refine z_aload_n d_X6_denied_46 0 rfl ?_
        refine z_get (v := .int (S34 2)) (1) f_X6_42_6 rfl rfl d_X6_denied_47 ?_
        refine z_top h34.1.2.1 ?_
        refine z_bipush (v := 61) d_X6_denied_50 (by decide) ?_
        refine z_icmp_ne d_X6_denied_52 (fun c_52 => ?_) (fun c_52 => ?_)
        · have hop : opC (tkL B n q34) = 0 := by unfold opC; rw [if_neg c_43, if_neg c_52]
          exact z_vret _ d_X6_denied_86 rfl ⟨rfl, _, _, rfl, (hT34.trans rfl), RP.ok (by rw [denP_0, dnP, if_neg (fun hh => c_6 hh.1), cmP, hr34]; exact if_pos hop) h34 (by simp only [List.append_assoc])⟩
        · have hop : opC (tkL B n q34) = -11 := by rw [c_52]; rfl
          refine z_aload_n d_X6_denied_55 0 rfl ?_
          refine z_get (v := .int (S34 2)) (1) f_X6_42_6 rfl rfl d_X6_denied_56 ?_
          refine z_top h34.1.2.1 ?_
          refine z_bipush (v := 60) d_X6_denied_59 (by decide) ?_
          refine z_icmp_ne d_X6_denied_61 (fun c_61 => ?_) (fun c_61 => ?_)
          rotate_left
          · exact absurd c_61 (by rw [c_52]; decide)
          refine z_bipush (v := -11) d_X6_denied_69 (by decide) ?_
          refine z_istore_n [(2, .int (-11)), (0, .ref (x 1)), (1, .int 5)] d_X6_denied_71 (by decide) rfl ?_
          refine z_aload_n d_X6_denied_72 1 rfl ?_
          have hk73 := nx_tk (B := B) (n := n) (p := q34) c_52 (by decide) (by decide)
          have hn73 := nx_le B hg34.2.1
          refine z_callV 1 c_X6_35 rfl rfl (y9_t_adv G x N R K r tl B n hn h0 hB q34 (c ++ c34) S34 T34 hg34.2.1 h34 (by rw [c_52]; decide)) rfl rfl (Nat.le_of_ble_eq_true rfl) (rm_le (by omega)) d_X6_denied_73 ?_
          rintro v73 w73 ⟨rfl, S73, T73, rfl, hT73, h73⟩
          refine z_aload_n d_X6_denied_76 1 rfl ?_
          refine z_iload_n d_X6_denied_77 2 rfl ?_
          refine z_callV 1 c_X6_83 rfl rfl (hsum (nxL B n q34) (c ++ c34) S73 T73 (nx_le B hg34.2.1) (by (try simp only [List.length_append, List.length_cons, List.length_nil]); omega) h73) rfl rfl (Nat.le_of_ble_eq_true rfl) (rm_le (by omega)) d_X6_denied_78 ?_
          rintro v78 w78 ⟨rfl, S78, T78, rfl, hT78, h78⟩
          rcases hr78 : sumP B n 0 (nxL B n q34) with f78 | ⟨c78, q78⟩
          · rw [hr78] at h78
            replace h78 : RF f78 S78 := h78
            refine z_aload_n d_X6_denied_81 1 rfl ?_
            refine z_iload_n d_X6_denied_82 0 rfl ?_
            refine z_callV 1 c_X6_77 rfl rfl (y9_t_emF G x N R K r S78 T78 tl f78 (-11) h78) rfl rfl (Nat.le_of_ble_eq_true rfl) (rm_le (by omega)) d_X6_denied_83 ?_
            rintro v83 w83 ⟨rfl, S83, T83, rfl, hT83, h83⟩
            exact z_vret _ d_X6_denied_86 rfl ⟨rfl, _, _, rfl, (hT83.trans (hT78.trans (hT73.trans (hT34.trans rfl)))), RP.bad (by rw [denP_0, dnP, if_neg (fun hh => c_6 hh.1), cmP, hr34]; show (if _ then _ else _) = _; rw [if_neg (by rw [hop]; decide), hr78]) h83⟩
          · rw [hr78] at h78
            replace h78 : RS B n q78 ((c ++ c34) ++ c78) S78 (T78 0) := h78
            have hg78 := (sum_gd B n 0 _ (nx_le B hg34.2.1)).1 c78 q78 hr78
            have ga78 := hg78.1
            have gb78 := hg78.2.1
            have gc78 := hg78.2.2.1
            refine z_aload_n d_X6_denied_81 1 rfl ?_
            refine z_iload_n d_X6_denied_82 0 rfl ?_
            refine z_callV 1 c_X6_77 rfl rfl (y9_t_emS G x N R K r S78 T78 tl B n q78 ((c ++ c34) ++ c78) (-11) h78 (by (try simp only [List.length_append, List.length_cons, List.length_nil]); omega)) rfl rfl (Nat.le_of_ble_eq_true rfl) (rm_le (by omega)) d_X6_denied_83 ?_
            rintro v83 w83 ⟨rfl, S83, T83, rfl, hT83, h83⟩
            exact z_vret _ d_X6_denied_86 rfl ⟨rfl, _, _, rfl, (hT83.trans (hT78.trans (hT73.trans (hT34.trans rfl)))), RP.ok (by rw [denP_0, dnP, if_neg (fun hh => c_6 hh.1), cmP, hr34]; show (if _ then _ else _) = _; rw [if_neg (by rw [hop]; decide), hr78, hop]) h83 (by simp only [List.append_assoc])⟩
  · refine z_iload_n d_X6_denied_9 1 rfl ?_
    refine z_iconst (v := 5) d_X6_denied_10 (by decide) ?_
    refine z_icmp_ge d_X6_denied_11 (fun c_11 => ?_) (fun c_11 => ?_)
    rotate_left
    · exact absurd c_11 (by decide)
    refine z_aload_n d_X6_denied_32 0 rfl ?_
    refine z_iload_n d_X6_denied_33 1 rfl ?_
    refine z_callV 1 c_X6_83 rfl rfl (hsum p c S T hp (by (try simp only [List.length_append, List.length_cons, List.length_nil]); omega) h) rfl rfl (Nat.le_of_ble_eq_true rfl) (rm_le (by omega)) d_X6_denied_34 ?_
    rintro v34 w34 ⟨rfl, S34, T34, rfl, hT34, h34⟩
    rcases hr34 : sumP B n 0 p with f34 | ⟨c34, q34⟩
    · rw [hr34] at h34
      replace h34 : RF f34 S34 := h34
      refine z_aload_n d_X6_denied_37 0 rfl ?_
      refine z_get (v := .int (S34 2)) (1) f_X6_42_6 rfl rfl d_X6_denied_38 ?_
      refine z_top h34.1 ?_
      refine z_bipush (v := 60) d_X6_denied_41 (by decide) ?_
      refine z_icmp_eq d_X6_denied_43 (fun c_43 => ?_) (fun c_43 => ?_)
      · exact absurd c_43 (by decide)
      refine z_aload_n d_X6_denied_46 0 rfl ?_
      refine z_get (v := .int (S34 2)) (1) f_X6_42_6 rfl rfl d_X6_denied_47 ?_
      refine z_top h34.1 ?_
      refine z_bipush (v := 61) d_X6_denied_50 (by decide) ?_
      refine z_icmp_ne d_X6_denied_52 (fun c_52 => ?_) (fun c_52 => ?_)
      rotate_left
      · exact absurd c_52 (by decide)
      exact z_vret _ d_X6_denied_86 rfl ⟨rfl, _, _, rfl, (hT34.trans rfl), RP.bad (by rw [denP_0, dnP, if_neg (fun hh => absurd hh.2 (by decide)), cmP, hr34]) h34⟩
    · rw [hr34] at h34
      replace h34 : RS B n q34 (c ++ c34) S34 (T34 0) := h34
      have hg34 := (sum_gd B n 0 _ hp).1 c34 q34 hr34
      have ga34 := hg34.1
      have gb34 := hg34.2.1
      have gc34 := hg34.2.2.1
      refine z_aload_n d_X6_denied_37 0 rfl ?_
      refine z_get (v := .int (S34 2)) (1) f_X6_42_6 rfl rfl d_X6_denied_38 ?_
      refine z_top h34.1.2.1 ?_
      refine z_bipush (v := 60) d_X6_denied_41 (by decide) ?_
      refine z_icmp_eq d_X6_denied_43 (fun c_43 => ?_) (fun c_43 => ?_)
      · have hop : opC (tkL B n q34) = -10 := by rw [c_43]; rfl
        refine z_aload_n d_X6_denied_55 0 rfl ?_
        refine z_get (v := .int (S34 2)) (1) f_X6_42_6 rfl rfl d_X6_denied_56 ?_
        refine z_top h34.1.2.1 ?_
        refine z_bipush (v := 60) d_X6_denied_59 (by decide) ?_
        refine z_icmp_ne d_X6_denied_61 (fun c_61 => ?_) (fun c_61 => ?_)
        · exact absurd c_61 (fun hh => hh c_43)
        refine z_bipush (v := -10) d_X6_denied_64 (by decide) ?_
        refine z_goto d_X6_denied_66 ?_
        refine z_istore_n [(2, .int (-10)), (0, .ref (x 1)), (1, .int 5)] d_X6_denied_71 (by decide) rfl ?_
        refine z_aload_n d_X6_denied_72 1 rfl ?_
        have hk73 := nx_tk (B := B) (n := n) (p := q34) c_43 (by decide) (by decide)
        have hn73 := nx_le B hg34.2.1
        refine z_callV 1 c_X6_35 rfl rfl (y9_t_adv G x N R K r tl B n hn h0 hB q34 (c ++ c34) S34 T34 hg34.2.1 h34 (by rw [c_43]; decide)) rfl rfl (Nat.le_of_ble_eq_true rfl) (rm_le (by omega)) d_X6_denied_73 ?_
        rintro v73 w73 ⟨rfl, S73, T73, rfl, hT73, h73⟩
        refine z_aload_n d_X6_denied_76 1 rfl ?_
        refine z_iload_n d_X6_denied_77 2 rfl ?_
        refine z_callV 1 c_X6_83 rfl rfl (hsum (nxL B n q34) (c ++ c34) S73 T73 (nx_le B hg34.2.1) (by (try simp only [List.length_append, List.length_cons, List.length_nil]); omega) h73) rfl rfl (Nat.le_of_ble_eq_true rfl) (rm_le (by omega)) d_X6_denied_78 ?_
        rintro v78 w78 ⟨rfl, S78, T78, rfl, hT78, h78⟩
        rcases hr78 : sumP B n 0 (nxL B n q34) with f78 | ⟨c78, q78⟩
        · rw [hr78] at h78
          replace h78 : RF f78 S78 := h78
          refine z_aload_n d_X6_denied_81 1 rfl ?_
          refine z_iload_n d_X6_denied_82 0 rfl ?_
          refine z_callV 1 c_X6_77 rfl rfl (y9_t_emF G x N R K r S78 T78 tl f78 (-10) h78) rfl rfl (Nat.le_of_ble_eq_true rfl) (rm_le (by omega)) d_X6_denied_83 ?_
          rintro v83 w83 ⟨rfl, S83, T83, rfl, hT83, h83⟩
          exact z_vret _ d_X6_denied_86 rfl ⟨rfl, _, _, rfl, (hT83.trans (hT78.trans (hT73.trans (hT34.trans rfl)))), RP.bad (by rw [denP_0, dnP, if_neg (fun hh => absurd hh.2 (by decide)), cmP, hr34]; show (if _ then _ else _) = _; rw [if_neg (by rw [hop]; decide), hr78]) h83⟩
        · rw [hr78] at h78
          replace h78 : RS B n q78 ((c ++ c34) ++ c78) S78 (T78 0) := h78
          have hg78 := (sum_gd B n 0 _ (nx_le B hg34.2.1)).1 c78 q78 hr78
          have ga78 := hg78.1
          have gb78 := hg78.2.1
          have gc78 := hg78.2.2.1
          refine z_aload_n d_X6_denied_81 1 rfl ?_
          refine z_iload_n d_X6_denied_82 0 rfl ?_
          refine z_callV 1 c_X6_77 rfl rfl (y9_t_emS G x N R K r S78 T78 tl B n q78 ((c ++ c34) ++ c78) (-10) h78 (by (try simp only [List.length_append, List.length_cons, List.length_nil]); omega)) rfl rfl (Nat.le_of_ble_eq_true rfl) (rm_le (by omega)) d_X6_denied_83 ?_
          rintro v83 w83 ⟨rfl, S83, T83, rfl, hT83, h83⟩
          exact z_vret _ d_X6_denied_86 rfl ⟨rfl, _, _, rfl, (hT83.trans (hT78.trans (hT73.trans (hT34.trans rfl)))), RP.ok (by rw [denP_0, dnP, if_neg (fun hh => absurd hh.2 (by decide)), cmP, hr34]; show (if _ then _ else _) = _; rw [if_neg (by rw [hop]; decide), hr78, hop]) h83 (by simp only [List.append_assoc])⟩
      · refine z_aload_n d_X6_denied_46 0 rfl ?_
        refine z_get (v := .int (S34 2)) (1) f_X6_42_6 rfl rfl d_X6_denied_47 ?_
        refine z_top h34.1.2.1 ?_
        refine z_bipush (v := 61) d_X6_denied_50 (by decide) ?_
        refine z_icmp_ne d_X6_denied_52 (fun c_52 => ?_) (fun c_52 => ?_)
        · have hop : opC (tkL B n q34) = 0 := by unfold opC; rw [if_neg c_43, if_neg c_52]
          exact z_vret _ d_X6_denied_86 rfl ⟨rfl, _, _, rfl, (hT34.trans rfl), RP.ok (by rw [denP_0, dnP, if_neg (fun hh => absurd hh.2 (by decide)), cmP, hr34]; exact if_pos hop) h34 (by simp only [List.append_assoc])⟩
        · have hop : opC (tkL B n q34) = -11 := by rw [c_52]; rfl
          refine z_aload_n d_X6_denied_55 0 rfl ?_
          refine z_get (v := .int (S34 2)) (1) f_X6_42_6 rfl rfl d_X6_denied_56 ?_
          refine z_top h34.1.2.1 ?_
          refine z_bipush (v := 60) d_X6_denied_59 (by decide) ?_
          refine z_icmp_ne d_X6_denied_61 (fun c_61 => ?_) (fun c_61 => ?_)
          rotate_left
          · exact absurd c_61 (by rw [c_52]; decide)
          refine z_bipush (v := -11) d_X6_denied_69 (by decide) ?_
          refine z_istore_n [(2, .int (-11)), (0, .ref (x 1)), (1, .int 5)] d_X6_denied_71 (by decide) rfl ?_
          refine z_aload_n d_X6_denied_72 1 rfl ?_
          have hk73 := nx_tk (B := B) (n := n) (p := q34) c_52 (by decide) (by decide)
          have hn73 := nx_le B hg34.2.1
          refine z_callV 1 c_X6_35 rfl rfl (y9_t_adv G x N R K r tl B n hn h0 hB q34 (c ++ c34) S34 T34 hg34.2.1 h34 (by rw [c_52]; decide)) rfl rfl (Nat.le_of_ble_eq_true rfl) (rm_le (by omega)) d_X6_denied_73 ?_
          rintro v73 w73 ⟨rfl, S73, T73, rfl, hT73, h73⟩
          refine z_aload_n d_X6_denied_76 1 rfl ?_
          refine z_iload_n d_X6_denied_77 2 rfl ?_
          refine z_callV 1 c_X6_83 rfl rfl (hsum (nxL B n q34) (c ++ c34) S73 T73 (nx_le B hg34.2.1) (by (try simp only [List.length_append, List.length_cons, List.length_nil]); omega) h73) rfl rfl (Nat.le_of_ble_eq_true rfl) (rm_le (by omega)) d_X6_denied_78 ?_
          rintro v78 w78 ⟨rfl, S78, T78, rfl, hT78, h78⟩
          rcases hr78 : sumP B n 0 (nxL B n q34) with f78 | ⟨c78, q78⟩
          · rw [hr78] at h78
            replace h78 : RF f78 S78 := h78
            refine z_aload_n d_X6_denied_81 1 rfl ?_
            refine z_iload_n d_X6_denied_82 0 rfl ?_
            refine z_callV 1 c_X6_77 rfl rfl (y9_t_emF G x N R K r S78 T78 tl f78 (-11) h78) rfl rfl (Nat.le_of_ble_eq_true rfl) (rm_le (by omega)) d_X6_denied_83 ?_
            rintro v83 w83 ⟨rfl, S83, T83, rfl, hT83, h83⟩
            exact z_vret _ d_X6_denied_86 rfl ⟨rfl, _, _, rfl, (hT83.trans (hT78.trans (hT73.trans (hT34.trans rfl)))), RP.bad (by rw [denP_0, dnP, if_neg (fun hh => absurd hh.2 (by decide)), cmP, hr34]; show (if _ then _ else _) = _; rw [if_neg (by rw [hop]; decide), hr78]) h83⟩
          · rw [hr78] at h78
            replace h78 : RS B n q78 ((c ++ c34) ++ c78) S78 (T78 0) := h78
            have hg78 := (sum_gd B n 0 _ (nx_le B hg34.2.1)).1 c78 q78 hr78
            have ga78 := hg78.1
            have gb78 := hg78.2.1
            have gc78 := hg78.2.2.1
            refine z_aload_n d_X6_denied_81 1 rfl ?_
            refine z_iload_n d_X6_denied_82 0 rfl ?_
            refine z_callV 1 c_X6_77 rfl rfl (y9_t_emS G x N R K r S78 T78 tl B n q78 ((c ++ c34) ++ c78) (-11) h78 (by (try simp only [List.length_append, List.length_cons, List.length_nil]); omega)) rfl rfl (Nat.le_of_ble_eq_true rfl) (rm_le (by omega)) d_X6_denied_83 ?_
            rintro v83 w83 ⟨rfl, S83, T83, rfl, hT83, h83⟩
            exact z_vret _ d_X6_denied_86 rfl ⟨rfl, _, _, rfl, (hT83.trans (hT78.trans (hT73.trans (hT34.trans rfl)))), RP.ok (by rw [denP_0, dnP, if_neg (fun hh => absurd hh.2 (by decide)), cmP, hr34]; show (if _ then _ else _) = _; rw [if_neg (by rw [hop]; decide), hr78, hop]) h83 (by simp only [List.append_assoc])⟩
set_option maxHeartbeats 4000000 in
set_option maxRecDepth 100000 in
theorem y9_t_denS (G : GT) (x : Nat → Nat) (N : Nat → Int32) (R : Nat → Nat → Int32) (K : Nat → Nat → Option Nat) (r : Nat → Nat) (S : Nat → Int32) (T : Nat → Nat → Int32) (tl : va_W) (B : Nat → Int32) (n : Nat) (hn : n ≤ 160) (h0 : N 0 = nI n) (hB : Tp B n (R 0)) (p : Nat) (c : List Int32) (hp : p ≤ n) (hc : c.length ≤ p) (h : RS B n p c S (T 0)) (d o : Nat) (hd : d < 5) (ds : Nat) (hsum : y9_CtR G x N R K r tl B n mX6_sum ds (nI d) (sumP B n (o + 1))) (dn : Nat) (hnot : y9_CtR G x N R K r tl B n mX6_denied dn (nI (d + 1)) (denP B n o)) (dp : Nat) (hd1 : 9 ≤ dp) (hd2 : ds + 1 ≤ dp) (hd3 : dn + 1 ≤ dp)  : Ct G mX6_denied dp 0 0 [.ref (x 1), .int (nI d)] (YW G x N R K r S T tl) (y9_RT G x N R K r (T 1) tl (RP B n c (denP B n (o + 1) p))) := by
  refine Ct.intro [(0, .ref (x 1)), (1, .int (nI d))] (by decide) rfl (Nat.le_of_ble_eq_true rfl) ?_
  refine z_aload_n d_X6_denied_0 0 rfl ?_
  refine z_get (v := .int (S 2)) (1) f_X6_42_6 rfl rfl d_X6_denied_1 ?_
  refine z_top h.1.2.1 ?_
  refine z_bipush (v := 9) d_X6_denied_4 (by decide) ?_
  refine z_icmp_ne d_X6_denied_6 (fun c_6 => ?_) (fun c_6 => ?_)
  · refine z_aload_n d_X6_denied_32 0 rfl ?_
    refine z_iload_n d_X6_denied_33 1 rfl ?_
    refine z_callV 1 c_X6_83 rfl rfl (hsum p c S T hp (by (try simp only [List.length_append, List.length_cons, List.length_nil]); omega) h) rfl rfl (Nat.le_of_ble_eq_true rfl) (rm_le (by omega)) d_X6_denied_34 ?_
    rintro v34 w34 ⟨rfl, S34, T34, rfl, hT34, h34⟩
    rcases hr34 : sumP B n (o + 1) p with f34 | ⟨c34, q34⟩
    · rw [hr34] at h34
      replace h34 : RF f34 S34 := h34
      refine z_aload_n d_X6_denied_37 0 rfl ?_
      refine z_get (v := .int (S34 2)) (1) f_X6_42_6 rfl rfl d_X6_denied_38 ?_
      refine z_top h34.1 ?_
      refine z_bipush (v := 60) d_X6_denied_41 (by decide) ?_
      refine z_icmp_eq d_X6_denied_43 (fun c_43 => ?_) (fun c_43 => ?_)
      · exact absurd c_43 (by decide)
      refine z_aload_n d_X6_denied_46 0 rfl ?_
      refine z_get (v := .int (S34 2)) (1) f_X6_42_6 rfl rfl d_X6_denied_47 ?_
      refine z_top h34.1 ?_
      refine z_bipush (v := 61) d_X6_denied_50 (by decide) ?_
      refine z_icmp_ne d_X6_denied_52 (fun c_52 => ?_) (fun c_52 => ?_)
      rotate_left
      · exact absurd c_52 (by decide)
      exact z_vret _ d_X6_denied_86 rfl ⟨rfl, _, _, rfl, (hT34.trans rfl), RP.bad (by rw [denP_s, dnP, if_neg (fun hh => c_6 hh.1), cmP, hr34]) h34⟩
    · rw [hr34] at h34
      replace h34 : RS B n q34 (c ++ c34) S34 (T34 0) := h34
      have hg34 := (sum_gd B n (o + 1) _ hp).1 c34 q34 hr34
      have ga34 := hg34.1
      have gb34 := hg34.2.1
      have gc34 := hg34.2.2.1
      refine z_aload_n d_X6_denied_37 0 rfl ?_
      refine z_get (v := .int (S34 2)) (1) f_X6_42_6 rfl rfl d_X6_denied_38 ?_
      refine z_top h34.1.2.1 ?_
      refine z_bipush (v := 60) d_X6_denied_41 (by decide) ?_
      refine z_icmp_eq d_X6_denied_43 (fun c_43 => ?_) (fun c_43 => ?_)
      · have hop : opC (tkL B n q34) = -10 := by rw [c_43]; rfl
        refine z_aload_n d_X6_denied_55 0 rfl ?_
        refine z_get (v := .int (S34 2)) (1) f_X6_42_6 rfl rfl d_X6_denied_56 ?_
        refine z_top h34.1.2.1 ?_
        refine z_bipush (v := 60) d_X6_denied_59 (by decide) ?_
        refine z_icmp_ne d_X6_denied_61 (fun c_61 => ?_) (fun c_61 => ?_)
        · exact absurd c_61 (fun hh => hh c_43)
        refine z_bipush (v := -10) d_X6_denied_64 (by decide) ?_
        refine z_goto d_X6_denied_66 ?_
        refine z_istore_n [(2, .int (-10)), (0, .ref (x 1)), (1, .int (nI d))] d_X6_denied_71 (by decide) rfl ?_
        refine z_aload_n d_X6_denied_72 1 rfl ?_
        have hk73 := nx_tk (B := B) (n := n) (p := q34) c_43 (by decide) (by decide)
        have hn73 := nx_le B hg34.2.1
        refine z_callV 1 c_X6_35 rfl rfl (y9_t_adv G x N R K r tl B n hn h0 hB q34 (c ++ c34) S34 T34 hg34.2.1 h34 (by rw [c_43]; decide)) rfl rfl (Nat.le_of_ble_eq_true rfl) (rm_le (by omega)) d_X6_denied_73 ?_
        rintro v73 w73 ⟨rfl, S73, T73, rfl, hT73, h73⟩
        refine z_aload_n d_X6_denied_76 1 rfl ?_
        refine z_iload_n d_X6_denied_77 2 rfl ?_
        refine z_callV 1 c_X6_83 rfl rfl (hsum (nxL B n q34) (c ++ c34) S73 T73 (nx_le B hg34.2.1) (by (try simp only [List.length_append, List.length_cons, List.length_nil]); omega) h73) rfl rfl (Nat.le_of_ble_eq_true rfl) (rm_le (by omega)) d_X6_denied_78 ?_
        rintro v78 w78 ⟨rfl, S78, T78, rfl, hT78, h78⟩
        rcases hr78 : sumP B n (o + 1) (nxL B n q34) with f78 | ⟨c78, q78⟩
        · rw [hr78] at h78
          replace h78 : RF f78 S78 := h78
          refine z_aload_n d_X6_denied_81 1 rfl ?_
          refine z_iload_n d_X6_denied_82 0 rfl ?_
          refine z_callV 1 c_X6_77 rfl rfl (y9_t_emF G x N R K r S78 T78 tl f78 (-10) h78) rfl rfl (Nat.le_of_ble_eq_true rfl) (rm_le (by omega)) d_X6_denied_83 ?_
          rintro v83 w83 ⟨rfl, S83, T83, rfl, hT83, h83⟩
          exact z_vret _ d_X6_denied_86 rfl ⟨rfl, _, _, rfl, (hT83.trans (hT78.trans (hT73.trans (hT34.trans rfl)))), RP.bad (by rw [denP_s, dnP, if_neg (fun hh => c_6 hh.1), cmP, hr34]; show (if _ then _ else _) = _; rw [if_neg (by rw [hop]; decide), hr78]) h83⟩
        · rw [hr78] at h78
          replace h78 : RS B n q78 ((c ++ c34) ++ c78) S78 (T78 0) := h78
          have hg78 := (sum_gd B n (o + 1) _ (nx_le B hg34.2.1)).1 c78 q78 hr78
          have ga78 := hg78.1
          have gb78 := hg78.2.1
          have gc78 := hg78.2.2.1
          refine z_aload_n d_X6_denied_81 1 rfl ?_
          refine z_iload_n d_X6_denied_82 0 rfl ?_
          refine z_callV 1 c_X6_77 rfl rfl (y9_t_emS G x N R K r S78 T78 tl B n q78 ((c ++ c34) ++ c78) (-10) h78 (by (try simp only [List.length_append, List.length_cons, List.length_nil]); omega)) rfl rfl (Nat.le_of_ble_eq_true rfl) (rm_le (by omega)) d_X6_denied_83 ?_
          rintro v83 w83 ⟨rfl, S83, T83, rfl, hT83, h83⟩
          exact z_vret _ d_X6_denied_86 rfl ⟨rfl, _, _, rfl, (hT83.trans (hT78.trans (hT73.trans (hT34.trans rfl)))), RP.ok (by rw [denP_s, dnP, if_neg (fun hh => c_6 hh.1), cmP, hr34]; show (if _ then _ else _) = _; rw [if_neg (by rw [hop]; decide), hr78, hop]) h83 (by simp only [List.append_assoc])⟩
      · refine z_aload_n d_X6_denied_46 0 rfl ?_
        refine z_get (v := .int (S34 2)) (1) f_X6_42_6 rfl rfl d_X6_denied_47 ?_
        refine z_top h34.1.2.1 ?_
        refine z_bipush (v := 61) d_X6_denied_50 (by decide) ?_
        refine z_icmp_ne d_X6_denied_52 (fun c_52 => ?_) (fun c_52 => ?_)
        · have hop : opC (tkL B n q34) = 0 := by unfold opC; rw [if_neg c_43, if_neg c_52]
          exact z_vret _ d_X6_denied_86 rfl ⟨rfl, _, _, rfl, (hT34.trans rfl), RP.ok (by rw [denP_s, dnP, if_neg (fun hh => c_6 hh.1), cmP, hr34]; exact if_pos hop) h34 (by simp only [List.append_assoc])⟩
        · have hop : opC (tkL B n q34) = -11 := by rw [c_52]; rfl
          refine z_aload_n d_X6_denied_55 0 rfl ?_
          refine z_get (v := .int (S34 2)) (1) f_X6_42_6 rfl rfl d_X6_denied_56 ?_
          refine z_top h34.1.2.1 ?_
          refine z_bipush (v := 60) d_X6_denied_59 (by decide) ?_
          refine z_icmp_ne d_X6_denied_61 (fun c_61 => ?_) (fun c_61 => ?_)
          rotate_left
          · exact absurd c_61 (by rw [c_52]; decide)
          refine z_bipush (v := -11) d_X6_denied_69 (by decide) ?_
          refine z_istore_n [(2, .int (-11)), (0, .ref (x 1)), (1, .int (nI d))] d_X6_denied_71 (by decide) rfl ?_
          refine z_aload_n d_X6_denied_72 1 rfl ?_
          have hk73 := nx_tk (B := B) (n := n) (p := q34) c_52 (by decide) (by decide)
          have hn73 := nx_le B hg34.2.1
          refine z_callV 1 c_X6_35 rfl rfl (y9_t_adv G x N R K r tl B n hn h0 hB q34 (c ++ c34) S34 T34 hg34.2.1 h34 (by rw [c_52]; decide)) rfl rfl (Nat.le_of_ble_eq_true rfl) (rm_le (by omega)) d_X6_denied_73 ?_
          rintro v73 w73 ⟨rfl, S73, T73, rfl, hT73, h73⟩
          refine z_aload_n d_X6_denied_76 1 rfl ?_
          refine z_iload_n d_X6_denied_77 2 rfl ?_
          refine z_callV 1 c_X6_83 rfl rfl (hsum (nxL B n q34) (c ++ c34) S73 T73 (nx_le B hg34.2.1) (by (try simp only [List.length_append, List.length_cons, List.length_nil]); omega) h73) rfl rfl (Nat.le_of_ble_eq_true rfl) (rm_le (by omega)) d_X6_denied_78 ?_
          rintro v78 w78 ⟨rfl, S78, T78, rfl, hT78, h78⟩
          rcases hr78 : sumP B n (o + 1) (nxL B n q34) with f78 | ⟨c78, q78⟩
          · rw [hr78] at h78
            replace h78 : RF f78 S78 := h78
            refine z_aload_n d_X6_denied_81 1 rfl ?_
            refine z_iload_n d_X6_denied_82 0 rfl ?_
            refine z_callV 1 c_X6_77 rfl rfl (y9_t_emF G x N R K r S78 T78 tl f78 (-11) h78) rfl rfl (Nat.le_of_ble_eq_true rfl) (rm_le (by omega)) d_X6_denied_83 ?_
            rintro v83 w83 ⟨rfl, S83, T83, rfl, hT83, h83⟩
            exact z_vret _ d_X6_denied_86 rfl ⟨rfl, _, _, rfl, (hT83.trans (hT78.trans (hT73.trans (hT34.trans rfl)))), RP.bad (by rw [denP_s, dnP, if_neg (fun hh => c_6 hh.1), cmP, hr34]; show (if _ then _ else _) = _; rw [if_neg (by rw [hop]; decide), hr78]) h83⟩
          · rw [hr78] at h78
            replace h78 : RS B n q78 ((c ++ c34) ++ c78) S78 (T78 0) := h78
            have hg78 := (sum_gd B n (o + 1) _ (nx_le B hg34.2.1)).1 c78 q78 hr78
            have ga78 := hg78.1
            have gb78 := hg78.2.1
            have gc78 := hg78.2.2.1
            refine z_aload_n d_X6_denied_81 1 rfl ?_
            refine z_iload_n d_X6_denied_82 0 rfl ?_
            refine z_callV 1 c_X6_77 rfl rfl (y9_t_emS G x N R K r S78 T78 tl B n q78 ((c ++ c34) ++ c78) (-11) h78 (by (try simp only [List.length_append, List.length_cons, List.length_nil]); omega)) rfl rfl (Nat.le_of_ble_eq_true rfl) (rm_le (by omega)) d_X6_denied_83 ?_
            rintro v83 w83 ⟨rfl, S83, T83, rfl, hT83, h83⟩
            exact z_vret _ d_X6_denied_86 rfl ⟨rfl, _, _, rfl, (hT83.trans (hT78.trans (hT73.trans (hT34.trans rfl)))), RP.ok (by rw [denP_s, dnP, if_neg (fun hh => c_6 hh.1), cmP, hr34]; show (if _ then _ else _) = _; rw [if_neg (by rw [hop]; decide), hr78, hop]) h83 (by simp only [List.append_assoc])⟩
  · refine z_iload_n d_X6_denied_9 1 rfl ?_
    refine z_iconst (v := 5) d_X6_denied_10 (by decide) ?_
    refine z_icmp_ge d_X6_denied_11 (fun c_11 => ?_) (fun c_11 => ?_)
    · exact absurd c_11 (by rw [show (5 : Int32) = nI 5 from rfl]; intro hh; have := ge_nI (by omega) (by decide) hh; omega)
    refine z_aload_n d_X6_denied_14 0 rfl ?_
    have hk15 := nx_tk (B := B) (n := n) (p := p) c_6 (by decide) (by decide)
    have hn15 := nx_le B hp
    refine z_callV 1 c_X6_35 rfl rfl (y9_t_adv G x N R K r tl B n hn h0 hB p c S T hp h (by rw [c_6]; decide)) rfl rfl (Nat.le_of_ble_eq_true rfl) (rm_le (by omega)) d_X6_denied_15 ?_
    rintro v15 w15 ⟨rfl, S15, T15, rfl, hT15, h15⟩
    refine z_aload_n d_X6_denied_18 0 rfl ?_
    refine z_iload_n d_X6_denied_19 1 rfl ?_
    refine z_iconst (v := 1) d_X6_denied_20 (by decide) ?_
    refine z_iadd d_X6_denied_21 ?_
    refine z_top (nI_1 d) ?_
    refine z_callV 1 c_X6_80 rfl rfl (hnot (nxL B n p) c S15 T15 (nx_le B hp) (by (try simp only [List.length_append, List.length_cons, List.length_nil]); omega) h15) rfl rfl (Nat.le_of_ble_eq_true rfl) (rm_le (by omega)) d_X6_denied_22 ?_
    rintro v22 w22 ⟨rfl, S22, T22, rfl, hT22, h22⟩
    rcases hr22 : denP B n o (nxL B n p) with f22 | ⟨c22, q22⟩
    · rw [hr22] at h22
      replace h22 : RF f22 S22 := h22
      refine z_aload_n d_X6_denied_25 0 rfl ?_
      refine z_bipush (v := -9) d_X6_denied_26 (by decide) ?_
      refine z_callV 1 c_X6_77 rfl rfl (y9_t_emF G x N R K r S22 T22 tl f22 (-9) h22) rfl rfl (Nat.le_of_ble_eq_true rfl) (rm_le (by omega)) d_X6_denied_28 ?_
      rintro v28 w28 ⟨rfl, S28, T28, rfl, hT28, h28⟩
      exact z_vret _ d_X6_denied_31 rfl ⟨rfl, _, _, rfl, (hT28.trans (hT22.trans (hT15.trans rfl))), RP.bad (by rw [denP_s, dnP, if_pos ⟨c_6, rfl⟩, hr22]) h28⟩
    · rw [hr22] at h22
      replace h22 : RS B n q22 (c ++ c22) S22 (T22 0) := h22
      have hg22 := ((lv_gd B n o).2.1 _ (nx_le B hp)).1 c22 q22 hr22
      have ga22 := hg22.1
      have gb22 := hg22.2.1
      have gc22 := hg22.2.2.1
      refine z_aload_n d_X6_denied_25 0 rfl ?_
      refine z_bipush (v := -9) d_X6_denied_26 (by decide) ?_
      refine z_callV 1 c_X6_77 rfl rfl (y9_t_emS G x N R K r S22 T22 tl B n q22 (c ++ c22) (-9) h22 (by (try simp only [List.length_append, List.length_cons, List.length_nil]); omega)) rfl rfl (Nat.le_of_ble_eq_true rfl) (rm_le (by omega)) d_X6_denied_28 ?_
      rintro v28 w28 ⟨rfl, S28, T28, rfl, hT28, h28⟩
      exact z_vret _ d_X6_denied_31 rfl ⟨rfl, _, _, rfl, (hT28.trans (hT22.trans (hT15.trans rfl))), RP.ok (by rw [denP_s, dnP, if_pos ⟨c_6, rfl⟩, hr22]) h28 (by simp only [List.append_assoc])⟩
set_option maxRecDepth 100000 in
/-- the levels, so deep -/
theorem y9_PX_lv (G : GT) (x : Nat → Nat) (N : Nat → Int32) (R : Nat → Nat → Int32) (K : Nat → Nat → Option Nat) (r : Nat → Nat) (tl : va_W) (B : Nat → Int32) (n : Nat) (hn : n ≤ 160) (h0 : N 0 = nI n) (hB : Tp B n (R 0)) : ∀ o, o ≤ 5 → y9_CtR G x N R K r tl B n mX6_one (9 + 6 * o) (nI (5 - o)) (oneP B n o) ∧ y9_CtR G x N R K r tl B n mX6_denied (12 + 6 * o) (nI (5 - o)) (denP B n o) ∧ y9_CtR G x N R K r tl B n mX6_either (14 + 6 * o) (nI (5 - o)) (eitP B n o)
  | 0, _ => by
    have h1 : y9_CtR G x N R K r tl B n mX6_one (9 + 6 * (0)) (nI (5 - (0))) (oneP B n (0)) := fun p c S T hp hc h => y9_t_one0 G x N R K r S T tl B n hn h0 hB p c hp hc h
    have h2 : y9_CtR G x N R K r tl B n mX6_term (10 + 6 * (0)) (nI (5 - (0))) (terP B n (0)) := y9_P_term G x N R K r tl B n hn h0 hB _ _ _ h1 (lv_gd B n (0)).1 _ (by omega) (by omega)
    have h3 : y9_CtR G x N R K r tl B n mX6_sum (11 + 6 * (0)) (nI (5 - (0))) (sumP B n (0)) := y9_P_sum G x N R K r tl B n hn h0 hB _ _ _ h2 (ter_gd B n (0)) _ (by omega) (by omega)
    have h4 : y9_CtR G x N R K r tl B n mX6_denied (12 + 6 * (0)) (nI (5 - (0))) (denP B n (0)) := fun p c S T hp hc h => y9_t_den0 G x N R K r S T tl B n hn h0 hB p c hp hc h _ h3 _ (by omega) (by omega)
    have h5 : y9_CtR G x N R K r tl B n mX6_both (13 + 6 * (0)) (nI (5 - (0))) (botP B n (0)) := y9_P_both G x N R K r tl B n hn h0 hB _ _ _ h4 (lv_gd B n (0)).2.1 _ (by omega) (by omega)
    have h6 : y9_CtR G x N R K r tl B n mX6_either (14 + 6 * (0)) (nI (5 - (0))) (thL B n (botP B n (0)) opO) := y9_P_either G x N R K r tl B n hn h0 hB _ _ _ h5 (bot_gd B n (0)) _ (by omega) (by omega)
    exact ⟨h1, h4, by rw [show eitP B n (0) = thL B n (botP B n (0)) opO from rfl]; exact h6⟩
  | o + 1, ho => by
    obtain ⟨g1, g2, g3⟩ := y9_PX_lv G x N R K r tl B n hn h0 hB o (by omega)
    rw [show 5 - o = (5 - (o + 1)) + 1 by omega] at g1 g2 g3
    have h1 : y9_CtR G x N R K r tl B n mX6_one (9 + 6 * (o + 1)) (nI (5 - (o + 1))) (oneP B n (o + 1)) := fun p c S T hp hc h => y9_t_oneS G x N R K r S T tl B n hn h0 hB p c hp hc h (5 - (o + 1)) o (14 + 6 * o) (9 + 6 * o) (by omega) g3 g1 (9 + 6 * (o + 1)) (by omega) (by omega) (by omega)
    have h2 : y9_CtR G x N R K r tl B n mX6_term (10 + 6 * (o + 1)) (nI (5 - (o + 1))) (terP B n (o + 1)) := y9_P_term G x N R K r tl B n hn h0 hB _ _ _ h1 (lv_gd B n (o + 1)).1 _ (by omega) (by omega)
    have h3 : y9_CtR G x N R K r tl B n mX6_sum (11 + 6 * (o + 1)) (nI (5 - (o + 1))) (sumP B n (o + 1)) := y9_P_sum G x N R K r tl B n hn h0 hB _ _ _ h2 (ter_gd B n (o + 1)) _ (by omega) (by omega)
    have h4 : y9_CtR G x N R K r tl B n mX6_denied (12 + 6 * (o + 1)) (nI (5 - (o + 1))) (denP B n (o + 1)) := fun p c S T hp hc h => y9_t_denS G x N R K r S T tl B n hn h0 hB p c hp hc h (5 - (o + 1)) o (by omega) (11 + 6 * (o + 1)) h3 (12 + 6 * o) g2 (12 + 6 * (o + 1)) (by omega) (by omega) (by omega)
    have h5 : y9_CtR G x N R K r tl B n mX6_both (13 + 6 * (o + 1)) (nI (5 - (o + 1))) (botP B n (o + 1)) := y9_P_both G x N R K r tl B n hn h0 hB _ _ _ h4 (lv_gd B n (o + 1)).2.1 _ (by omega) (by omega)
    have h6 : y9_CtR G x N R K r tl B n mX6_either (14 + 6 * (o + 1)) (nI (5 - (o + 1))) (thL B n (botP B n (o + 1)) opO) := y9_P_either G x N R K r tl B n hn h0 hB _ _ _ h5 (bot_gd B n (o + 1)) _ (by omega) (by omega)
    exact ⟨h1, h4, by rw [show eitP B n (o + 1) = thL B n (botP B n (o + 1)) opO from rfl]; exact h6⟩
theorem y9_PX_E (G : GT) (x : Nat → Nat) (N : Nat → Int32) (R : Nat → Nat → Int32) (K : Nat → Nat → Option Nat) (r : Nat → Nat) (tl : va_W) (B : Nat → Int32) (n : Nat) (hn : n ≤ 160) (h0 : N 0 = nI n) (hB : Tp B n (R 0)) : y9_CtR G x N R K r tl B n mX6_either 44 0 (eitP B n 5) := (y9_PX_lv G x N R K r tl B n hn h0 hB 5 (Nat.le_refl 5)).2.2
/-! THE READER of class X: a text as a whole -/
set_option maxHeartbeats 4000000 in
set_option maxRecDepth 100000 in
theorem y9_t_partS (G : GT) (x : Nat → Nat) (N : Nat → Int32) (R : Nat → Nat → Int32) (K : Nat → Nat → Option Nat) (r : Nat → Nat) (S : Nat → Int32) (T : Nat → Nat → Int32) (tl : va_W) (B : Nat → Int32) (n : Nat) (hn : n ≤ 160) (h0 : N 0 = nI n) (hB : Tp B n (R 0)) (p : Nat) (c : List Int32) (hp : p ≤ n) (hc : c.length ≤ p) (h : RS B n p c S (T 0)) (key : Int32) (wh : Nat) (hw : wh < 3) (k0 : ¬ key = 0) (k1 : ¬ key = 1)  : Ct G mX6_part 45 0 0 [.ref (x 1), .int key, .int (nI wh)] (YW G x N R K r S T tl) (fun v w => v = none ∧ ∃ (S2 : Nat → Int32) (T2 : Nat → Nat → Int32), w = YW G x N R K r S2 T2 tl ∧ T2 1 = upd (T 1) wh (S2 5) ∧ RP B n c (parP B n key p) S2 (T2 0)) := by
  refine Ct.intro [(0, .ref (x 1)), (1, .int key), (2, .int (nI wh))] (by decide) rfl (Nat.le_of_ble_eq_true rfl) ?_
  refine z_aload_n d_X6_part_0 0 rfl ?_
  refine z_iload_n d_X6_part_1 1 rfl ?_
  refine z_callV 1 c_X6_64 rfl rfl (y9_t_expS G x N R K r S T tl B n hn h0 hB p c key hp (by (try simp only [List.length_append, List.length_cons, List.length_nil]); omega) k0 k1 h) rfl rfl (Nat.le_of_ble_eq_true rfl) rfl d_X6_part_2 ?_
  rintro v2 w2 ⟨rfl, S2, T2, rfl, hT2, h2⟩
  by_cases he2 : tkL B n p = key
  · replace h2 : RS B n (nxL B n p) c S2 (T2 0) := (if_pos he2).mp h2
    have hk2 := nx_tk (B := B) (n := n) (p := p) he2 k0 k1
    have hn2 := nx_le B hp
    refine z_aload_n d_X6_part_5 0 rfl ?_
    refine z_iconst (v := 0) d_X6_part_6 (by decide) ?_
    refine z_callV 1 c_X6_68 rfl rfl (y9_PX_E G x N R K r tl B n hn h0 hB (nxL B n p) c S2 T2 (nx_le B hp) (by (try simp only [List.length_append, List.length_cons, List.length_nil]); omega) h2) rfl rfl (Nat.le_of_ble_eq_true rfl) rfl d_X6_part_7 ?_
    rintro v7 w7 ⟨rfl, S7, T7, rfl, hT7, h7⟩
    rcases hr7 : eitP B n 5 (nxL B n p) with f7 | ⟨c7, q7⟩
    · rw [hr7] at h7
      replace h7 : RF f7 S7 := h7
      refine z_aload_n d_X6_part_10 0 rfl ?_
      refine z_bipush (v := 59) d_X6_part_11 (by decide) ?_
      refine z_callV 1 c_X6_64 rfl rfl (y9_t_expF G x N R K r S7 T7 tl f7 59 h7 (by decide)) rfl rfl (Nat.le_of_ble_eq_true rfl) rfl d_X6_part_13 ?_
      rintro v13 w13 ⟨rfl, S13, T13, rfl, hT13, h13⟩
      refine z_aload_n d_X6_part_16 0 rfl ?_
      refine z_get (v := .ref (x 4)) (1) f_X6_19_6 rfl rfl d_X6_part_17 ?_
      refine z_iload_n d_X6_part_20 2 rfl ?_
      refine z_aload_n d_X6_part_21 0 rfl ?_
      refine z_get (v := .int (S13 5)) (1) f_X6_29_6 rfl rfl d_X6_part_22 ?_
      refine z_iastN 4 wh (YW G x N R K r S13 (vf_upd T13 1 (upd (T13 1) wh (S13 5))) tl) rfl (nI_toInt (by omega)) (by omega) (ya_4 G x N R K r S13 T13 tl _) d_X6_part_25 ?_
      exact z_vret _ d_X6_part_26 rfl ⟨rfl, _, _, rfl, (by show upd (T13 1) wh (S13 5) = upd (T 1) wh (S13 5); rw [(hT13.trans (hT7.trans (hT2.trans rfl)))]), RP.bad (by rw [parP, if_pos he2, hr7]) h13⟩
    · rw [hr7] at h7
      replace h7 : RS B n q7 (c ++ c7) S7 (T7 0) := h7
      have hg7 := ((lv_gd B n 5).2.2 _ (nx_le B hp)).1 c7 q7 hr7
      have ga7 := hg7.1
      have gb7 := hg7.2.1
      have gc7 := hg7.2.2.1
      refine z_aload_n d_X6_part_10 0 rfl ?_
      refine z_bipush (v := 59) d_X6_part_11 (by decide) ?_
      refine z_callV 1 c_X6_64 rfl rfl (y9_t_expS G x N R K r S7 T7 tl B n hn h0 hB q7 (c ++ c7) 59 hg7.2.1 (by (try simp only [List.length_append, List.length_cons, List.length_nil]); omega) (by decide) (by decide) h7) rfl rfl (Nat.le_of_ble_eq_true rfl) rfl d_X6_part_13 ?_
      rintro v13 w13 ⟨rfl, S13, T13, rfl, hT13, h13⟩
      by_cases he13 : tkL B n q7 = 59
      · replace h13 : RS B n (nxL B n q7) (c ++ c7) S13 (T13 0) := (if_pos he13).mp h13
        have hk13 := nx_tk (B := B) (n := n) (p := q7) he13 (by decide) (by decide)
        have hn13 := nx_le B hg7.2.1
        refine z_aload_n d_X6_part_16 0 rfl ?_
        refine z_get (v := .ref (x 4)) (1) f_X6_19_6 rfl rfl d_X6_part_17 ?_
        refine z_iload_n d_X6_part_20 2 rfl ?_
        refine z_aload_n d_X6_part_21 0 rfl ?_
        refine z_get (v := .int (S13 5)) (1) f_X6_29_6 rfl rfl d_X6_part_22 ?_
        refine z_iastN 4 wh (YW G x N R K r S13 (vf_upd T13 1 (upd (T13 1) wh (S13 5))) tl) rfl (nI_toInt (by omega)) (by omega) (ya_4 G x N R K r S13 T13 tl _) d_X6_part_25 ?_
        exact z_vret _ d_X6_part_26 rfl ⟨rfl, _, _, rfl, (by show upd (T13 1) wh (S13 5) = upd (T 1) wh (S13 5); rw [(hT13.trans (hT7.trans (hT2.trans rfl)))]), RP.ok (by rw [parP, if_pos he2, hr7]; exact if_pos he13) (show RS B n _ _ S13 (T13 0) from h13) rfl⟩
      · replace h13 : RF (stL B n q7) S13 := (if_neg he13).mp h13
        refine z_aload_n d_X6_part_16 0 rfl ?_
        refine z_get (v := .ref (x 4)) (1) f_X6_19_6 rfl rfl d_X6_part_17 ?_
        refine z_iload_n d_X6_part_20 2 rfl ?_
        refine z_aload_n d_X6_part_21 0 rfl ?_
        refine z_get (v := .int (S13 5)) (1) f_X6_29_6 rfl rfl d_X6_part_22 ?_
        refine z_iastN 4 wh (YW G x N R K r S13 (vf_upd T13 1 (upd (T13 1) wh (S13 5))) tl) rfl (nI_toInt (by omega)) (by omega) (ya_4 G x N R K r S13 T13 tl _) d_X6_part_25 ?_
        exact z_vret _ d_X6_part_26 rfl ⟨rfl, _, _, rfl, (by show upd (T13 1) wh (S13 5) = upd (T 1) wh (S13 5); rw [(hT13.trans (hT7.trans (hT2.trans rfl)))]), RP.bad (by rw [parP, if_pos he2, hr7]; exact if_neg he13) h13⟩
  · replace h2 : RF (stL B n p) S2 := (if_neg he2).mp h2
    refine z_aload_n d_X6_part_5 0 rfl ?_
    refine z_iconst (v := 0) d_X6_part_6 (by decide) ?_
    refine z_callV 1 c_X6_68 rfl rfl (y9_F_X6_either G x N R K r tl _ (stL B n p) S2 T2 h2) rfl rfl (Nat.le_of_ble_eq_true rfl) rfl d_X6_part_7 ?_
    rintro v7 w7 ⟨rfl, S7, T7, rfl, hT7, h7⟩
    refine z_aload_n d_X6_part_10 0 rfl ?_
    refine z_bipush (v := 59) d_X6_part_11 (by decide) ?_
    refine z_callV 1 c_X6_64 rfl rfl (y9_t_expF G x N R K r S7 T7 tl (stL B n p) 59 h7 (by decide)) rfl rfl (Nat.le_of_ble_eq_true rfl) rfl d_X6_part_13 ?_
    rintro v13 w13 ⟨rfl, S13, T13, rfl, hT13, h13⟩
    refine z_aload_n d_X6_part_16 0 rfl ?_
    refine z_get (v := .ref (x 4)) (1) f_X6_19_6 rfl rfl d_X6_part_17 ?_
    refine z_iload_n d_X6_part_20 2 rfl ?_
    refine z_aload_n d_X6_part_21 0 rfl ?_
    refine z_get (v := .int (S13 5)) (1) f_X6_29_6 rfl rfl d_X6_part_22 ?_
    refine z_iastN 4 wh (YW G x N R K r S13 (vf_upd T13 1 (upd (T13 1) wh (S13 5))) tl) rfl (nI_toInt (by omega)) (by omega) (ya_4 G x N R K r S13 T13 tl _) d_X6_part_25 ?_
    exact z_vret _ d_X6_part_26 rfl ⟨rfl, _, _, rfl, (by show upd (T13 1) wh (S13 5) = upd (T 1) wh (S13 5); rw [(hT13.trans (hT7.trans (hT2.trans rfl)))]), RP.bad (by rw [parP, if_neg he2]) h13⟩
set_option maxHeartbeats 4000000 in
set_option maxRecDepth 100000 in
theorem y9_t_partF (G : GT) (x : Nat → Nat) (N : Nat → Int32) (R : Nat → Nat → Int32) (K : Nat → Nat → Option Nat) (r : Nat → Nat) (S : Nat → Int32) (T : Nat → Nat → Int32) (tl : va_W) (z : Nat) (h : RF z S) (key : Int32) (wh : Nat) (hw : wh < 3) (k1 : ¬ key = 1)  : Ct G mX6_part 7 0 0 [.ref (x 1), .int key, .int (nI wh)] (YW G x N R K r S T tl) (fun v w => v = none ∧ ∃ (S2 : Nat → Int32) (T2 : Nat → Nat → Int32), w = YW G x N R K r S2 T2 tl ∧ RF z S2) := by
  refine Ct.intro [(0, .ref (x 1)), (1, .int key), (2, .int (nI wh))] (by decide) rfl (Nat.le_of_ble_eq_true rfl) ?_
  refine z_aload_n d_X6_part_0 0 rfl ?_
  refine z_iload_n d_X6_part_1 1 rfl ?_
  refine z_callV 1 c_X6_64 rfl rfl (y9_t_expF G x N R K r S T tl z key h k1) rfl rfl (Nat.le_of_ble_eq_true rfl) rfl d_X6_part_2 ?_
  rintro v2 w2 ⟨rfl, S2, T2, rfl, hT2, h2⟩
  refine z_aload_n d_X6_part_5 0 rfl ?_
  refine z_iconst (v := 0) d_X6_part_6 (by decide) ?_
  refine z_callV 1 c_X6_68 rfl rfl (y9_F_X6_either G x N R K r tl _ z S2 T2 h2) rfl rfl (Nat.le_of_ble_eq_true rfl) rfl d_X6_part_7 ?_
  rintro v7 w7 ⟨rfl, S7, T7, rfl, hT7, h7⟩
  refine z_aload_n d_X6_part_10 0 rfl ?_
  refine z_bipush (v := 59) d_X6_part_11 (by decide) ?_
  refine z_callV 1 c_X6_64 rfl rfl (y9_t_expF G x N R K r S7 T7 tl z 59 h7 (by decide)) rfl rfl (Nat.le_of_ble_eq_true rfl) rfl d_X6_part_13 ?_
  rintro v13 w13 ⟨rfl, S13, T13, rfl, hT13, h13⟩
  refine z_aload_n d_X6_part_16 0 rfl ?_
  refine z_get (v := .ref (x 4)) (1) f_X6_19_6 rfl rfl d_X6_part_17 ?_
  refine z_iload_n d_X6_part_20 2 rfl ?_
  refine z_aload_n d_X6_part_21 0 rfl ?_
  refine z_get (v := .int (S13 5)) (1) f_X6_29_6 rfl rfl d_X6_part_22 ?_
  refine z_iastN 4 wh (YW G x N R K r S13 (vf_upd T13 1 (upd (T13 1) wh (S13 5))) tl) rfl (nI_toInt (by omega)) (by omega) (ya_4 G x N R K r S13 T13 tl _) d_X6_part_25 ?_
  exact z_vret _ d_X6_part_26 rfl ⟨rfl, _, _, rfl, h13⟩
set_option maxHeartbeats 4000000 in
set_option maxRecDepth 100000 in
theorem y9_t_X6_readTape (G : GT) (x : Nat → Nat) (N : Nat → Int32) (R : Nat → Nat → Int32) (K : Nat → Nat → Option Nat) (r : Nat → Nat) (S : Nat → Int32) (T : Nat → Nat → Int32) (tl : va_W) (B : Nat → Int32) (n : Nat) (hn : n ≤ 160) (h0 : N 0 = nI n) (hB : Tp B n (R 0))  : Ct G mX6_readTape 46 0 0 [.ref (x 1)] (YW G x N R K r S T tl) (fun v w => ∃ (S2 : Nat → Int32) (T2 : Nat → Nat → Int32), w = YW G x (upd N 0 0) R K r S2 T2 tl ∧ RdP (txP B n) v S2 T2) := by
  refine Ct.intro [(0, .ref (x 1))] (by decide) rfl (Nat.le_of_ble_eq_true rfl) ?_
  refine z_aload_n d_X6_readTape_0 0 rfl ?_
  refine z_iconst (v := 0) d_X6_readTape_1 (by decide) ?_
  refine z_put 1 (YW G x N R K r (upd S 0 0) T tl) p_X6_26_6 rfl rfl rfl (Nat.le_of_ble_eq_true rfl) (yf_1_2 G x N R K r S T tl _) d_X6_readTape_2 ?_
  refine z_aload_n d_X6_readTape_5 0 rfl ?_
  refine z_iconst (v := 0) d_X6_readTape_6 (by decide) ?_
  refine z_put 1 (YW G x N R K r (upd (upd S 0 0) 5 0) T tl) p_X6_29_6 rfl rfl rfl (Nat.le_of_ble_eq_true rfl) (yf_1_8 G x N R K r (upd S 0 0) T tl _) d_X6_readTape_7 ?_
  refine z_aload_n d_X6_readTape_10 0 rfl ?_
  refine z_iconst (v := -1) d_X6_readTape_11 (by decide) ?_
  refine z_put 1 (YW G x N R K r (upd (upd (upd S 0 0) 5 0) 4 (-1)) T tl) p_X6_32_6 rfl rfl rfl (Nat.le_of_ble_eq_true rfl) (yf_1_6 G x N R K r (upd (upd S 0 0) 5 0) T tl _) d_X6_readTape_12 ?_
  refine z_aload_n d_X6_readTape_15 0 rfl ?_
  refine z_callV 1 c_X6_35 rfl rfl (y9_t_X6_advance G x N R K r (upd (upd (upd S 0 0) 5 0) 4 (-1)) T tl B n hn h0 hB 0 (Nat.zero_le _) rfl) rfl rfl (Nat.le_of_ble_eq_true rfl) rfl d_X6_readTape_16 ?_
  rintro v16 w16 ⟨rfl, S16, rfl, ha16⟩
  have h16 : RS B n 0 [] S16 (T 0) := ⟨ha16, fun i hi => absurd hi (Nat.not_lt_zero _)⟩
  refine z_aload_n d_X6_readTape_19 0 rfl ?_
  refine z_iconst (v := 4) d_X6_readTape_20 (by decide) ?_
  refine z_iconst (v := 0) d_X6_readTape_21 (by decide) ?_
  refine z_callV 1 c_X6_38 rfl rfl (y9_t_partS G x N R K r S16 T tl B n hn h0 hB 0 ([]) (Nat.zero_le _) (by (try simp only [List.length_append, List.length_cons, List.length_nil]); omega) h16 4 0 (by decide) (by decide) (by decide)) rfl rfl (Nat.le_of_ble_eq_true rfl) rfl d_X6_readTape_22 ?_
  rintro v22 w22 ⟨rfl, S22, T22, rfl, hT22, h22⟩
  rcases hr22 : parP B n 4 0 with f22 | ⟨c22, q22⟩
  · rw [hr22] at h22
    replace h22 : RF f22 S22 := h22
    refine z_aload_n d_X6_readTape_25 0 rfl ?_
    refine z_iconst (v := 5) d_X6_readTape_26 (by decide) ?_
    refine z_iconst (v := 1) d_X6_readTape_27 (by decide) ?_
    refine z_callV 1 c_X6_38 rfl rfl (y9_t_partF G x N R K r S22 T22 tl f22 h22 5 1 (by decide) (by decide)) rfl rfl (Nat.le_of_ble_eq_true rfl) rfl d_X6_readTape_28 ?_
    rintro v28 w28 ⟨rfl, S28, T28, rfl, h28⟩
    refine z_aload_n d_X6_readTape_31 0 rfl ?_
    refine z_bipush (v := 6) d_X6_readTape_32 (by decide) ?_
    refine z_iconst (v := 2) d_X6_readTape_34 (by decide) ?_
    refine z_callV 1 c_X6_38 rfl rfl (y9_t_partF G x N R K r S28 T28 tl f22 h28 6 2 (by decide) (by decide)) rfl rfl (Nat.le_of_ble_eq_true rfl) rfl d_X6_readTape_35 ?_
    rintro v35 w35 ⟨rfl, S35, T35, rfl, h35⟩
    refine z_aload_n d_X6_readTape_38 0 rfl ?_
    refine z_get (v := .int (S35 2)) (1) f_X6_42_6 rfl rfl d_X6_readTape_39 ?_
    refine z_top h35.1 ?_
    refine z_if_eq d_X6_readTape_42 (fun c_42 => ?_) (fun c_42 => ?_)
    · exact absurd c_42 (by decide)
    refine z_aload_n d_X6_readTape_45 0 rfl ?_
    refine z_callV 1 c_X6_45 rfl rfl (y9_t_refF G x N R K r S35 T35 tl f22 h35) rfl rfl (Nat.le_of_ble_eq_true rfl) rfl d_X6_readTape_46 ?_
    rintro v46 w46 ⟨rfl, S46, T46, rfl, hT46, h46⟩
    refine z_aload_n d_X6_readTape_49 0 rfl ?_
    refine z_iconst (v := 0) d_X6_readTape_50 (by decide) ?_
    refine z_put 1 (YW G x (upd N 0 0) R K r S46 T46 tl) p_X6_22_6 rfl rfl rfl (Nat.le_of_ble_eq_true rfl) (yf_1_0 G x N R K r S46 T46 tl _) d_X6_readTape_51 ?_
    refine z_aload_n d_X6_readTape_54 0 rfl ?_
    refine z_get (v := .int (S46 4)) (1) f_X6_32_6 rfl rfl d_X6_readTape_55 ?_
    exact z_iret _ d_X6_readTape_58 rfl ⟨_, _, rfl, RdP.bad (by rw [txP, hr22]) h46.2.1⟩
  · rw [hr22] at h22
    replace h22 : RS B n q22 (c22) S22 (T22 0) := h22
    have hg22 := par_gd B n 4 (by decide) (by decide) _ (Nat.zero_le _) c22 q22 hr22
    have ga22 := hg22.1
    have gb22 := hg22.2.1
    have gc22 := hg22.2.2.1
    refine z_aload_n d_X6_readTape_25 0 rfl ?_
    refine z_iconst (v := 5) d_X6_readTape_26 (by decide) ?_
    refine z_iconst (v := 1) d_X6_readTape_27 (by decide) ?_
    refine z_callV 1 c_X6_38 rfl rfl (y9_t_partS G x N R K r S22 T22 tl B n hn h0 hB q22 c22 hg22.2.1 (by (try simp only [List.length_append, List.length_cons, List.length_nil]); omega) h22 5 1 (by decide) (by decide) (by decide)) rfl rfl (Nat.le_of_ble_eq_true rfl) rfl d_X6_readTape_28 ?_
    rintro v28 w28 ⟨rfl, S28, T28, rfl, hT28, h28⟩
    rcases hr28 : parP B n 5 q22 with f28 | ⟨c28, q28⟩
    · rw [hr28] at h28
      replace h28 : RF f28 S28 := h28
      refine z_aload_n d_X6_readTape_31 0 rfl ?_
      refine z_bipush (v := 6) d_X6_readTape_32 (by decide) ?_
      refine z_iconst (v := 2) d_X6_readTape_34 (by decide) ?_
      refine z_callV 1 c_X6_38 rfl rfl (y9_t_partF G x N R K r S28 T28 tl f28 h28 6 2 (by decide) (by decide)) rfl rfl (Nat.le_of_ble_eq_true rfl) rfl d_X6_readTape_35 ?_
      rintro v35 w35 ⟨rfl, S35, T35, rfl, h35⟩
      refine z_aload_n d_X6_readTape_38 0 rfl ?_
      refine z_get (v := .int (S35 2)) (1) f_X6_42_6 rfl rfl d_X6_readTape_39 ?_
      refine z_top h35.1 ?_
      refine z_if_eq d_X6_readTape_42 (fun c_42 => ?_) (fun c_42 => ?_)
      · exact absurd c_42 (by decide)
      refine z_aload_n d_X6_readTape_45 0 rfl ?_
      refine z_callV 1 c_X6_45 rfl rfl (y9_t_refF G x N R K r S35 T35 tl f28 h35) rfl rfl (Nat.le_of_ble_eq_true rfl) rfl d_X6_readTape_46 ?_
      rintro v46 w46 ⟨rfl, S46, T46, rfl, hT46, h46⟩
      refine z_aload_n d_X6_readTape_49 0 rfl ?_
      refine z_iconst (v := 0) d_X6_readTape_50 (by decide) ?_
      refine z_put 1 (YW G x (upd N 0 0) R K r S46 T46 tl) p_X6_22_6 rfl rfl rfl (Nat.le_of_ble_eq_true rfl) (yf_1_0 G x N R K r S46 T46 tl _) d_X6_readTape_51 ?_
      refine z_aload_n d_X6_readTape_54 0 rfl ?_
      refine z_get (v := .int (S46 4)) (1) f_X6_32_6 rfl rfl d_X6_readTape_55 ?_
      exact z_iret _ d_X6_readTape_58 rfl ⟨_, _, rfl, RdP.bad (by rw [txP, hr22]; show (match parP B n 5 q22 with | .inl z => _ | .inr (c1, q1) => _) = _; rw [hr28]) h46.2.1⟩
    · rw [hr28] at h28
      replace h28 : RS B n q28 (c22 ++ c28) S28 (T28 0) := h28
      have hg28 := par_gd B n 5 (by decide) (by decide) _ hg22.2.1 c28 q28 hr28
      have ga28 := hg28.1
      have gb28 := hg28.2.1
      have gc28 := hg28.2.2.1
      refine z_aload_n d_X6_readTape_31 0 rfl ?_
      refine z_bipush (v := 6) d_X6_readTape_32 (by decide) ?_
      refine z_iconst (v := 2) d_X6_readTape_34 (by decide) ?_
      refine z_callV 1 c_X6_38 rfl rfl (y9_t_partS G x N R K r S28 T28 tl B n hn h0 hB q28 (c22 ++ c28) hg28.2.1 (by (try simp only [List.length_append, List.length_cons, List.length_nil]); omega) h28 6 2 (by decide) (by decide) (by decide)) rfl rfl (Nat.le_of_ble_eq_true rfl) rfl d_X6_readTape_35 ?_
      rintro v35 w35 ⟨rfl, S35, T35, rfl, hT35, h35⟩
      rcases hr35 : parP B n 6 q28 with f35 | ⟨c35, q35⟩
      · rw [hr35] at h35
        replace h35 : RF f35 S35 := h35
        refine z_aload_n d_X6_readTape_38 0 rfl ?_
        refine z_get (v := .int (S35 2)) (1) f_X6_42_6 rfl rfl d_X6_readTape_39 ?_
        refine z_top h35.1 ?_
        refine z_if_eq d_X6_readTape_42 (fun c_42 => ?_) (fun c_42 => ?_)
        · exact absurd c_42 (by decide)
        refine z_aload_n d_X6_readTape_45 0 rfl ?_
        refine z_callV 1 c_X6_45 rfl rfl (y9_t_refF G x N R K r S35 T35 tl f35 h35) rfl rfl (Nat.le_of_ble_eq_true rfl) rfl d_X6_readTape_46 ?_
        rintro v46 w46 ⟨rfl, S46, T46, rfl, hT46, h46⟩
        refine z_aload_n d_X6_readTape_49 0 rfl ?_
        refine z_iconst (v := 0) d_X6_readTape_50 (by decide) ?_
        refine z_put 1 (YW G x (upd N 0 0) R K r S46 T46 tl) p_X6_22_6 rfl rfl rfl (Nat.le_of_ble_eq_true rfl) (yf_1_0 G x N R K r S46 T46 tl _) d_X6_readTape_51 ?_
        refine z_aload_n d_X6_readTape_54 0 rfl ?_
        refine z_get (v := .int (S46 4)) (1) f_X6_32_6 rfl rfl d_X6_readTape_55 ?_
        exact z_iret _ d_X6_readTape_58 rfl ⟨_, _, rfl, RdP.bad (by rw [txP, hr22]; show (match parP B n 5 q22 with | .inl z => _ | .inr (c1, q1) => _) = _; rw [hr28]; show (match parP B n 6 q28 with | .inl z => _ | .inr (c2, q2) => _) = _; rw [hr35]) h46.2.1⟩
      · rw [hr35] at h35
        replace h35 : RS B n q35 ((c22 ++ c28) ++ c35) S35 (T35 0) := h35
        have hg35 := par_gd B n 6 (by decide) (by decide) _ hg28.2.1 c35 q35 hr35
        have ga35 := hg35.1
        have gb35 := hg35.2.1
        have gc35 := hg35.2.2.1
        refine z_aload_n d_X6_readTape_38 0 rfl ?_
        refine z_get (v := .int (S35 2)) (1) f_X6_42_6 rfl rfl d_X6_readTape_39 ?_
        refine z_top h35.1.2.1 ?_
        refine z_if_eq d_X6_readTape_42 (fun c_42 => ?_) (fun c_42 => ?_)
        · refine z_aload_n d_X6_readTape_49 0 rfl ?_
          refine z_iconst (v := 0) d_X6_readTape_50 (by decide) ?_
          refine z_put 1 (YW G x (upd N 0 0) R K r S35 T35 tl) p_X6_22_6 rfl rfl rfl (Nat.le_of_ble_eq_true rfl) (yf_1_0 G x N R K r S35 T35 tl _) d_X6_readTape_51 ?_
          refine z_aload_n d_X6_readTape_54 0 rfl ?_
          refine z_get (v := .int (S35 4)) (1) f_X6_32_6 rfl rfl d_X6_readTape_55 ?_
          exact z_iret _ d_X6_readTape_58 rfl ⟨_, _, rfl, RdP.ok (by rw [txP, hr22]; show (match parP B n 5 q22 with | .inl z => _ | .inr (c1, q1) => _) = _; rw [hr28]; show (match parP B n 6 q28 with | .inl z => _ | .inr (c2, q2) => _) = _; rw [hr35]; show (if tkL B n q35 = 0 then _ else _) = _; rw [if_pos c_42]) h35.1.2.2.2.2.1 (by have e := ends_ok hT22 hT28 hT35; exact ⟨h35.1.2.2.2.2.2, h35.2, e.1.trans h22.1.2.2.2.2.2, e.2.1.trans h28.1.2.2.2.2.2, e.2.2.trans h35.1.2.2.2.2.2, (by (try simp only [List.length_append, List.length_cons, List.length_nil]); omega), fun p hp => by rcases (show p = 0 ∨ p = 1 ∨ p = 2 by omega) with rfl | rfl | rfl; exact hg22.2.2.2.2; exact hg28.2.2.2.2; exact hg35.2.2.2.2⟩)⟩
        · refine z_aload_n d_X6_readTape_45 0 rfl ?_
          refine z_callV 1 c_X6_45 rfl rfl (y9_t_refS G x N R K r S35 T35 tl B n hn h0 hB q35 ((c22 ++ c28) ++ c35) hg35.2.1 h35 (by (try simp only [List.length_append, List.length_cons, List.length_nil]); omega)) rfl rfl (Nat.le_of_ble_eq_true rfl) rfl d_X6_readTape_46 ?_
          rintro v46 w46 ⟨rfl, S46, T46, rfl, hT46, h46⟩
          refine z_aload_n d_X6_readTape_49 0 rfl ?_
          refine z_iconst (v := 0) d_X6_readTape_50 (by decide) ?_
          refine z_put 1 (YW G x (upd N 0 0) R K r S46 T46 tl) p_X6_22_6 rfl rfl rfl (Nat.le_of_ble_eq_true rfl) (yf_1_0 G x N R K r S46 T46 tl _) d_X6_readTape_51 ?_
          refine z_aload_n d_X6_readTape_54 0 rfl ?_
          refine z_get (v := .int (S46 4)) (1) f_X6_32_6 rfl rfl d_X6_readTape_55 ?_
          exact z_iret _ d_X6_readTape_58 rfl ⟨_, _, rfl, RdP.bad (by rw [txP, hr22]; show (match parP B n 5 q22 with | .inl z => _ | .inr (c1, q1) => _) = _; rw [hr28]; show (match parP B n 6 q28 with | .inl z => _ | .inr (c2, q2) => _) = _; rw [hr35]; show (if tkL B n q35 = 0 then _ else _) = _; rw [if_neg c_42]) h46.2.1⟩
set_option maxHeartbeats 4000000 in
set_option maxRecDepth 100000 in
theorem y9_t_X6_made (G : GT) (x : Nat → Nat) (N : Nat → Int32) (R : Nat → Nat → Int32) (K : Nat → Nat → Option Nat) (r : Nat → Nat) (S : Nat → Int32) (T : Nat → Nat → Int32) (tl : va_W) (cd : CD) (num : Int32) (h : Rd cd S T) : Ct G mX6_made 2 3 166 [.ref (x 1), .int num] (YW G x N R K r S T tl) (fun v w => ∃ (a : Nat) (tl2 : va_W), v = some (.ref a) ∧ w = YW G x N R K r S T (tl ++ tl2) ∧ TxR G cd num a (tl ++ tl2)) := by
  have hL := h.2.2.2.2.2.1
  refine Ct.intro [(0, .ref (x 1)), (1, .int num)] (by decide) rfl (Nat.le_of_ble_eq_true rfl) ?_
  refine z_new (C0 := RX9) (T1 := TX9) (N := 3) (ci := 9) (fs := [.int 0, .null, .null]) tyX9 rfl u_X9 tyX9_ok w_0339 w_0340 w_0065 (by decide +kernel) rfl d_X6_made_0 (fun q => ?_)
  refine z_dup d_X6_made_3 rfl ?_
  refine z_iload_n d_X6_made_4 1 rfl ?_
  refine z_aload_n d_X6_made_5 0 rfl ?_
  refine z_get (v := .ref (x 3)) 1 f_X6_15_6 rfl rfl d_X6_made_6 ?_
  refine z_aload_n d_X6_made_9 0 rfl ?_
  refine z_get (v := .int (S 5)) 1 f_X6_29_6 rfl rfl d_X6_made_10 ?_
  refine z_top h.1 ?_
  refine z_callS c_X6_50 (t_J7_copyOf G 3 (x 3) 160 (cd.1 ++ cd.2.1 ++ cd.2.2).length (T 0) (by decide) hL _ rfl) rfl rfl (Nat.le_of_ble_eq_true rfl) rfl d_X6_made_13 ?_
  rintro v w ⟨qc, g, rfl, rfl, hg⟩
  refine z_aload_n d_X6_made_16 0 rfl ?_
  refine z_get (v := .ref (x 4)) 1 f_X6_19_6 rfl rfl d_X6_made_17 ?_
  refine z_clone (N := 3) (f := T 1) 4 rfl w_0355 rfl rfl rfl d_X6_made_20 (fun qe => ?_)
  refine z_castI _ get_last w_0356 d_X6_made_23 ?_
  refine z_callI c_X6_61 (t_X9_init G _ (YW G x N R K r S T tl).length q (.int 0) .null .null num qc qe get3) rfl rfl (Nat.le_of_ble_eq_true rfl) rfl d_X6_made_26 ?_
  rintro v w ⟨rfl, rfl⟩
  rw [set3]
  exact z_aret _ d_X6_made_29 rfl (Or.inl ⟨_, rfl⟩) (Or.inr ⟨_, rfl⟩) ⟨q, _, rfl, rfl, h.tx hg⟩

