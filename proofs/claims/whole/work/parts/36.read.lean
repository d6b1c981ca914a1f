/-! THE READER of class X: its tokens -/
set_option maxHeartbeats 4000000 in
set_option maxRecDepth 100000 in
theorem t_X6_append (G : GT) (x : Nat → Nat) (N : Nat → Int32) (R : Nat → Nat → Int32) (K : Nat → Nat → Option Nat) (r : Nat → Nat) (S : Nat → Int32) (T : Nat → Nat → Int32) (tl : va_W) (k : Nat) (b : Int32) (hk : k < 160) (h0 : N 0 = nI k)  : Ct G mX6_append 0 0 0 [.ref (x 1), .int b] (XW G x N R K r S T tl) (Pv (XW G x (upd N 0 (nI (k + 1))) (vf_upd R 0 (upd (R 0) k (vp_nar .byte b))) K r S T tl)) := by
  refine Ct.intro [(0, .ref (x 1)), (1, .int b)] (by decide) rfl (Nat.le_of_ble_eq_true rfl) ?_
  refine z_aload_n d_X6_append_0 0 rfl ?_
  refine z_get (v := .int (N 0)) (1) f_X6_22_6 rfl rfl d_X6_append_1 ?_
  refine z_top h0 ?_
  refine z_sipush (v := 160) d_X6_append_4 (by decide) ?_
  refine z_icmp_ge d_X6_append_7 (fun c_7 => ?_) (fun c_7 => ?_)
  · exact absurd c_7 (by rw [show (160 : Int32) = nI 160 from rfl]; intro h; exact absurd (ge_nI (by omega) (by decide) h) (by omega))
  refine z_aload_n d_X6_append_10 0 rfl ?_
  refine z_get (v := .ref (x 2)) (1) f_X6_9_6 rfl rfl d_X6_append_11 ?_
  refine z_aload_n d_X6_append_14 0 rfl ?_
  refine z_get (v := .int (N 0)) (1) f_X6_22_6 rfl rfl d_X6_append_15 ?_
  refine z_top h0 ?_
  refine z_iload_n d_X6_append_18 1 rfl ?_
  refine z_bastN 2 k (XW G x N (vf_upd R 0 (upd (R 0) k (vp_nar .byte b))) K r S T tl) rfl (nI_toInt (by omega)) (by omega) (xa_2 G x N R K r S T tl _) d_X6_append_19 ?_
  refine z_aload_n d_X6_append_20 0 rfl ?_
  refine z_dup d_X6_append_21 rfl ?_
  refine z_get (v := .int (N 0)) (1) f_X6_22_6 rfl rfl d_X6_append_22 ?_
  refine z_top h0 ?_
  refine z_iconst (v := 1) d_X6_append_25 (by decide) ?_
  refine z_iadd d_X6_append_26 ?_
  refine z_put 1 (XW G x (upd N 0 ((nI k) + 1)) (vf_upd R 0 (upd (R 0) k (vp_nar .byte b))) K r S T tl) p_X6_22_6 rfl rfl rfl (Nat.le_of_ble_eq_true rfl) (xf_1_0 G x N (vf_upd R 0 (upd (R 0) k (vp_nar .byte b))) K r S T tl _) d_X6_append_27 ?_
  exact z_vret _ d_X6_append_30 rfl (Pv.of (by rw [nI_1]))
set_option maxHeartbeats 4000000 in
set_option maxRecDepth 100000 in
theorem t_X6_appendF (G : GT) (x : Nat → Nat) (N : Nat → Int32) (R : Nat → Nat → Int32) (K : Nat → Nat → Option Nat) (r : Nat → Nat) (S : Nat → Int32) (T : Nat → Nat → Int32) (tl : va_W) (b : Int32) (h0 : N 0 = nI 160)  : Ct G mX6_append 0 0 0 [.ref (x 1), .int b] (XW G x N R K r S T tl) (Pv (XW G x N R K r S T tl)) := by
  refine Ct.intro [(0, .ref (x 1)), (1, .int b)] (by decide) rfl (Nat.le_of_ble_eq_true rfl) ?_
  refine z_aload_n d_X6_append_0 0 rfl ?_
  refine z_get (v := .int (N 0)) (1) f_X6_22_6 rfl rfl d_X6_append_1 ?_
  refine z_top (h0.trans rfl) ?_
  refine z_sipush (v := 160) d_X6_append_4 (by decide) ?_
  refine z_icmp_ge d_X6_append_7 (fun c_7 => ?_) (fun c_7 => ?_)
  rotate_left
  · exact absurd c_7 (by decide)
  exact z_vret _ d_X6_append_30 rfl (Pv.of rfl)
set_option maxHeartbeats 4000000 in
set_option maxRecDepth 100000 in
theorem t_X6_isLetter (G : GT) (v : Int32) (ws : va_W)  : Ct G mX6_isLetter 0 0 0 [.int v] ws (Pi (b01 (isLt v)) ws) := by
  refine Ct.intro [(0, .int v)] (by decide) rfl (Nat.le_of_ble_eq_true rfl) ?_
  refine z_iload_n d_X6_isLetter_0 0 rfl ?_
  refine z_bipush (v := 97) d_X6_isLetter_1 (by decide) ?_
  refine z_icmp_lt d_X6_isLetter_3 (fun c_3 => ?_) (fun c_3 => ?_)
  · refine z_iconst (v := 0) d_X6_isLetter_16 (by decide) ?_
    exact z_zret _ d_X6_isLetter_17 rfl (by decide) (Pi.of (b01_f (by simp only [isLt, Bool.and_eq_true, decide_eq_true_eq]; rw [lt_i, show (97 : Int32).toInt = 97 by decide] at c_3; omega)))
  · refine z_iload_n d_X6_isLetter_6 0 rfl ?_
    refine z_bipush (v := 122) d_X6_isLetter_7 (by decide) ?_
    refine z_icmp_gt d_X6_isLetter_9 (fun c_9 => ?_) (fun c_9 => ?_)
    · refine z_iconst (v := 0) d_X6_isLetter_16 (by decide) ?_
      exact z_zret _ d_X6_isLetter_17 rfl (by decide) (Pi.of (b01_f (by simp only [isLt, Bool.and_eq_true, decide_eq_true_eq]; rw [lt_i, show (122 : Int32).toInt = 122 by decide] at c_9; omega)))
    · refine z_iconst (v := 1) d_X6_isLetter_12 (by decide) ?_
      refine z_goto d_X6_isLetter_13 ?_
      exact z_zret _ d_X6_isLetter_17 rfl (by decide) (Pi.of (b01_t (by simp only [isLt, Bool.and_eq_true, decide_eq_true_eq]; rw [lt_i, show (97 : Int32).toInt = 97 by decide] at c_3; rw [lt_i, show (122 : Int32).toInt = 122 by decide] at c_9; omega)))
set_option maxHeartbeats 4000000 in
set_option maxRecDepth 100000 in
theorem t_X6_isDigit (G : GT) (v : Int32) (ws : va_W)  : Ct G mX6_isDigit 0 0 0 [.int v] ws (Pi (b01 (isDg v)) ws) := by
  refine Ct.intro [(0, .int v)] (by decide) rfl (Nat.le_of_ble_eq_true rfl) ?_
  refine z_iload_n d_X6_isDigit_0 0 rfl ?_
  refine z_bipush (v := 48) d_X6_isDigit_1 (by decide) ?_
  refine z_icmp_lt d_X6_isDigit_3 (fun c_3 => ?_) (fun c_3 => ?_)
  · refine z_iconst (v := 0) d_X6_isDigit_16 (by decide) ?_
    exact z_zret _ d_X6_isDigit_17 rfl (by decide) (Pi.of (b01_f (by simp only [isDg, Bool.and_eq_true, decide_eq_true_eq]; rw [lt_i, show (48 : Int32).toInt = 48 by decide] at c_3; omega)))
  · refine z_iload_n d_X6_isDigit_6 0 rfl ?_
    refine z_bipush (v := 57) d_X6_isDigit_7 (by decide) ?_
    refine z_icmp_gt d_X6_isDigit_9 (fun c_9 => ?_) (fun c_9 => ?_)
    · refine z_iconst (v := 0) d_X6_isDigit_16 (by decide) ?_
      exact z_zret _ d_X6_isDigit_17 rfl (by decide) (Pi.of (b01_f (by simp only [isDg, Bool.and_eq_true, decide_eq_true_eq]; rw [lt_i, show (57 : Int32).toInt = 57 by decide] at c_9; omega)))
    · refine z_iconst (v := 1) d_X6_isDigit_12 (by decide) ?_
      refine z_goto d_X6_isDigit_13 ?_
      exact z_zret _ d_X6_isDigit_17 rfl (by decide) (Pi.of (b01_t (by simp only [isDg, Bool.and_eq_true, decide_eq_true_eq]; rw [lt_i, show (48 : Int32).toInt = 48 by decide] at c_3; rw [lt_i, show (57 : Int32).toInt = 57 by decide] at c_9; omega)))
set_option maxHeartbeats 4000000 in
set_option maxRecDepth 100000 in
theorem t_X6_isSign (G : GT) (b : Int32) (hb : bOk b) (ws : va_W)  : Ct G mX6_isSign 4 0 0 [.int (sb b)] ws (Pi (b01 (isSg b)) ws) := by
  refine Ct.intro [(0, .int (sb b))] (by decide) rfl (Nat.le_of_ble_eq_true rfl) ?_
  refine z_ldcs d_X6_isSign_0 13 rfl ?_
  refine z_iload_n d_X6_isSign_2 0 rfl ?_
  refine z_sipush (v := 255) d_X6_isSign_3 (by decide) ?_
  refine z_iand d_X6_isSign_6 ?_
  refine z_i2c d_X6_isSign_7 ?_
  rw [sb_255 hb]
  obtain ⟨k, hk, rfl⟩ : ∃ k : Nat, k < 256 ∧ b = nI k := ⟨b.toInt.toNat, by have := hb.2; omega, eq_nI (by have := hb.1; omega)⟩
  refine z_callKp (i := 13) (by decide) c_X6_156 (t_J0_indexOf_0f7a4 G k hk ws) rfl rfl (Nat.le_of_ble_eq_true rfl) rfl d_X6_isSign_8 ?_
  refine z_if_lt d_X6_isSign_11 (fun c_11 => ?_) (fun c_11 => ?_)
  · refine z_iconst (v := 0) d_X6_isSign_18 (by decide) ?_
    exact z_zret _ d_X6_isSign_19 rfl (by decide) (Pi.of (by have h9 := ix_sg k hk; rw [decide_eq_true c_11] at h9; exact b01_f (by intro hh; rw [hh] at h9; exact absurd h9 (by decide))))
  · refine z_iconst (v := 1) d_X6_isSign_14 (by decide) ?_
    refine z_goto d_X6_isSign_15 ?_
    exact z_zret _ d_X6_isSign_19 rfl (by decide) (Pi.of (by have h9 := ix_sg k hk; rw [decide_eq_false c_11] at h9; exact b01_t (by cases hh : isSg (nI k) with | true => rfl | false => rw [hh] at h9; exact absurd h9 (by decide))))
set_option maxHeartbeats 4000000 in
set_option maxRecDepth 100000 in
theorem l_X6_spells (G : GT) (x : Nat → Nat) (N : Nat → Int32) (R : Nat → Nat → Int32) (K : Nat → Nat → Option Nat) (r : Nat → Nat) (S : Nat → Int32) (T : Nat → Nat → Int32) (tl : va_W) (B : Nat → Int32) (n : Nat) (hn : n ≤ 160) (h0 : N 0 = nI n) (hB : Tp B n (R 0)) (s e i : Nat) (hi : i < 14) (hs : s ≤ e) (he : e ≤ n) (e0 : S 0 = nI e) (e1 : S 1 = nI s) (hl : e - s = sLen.getD i 0) : ∀ (f : Nat) (j : Nat) (hj0 : j ≤ sLen.getD i 0) (hA : ∀ j2, j2 < j → B (s + j2) = chS i j2) (hm : sLen.getD i 0 < j + f), Tr G mX6_spells (Rm 4 0 0) (OM G (Pi (b01 (decide (wlS B s e = sByt.getD i []))) (XW G x N R K r S T tl)) 0 0) 0 0 20 [(2, .int (nI j)), (0, .ref (x 1)), (1, .ref (G.2.2.1 i))] [] (XW G x N R K r S T tl) := by
  intro f
  induction f with
  | zero =>
    intro j hj0 hA hm
    exact absurd hm (by omega)
  | succ f ih =>
    intro j hj0 hA hm
    refine z_iload_n d_X6_spells_20 0 rfl ?_
    refine z_aload_n d_X6_spells_21 2 rfl ?_
    refine z_callKp (i := i) hi c_X6_146 (t_J0_length_8abf5 G i hi (XW G x N R K r S T tl)) rfl rfl (Nat.le_of_ble_eq_true rfl) rfl d_X6_spells_22 ?_
    refine z_icmp_ge d_X6_spells_25 (fun c_25 => ?_) (fun c_25 => ?_)
    · refine z_iconst (v := 1) d_X6_spells_55 (by decide) ?_
      exact z_zret _ d_X6_spells_56 rfl (by first | rfl | decide) (Pi.of (b01_t (by rw [decide_eq_true_eq]; exact wl_eq hi hl (fun j2 h2 => hA j2 (by have hL := sL_small i hi; have := ge_nI (by omega) (by omega) c_25; omega)))))
    · have hL := sL_small i hi
      have hj : j < sLen.getD i 0 := lt_nI (by omega) (by omega) c_25
      refine z_aload_n d_X6_spells_28 1 rfl ?_
      refine z_get (v := .ref (x 2)) (1) f_X6_9_6 rfl rfl d_X6_spells_29 ?_
      refine z_aload_n d_X6_spells_32 1 rfl ?_
      refine z_get (v := .int (S 1)) (1) f_X6_71_6 rfl rfl d_X6_spells_33 ?_
      refine z_top e1 ?_
      refine z_iload_n d_X6_spells_36 0 rfl ?_
      refine z_iadd d_X6_spells_37 ?_
      refine z_baldN (2) (s + j) rfl (by rw [nI_add]; exact nI_i (by omega)) (by omega) d_X6_spells_38 ?_
      refine z_top (hB (s + j) (by omega)).1 ?_
      refine z_aload_n d_X6_spells_39 2 rfl ?_
      refine z_iload_n d_X6_spells_40 0 rfl ?_
      refine z_callKp (i := i) hi c_X6_150 (t_J0_charAt_5068e G i j hi hj (XW G x N R K r S T tl)) rfl rfl (Nat.le_of_ble_eq_true rfl) rfl d_X6_spells_41 ?_
      refine z_icmp_eq d_X6_spells_44 (fun c_44 => ?_) (fun c_44 => ?_)
      · refine z_iinc (nI (j + 1)) [(2, .int (nI (j + 1))), (0, .ref (x 1)), (1, .ref (G.2.2.1 i))] 0 d_X6_spells_49 rfl (nI_1 _) (by decide) rfl ?_
        refine z_goto d_X6_spells_52 ?_
        exact ih (j + 1) (by omega) (fun j2 h2 => by
          by_cases hh : j2 = j
          · rw [hh]; exact (sb_ch (hB (s + j) (by omega)).2 hi hj).mp c_44
          · exact hA j2 (by omega)) (by omega)
      · refine z_iconst (v := 0) d_X6_spells_47 (by decide) ?_
        exact z_zret _ d_X6_spells_48 rfl (by first | rfl | decide) (Pi.of (b01_f (by rw [decide_eq_true_eq]; exact wl_ne (by omega) (fun hh => c_44 ((sb_ch (hB (s + j) (by omega)).2 hi hj).mpr hh)))))
set_option maxHeartbeats 4000000 in
set_option maxRecDepth 100000 in
theorem t_X6_spells (G : GT) (x : Nat → Nat) (N : Nat → Int32) (R : Nat → Nat → Int32) (K : Nat → Nat → Option Nat) (r : Nat → Nat) (S : Nat → Int32) (T : Nat → Nat → Int32) (tl : va_W) (B : Nat → Int32) (n : Nat) (hn : n ≤ 160) (h0 : N 0 = nI n) (hB : Tp B n (R 0)) (s e i : Nat) (hi : i < 14) (hs : s ≤ e) (he : e ≤ n) (e0 : S 0 = nI e) (e1 : S 1 = nI s)  : Ct G mX6_spells 4 0 0 [.ref (x 1), .ref (G.2.2.1 i)] (XW G x N R K r S T tl) (Pi (b01 (decide (wlS B s e = sByt.getD i []))) (XW G x N R K r S T tl)) := by
  refine Ct.intro [(0, .ref (x 1)), (1, .ref (G.2.2.1 i))] (by decide) rfl (Nat.le_of_ble_eq_true rfl) ?_
  refine z_aload_n d_X6_spells_0 0 rfl ?_
  refine z_get (v := .int (S 0)) (1) f_X6_26_6 rfl rfl d_X6_spells_1 ?_
  refine z_top e0 ?_
  refine z_aload_n d_X6_spells_4 0 rfl ?_
  refine z_get (v := .int (S 1)) (1) f_X6_71_6 rfl rfl d_X6_spells_5 ?_
  refine z_top e1 ?_
  refine z_isub d_X6_spells_8 ?_
  refine z_aload_n d_X6_spells_9 1 rfl ?_
  refine z_callKp (i := i) hi c_X6_146 (t_J0_length_8abf5 G i hi (XW G x N R K r S T tl)) rfl rfl (Nat.le_of_ble_eq_true rfl) rfl d_X6_spells_10 ?_
  refine z_icmp_eq d_X6_spells_13 (fun c_13 => ?_) (fun c_13 => ?_)
  · have hl : e - s = sLen.getD i 0 := by rw [nI_sub hs, nI_eq (by omega) (by have hL := sL_small i hi; omega)] at c_13; exact c_13
    refine z_iconst (v := 0) d_X6_spells_18 (by decide) ?_
    refine z_istore_n [(2, .int 0), (0, .ref (x 1)), (1, .ref (G.2.2.1 i))] d_X6_spells_19 (by decide) rfl ?_
    exact l_X6_spells G x N R K r S T tl B n hn h0 hB s e i hi hs he e0 e1 hl (sLen.getD i 0 + 1) 0 (by omega) (fun j2 h2 => absurd h2 (by omega)) (by omega)
  · refine z_iconst (v := 0) d_X6_spells_16 (by decide) ?_
    exact z_zret _ d_X6_spells_17 rfl (by first | rfl | decide) (Pi.of (b01_f (by rw [decide_eq_true_eq]; exact wl_nl hi (fun hh => c_13 (by rw [nI_sub hs, hh])))))
theorem dec_y {P : Prop} [Decidable P] (h : ¬ b01 (decide P) = 0) : P := of_decide_eq_true (b01_n0.mp h)
theorem dec_n {P : Prop} [Decidable P] (h : b01 (decide P) = 0) : ¬ P := of_decide_eq_false (b01_0.mp h)
set_option maxHeartbeats 4000000 in
set_option maxRecDepth 100000 in
theorem t_X6_nameHere (G : GT) (x : Nat → Nat) (N : Nat → Int32) (R : Nat → Nat → Int32) (K : Nat → Nat → Option Nat) (r : Nat → Nat) (S : Nat → Int32) (T : Nat → Nat → Int32) (tl : va_W) (B : Nat → Int32) (n : Nat) (hn : n ≤ 160) (h0 : N 0 = nI n) (hB : Tp B n (R 0)) (s e : Nat) (hs : s ≤ e) (he : e ≤ n) (e0 : S 0 = nI e) (e1 : S 1 = nI s)  : Ct G mX6_nameHere 5 0 0 [.ref (x 1)] (XW G x N R K r S T tl) (Pi (nmT (wlS B s e)) (XW G x N R K r S T tl)) := by
  refine Ct.intro [(0, .ref (x 1))] (by decide) rfl (Nat.le_of_ble_eq_true rfl) ?_
  refine z_aload_n d_X6_nameHere_0 0 rfl ?_
  refine z_ldcs d_X6_nameHere_1 1 rfl ?_
  refine z_callVp 1 c_X6_120 (t_X6_spells G x N R K r S T tl B n hn h0 hB s e 1 (by decide) hs he e0 e1) rfl rfl rfl rfl (Nat.le_of_ble_eq_true rfl) rfl d_X6_nameHere_3 ?_
  refine z_if_eq d_X6_nameHere_6 (fun c_6 => ?_) (fun c_6 => ?_)
  · refine z_aload_n d_X6_nameHere_11 0 rfl ?_
    refine z_ldcs d_X6_nameHere_12 2 rfl ?_
    refine z_callVp 1 c_X6_120 (t_X6_spells G x N R K r S T tl B n hn h0 hB s e 2 (by decide) hs he e0 e1) rfl rfl rfl rfl (Nat.le_of_ble_eq_true rfl) rfl d_X6_nameHere_14 ?_
    refine z_if_eq d_X6_nameHere_17 (fun c_17 => ?_) (fun c_17 => ?_)
    · refine z_aload_n d_X6_nameHere_23 0 rfl ?_
      refine z_ldcs d_X6_nameHere_24 3 rfl ?_
      refine z_callVp 1 c_X6_120 (t_X6_spells G x N R K r S T tl B n hn h0 hB s e 3 (by decide) hs he e0 e1) rfl rfl rfl rfl (Nat.le_of_ble_eq_true rfl) rfl d_X6_nameHere_26 ?_
      refine z_if_eq d_X6_nameHere_29 (fun c_29 => ?_) (fun c_29 => ?_)
      · refine z_aload_n d_X6_nameHere_35 0 rfl ?_
        refine z_ldcs d_X6_nameHere_36 4 rfl ?_
        refine z_callVp 1 c_X6_120 (t_X6_spells G x N R K r S T tl B n hn h0 hB s e 4 (by decide) hs he e0 e1) rfl rfl rfl rfl (Nat.le_of_ble_eq_true rfl) rfl d_X6_nameHere_38 ?_
        refine z_if_eq d_X6_nameHere_41 (fun c_41 => ?_) (fun c_41 => ?_)
        · refine z_aload_n d_X6_nameHere_47 0 rfl ?_
          refine z_ldcs d_X6_nameHere_48 5 rfl ?_
          refine z_callVp 1 c_X6_120 (t_X6_spells G x N R K r S T tl B n hn h0 hB s e 5 (by decide) hs he e0 e1) rfl rfl rfl rfl (Nat.le_of_ble_eq_true rfl) rfl d_X6_nameHere_50 ?_
          refine z_if_eq d_X6_nameHere_53 (fun c_53 => ?_) (fun c_53 => ?_)
          · refine z_aload_n d_X6_nameHere_59 0 rfl ?_
            refine z_ldcs d_X6_nameHere_60 6 rfl ?_
            refine z_callVp 1 c_X6_120 (t_X6_spells G x N R K r S T tl B n hn h0 hB s e 6 (by decide) hs he e0 e1) rfl rfl rfl rfl (Nat.le_of_ble_eq_true rfl) rfl d_X6_nameHere_62 ?_
            refine z_if_eq d_X6_nameHere_65 (fun c_65 => ?_) (fun c_65 => ?_)
            · refine z_iconst (v := 0) d_X6_nameHere_73 (by decide) ?_
              exact z_iret _ d_X6_nameHere_74 rfl (Pi.of (by unfold nmT; rw [if_neg (show ¬ wlS B s e = [120] from dec_n c_6)]; rw [if_neg (show ¬ wlS B s e = [121] from dec_n c_17)]; rw [if_neg (show ¬ wlS B s e = [99, 114, 111, 115, 115] from dec_n c_29)]; rw [if_neg (show ¬ wlS B s e = [108, 111, 110, 103] from dec_n c_41)]; rw [if_neg (show ¬ wlS B s e = [97, 103, 101] from dec_n c_53)]; rw [if_neg (show ¬ wlS B s e = [115, 116, 114, 105, 112, 115] from dec_n c_65)]))
            · refine z_bipush (v := -6) d_X6_nameHere_68 (by decide) ?_
              refine z_goto d_X6_nameHere_70 ?_
              exact z_iret _ d_X6_nameHere_74 rfl (Pi.of (by unfold nmT; rw [if_neg (show ¬ wlS B s e = [120] from dec_n c_6)]; rw [if_neg (show ¬ wlS B s e = [121] from dec_n c_17)]; rw [if_neg (show ¬ wlS B s e = [99, 114, 111, 115, 115] from dec_n c_29)]; rw [if_neg (show ¬ wlS B s e = [108, 111, 110, 103] from dec_n c_41)]; rw [if_neg (show ¬ wlS B s e = [97, 103, 101] from dec_n c_53)]; rw [if_pos (show wlS B s e = [115, 116, 114, 105, 112, 115] from dec_y c_65)]))
          · refine z_bipush (v := -5) d_X6_nameHere_56 (by decide) ?_
            exact z_iret _ d_X6_nameHere_58 rfl (Pi.of (by unfold nmT; rw [if_neg (show ¬ wlS B s e = [120] from dec_n c_6)]; rw [if_neg (show ¬ wlS B s e = [121] from dec_n c_17)]; rw [if_neg (show ¬ wlS B s e = [99, 114, 111, 115, 115] from dec_n c_29)]; rw [if_neg (show ¬ wlS B s e = [108, 111, 110, 103] from dec_n c_41)]; rw [if_pos (show wlS B s e = [97, 103, 101] from dec_y c_53)]))
        · refine z_bipush (v := -4) d_X6_nameHere_44 (by decide) ?_
          exact z_iret _ d_X6_nameHere_46 rfl (Pi.of (by unfold nmT; rw [if_neg (show ¬ wlS B s e = [120] from dec_n c_6)]; rw [if_neg (show ¬ wlS B s e = [121] from dec_n c_17)]; rw [if_neg (show ¬ wlS B s e = [99, 114, 111, 115, 115] from dec_n c_29)]; rw [if_pos (show wlS B s e = [108, 111, 110, 103] from dec_y c_41)]))
      · refine z_bipush (v := -3) d_X6_nameHere_32 (by decide) ?_
        exact z_iret _ d_X6_nameHere_34 rfl (Pi.of (by unfold nmT; rw [if_neg (show ¬ wlS B s e = [120] from dec_n c_6)]; rw [if_neg (show ¬ wlS B s e = [121] from dec_n c_17)]; rw [if_pos (show wlS B s e = [99, 114, 111, 115, 115] from dec_y c_29)]))
    · refine z_bipush (v := -2) d_X6_nameHere_20 (by decide) ?_
      exact z_iret _ d_X6_nameHere_22 rfl (Pi.of (by unfold nmT; rw [if_neg (show ¬ wlS B s e = [120] from dec_n c_6)]; rw [if_pos (show wlS B s e = [121] from dec_y c_17)]))
  · refine z_iconst (v := -1) d_X6_nameHere_9 (by decide) ?_
    exact z_iret _ d_X6_nameHere_10 rfl (Pi.of (by unfold nmT; rw [if_pos (show wlS B s e = [120] from dec_y c_6)]))
set_option maxHeartbeats 4000000 in
set_option maxRecDepth 100000 in
theorem t_X6_keyHere (G : GT) (x : Nat → Nat) (N : Nat → Int32) (R : Nat → Nat → Int32) (K : Nat → Nat → Option Nat) (r : Nat → Nat) (S : Nat → Int32) (T : Nat → Nat → Int32) (tl : va_W) (B : Nat → Int32) (n : Nat) (hn : n ≤ 160) (h0 : N 0 = nI n) (hB : Tp B n (R 0)) (s e : Nat) (hs : s ≤ e) (he : e ≤ n) (e0 : S 0 = nI e) (e1 : S 1 = nI s)  : Ct G mX6_keyHere 5 0 0 [.ref (x 1)] (XW G x N R K r S T tl) (Pi (keT (wlS B s e)) (XW G x N R K r S T tl)) := by
  refine Ct.intro [(0, .ref (x 1))] (by decide) rfl (Nat.le_of_ble_eq_true rfl) ?_
  refine z_aload_n d_X6_keyHere_0 0 rfl ?_
  refine z_ldcs d_X6_keyHere_1 7 rfl ?_
  refine z_callVp 1 c_X6_120 (t_X6_spells G x N R K r S T tl B n hn h0 hB s e 7 (by decide) hs he e0 e1) rfl rfl rfl rfl (Nat.le_of_ble_eq_true rfl) rfl d_X6_keyHere_3 ?_
  refine z_if_eq d_X6_keyHere_6 (fun c_6 => ?_) (fun c_6 => ?_)
  · refine z_aload_n d_X6_keyHere_11 0 rfl ?_
    refine z_ldcs d_X6_keyHere_12 8 rfl ?_
    refine z_callVp 1 c_X6_120 (t_X6_spells G x N R K r S T tl B n hn h0 hB s e 8 (by decide) hs he e0 e1) rfl rfl rfl rfl (Nat.le_of_ble_eq_true rfl) rfl d_X6_keyHere_14 ?_
    refine z_if_eq d_X6_keyHere_17 (fun c_17 => ?_) (fun c_17 => ?_)
    · refine z_aload_n d_X6_keyHere_22 0 rfl ?_
      refine z_ldcs d_X6_keyHere_23 9 rfl ?_
      refine z_callVp 1 c_X6_120 (t_X6_spells G x N R K r S T tl B n hn h0 hB s e 9 (by decide) hs he e0 e1) rfl rfl rfl rfl (Nat.le_of_ble_eq_true rfl) rfl d_X6_keyHere_25 ?_
      refine z_if_eq d_X6_keyHere_28 (fun c_28 => ?_) (fun c_28 => ?_)
      · refine z_aload_n d_X6_keyHere_34 0 rfl ?_
        refine z_ldcs d_X6_keyHere_35 10 rfl ?_
        refine z_callVp 1 c_X6_120 (t_X6_spells G x N R K r S T tl B n hn h0 hB s e 10 (by decide) hs he e0 e1) rfl rfl rfl rfl (Nat.le_of_ble_eq_true rfl) rfl d_X6_keyHere_37 ?_
        refine z_if_eq d_X6_keyHere_40 (fun c_40 => ?_) (fun c_40 => ?_)
        · refine z_aload_n d_X6_keyHere_46 0 rfl ?_
          refine z_ldcs d_X6_keyHere_47 11 rfl ?_
          refine z_callVp 1 c_X6_120 (t_X6_spells G x N R K r S T tl B n hn h0 hB s e 11 (by decide) hs he e0 e1) rfl rfl rfl rfl (Nat.le_of_ble_eq_true rfl) rfl d_X6_keyHere_49 ?_
          refine z_if_eq d_X6_keyHere_52 (fun c_52 => ?_) (fun c_52 => ?_)
          · refine z_aload_n d_X6_keyHere_58 0 rfl ?_
            refine z_ldcs d_X6_keyHere_59 12 rfl ?_
            refine z_callVp 1 c_X6_120 (t_X6_spells G x N R K r S T tl B n hn h0 hB s e 12 (by decide) hs he e0 e1) rfl rfl rfl rfl (Nat.le_of_ble_eq_true rfl) rfl d_X6_keyHere_61 ?_
            refine z_if_eq d_X6_keyHere_64 (fun c_64 => ?_) (fun c_64 => ?_)
            · refine z_iconst (v := 1) d_X6_keyHere_72 (by decide) ?_
              exact z_iret _ d_X6_keyHere_73 rfl (Pi.of (by unfold keT; rw [if_neg (show ¬ wlS B s e = [114, 117, 98] from dec_n c_6)]; rw [if_neg (show ¬ wlS B s e = [110, 101, 120, 116] from dec_n c_17)]; rw [if_neg (show ¬ wlS B s e = [116, 97, 107, 101] from dec_n c_28)]; rw [if_neg (show ¬ wlS B s e = [111, 114] from dec_n c_40)]; rw [if_neg (show ¬ wlS B s e = [97, 110, 100] from dec_n c_52)]; rw [if_neg (show ¬ wlS B s e = [110, 111, 116] from dec_n c_64)]))
            · refine z_bipush (v := 9) d_X6_keyHere_67 (by decide) ?_
              refine z_goto d_X6_keyHere_69 ?_
              exact z_iret _ d_X6_keyHere_73 rfl (Pi.of (by unfold keT; rw [if_neg (show ¬ wlS B s e = [114, 117, 98] from dec_n c_6)]; rw [if_neg (show ¬ wlS B s e = [110, 101, 120, 116] from dec_n c_17)]; rw [if_neg (show ¬ wlS B s e = [116, 97, 107, 101] from dec_n c_28)]; rw [if_neg (show ¬ wlS B s e = [111, 114] from dec_n c_40)]; rw [if_neg (show ¬ wlS B s e = [97, 110, 100] from dec_n c_52)]; rw [if_pos (show wlS B s e = [110, 111, 116] from dec_y c_64)]))
          · refine z_bipush (v := 8) d_X6_keyHere_55 (by decide) ?_
            exact z_iret _ d_X6_keyHere_57 rfl (Pi.of (by unfold keT; rw [if_neg (show ¬ wlS B s e = [114, 117, 98] from dec_n c_6)]; rw [if_neg (show ¬ wlS B s e = [110, 101, 120, 116] from dec_n c_17)]; rw [if_neg (show ¬ wlS B s e = [116, 97, 107, 101] from dec_n c_28)]; rw [if_neg (show ¬ wlS B s e = [111, 114] from dec_n c_40)]; rw [if_pos (show wlS B s e = [97, 110, 100] from dec_y c_52)]))
        · refine z_bipush (v := 7) d_X6_keyHere_43 (by decide) ?_
          exact z_iret _ d_X6_keyHere_45 rfl (Pi.of (by unfold keT; rw [if_neg (show ¬ wlS B s e = [114, 117, 98] from dec_n c_6)]; rw [if_neg (show ¬ wlS B s e = [110, 101, 120, 116] from dec_n c_17)]; rw [if_neg (show ¬ wlS B s e = [116, 97, 107, 101] from dec_n c_28)]; rw [if_pos (show wlS B s e = [111, 114] from dec_y c_40)]))
      · refine z_bipush (v := 6) d_X6_keyHere_31 (by decide) ?_
        exact z_iret _ d_X6_keyHere_33 rfl (Pi.of (by unfold keT; rw [if_neg (show ¬ wlS B s e = [114, 117, 98] from dec_n c_6)]; rw [if_neg (show ¬ wlS B s e = [110, 101, 120, 116] from dec_n c_17)]; rw [if_pos (show wlS B s e = [116, 97, 107, 101] from dec_y c_28)]))
    · refine z_iconst (v := 5) d_X6_keyHere_20 (by decide) ?_
      exact z_iret _ d_X6_keyHere_21 rfl (Pi.of (by unfold keT; rw [if_neg (show ¬ wlS B s e = [114, 117, 98] from dec_n c_6)]; rw [if_pos (show wlS B s e = [110, 101, 120, 116] from dec_y c_17)]))
  · refine z_iconst (v := 4) d_X6_keyHere_9 (by decide) ?_
    exact z_iret _ d_X6_keyHere_10 rfl (Pi.of (by unfold keT; rw [if_pos (show wlS B s e = [114, 117, 98] from dec_y c_6)]))
set_option maxHeartbeats 4000000 in
set_option maxRecDepth 100000 in
theorem l_X6_word (G : GT) (x : Nat → Nat) (N : Nat → Int32) (R : Nat → Nat → Int32) (K : Nat → Nat → Option Nat) (r : Nat → Nat) (T : Nat → Nat → Int32) (tl : va_W) (B : Nat → Int32) (n : Nat) (hn : n ≤ 160) (h0 : N 0 = nI n) (hB : Tp B n (R 0)) (s : Nat) (z4 z5 : Int32) : ∀ (f : Nat) (q : Nat) (S : Nat → Int32) (hq : q ≤ n) (hs : s ≤ q) (e0 : S 0 = nI q) (e1 : S 1 = nI s) (e4 : S 4 = z4) (e5 : S 5 = z5) (he : enS isLt B n q = enS isLt B n s) (hm : n < q + f), Tr G mX6_word (Rm 6 0 0) (OM G (REx G x N R K r T tl (fun S => S 0 = nI (enS isLt B n s) ∧ S 1 = nI s ∧ S 2 = (wdT (wlS B s (enS isLt B n s))).1 ∧ S 3 = (wdT (wlS B s (enS isLt B n s))).2 ∧ S 4 = z4 ∧ S 5 = z5)) 0 0) 0 0 0 [(0, .ref (x 1))] [] (XW G x N R K r S T tl) := by
  intro f
  induction f with
  | zero =>
    intro q S hq hs e0 e1 e4 e5 he hm
    exact absurd hm (by omega)
  | succ f ih =>
    intro q S hq hs e0 e1 e4 e5 he hm
    refine z_aload_n d_X6_word_0 0 rfl ?_
    refine z_get (v := .int (S 0)) (1) f_X6_26_6 rfl rfl d_X6_word_1 ?_
    refine z_top e0 ?_
    refine z_aload_n d_X6_word_4 0 rfl ?_
    refine z_get (v := .int (N 0)) (1) f_X6_22_6 rfl rfl d_X6_word_5 ?_
    refine z_top h0 ?_
    refine z_icmp_ge d_X6_word_8 (fun c_8 => ?_) (fun c_8 => ?_)
    · have hx : enS isLt B n s = q := by rw [← he]; exact en_stop (fun hh => c_8 ((nI_ltI (by omega) (by omega)).mpr (by omega)))
      refine z_aload_n d_X6_word_39 0 rfl ?_
      refine z_aload_n d_X6_word_40 0 rfl ?_
      refine z_callVp 1 c_X6_111 (t_X6_nameHere G x N R K r S T tl B n hn h0 hB s q hs hq e0 e1) rfl rfl rfl rfl (Nat.le_of_ble_eq_true rfl) rfl d_X6_word_41 ?_
      refine z_put 1 (XW G x N R K r (upd S 3 (nmT (wlS B s q))) T tl) p_X6_92_6 rfl rfl rfl (Nat.le_of_ble_eq_true rfl) (xf_1_5 G x N R K r S T tl _) d_X6_word_44 ?_
      refine z_aload_n d_X6_word_47 0 rfl ?_
      refine z_aload_n d_X6_word_48 0 rfl ?_
      refine z_get (v := .int (nmT (wlS B s q))) (1) f_X6_92_6 rfl rfl d_X6_word_49 ?_
      refine z_if_ge d_X6_word_52 (fun c_52 => ?_) (fun c_52 => ?_)
      · refine z_aload_n d_X6_word_59 0 rfl ?_
        refine z_callVp 1 c_X6_115 (t_X6_keyHere G x N R K r (upd S 3 (nmT (wlS B s q))) T tl B n hn h0 hB s q hs hq e0 e1) rfl rfl rfl rfl (Nat.le_of_ble_eq_true rfl) rfl d_X6_word_60 ?_
        refine z_put 1 (XW G x N R K r (upd (upd S 3 (nmT (wlS B s q))) 2 (keT (wlS B s q))) T tl) p_X6_42_6 rfl rfl rfl (Nat.le_of_ble_eq_true rfl) (xf_1_4 G x N R K r (upd S 3 (nmT (wlS B s q))) T tl _) d_X6_word_63 ?_
        exact z_vret _ d_X6_word_66 rfl ⟨rfl, _, rfl, e0.trans (by rw [hx]), e1, (by have h9 := wdT_nk (wlS B s q); rw [if_neg (show ¬ nmT (wlS B s q) < 0 from by exact c_52)] at h9; rw [hx]; exact h9.2), (by have h9 := wdT_nk (wlS B s q); rw [if_neg (show ¬ nmT (wlS B s q) < 0 from by exact c_52)] at h9; rw [hx]; exact h9.1), e4, e5⟩
      · refine z_iconst (v := 3) d_X6_word_55 (by decide) ?_
        refine z_goto d_X6_word_56 ?_
        refine z_put 1 (XW G x N R K r (upd (upd S 3 (nmT (wlS B s q))) 2 3) T tl) p_X6_42_6 rfl rfl rfl (Nat.le_of_ble_eq_true rfl) (xf_1_4 G x N R K r (upd S 3 (nmT (wlS B s q))) T tl _) d_X6_word_63 ?_
        exact z_vret _ d_X6_word_66 rfl ⟨rfl, _, rfl, e0.trans (by rw [hx]), e1, (by have h9 := wdT_nk (wlS B s q); rw [if_pos (show nmT (wlS B s q) < 0 from by exact c_52)] at h9; rw [hx]; exact h9.2), (by have h9 := wdT_nk (wlS B s q); rw [if_pos (show nmT (wlS B s q) < 0 from by exact c_52)] at h9; rw [hx]; exact h9.1), e4, e5⟩
    · have hq2 : q < n := lt_nI (by omega) (by omega) c_8
      refine z_aload_n d_X6_word_11 0 rfl ?_
      refine z_get (v := .ref (x 2)) (1) f_X6_9_6 rfl rfl d_X6_word_12 ?_
      refine z_aload_n d_X6_word_15 0 rfl ?_
      refine z_get (v := .int (S 0)) (1) f_X6_26_6 rfl rfl d_X6_word_16 ?_
      refine z_top e0 ?_
      refine z_baldN (2) q rfl (nI_toInt (by omega)) (by omega) d_X6_word_19 ?_
      refine z_callSp c_X6_95 (t_X6_isLetter G ((R 0) q) (XW G x N R K r S T tl)) rfl rfl (Nat.le_of_ble_eq_true rfl) rfl d_X6_word_20 ?_
      refine z_if_eq d_X6_word_23 (fun c_23 => ?_) (fun c_23 => ?_)
      · have hx : enS isLt B n s = q := by rw [← he]; exact en_stop (fun hh => by rw [(hB q hh.1).1, sb_lt (hB q hh.1).2, hh.2] at c_23; exact absurd c_23 (by decide))
        refine z_aload_n d_X6_word_39 0 rfl ?_
        refine z_aload_n d_X6_word_40 0 rfl ?_
        refine z_callVp 1 c_X6_111 (t_X6_nameHere G x N R K r S T tl B n hn h0 hB s q hs hq e0 e1) rfl rfl rfl rfl (Nat.le_of_ble_eq_true rfl) rfl d_X6_word_41 ?_
        refine z_put 1 (XW G x N R K r (upd S 3 (nmT (wlS B s q))) T tl) p_X6_92_6 rfl rfl rfl (Nat.le_of_ble_eq_true rfl) (xf_1_5 G x N R K r S T tl _) d_X6_word_44 ?_
        refine z_aload_n d_X6_word_47 0 rfl ?_
        refine z_aload_n d_X6_word_48 0 rfl ?_
        refine z_get (v := .int (nmT (wlS B s q))) (1) f_X6_92_6 rfl rfl d_X6_word_49 ?_
        refine z_if_ge d_X6_word_52 (fun c_52 => ?_) (fun c_52 => ?_)
        · refine z_aload_n d_X6_word_59 0 rfl ?_
          refine z_callVp 1 c_X6_115 (t_X6_keyHere G x N R K r (upd S 3 (nmT (wlS B s q))) T tl B n hn h0 hB s q hs hq e0 e1) rfl rfl rfl rfl (Nat.le_of_ble_eq_true rfl) rfl d_X6_word_60 ?_
          refine z_put 1 (XW G x N R K r (upd (upd S 3 (nmT (wlS B s q))) 2 (keT (wlS B s q))) T tl) p_X6_42_6 rfl rfl rfl (Nat.le_of_ble_eq_true rfl) (xf_1_4 G x N R K r (upd S 3 (nmT (wlS B s q))) T tl _) d_X6_word_63 ?_
          exact z_vret _ d_X6_word_66 rfl ⟨rfl, _, rfl, e0.trans (by rw [hx]), e1, (by have h9 := wdT_nk (wlS B s q); rw [if_neg (show ¬ nmT (wlS B s q) < 0 from by exact c_52)] at h9; rw [hx]; exact h9.2), (by have h9 := wdT_nk (wlS B s q); rw [if_neg (show ¬ nmT (wlS B s q) < 0 from by exact c_52)] at h9; rw [hx]; exact h9.1), e4, e5⟩
        · refine z_iconst (v := 3) d_X6_word_55 (by decide) ?_
          refine z_goto d_X6_word_56 ?_
          refine z_put 1 (XW G x N R K r (upd (upd S 3 (nmT (wlS B s q))) 2 3) T tl) p_X6_42_6 rfl rfl rfl (Nat.le_of_ble_eq_true rfl) (xf_1_4 G x N R K r (upd S 3 (nmT (wlS B s q))) T tl _) d_X6_word_63 ?_
          exact z_vret _ d_X6_word_66 rfl ⟨rfl, _, rfl, e0.trans (by rw [hx]), e1, (by have h9 := wdT_nk (wlS B s q); rw [if_pos (show nmT (wlS B s q) < 0 from by exact c_52)] at h9; rw [hx]; exact h9.2), (by have h9 := wdT_nk (wlS B s q); rw [if_pos (show nmT (wlS B s q) < 0 from by exact c_52)] at h9; rw [hx]; exact h9.1), e4, e5⟩
      · refine z_aload_n d_X6_word_26 0 rfl ?_
        refine z_dup d_X6_word_27 rfl ?_
        refine z_get (v := .int (S 0)) (1) f_X6_26_6 rfl rfl d_X6_word_28 ?_
        refine z_top e0 ?_
        refine z_iconst (v := 1) d_X6_word_31 (by decide) ?_
        refine z_iadd d_X6_word_32 ?_
        refine z_put 1 (XW G x N R K r (upd S 0 ((nI q) + 1)) T tl) p_X6_26_6 rfl rfl rfl (Nat.le_of_ble_eq_true rfl) (xf_1_2 G x N R K r S T tl _) d_X6_word_33 ?_
        refine z_goto d_X6_word_36 ?_
        exact ih (q + 1) _ (by omega) (by omega) (nI_1 q) e1 e4 e5 ((en_go ⟨hq2, by rw [(hB q hq2).1, sb_lt (hB q hq2).2] at c_23; exact b01_o c_23⟩).trans he) (by omega)
theorem t_X6_word (G : GT) (x : Nat → Nat) (N : Nat → Int32) (R : Nat → Nat → Int32) (K : Nat → Nat → Option Nat) (r : Nat → Nat) (T : Nat → Nat → Int32) (tl : va_W) (B : Nat → Int32) (n : Nat) (hn : n ≤ 160) (h0 : N 0 = nI n) (hB : Tp B n (R 0)) (s : Nat) (z4 z5 : Int32) (q : Nat) (S : Nat → Int32) (hq : q ≤ n) (hs : s ≤ q) (e0 : S 0 = nI q) (e1 : S 1 = nI s) (e4 : S 4 = z4) (e5 : S 5 = z5) (he : enS isLt B n q = enS isLt B n s) : Ct G mX6_word 6 0 0 [.ref (x 1)] (XW G x N R K r S T tl) (REx G x N R K r T tl (fun S => S 0 = nI (enS isLt B n s) ∧ S 1 = nI s ∧ S 2 = (wdT (wlS B s (enS isLt B n s))).1 ∧ S 3 = (wdT (wlS B s (enS isLt B n s))).2 ∧ S 4 = z4 ∧ S 5 = z5)) := by
  refine Ct.intro [(0, .ref (x 1))] (by decide) rfl (Nat.le_of_ble_eq_true rfl) ?_
  exact l_X6_word G x N R K r T tl B n hn h0 hB s z4 z5 (n + 1) q S hq hs e0 e1 e4 e5 he (by omega)
set_option maxHeartbeats 4000000 in
set_option maxRecDepth 100000 in
theorem l_X6_digits (G : GT) (x : Nat → Nat) (N : Nat → Int32) (R : Nat → Nat → Int32) (K : Nat → Nat → Option Nat) (r : Nat → Nat) (T : Nat → Nat → Int32) (tl : va_W) (B : Nat → Int32) (n : Nat) (hn : n ≤ 160) (h0 : N 0 = nI n) (hB : Tp B n (R 0)) (s : Nat) (z4 z5 : Int32) : ∀ (f : Nat) (q : Nat) (S : Nat → Int32) (hq : q ≤ n) (hs : s ≤ q) (e0 : S 0 = nI q) (e1 : S 1 = nI s) (e4 : S 4 = z4) (e5 : S 5 = z5) (he : enS isDg B n q = enS isDg B n s) (e3 : S 3 = nI (nvS B s (q - s))) (hm : n < q + f), Tr G mX6_digits (Rm 1 0 0) (OM G (REx G x N R K r T tl (fun S => S 0 = nI (enS isDg B n s) ∧ S 1 = nI s ∧ S 2 = (if 4 < enS isDg B n s - s then 1 else 2) ∧ S 3 = nI (nvS B s (enS isDg B n s - s)) ∧ S 4 = z4 ∧ S 5 = z5)) 0 0) 0 0 5 [(0, .ref (x 1))] [] (XW G x N R K r S T tl) := by
  intro f
  induction f with
  | zero =>
    intro q S hq hs e0 e1 e4 e5 he e3 hm
    exact absurd hm (by omega)
  | succ f ih =>
    intro q S hq hs e0 e1 e4 e5 he e3 hm
    refine z_aload_n d_X6_digits_5 0 rfl ?_
    refine z_get (v := .int (S 0)) (1) f_X6_26_6 rfl rfl d_X6_digits_6 ?_
    refine z_top e0 ?_
    refine z_aload_n d_X6_digits_9 0 rfl ?_
    refine z_get (v := .int (N 0)) (1) f_X6_22_6 rfl rfl d_X6_digits_10 ?_
    refine z_top h0 ?_
    refine z_icmp_ge d_X6_digits_13 (fun c_13 => ?_) (fun c_13 => ?_)
    · have hx : enS isDg B n s = q := by rw [← he]; exact en_stop (fun hh => c_13 ((nI_ltI (by omega) (by omega)).mpr (by omega)))
      refine z_aload_n d_X6_digits_68 0 rfl ?_
      refine z_aload_n d_X6_digits_69 0 rfl ?_
      refine z_get (v := .int (S 0)) (1) f_X6_26_6 rfl rfl d_X6_digits_70 ?_
      refine z_top e0 ?_
      refine z_aload_n d_X6_digits_73 0 rfl ?_
      refine z_get (v := .int (S 1)) (1) f_X6_71_6 rfl rfl d_X6_digits_74 ?_
      refine z_top e1 ?_
      refine z_isub d_X6_digits_77 ?_
      refine z_iconst (v := 4) d_X6_digits_78 (by decide) ?_
      refine z_icmp_le d_X6_digits_79 (fun c_79 => ?_) (fun c_79 => ?_)
      · refine z_iconst (v := 2) d_X6_digits_86 (by decide) ?_
        refine z_put 1 (XW G x N R K r (upd S 2 2) T tl) p_X6_42_6 rfl rfl rfl (Nat.le_of_ble_eq_true rfl) (xf_1_4 G x N R K r S T tl _) d_X6_digits_87 ?_
        exact z_vret _ d_X6_digits_90 rfl ⟨rfl, _, rfl, e0.trans (by rw [hx]), e1, (by rw [hx, if_neg (by rw [nI_sub hs, show (4 : Int32) = nI 4 from rfl] at c_79; have := ge_nI (by omega) (by omega) c_79; omega)]; rfl), e3.trans (by rw [hx]), e4, e5⟩
      · refine z_iconst (v := 1) d_X6_digits_82 (by decide) ?_
        refine z_goto d_X6_digits_83 ?_
        refine z_put 1 (XW G x N R K r (upd S 2 1) T tl) p_X6_42_6 rfl rfl rfl (Nat.le_of_ble_eq_true rfl) (xf_1_4 G x N R K r S T tl _) d_X6_digits_87 ?_
        exact z_vret _ d_X6_digits_90 rfl ⟨rfl, _, rfl, e0.trans (by rw [hx]), e1, (by rw [hx, if_pos (by rw [nI_sub hs, show (4 : Int32) = nI 4 from rfl] at c_79; exact lt_nI (by omega) (by omega) c_79)]; rfl), e3.trans (by rw [hx]), e4, e5⟩
    · have hq2 : q < n := lt_nI (by omega) (by omega) c_13
      refine z_aload_n d_X6_digits_16 0 rfl ?_
      refine z_get (v := .ref (x 2)) (1) f_X6_9_6 rfl rfl d_X6_digits_17 ?_
      refine z_aload_n d_X6_digits_20 0 rfl ?_
      refine z_get (v := .int (S 0)) (1) f_X6_26_6 rfl rfl d_X6_digits_21 ?_
      refine z_top e0 ?_
      refine z_baldN (2) q rfl (nI_toInt (by omega)) (by omega) d_X6_digits_24 ?_
      refine z_callSp c_X6_102 (t_X6_isDigit G ((R 0) q) (XW G x N R K r S T tl)) rfl rfl (Nat.le_of_ble_eq_true rfl) rfl d_X6_digits_25 ?_
      refine z_if_eq d_X6_digits_28 (fun c_28 => ?_) (fun c_28 => ?_)
      · have hx : enS isDg B n s = q := by rw [← he]; exact en_stop (fun hh => by rw [(hB q hh.1).1, by_dg (hB q hh.1).2, hh.2] at c_28; exact absurd c_28 (by decide))
        refine z_aload_n d_X6_digits_68 0 rfl ?_
        refine z_aload_n d_X6_digits_69 0 rfl ?_
        refine z_get (v := .int (S 0)) (1) f_X6_26_6 rfl rfl d_X6_digits_70 ?_
        refine z_top e0 ?_
        refine z_aload_n d_X6_digits_73 0 rfl ?_
        refine z_get (v := .int (S 1)) (1) f_X6_71_6 rfl rfl d_X6_digits_74 ?_
        refine z_top e1 ?_
        refine z_isub d_X6_digits_77 ?_
        refine z_iconst (v := 4) d_X6_digits_78 (by decide) ?_
        refine z_icmp_le d_X6_digits_79 (fun c_79 => ?_) (fun c_79 => ?_)
        · refine z_iconst (v := 2) d_X6_digits_86 (by decide) ?_
          refine z_put 1 (XW G x N R K r (upd S 2 2) T tl) p_X6_42_6 rfl rfl rfl (Nat.le_of_ble_eq_true rfl) (xf_1_4 G x N R K r S T tl _) d_X6_digits_87 ?_
          exact z_vret _ d_X6_digits_90 rfl ⟨rfl, _, rfl, e0.trans (by rw [hx]), e1, (by rw [hx, if_neg (by rw [nI_sub hs, show (4 : Int32) = nI 4 from rfl] at c_79; have := ge_nI (by omega) (by omega) c_79; omega)]; rfl), e3.trans (by rw [hx]), e4, e5⟩
        · refine z_iconst (v := 1) d_X6_digits_82 (by decide) ?_
          refine z_goto d_X6_digits_83 ?_
          refine z_put 1 (XW G x N R K r (upd S 2 1) T tl) p_X6_42_6 rfl rfl rfl (Nat.le_of_ble_eq_true rfl) (xf_1_4 G x N R K r S T tl _) d_X6_digits_87 ?_
          exact z_vret _ d_X6_digits_90 rfl ⟨rfl, _, rfl, e0.trans (by rw [hx]), e1, (by rw [hx, if_pos (by rw [nI_sub hs, show (4 : Int32) = nI 4 from rfl] at c_79; exact lt_nI (by omega) (by omega) c_79)]; rfl), e3.trans (by rw [hx]), e4, e5⟩
      · have hd2 : isDg (B q) = true := by rw [(hB q hq2).1, by_dg (hB q hq2).2] at c_28; exact b01_o c_28
        have hv2 : 10 * nI (nvS B s (q - s)) + R 0 q - 48 = nI (nvS B s (q + 1 - s)) := by rw [nv_i hd2 ((hB q hq2).1.trans (by_dg2 (hB q hq2).2 hd2)), show q + 1 - s = (q - s) + 1 by omega]; show _ = nI (10 * nvS B s (q - s) + ((B (s + (q - s))).toInt - 48).toNat); rw [show s + (q - s) = q by omega]
        refine z_aload_n d_X6_digits_31 0 rfl ?_
        refine z_bipush (v := 10) d_X6_digits_32 (by decide) ?_
        refine z_aload_n d_X6_digits_34 0 rfl ?_
        refine z_get (v := .int (S 3)) (1) f_X6_92_6 rfl rfl d_X6_digits_35 ?_
        refine z_top e3 ?_
        refine z_imul d_X6_digits_38 ?_
        refine z_aload_n d_X6_digits_39 0 rfl ?_
        refine z_get (v := .ref (x 2)) (1) f_X6_9_6 rfl rfl d_X6_digits_40 ?_
        refine z_aload_n d_X6_digits_43 0 rfl ?_
        refine z_get (v := .int (S 0)) (1) f_X6_26_6 rfl rfl d_X6_digits_44 ?_
        refine z_top e0 ?_
        refine z_baldN (2) q rfl (nI_toInt (by omega)) (by omega) d_X6_digits_47 ?_
        refine z_iadd d_X6_digits_48 ?_
        refine z_bipush (v := 48) d_X6_digits_49 (by decide) ?_
        refine z_isub d_X6_digits_51 ?_
        refine z_put 1 (XW G x N R K r (upd S 3 (((10 * (nI (nvS B s (q - s)))) + ((R 0) q)) - 48)) T tl) p_X6_92_6 rfl rfl rfl (Nat.le_of_ble_eq_true rfl) (xf_1_5 G x N R K r S T tl _) d_X6_digits_52 ?_
        refine z_aload_n d_X6_digits_55 0 rfl ?_
        refine z_dup d_X6_digits_56 rfl ?_
        refine z_get (v := .int (S 0)) (1) f_X6_26_6 rfl rfl d_X6_digits_57 ?_
        refine z_top e0 ?_
        refine z_iconst (v := 1) d_X6_digits_60 (by decide) ?_
        refine z_iadd d_X6_digits_61 ?_
        refine z_put 1 (XW G x N R K r (upd (upd S 3 (((10 * (nI (nvS B s (q - s)))) + ((R 0) q)) - 48)) 0 ((nI q) + 1)) T tl) p_X6_26_6 rfl rfl rfl (Nat.le_of_ble_eq_true rfl) (xf_1_2 G x N R K r (upd S 3 (((10 * (nI (nvS B s (q - s)))) + ((R 0) q)) - 48)) T tl _) d_X6_digits_62 ?_
        refine z_goto d_X6_digits_65 ?_
        exact ih (q + 1) _ (by omega) (by omega) (nI_1 q) e1 e4 e5 ((en_go ⟨hq2, hd2⟩).trans he) hv2 (by omega)
set_option maxHeartbeats 4000000 in
set_option maxRecDepth 100000 in
theorem t_X6_digits (G : GT) (x : Nat → Nat) (N : Nat → Int32) (R : Nat → Nat → Int32) (K : Nat → Nat → Option Nat) (r : Nat → Nat) (S : Nat → Int32) (T : Nat → Nat → Int32) (tl : va_W) (B : Nat → Int32) (n : Nat) (hn : n ≤ 160) (h0 : N 0 = nI n) (hB : Tp B n (R 0)) (s : Nat) (z4 z5 : Int32) (hs : s ≤ n) (e0 : S 0 = nI s) (e1 : S 1 = nI s) (e4 : S 4 = z4) (e5 : S 5 = z5)  : Ct G mX6_digits 1 0 0 [.ref (x 1)] (XW G x N R K r S T tl) (REx G x N R K r T tl (fun S => S 0 = nI (enS isDg B n s) ∧ S 1 = nI s ∧ S 2 = (if 4 < enS isDg B n s - s then 1 else 2) ∧ S 3 = nI (nvS B s (enS isDg B n s - s)) ∧ S 4 = z4 ∧ S 5 = z5)) := by
  refine Ct.intro [(0, .ref (x 1))] (by decide) rfl (Nat.le_of_ble_eq_true rfl) ?_
  refine z_aload_n d_X6_digits_0 0 rfl ?_
  refine z_iconst (v := 0) d_X6_digits_1 (by decide) ?_
  refine z_put 1 (XW G x N R K r (upd S 3 0) T tl) p_X6_92_6 rfl rfl rfl (Nat.le_of_ble_eq_true rfl) (xf_1_5 G x N R K r S T tl _) d_X6_digits_2 ?_
  exact l_X6_digits G x N R K r T tl B n hn h0 hB s z4 z5 (n + 1) s _ hs (Nat.le_refl _) e0 e1 e4 e5 rfl (by rw [Nat.sub_self]; rfl) (by omega)
theorem Ad.wd {B : Nat → Int32} {n p q : Nat} {z4 z5 : Int32} {S : Nat → Int32} (hx : stL B n p = q) (hq : q < n) (hl : isLt (B q) = true) (h : S 0 = nI (enS isLt B n q) ∧ S 1 = nI q ∧ S 2 = (wdT (wlS B q (enS isLt B n q))).1 ∧ S 3 = (wdT (wlS B q (enS isLt B n q))).2 ∧ S 4 = z4 ∧ S 5 = z5) : Ad B n p z4 z5 S := by
  subst hx
  have k1 := kd_1 hq hl
  obtain ⟨h0, h1, h2, h3, h4, h5⟩ := h
  exact ⟨h1, by rw [tk_k1 k1, nx_1 k1]; exact h2, fun _ => by unfold vlL; rw [if_pos k1, nx_1 k1]; exact h3, fun _ => by rw [nx_1 k1]; exact h0, h4, h5⟩
theorem Ad.dg {B : Nat → Int32} {n p q : Nat} {z4 z5 : Int32} {S : Nat → Int32} (hx : stL B n p = q) (hq : q < n) (hl : ¬ isLt (B q) = true) (hd : isDg (B q) = true) (h : S 0 = nI (enS isDg B n q) ∧ S 1 = nI q ∧ S 2 = (if 4 < enS isDg B n q - q then 1 else 2) ∧ S 3 = nI (nvS B q (enS isDg B n q - q)) ∧ S 4 = z4 ∧ S 5 = z5) : Ad B n p z4 z5 S := by
  subst hx
  have k2 := kd_2 hq hl hd
  obtain ⟨h0, h1, h2, h3, h4, h5⟩ := h
  exact ⟨h1, by rw [tk_k2 k2, nx_2 k2]; exact h2, fun _ => by unfold vlL; rw [if_neg (by omega), nx_2 k2]; exact h3, fun _ => by rw [nx_2 k2]; exact h0, h4, h5⟩
theorem Ad.en {B : Nat → Int32} {n p q : Nat} {z4 z5 : Int32} {S : Nat → Int32} (hx : stL B n p = q) (hq : ¬ q < n) (h0 : S 0 = nI q) (h1 : S 1 = nI q) (h2 : S 2 = 0) (h4 : S 4 = z4) (h5 : S 5 = z5) : Ad B n p z4 z5 S := by
  subst hx
  have k0 := kd_0 hq
  have e := tk_k0 k0
  exact ⟨h1, by rw [e]; exact h2, fun h => by rw [e] at h; rcases h with h | h <;> exact absurd h (by decide), fun _ => by rw [nx_0 (by omega) (by omega) (by omega)]; exact h0, h4, h5⟩
theorem Ad.sg {B : Nat → Int32} {n p q : Nat} {z4 z5 : Int32} {S : Nat → Int32} (hx : stL B n p = q) (hq : q < n) (hl : ¬ isLt (B q) = true) (hd : ¬ isDg (B q) = true) (hs : isSg (B q) = true) (h0 : S 0 = nI (q + 1)) (h1 : S 1 = nI q) (h2 : S 2 = B q) (h4 : S 4 = z4) (h5 : S 5 = z5) : Ad B n p z4 z5 S := by
  subst hx
  have k3 := kd_s hq hl hd
  rw [if_pos hs] at k3
  have e := tk_k3 k3
  exact ⟨h1, by rw [e]; exact h2, fun h => by rw [e] at h; exact absurd h (sg_23 hs), fun _ => by rw [nx_3 k3]; exact h0, h4, h5⟩
theorem Ad.no {B : Nat → Int32} {n p q : Nat} {z4 z5 : Int32} {S : Nat → Int32} (hx : stL B n p = q) (hq : q < n) (hl : ¬ isLt (B q) = true) (hd : ¬ isDg (B q) = true) (hs : ¬ isSg (B q) = true) (h1 : S 1 = nI q) (h2 : S 2 = 1) (h4 : S 4 = z4) (h5 : S 5 = z5) : Ad B n p z4 z5 S := by
  subst hx
  have k4 := kd_s hq hl hd
  rw [if_neg hs] at k4
  have e := tk_k4 (by omega) (by omega) (by omega) (by omega : ¬ kdL B n p = 3)
  exact ⟨h1, by rw [e]; exact h2, fun h => by rw [e] at h; rcases h with h | h <;> exact absurd h (by decide), fun h => absurd e h, h4, h5⟩
set_option maxHeartbeats 4000000 in
set_option maxRecDepth 100000 in
theorem l_X6_advance (G : GT) (x : Nat → Nat) (N : Nat → Int32) (R : Nat → Nat → Int32) (K : Nat → Nat → Option Nat) (r : Nat → Nat) (T : Nat → Nat → Int32) (tl : va_W) (B : Nat → Int32) (n : Nat) (hn : n ≤ 160) (h0 : N 0 = nI n) (hB : Tp B n (R 0)) (p : Nat) (z4 z5 : Int32) : ∀ (f : Nat) (q : Nat) (S : Nat → Int32) (hq : q ≤ n) (e0 : S 0 = nI q) (e4 : S 4 = z4) (e5 : S 5 = z5) (he : stL B n p = enS isBl B n q) (hm : n < q + f), Tr G mX6_advance (Rm 7 0 0) (OM G (REx G x N R K r T tl (Ad B n p z4 z5)) 0 0) 0 0 0 [(0, .ref (x 1))] [] (XW G x N R K r S T tl) := by
  intro f
  induction f with
  | zero =>
    intro q S hq e0 e4 e5 he hm
    exact absurd hm (by omega)
  | succ f ih =>
    intro q S hq e0 e4 e5 he hm
    refine z_aload_n d_X6_advance_0 0 rfl ?_
    refine z_get (v := .int (S 0)) (1) f_X6_26_6 rfl rfl d_X6_advance_1 ?_
    refine z_top e0 ?_
    refine z_aload_n d_X6_advance_4 0 rfl ?_
    refine z_get (v := .int (N 0)) (1) f_X6_22_6 rfl rfl d_X6_advance_5 ?_
    refine z_top h0 ?_
    refine z_icmp_ge d_X6_advance_8 (fun c_8 => ?_) (fun c_8 => ?_)
    · have hx : stL B n p = q := by rw [he]; exact en_stop (fun hh => c_8 ((nI_ltI (by omega) (by omega)).mpr (by omega)))
      refine z_aload_n d_X6_advance_52 0 rfl ?_
      refine z_aload_n d_X6_advance_53 0 rfl ?_
      refine z_get (v := .int (S 0)) (1) f_X6_26_6 rfl rfl d_X6_advance_54 ?_
      refine z_top e0 ?_
      refine z_put 1 (XW G x N R K r (upd S 1 (nI q)) T tl) p_X6_71_6 rfl rfl rfl (Nat.le_of_ble_eq_true rfl) (xf_1_3 G x N R K r S T tl _) d_X6_advance_57 ?_
      refine z_aload_n d_X6_advance_60 0 rfl ?_
      refine z_get (v := .int (S 0)) (1) f_X6_26_6 rfl rfl d_X6_advance_61 ?_
      refine z_top e0 ?_
      refine z_aload_n d_X6_advance_64 0 rfl ?_
      refine z_get (v := .int (N 0)) (1) f_X6_22_6 rfl rfl d_X6_advance_65 ?_
      refine z_top h0 ?_
      refine z_icmp_lt d_X6_advance_68 (fun c_68 => ?_) (fun c_68 => ?_)
      · exact absurd c_68 c_8
      refine z_aload_n d_X6_advance_71 0 rfl ?_
      refine z_iconst (v := 0) d_X6_advance_72 (by decide) ?_
      refine z_put 1 (XW G x N R K r (upd (upd S 1 (nI q)) 2 0) T tl) p_X6_42_6 rfl rfl rfl (Nat.le_of_ble_eq_true rfl) (xf_1_4 G x N R K r (upd S 1 (nI q)) T tl _) d_X6_advance_73 ?_
      refine z_goto d_X6_advance_76 ?_
      exact z_vret _ d_X6_advance_165 rfl ⟨rfl, _, rfl, Ad.en hx (fun hh => c_8 ((nI_ltI (by omega) (by omega)).mpr hh)) e0 rfl rfl e4 e5⟩
    · have hq2 : q < n := lt_nI (by omega) (by omega) c_8
      refine z_aload_n d_X6_advance_11 0 rfl ?_
      refine z_get (v := .ref (x 2)) (1) f_X6_9_6 rfl rfl d_X6_advance_12 ?_
      refine z_aload_n d_X6_advance_15 0 rfl ?_
      refine z_get (v := .int (S 0)) (1) f_X6_26_6 rfl rfl d_X6_advance_16 ?_
      refine z_top e0 ?_
      refine z_baldN (2) q rfl (nI_toInt (by omega)) (by omega) d_X6_advance_19 ?_
      refine z_bipush (v := 32) d_X6_advance_20 (by decide) ?_
      refine z_icmp_eq d_X6_advance_22 (fun c_22 => ?_) (fun c_22 => ?_)
      · refine z_aload_n d_X6_advance_39 0 rfl ?_
        refine z_dup d_X6_advance_40 rfl ?_
        refine z_get (v := .int (S 0)) (1) f_X6_26_6 rfl rfl d_X6_advance_41 ?_
        refine z_top e0 ?_
        refine z_iconst (v := 1) d_X6_advance_44 (by decide) ?_
        refine z_iadd d_X6_advance_45 ?_
        refine z_put 1 (XW G x N R K r (upd S 0 ((nI q) + 1)) T tl) p_X6_26_6 rfl rfl rfl (Nat.le_of_ble_eq_true rfl) (xf_1_2 G x N R K r S T tl _) d_X6_advance_46 ?_
        refine z_goto d_X6_advance_49 ?_
        exact ih (q + 1) _ (by omega) (nI_1 q) e4 e5 (he.trans (en_go ⟨hq2, by unfold isBl; rw [Bool.or_eq_true, decide_eq_true_eq, decide_eq_true_eq]; exact Or.inl ((sb_bl (hB q hq2).2).1.mp ((hB q hq2).1.symm.trans c_22))⟩).symm) (by omega)
      · refine z_aload_n d_X6_advance_25 0 rfl ?_
        refine z_get (v := .ref (x 2)) (1) f_X6_9_6 rfl rfl d_X6_advance_26 ?_
        refine z_aload_n d_X6_advance_29 0 rfl ?_
        refine z_get (v := .int (S 0)) (1) f_X6_26_6 rfl rfl d_X6_advance_30 ?_
        refine z_top e0 ?_
        refine z_baldN (2) q rfl (nI_toInt (by omega)) (by omega) d_X6_advance_33 ?_
        refine z_bipush (v := 10) d_X6_advance_34 (by decide) ?_
        refine z_icmp_ne d_X6_advance_36 (fun c_36 => ?_) (fun c_36 => ?_)
        · have hx : stL B n p = q := by rw [he]; exact en_stop (fun hh => by have h9 := hh.2; unfold isBl at h9; rw [Bool.or_eq_true, decide_eq_true_eq, decide_eq_true_eq] at h9; rcases h9 with h9 | h9; exact c_22 ((hB q hq2).1.trans ((sb_bl (hB q hq2).2).1.mpr h9)); exact c_36 ((hB q hq2).1.trans ((sb_bl (hB q hq2).2).2.mpr h9)))
          refine z_aload_n d_X6_advance_52 0 rfl ?_
          refine z_aload_n d_X6_advance_53 0 rfl ?_
          refine z_get (v := .int (S 0)) (1) f_X6_26_6 rfl rfl d_X6_advance_54 ?_
          refine z_top e0 ?_
          refine z_put 1 (XW G x N R K r (upd S 1 (nI q)) T tl) p_X6_71_6 rfl rfl rfl (Nat.le_of_ble_eq_true rfl) (xf_1_3 G x N R K r S T tl _) d_X6_advance_57 ?_
          refine z_aload_n d_X6_advance_60 0 rfl ?_
          refine z_get (v := .int (S 0)) (1) f_X6_26_6 rfl rfl d_X6_advance_61 ?_
          refine z_top e0 ?_
          refine z_aload_n d_X6_advance_64 0 rfl ?_
          refine z_get (v := .int (N 0)) (1) f_X6_22_6 rfl rfl d_X6_advance_65 ?_
          refine z_top h0 ?_
          refine z_icmp_lt d_X6_advance_68 (fun c_68 => ?_) (fun c_68 => ?_)
          rotate_left
          · exact absurd c_68 (fun h => h c_8)
          refine z_aload_n d_X6_advance_79 0 rfl ?_
          refine z_get (v := .ref (x 2)) (1) f_X6_9_6 rfl rfl d_X6_advance_80 ?_
          refine z_aload_n d_X6_advance_83 0 rfl ?_
          refine z_get (v := .int (S 0)) (1) f_X6_26_6 rfl rfl d_X6_advance_84 ?_
          refine z_top e0 ?_
          refine z_baldN (2) q rfl (nI_toInt (by omega)) (by omega) d_X6_advance_87 ?_
          refine z_callSp c_X6_95 (t_X6_isLetter G ((R 0) q) (XW G x N R K r (upd S 1 (nI q)) T tl)) rfl rfl (Nat.le_of_ble_eq_true rfl) rfl d_X6_advance_88 ?_
          refine z_if_eq d_X6_advance_91 (fun c_91 => ?_) (fun c_91 => ?_)
          · refine z_aload_n d_X6_advance_101 0 rfl ?_
            refine z_get (v := .ref (x 2)) (1) f_X6_9_6 rfl rfl d_X6_advance_102 ?_
            refine z_aload_n d_X6_advance_105 0 rfl ?_
            refine z_get (v := .int (S 0)) (1) f_X6_26_6 rfl rfl d_X6_advance_106 ?_
            refine z_top e0 ?_
            refine z_baldN (2) q rfl (nI_toInt (by omega)) (by omega) d_X6_advance_109 ?_
            refine z_callSp c_X6_102 (t_X6_isDigit G ((R 0) q) (XW G x N R K r (upd S 1 (nI q)) T tl)) rfl rfl (Nat.le_of_ble_eq_true rfl) rfl d_X6_advance_110 ?_
            refine z_if_eq d_X6_advance_113 (fun c_113 => ?_) (fun c_113 => ?_)
            · have h91 := b01_z c_91
              have h113 := b01_z c_113
              rw [(hB q hq2).1, sb_lt (hB q hq2).2] at h91
              rw [(hB q hq2).1, by_dg (hB q hq2).2] at h113
              refine z_aload_n d_X6_advance_123 0 rfl ?_
              refine z_aload_n d_X6_advance_124 0 rfl ?_
              refine z_get (v := .ref (x 2)) (1) f_X6_9_6 rfl rfl d_X6_advance_125 ?_
              refine z_aload_n d_X6_advance_128 0 rfl ?_
              refine z_get (v := .int (S 0)) (1) f_X6_26_6 rfl rfl d_X6_advance_129 ?_
              refine z_top e0 ?_
              refine z_baldN (2) q rfl (nI_toInt (by omega)) (by omega) d_X6_advance_132 ?_
              refine z_top (hB q hq2).1 ?_
              refine z_callSp c_X6_108 (t_X6_isSign G _ (hB q hq2).2 (XW G x N R K r (upd S 1 (nI q)) T tl)) rfl rfl (Nat.le_of_ble_eq_true rfl) rfl d_X6_advance_133 ?_
              refine z_if_eq d_X6_advance_136 (fun c_136 => ?_) (fun c_136 => ?_)
              · refine z_iconst (v := 1) d_X6_advance_151 (by decide) ?_
                refine z_put 1 (XW G x N R K r (upd (upd S 1 (nI q)) 2 1) T tl) p_X6_42_6 rfl rfl rfl (Nat.le_of_ble_eq_true rfl) (xf_1_4 G x N R K r (upd S 1 (nI q)) T tl _) d_X6_advance_152 ?_
                refine z_aload_n d_X6_advance_155 0 rfl ?_
                refine z_dup d_X6_advance_156 rfl ?_
                refine z_get (v := .int (S 0)) (1) f_X6_26_6 rfl rfl d_X6_advance_157 ?_
                refine z_top e0 ?_
                refine z_iconst (v := 1) d_X6_advance_160 (by decide) ?_
                refine z_iadd d_X6_advance_161 ?_
                refine z_put 1 (XW G x N R K r (upd (upd (upd S 1 (nI q)) 2 1) 0 ((nI q) + 1)) T tl) p_X6_26_6 rfl rfl rfl (Nat.le_of_ble_eq_true rfl) (xf_1_2 G x N R K r (upd (upd S 1 (nI q)) 2 1) T tl _) d_X6_advance_162 ?_
                exact z_vret _ d_X6_advance_165 rfl ⟨rfl, _, rfl, Ad.no hx hq2 (fun hh => by rw [hh] at h91; exact absurd h91 (by decide)) (fun hh => by rw [hh] at h113; exact absurd h113 (by decide)) (fun hh => by have h9 := b01_z c_136; rw [hh] at h9; exact absurd h9 (by decide)) rfl rfl e4 e5⟩
              · refine z_aload_n d_X6_advance_139 0 rfl ?_
                refine z_get (v := .ref (x 2)) (1) f_X6_9_6 rfl rfl d_X6_advance_140 ?_
                refine z_aload_n d_X6_advance_143 0 rfl ?_
                refine z_get (v := .int (S 0)) (1) f_X6_26_6 rfl rfl d_X6_advance_144 ?_
                refine z_top e0 ?_
                refine z_baldN (2) q rfl (nI_toInt (by omega)) (by omega) d_X6_advance_147 ?_
                refine z_goto d_X6_advance_148 ?_
                refine z_put 1 (XW G x N R K r (upd (upd S 1 (nI q)) 2 ((R 0) q)) T tl) p_X6_42_6 rfl rfl rfl (Nat.le_of_ble_eq_true rfl) (xf_1_4 G x N R K r (upd S 1 (nI q)) T tl _) d_X6_advance_152 ?_
                refine z_aload_n d_X6_advance_155 0 rfl ?_
                refine z_dup d_X6_advance_156 rfl ?_
                refine z_get (v := .int (S 0)) (1) f_X6_26_6 rfl rfl d_X6_advance_157 ?_
                refine z_top e0 ?_
                refine z_iconst (v := 1) d_X6_advance_160 (by decide) ?_
                refine z_iadd d_X6_advance_161 ?_
                refine z_put 1 (XW G x N R K r (upd (upd (upd S 1 (nI q)) 2 ((R 0) q)) 0 ((nI q) + 1)) T tl) p_X6_26_6 rfl rfl rfl (Nat.le_of_ble_eq_true rfl) (xf_1_2 G x N R K r (upd (upd S 1 (nI q)) 2 ((R 0) q)) T tl _) d_X6_advance_162 ?_
                exact z_vret _ d_X6_advance_165 rfl ⟨rfl, _, rfl, Ad.sg hx hq2 (fun hh => by rw [hh] at h91; exact absurd h91 (by decide)) (fun hh => by rw [hh] at h113; exact absurd h113 (by decide)) (b01_o c_136) (nI_1 q) rfl ((hB q hq2).1.trans (sb_sg (hB q hq2).2 (b01_o c_136))) e4 e5⟩
            · refine z_aload_n d_X6_advance_116 0 rfl ?_
              have h91 : isLt (R 0 q) = false := by have h9 := b01_z c_91; exact h9
              rw [(hB q hq2).1, sb_lt (hB q hq2).2] at h91
              have h113 : isDg (R 0 q) = true := b01_o c_113
              rw [(hB q hq2).1, by_dg (hB q hq2).2] at h113
              refine z_callV 1 c_X6_105 rfl rfl (t_X6_digits G x N R K r (upd S 1 (nI q)) T tl B n hn h0 hB q z4 z5 hq e0 rfl e4 e5) rfl rfl (Nat.le_of_ble_eq_true rfl) rfl d_X6_advance_117 ?_
              rintro v9 w9 ⟨rfl, S9, rfl, h9⟩
              refine z_goto d_X6_advance_120 ?_
              exact z_vret _ d_X6_advance_165 rfl ⟨rfl, _, rfl, Ad.dg hx hq2 (fun hh => by rw [hh] at h91; exact absurd h91 (by decide)) h113 h9⟩
          · refine z_aload_n d_X6_advance_94 0 rfl ?_
            have h91 : isLt (R 0 q) = true := by have h9 := b01_o c_91; exact h9
            rw [(hB q hq2).1, sb_lt (hB q hq2).2] at h91
            refine z_callV 1 c_X6_99 rfl rfl (t_X6_word G x N R K r T tl B n hn h0 hB q z4 z5 q ((upd S 1 (nI q))) hq (Nat.le_refl _) e0 rfl e4 e5 rfl) rfl rfl (Nat.le_of_ble_eq_true rfl) rfl d_X6_advance_95 ?_
            rintro v9 w9 ⟨rfl, S9, rfl, h9⟩
            refine z_goto d_X6_advance_98 ?_
            exact z_vret _ d_X6_advance_165 rfl ⟨rfl, _, rfl, Ad.wd hx hq2 h91 h9⟩
        · refine z_aload_n d_X6_advance_39 0 rfl ?_
          refine z_dup d_X6_advance_40 rfl ?_
          refine z_get (v := .int (S 0)) (1) f_X6_26_6 rfl rfl d_X6_advance_41 ?_
          refine z_top e0 ?_
          refine z_iconst (v := 1) d_X6_advance_44 (by decide) ?_
          refine z_iadd d_X6_advance_45 ?_
          refine z_put 1 (XW G x N R K r (upd S 0 ((nI q) + 1)) T tl) p_X6_26_6 rfl rfl rfl (Nat.le_of_ble_eq_true rfl) (xf_1_2 G x N R K r S T tl _) d_X6_advance_46 ?_
          refine z_goto d_X6_advance_49 ?_
          exact ih (q + 1) _ (by omega) (nI_1 q) e4 e5 (he.trans (en_go ⟨hq2, by unfold isBl; rw [Bool.or_eq_true, decide_eq_true_eq, decide_eq_true_eq]; exact Or.inr ((sb_bl (hB q hq2).2).2.mp ((hB q hq2).1.symm.trans c_36))⟩).symm) (by omega)
theorem t_X6_advance (G : GT) (x : Nat → Nat) (N : Nat → Int32) (R : Nat → Nat → Int32) (K : Nat → Nat → Option Nat) (r : Nat → Nat) (S : Nat → Int32) (T : Nat → Nat → Int32) (tl : va_W) (B : Nat → Int32) (n : Nat) (hn : n ≤ 160) (h0 : N 0 = nI n) (hB : Tp B n (R 0)) (p : Nat) (hp : p ≤ n) (e0 : S 0 = nI p) : Ct G mX6_advance 7 0 0 [.ref (x 1)] (XW G x N R K r S T tl) (REx G x N R K r T tl (Ad B n p (S 4) (S 5))) := by
  refine Ct.intro [(0, .ref (x 1))] (by decide) rfl (Nat.le_of_ble_eq_true rfl) ?_
  exact l_X6_advance G x N R K r T tl B n hn h0 hB p (S 4) (S 5) (n + 1) p S hp e0 rfl rfl rfl (by omega)
