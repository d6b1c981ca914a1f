/-! the library's own: bitCount, min, max, fill, copyOf, String constants; and strips by their kinds -/
theorem z_callKp {G : GT} {μ : Mu} {R : Room} {O : OT} {cs ss pc pc' : Nat} {lv : List (Nat × Value)} {st : List Value} {ws w' : va_W} {st0 : List Value} {μ' : Mu} {j n d mc ms : Nat} {i : Nat} {As : List Value} {r : Int32} (hi : i < 14) (hw : CaV μ.1.cls j RJ0 μ' n) (hc : Ct G μ' d mc ms (.ref (G.2.2.1 i) :: As) ws (Pi r w')) (hst : st0 = As.reverse ++ .ref (G.2.2.1 i) :: st) (hn : As.length = n) (h8 : (st.map fun v => v.category).sum ≤ 8) (hR : rmok d mc ms cs ss R = true) (hd : Dc μ pc (.invokevirtual j) 3 pc') (k : Tr G μ R O (cs + mc) (ss + ms) pc' lv (.int r :: st) w') : Tr G μ R O cs ss pc lv st0 ws := z_callK hi hw hc hst hn h8 hR hd (fun v w h => by obtain ⟨rfl, rfl⟩ := h; exact k)
theorem z_callPp {G : GT} {μ : Mu} {R : Room} {O : OT} {cs ss pc pc' : Nat} {lv : List (Nat × Value)} {st : List Value} {ws w' : va_W} {st0 : List Value} {μ' : Mu} {j n d mc ms : Nat} {xc : String} {a ci : Nat} {fs As : List Value} {r9 : vw_C} {r : Int32} (q0 : Nat) (hw : CaP μ.1.cls j xc μ' n) (he : ws[q0]? = some (a, .inr (ci, fs))) (hci : vwCl[ci]? = some r9) (hc : Ct G μ' d mc ms (.ref a :: As) ws (Pi r w')) (hst : st0 = As.reverse ++ .ref a :: st) (hn : As.length = n) (h8 : (st.map fun v => v.category).sum ≤ 8) (hR : rmok d mc ms cs ss R = true) (hd : Dc μ pc (.invokespecial j) 3 pc') (k : Tr G μ R O (cs + mc) (ss + ms) pc' lv (.int r :: st) w') : Tr G μ R O cs ss pc lv st0 ws := z_callP q0 hw he hci hc hst hn h8 hR hd (fun v w h => by obtain ⟨rfl, rfl⟩ := h; exact k)
theorem z_callSv {G : GT} {μ : Mu} {R : Room} {O : OT} {cs ss pc pc' : Nat} {lv : List (Nat × Value)} {st : List Value} {ws w' : va_W} {st0 : List Value} {μ' : Mu} {j n d mc ms : Nat} {av : List Value} (hw : CaS μ.1.cls j μ' n) (hc : Ct G μ' d mc ms av ws (Pv w')) (hst : st0 = av.reverse ++ st) (hn : av.length = n) (h8 : (st.map fun v => v.category).sum ≤ 8) (hR : rmok d mc ms cs ss R = true) (hd : Dc μ pc (.invokestatic j) 3 pc') (k : Tr G μ R O (cs + mc) (ss + ms) pc' lv st w') : Tr G μ R O cs ss pc lv st0 ws := z_callS hw hc hst hn h8 hR hd (fun v w h => by obtain ⟨rfl, rfl⟩ := h; exact k)
def mxS (x y : Int32) : Int32 := if x < y then y else x
theorem mn_1 {x y : Int32} (h : ¬ y < x) : x = mnS x y := by
  unfold mnS; split
  · rfl
  · rename_i h2; rw [lt_i] at h h2; rw [eq_i]; omega
theorem mn_2 {x y : Int32} (h : y < x) : y = mnS x y := by
  unfold mnS; rw [if_neg]; rw [lt_i] at h ⊢; omega
theorem mx_1 {x y : Int32} (h : ¬ x < y) : x = mxS x y := by unfold mxS; rw [if_neg h]
theorem mx_2 {x y : Int32} (h : x < y) : y = mxS x y := by unfold mxS; rw [if_pos h]
theorem z_mmin {G : GT} {μ : Mu} {R : Room} {O : OT} {cs ss pc pc' : Nat} {lv : List (Nat × Value)} {st : List Value} {ws : va_W} {j : Nat} {x y : Int32} (hw : CaS μ.1.cls j mJ9_min_7cf53 2) (h8 : (st.map fun v => v.category).sum ≤ 8) (hR : (Nat.ble 1 R.frames && (Nat.ble 21 R.locals && (Nat.ble cs R.cells && Nat.ble ss R.slots))) = true) (hd : Dc μ pc (.invokestatic j) 3 pc') (k : Tr G μ R O cs ss pc' lv (.int (mnS x y) :: st) ws) : Tr G μ R O cs ss pc lv (.int y :: .int x :: st) ws := fun p l ev s m args below meth c A H locs ls C hl hP hD hS => by
  obtain ⟨hx, hb, hml, hown, hr, hlk, hAm, hA, hnm, hO⟩ := id C
  obtain ⟨hd, rfl⟩ := hd
  simp only [Bool.and_eq_true] at hR
  obtain ⟨w1, w2, w3⟩ := hw
  have w4 : Wd (.methodLink μ.1.cls j mJ9_min_7cf53.1) := by
    rcases w3 with w3 | w3
    · exact w3
    · exfalso
      revert w3
      simp [nestL, mJ9_min_7cf53, yJ9_min_7cf53, yX6_init, yX0_init, yX7_init, yX11_longOf, yX11_firstOf, yX11_stepOf, yX11_placeOf, yX11_fits]
  have e9 : mnS x y = if y < x then y else x := by unfold mnS; by_cases h : y < x <;> by_cases h2 : x < y <;> simp only [h, h2, ↓reduceIte] <;> (rw [lt_i] at h h2; rw [eq_i]; omega)
  rw [e9] at k
  exact va_mmin hx hb (hml.trans hl.1.symm) hown (hAm.1 _ w4 _) (hAm.1 _ w_0255 _) (hAm.1 _ w_0063 _) (hAm.1 _ w_0256 _) (Nat.le_of_ble_eq_true hR.1) (by have := Nat.le_of_ble_eq_true hR.2.1; omega) (Nat.le_of_ble_eq_true hR.2.2.1) (Nat.le_of_ble_eq_true hR.2.2.2) hd (k p l ev s m args below meth c A H locs ls C hl hP hD hS)
theorem z_mmax {G : GT} {μ : Mu} {R : Room} {O : OT} {cs ss pc pc' : Nat} {lv : List (Nat × Value)} {st : List Value} {ws : va_W} {j : Nat} {x y : Int32} (hw : CaS μ.1.cls j mJ9_max_7cf53 2) (h8 : (st.map fun v => v.category).sum ≤ 8) (hR : (Nat.ble 1 R.frames && (Nat.ble 21 R.locals && (Nat.ble cs R.cells && Nat.ble ss R.slots))) = true) (hd : Dc μ pc (.invokestatic j) 3 pc') (k : Tr G μ R O cs ss pc' lv (.int (mxS x y) :: st) ws) : Tr G μ R O cs ss pc lv (.int y :: .int x :: st) ws := fun p l ev s m args below meth c A H locs ls C hl hP hD hS => by
  obtain ⟨hx, hb, hml, hown, hr, hlk, hAm, hA, hnm, hO⟩ := id C
  obtain ⟨hd, rfl⟩ := hd
  simp only [Bool.and_eq_true] at hR
  obtain ⟨w1, w2, w3⟩ := hw
  have w4 : Wd (.methodLink μ.1.cls j mJ9_max_7cf53.1) := by
    rcases w3 with w3 | w3
    · exact w3
    · exfalso
      revert w3
      simp [nestL, mJ9_max_7cf53, yJ9_max_7cf53, yX6_init, yX0_init, yX7_init, yX11_longOf, yX11_firstOf, yX11_stepOf, yX11_placeOf, yX11_fits]
  have e9 : mxS x y = if x < y then y else x := rfl
  rw [e9] at k
  exact va_mmax hx hb (hml.trans hl.1.symm) hown (hAm.1 _ w4 _) (hAm.1 _ w_0252 _) (hAm.1 _ w_0063 _) (hAm.1 _ w_0253 _) (Nat.le_of_ble_eq_true hR.1) (by have := Nat.le_of_ble_eq_true hR.2.1; omega) (Nat.le_of_ble_eq_true hR.2.2.1) (Nat.le_of_ble_eq_true hR.2.2.2) hd (k p l ev s m args below meth c A H locs ls C hl hP hD hS)
theorem sL_small (i : Nat) (hi : i < 14) : sLen.getD i 0 < 100 := by
  have h : ∀ i, i < 14 → sLen.getD i 0 < 100 := by decide +kernel
  exact h i hi
theorem sL_k {i k : Nat} (hi : i < 14) (hk : k < sLen.getD i 0) : k < 2147483648 := by have := sL_small i hi; omega
theorem shr0 {n : Nat} (h : n < 2147483648) : nI n >>> ((0 : Int32) &&& 31) = nI n := by
  apply b_ext
  intro i hi
  rw [show (0 : Int32) = nI 0 from rfl, b_sshr 0 (by decide) _ hi, Nat.zero_add, if_pos hi]
def chS (i k : Nat) : Int32 := (sByt.getD i []).getD k 0
theorem ch_ok : ∀ i, i < 14 → ∀ k, k < sLen.getD i 0 → (((chS i k) &&& 255).toUInt32 % 65536).toInt32 = chS i k ∧ narrow .char (.int (chS i k)) = .int (chS i k) := by decide +kernel
theorem ch_range {i k : Nat} (hi : i < 14) (hk : k < sLen.getD i 0) : (((sByt.getD i []).getD k 0 &&& 255).toUInt32 % 65536).toInt32 = chS i k := (ch_ok i hi k hk).1
set_option maxHeartbeats 4000000 in
set_option maxRecDepth 100000 in
theorem t_J0_coder_7d493 (G : GT) (i : Nat) (hi : i < 14) (ws : va_W)  : Ct G mJ0_coder_7d493 0 0 0 [.ref (G.2.2.1 i)] ws (Pi 0 ws) := by
  refine Ct.intro [(0, .ref (G.2.2.1 i))] (by decide) rfl (Nat.le_of_ble_eq_true rfl) ?_
  refine z_getCS w_0140 d_J0_coder_7d493_0 ?_
  refine z_if_eq d_J0_coder_7d493_3 (fun c_3 => ?_) (fun c_3 => ?_)
  · exact absurd c_3 (by decide)
  refine z_aload_n d_J0_coder_7d493_6 0 rfl ?_
  refine z_strC hi w_1462 d_J0_coder_7d493_7 ?_
  refine z_goto d_J0_coder_7d493_10 ?_
  exact z_nret _ d_J0_coder_7d493_14 rfl (by rfl) (Pi.of rfl)
set_option maxHeartbeats 4000000 in
set_option maxRecDepth 100000 in
theorem t_J0_isLatin1_aae02 (G : GT) (i : Nat) (hi : i < 14) (ws : va_W)  : Ct G mJ0_isLatin1_aae02 0 0 0 [.ref (G.2.2.1 i)] ws (Pi 1 ws) := by
  refine Ct.intro [(0, .ref (G.2.2.1 i))] (by decide) rfl (Nat.le_of_ble_eq_true rfl) ?_
  refine z_getCS w_0140 d_J0_isLatin1_aae02_0 ?_
  refine z_if_eq d_J0_isLatin1_aae02_3 (fun c_3 => ?_) (fun c_3 => ?_)
  · exact absurd c_3 (by decide)
  refine z_aload_n d_J0_isLatin1_aae02_6 0 rfl ?_
  refine z_strC hi w_1462 d_J0_isLatin1_aae02_7 ?_
  refine z_if_ne d_J0_isLatin1_aae02_10 (fun c_10 => ?_) (fun c_10 => ?_)
  · exact absurd c_10 (by decide)
  refine z_iconst (v := 1) d_J0_isLatin1_aae02_13 (by decide) ?_
  refine z_goto d_J0_isLatin1_aae02_14 ?_
  exact z_zret _ d_J0_isLatin1_aae02_18 rfl (by rfl) (Pi.of rfl)
set_option maxHeartbeats 4000000 in
set_option maxRecDepth 100000 in
theorem t_J0_length_8abf5 (G : GT) (i : Nat) (hi : i < 14) (ws : va_W)  : Ct G mJ0_length_8abf5 1 0 0 [.ref (G.2.2.1 i)] ws (Pi (nI (sLen.getD i 0)) ws) := by
  refine Ct.intro [(0, .ref (G.2.2.1 i))] (by decide) rfl (Nat.le_of_ble_eq_true rfl) ?_
  refine z_aload_n d_J0_length_8abf5_0 0 rfl ?_
  refine z_strV hi w_1461 d_J0_length_8abf5_1 ?_
  refine z_strL hi rfl d_J0_length_8abf5_4 ?_
  refine z_aload_n d_J0_length_8abf5_5 0 rfl ?_
  refine z_callKp (i := i) hi c_J0_335 (t_J0_coder_7d493 G i hi ws) rfl rfl (Nat.le_of_ble_eq_true rfl) rfl d_J0_length_8abf5_6 ?_
  refine z_ishr d_J0_length_8abf5_9 ?_
  exact z_iret _ d_J0_length_8abf5_10 rfl (Pi.of (by have := sL_small i hi; exact shr0 (by omega)))
set_option maxHeartbeats 4000000 in
set_option maxRecDepth 100000 in
theorem t_J3_checkIndex_8e157R (G : GT) (k L : Nat) (hk : k < L) (hL : L < 1000) (t : Nat) (ws : va_W)  : Ct G mJ3_checkIndex_8e157 0 0 0 [.int (nI k), .int (nI L), .ref t] ws (Pi (nI k) ws) := by
  refine Ct.intro [(0, .int (nI k)), (1, .int (nI L)), (2, .ref t)] (by decide) rfl (Nat.le_of_ble_eq_true rfl) ?_
  refine z_iload_n d_J3_checkIndex_8e157_0 0 rfl ?_
  refine z_if_lt d_J3_checkIndex_8e157_1 (fun c_1 => ?_) (fun c_1 => ?_)
  · exact absurd c_1 (by rw [lt_i, nI_i (by omega), i_0]; omega)
  refine z_iload_n d_J3_checkIndex_8e157_4 0 rfl ?_
  refine z_iload_n d_J3_checkIndex_8e157_5 1 rfl ?_
  refine z_icmp_lt d_J3_checkIndex_8e157_6 (fun c_6 => ?_) (fun c_6 => ?_)
  rotate_left
  · exact absurd ((nI_ltI (by omega) (by omega)).mpr hk) c_6
  refine z_iload_n d_J3_checkIndex_8e157_16 0 rfl ?_
  exact z_iret _ d_J3_checkIndex_8e157_17 rfl (Pi.of rfl)
set_option maxHeartbeats 4000000 in
set_option maxRecDepth 100000 in
theorem t_J3_checkIndex_8e157N (G : GT) (k L : Nat) (hk : k < L) (hL : L < 1000) (ws : va_W)  : Ct G mJ3_checkIndex_8e157 0 0 0 [.int (nI k), .int (nI L), .null] ws (Pi (nI k) ws) := by
  refine Ct.intro [(0, .int (nI k)), (1, .int (nI L)), (2, .null)] (by decide) rfl (Nat.le_of_ble_eq_true rfl) ?_
  refine z_iload_n d_J3_checkIndex_8e157_0 0 rfl ?_
  refine z_if_lt d_J3_checkIndex_8e157_1 (fun c_1 => ?_) (fun c_1 => ?_)
  · exact absurd c_1 (by rw [lt_i, nI_i (by omega), i_0]; omega)
  refine z_iload_n d_J3_checkIndex_8e157_4 0 rfl ?_
  refine z_iload_n d_J3_checkIndex_8e157_5 1 rfl ?_
  refine z_icmp_lt d_J3_checkIndex_8e157_6 (fun c_6 => ?_) (fun c_6 => ?_)
  rotate_left
  · exact absurd ((nI_ltI (by omega) (by omega)).mpr hk) c_6
  refine z_iload_n d_J3_checkIndex_8e157_16 0 rfl ?_
  exact z_iret _ d_J3_checkIndex_8e157_17 rfl (Pi.of rfl)
set_option maxHeartbeats 4000000 in
set_option maxRecDepth 100000 in
theorem t_J0_checkIndex_df160 (G : GT) (k L : Nat) (hk : k < L) (hL : L < 1000) (ws : va_W)  : Ct G mJ0_checkIndex_df160 1 0 0 [.int (nI k), .int (nI L)] ws (Pv ws) := by
  refine Ct.intro [(0, .int (nI k)), (1, .int (nI L))] (by decide) rfl (Nat.le_of_ble_eq_true rfl) ?_
  refine z_iload_n d_J0_checkIndex_df160_0 0 rfl ?_
  refine z_iload_n d_J0_checkIndex_df160_1 1 rfl ?_
  refine z_getSF w_0156 d_J0_checkIndex_df160_2 ?_ (fun t9 => ?_)
  · refine z_callSp c_J0_1059 (t_J3_checkIndex_8e157N G k L hk hL ws) rfl rfl (Nat.le_of_ble_eq_true rfl) rfl d_J0_checkIndex_df160_5 ?_
    refine z_pop d_J0_checkIndex_df160_8 rfl ?_
    exact z_vret _ d_J0_checkIndex_df160_9 rfl (Pv.of rfl)
  · refine z_callSp c_J0_1059 (t_J3_checkIndex_8e157R G k L hk hL t9 ws) rfl rfl (Nat.le_of_ble_eq_true rfl) rfl d_J0_checkIndex_df160_5 ?_
    refine z_pop d_J0_checkIndex_df160_8 rfl ?_
    exact z_vret _ d_J0_checkIndex_df160_9 rfl (Pv.of rfl)
set_option maxHeartbeats 4000000 in
set_option maxRecDepth 100000 in
theorem t_J1_charAt_3b067 (G : GT) (i k : Nat) (hi : i < 14) (hk : k < sLen.getD i 0) (ws : va_W)  : Ct G mJ1_charAt_3b067 2 0 0 [.ref (G.2.2.2 i), .int (nI k)] ws (Pi (chS i k) ws) := by
  refine Ct.intro [(0, .ref (G.2.2.2 i)), (1, .int (nI k))] (by decide) rfl (Nat.le_of_ble_eq_true rfl) ?_
  refine z_iload_n d_J1_charAt_3b067_0 1 rfl ?_
  refine z_aload_n d_J1_charAt_3b067_1 0 rfl ?_
  refine z_strL hi rfl d_J1_charAt_3b067_2 ?_
  refine z_callSv c_J1_9 (t_J0_checkIndex_df160 G k (sLen.getD i 0) hk (by have := sL_small i hi; omega) ws) rfl rfl (Nat.le_of_ble_eq_true rfl) rfl d_J1_charAt_3b067_3 ?_
  refine z_aload_n d_J1_charAt_3b067_6 0 rfl ?_
  refine z_iload_n d_J1_charAt_3b067_7 1 rfl ?_
  refine z_strB k hi (nI_i (sL_k hi hk)) hk d_J1_charAt_3b067_8 ?_
  refine z_sipush (v := 255) d_J1_charAt_3b067_9 (by decide) ?_
  refine z_iand d_J1_charAt_3b067_12 ?_
  refine z_i2c d_J1_charAt_3b067_13 ?_
  exact z_nret _ d_J1_charAt_3b067_14 rfl (by rw [ch_range hi hk]; exact (ch_ok i hi k hk).2) (Pi.of (ch_range hi hk))
set_option maxHeartbeats 4000000 in
set_option maxRecDepth 100000 in
theorem t_J0_charAt_5068e (G : GT) (i k : Nat) (hi : i < 14) (hk : k < sLen.getD i 0) (ws : va_W)  : Ct G mJ0_charAt_5068e 3 0 0 [.ref (G.2.2.1 i), .int (nI k)] ws (Pi (chS i k) ws) := by
  refine Ct.intro [(0, .ref (G.2.2.1 i)), (1, .int (nI k))] (by decide) rfl (Nat.le_of_ble_eq_true rfl) ?_
  refine z_aload_n d_J0_charAt_5068e_0 0 rfl ?_
  refine z_callKp (i := i) hi c_J0_492 (t_J0_isLatin1_aae02 G i hi ws) rfl rfl (Nat.le_of_ble_eq_true rfl) rfl d_J0_charAt_5068e_1 ?_
  refine z_if_eq d_J0_charAt_5068e_4 (fun c_4 => ?_) (fun c_4 => ?_)
  · exact absurd c_4 (by decide)
  refine z_aload_n d_J0_charAt_5068e_7 0 rfl ?_
  refine z_strV hi w_1461 d_J0_charAt_5068e_8 ?_
  refine z_iload_n d_J0_charAt_5068e_11 1 rfl ?_
  refine z_callSp c_J0_495 (t_J1_charAt_3b067 G i k hi hk ws) rfl rfl (Nat.le_of_ble_eq_true rfl) rfl d_J0_charAt_5068e_12 ?_
  exact z_nret _ d_J0_charAt_5068e_15 rfl (by exact (ch_ok i hi k hk).2) (Pi.of rfl)
def ixF (c : Int32) : Nat → Nat → Int32
  | 0, _ => -1
  | f + 1, k => if chS 13 k = c then nI k else ixF c f (k + 1)
def ixS (n : Nat) : Int32 := ixF (nI n).toInt8.toInt32 8 0
theorem ix_sg : ∀ n, n < 256 → (decide (ixS n < 0)) = !isSg (nI n) := by decide +kernel
set_option maxHeartbeats 4000000 in
set_option maxRecDepth 100000 in
theorem l_J1_indexOfChar_4cfef (G : GT) (n : Nat) (r : Int32) (ws : va_W) : ∀ (f : Nat) (k : Nat) (hk : k ≤ 8) (hm : 8 < k + f) (hr : ixF (nI n).toInt8.toInt32 (8 - k) k = r), Tr G mJ1_indexOfChar_4cfef (Rm 0 0 0) (OM G (Pi r ws) 0 0) 0 0 7 [(5, .int (nI k)), (4, .int ((nI n).toInt8.toInt32)), (3, .int 8), (2, .int 0), (1, .int (nI n)), (0, .ref (G.2.2.2 13))] [] ws := by
  intro f
  induction f with
  | zero =>
    intro k hk hm hr
    exact absurd hm (by omega)
  | succ f ih =>
    intro k hk hm hr
    refine z_iload d_J1_indexOfChar_4cfef_7 0 rfl ?_
    refine z_iload_n d_J1_indexOfChar_4cfef_9 2 rfl ?_
    refine z_icmp_ge d_J1_indexOfChar_4cfef_10 (fun c_10 => ?_) (fun c_10 => ?_)
    · refine z_iconst (v := -1) d_J1_indexOfChar_4cfef_31 (by decide) ?_
      exact z_iret _ d_J1_indexOfChar_4cfef_32 rfl (Pi.of (by rw [show 8 - k = 0 by have h9 := ge_nI (N := 8) (by omega) (by decide) c_10; omega] at hr; exact hr))
    · refine z_aload_n d_J1_indexOfChar_4cfef_13 5 rfl ?_
      refine z_iload d_J1_indexOfChar_4cfef_14 0 rfl ?_
      refine z_strB k (by decide) (nI_i (sL_k (by decide) (show k < sLen.getD 13 0 from (lt_nI (N := 8) (by omega) (by decide) c_10)))) (show k < sLen.getD 13 0 from (lt_nI (N := 8) (by omega) (by decide) c_10)) d_J1_indexOfChar_4cfef_16 ?_
      refine z_iload d_J1_indexOfChar_4cfef_17 1 rfl ?_
      refine z_icmp_ne d_J1_indexOfChar_4cfef_19 (fun c_19 => ?_) (fun c_19 => ?_)
      · refine z_iinc (nI (k + 1)) [(5, .int (nI (k + 1))), (4, .int ((nI n).toInt8.toInt32)), (3, .int 8), (2, .int 0), (1, .int (nI n)), (0, .ref (G.2.2.2 13))] 0 d_J1_indexOfChar_4cfef_25 rfl (nI_1 _) (by decide) rfl ?_
        refine z_goto d_J1_indexOfChar_4cfef_28 ?_
        have h9 := lt_nI (N := 8) (by omega) (by decide) c_10
        exact ih (k + 1) (by omega) (by omega) (by rw [show 8 - k = (7 - k) + 1 by omega, ixF, show chS 13 k = (sByt.getD 13 []).getD k 0 from rfl, if_neg c_19] at hr; rw [show 8 - (k + 1) = 7 - k by omega]; exact hr)
      · refine z_iload d_J1_indexOfChar_4cfef_22 0 rfl ?_
        exact z_iret _ d_J1_indexOfChar_4cfef_24 rfl (Pi.of (by have h9 := lt_nI (N := 8) (by omega) (by decide) c_10; rw [show 8 - k = (7 - k) + 1 by omega, ixF, show chS 13 k = (sByt.getD 13 []).getD k 0 from rfl] at hr; rw [if_pos c_19] at hr; exact hr))
set_option maxHeartbeats 4000000 in
set_option maxRecDepth 100000 in
theorem t_J1_indexOfChar_4cfef (G : GT) (n : Nat) (ws : va_W)  : Ct G mJ1_indexOfChar_4cfef 0 0 0 [.ref (G.2.2.2 13), .int (nI n), .int 0, .int 8] ws (Pi (ixS n) ws) := by
  refine Ct.intro [(0, .ref (G.2.2.2 13)), (1, .int (nI n)), (2, .int 0), (3, .int 8)] (by decide) rfl (Nat.le_of_ble_eq_true rfl) ?_
  refine z_iload_n d_J1_indexOfChar_4cfef_0 1 rfl ?_
  refine z_i2b d_J1_indexOfChar_4cfef_1 ?_
  refine z_istore [(4, .int ((nI n).toInt8.toInt32)), (0, .ref (G.2.2.2 13)), (1, .int (nI n)), (2, .int 0), (3, .int 8)] d_J1_indexOfChar_4cfef_2 (by decide) rfl ?_
  refine z_iload_n d_J1_indexOfChar_4cfef_4 3 rfl ?_
  refine z_istore [(5, .int 0), (4, .int ((nI n).toInt8.toInt32)), (0, .ref (G.2.2.2 13)), (1, .int (nI n)), (2, .int 0), (3, .int 8)] d_J1_indexOfChar_4cfef_5 (by decide) rfl ?_
  refine z_perm [0, 1, 5, 4, 3, 2] rfl ?_
  exact l_J1_indexOfChar_4cfef G n _ ws 9 0 (by omega) (by omega) rfl
set_option maxHeartbeats 4000000 in
set_option maxRecDepth 100000 in
theorem t_J1_canEncode_9a6ad (G : GT) (n : Nat) (hn : n < 256) (ws : va_W)  : Ct G mJ1_canEncode_9a6ad 0 0 0 [.int (nI n)] ws (Pi 1 ws) := by
  refine Ct.intro [(0, .int (nI n))] (by decide) rfl (Nat.le_of_ble_eq_true rfl) ?_
  refine z_iload_n d_J1_canEncode_9a6ad_0 0 rfl ?_
  refine z_if_lt d_J1_canEncode_9a6ad_1 (fun c_1 => ?_) (fun c_1 => ?_)
  · exact absurd c_1 (by rw [lt_i, nI_i (by omega), i_0]; omega)
  refine z_iload_n d_J1_canEncode_9a6ad_4 0 rfl ?_
  refine z_sipush (v := 255) d_J1_canEncode_9a6ad_5 (by decide) ?_
  refine z_icmp_gt d_J1_canEncode_9a6ad_8 (fun c_8 => ?_) (fun c_8 => ?_)
  · exact absurd c_8 (by rw [lt_i, nI_i (by omega), show (255 : Int32).toInt = 255 by decide]; omega)
  refine z_iconst (v := 1) d_J1_canEncode_9a6ad_11 (by decide) ?_
  refine z_goto d_J1_canEncode_9a6ad_12 ?_
  exact z_zret _ d_J1_canEncode_9a6ad_16 rfl (by rfl) (Pi.of rfl)
set_option maxHeartbeats 4000000 in
set_option maxRecDepth 100000 in
theorem t_J1_indexOf_4cfef (G : GT) (n : Nat) (hn : n < 256) (ws : va_W)  : Ct G mJ1_indexOf_4cfef 1 0 0 [.ref (G.2.2.2 13), .int (nI n), .int 0, .int 8] ws (Pi (ixS n) ws) := by
  refine Ct.intro [(0, .ref (G.2.2.2 13)), (1, .int (nI n)), (2, .int 0), (3, .int 8)] (by decide) rfl (Nat.le_of_ble_eq_true rfl) ?_
  refine z_iload_n d_J1_indexOf_4cfef_0 1 rfl ?_
  refine z_callSp c_J1_88 (t_J1_canEncode_9a6ad G n hn ws) rfl rfl (Nat.le_of_ble_eq_true rfl) rfl d_J1_indexOf_4cfef_1 ?_
  refine z_if_ne d_J1_indexOf_4cfef_4 (fun c_4 => ?_) (fun c_4 => ?_)
  rotate_left
  · exact absurd c_4 (by decide)
  refine z_iload_n d_J1_indexOf_4cfef_9 2 rfl ?_
  refine z_iconst (v := 0) d_J1_indexOf_4cfef_10 (by decide) ?_
  refine z_mmax c_J1_92 (Nat.le_of_ble_eq_true rfl) rfl d_J1_indexOf_4cfef_11 ?_
  rw [show mxS 0 0 = 0 from by decide]
  refine z_istore_n [(2, .int 0), (0, .ref (G.2.2.2 13)), (1, .int (nI n)), (3, .int 8)] d_J1_indexOf_4cfef_14 (by decide) rfl ?_
  refine z_iload_n d_J1_indexOf_4cfef_15 3 rfl ?_
  refine z_aload_n d_J1_indexOf_4cfef_16 1 rfl ?_
  refine z_strL (v := 8) (by decide) rfl d_J1_indexOf_4cfef_17 ?_
  refine z_mmin c_J1_38 (Nat.le_of_ble_eq_true rfl) rfl d_J1_indexOf_4cfef_18 ?_
  rw [show mnS 8 8 = 8 from by decide]
  refine z_istore_n [(3, .int 8), (2, .int 0), (0, .ref (G.2.2.2 13)), (1, .int (nI n))] d_J1_indexOf_4cfef_21 (by decide) rfl ?_
  refine z_iload_n d_J1_indexOf_4cfef_22 1 rfl ?_
  refine z_iload_n d_J1_indexOf_4cfef_23 0 rfl ?_
  refine z_icmp_lt d_J1_indexOf_4cfef_24 (fun c_24 => ?_) (fun c_24 => ?_)
  rotate_left
  · exact absurd c_24 (by decide)
  refine z_aload_n d_J1_indexOf_4cfef_29 2 rfl ?_
  refine z_iload_n d_J1_indexOf_4cfef_30 3 rfl ?_
  refine z_iload_n d_J1_indexOf_4cfef_31 1 rfl ?_
  refine z_iload_n d_J1_indexOf_4cfef_32 0 rfl ?_
  refine z_callSp c_J1_95 (t_J1_indexOfChar_4cfef G n ws) rfl rfl (Nat.le_of_ble_eq_true rfl) rfl d_J1_indexOf_4cfef_33 ?_
  exact z_iret _ d_J1_indexOf_4cfef_36 rfl (Pi.of rfl)
set_option maxHeartbeats 4000000 in
set_option maxRecDepth 100000 in
theorem t_J0_indexOf_7cf53 (G : GT) (n : Nat) (hn : n < 256) (ws : va_W)  : Ct G mJ0_indexOf_7cf53 2 0 0 [.ref (G.2.2.1 13), .int (nI n), .int 0] ws (Pi (ixS n) ws) := by
  refine Ct.intro [(0, .ref (G.2.2.1 13)), (1, .int (nI n)), (2, .int 0)] (by decide) rfl (Nat.le_of_ble_eq_true rfl) ?_
  refine z_aload_n d_J0_indexOf_7cf53_0 0 rfl ?_
  refine z_callKp (i := 13) (by decide) c_J0_492 (t_J0_isLatin1_aae02 G 13 (by decide) ws) rfl rfl (Nat.le_of_ble_eq_true rfl) rfl d_J0_indexOf_7cf53_1 ?_
  refine z_if_eq d_J0_indexOf_7cf53_4 (fun c_4 => ?_) (fun c_4 => ?_)
  · exact absurd c_4 (by decide)
  refine z_aload_n d_J0_indexOf_7cf53_7 0 rfl ?_
  refine z_strV (by decide) w_1461 d_J0_indexOf_7cf53_8 ?_
  refine z_iload_n d_J0_indexOf_7cf53_11 1 rfl ?_
  refine z_iload_n d_J0_indexOf_7cf53_12 2 rfl ?_
  refine z_aload_n d_J0_indexOf_7cf53_13 0 rfl ?_
  refine z_callKp (i := 13) (by decide) c_J0_505 (t_J0_length_8abf5 G 13 (by decide) ws) rfl rfl (Nat.le_of_ble_eq_true rfl) rfl d_J0_indexOf_7cf53_14 ?_
  rw [show nI (sLen.getD 13 0) = 8 from rfl]
  refine z_callSp c_J0_637 (t_J1_indexOf_4cfef G n hn ws) rfl rfl (Nat.le_of_ble_eq_true rfl) rfl d_J0_indexOf_7cf53_17 ?_
  refine z_goto d_J0_indexOf_7cf53_20 ?_
  exact z_iret _ d_J0_indexOf_7cf53_36 rfl (Pi.of rfl)
set_option maxHeartbeats 4000000 in
set_option maxRecDepth 100000 in
theorem t_J0_indexOf_0f7a4 (G : GT) (n : Nat) (hn : n < 256) (ws : va_W)  : Ct G mJ0_indexOf_0f7a4 3 0 0 [.ref (G.2.2.1 13), .int (nI n)] ws (Pi (ixS n) ws) := by
  refine Ct.intro [(0, .ref (G.2.2.1 13)), (1, .int (nI n))] (by decide) rfl (Nat.le_of_ble_eq_true rfl) ?_
  refine z_aload_n d_J0_indexOf_0f7a4_0 0 rfl ?_
  refine z_iload_n d_J0_indexOf_0f7a4_1 1 rfl ?_
  refine z_iconst (v := 0) d_J0_indexOf_0f7a4_2 (by decide) ?_
  refine z_callKp (i := 13) (by decide) c_J0_633 (t_J0_indexOf_7cf53 G n hn ws) rfl rfl (Nat.le_of_ble_eq_true rfl) rfl d_J0_indexOf_0f7a4_3 ?_
  exact z_iret _ d_J0_indexOf_0f7a4_6 rfl (Pi.of rfl)
def flRow (f : Nat → Int32) (v : Int32) (k : Nat) : Nat → Int32 := fun i => if i < k then v else f i
theorem flRow_0 (f : Nat → Int32) (v : Int32) : flRow f v 0 = f := by funext i; unfold flRow; rw [if_neg (by omega)]
theorem flRow_s (f : Nat → Int32) (v : Int32) (k : Nat) : upd (flRow f v k) k v = flRow f v (k + 1) := by
  funext i; simp only [flRow, upd]
  by_cases h : i = k
  · rw [if_pos h, if_pos (by omega)]
  · rw [if_neg h]
    by_cases h2 : i < k
    · rw [if_pos h2, if_pos (by omega)]
    · rw [if_neg h2, if_neg (by omega)]
theorem set_set {ws : va_W} {q0 : Nat} {u v : Nat × va_E} : (ws.set q0 u).set q0 v = ws.set q0 v := by rw [List.set_set]
theorem get_set {ws : va_W} {q0 : Nat} {u v : Nat × va_E} (h : ws[q0]? = some u) : (ws.set q0 v)[q0]? = some v := by
  rw [List.getElem?_set_self (List.getElem?_eq_some_iff.mp h).1]
theorem set_same {ws : va_W} {q0 : Nat} {u : Nat × va_E} (h : ws[q0]? = some u) : ws.set q0 u = ws := by
  apply List.ext_getElem?
  intro i
  by_cases hi : q0 = i
  · subst hi; rw [get_set h, h]
  · rw [List.getElem?_set_ne hi]
set_option maxHeartbeats 4000000 in
set_option maxRecDepth 100000 in
theorem l_J7_fill_53178 (G : GT) (q0 a N : Nat) (f : Nat → Int32) (v : Int32) (hN : N < 1000) (ws : va_W) (he0 : ws[q0]? = some (a, .inl (G.2.1 0, N, .inl f))) : ∀ (n : Nat) (k : Nat) (hk : k ≤ N) (hm : N < k + n), Tr G mJ7_fill_53178 (Rm 0 0 0) (OM G (Pv (ws.set q0 (a, .inl (G.2.1 0, N, .inl (flRow f v N))))) 0 0) 0 0 5 [(3, .int (nI N)), (2, .int (nI k)), (1, .int v), (0, .ref a)] [] (ws.set q0 (a, .inl (G.2.1 0, N, .inl (flRow f v k)))) := by
  intro n
  induction n with
  | zero =>
    intro k hk hm
    exact absurd hm (by omega)
  | succ n ih =>
    intro k hk hm
    refine z_iload_n d_J7_fill_53178_5 1 rfl ?_
    refine z_iload_n d_J7_fill_53178_6 0 rfl ?_
    refine z_icmp_ge d_J7_fill_53178_7 (fun c_7 => ?_) (fun c_7 => ?_)
    · exact z_vret _ d_J7_fill_53178_20 rfl (Pv.of (by rw [show k = N by have h9 := ge_nI (by omega) (by omega) c_7; omega]))
    · have h9 := lt_nI (by omega) (by omega) c_7
      have he : (ws.set q0 (a, .inl (G.2.1 0, N, .inl (flRow f v k))))[q0]? = some (a, .inl (G.2.1 0, N, .inl (flRow f v k))) := get_set he0
      refine z_aload_n d_J7_fill_53178_10 3 rfl ?_
      refine z_iload_n d_J7_fill_53178_11 1 rfl ?_
      refine z_iload_n d_J7_fill_53178_12 2 rfl ?_
      refine z_iastN q0 k (ws.set q0 (a, .inl (G.2.1 0, N, .inl (flRow f v (k + 1))))) he (nI_i (by omega)) (by omega) (by rw [set_set, flRow_s]) d_J7_fill_53178_13 ?_
      refine z_iinc (nI (k + 1)) [(2, .int (nI (k + 1))), (3, .int (nI N)), (1, .int v), (0, .ref a)] 1 d_J7_fill_53178_14 rfl (nI_1 _) (by decide) rfl ?_
      refine z_goto d_J7_fill_53178_17 ?_
      refine z_perm [1, 0, 2, 3] rfl ?_
      exact ih (k + 1) (by omega) (by omega)
set_option maxHeartbeats 4000000 in
set_option maxRecDepth 100000 in
theorem t_J7_fill_53178 (G : GT) (q0 a N : Nat) (f : Nat → Int32) (v : Int32) (hN : N < 1000) (ws : va_W) (he0 : ws[q0]? = some (a, .inl (G.2.1 0, N, .inl f)))  : Ct G mJ7_fill_53178 0 0 0 [.ref a, .int v] ws (Pv (ws.set q0 (a, .inl (G.2.1 0, N, .inl (flRow f v N))))) := by
  have he := he0
  refine Ct.intro [(0, .ref a), (1, .int v)] (by decide) rfl (Nat.le_of_ble_eq_true rfl) ?_
  refine z_iconst (v := 0) d_J7_fill_53178_0 (by decide) ?_
  refine z_istore_n [(2, .int 0), (0, .ref a), (1, .int v)] d_J7_fill_53178_1 (by decide) rfl ?_
  refine z_aload_n d_J7_fill_53178_2 1 rfl ?_
  refine z_alen (ty := .int) q0 0 (nI N) he rfl rfl d_J7_fill_53178_3 ?_
  refine z_istore_n [(3, .int (nI N)), (2, .int 0), (0, .ref a), (1, .int v)] d_J7_fill_53178_4 (by decide) rfl ?_
  refine z_perm [0, 1, 3, 2] rfl ?_
  have h9 := l_J7_fill_53178 G q0 a N f v hN ws he0 (N + 1) 0 (by omega) (by omega)
  rw [flRow_0, set_same he0] at h9
  exact h9
