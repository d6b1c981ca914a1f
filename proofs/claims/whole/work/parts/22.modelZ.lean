/-! THE REFERENCE: the host's sheets, feed, text, and the beginning -/
theorem i40 : (40 : Int32) = nI 40 := rfl
theorem i3 : (3 : Int32) = nI 3 := rfl
theorem nI_mul (a b : Nat) : nI a * nI b = nI (a * b) := (Int32.ofNat_mul a b).symm
theorem nI_sub {a b : Nat} (h : b ≤ a) : nI a - nI b = nI (a - b) := by
  have e : nI a = nI (a - b) + nI b := by rw [nI_add, Nat.sub_add_cancel h]
  rw [e, Int32.add_sub_cancel]
theorem vf_self (A : Nat → Nat → Int32) (k : Nat) : vf_upd A k (A k) = A := by
  funext j
  unfold vf_upd
  by_cases h : j = k
  · rw [if_pos h, h]
  · rw [if_neg h]
theorem vf_vf (A : Nat → Nat → Int32) (k : Nat) (f g : Nat → Int32) : vf_upd (vf_upd A k f) k g = vf_upd A k g := by
  funext j
  unfold vf_upd
  by_cases h : j = k
  · rw [if_pos h, if_pos h]
  · rw [if_neg h, if_neg h, if_neg h]
theorem nar_b1 : vp_nar .boolean 1 = 1 := by decide
theorem nar_b0 : vp_nar .boolean 0 = 0 := by decide
theorem inB_nI {s : Int32} {N : Nat} (h : inB s 0 N = true) : ∃ j, j < N + 1 ∧ s = nI j := by
  rw [inB, Bool.and_eq_true, decide_eq_true_eq, decide_eq_true_eq] at h
  exact ⟨s.toInt.toNat, by omega, eq_nI (by omega)⟩
theorem iB_m12 (s : Int32) : (decide (-1 ≤ s.toInt) && decide (s.toInt ≤ 2)) = inB s (-1) 2 := rfl
def ShOk (A : Nat → Nat → Int32) : Prop := ∀ j, j < 4 → ¬ A 36 j = 0 → 0 ≤ (A 38 j).toInt ∧ (A 38 j).toInt ≤ 40
def shP (s sort n0 : Int32) : Bool := inB s 0 3 && (inB sort (-1) 2 && (decide (sort < 0) || !decide (40 < n0)))
def shT (A : Nat → Nat → Int32) (j : Nat) (sort n0 t : Int32) : Nat → Nat → Int32 := vf_upd (vf_upd (vf_upd A 36 (upd (A 36) j t)) 37 (upd (A 37) j sort)) 38 (upd (A 38) j n0)
def zrF (j : Nat) (k : Nat) (row : Nat → Int32) : Nat → Int32 := upd row (40 * j + k) 0
def sheX {α : Type} (s sort n0 : Int32) (bad off neg fine : α) : α := if shP s sort n0 = true then (if sort < 0 then off else if n0 < 0 then neg else fine) else bad
def sheR (s sort n0 : Int32) : Int32 := sheX s sort n0 (-2) 1 (-14) 1
def sheA (A : Nat → Nat → Int32) (s sort n0 : Int32) : Nat → Nat → Int32 := sheX s sort n0 A (shT A s.toInt.toNat sort n0 0) A (vf_upd (shT A s.toInt.toNat sort n0 1) 39 (itL (zrF s.toInt.toNat) (A 39) n0.toInt.toNat))
set_option maxHeartbeats 4000000 in
set_option maxRecDepth 100000 in
theorem t_X12_isSheet (G : GT) (s : Int32) (ws : va_W)  : Ct G mX12_isSheet 1 0 0 [.int s] ws (Pi (b01 (inB s 0 3)) ws) := by
  refine Ct.intro [(0, .int s)] (by decide) rfl (Nat.le_of_ble_eq_true rfl) ?_
  refine z_iload_n d_X12_isSheet_0 0 rfl ?_
  refine z_i2l d_X12_isSheet_1 ?_
  refine z_lconst (v := 0) d_X12_isSheet_2 (by decide) ?_
  refine z_ldc2 d_X12_isSheet_3 w_1426 ?_
  refine z_callSp c_X12_82 (t_X12_in G s.toInt64 0 3 ws) rfl rfl (Nat.le_of_ble_eq_true rfl) rfl d_X12_isSheet_6 ?_
  exact z_zret _ d_X12_isSheet_9 rfl (by rw [in_b]; exact b01_n) (Pi.of (by rw [in_b]; rfl))
set_option maxHeartbeats 4000000 in
set_option maxRecDepth 100000 in
theorem l_X12_sheet (G : GT) (b : Nat → Nat) (I : Nat → Int32) (A : Nat → Nat → Int32) (J : Nat → Int32) (tw : Int64) (j : Nat) (sort n0 : Int32) (hj : j < 4) (hso : ¬ sort < 0) (hn : n0.toInt ≤ 40) : ∀ (n : Nat)  (k : Nat) (row : Nat → Int32) (hk : k ≤ n0.toInt.toNat) (hm : n0.toInt.toNat < k + n) (hrow : row = itL (zrF j) (A 39) k), Tr G mX12_sheet (Rm 2 0 0) (OM G (Pi 1 (MW G b I (vf_upd A 39 (itL (zrF j) (A 39) n0.toInt.toNat)) J tw)) 0 0) 0 0 77 [(4, .int (nI k)), (3, .int n0), (2, .int sort), (1, .int (nI j)), (0, .ref (b 0))] [] (MW G b I (vf_upd A 39 row) J tw) := by
  intro n
  induction n with
  | zero =>
    intro k row hk hm hrow
    exact absurd hm (by omega)
  | succ n ih =>
    intro k row hk hm hrow
    refine z_iload d_X12_sheet_77 0 rfl ?_
    refine z_iload_n d_X12_sheet_79 1 rfl ?_
    refine z_icmp_ge d_X12_sheet_80 (fun c_80 => ?_) (fun c_80 => ?_)
    · refine z_iconst (v := 1) d_X12_sheet_106 (by decide) ?_
      exact z_iret _ d_X12_sheet_107 rfl (by have e9 : k = n0.toInt.toNat := (by rw [nI_ltN (by omega)] at c_80; omega); subst hrow; subst e9; exact Pi.ofw rfl rfl)
    · have h9 : k < n0.toInt.toNat := (nI_ltN (by omega)).mp c_80
      refine z_iload_n d_X12_sheet_83 2 rfl ?_
      refine z_if_lt d_X12_sheet_84 (fun c_84 => ?_) (fun c_84 => ?_)
      · exact absurd c_84 hso
      refine z_aload_n d_X12_sheet_87 4 rfl ?_
      refine z_get (v := .ref (b 39)) 0 f_X12_54_12 rfl rfl d_X12_sheet_88 ?_
      refine z_bipush (v := 40) d_X12_sheet_91 (by decide) ?_
      refine z_iload_n d_X12_sheet_93 3 rfl ?_
      refine z_imul d_X12_sheet_94 ?_
      refine z_iload d_X12_sheet_95 0 rfl ?_
      refine z_iadd d_X12_sheet_97 ?_
      refine z_iconst (v := 0) d_X12_sheet_98 (by decide) ?_
      refine z_iastN 13 (40 * j + k) (MW G b I (vf_upd A 39 (upd row (40 * j + k) 0)) J tw) rfl (by rw [i40, nI_mul, nI_add, nI_i (by omega)]) (by omega) rfl d_X12_sheet_99 ?_
      refine z_iinc (nI (k + 1)) [(4, .int (nI (k + 1))), (3, .int n0), (2, .int sort), (1, .int (nI j)), (0, .ref (b 0))] 0 d_X12_sheet_100 rfl (nI_1 _) (by decide) rfl ?_
      refine z_goto d_X12_sheet_103 ?_
      exact ih (k + 1) _ (by omega) (by omega) (by rw [itL, ← hrow]; rfl)
set_option maxHeartbeats 4000000 in
set_option maxRecDepth 100000 in
theorem t_X12_sheet (G : GT) (b : Nat → Nat) (I : Nat → Int32) (A : Nat → Nat → Int32) (J : Nat → Int32) (tw : Int64) (s : Int32) (sort : Int32) (n0 : Int32)  : Ct G mX12_sheet 2 0 0 [.ref (b 0), .int s, .int sort, .int n0] (MW G b I A J tw) (Pi (sheR s sort n0) (MW G b I (sheA A s sort n0) J tw)) := by
  refine Ct.intro [(0, .ref (b 0)), (1, .int s), (2, .int sort), (3, .int n0)] (by decide) rfl (Nat.le_of_ble_eq_true rfl) ?_
  refine z_iload_n d_X12_sheet_0 1 rfl ?_
  refine z_callSp c_X12_356 (t_X12_isSheet G s (MW G b I A J tw)) rfl rfl (Nat.le_of_ble_eq_true rfl) rfl d_X12_sheet_1 ?_
  refine z_if_eq d_X12_sheet_4 (fun c_4 => ?_) (fun c_4 => ?_)
  · have h9 : ¬ shP s sort n0 = true := by simp only [in_b, b01_0, b01_n0, L_m1, L_2, iB_m12] at *; simp [shP, *]
    refine z_bipush (v := -2) d_X12_sheet_31 (by decide) ?_
    exact z_iret _ d_X12_sheet_33 rfl (Pi.ofw (by rw [sheR, sheX, if_neg h9]) (by rw [sheA, sheX, if_neg h9]))
  · obtain ⟨j, hj, rfl⟩ := inB_nI (N := 3) (b01_n0.mp c_4)
    refine z_iload_n d_X12_sheet_7 2 rfl ?_
    refine z_i2l d_X12_sheet_8 ?_
    refine z_ldc2 d_X12_sheet_9 w_1216 ?_
    refine z_ldc2 d_X12_sheet_12 w_1427 ?_
    refine z_callSp c_X12_82 (t_X12_in G sort.toInt64 (-1) 2 (MW G b I A J tw)) rfl rfl (Nat.le_of_ble_eq_true rfl) rfl d_X12_sheet_15 ?_
    refine z_if_eq d_X12_sheet_18 (fun c_18 => ?_) (fun c_18 => ?_)
    · have h9 : ¬ shP (nI j) sort n0 = true := by simp only [in_b, b01_0, b01_n0, L_m1, L_2, iB_m12] at *; simp [shP, *]
      refine z_bipush (v := -2) d_X12_sheet_31 (by decide) ?_
      exact z_iret _ d_X12_sheet_33 rfl (Pi.ofw (by rw [sheR, sheX, if_neg h9]) (by rw [sheA, sheX, if_neg h9]))
    · refine z_iload_n d_X12_sheet_21 2 rfl ?_
      refine z_if_lt d_X12_sheet_22 (fun c_22 => ?_) (fun c_22 => ?_)
      · have h9 : shP (nI j) sort n0 = true := by simp only [in_b, b01_0, b01_n0, L_m1, L_2, iB_m12] at * <;> simp only [shP, *] <;> rfl
        refine z_iload_n d_X12_sheet_34 2 rfl ?_
        refine z_if_lt d_X12_sheet_35 (fun c_35 => ?_) (fun c_35 => ?_)
        rotate_left
        · exact absurd c_22 c_35
        refine z_aload_n d_X12_sheet_45 0 rfl ?_
        refine z_get (v := .ref (b 36)) 0 f_X12_44_12 rfl rfl d_X12_sheet_46 ?_
        refine z_iload_n d_X12_sheet_49 1 rfl ?_
        refine z_iload_n d_X12_sheet_50 2 rfl ?_
        refine z_if_lt d_X12_sheet_51 (fun c_51 => ?_) (fun c_51 => ?_)
        rotate_left
        · exact absurd c_22 c_51
        refine z_iconst (v := 0) d_X12_sheet_58 (by decide) ?_
        refine z_zastN 10 j (MW G b I (vf_upd A 36 (upd (A 36) j (vp_nar .boolean 0))) J tw) rfl (nI_toInt (by omega)) (by omega) (mw_36 G b I A J tw _) d_X12_sheet_59 ?_
        rw [nar_b0]
        refine z_aload_n d_X12_sheet_60 0 rfl ?_
        refine z_get (v := .ref (b 37)) 0 f_X12_48_12 rfl rfl d_X12_sheet_61 ?_
        refine z_iload_n d_X12_sheet_64 1 rfl ?_
        refine z_iload_n d_X12_sheet_65 2 rfl ?_
        refine z_iastN 11 j (MW G b I (vf_upd (vf_upd A 36 (upd (A 36) j 0)) 37 (upd (A 37) j sort)) J tw) rfl (nI_toInt (by omega)) (by omega) (mw_37 G b I (vf_upd A 36 (upd (A 36) j 0)) J tw _) d_X12_sheet_66 ?_
        refine z_aload_n d_X12_sheet_67 0 rfl ?_
        refine z_get (v := .ref (b 38)) 0 f_X12_51_12 rfl rfl d_X12_sheet_68 ?_
        refine z_iload_n d_X12_sheet_71 1 rfl ?_
        refine z_iload_n d_X12_sheet_72 3 rfl ?_
        refine z_iastN 12 j (MW G b I (vf_upd (vf_upd (vf_upd A 36 (upd (A 36) j 0)) 37 (upd (A 37) j sort)) 38 (upd (A 38) j n0)) J tw) rfl (nI_toInt (by omega)) (by omega) (mw_38 G b I (vf_upd (vf_upd A 36 (upd (A 36) j 0)) 37 (upd (A 37) j sort)) J tw _) d_X12_sheet_73 ?_
        refine z_iconst (v := 0) d_X12_sheet_74 (by decide) ?_
        refine z_istore [(4, .int 0), (0, .ref (b 0)), (1, .int (nI j)), (2, .int sort), (3, .int n0)] d_X12_sheet_75 (by decide) rfl ?_
        refine z_iload d_X12_sheet_77 0 rfl ?_
        refine z_iload_n d_X12_sheet_79 4 rfl ?_
        refine z_icmp_ge d_X12_sheet_80 (fun c_80 => ?_) (fun c_80 => ?_)
        · refine z_iconst (v := 1) d_X12_sheet_106 (by decide) ?_
          exact z_iret _ d_X12_sheet_107 rfl (Pi.ofw (by rw [sheR, sheX, if_pos h9, if_pos c_35]) (by rw [sheA, sheX, if_pos h9, if_pos c_35, nI_tn (by omega)]; rfl))
        · refine z_iload_n d_X12_sheet_83 3 rfl ?_
          refine z_if_lt d_X12_sheet_84 (fun c_84 => ?_) (fun c_84 => ?_)
          rotate_left
          · exact absurd c_22 c_84
          refine z_iconst (v := 1) d_X12_sheet_106 (by decide) ?_
          exact z_iret _ d_X12_sheet_107 rfl (Pi.ofw (by rw [sheR, sheX, if_pos h9, if_pos c_35]) (by rw [sheA, sheX, if_pos h9, if_pos c_35, nI_tn (by omega)]; rfl))
      · refine z_iload_n d_X12_sheet_25 3 rfl ?_
        refine z_bipush (v := 40) d_X12_sheet_26 (by decide) ?_
        refine z_icmp_le d_X12_sheet_28 (fun c_28 => ?_) (fun c_28 => ?_)
        · have h9 : shP (nI j) sort n0 = true := by simp only [in_b, b01_0, b01_n0, L_m1, L_2, iB_m12] at * <;> simp only [shP, *] <;> rfl
          refine z_iload_n d_X12_sheet_34 2 rfl ?_
          refine z_if_lt d_X12_sheet_35 (fun c_35 => ?_) (fun c_35 => ?_)
          · exact absurd c_35 c_22
          refine z_iload_n d_X12_sheet_38 3 rfl ?_
          refine z_if_ge d_X12_sheet_39 (fun c_39 => ?_) (fun c_39 => ?_)
          · refine z_aload_n d_X12_sheet_45 0 rfl ?_
            refine z_get (v := .ref (b 36)) 0 f_X12_44_12 rfl rfl d_X12_sheet_46 ?_
            refine z_iload_n d_X12_sheet_49 1 rfl ?_
            refine z_iload_n d_X12_sheet_50 2 rfl ?_
            refine z_if_lt d_X12_sheet_51 (fun c_51 => ?_) (fun c_51 => ?_)
            · exact absurd c_51 c_22
            refine z_iconst (v := 1) d_X12_sheet_54 (by decide) ?_
            refine z_goto d_X12_sheet_55 ?_
            refine z_zastN 10 j (MW G b I (vf_upd A 36 (upd (A 36) j (vp_nar .boolean 1))) J tw) rfl (nI_toInt (by omega)) (by omega) (mw_36 G b I A J tw _) d_X12_sheet_59 ?_
            rw [nar_b1]
            refine z_aload_n d_X12_sheet_60 0 rfl ?_
            refine z_get (v := .ref (b 37)) 0 f_X12_48_12 rfl rfl d_X12_sheet_61 ?_
            refine z_iload_n d_X12_sheet_64 1 rfl ?_
            refine z_iload_n d_X12_sheet_65 2 rfl ?_
            refine z_iastN 11 j (MW G b I (vf_upd (vf_upd A 36 (upd (A 36) j 1)) 37 (upd (A 37) j sort)) J tw) rfl (nI_toInt (by omega)) (by omega) (mw_37 G b I (vf_upd A 36 (upd (A 36) j 1)) J tw _) d_X12_sheet_66 ?_
            refine z_aload_n d_X12_sheet_67 0 rfl ?_
            refine z_get (v := .ref (b 38)) 0 f_X12_51_12 rfl rfl d_X12_sheet_68 ?_
            refine z_iload_n d_X12_sheet_71 1 rfl ?_
            refine z_iload_n d_X12_sheet_72 3 rfl ?_
            refine z_iastN 12 j (MW G b I (vf_upd (vf_upd (vf_upd A 36 (upd (A 36) j 1)) 37 (upd (A 37) j sort)) 38 (upd (A 38) j n0)) J tw) rfl (nI_toInt (by omega)) (by omega) (mw_38 G b I (vf_upd (vf_upd A 36 (upd (A 36) j 1)) 37 (upd (A 37) j sort)) J tw _) d_X12_sheet_73 ?_
            refine z_iconst (v := 0) d_X12_sheet_74 (by decide) ?_
            refine z_istore [(4, .int 0), (0, .ref (b 0)), (1, .int (nI j)), (2, .int sort), (3, .int n0)] d_X12_sheet_75 (by decide) rfl ?_
            refine z_perm [0, 4, 3, 2, 1] rfl ?_
            rw [sheR, sheX, if_pos h9, if_neg c_35, if_neg c_39, sheA, sheX, if_pos h9, if_neg c_35, if_neg c_39, nI_tn (by omega)]
            have e9 := l_X12_sheet G b I (shT A j sort n0 1) J tw j sort n0 hj c_35 (by have e8 := c_28; rw [lt_i, show (40 : Int32).toInt = 40 from by decide] at e8; omega) (n0.toInt.toNat + 1) 0 (A 39) (by omega) (by omega) rfl
            rw [show vf_upd (shT A j sort n0 1) 39 (A 39) = shT A j sort n0 1 from vf_self _ 39] at e9
            exact e9
          · refine z_bipush (v := -14) d_X12_sheet_42 (by decide) ?_
            exact z_iret _ d_X12_sheet_44 rfl (Pi.ofw (by rw [sheR, sheX, if_pos h9, if_neg c_35, if_pos c_39]) (by rw [sheA, sheX, if_pos h9, if_neg c_35, if_pos c_39]))
        · have h9 : ¬ shP (nI j) sort n0 = true := by simp only [in_b, b01_0, b01_n0, L_m1, L_2, iB_m12] at *; simp [shP, *]
          refine z_bipush (v := -2) d_X12_sheet_31 (by decide) ?_
          exact z_iret _ d_X12_sheet_33 rfl (Pi.ofw (by rw [sheR, sheX, if_neg h9]) (by rw [sheA, sheX, if_neg h9]))
def ceV (sort v : Int32) : Int32 := if sort = 0 then v.toInt8.toInt32 else if sort = 1 then v.toInt16.toInt32 else v
def ceO (A : Nat → Nat → Int32) (j : Nat) (i : Int32) : Bool := decide (0 ≤ i.toInt) && decide (i.toInt ≤ (A 38 j - 1).toInt)
def celX {α : Type} (A : Nat → Nat → Int32) (s i : Int32) (bad none off fine : α) : α := if inB s 0 3 = true then (if A 36 s.toInt.toNat = 0 then none else if ceO A s.toInt.toNat i = true then fine else off) else bad
def celR (A : Nat → Nat → Int32) (s i : Int32) : Int32 := celX A s i (-2) (-11) (-12) 1
def celA (A : Nat → Nat → Int32) (s i v : Int32) : Nat → Nat → Int32 := celX A s i A A A (vf_upd A 39 (upd (A 39) (40 * s.toInt.toNat + i.toInt.toNat) (ceV (A 37 s.toInt.toNat) v)))
set_option maxHeartbeats 4000000 in
set_option maxRecDepth 100000 in
theorem t_X12_cell (G : GT) (b : Nat → Nat) (I : Nat → Int32) (A : Nat → Nat → Int32) (J : Nat → Int32) (tw : Int64) (s : Int32) (i : Int32) (v : Int32) (hSh : ShOk A) : Ct G mX12_cell 2 0 0 [.ref (b 0), .int s, .int i, .int v] (MW G b I A J tw) (Pi (celR A s i) (MW G b I (celA A s i v) J tw)) := by
  refine Ct.intro [(0, .ref (b 0)), (1, .int s), (2, .int i), (3, .int v)] (by decide) rfl (Nat.le_of_ble_eq_true rfl) ?_
  refine z_iload_n d_X12_cell_0 1 rfl ?_
  refine z_callSp c_X12_356 (t_X12_isSheet G s (MW G b I A J tw)) rfl rfl (Nat.le_of_ble_eq_true rfl) rfl d_X12_cell_1 ?_
  refine z_if_ne d_X12_cell_4 (fun c_4 => ?_) (fun c_4 => ?_)
  · have h4 := b01_n0.mp c_4
    obtain ⟨j, hj, rfl⟩ := inB_nI (N := 3) (b01_n0.mp c_4)
    refine z_aload_n d_X12_cell_10 0 rfl ?_
    refine z_get (v := .ref (b 36)) 0 f_X12_44_12 rfl rfl d_X12_cell_11 ?_
    refine z_iload_n d_X12_cell_14 1 rfl ?_
    refine z_zaldN 10 j rfl (nI_toInt (by omega)) (by omega) d_X12_cell_15 ?_
    refine z_if_ne d_X12_cell_16 (fun c_16 => ?_) (fun c_16 => ?_)
    · refine z_iload_n d_X12_cell_22 2 rfl ?_
      refine z_i2l d_X12_cell_23 ?_
      refine z_lconst (v := 0) d_X12_cell_24 (by decide) ?_
      refine z_aload_n d_X12_cell_25 0 rfl ?_
      refine z_get (v := .ref (b 38)) 0 f_X12_51_12 rfl rfl d_X12_cell_26 ?_
      refine z_iload_n d_X12_cell_29 1 rfl ?_
      refine z_ialdN 12 j rfl (nI_toInt (by omega)) (by omega) d_X12_cell_30 ?_
      refine z_iconst (v := 1) d_X12_cell_31 (by decide) ?_
      refine z_isub d_X12_cell_32 ?_
      refine z_i2l d_X12_cell_33 ?_
      refine z_callSp c_X12_82 (t_X12_in G i.toInt64 0 ((((A 38) j) - 1).toInt64) (MW G b I A J tw)) rfl rfl (Nat.le_of_ble_eq_true rfl) rfl d_X12_cell_34 ?_
      refine z_if_ne d_X12_cell_37 (fun c_37 => ?_) (fun c_37 => ?_)
      · have h9 : ceO A j i = true := by rw [in_b, b01_n0, L_0, Int32.toInt_toInt64] at c_37; exact c_37
        obtain ⟨q, hq, rfl⟩ : ∃ q : Nat, q < 40 ∧ i = nI q := by
          have e8 := hSh j hj c_16
          rw [ceO, Bool.and_eq_true, decide_eq_true_eq, decide_eq_true_eq, sub_i (by rw [i_1]; omega) (by rw [i_1]; omega), i_1] at h9
          exact ⟨i.toInt.toNat, by omega, eq_nI (by omega)⟩
        refine z_aload_n d_X12_cell_43 0 rfl ?_
        refine z_get (v := .ref (b 39)) 0 f_X12_54_12 rfl rfl d_X12_cell_44 ?_
        refine z_bipush (v := 40) d_X12_cell_47 (by decide) ?_
        refine z_iload_n d_X12_cell_49 1 rfl ?_
        refine z_imul d_X12_cell_50 ?_
        refine z_iload_n d_X12_cell_51 2 rfl ?_
        refine z_iadd d_X12_cell_52 ?_
        refine z_aload_n d_X12_cell_53 0 rfl ?_
        refine z_get (v := .ref (b 37)) 0 f_X12_48_12 rfl rfl d_X12_cell_54 ?_
        refine z_iload_n d_X12_cell_57 1 rfl ?_
        refine z_ialdN 11 j rfl (nI_toInt (by omega)) (by omega) d_X12_cell_58 ?_
        refine z_if_ne d_X12_cell_59 (fun c_59 => ?_) (fun c_59 => ?_)
        · refine z_aload_n d_X12_cell_67 0 rfl ?_
          refine z_get (v := .ref (b 37)) 0 f_X12_48_12 rfl rfl d_X12_cell_68 ?_
          refine z_iload_n d_X12_cell_71 1 rfl ?_
          refine z_ialdN 11 j rfl (nI_toInt (by omega)) (by omega) d_X12_cell_72 ?_
          refine z_iconst (v := 1) d_X12_cell_73 (by decide) ?_
          refine z_icmp_ne d_X12_cell_74 (fun c_74 => ?_) (fun c_74 => ?_)
          · refine z_iload_n d_X12_cell_82 3 rfl ?_
            refine z_iastN 13 (40 * j + q) (MW G b I (vf_upd A 39 (upd (A 39) (40 * j + q) v)) J tw) rfl (by rw [i40, nI_mul, nI_add, nI_i (by omega)]) (by omega) (mw_39 G b I A J tw _) d_X12_cell_83 ?_
            refine z_iconst (v := 1) d_X12_cell_84 (by decide) ?_
            exact z_iret _ d_X12_cell_85 rfl (Pi.ofw (by rw [celR, celX, if_pos h4, nI_tn (by omega), if_neg c_16, if_pos h9]) (by rw [celA, celX, if_pos h4, nI_tn (by omega), if_neg c_16, if_pos h9, nI_tn (by omega), ceV, if_neg c_59, if_neg c_74]))
          · refine z_iload_n d_X12_cell_77 3 rfl ?_
            refine z_i2s d_X12_cell_78 ?_
            refine z_goto d_X12_cell_79 ?_
            refine z_iastN 13 (40 * j + q) (MW G b I (vf_upd A 39 (upd (A 39) (40 * j + q) v.toInt16.toInt32)) J tw) rfl (by rw [i40, nI_mul, nI_add, nI_i (by omega)]) (by omega) (mw_39 G b I A J tw _) d_X12_cell_83 ?_
            refine z_iconst (v := 1) d_X12_cell_84 (by decide) ?_
            exact z_iret _ d_X12_cell_85 rfl (Pi.ofw (by rw [celR, celX, if_pos h4, nI_tn (by omega), if_neg c_16, if_pos h9]) (by rw [celA, celX, if_pos h4, nI_tn (by omega), if_neg c_16, if_pos h9, nI_tn (by omega), ceV, if_neg c_59, if_pos c_74]))
        · refine z_iload_n d_X12_cell_62 3 rfl ?_
          refine z_i2b d_X12_cell_63 ?_
          refine z_goto d_X12_cell_64 ?_
          refine z_iastN 13 (40 * j + q) (MW G b I (vf_upd A 39 (upd (A 39) (40 * j + q) v.toInt8.toInt32)) J tw) rfl (by rw [i40, nI_mul, nI_add, nI_i (by omega)]) (by omega) (mw_39 G b I A J tw _) d_X12_cell_83 ?_
          refine z_iconst (v := 1) d_X12_cell_84 (by decide) ?_
          exact z_iret _ d_X12_cell_85 rfl (Pi.ofw (by rw [celR, celX, if_pos h4, nI_tn (by omega), if_neg c_16, if_pos h9]) (by rw [celA, celX, if_pos h4, nI_tn (by omega), if_neg c_16, if_pos h9, nI_tn (by omega), ceV, if_pos c_59]))
      · have h9 : ¬ ceO A j i = true := by rw [in_b, b01_0, L_0, Int32.toInt_toInt64] at c_37; exact fun e => absurd (e.symm.trans c_37) (by decide)
        refine z_bipush (v := -12) d_X12_cell_40 (by decide) ?_
        exact z_iret _ d_X12_cell_42 rfl (Pi.ofw (by rw [celR, celX, if_pos h4, nI_tn (by omega), if_neg c_16, if_neg h9]) (by rw [celA, celX, if_pos h4, nI_tn (by omega), if_neg c_16, if_neg h9]))
    · refine z_bipush (v := -11) d_X12_cell_19 (by decide) ?_
      exact z_iret _ d_X12_cell_21 rfl (Pi.ofw (by rw [celR, celX, if_pos h4, nI_tn (by omega), if_pos c_16]) (by rw [celA, celX, if_pos h4, nI_tn (by omega), if_pos c_16]))
  · have h4 : ¬ inB s 0 3 = true := fun e => absurd (e.symm.trans (b01_0.mp c_4)) (by decide)
    refine z_bipush (v := -2) d_X12_cell_7 (by decide) ?_
    exact z_iret _ d_X12_cell_9 rfl (Pi.ofw (by rw [celR, celX, if_neg h4]) (by rw [celA, celX, if_neg h4]))
def copX {α : Type} (A : Nat → Nat → Int32) (s i o j n0 : Int32) (bad none sort off fine : α) : α := if inB s 0 3 = true then (if inB o 0 3 = true then (if A 36 s.toInt.toNat = 0 then none else if A 36 o.toInt.toNat = 0 then none else if A 37 s.toInt.toNat = A 37 o.toInt.toNat then (if n0 < 0 then off else if i < 0 then off else if j < 0 then off else if A 38 s.toInt.toNat - n0 < i then off else if A 38 o.toInt.toNat - n0 < j then off else fine) else sort) else bad) else bad
def cpQ (u : Int32) (m k : Nat) : Nat := if u = 0 then k else m - 1 - k
def cpF (u : Int32) (s i o j m : Nat) (k : Nat) (row : Nat → Int32) : Nat → Int32 := upd row (40 * o + j + cpQ u m k) (row (40 * s + i + cpQ u m k))
def cpU (s i o j : Int32) : Int32 := if s = o then (if i < j then 1 else 0) else 0
def copR (A : Nat → Nat → Int32) (s i o j n0 : Int32) : Int32 := copX A s i o j n0 (-2) (-11) (-13) (-12) n0
def copA (A : Nat → Nat → Int32) (s i o j n0 : Int32) : Nat → Nat → Int32 := copX A s i o j n0 A A A A (vf_upd A 39 (itL (cpF (cpU s i o j) s.toInt.toNat i.toInt.toNat o.toInt.toNat j.toInt.toNat n0.toInt.toNat) (A 39) n0.toInt.toNat))
set_option maxHeartbeats 4000000 in
set_option maxRecDepth 100000 in
theorem l_X12_copy (G : GT) (b : Nat → Nat) (I : Nat → Int32) (A : Nat → Nat → Int32) (J : Nat → Int32) (tw : Int64) (u : Int32) (s i o j m : Nat) (hs : s < 4) (ho : o < 4) (hi : i + m ≤ 40) (hj : j + m ≤ 40) : ∀ (n : Nat)  (k : Nat) (row : Nat → Int32) (hk : k ≤ m) (hm : m < k + n) (hrow : row = itL (cpF u s i o j m) (A 39) k), Tr G mX12_copy (Rm 2 0 0) (OM G (Pi (nI m) (MW G b I (vf_upd A 39 (itL (cpF u s i o j m) (A 39) m)) J tw)) 0 0) 0 0 121 [(7, .int (nI k)), (6, .int u), (5, .int (nI m)), (4, .int (nI j)), (3, .int (nI o)), (2, .int (nI i)), (1, .int (nI s)), (0, .ref (b 0))] [] (MW G b I (vf_upd A 39 row) J tw) := by
  intro n
  induction n with
  | zero =>
    intro k row hk hm hrow
    exact absurd hm (by omega)
  | succ n ih =>
    intro k row hk hm hrow
    refine z_iload d_X12_copy_121 0 rfl ?_
    refine z_iload d_X12_copy_123 2 rfl ?_
    refine z_icmp_ge d_X12_copy_125 (fun c_125 => ?_) (fun c_125 => ?_)
    · refine z_iload d_X12_copy_182 2 rfl ?_
      exact z_iret _ d_X12_copy_184 rfl (by have e9 : k = m := (by rw [nI_ltI (by omega) (by omega)] at c_125; omega); subst hrow; subst e9; exact Pi.ofw rfl rfl)
    · have h9 : k < m := (nI_ltI (by omega) (by omega)).mp c_125
      refine z_iload d_X12_copy_128 1 rfl ?_
      refine z_if_eq d_X12_copy_130 (fun c_130 => ?_) (fun c_130 => ?_)
      · refine z_iload d_X12_copy_143 0 rfl ?_
        refine z_istore [(8, .int (nI k)), (7, .int (nI k)), (6, .int u), (5, .int (nI m)), (4, .int (nI j)), (3, .int (nI o)), (2, .int (nI i)), (1, .int (nI s)), (0, .ref (b 0))] d_X12_copy_145 (by decide) rfl ?_
        refine z_aload_n d_X12_copy_147 8 rfl ?_
        refine z_get (v := .ref (b 39)) 0 f_X12_54_12 rfl rfl d_X12_copy_148 ?_
        refine z_bipush (v := 40) d_X12_copy_151 (by decide) ?_
        refine z_iload_n d_X12_copy_153 5 rfl ?_
        refine z_imul d_X12_copy_154 ?_
        refine z_iload d_X12_copy_155 4 rfl ?_
        refine z_iadd d_X12_copy_157 ?_
        refine z_iload d_X12_copy_158 0 rfl ?_
        refine z_iadd d_X12_copy_160 ?_
        refine z_aload_n d_X12_copy_161 8 rfl ?_
        refine z_get (v := .ref (b 39)) 0 f_X12_54_12 rfl rfl d_X12_copy_162 ?_
        refine z_bipush (v := 40) d_X12_copy_165 (by decide) ?_
        refine z_iload_n d_X12_copy_167 7 rfl ?_
        refine z_imul d_X12_copy_168 ?_
        refine z_iload_n d_X12_copy_169 6 rfl ?_
        refine z_iadd d_X12_copy_170 ?_
        refine z_iload d_X12_copy_171 0 rfl ?_
        refine z_iadd d_X12_copy_173 ?_
        refine z_ialdN 13 (40 * s + i + k) rfl (by rw [i40, nI_mul, nI_add, nI_add, nI_i (by omega)]) (by omega) d_X12_copy_174 ?_
        refine z_iastN 13 (40 * o + j + k) (MW G b I (vf_upd A 39 (upd row (40 * o + j + k) (row (40 * s + i + k)))) J tw) rfl (by rw [i40, nI_mul, nI_add, nI_add, nI_i (by omega)]) (by omega) rfl d_X12_copy_175 ?_
        refine z_iinc (nI (k + 1)) [(7, .int (nI (k + 1))), (8, .int (nI k)), (6, .int u), (5, .int (nI m)), (4, .int (nI j)), (3, .int (nI o)), (2, .int (nI i)), (1, .int (nI s)), (0, .ref (b 0))] 1 d_X12_copy_176 rfl (nI_1 _) (by decide) rfl ?_
        refine z_goto d_X12_copy_179 ?_
        refine z_perm [0, 2, 3, 4, 5, 6, 7, 8] rfl ?_
        exact ih (k + 1) _ (by omega) (by omega) (by rw [itL, ← hrow, cpF, cpQ, if_pos c_130])
      · refine z_iload d_X12_copy_133 2 rfl ?_
        refine z_iconst (v := 1) d_X12_copy_135 (by decide) ?_
        refine z_isub d_X12_copy_136 ?_
        refine z_iload d_X12_copy_137 0 rfl ?_
        refine z_isub d_X12_copy_139 ?_
        refine z_goto d_X12_copy_140 ?_
        refine z_istore [(8, .int (((nI m) - 1) - (nI k))), (7, .int (nI k)), (6, .int u), (5, .int (nI m)), (4, .int (nI j)), (3, .int (nI o)), (2, .int (nI i)), (1, .int (nI s)), (0, .ref (b 0))] d_X12_copy_145 (by decide) rfl ?_
        refine z_aload_n d_X12_copy_147 8 rfl ?_
        refine z_get (v := .ref (b 39)) 0 f_X12_54_12 rfl rfl d_X12_copy_148 ?_
        refine z_bipush (v := 40) d_X12_copy_151 (by decide) ?_
        refine z_iload_n d_X12_copy_153 5 rfl ?_
        refine z_imul d_X12_copy_154 ?_
        refine z_iload d_X12_copy_155 4 rfl ?_
        refine z_iadd d_X12_copy_157 ?_
        refine z_iload d_X12_copy_158 0 rfl ?_
        refine z_iadd d_X12_copy_160 ?_
        refine z_aload_n d_X12_copy_161 8 rfl ?_
        refine z_get (v := .ref (b 39)) 0 f_X12_54_12 rfl rfl d_X12_copy_162 ?_
        refine z_bipush (v := 40) d_X12_copy_165 (by decide) ?_
        refine z_iload_n d_X12_copy_167 7 rfl ?_
        refine z_imul d_X12_copy_168 ?_
        refine z_iload_n d_X12_copy_169 6 rfl ?_
        refine z_iadd d_X12_copy_170 ?_
        refine z_iload d_X12_copy_171 0 rfl ?_
        refine z_iadd d_X12_copy_173 ?_
        refine z_ialdN 13 (40 * s + i + (m - 1 - k)) rfl (by rw [i40, nI_mul, nI_add, show (1 : Int32) = nI 1 from rfl, nI_sub (by omega), nI_sub (by omega), nI_add, nI_i (by omega)]) (by omega) d_X12_copy_174 ?_
        refine z_iastN 13 (40 * o + j + (m - 1 - k)) (MW G b I (vf_upd A 39 (upd row (40 * o + j + (m - 1 - k)) (row (40 * s + i + (m - 1 - k))))) J tw) rfl (by rw [i40, nI_mul, nI_add, show (1 : Int32) = nI 1 from rfl, nI_sub (by omega), nI_sub (by omega), nI_add, nI_i (by omega)]) (by omega) rfl d_X12_copy_175 ?_
        refine z_iinc (nI (k + 1)) [(7, .int (nI (k + 1))), (8, .int (((nI m) - 1) - (nI k))), (6, .int u), (5, .int (nI m)), (4, .int (nI j)), (3, .int (nI o)), (2, .int (nI i)), (1, .int (nI s)), (0, .ref (b 0))] 1 d_X12_copy_176 rfl (nI_1 _) (by decide) rfl ?_
        refine z_goto d_X12_copy_179 ?_
        refine z_perm [0, 2, 3, 4, 5, 6, 7, 8] rfl ?_
        exact ih (k + 1) _ (by omega) (by omega) (by rw [itL, ← hrow, cpF, cpQ, if_neg c_130])
set_option maxHeartbeats 4000000 in
set_option maxRecDepth 100000 in
theorem t_X12_copy (G : GT) (b : Nat → Nat) (I : Nat → Int32) (A : Nat → Nat → Int32) (J : Nat → Int32) (tw : Int64) (s : Int32) (i : Int32) (o : Int32) (j0 : Int32) (n0 : Int32) (hSh : ShOk A) : Ct G mX12_copy 2 0 0 [.ref (b 0), .int s, .int i, .int o, .int j0, .int n0] (MW G b I A J tw) (Pi (copR A s i o j0 n0) (MW G b I (copA A s i o j0 n0) J tw)) := by
  refine Ct.intro [(0, .ref (b 0)), (1, .int s), (2, .int i), (3, .int o), (4, .int j0), (5, .int n0)] (by decide) rfl (Nat.le_of_ble_eq_true rfl) ?_
  refine z_iload_n d_X12_copy_0 1 rfl ?_
  refine z_callSp c_X12_356 (t_X12_isSheet G s (MW G b I A J tw)) rfl rfl (Nat.le_of_ble_eq_true rfl) rfl d_X12_copy_1 ?_
  refine z_if_eq d_X12_copy_4 (fun c_4 => ?_) (fun c_4 => ?_)
  · have h4 : ¬ inB s 0 3 = true := fun e => absurd (e.symm.trans (b01_0.mp c_4)) (by decide)
    refine z_bipush (v := -2) d_X12_copy_14 (by decide) ?_
    exact z_iret _ d_X12_copy_16 rfl (Pi.ofw (by rw [copR, copX, if_neg h4]) (by rw [copA, copX, if_neg h4]))
  · have h4 := b01_n0.mp c_4
    obtain ⟨j, hj, rfl⟩ := inB_nI (N := 3) (b01_n0.mp c_4)
    refine z_iload_n d_X12_copy_7 3 rfl ?_
    refine z_callSp c_X12_356 (t_X12_isSheet G o (MW G b I A J tw)) rfl rfl (Nat.le_of_ble_eq_true rfl) rfl d_X12_copy_8 ?_
    refine z_if_ne d_X12_copy_11 (fun c_11 => ?_) (fun c_11 => ?_)
    · have h11 := b01_n0.mp c_11
      obtain ⟨jo, hjo, rfl⟩ := inB_nI (N := 3) (b01_n0.mp c_11)
      refine z_aload_n d_X12_copy_17 0 rfl ?_
      refine z_get (v := .ref (b 36)) 0 f_X12_44_12 rfl rfl d_X12_copy_18 ?_
      refine z_iload_n d_X12_copy_21 1 rfl ?_
      refine z_zaldN 10 j rfl (nI_toInt (by omega)) (by omega) d_X12_copy_22 ?_
      refine z_if_eq d_X12_copy_23 (fun c_23 => ?_) (fun c_23 => ?_)
      · refine z_bipush (v := -11) d_X12_copy_35 (by decide) ?_
        exact z_iret _ d_X12_copy_37 rfl (Pi.ofw (by rw [copR, copX, if_pos h4, if_pos h11, nI_tn (by omega), if_pos c_23]) (by rw [copA, copX, if_pos h4, if_pos h11, nI_tn (by omega), if_pos c_23]))
      · refine z_aload_n d_X12_copy_26 0 rfl ?_
        refine z_get (v := .ref (b 36)) 0 f_X12_44_12 rfl rfl d_X12_copy_27 ?_
        refine z_iload_n d_X12_copy_30 3 rfl ?_
        refine z_zaldN 10 jo rfl (nI_toInt (by omega)) (by omega) d_X12_copy_31 ?_
        refine z_if_ne d_X12_copy_32 (fun c_32 => ?_) (fun c_32 => ?_)
        · refine z_aload_n d_X12_copy_38 0 rfl ?_
          refine z_get (v := .ref (b 37)) 0 f_X12_48_12 rfl rfl d_X12_copy_39 ?_
          refine z_iload_n d_X12_copy_42 1 rfl ?_
          refine z_ialdN 11 j rfl (nI_toInt (by omega)) (by omega) d_X12_copy_43 ?_
          refine z_aload_n d_X12_copy_44 0 rfl ?_
          refine z_get (v := .ref (b 37)) 0 f_X12_48_12 rfl rfl d_X12_copy_45 ?_
          refine z_iload_n d_X12_copy_48 3 rfl ?_
          refine z_ialdN 11 jo rfl (nI_toInt (by omega)) (by omega) d_X12_copy_49 ?_
          refine z_icmp_eq d_X12_copy_50 (fun c_50 => ?_) (fun c_50 => ?_)
          · refine z_iload d_X12_copy_56 5 rfl ?_
            refine z_if_lt d_X12_copy_58 (fun c_58 => ?_) (fun c_58 => ?_)
            · refine z_bipush (v := -12) d_X12_copy_97 (by decide) ?_
              exact z_iret _ d_X12_copy_99 rfl (Pi.ofw (by rw [copR, copX, if_pos h4, if_pos h11, nI_tn (by omega), if_neg c_23, nI_tn (by omega), if_neg c_32, if_pos c_50, if_pos c_58]) (by rw [copA, copX, if_pos h4, if_pos h11, nI_tn (by omega), if_neg c_23, nI_tn (by omega), if_neg c_32, if_pos c_50, if_pos c_58]))
            · refine z_iload_n d_X12_copy_61 2 rfl ?_
              refine z_if_lt d_X12_copy_62 (fun c_62 => ?_) (fun c_62 => ?_)
              · refine z_bipush (v := -12) d_X12_copy_97 (by decide) ?_
                exact z_iret _ d_X12_copy_99 rfl (Pi.ofw (by rw [copR, copX, if_pos h4, if_pos h11, nI_tn (by omega), if_neg c_23, nI_tn (by omega), if_neg c_32, if_pos c_50, if_neg c_58, if_pos c_62]) (by rw [copA, copX, if_pos h4, if_pos h11, nI_tn (by omega), if_neg c_23, nI_tn (by omega), if_neg c_32, if_pos c_50, if_neg c_58, if_pos c_62]))
              · refine z_iload d_X12_copy_65 4 rfl ?_
                refine z_if_lt d_X12_copy_67 (fun c_67 => ?_) (fun c_67 => ?_)
                · refine z_bipush (v := -12) d_X12_copy_97 (by decide) ?_
                  exact z_iret _ d_X12_copy_99 rfl (Pi.ofw (by rw [copR, copX, if_pos h4, if_pos h11, nI_tn (by omega), if_neg c_23, nI_tn (by omega), if_neg c_32, if_pos c_50, if_neg c_58, if_neg c_62, if_pos c_67]) (by rw [copA, copX, if_pos h4, if_pos h11, nI_tn (by omega), if_neg c_23, nI_tn (by omega), if_neg c_32, if_pos c_50, if_neg c_58, if_neg c_62, if_pos c_67]))
                · refine z_iload_n d_X12_copy_70 2 rfl ?_
                  refine z_aload_n d_X12_copy_71 0 rfl ?_
                  refine z_get (v := .ref (b 38)) 0 f_X12_51_12 rfl rfl d_X12_copy_72 ?_
                  refine z_iload_n d_X12_copy_75 1 rfl ?_
                  refine z_ialdN 12 j rfl (nI_toInt (by omega)) (by omega) d_X12_copy_76 ?_
                  refine z_iload d_X12_copy_77 5 rfl ?_
                  refine z_isub d_X12_copy_79 ?_
                  refine z_icmp_gt d_X12_copy_80 (fun c_80 => ?_) (fun c_80 => ?_)
                  · refine z_bipush (v := -12) d_X12_copy_97 (by decide) ?_
                    exact z_iret _ d_X12_copy_99 rfl (Pi.ofw (by rw [copR, copX, if_pos h4, if_pos h11, nI_tn (by omega), if_neg c_23, nI_tn (by omega), if_neg c_32, if_pos c_50, if_neg c_58, if_neg c_62, if_neg c_67, if_pos c_80]) (by rw [copA, copX, if_pos h4, if_pos h11, nI_tn (by omega), if_neg c_23, nI_tn (by omega), if_neg c_32, if_pos c_50, if_neg c_58, if_neg c_62, if_neg c_67, if_pos c_80]))
                  · refine z_iload d_X12_copy_83 4 rfl ?_
                    refine z_aload_n d_X12_copy_85 0 rfl ?_
                    refine z_get (v := .ref (b 38)) 0 f_X12_51_12 rfl rfl d_X12_copy_86 ?_
                    refine z_iload_n d_X12_copy_89 3 rfl ?_
                    refine z_ialdN 12 jo rfl (nI_toInt (by omega)) (by omega) d_X12_copy_90 ?_
                    refine z_iload d_X12_copy_91 5 rfl ?_
                    refine z_isub d_X12_copy_93 ?_
                    refine z_icmp_le d_X12_copy_94 (fun c_94 => ?_) (fun c_94 => ?_)
                    · obtain ⟨m, hm9, rfl⟩ := nI_of c_58
                      obtain ⟨i1, hi1, rfl⟩ := nI_of c_62
                      obtain ⟨j1, hj1, rfl⟩ := nI_of c_67
                      have hb1 : i1 + m ≤ 40 := by have e8 := hSh j hj c_23; rw [lt_i, sub_i (by rw [nI_i (by omega)]; omega) (by rw [nI_i (by omega)]; omega), nI_i (by omega), nI_i (by omega)] at c_80; omega
                      have hb2 : j1 + m ≤ 40 := by have e8 := hSh jo hjo c_32; rw [lt_i, sub_i (by rw [nI_i (by omega)]; omega) (by rw [nI_i (by omega)]; omega), nI_i (by omega), nI_i (by omega)] at c_94; omega
                      refine z_iload_n d_X12_copy_100 1 rfl ?_
                      refine z_iload_n d_X12_copy_101 3 rfl ?_
                      refine z_icmp_ne d_X12_copy_102 (fun c_102 => ?_) (fun c_102 => ?_)
                      · refine z_iconst (v := 0) d_X12_copy_115 (by decide) ?_
                        refine z_istore [(6, .int 0), (0, .ref (b 0)), (1, .int (nI j)), (2, .int (nI i1)), (3, .int (nI jo)), (4, .int (nI j1)), (5, .int (nI m))] d_X12_copy_116 (by decide) rfl ?_
                        refine z_iconst (v := 0) d_X12_copy_118 (by decide) ?_
                        refine z_istore [(7, .int 0), (6, .int 0), (0, .ref (b 0)), (1, .int (nI j)), (2, .int (nI i1)), (3, .int (nI jo)), (4, .int (nI j1)), (5, .int (nI m))] d_X12_copy_119 (by decide) rfl ?_
                        refine z_perm [0, 1, 7, 6, 5, 4, 3, 2] rfl ?_
                        rw [copR, copX, if_pos h4, if_pos h11, nI_tn (by omega), if_neg c_23, nI_tn (by omega), if_neg c_32, if_pos c_50, if_neg c_58, if_neg c_62, if_neg c_67, if_neg c_80, if_neg c_94, copA, copX, if_pos h4, if_pos h11, nI_tn (by omega), if_neg c_23, nI_tn (by omega), if_neg c_32, if_pos c_50, if_neg c_58, if_neg c_62, if_neg c_67, if_neg c_80, if_neg c_94, nI_tn (by omega), nI_tn (by omega), nI_tn (by omega), cpU, if_neg c_102]
                        have e9 := l_X12_copy G b I A J tw 0 j i1 jo j1 m hj hjo hb1 hb2 (m + 1) 0 (A 39) (by omega) (by omega) rfl
                        rw [vf_self A 39] at e9
                        exact e9
                      · refine z_iload_n d_X12_copy_105 2 rfl ?_
                        refine z_iload d_X12_copy_106 4 rfl ?_
                        refine z_icmp_ge d_X12_copy_108 (fun c_108 => ?_) (fun c_108 => ?_)
                        · refine z_iconst (v := 0) d_X12_copy_115 (by decide) ?_
                          refine z_istore [(6, .int 0), (0, .ref (b 0)), (1, .int (nI j)), (2, .int (nI i1)), (3, .int (nI jo)), (4, .int (nI j1)), (5, .int (nI m))] d_X12_copy_116 (by decide) rfl ?_
                          refine z_iconst (v := 0) d_X12_copy_118 (by decide) ?_
                          refine z_istore [(7, .int 0), (6, .int 0), (0, .ref (b 0)), (1, .int (nI j)), (2, .int (nI i1)), (3, .int (nI jo)), (4, .int (nI j1)), (5, .int (nI m))] d_X12_copy_119 (by decide) rfl ?_
                          refine z_perm [0, 1, 7, 6, 5, 4, 3, 2] rfl ?_
                          rw [copR, copX, if_pos h4, if_pos h11, nI_tn (by omega), if_neg c_23, nI_tn (by omega), if_neg c_32, if_pos c_50, if_neg c_58, if_neg c_62, if_neg c_67, if_neg c_80, if_neg c_94, copA, copX, if_pos h4, if_pos h11, nI_tn (by omega), if_neg c_23, nI_tn (by omega), if_neg c_32, if_pos c_50, if_neg c_58, if_neg c_62, if_neg c_67, if_neg c_80, if_neg c_94, nI_tn (by omega), nI_tn (by omega), nI_tn (by omega), cpU, if_pos c_102, if_neg c_108]
                          have e9 := l_X12_copy G b I A J tw 0 j i1 jo j1 m hj hjo hb1 hb2 (m + 1) 0 (A 39) (by omega) (by omega) rfl
                          rw [vf_self A 39] at e9
                          exact e9
                        · refine z_iconst (v := 1) d_X12_copy_111 (by decide) ?_
                          refine z_goto d_X12_copy_112 ?_
                          refine z_istore [(6, .int 1), (0, .ref (b 0)), (1, .int (nI j)), (2, .int (nI i1)), (3, .int (nI jo)), (4, .int (nI j1)), (5, .int (nI m))] d_X12_copy_116 (by decide) rfl ?_
                          refine z_iconst (v := 0) d_X12_copy_118 (by decide) ?_
                          refine z_istore [(7, .int 0), (6, .int 1), (0, .ref (b 0)), (1, .int (nI j)), (2, .int (nI i1)), (3, .int (nI jo)), (4, .int (nI j1)), (5, .int (nI m))] d_X12_copy_119 (by decide) rfl ?_
                          refine z_perm [0, 1, 7, 6, 5, 4, 3, 2] rfl ?_
                          rw [copR, copX, if_pos h4, if_pos h11, nI_tn (by omega), if_neg c_23, nI_tn (by omega), if_neg c_32, if_pos c_50, if_neg c_58, if_neg c_62, if_neg c_67, if_neg c_80, if_neg c_94, copA, copX, if_pos h4, if_pos h11, nI_tn (by omega), if_neg c_23, nI_tn (by omega), if_neg c_32, if_pos c_50, if_neg c_58, if_neg c_62, if_neg c_67, if_neg c_80, if_neg c_94, nI_tn (by omega), nI_tn (by omega), nI_tn (by omega), cpU, if_pos c_102, if_pos c_108]
                          have e9 := l_X12_copy G b I A J tw 1 j i1 jo j1 m hj hjo hb1 hb2 (m + 1) 0 (A 39) (by omega) (by omega) rfl
                          rw [vf_self A 39] at e9
                          exact e9
                    · refine z_bipush (v := -12) d_X12_copy_97 (by decide) ?_
                      exact z_iret _ d_X12_copy_99 rfl (Pi.ofw (by rw [copR, copX, if_pos h4, if_pos h11, nI_tn (by omega), if_neg c_23, nI_tn (by omega), if_neg c_32, if_pos c_50, if_neg c_58, if_neg c_62, if_neg c_67, if_neg c_80, if_pos c_94]) (by rw [copA, copX, if_pos h4, if_pos h11, nI_tn (by omega), if_neg c_23, nI_tn (by omega), if_neg c_32, if_pos c_50, if_neg c_58, if_neg c_62, if_neg c_67, if_neg c_80, if_pos c_94]))
          · refine z_bipush (v := -13) d_X12_copy_53 (by decide) ?_
            exact z_iret _ d_X12_copy_55 rfl (Pi.ofw (by rw [copR, copX, if_pos h4, if_pos h11, nI_tn (by omega), if_neg c_23, nI_tn (by omega), if_neg c_32, if_neg c_50]) (by rw [copA, copX, if_pos h4, if_pos h11, nI_tn (by omega), if_neg c_23, nI_tn (by omega), if_neg c_32, if_neg c_50]))
        · refine z_bipush (v := -11) d_X12_copy_35 (by decide) ?_
          exact z_iret _ d_X12_copy_37 rfl (Pi.ofw (by rw [copR, copX, if_pos h4, if_pos h11, nI_tn (by omega), if_neg c_23, nI_tn (by omega), if_pos c_32]) (by rw [copA, copX, if_pos h4, if_pos h11, nI_tn (by omega), if_neg c_23, nI_tn (by omega), if_pos c_32]))
    · have h11 : ¬ inB o 0 3 = true := fun e => absurd (e.symm.trans (b01_0.mp c_11)) (by decide)
      refine z_bipush (v := -2) d_X12_copy_14 (by decide) ?_
      exact z_iret _ d_X12_copy_16 rfl (Pi.ofw (by rw [copR, copX, if_pos h4, if_neg h11]) (by rw [copA, copX, if_pos h4, if_neg h11]))
theorem lay_38 (I : Nat → Int32) (A : Nat → Nat → Int32) (k w v : Int32) : layA I A k w v 38 = A 38 := by unfold layA; split <;> rfl
def srF (j : Nat) (at0 n0 : Int32) : Nat → Nat → Int32 → (Nat → Int32) → (Nat → Nat → Int32) → Int32 × (Nat → Int32) × (Nat → Nat → Int32)
  | 0, _, c, I, A => (c, I, A)
  | f + 1, k, c, I, A => if nI k < n0 then (if at0 < 0 then (-12, I, A) else if A 38 j - 3 * nI k - 3 < at0 then (-12, I, A) else srF j at0 n0 f (k + 1) (c + (if layR I (A 39 (40 * j + at0.toInt.toNat + 3 * k)) (A 39 (40 * j + at0.toInt.toNat + 3 * k + 1)) (A 39 (40 * j + at0.toInt.toNat + 3 * k + 2)) < 0 then 0 else 1)) (layI I (A 39 (40 * j + at0.toInt.toNat + 3 * k)) (A 39 (40 * j + at0.toInt.toNat + 3 * k + 1)) (A 39 (40 * j + at0.toInt.toNat + 3 * k + 2))) (layA I A (A 39 (40 * j + at0.toInt.toNat + 3 * k)) (A 39 (40 * j + at0.toInt.toNat + 3 * k + 1)) (A 39 (40 * j + at0.toInt.toNat + 3 * k + 2)))) else (c, I, A)
def strO (s sort n0 : Int32) : Bool := inB s 0 3 && (inB sort 0 2 && inB n0 0 12)
def strX (A : Nat → Nat → Int32) (I : Nat → Int32) (s sort at0 n0 : Int32) : Int32 × (Nat → Int32) × (Nat → Nat → Int32) := if strO s sort n0 = true then (if A 36 s.toInt.toNat = 0 then (-11, I, A) else if A 37 s.toInt.toNat = sort then srF s.toInt.toNat at0 n0 13 0 0 I A else (-13, I, A)) else (-2, I, A)
theorem iB_02 (s : Int32) : (decide (0 ≤ s.toInt) && decide (s.toInt ≤ 2)) = inB s 0 2 := rfl
theorem iB_012 (s : Int32) : (decide (0 ≤ s.toInt) && decide (s.toInt ≤ 12)) = inB s 0 12 := rfl
set_option maxHeartbeats 4000000 in
set_option maxRecDepth 100000 in
theorem l_X12_strips (G : GT) (b : Nat → Nat) (J : Nat → Int32) (tw : Int64) (j : Nat) (sort at0 n0 : Int32) (r : Int32 × (Nat → Int32) × (Nat → Nat → Int32)) (hj : j < 4) (hn : n0.toInt ≤ 12) : ∀ (n : Nat)  (k : Nat) (c : Int32) (I : Nat → Int32) (A : Nat → Nat → Int32) (hk : k ≤ n0.toInt.toNat) (hm : n0.toInt.toNat < k + n) (h0 : 0 ≤ (A 38 j).toInt) (h1 : (A 38 j).toInt ≤ 40) (hr : srF j at0 n0 n k c I A = r), Tr G mX12_strips (Rm 3 0 0) (OM G (Pi r.1 (MW G b r.2.1 r.2.2 J tw)) 0 0) 0 0 75 [(6, .int (nI k)), (5, .int c), (4, .int n0), (3, .int at0), (2, .int sort), (1, .int (nI j)), (0, .ref (b 0))] [] (MW G b I A J tw) := by
  intro n
  induction n with
  | zero =>
    intro k c I A hk hm h0 h1 hr
    exact absurd hm (by omega)
  | succ n ih =>
    intro k c I A hk hm h0 h1 hr
    refine z_iload d_X12_strips_75 0 rfl ?_
    refine z_iload d_X12_strips_77 2 rfl ?_
    refine z_icmp_ge d_X12_strips_79 (fun c_79 => ?_) (fun c_79 => ?_)
    · refine z_iload d_X12_strips_167 1 rfl ?_
      exact z_iret _ d_X12_strips_169 rfl (by rw [srF, if_neg c_79] at hr; subst hr; exact Pi.ofw rfl rfl)
    · have h9 : k < n0.toInt.toNat := (nI_ltN (by omega)).mp c_79
      refine z_iload_n d_X12_strips_82 3 rfl ?_
      refine z_if_lt d_X12_strips_83 (fun c_83 => ?_) (fun c_83 => ?_)
      · refine z_bipush (v := -12) d_X12_strips_103 (by decide) ?_
        exact z_iret _ d_X12_strips_105 rfl (by rw [srF, if_pos c_79, if_pos c_83] at hr; subst hr; exact Pi.ofw rfl rfl)
      · obtain ⟨q, hq, rfl⟩ := nI_of c_83
        refine z_iload_n d_X12_strips_86 3 rfl ?_
        refine z_aload_n d_X12_strips_87 6 rfl ?_
        refine z_get (v := .ref (b 38)) 0 f_X12_51_12 rfl rfl d_X12_strips_88 ?_
        refine z_iload_n d_X12_strips_91 5 rfl ?_
        refine z_ialdN 12 j rfl (nI_toInt (by omega)) (by omega) d_X12_strips_92 ?_
        refine z_iconst (v := 3) d_X12_strips_93 (by decide) ?_
        refine z_iload d_X12_strips_94 0 rfl ?_
        refine z_imul d_X12_strips_96 ?_
        refine z_isub d_X12_strips_97 ?_
        refine z_iconst (v := 3) d_X12_strips_98 (by decide) ?_
        refine z_isub d_X12_strips_99 ?_
        refine z_icmp_le d_X12_strips_100 (fun c_100 => ?_) (fun c_100 => ?_)
        · have h40 : q + 3 * k + 3 ≤ 40 := by rw [lt_i, i3, nI_mul, sub_i (by rw [sub_i (by rw [nI_i (by omega)]; omega) (by rw [nI_i (by omega)]; omega), nI_i (by omega), nI_i (by omega)]; omega) (by rw [sub_i (by rw [nI_i (by omega)]; omega) (by rw [nI_i (by omega)]; omega), nI_i (by omega), nI_i (by omega)]; omega), sub_i (by rw [nI_i (by omega)]; omega) (by rw [nI_i (by omega)]; omega), nI_i (by omega), nI_i (by omega), nI_i (by omega)] at c_100; omega
          refine z_bipush (v := 40) d_X12_strips_106 (by decide) ?_
          refine z_iload_n d_X12_strips_108 5 rfl ?_
          refine z_imul d_X12_strips_109 ?_
          refine z_iload_n d_X12_strips_110 3 rfl ?_
          refine z_iadd d_X12_strips_111 ?_
          refine z_iconst (v := 3) d_X12_strips_112 (by decide) ?_
          refine z_iload d_X12_strips_113 0 rfl ?_
          refine z_imul d_X12_strips_115 ?_
          refine z_iadd d_X12_strips_116 ?_
          refine z_istore [(7, .int (((40 * (nI j)) + (nI q)) + (3 * (nI k)))), (6, .int (nI k)), (5, .int c), (4, .int n0), (3, .int (nI q)), (2, .int sort), (1, .int (nI j)), (0, .ref (b 0))] d_X12_strips_117 (by decide) rfl ?_
          refine z_iload d_X12_strips_119 2 rfl ?_
          refine z_aload_n d_X12_strips_121 7 rfl ?_
          refine z_aload_n d_X12_strips_122 7 rfl ?_
          refine z_get (v := .ref (b 39)) 0 f_X12_54_12 rfl rfl d_X12_strips_123 ?_
          refine z_iload d_X12_strips_126 0 rfl ?_
          refine z_ialdN 13 (40 * j + q + 3 * k) rfl (by rw [i40, i3, nI_mul, nI_mul, nI_add, nI_add, nI_i (by omega)]) (by omega) d_X12_strips_128 ?_
          refine z_aload_n d_X12_strips_129 7 rfl ?_
          refine z_get (v := .ref (b 39)) 0 f_X12_54_12 rfl rfl d_X12_strips_130 ?_
          refine z_iload d_X12_strips_133 0 rfl ?_
          refine z_iconst (v := 1) d_X12_strips_135 (by decide) ?_
          refine z_iadd d_X12_strips_136 ?_
          refine z_ialdN 13 (40 * j + q + 3 * k + 1) rfl (by rw [i40, i3, nI_mul, nI_mul, nI_add, nI_add, show (1 : Int32) = nI 1 from rfl, nI_add, nI_i (by omega)]) (by omega) d_X12_strips_137 ?_
          refine z_aload_n d_X12_strips_138 7 rfl ?_
          refine z_get (v := .ref (b 39)) 0 f_X12_54_12 rfl rfl d_X12_strips_139 ?_
          refine z_iload d_X12_strips_142 0 rfl ?_
          refine z_iconst (v := 2) d_X12_strips_144 (by decide) ?_
          refine z_iadd d_X12_strips_145 ?_
          refine z_ialdN 13 (40 * j + q + 3 * k + 2) rfl (by rw [i40, i3, nI_mul, nI_mul, nI_add, nI_add, show (2 : Int32) = nI 2 from rfl, nI_add, nI_i (by omega)]) (by omega) d_X12_strips_146 ?_
          refine z_callVp 0 c_X12_363 (t_X12_lay G b I A J tw ((A 39) (40 * j + q + 3 * k)) ((A 39) (40 * j + q + 3 * k + 1)) ((A 39) (40 * j + q + 3 * k + 2))) rfl rfl rfl rfl (Nat.le_of_ble_eq_true rfl) rfl d_X12_strips_147 ?_
          refine z_if_lt d_X12_strips_150 (fun c_150 => ?_) (fun c_150 => ?_)
          · refine z_iconst (v := 0) d_X12_strips_157 (by decide) ?_
            refine z_iadd d_X12_strips_158 ?_
            refine z_istore [(5, .int (c + 0)), (7, .int (((40 * (nI j)) + (nI q)) + (3 * (nI k)))), (6, .int (nI k)), (4, .int n0), (3, .int (nI q)), (2, .int sort), (1, .int (nI j)), (0, .ref (b 0))] d_X12_strips_159 (by decide) rfl ?_
            refine z_iinc (nI (k + 1)) [(6, .int (nI (k + 1))), (5, .int (c + 0)), (7, .int (((40 * (nI j)) + (nI q)) + (3 * (nI k)))), (4, .int n0), (3, .int (nI q)), (2, .int sort), (1, .int (nI j)), (0, .ref (b 0))] 2 d_X12_strips_161 rfl (nI_1 _) (by decide) rfl ?_
            refine z_goto d_X12_strips_164 ?_
            refine z_perm [0, 1, 3, 4, 5, 6, 7] rfl ?_
            exact ih (k + 1) _ _ _ (by omega) (by omega) (by rw [lay_38]; exact h0) (by rw [lay_38]; exact h1) (by rw [srF, if_pos c_79, if_neg c_83, if_neg c_100, nI_tn (by omega), if_pos c_150] at hr; exact hr)
          · refine z_iconst (v := 1) d_X12_strips_153 (by decide) ?_
            refine z_goto d_X12_strips_154 ?_
            refine z_iadd d_X12_strips_158 ?_
            refine z_istore [(5, .int (c + 1)), (7, .int (((40 * (nI j)) + (nI q)) + (3 * (nI k)))), (6, .int (nI k)), (4, .int n0), (3, .int (nI q)), (2, .int sort), (1, .int (nI j)), (0, .ref (b 0))] d_X12_strips_159 (by decide) rfl ?_
            refine z_iinc (nI (k + 1)) [(6, .int (nI (k + 1))), (5, .int (c + 1)), (7, .int (((40 * (nI j)) + (nI q)) + (3 * (nI k)))), (4, .int n0), (3, .int (nI q)), (2, .int sort), (1, .int (nI j)), (0, .ref (b 0))] 2 d_X12_strips_161 rfl (nI_1 _) (by decide) rfl ?_
            refine z_goto d_X12_strips_164 ?_
            refine z_perm [0, 1, 3, 4, 5, 6, 7] rfl ?_
            exact ih (k + 1) _ _ _ (by omega) (by omega) (by rw [lay_38]; exact h0) (by rw [lay_38]; exact h1) (by rw [srF, if_pos c_79, if_neg c_83, if_neg c_100, nI_tn (by omega), if_neg c_150] at hr; exact hr)
        · refine z_bipush (v := -12) d_X12_strips_103 (by decide) ?_
          exact z_iret _ d_X12_strips_105 rfl (by rw [srF, if_pos c_79, if_neg c_83, if_pos c_100] at hr; subst hr; exact Pi.ofw rfl rfl)
theorem strX_bad {A : Nat → Nat → Int32} {I : Nat → Int32} {s sort at0 n0 : Int32} (h : ¬ strO s sort n0 = true) : strX A I s sort at0 n0 = (-2, I, A) := if_neg h
theorem strX_off {A : Nat → Nat → Int32} {I : Nat → Int32} {j : Nat} {sort at0 n0 : Int32} (hj : j < 4) (h : strO (nI j) sort n0 = true) (h1 : A 36 j = 0) : strX A I (nI j) sort at0 n0 = (-11, I, A) := by rw [strX, if_pos h, nI_tn (by omega), if_pos h1]
theorem strX_sort {A : Nat → Nat → Int32} {I : Nat → Int32} {j : Nat} {sort at0 n0 : Int32} (hj : j < 4) (h : strO (nI j) sort n0 = true) (h1 : ¬ A 36 j = 0) (h2 : ¬ A 37 j = sort) : strX A I (nI j) sort at0 n0 = (-13, I, A) := by rw [strX, if_pos h, nI_tn (by omega), if_neg h1, if_neg h2]
theorem strX_go {A : Nat → Nat → Int32} {I : Nat → Int32} {j : Nat} {sort at0 n0 : Int32} (hj : j < 4) (h : strO (nI j) sort n0 = true) (h1 : ¬ A 36 j = 0) (h2 : A 37 j = sort) : strX A I (nI j) sort at0 n0 = srF j at0 n0 13 0 0 I A := by rw [strX, if_pos h, nI_tn (by omega), if_neg h1, if_pos h2]
set_option maxHeartbeats 4000000 in
set_option maxRecDepth 100000 in
theorem t_X12_strips (G : GT) (b : Nat → Nat) (I : Nat → Int32) (A : Nat → Nat → Int32) (J : Nat → Int32) (tw : Int64) (s : Int32) (sort : Int32) (at0 : Int32) (n0 : Int32) (hSh : ShOk A) : Ct G mX12_strips 3 0 0 [.ref (b 0), .int s, .int sort, .int at0, .int n0] (MW G b I A J tw) (Pi (strX A I s sort at0 n0).1 (MW G b (strX A I s sort at0 n0).2.1 (strX A I s sort at0 n0).2.2 J tw)) := by
  refine Ct.intro [(0, .ref (b 0)), (1, .int s), (2, .int sort), (3, .int at0), (4, .int n0)] (by decide) rfl (Nat.le_of_ble_eq_true rfl) ?_
  refine z_iload_n d_X12_strips_0 1 rfl ?_
  refine z_callSp c_X12_356 (t_X12_isSheet G s (MW G b I A J tw)) rfl rfl (Nat.le_of_ble_eq_true rfl) rfl d_X12_strips_1 ?_
  refine z_if_eq d_X12_strips_4 (fun c_4 => ?_) (fun c_4 => ?_)
  · have h9 : ¬ strO s sort n0 = true := by simp only [in_b, b01_0, b01_n0, L_0, L_2, L_12, iB_02, iB_012] at *; simp [strO, *]
    refine z_bipush (v := -2) d_X12_strips_32 (by decide) ?_
    exact z_iret _ d_X12_strips_34 rfl (by rw [strX_bad h9]; exact Pi.ofw rfl rfl)
  · obtain ⟨j, hj, rfl⟩ := inB_nI (N := 3) (b01_n0.mp c_4)
    refine z_iload_n d_X12_strips_7 2 rfl ?_
    refine z_i2l d_X12_strips_8 ?_
    refine z_lconst (v := 0) d_X12_strips_9 (by decide) ?_
    refine z_ldc2 d_X12_strips_10 w_1427 ?_
    refine z_callSp c_X12_82 (t_X12_in G sort.toInt64 0 2 (MW G b I A J tw)) rfl rfl (Nat.le_of_ble_eq_true rfl) rfl d_X12_strips_13 ?_
    refine z_if_eq d_X12_strips_16 (fun c_16 => ?_) (fun c_16 => ?_)
    · have h9 : ¬ strO (nI j) sort n0 = true := by simp only [in_b, b01_0, b01_n0, L_0, L_2, L_12, iB_02, iB_012] at *; simp [strO, *]
      refine z_bipush (v := -2) d_X12_strips_32 (by decide) ?_
      exact z_iret _ d_X12_strips_34 rfl (by rw [strX_bad h9]; exact Pi.ofw rfl rfl)
    · refine z_iload d_X12_strips_19 4 rfl ?_
      refine z_i2l d_X12_strips_21 ?_
      refine z_lconst (v := 0) d_X12_strips_22 (by decide) ?_
      refine z_ldc2 d_X12_strips_23 w_1440 ?_
      refine z_callSp c_X12_82 (t_X12_in G n0.toInt64 0 12 (MW G b I A J tw)) rfl rfl (Nat.le_of_ble_eq_true rfl) rfl d_X12_strips_26 ?_
      refine z_if_ne d_X12_strips_29 (fun c_29 => ?_) (fun c_29 => ?_)
      · have h9 : strO (nI j) sort n0 = true := by simp only [in_b, b01_0, b01_n0, L_0, L_2, L_12, iB_02, iB_012] at *; simp only [strO, *]; rfl
        refine z_aload_n d_X12_strips_35 0 rfl ?_
        refine z_get (v := .ref (b 36)) 0 f_X12_44_12 rfl rfl d_X12_strips_36 ?_
        refine z_iload_n d_X12_strips_39 1 rfl ?_
        refine z_zaldN 10 j rfl (nI_toInt (by omega)) (by omega) d_X12_strips_40 ?_
        refine z_if_eq d_X12_strips_41 (fun c_41 => ?_) (fun c_41 => ?_)
        · refine z_aload_n d_X12_strips_57 0 rfl ?_
          refine z_get (v := .ref (b 36)) 0 f_X12_44_12 rfl rfl d_X12_strips_58 ?_
          refine z_iload_n d_X12_strips_61 1 rfl ?_
          refine z_zaldN 10 j rfl (nI_toInt (by omega)) (by omega) d_X12_strips_62 ?_
          refine z_if_ne d_X12_strips_63 (fun c_63 => ?_) (fun c_63 => ?_)
          · exact absurd c_41 c_63
          refine z_bipush (v := -11) d_X12_strips_66 (by decide) ?_
          exact z_iret _ d_X12_strips_68 rfl (by rw [strX_off hj h9 c_63]; exact Pi.ofw rfl rfl)
        · refine z_aload_n d_X12_strips_44 0 rfl ?_
          refine z_get (v := .ref (b 37)) 0 f_X12_48_12 rfl rfl d_X12_strips_45 ?_
          refine z_iload_n d_X12_strips_48 1 rfl ?_
          refine z_ialdN 11 j rfl (nI_toInt (by omega)) (by omega) d_X12_strips_49 ?_
          refine z_iload_n d_X12_strips_50 2 rfl ?_
          refine z_icmp_eq d_X12_strips_51 (fun c_51 => ?_) (fun c_51 => ?_)
          · refine z_aload_n d_X12_strips_57 0 rfl ?_
            refine z_get (v := .ref (b 36)) 0 f_X12_44_12 rfl rfl d_X12_strips_58 ?_
            refine z_iload_n d_X12_strips_61 1 rfl ?_
            refine z_zaldN 10 j rfl (nI_toInt (by omega)) (by omega) d_X12_strips_62 ?_
            refine z_if_ne d_X12_strips_63 (fun c_63 => ?_) (fun c_63 => ?_)
            rotate_left
            · exact absurd c_63 c_41
            refine z_iconst (v := 0) d_X12_strips_69 (by decide) ?_
            refine z_istore [(5, .int 0), (0, .ref (b 0)), (1, .int (nI j)), (2, .int sort), (3, .int at0), (4, .int n0)] d_X12_strips_70 (by decide) rfl ?_
            refine z_iconst (v := 0) d_X12_strips_72 (by decide) ?_
            refine z_istore [(6, .int 0), (5, .int 0), (0, .ref (b 0)), (1, .int (nI j)), (2, .int sort), (3, .int at0), (4, .int n0)] d_X12_strips_73 (by decide) rfl ?_
            refine z_perm [0, 1, 6, 5, 4, 3, 2] rfl ?_
            have e8 := hSh j hj c_41
            rw [strX_go hj h9 c_41 c_51]
            exact l_X12_strips G b J tw j sort at0 n0 _ hj (by have e7 := (Bool.and_eq_true_iff.mp (Bool.and_eq_true_iff.mp h9).2).2; rw [inB, Bool.and_eq_true, decide_eq_true_eq, decide_eq_true_eq] at e7; omega) 13 0 0 I A (by omega) (by have e7 := (Bool.and_eq_true_iff.mp (Bool.and_eq_true_iff.mp h9).2).2; rw [inB, Bool.and_eq_true, decide_eq_true_eq, decide_eq_true_eq] at e7; omega) e8.1 e8.2 rfl
          · refine z_bipush (v := -13) d_X12_strips_54 (by decide) ?_
            exact z_iret _ d_X12_strips_56 rfl (by rw [strX_sort hj h9 c_41 c_51]; exact Pi.ofw rfl rfl)
      · have h9 : ¬ strO (nI j) sort n0 = true := by simp only [in_b, b01_0, b01_n0, L_0, L_2, L_12, iB_02, iB_012] at *; simp [strO, *]
        refine z_bipush (v := -2) d_X12_strips_32 (by decide) ?_
        exact z_iret _ d_X12_strips_34 rfl (by rw [strX_bad h9]; exact Pi.ofw rfl rfl)
def fdB (bytes : Int64) (k : Nat) : Int32 := (bytes >>> ((8 * nI k).toInt64 &&& 63) &&& 255).toInt32
def fdF (m : Nat) (bytes : Int64) (k : Nat) (row : Nat → Int32) : Nat → Int32 := upd row (m + k) (fdB bytes k)
def feeX {α : Type} (I : Nat → Int32) (n0 : Int32) (bad full fine : α) : α := if inB n0 1 8 = true then (if 160 < I 6 + n0 then full else fine) else bad
def feeR (I : Nat → Int32) (n0 : Int32) : Int32 := feeX I n0 (-2) (-4) (I 6 + n0)
def feeI (I : Nat → Int32) (n0 : Int32) : Nat → Int32 := feeX I n0 I I (upd I 6 (I 6 + n0))
def feeA (I : Nat → Int32) (A : Nat → Nat → Int32) (n0 : Int32) (bytes : Int64) : Nat → Nat → Int32 := feeX I n0 A A (vf_upd A 5 (itL (fdF (I 6).toInt.toNat bytes) (A 5) n0.toInt.toNat))
theorem iB_18 (s : Int32) : (decide (1 ≤ s.toInt) && decide (s.toInt ≤ 8)) = inB s 1 8 := rfl
theorem inB_18 {s : Int32} (h : inB s 1 8 = true) : ∃ j, 1 ≤ j ∧ j ≤ 8 ∧ s = nI j := by
  rw [inB, Bool.and_eq_true, decide_eq_true_eq, decide_eq_true_eq] at h
  exact ⟨s.toInt.toNat, by omega, by omega, eq_nI (by omega)⟩
set_option maxHeartbeats 4000000 in
set_option maxRecDepth 100000 in
theorem l_X12_feed (G : GT) (b : Nat → Nat) (I : Nat → Int32) (A : Nat → Nat → Int32) (J : Nat → Int32) (tw : Int64) (m c : Nat) (bytes : Int64) (hmc : m + c ≤ 160) : ∀ (n : Nat)  (k : Nat) (row : Nat → Int32) (hk : k ≤ c) (hm : c < k + n) (hrow : row = itL (fdF m bytes) (A 5) k), Tr G mX12_feed (Rm 2 0 0) (OM G (Pi (nI (m + c)) (MW G b (upd I 6 (nI (m + c))) (vf_upd A 5 (itL (fdF m bytes) (A 5) c)) J tw)) 0 0) 0 0 33 [(4, .int (nI k)), (2, .long bytes), (1, .int (nI c)), (0, .ref (b 0))] [] (MW G b (upd I 6 (nI (m + k))) (vf_upd A 5 row) J tw) := by
  intro n
  induction n with
  | zero =>
    intro k row hk hm hrow
    exact absurd hm (by omega)
  | succ n ih =>
    intro k row hk hm hrow
    refine z_iload d_X12_feed_33 0 rfl ?_
    refine z_iload_n d_X12_feed_35 2 rfl ?_
    refine z_icmp_ge d_X12_feed_36 (fun c_36 => ?_) (fun c_36 => ?_)
    · refine z_aload_n d_X12_feed_76 3 rfl ?_
      refine z_get (v := .int (nI (m + k))) 0 f_X12_162_12 rfl rfl d_X12_feed_77 ?_
      exact z_iret _ d_X12_feed_80 rfl (by have e9 : k = c := (by rw [nI_ltI (by omega) (by omega)] at c_36; omega); subst hrow; subst e9; exact Pi.ofw rfl rfl)
    · have h9 : k < c := (nI_ltI (by omega) (by omega)).mp c_36
      refine z_aload_n d_X12_feed_39 3 rfl ?_
      refine z_get (v := .ref (b 5)) 0 f_X12_20_12 rfl rfl d_X12_feed_40 ?_
      refine z_aload_n d_X12_feed_43 3 rfl ?_
      refine z_get (v := .int (nI (m + k))) 0 f_X12_162_12 rfl rfl d_X12_feed_44 ?_
      refine z_lload_n d_X12_feed_47 1 rfl ?_
      refine z_bipush (v := 8) d_X12_feed_48 (by decide) ?_
      refine z_iload d_X12_feed_50 0 rfl ?_
      refine z_imul d_X12_feed_52 ?_
      refine z_lshr d_X12_feed_53 ?_
      refine z_ldc2 d_X12_feed_54 w_0995 ?_
      refine z_land d_X12_feed_57 ?_
      refine z_l2i d_X12_feed_58 ?_
      refine z_iastN 3 (m + k) (MW G b (upd I 6 (nI (m + k))) (vf_upd A 5 (upd row (m + k) (((bytes >>> ((8 * (nI k)).toInt64 &&& 63)) &&& 255).toInt32))) J tw) rfl (nI_toInt (by omega)) (by omega) rfl d_X12_feed_59 ?_
      refine z_aload_n d_X12_feed_60 3 rfl ?_
      refine z_dup d_X12_feed_61 rfl ?_
      refine z_get (v := .int (nI (m + k))) 0 f_X12_162_12 rfl rfl d_X12_feed_62 ?_
      refine z_iconst (v := 1) d_X12_feed_65 (by decide) ?_
      refine z_iadd d_X12_feed_66 ?_
      refine z_put 0 (MW G b (upd (upd I 6 (nI (m + k))) 6 ((nI (m + k)) + 1)) (vf_upd A 5 (upd row (m + k) (((bytes >>> ((8 * (nI k)).toInt64 &&& 63)) &&& 255).toInt32))) J tw) p_X12_162_12 rfl rfl rfl (Nat.le_of_ble_eq_true rfl) (mw_6 G b (upd I 6 (nI (m + k))) (vf_upd A 5 (upd row (m + k) (((bytes >>> ((8 * (nI k)).toInt64 &&& 63)) &&& 255).toInt32))) J tw _) d_X12_feed_67 ?_
      refine z_iinc (nI (k + 1)) [(4, .int (nI (k + 1))), (2, .long bytes), (1, .int (nI c)), (0, .ref (b 0))] 0 d_X12_feed_70 rfl (nI_1 _) (by decide) rfl ?_
      refine z_goto d_X12_feed_73 ?_
      rw [show upd (upd I 6 (nI (m + k))) 6 (nI (m + k) + 1) = upd I 6 (nI (m + (k + 1))) from by rw [upd_upd, nI_1]; rfl]
      exact ih (k + 1) _ (by omega) (by omega) (by rw [itL, ← hrow]; rfl)
set_option maxHeartbeats 4000000 in
set_option maxRecDepth 100000 in
theorem t_X12_feed (G : GT) (b : Nat → Nat) (I : Nat → Int32) (A : Nat → Nat → Int32) (J : Nat → Int32) (tw : Int64) (n0 : Int32) (bytes : Int64) (m : Nat) (hm6 : m ≤ 160) (h6 : I 6 = nI m) : Ct G mX12_feed 2 0 0 [.ref (b 0), .int n0, .long bytes] (MW G b I A J tw) (Pi (feeR I n0) (MW G b (feeI I n0) (feeA I A n0 bytes) J tw)) := by
  refine Ct.intro [(0, .ref (b 0)), (1, .int n0), (2, .long bytes)] (by decide) rfl (Nat.le_of_ble_eq_true rfl) ?_
  refine z_iload_n d_X12_feed_0 1 rfl ?_
  refine z_i2l d_X12_feed_1 ?_
  refine z_lconst (v := 1) d_X12_feed_2 (by decide) ?_
  refine z_ldc2 d_X12_feed_3 w_1296 ?_
  refine z_callSp c_X12_82 (t_X12_in G n0.toInt64 1 8 (MW G b I A J tw)) rfl rfl (Nat.le_of_ble_eq_true rfl) rfl d_X12_feed_6 ?_
  refine z_if_ne d_X12_feed_9 (fun c_9 => ?_) (fun c_9 => ?_)
  · have h9 : inB n0 1 8 = true := by simp only [in_b, b01_0, b01_n0, L_1, L_8, iB_18] at *; simpa using c_9
    refine z_aload_n d_X12_feed_15 0 rfl ?_
    refine z_get (v := .int (I 6)) 0 f_X12_162_12 rfl rfl d_X12_feed_16 ?_
    refine z_iload_n d_X12_feed_19 1 rfl ?_
    refine z_iadd d_X12_feed_20 ?_
    refine z_sipush (v := 160) d_X12_feed_21 (by decide) ?_
    refine z_icmp_le d_X12_feed_24 (fun c_24 => ?_) (fun c_24 => ?_)
    · refine z_iconst (v := 0) d_X12_feed_30 (by decide) ?_
      refine z_istore [(4, .int 0), (0, .ref (b 0)), (1, .int n0), (2, .long bytes)] d_X12_feed_31 (by decide) rfl ?_
      refine z_perm [0, 3, 2, 1] rfl ?_
      obtain ⟨c, hc1, hc8, rfl⟩ := inB_18 h9
      rw [feeR, feeX, if_pos h9, if_neg c_24, feeI, feeX, if_pos h9, if_neg c_24, feeA, feeX, if_pos h9, if_neg c_24]
      have hmc : m + c ≤ 160 := by have c9 := c_24; rw [h6, nI_add, lt_i, nI_i (by omega), show (160 : Int32).toInt = 160 from by decide] at c9; omega
      have e9 := l_X12_feed G b I A J tw m c bytes hmc (c + 1) 0 (A 5) (by omega) (by omega) rfl
      rw [vf_self A 5, show upd I 6 (nI (m + 0)) = I from by rw [Nat.add_zero, ← h6, upd_self9], ← nI_add, ← h6] at e9
      rw [h6, nI_tn (by omega), nI_tn (by omega), ← h6]
      exact e9
    · refine z_bipush (v := -4) d_X12_feed_27 (by decide) ?_
      exact z_iret _ d_X12_feed_29 rfl (Pi.ofw (by rw [feeR, feeX, if_pos h9, if_pos c_24]) (by rw [feeI, feeX, if_pos h9, if_pos c_24, feeA, feeX, if_pos h9, if_pos c_24]))
  · have h9 : ¬ inB n0 1 8 = true := by simp only [in_b, b01_0, b01_n0, L_1, L_8, iB_18] at *; simp [*]
    refine z_bipush (v := -2) d_X12_feed_12 (by decide) ?_
    exact z_iret _ d_X12_feed_14 rfl (Pi.ofw (by rw [feeR, feeX, if_neg h9]) (by rw [feeI, feeX, if_neg h9, feeA, feeX, if_neg h9]))
def RTm (r9 : Nat ⊕ CD) (J : Nat → Int32) : Prop := match r9 with
  | .inl f => J 22 = 1 ∧ J 23 = nI f
  | .inr _ => J 22 = 0
theorem t_X12_readT (G : GT) (b : Nat → Nat) (I : Nat → Int32) (A : Nat → Nat → Int32) (J : Nat → Int32) (tw : Int64) (t m : Nat) (t3 : Int32) (h3 : t3 = nI t) (ht : t < 6) (hn : m ≤ 160) (hB : ∀ i, i < m → 0 ≤ (bM A t i).toInt) (hsz : A 2 t = nI m) (r9 : Nat ⊕ CD) (hr : txP (bM A t) m = r9) : Ct G mX12_read 41 0 0 [.ref (b 0), .int t3, .int 0, .int 0, .int 0, .int 0, .int 0, .int 0, .int 0] (MW G b I A J tw) (fun v w => ∃ (r : Int32) (J' : Nat → Int32) (tw' : Int64), v = some (.int r) ∧ w = MW G b I A J' tw' ∧ RTm r9 J') := by
  subst h3
  subst hr
  refine (t_X12_read G b I A t m ht hn hB hsz 0 0 0 0 0 0 0 J tw).mono ?_
  rintro v w ⟨r, rfl, h⟩
  generalize txP (bM A t) m = r9 at h ⊢
  cases r9 with
  | inl f => obtain ⟨tok, tat, here, opn, tw', rfl⟩ := h; exact ⟨r, _, _, rfl, rfl, rfl, rfl⟩
  | inr c => obtain ⟨hV, tok, tat, here, opn, tw', rfl⟩ := h; exact ⟨r, _, _, rfl, rfl, rfl⟩
def tcF (t : Nat) (tape : Nat → Int32) (k : Nat) (row : Nat → Int32) : Nat → Int32 := upd row (160 * t + k) (tape k)
theorem tcF_at (t : Nat) (tape row : Nat → Int32) : ∀ (m i : Nat), i < m → itL (tcF t tape) row m (160 * t + i) = tape i
  | 0, i, h => absurd h (by omega)
  | m + 1, i, h => by
    rw [itL, tcF, upd]
    by_cases e : i = m
    · rw [if_pos (by rw [e]), e]
    · rw [if_neg (by omega)]
      exact tcF_at t tape row m i (by omega)
theorem tcF_out (t : Nat) (tape row : Nat → Int32) (q : Nat) : ∀ (m : Nat), (∀ i, i < m → ¬ q = 160 * t + i) → itL (tcF t tape) row m q = row q
  | 0, _ => rfl
  | m + 1, h => by
    rw [itL, tcF, upd, if_neg (h m (by omega))]
    exact tcF_out t tape row q m (fun i hi => h i (by omega))
def txA (A : Nat → Nat → Int32) (t m : Nat) : Nat → Nat → Int32 := vf_upd (vf_upd A 1 (itL (tcF t (A 5)) (A 1) m)) 2 (upd (A 2) t (nI m))
def txtX {α : Type} (I : Nat → Int32) (A : Nat → Nat → Int32) (t m : Nat) (full : α) (bad : Nat → α) (fine : α) : α := if I 3 = 6 then full else match txP (bM (txA A t m) t) m with
  | .inl f => bad f
  | .inr _ => fine
def txtR (I : Nat → Int32) (A : Nat → Nat → Int32) (t m : Nat) : Int32 := txtX I A t m (-4) (fun f => -100 - nI f) (nI t)
def txtI (I : Nat → Int32) (A : Nat → Nat → Int32) (t m : Nat) : Nat → Int32 := txtX I A t m I (fun _ => upd I 6 0) (upd (upd I 6 0) 3 (nI (t + 1)))
def txtA (I : Nat → Int32) (A : Nat → Nat → Int32) (t m : Nat) : Nat → Nat → Int32 := txtX I A t m A (fun _ => txA A t m) (txA A t m)
theorem txtX_full {α : Type} {I : Nat → Int32} {A : Nat → Nat → Int32} {t m : Nat} {full : α} {bad : Nat → α} {fine : α} (h : I 3 = 6) : txtX I A t m full bad fine = full := if_pos h
theorem txtX_bad {α : Type} {I : Nat → Int32} {A : Nat → Nat → Int32} {t m f : Nat} {full : α} {bad : Nat → α} {fine : α} (h : ¬ I 3 = 6) (h1 : txP (bM (txA A t m) t) m = .inl f) : txtX I A t m full bad fine = bad f := by rw [txtX, if_neg h, h1]
theorem txtX_fine {α : Type} {I : Nat → Int32} {A : Nat → Nat → Int32} {t m : Nat} {c : CD} {full : α} {bad : Nat → α} {fine : α} (h : ¬ I 3 = 6) (h1 : txP (bM (txA A t m) t) m = .inr c) : txtX I A t m full bad fine = fine := by rw [txtX, if_neg h, h1]
set_option maxHeartbeats 4000000 in
set_option maxRecDepth 100000 in
theorem l_X12_text (G : GT) (b : Nat → Nat) (I : Nat → Int32) (A : Nat → Nat → Int32) (J : Nat → Int32) (tw : Int64) (t m : Nat) (ht : t < 6) (hm6 : m ≤ 160) (h3 : I 3 = nI t) (h6 : I 6 = nI m) (hB : ∀ i, i < m → 0 ≤ (A 5 i).toInt) (h6n : ¬ I 3 = 6) : ∀ (n : Nat)  (k : Nat) (row : Nat → Int32) (hk : k ≤ m) (hm : m < k + n) (hrow : row = itL (tcF t (A 5)) (A 1) k), Tr G mX12_text (Rm 42 0 0) (OM G (Pj G b (txtR I A t m) (txtI I A t m) (txtA I A t m)) 0 0) 0 0 14 [(1, .int (nI k)), (0, .ref (b 0))] [] (MW G b I (vf_upd A 1 row) J tw) := by
  intro n
  induction n with
  | zero =>
    intro k row hk hm hrow
    exact absurd hm (by omega)
  | succ n ih =>
    intro k row hk hm hrow
    refine z_iload_n d_X12_text_14 0 rfl ?_
    refine z_aload_n d_X12_text_15 1 rfl ?_
    refine z_get (v := .int (I 6)) 0 f_X12_162_12 rfl rfl d_X12_text_16 ?_
    refine z_icmp_ge d_X12_text_19 (fun c_19 => ?_) (fun c_19 => ?_)
    · have e9 : k = m := (by rw [h6, nI_ltI (by omega) (by omega)] at c_19; omega)
      subst hrow
      subst e9
      refine z_aload_n d_X12_text_49 1 rfl ?_
      refine z_get (v := .ref (b 2)) 0 f_X12_17_12 rfl rfl d_X12_text_50 ?_
      refine z_aload_n d_X12_text_53 1 rfl ?_
      refine z_get (v := .int (I 3)) 0 f_X12_75_12 rfl rfl d_X12_text_54 ?_
      refine z_aload_n d_X12_text_57 1 rfl ?_
      refine z_get (v := .int (I 6)) 0 f_X12_162_12 rfl rfl d_X12_text_58 ?_
      refine z_iastN 2 t (MW G b I (vf_upd (vf_upd A 1 (itL (tcF t (A 5)) (A 1) k)) 2 (upd (A 2) t (I 6))) J tw) rfl (by rw [h3, nI_i (by omega)]) (by omega) (mw_2 G b I (vf_upd A 1 (itL (tcF t (A 5)) (A 1) k)) J tw _) d_X12_text_61 ?_
      have hB9 : ∀ i, i < k → 0 ≤ (bM (txA A t k) t i).toInt := fun i hi => by rw [show bM (txA A t k) t i = A 5 i from tcF_at t (A 5) (A 1) k i hi]; exact hB i hi
      have hsz9 : txA A t k 2 t = nI k := if_pos rfl
      generalize hr9 : txP (bM (txA A t k) t) k = r9
      rw [h6]
      refine z_aload_n d_X12_text_62 1 rfl ?_
      refine z_iconst (v := 0) d_X12_text_63 (by decide) ?_
      refine z_put 0 (MW G b (upd I 6 0) (vf_upd (vf_upd A 1 (itL (tcF t (A 5)) (A 1) k)) 2 (upd (A 2) t (nI k))) J tw) p_X12_162_12 rfl rfl rfl (Nat.le_of_ble_eq_true rfl) (mw_6 G b I (vf_upd (vf_upd A 1 (itL (tcF t (A 5)) (A 1) k)) 2 (upd (A 2) t (nI k))) J tw _) d_X12_text_64 ?_
      refine z_aload_n d_X12_text_67 1 rfl ?_
      refine z_aload_n d_X12_text_68 1 rfl ?_
      refine z_get (v := .int (I 3)) 0 f_X12_75_12 rfl rfl d_X12_text_69 ?_
      refine z_iconst (v := 0) d_X12_text_72 (by decide) ?_
      refine z_iconst (v := 0) d_X12_text_73 (by decide) ?_
      refine z_iconst (v := 0) d_X12_text_74 (by decide) ?_
      refine z_iconst (v := 0) d_X12_text_75 (by decide) ?_
      refine z_iconst (v := 0) d_X12_text_76 (by decide) ?_
      refine z_iconst (v := 0) d_X12_text_77 (by decide) ?_
      refine z_iconst (v := 0) d_X12_text_78 (by decide) ?_
      refine z_callV 0 c_X12_138 rfl rfl (t_X12_readT G b (upd I 6 0) (txA A t k) J tw t k _ h3 ht hm6 hB9 hsz9 r9 hr9) rfl rfl (Nat.le_of_ble_eq_true rfl) rfl d_X12_text_79 ?_
      rintro v79 w79 ⟨x79, J79, tw79, rfl, rfl, h79⟩
      refine z_istore_n [(1, .int x79), (0, .ref (b 0))] d_X12_text_82 (by decide) rfl ?_
      refine z_aload_n d_X12_text_83 1 rfl ?_
      refine z_get (v := .int (J79 22)) 0 f_X12_203_12 rfl rfl d_X12_text_84 ?_
      refine z_if_eq d_X12_text_87 (fun c_87 => ?_) (fun c_87 => ?_)
      · refine z_aload_n d_X12_text_98 1 rfl ?_
        refine z_dup d_X12_text_99 rfl ?_
        refine z_get (v := .int ((upd I 6 0) 3)) 0 f_X12_75_12 rfl rfl d_X12_text_100 ?_
        refine z_iconst (v := 1) d_X12_text_103 (by decide) ?_
        refine z_iadd d_X12_text_104 ?_
        refine z_put 0 (MW G b (upd (upd I 6 0) 3 (((upd I 6 0) 3) + 1)) (txA A t k) J79 tw79) p_X12_75_12 rfl rfl rfl (Nat.le_of_ble_eq_true rfl) (mw_3 G b (upd I 6 0) (txA A t k) J79 tw79 _) d_X12_text_105 ?_
        refine z_aload_n d_X12_text_108 1 rfl ?_
        refine z_get (v := .int (((upd I 6 0) 3) + 1)) 0 f_X12_75_12 rfl rfl d_X12_text_109 ?_
        refine z_iconst (v := 1) d_X12_text_112 (by decide) ?_
        refine z_isub d_X12_text_113 ?_
        exact z_iret _ d_X12_text_114 rfl (by cases r9 with | inl f => exact absurd (h79.1.symm.trans c_87) (by decide) | inr c => exact Pj.ofw (by rw [txtR, txtX_fine h6n hr9, show upd I 6 0 3 = I 3 from rfl, h3, nI_1, nI_pred]) (by rw [txtI, txtX_fine h6n hr9, ← nI_1, ← h3]; try rfl) (by rw [txtA, txtX_fine h6n hr9]))
      · refine z_bipush (v := -100) d_X12_text_90 (by decide) ?_
        refine z_aload_n d_X12_text_92 1 rfl ?_
        refine z_get (v := .int (J79 23)) 0 f_X12_207_12 rfl rfl d_X12_text_93 ?_
        refine z_isub d_X12_text_96 ?_
        exact z_iret _ d_X12_text_97 rfl (by cases r9 with | inl f => exact Pj.ofw (by rw [txtR, txtX_bad h6n hr9, h79.2]) (by rw [txtI, txtX_bad h6n hr9]) (by rw [txtA, txtX_bad h6n hr9]) | inr c => exact absurd h79 c_87)
    · have h9 : k < m := by rw [h6] at c_19; exact (nI_ltI (by omega) (by omega)).mp c_19
      refine z_aload_n d_X12_text_22 1 rfl ?_
      refine z_get (v := .ref (b 1)) 0 f_X12_13_12 rfl rfl d_X12_text_23 ?_
      refine z_sipush (v := 160) d_X12_text_26 (by decide) ?_
      refine z_aload_n d_X12_text_29 1 rfl ?_
      refine z_get (v := .int (I 3)) 0 f_X12_75_12 rfl rfl d_X12_text_30 ?_
      refine z_imul d_X12_text_33 ?_
      refine z_iload_n d_X12_text_34 0 rfl ?_
      refine z_iadd d_X12_text_35 ?_
      refine z_aload_n d_X12_text_36 1 rfl ?_
      refine z_get (v := .ref (b 5)) 0 f_X12_20_12 rfl rfl d_X12_text_37 ?_
      refine z_iload_n d_X12_text_40 0 rfl ?_
      refine z_ialdN 3 k rfl (nI_toInt (by omega)) (by omega) d_X12_text_41 ?_
      refine z_iastN 1 (160 * t + k) (MW G b I (vf_upd A 1 (upd row (160 * t + k) ((A 5) k))) J tw) rfl (by rw [h3, show (160 : Int32) = nI 160 from rfl, nI_mul, nI_add, nI_i (by omega)]) (by omega) rfl d_X12_text_42 ?_
      refine z_iinc (nI (k + 1)) [(1, .int (nI (k + 1))), (0, .ref (b 0))] 0 d_X12_text_43 rfl (nI_1 _) (by decide) rfl ?_
      refine z_goto d_X12_text_46 ?_
      exact ih (k + 1) _ (by omega) (by omega) (by rw [itL, ← hrow]; rfl)
set_option maxHeartbeats 4000000 in
set_option maxRecDepth 100000 in
theorem t_X12_text (G : GT) (b : Nat → Nat) (I : Nat → Int32) (A : Nat → Nat → Int32) (J : Nat → Int32) (tw : Int64) (t m : Nat) (ht : t ≤ 6) (hm6 : m ≤ 160) (h3 : I 3 = nI t) (h6 : I 6 = nI m) (hB : ∀ i, i < m → 0 ≤ (A 5 i).toInt)  : Ct G mX12_text 42 0 0 [.ref (b 0)] (MW G b I A J tw) (Pj G b (txtR I A t m) (txtI I A t m) (txtA I A t m)) := by
  refine Ct.intro [(0, .ref (b 0))] (by decide) rfl (Nat.le_of_ble_eq_true rfl) ?_
  refine z_aload_n d_X12_text_0 0 rfl ?_
  refine z_get (v := .int (I 3)) 0 f_X12_75_12 rfl rfl d_X12_text_1 ?_
  refine z_bipush (v := 6) d_X12_text_4 (by decide) ?_
  refine z_icmp_ne d_X12_text_6 (fun c_6 => ?_) (fun c_6 => ?_)
  · refine z_iconst (v := 0) d_X12_text_12 (by decide) ?_
    refine z_istore_n [(1, .int 0), (0, .ref (b 0))] d_X12_text_13 (by decide) rfl ?_
    have e9 := l_X12_text G b I A J tw t m (by rw [h3, show (6 : Int32) = nI 6 from rfl, nI_eq (by omega) (by omega)] at c_6; omega) hm6 h3 h6 hB c_6 (m + 1) 0 (A 1) (by omega) (by omega) rfl
    rw [vf_self A 1] at e9
    exact e9
  · refine z_bipush (v := -4) d_X12_text_9 (by decide) ?_
    exact z_iret _ d_X12_text_11 rfl (Pj.ofw (by rw [txtR, txtX_full c_6]) (by rw [txtI, txtX_full c_6]) (by rw [txtA, txtX_full c_6]))
def spB (w : Int64) (k : Nat) : Int32 := (w >>> ((56 - 8 * nI k).toInt64 &&& 63) &&& 255).toInt32
def spF (p : Nat) (w : Int64) (k : Nat) (row : Nat → Int32) : Nat → Int32 := upd row (p + k) (spB w k)
set_option maxHeartbeats 4000000 in
set_option maxRecDepth 100000 in
theorem l_X12_spell (G : GT) (b : Nat → Nat) (I : Nat → Int32) (A : Nat → Nat → Int32) (J : Nat → Int32) (tw : Int64) (p : Nat) (wd : Int64) (hp : p ≤ 100) : ∀ (n : Nat)  (k : Nat) (row : Nat → Int32) (hk : k ≤ 8) (hm : 8 < k + n) (hrow : row = itL (spF p wd) (A 1) k), Tr G mX12_spell (Rm 0 0 0) (OM G (Pv (MW G b I (vf_upd A 1 (itL (spF p wd) (A 1) 8)) J tw)) 0 0) 0 0 3 [(4, .int (nI k)), (2, .long wd), (1, .int (nI p)), (0, .ref (b 0))] [] (MW G b I (vf_upd A 1 row) J tw) := by
  intro n
  induction n with
  | zero =>
    intro k row hk hm hrow
    exact absurd hm (by omega)
  | succ n ih =>
    intro k row hk hm hrow
    refine z_iload d_X12_spell_3 0 rfl ?_
    refine z_bipush (v := 8) d_X12_spell_5 (by decide) ?_
    refine z_icmp_ge d_X12_spell_7 (fun c_7 => ?_) (fun c_7 => ?_)
    · exact z_vret _ d_X12_spell_40 rfl (by have e9 : k = 8 := (by have h9 := ge_nI (N := 8) (by omega) (by decide) c_7; omega); subst hrow; subst e9; exact Pv.of rfl)
    · have h9 := lt_nI (N := 8) (by omega) (by decide) c_7
      refine z_aload_n d_X12_spell_10 3 rfl ?_
      refine z_get (v := .ref (b 1)) 0 f_X12_13_12 rfl rfl d_X12_spell_11 ?_
      refine z_iload_n d_X12_spell_14 2 rfl ?_
      refine z_iload d_X12_spell_15 0 rfl ?_
      refine z_iadd d_X12_spell_17 ?_
      refine z_lload_n d_X12_spell_18 1 rfl ?_
      refine z_bipush (v := 56) d_X12_spell_19 (by decide) ?_
      refine z_bipush (v := 8) d_X12_spell_21 (by decide) ?_
      refine z_iload d_X12_spell_23 0 rfl ?_
      refine z_imul d_X12_spell_25 ?_
      refine z_isub d_X12_spell_26 ?_
      refine z_lshr d_X12_spell_27 ?_
      refine z_ldc2 d_X12_spell_28 w_0995 ?_
      refine z_land d_X12_spell_31 ?_
      refine z_l2i d_X12_spell_32 ?_
      refine z_iastN 1 (p + k) (MW G b I (vf_upd A 1 (upd row (p + k) (((wd >>> ((56 - (8 * (nI k))).toInt64 &&& 63)) &&& 255).toInt32))) J tw) rfl (by rw [nI_add, nI_i (by omega)]) (by omega) rfl d_X12_spell_33 ?_
      refine z_iinc (nI (k + 1)) [(4, .int (nI (k + 1))), (2, .long wd), (1, .int (nI p)), (0, .ref (b 0))] 0 d_X12_spell_34 rfl (nI_1 _) (by decide) rfl ?_
      refine z_goto d_X12_spell_37 ?_
      exact ih (k + 1) _ (by omega) (by omega) (by rw [itL, ← hrow]; rfl)
set_option maxHeartbeats 4000000 in
set_option maxRecDepth 100000 in
theorem t_X12_spell (G : GT) (b : Nat → Nat) (I : Nat → Int32) (A : Nat → Nat → Int32) (J : Nat → Int32) (tw : Int64) (p : Nat) (wd : Int64) (hp : p ≤ 100) : Ct G mX12_spell 0 0 0 [.ref (b 0), .int (nI p), .long wd] (MW G b I A J tw) (Pv (MW G b I (vf_upd A 1 (itL (spF p wd) (A 1) 8)) J tw)) := by
  refine Ct.intro [(0, .ref (b 0)), (1, .int (nI p)), (2, .long wd)] (by decide) rfl (Nat.le_of_ble_eq_true rfl) ?_
  refine z_iconst (v := 0) d_X12_spell_0 (by decide) ?_
  refine z_istore [(4, .int 0), (0, .ref (b 0)), (1, .int (nI p)), (2, .long wd)] d_X12_spell_1 (by decide) rfl ?_
  refine z_perm [0, 3, 2, 1] rfl ?_
  have e9 := l_X12_spell G b I A J tw p wd hp 9 0 (A 1) (by omega) (by omega) rfl
  rw [vf_self A 1] at e9
  exact e9
