/-! THE REFERENCE: all the rest that asks -/
theorem upd_back (f : Nat → Int32) (k : Nat) (x : Int32) : upd (upd f k x) k (f k) = f := by
  funext j
  unfold upd
  by_cases h : j = k
  · rw [if_pos h, h]
  · rw [if_neg h, if_neg h]
theorem upd_upd (f : Nat → Int32) (k : Nat) (x y : Int32) : upd (upd f k x) k y = upd f k y := by
  funext j
  unfold upd
  by_cases h : j = k
  · rw [if_pos h, if_pos h]
  · rw [if_neg h, if_neg h, if_neg h]
theorem upd_self9 (f : Nat → Int32) (k : Nat) : upd f k (f k) = f := by
  funext j
  unfold upd
  by_cases h : j = k
  · rw [if_pos h, h]
  · rw [if_neg h]
def lhF (cd : CD) (I : Nat → Int32) (A : Nat → Nat → Int32) (k : Nat) (a : Int32) : Int32 := if isS I (nI k) = true then (if a = -1 then hoS cd I A k (I 12) else if hoS cd I A k (I 12) < a then hoS cd I A k (I 12) else a) else a
def lhR (a : Int32) : Int32 := if a = -1 then 0 else a
def lhS (cd : CD) (I : Nat → Int32) (A : Nat → Nat → Int32) : Int32 := lhR (itL (lhF cd I A) (-1) 16)
set_option maxHeartbeats 4000000 in
set_option maxRecDepth 100000 in
theorem l_X12_leastHold (G : GT) (b : Nat → Nat) (I : Nat → Int32) (A : Nat → Nat → Int32) (t : Nat) (cd : CD) (hT : TxOk A t cd) (h4 : I 4 = nI t) : ∀ (n : Nat)  (k : Nat) (J : Nat → Int32) (tw : Int64) (a : Int32) (hk : k ≤ 16) (hm : 16 < k + n) (ha : a = itL (lhF cd I A) (-1) k), Tr G mX12_leastHold (Rm 43 0 0) (OM G (Pj G b (lhS cd I A) I A) 0 0) 0 0 4 [(2, .int (nI k)), (1, .int a), (0, .ref (b 0))] [] (MW G b I A J tw) := by
  intro n
  induction n with
  | zero =>
    intro k J tw a hk hm ha
    exact absurd hm (by omega)
  | succ n ih =>
    intro k J tw a hk hm ha
    refine z_iload_n d_X12_leastHold_4 0 rfl ?_
    refine z_bipush (v := 16) d_X12_leastHold_5 (by decide) ?_
    refine z_icmp_ge d_X12_leastHold_7 (fun c_7 => ?_) (fun c_7 => ?_)
    · refine z_iload_n d_X12_leastHold_58 1 rfl ?_
      refine z_iconst (v := -1) d_X12_leastHold_59 (by decide) ?_
      refine z_icmp_ne d_X12_leastHold_60 (fun c_60 => ?_) (fun c_60 => ?_)
      · refine z_iload_n d_X12_leastHold_67 1 rfl ?_
        exact z_iret _ d_X12_leastHold_68 rfl (Pj.of (by have h9 := ge_nI (N := 16) (by omega) (by decide) c_7; rw [lhS, ← show k = 16 by omega, ← ha, lhR]; simp only [c_60, ↓reduceIte]))
      · refine z_iconst (v := 0) d_X12_leastHold_63 (by decide) ?_
        refine z_goto d_X12_leastHold_64 ?_
        exact z_iret _ d_X12_leastHold_68 rfl (Pj.of (by have h9 := ge_nI (N := 16) (by omega) (by decide) c_7; rw [lhS, ← show k = 16 by omega, ← ha, lhR]; simp only [c_60, ↓reduceIte]))
    · have h9 := lt_nI (N := 16) (by omega) (by decide) c_7
      refine z_aload_n d_X12_leastHold_10 2 rfl ?_
      refine z_iload_n d_X12_leastHold_11 0 rfl ?_
      refine z_callVp 0 c_X12_116 (t_X12_isStrip G b I A J tw (nI k)) rfl rfl rfl rfl (Nat.le_of_ble_eq_true rfl) rfl d_X12_leastHold_12 ?_
      refine z_if_eq d_X12_leastHold_15 (fun c_15 => ?_) (fun c_15 => ?_)
      · refine z_iconst (v := 0) d_X12_leastHold_30 (by decide) ?_
        refine z_istore_n [(3, .int 0), (2, .int (nI k)), (1, .int a), (0, .ref (b 0))] d_X12_leastHold_31 (by decide) rfl ?_
        refine z_aload_n d_X12_leastHold_32 3 rfl ?_
        refine z_iload_n d_X12_leastHold_33 1 rfl ?_
        refine z_callVp 0 c_X12_116 (t_X12_isStrip G b I A J tw (nI k)) rfl rfl rfl rfl (Nat.le_of_ble_eq_true rfl) rfl d_X12_leastHold_34 ?_
        refine z_if_eq d_X12_leastHold_37 (fun c_37 => ?_) (fun c_37 => ?_)
        rotate_left
        · exact absurd (b01_0.mp c_15) (by rw [b01_n0.mp c_37]; decide)
        refine z_iinc (nI (k + 1)) [(2, .int (nI (k + 1))), (3, .int 0), (1, .int a), (0, .ref (b 0))] 1 d_X12_leastHold_52 rfl (nI_1 _) (by decide) rfl ?_
        refine z_goto d_X12_leastHold_55 ?_
        refine z_perm [0, 2, 3] rfl ?_
        exact ih (k + 1) _ _ a (by omega) (by omega) (by rw [itL, lhF, ← ha]; clear ha ih; simp only [b01_0, b01_n0] at *; simp [*])
      · refine z_aload_n d_X12_leastHold_18 2 rfl ?_
        refine z_iload_n d_X12_leastHold_19 0 rfl ?_
        refine z_aload_n d_X12_leastHold_20 2 rfl ?_
        refine z_get (v := .int (I 12)) 0 f_X12_90_12 rfl rfl d_X12_leastHold_21 ?_
        refine z_callV 0 c_X12_154 rfl rfl (t_X12_holdOf G b I A J tw t cd hT h4 k (I 12) (by omega)) rfl rfl (Nat.le_of_ble_eq_true rfl) rfl d_X12_leastHold_24 ?_
        rintro v24 w24 ⟨rfl, J24, tw24, rfl⟩
        refine z_goto d_X12_leastHold_27 ?_
        refine z_istore_n [(3, .int (hoS cd I A k (I 12))), (2, .int (nI k)), (1, .int a), (0, .ref (b 0))] d_X12_leastHold_31 (by decide) rfl ?_
        refine z_aload_n d_X12_leastHold_32 3 rfl ?_
        refine z_iload_n d_X12_leastHold_33 1 rfl ?_
        refine z_callVp 0 c_X12_116 (t_X12_isStrip G b I A J24 tw24 (nI k)) rfl rfl rfl rfl (Nat.le_of_ble_eq_true rfl) rfl d_X12_leastHold_34 ?_
        refine z_if_eq d_X12_leastHold_37 (fun c_37 => ?_) (fun c_37 => ?_)
        · exact absurd c_37 (by rw [b01, if_pos (b01_n0.mp c_15)]; decide)
        refine z_iload_n d_X12_leastHold_40 2 rfl ?_
        refine z_iconst (v := -1) d_X12_leastHold_41 (by decide) ?_
        refine z_icmp_eq d_X12_leastHold_42 (fun c_42 => ?_) (fun c_42 => ?_)
        · refine z_iload_n d_X12_leastHold_50 0 rfl ?_
          refine z_istore_n [(1, .int (hoS cd I A k (I 12))), (3, .int (hoS cd I A k (I 12))), (2, .int (nI k)), (0, .ref (b 0))] d_X12_leastHold_51 (by decide) rfl ?_
          refine z_iinc (nI (k + 1)) [(2, .int (nI (k + 1))), (1, .int (hoS cd I A k (I 12))), (3, .int (hoS cd I A k (I 12))), (0, .ref (b 0))] 2 d_X12_leastHold_52 rfl (nI_1 _) (by decide) rfl ?_
          refine z_goto d_X12_leastHold_55 ?_
          refine z_perm [0, 1, 3] rfl ?_
          exact ih (k + 1) _ _ (hoS cd I A k (I 12)) (by omega) (by omega) (by rw [itL, lhF, ← ha]; clear ha ih; simp only [b01_0, b01_n0] at *; simp [*])
        · refine z_iload_n d_X12_leastHold_45 0 rfl ?_
          refine z_iload_n d_X12_leastHold_46 2 rfl ?_
          refine z_icmp_ge d_X12_leastHold_47 (fun c_47 => ?_) (fun c_47 => ?_)
          · refine z_iinc (nI (k + 1)) [(2, .int (nI (k + 1))), (3, .int (hoS cd I A k (I 12))), (1, .int a), (0, .ref (b 0))] 1 d_X12_leastHold_52 rfl (nI_1 _) (by decide) rfl ?_
            refine z_goto d_X12_leastHold_55 ?_
            refine z_perm [0, 2, 3] rfl ?_
            exact ih (k + 1) _ _ a (by omega) (by omega) (by rw [itL, lhF, ← ha]; clear ha ih; simp only [b01_0, b01_n0] at *; simp [*])
          · refine z_iload_n d_X12_leastHold_50 0 rfl ?_
            refine z_istore_n [(1, .int (hoS cd I A k (I 12))), (3, .int (hoS cd I A k (I 12))), (2, .int (nI k)), (0, .ref (b 0))] d_X12_leastHold_51 (by decide) rfl ?_
            refine z_iinc (nI (k + 1)) [(2, .int (nI (k + 1))), (1, .int (hoS cd I A k (I 12))), (3, .int (hoS cd I A k (I 12))), (0, .ref (b 0))] 2 d_X12_leastHold_52 rfl (nI_1 _) (by decide) rfl ?_
            refine z_goto d_X12_leastHold_55 ?_
            refine z_perm [0, 1, 3] rfl ?_
            exact ih (k + 1) _ _ (hoS cd I A k (I 12)) (by omega) (by omega) (by rw [itL, lhF, ← ha]; clear ha ih; simp only [b01_0, b01_n0] at *; simp [*])
set_option maxHeartbeats 4000000 in
set_option maxRecDepth 100000 in
theorem t_X12_leastHold (G : GT) (b : Nat → Nat) (I : Nat → Int32) (A : Nat → Nat → Int32) (J : Nat → Int32) (tw : Int64) (t : Nat) (cd : CD) (hT : TxOk A t cd) (h4 : I 4 = nI t)  : Ct G mX12_leastHold 43 0 0 [.ref (b 0)] (MW G b I A J tw) (Pj G b (lhS cd I A) (I) (A)) := by
  refine Ct.intro [(0, .ref (b 0))] (by decide) rfl (Nat.le_of_ble_eq_true rfl) ?_
  refine z_iconst (v := -1) d_X12_leastHold_0 (by decide) ?_
  refine z_istore_n [(1, .int (-1)), (0, .ref (b 0))] d_X12_leastHold_1 (by decide) rfl ?_
  refine z_iconst (v := 0) d_X12_leastHold_2 (by decide) ?_
  refine z_istore_n [(2, .int 0), (1, .int (-1)), (0, .ref (b 0))] d_X12_leastHold_3 (by decide) rfl ?_
  exact l_X12_leastHold G b I A t cd hT h4 17 0 J tw (-1) (by omega) (by omega) rfl
def coF (I : Nat → Int32) (A : Nat → Nat → Int32) (k : Nat) (a : Int32) : Int32 := a ||| (if isS I (nI k) = true then A 11 k else 0)
def coS (I : Nat → Int32) (A : Nat → Nat → Int32) : Int32 := itL (coF I A) 0 16
def grP (I : Nat → Int32) (A : Nat → Nat → Int32) (k : Nat) : Bool := isS I (nI k) && decide (I 13 - A 10 k < I 14)
def grF (I : Nat → Int32) (A : Nat → Nat → Int32) (k : Nat) (a : Int32) : Int32 := a + (if grP I A k = true then 1 else 0)
def grS (I : Nat → Int32) (A : Nat → Nat → Int32) : Int32 := itL (grF I A) 0 16
set_option maxHeartbeats 4000000 in
set_option maxRecDepth 100000 in
theorem l_X12_covered (G : GT) (b : Nat → Nat) (I : Nat → Int32) (A : Nat → Nat → Int32) (J : Nat → Int32) (tw : Int64) : ∀ (n : Nat)  (k : Nat) (a : Int32) (hk : k ≤ 16) (hm : 16 < k + n) (ha : a = itL (coF I A) 0 k), Tr G mX12_covered (Rm 2 0 0) (OM G (Pi (coS I A) (MW G b I A J tw)) 0 0) 0 0 4 [(2, .int (nI k)), (1, .int a), (0, .ref (b 0))] [] (MW G b I A J tw) := by
  intro n
  induction n with
  | zero =>
    intro k a hk hm ha
    exact absurd hm (by omega)
  | succ n ih =>
    intro k a hk hm ha
    refine z_iload_n d_X12_covered_4 0 rfl ?_
    refine z_bipush (v := 16) d_X12_covered_5 (by decide) ?_
    refine z_icmp_ge d_X12_covered_7 (fun c_7 => ?_) (fun c_7 => ?_)
    · refine z_iload_n d_X12_covered_37 1 rfl ?_
      exact z_iret _ d_X12_covered_38 rfl (Pi.of (by have h9 := ge_nI (N := 16) (by omega) (by decide) c_7; rw [ha, show k = 16 by omega]; rfl))
    · have h9 := lt_nI (N := 16) (by omega) (by decide) c_7
      refine z_iload_n d_X12_covered_10 1 rfl ?_
      refine z_aload_n d_X12_covered_11 2 rfl ?_
      refine z_iload_n d_X12_covered_12 0 rfl ?_
      refine z_callVp 0 c_X12_116 (t_X12_isStrip G b I A J tw (nI k)) rfl rfl rfl rfl (Nat.le_of_ble_eq_true rfl) rfl d_X12_covered_13 ?_
      refine z_if_eq d_X12_covered_16 (fun c_16 => ?_) (fun c_16 => ?_)
      · refine z_iconst (v := 0) d_X12_covered_28 (by decide) ?_
        refine z_ior d_X12_covered_29 ?_
        refine z_istore_n [(1, .int (a ||| 0)), (2, .int (nI k)), (0, .ref (b 0))] d_X12_covered_30 (by decide) rfl ?_
        refine z_iinc (nI (k + 1)) [(2, .int (nI (k + 1))), (1, .int (a ||| 0)), (0, .ref (b 0))] 1 d_X12_covered_31 rfl (nI_1 _) (by decide) rfl ?_
        refine z_goto d_X12_covered_34 ?_
        exact ih (k + 1) _ (by omega) (by omega) (by rw [itL, coF, ← ha]; clear ha ih; simp only [b01_0, b01_n0] at *; simp [coF, *])
      · refine z_aload_n d_X12_covered_19 2 rfl ?_
        refine z_get (v := .ref (b 11)) 0 f_X12_35_12 rfl rfl d_X12_covered_20 ?_
        refine z_iload_n d_X12_covered_23 0 rfl ?_
        refine z_ialdN 8 k rfl (nI_toInt (by omega)) (by omega) d_X12_covered_24 ?_
        refine z_goto d_X12_covered_25 ?_
        refine z_ior d_X12_covered_29 ?_
        refine z_istore_n [(1, .int (a ||| ((A 11) k))), (2, .int (nI k)), (0, .ref (b 0))] d_X12_covered_30 (by decide) rfl ?_
        refine z_iinc (nI (k + 1)) [(2, .int (nI (k + 1))), (1, .int (a ||| ((A 11) k))), (0, .ref (b 0))] 1 d_X12_covered_31 rfl (nI_1 _) (by decide) rfl ?_
        refine z_goto d_X12_covered_34 ?_
        exact ih (k + 1) _ (by omega) (by omega) (by rw [itL, coF, ← ha]; clear ha ih; simp only [b01_0, b01_n0] at *; simp [coF, *])
set_option maxHeartbeats 4000000 in
set_option maxRecDepth 100000 in
theorem t_X12_covered (G : GT) (b : Nat → Nat) (I : Nat → Int32) (A : Nat → Nat → Int32) (J : Nat → Int32) (tw : Int64)  : Ct G mX12_covered 2 0 0 [.ref (b 0)] (MW G b I A J tw) (Pi (coS I A) (MW G b I A J tw)) := by
  refine Ct.intro [(0, .ref (b 0))] (by decide) rfl (Nat.le_of_ble_eq_true rfl) ?_
  refine z_iconst (v := 0) d_X12_covered_0 (by decide) ?_
  refine z_istore_n [(1, .int 0), (0, .ref (b 0))] d_X12_covered_1 (by decide) rfl ?_
  refine z_iconst (v := 0) d_X12_covered_2 (by decide) ?_
  refine z_istore_n [(2, .int 0), (1, .int 0), (0, .ref (b 0))] d_X12_covered_3 (by decide) rfl ?_
  exact l_X12_covered G b I A J tw 17 0 0 (by omega) (by omega) rfl
set_option maxHeartbeats 4000000 in
set_option maxRecDepth 100000 in
theorem l_X12_greens (G : GT) (b : Nat → Nat) (I : Nat → Int32) (A : Nat → Nat → Int32) (J : Nat → Int32) (tw : Int64) : ∀ (n : Nat)  (k : Nat) (a : Int32) (hk : k ≤ 16) (hm : 16 < k + n) (ha : a = itL (grF I A) 0 k), Tr G mX12_greens (Rm 2 0 0) (OM G (Pi (grS I A) (MW G b I A J tw)) 0 0) 0 0 4 [(2, .int (nI k)), (1, .int a), (0, .ref (b 0))] [] (MW G b I A J tw) := by
  intro n
  induction n with
  | zero =>
    intro k a hk hm ha
    exact absurd hm (by omega)
  | succ n ih =>
    intro k a hk hm ha
    refine z_iload_n d_X12_greens_4 0 rfl ?_
    refine z_bipush (v := 16) d_X12_greens_5 (by decide) ?_
    refine z_icmp_ge d_X12_greens_7 (fun c_7 => ?_) (fun c_7 => ?_)
    · refine z_iload_n d_X12_greens_44 1 rfl ?_
      exact z_iret _ d_X12_greens_45 rfl (Pi.of (by have h9 := ge_nI (N := 16) (by omega) (by decide) c_7; rw [ha, show k = 16 by omega]; rfl))
    · have h9 := lt_nI (N := 16) (by omega) (by decide) c_7
      refine z_iload_n d_X12_greens_10 1 rfl ?_
      refine z_aload_n d_X12_greens_11 2 rfl ?_
      refine z_iload_n d_X12_greens_12 0 rfl ?_
      refine z_callVp 0 c_X12_116 (t_X12_isStrip G b I A J tw (nI k)) rfl rfl rfl rfl (Nat.le_of_ble_eq_true rfl) rfl d_X12_greens_13 ?_
      refine z_if_eq d_X12_greens_16 (fun c_16 => ?_) (fun c_16 => ?_)
      · refine z_iconst (v := 0) d_X12_greens_35 (by decide) ?_
        refine z_iadd d_X12_greens_36 ?_
        refine z_istore_n [(1, .int (a + 0)), (2, .int (nI k)), (0, .ref (b 0))] d_X12_greens_37 (by decide) rfl ?_
        refine z_iinc (nI (k + 1)) [(2, .int (nI (k + 1))), (1, .int (a + 0)), (0, .ref (b 0))] 1 d_X12_greens_38 rfl (nI_1 _) (by decide) rfl ?_
        refine z_goto d_X12_greens_41 ?_
        exact ih (k + 1) _ (by omega) (by omega) (by rw [itL, grF, ← ha]; clear ha ih; simp only [b01_0, b01_n0] at *; simp [grP, *])
      · refine z_aload_n d_X12_greens_19 2 rfl ?_
        refine z_iload_n d_X12_greens_20 0 rfl ?_
        refine z_callVp 0 c_X12_124 (t_X12_ageOf G b I A J tw k (by omega)) rfl rfl rfl rfl (Nat.le_of_ble_eq_true rfl) rfl d_X12_greens_21 ?_
        refine z_aload_n d_X12_greens_24 2 rfl ?_
        refine z_get (v := .int (I 14)) 0 f_X12_38_12 rfl rfl d_X12_greens_25 ?_
        refine z_icmp_ge d_X12_greens_28 (fun c_28 => ?_) (fun c_28 => ?_)
        · refine z_iconst (v := 0) d_X12_greens_35 (by decide) ?_
          refine z_iadd d_X12_greens_36 ?_
          refine z_istore_n [(1, .int (a + 0)), (2, .int (nI k)), (0, .ref (b 0))] d_X12_greens_37 (by decide) rfl ?_
          refine z_iinc (nI (k + 1)) [(2, .int (nI (k + 1))), (1, .int (a + 0)), (0, .ref (b 0))] 1 d_X12_greens_38 rfl (nI_1 _) (by decide) rfl ?_
          refine z_goto d_X12_greens_41 ?_
          exact ih (k + 1) _ (by omega) (by omega) (by rw [itL, grF, ← ha]; clear ha ih; simp only [b01_0, b01_n0] at *; simp [grP, *])
        · refine z_iconst (v := 1) d_X12_greens_31 (by decide) ?_
          refine z_goto d_X12_greens_32 ?_
          refine z_iadd d_X12_greens_36 ?_
          refine z_istore_n [(1, .int (a + 1)), (2, .int (nI k)), (0, .ref (b 0))] d_X12_greens_37 (by decide) rfl ?_
          refine z_iinc (nI (k + 1)) [(2, .int (nI (k + 1))), (1, .int (a + 1)), (0, .ref (b 0))] 1 d_X12_greens_38 rfl (nI_1 _) (by decide) rfl ?_
          refine z_goto d_X12_greens_41 ?_
          exact ih (k + 1) _ (by omega) (by omega) (by rw [itL, grF, ← ha]; clear ha ih; simp only [b01_0, b01_n0] at *; simp [grP, *])
set_option maxHeartbeats 4000000 in
set_option maxRecDepth 100000 in
theorem t_X12_greens (G : GT) (b : Nat → Nat) (I : Nat → Int32) (A : Nat → Nat → Int32) (J : Nat → Int32) (tw : Int64)  : Ct G mX12_greens 2 0 0 [.ref (b 0)] (MW G b I A J tw) (Pi (grS I A) (MW G b I A J tw)) := by
  refine Ct.intro [(0, .ref (b 0))] (by decide) rfl (Nat.le_of_ble_eq_true rfl) ?_
  refine z_iconst (v := 0) d_X12_greens_0 (by decide) ?_
  refine z_istore_n [(1, .int 0), (0, .ref (b 0))] d_X12_greens_1 (by decide) rfl ?_
  refine z_iconst (v := 0) d_X12_greens_2 (by decide) ?_
  refine z_istore_n [(2, .int 0), (1, .int 0), (0, .ref (b 0))] d_X12_greens_3 (by decide) rfl ?_
  exact l_X12_greens G b I A J tw 17 0 0 (by omega) (by omega) rfl
def tkN (cd : CD) (I : Nat → Int32) (A : Nat → Nat → Int32) : Int32 := vOf (nmF (pcI (coS I A)) (grS I A) (lhS cd I A) 0 (I 13) (pcI (I 12))) cd.2.2
def tkS (cd : CD) (I : Nat → Int32) (A : Nat → Nat → Int32) : Bool := !decide (tkN cd I A = 0)
set_option maxHeartbeats 4000000 in
set_option maxRecDepth 100000 in
theorem t_X12_isTaken (G : GT) (b : Nat → Nat) (I : Nat → Int32) (A : Nat → Nat → Int32) (J : Nat → Int32) (tw : Int64) (t : Nat) (cd : CD) (hT : TxOk A t cd) (h4 : I 4 = nI t)  : Ct G mX12_isTaken 44 0 0 [.ref (b 0)] (MW G b I A J tw) (Pj G b (b01 (tkS cd I A)) (I) (A)) := by
  refine Ct.intro [(0, .ref (b 0))] (by decide) rfl (Nat.le_of_ble_eq_true rfl) ?_
  refine z_aload_n d_X12_isTaken_0 0 rfl ?_
  refine z_aload_n d_X12_isTaken_1 0 rfl ?_
  refine z_get (v := .int (I 4)) 0 f_X12_131_12 rfl rfl d_X12_isTaken_2 ?_
  refine z_aload_n d_X12_isTaken_5 0 rfl ?_
  refine z_callVp 0 c_X12_321 (t_X12_covered G b I A J tw) rfl rfl rfl rfl (Nat.le_of_ble_eq_true rfl) rfl d_X12_isTaken_6 ?_
  refine z_callSp c_X12_119 (t_X12_bitsOf G (coS I A) (MW G b I A J tw)) rfl rfl (Nat.le_of_ble_eq_true rfl) rfl d_X12_isTaken_9 ?_
  refine z_aload_n d_X12_isTaken_12 0 rfl ?_
  refine z_callVp 0 c_X12_324 (t_X12_greens G b I A J tw) rfl rfl rfl rfl (Nat.le_of_ble_eq_true rfl) rfl d_X12_isTaken_13 ?_
  refine z_aload_n d_X12_isTaken_16 0 rfl ?_
  refine z_callV 0 c_X12_318 rfl rfl (t_X12_leastHold G b I A J tw t cd hT h4) rfl rfl (Nat.le_of_ble_eq_true rfl) rfl d_X12_isTaken_17 ?_
  rintro v17 w17 ⟨rfl, J17, tw17, rfl⟩
  refine z_iconst (v := 0) d_X12_isTaken_20 (by decide) ?_
  refine z_aload_n d_X12_isTaken_21 0 rfl ?_
  refine z_get (v := .int (I 13)) 0 f_X12_95_12 rfl rfl d_X12_isTaken_22 ?_
  refine z_aload_n d_X12_isTaken_25 0 rfl ?_
  refine z_get (v := .int (I 12)) 0 f_X12_90_12 rfl rfl d_X12_isTaken_26 ?_
  refine z_callSp c_X12_119 (t_X12_bitsOf G (I 12) (MW G b I A J17 tw17)) rfl rfl (Nat.le_of_ble_eq_true rfl) rfl d_X12_isTaken_29 ?_
  refine z_iconst (v := 2) d_X12_isTaken_32 (by decide) ?_
  refine z_callV 0 c_X12_138 rfl rfl (t_X12_readV G b I A J17 tw17 t cd hT h4 (pcI (coS I A)) (grS I A) (lhS cd I A) 0 (I 13) (pcI (I 12)) 2) rfl rfl (Nat.le_of_ble_eq_true rfl) rfl d_X12_isTaken_33 ?_
  rintro v33 w33 ⟨rfl, J33, tw33, rfl⟩
  refine z_if_eq d_X12_isTaken_36 (fun c_36 => ?_) (fun c_36 => ?_)
  · refine z_iconst (v := 0) d_X12_isTaken_43 (by decide) ?_
    exact z_zret _ d_X12_isTaken_44 rfl (by decide) (Pj.of (by have h9 := c_36; change vOf _ cd.2.2 = 0 at h9; simp only [tkS, tkN]; simp [b01, h9]))
  · refine z_iconst (v := 1) d_X12_isTaken_39 (by decide) ?_
    refine z_goto d_X12_isTaken_40 ?_
    exact z_zret _ d_X12_isTaken_44 rfl (by decide) (Pj.of (by have h9 := c_36; change ¬ vOf _ cd.2.2 = 0 at h9; simp only [tkS, tkN]; simp [b01, h9]))
set_option maxHeartbeats 4000000 in
set_option maxRecDepth 100000 in
theorem t_X12_takes (G : GT) (b : Nat → Nat) (I : Nat → Int32) (A : Nat → Nat → Int32) (J : Nat → Int32) (tw : Int64) (t : Nat) (cd : CD) (hT : TxOk A t cd) (h4 : I 4 = nI t)  : Ct G mX12_takes 45 0 0 [.ref (b 0)] (MW G b I A J tw) (Pj G b (b01 (tkS cd I A)) (I) (A)) := by
  refine Ct.intro [(0, .ref (b 0))] (by decide) rfl (Nat.le_of_ble_eq_true rfl) ?_
  refine z_aload_n d_X12_takes_0 0 rfl ?_
  refine z_callV 0 c_X12_327 rfl rfl (t_X12_isTaken G b I A J tw t cd hT h4) rfl rfl (Nat.le_of_ble_eq_true rfl) rfl d_X12_takes_1 ?_
  rintro v1 w1 ⟨rfl, J1, tw1, rfl⟩
  refine z_if_eq d_X12_takes_4 (fun c_4 => ?_) (fun c_4 => ?_)
  · refine z_iconst (v := 0) d_X12_takes_11 (by decide) ?_
    exact z_iret _ d_X12_takes_12 rfl (Pj.of (by simp only [b01_0, b01_n0] at *; simp [b01, *]))
  · refine z_iconst (v := 1) d_X12_takes_7 (by decide) ?_
    refine z_goto d_X12_takes_8 ?_
    exact z_iret _ d_X12_takes_12 rfl (Pj.of (by simp only [b01_0, b01_n0] at *; simp [b01, *]))
def whN (cd : CD) (I : Nat → Int32) (A : Nat → Nat → Int32) : Nat → Nat → Int32
  | 0, _ => -1
  | f + 1, h => if tkS cd (upd I 13 (I 13 + nI h)) A = true then whN cd I A f (h + 1) else nI h
def whnR (cd : CD) (I : Nat → Int32) (A : Nat → Nat → Int32) : Int32 := if tkS cd I A = true then whN cd I A 200 1 else -3
set_option maxHeartbeats 4000000 in
set_option maxRecDepth 100000 in
theorem l_X12_when (G : GT) (b : Nat → Nat) (I : Nat → Int32) (A : Nat → Nat → Int32) (t : Nat) (cd : CD) (hT : TxOk A t cd) (h4 : I 4 = nI t) (r : Int32) : ∀ (n : Nat)  (h : Nat) (J : Nat → Int32) (tw : Int64) (x fo : Int32) (hk : h ≤ 201) (hm : 201 < h + n) (hr : ¬ fo = -1 → fo = r) (hr2 : fo = -1 → whN cd I A (201 - h) h = r), Tr G mX12_when (Rm 45 0 0) (OM G (Pj G b r I A) 0 0) 0 0 19 [(3, .int (nI h)), (2, .int fo), (1, .int (I 13)), (0, .ref (b 0))] [] (MW G b (upd I 13 x) A J tw) := by
  intro n
  induction n with
  | zero =>
    intro h J tw x fo hk hm hr hr2
    exact absurd hm (by omega)
  | succ n ih =>
    intro h J tw x fo hk hm hr hr2
    refine z_iload_n d_X12_when_19 0 rfl ?_
    refine z_sipush (v := 200) d_X12_when_20 (by decide) ?_
    refine z_icmp_gt d_X12_when_23 (fun c_23 => ?_) (fun c_23 => ?_)
    · refine z_aload_n d_X12_when_57 3 rfl ?_
      refine z_iload_n d_X12_when_58 2 rfl ?_
      refine z_put 0 (MW G b (upd (upd I 13 x) 13 (I 13)) A J tw) p_X12_95_12 rfl rfl rfl (Nat.le_of_ble_eq_true rfl) (mw_13 G b (upd I 13 x) A J tw _) d_X12_when_59 ?_
      refine z_iload_n d_X12_when_62 1 rfl ?_
      exact z_iret _ d_X12_when_63 rfl (Pj.ofw (by first | exact hr c_28 | (have h9 : 201 ≤ h := (by rw [lt_i, nI_i (by omega)] at c_23; have : (200 : Int32).toInt = 200 := (by decide); omega); rw [show 201 - h = 0 by omega] at hr2; by_cases e : fo = -1; (rw [e]; exact hr2 e); exact hr e)) (by rw [upd_upd, upd_self9]) rfl)
    · have h9 : h < 201 := (by rw [lt_i, nI_i (by omega)] at c_23; have : (200 : Int32).toInt = 200 := (by decide); omega)
      refine z_iload_n d_X12_when_26 1 rfl ?_
      refine z_iconst (v := -1) d_X12_when_27 (by decide) ?_
      refine z_icmp_ne d_X12_when_28 (fun c_28 => ?_) (fun c_28 => ?_)
      · refine z_aload_n d_X12_when_57 3 rfl ?_
        refine z_iload_n d_X12_when_58 2 rfl ?_
        refine z_put 0 (MW G b (upd (upd I 13 x) 13 (I 13)) A J tw) p_X12_95_12 rfl rfl rfl (Nat.le_of_ble_eq_true rfl) (mw_13 G b (upd I 13 x) A J tw _) d_X12_when_59 ?_
        refine z_iload_n d_X12_when_62 1 rfl ?_
        exact z_iret _ d_X12_when_63 rfl (Pj.ofw (by first | exact hr c_28 | (have h9 : 201 ≤ h := (by rw [lt_i, nI_i (by omega)] at c_23; have : (200 : Int32).toInt = 200 := (by decide); omega); rw [show 201 - h = 0 by omega] at hr2; by_cases e : fo = -1; (rw [e]; exact hr2 e); exact hr e)) (by rw [upd_upd, upd_self9]) rfl)
      · rw [show 201 - h = (200 - h) + 1 by omega, whN] at hr2
        refine z_aload_n d_X12_when_31 3 rfl ?_
        refine z_iload_n d_X12_when_32 2 rfl ?_
        refine z_iload_n d_X12_when_33 0 rfl ?_
        refine z_iadd d_X12_when_34 ?_
        refine z_put 0 (MW G b (upd (upd I 13 x) 13 ((I 13) + (nI h))) A J tw) p_X12_95_12 rfl rfl rfl (Nat.le_of_ble_eq_true rfl) (mw_13 G b (upd I 13 x) A J tw _) d_X12_when_35 ?_
        refine z_aload_n d_X12_when_38 3 rfl ?_
        refine z_callV 0 c_X12_327 rfl rfl (t_X12_isTaken G b (upd (upd I 13 x) 13 ((I 13) + (nI h))) A J tw t cd hT h4) rfl rfl (Nat.le_of_ble_eq_true rfl) rfl d_X12_when_39 ?_
        rintro v39 w39 ⟨rfl, J39, tw39, rfl⟩
        refine z_if_eq d_X12_when_42 (fun c_42 => ?_) (fun c_42 => ?_)
        · refine z_iload_n d_X12_when_49 0 rfl ?_
          refine z_istore_n [(2, .int (nI h)), (3, .int (nI h)), (1, .int (I 13)), (0, .ref (b 0))] d_X12_when_50 (by decide) rfl ?_
          refine z_iinc (nI (h + 1)) [(3, .int (nI (h + 1))), (2, .int (nI h)), (1, .int (I 13)), (0, .ref (b 0))] 1 d_X12_when_51 rfl (nI_1 _) (by decide) rfl ?_
          refine z_goto d_X12_when_54 ?_
          try rw [upd_upd]
          exact ih (h + 1) _ _ _ (nI h) (by omega) (by omega) (fun _ => by have e9 := hr2 c_28; rw [upd_upd] at c_42; rw [if_neg (by rw [b01_0.mp c_42]; decide)] at e9; exact e9) (fun e => absurd (congrArg Int32.toInt e) (by rw [nI_i (by omega)]; have : (-1 : Int32).toInt = -1 := (by decide); omega))
        · refine z_iconst (v := -1) d_X12_when_45 (by decide) ?_
          refine z_goto d_X12_when_46 ?_
          refine z_istore_n [(2, .int (-1)), (3, .int (nI h)), (1, .int (I 13)), (0, .ref (b 0))] d_X12_when_50 (by decide) rfl ?_
          refine z_iinc (nI (h + 1)) [(3, .int (nI (h + 1))), (2, .int (-1)), (1, .int (I 13)), (0, .ref (b 0))] 1 d_X12_when_51 rfl (nI_1 _) (by decide) rfl ?_
          refine z_goto d_X12_when_54 ?_
          try rw [upd_upd]
          exact ih (h + 1) _ _ _ (-1) (by omega) (by omega) (fun e => absurd rfl e) (fun _ => by have e9 := hr2 c_28; rw [upd_upd] at c_42; rw [if_pos (b01_n0.mp c_42), show 200 - h = 201 - (h + 1) by omega] at e9; exact e9)
set_option maxHeartbeats 4000000 in
set_option maxRecDepth 100000 in
theorem t_X12_when (G : GT) (b : Nat → Nat) (I : Nat → Int32) (A : Nat → Nat → Int32) (J : Nat → Int32) (tw : Int64) (t : Nat) (cd : CD) (hT : TxOk A t cd) (h4 : I 4 = nI t)  : Ct G mX12_when 45 0 0 [.ref (b 0)] (MW G b I A J tw) (Pj G b (whnR cd I A) (I) (A)) := by
  refine Ct.intro [(0, .ref (b 0))] (by decide) rfl (Nat.le_of_ble_eq_true rfl) ?_
  refine z_aload_n d_X12_when_0 0 rfl ?_
  refine z_callV 0 c_X12_327 rfl rfl (t_X12_isTaken G b I A J tw t cd hT h4) rfl rfl (Nat.le_of_ble_eq_true rfl) rfl d_X12_when_1 ?_
  rintro v1 w1 ⟨rfl, J1, tw1, rfl⟩
  refine z_if_ne d_X12_when_4 (fun c_4 => ?_) (fun c_4 => ?_)
  · refine z_aload_n d_X12_when_10 0 rfl ?_
    refine z_get (v := .int (I 13)) 0 f_X12_95_12 rfl rfl d_X12_when_11 ?_
    refine z_istore_n [(1, .int (I 13)), (0, .ref (b 0))] d_X12_when_14 (by decide) rfl ?_
    refine z_iconst (v := -1) d_X12_when_15 (by decide) ?_
    refine z_istore_n [(2, .int (-1)), (1, .int (I 13)), (0, .ref (b 0))] d_X12_when_16 (by decide) rfl ?_
    refine z_iconst (v := 1) d_X12_when_17 (by decide) ?_
    refine z_istore_n [(3, .int 1), (2, .int (-1)), (1, .int (I 13)), (0, .ref (b 0))] d_X12_when_18 (by decide) rfl ?_
    have e9 : MW G b I A J1 tw1 = MW G b (upd I 13 (I 13)) A J1 tw1 := by rw [upd_self9]
    rw [e9, whnR, if_pos (b01_n0.mp c_4)]
    exact l_X12_when G b I A t cd hT h4 _ 201 1 J1 tw1 (I 13) (-1) (by omega) (by omega) (fun e => absurd rfl e) (fun _ => rfl)
  · refine z_bipush (v := -3) d_X12_when_7 (by decide) ?_
    exact z_iret _ d_X12_when_9 rfl (Pj.of (by rw [whnR, if_neg (by rw [b01_0.mp c_4]; decide)]))
def brP (I : Nat → Int32) (A : Nat → Nat → Int32) (la : Int32) (k : Nat) : Bool := isS I (nI k) && !decide (I 13 - A 10 k + la < I 14)
def brS (I : Nat → Int32) (A : Nat → Nat → Int32) (la : Int32) : Int32 := if inB la 0 999 = true then orS (brP I A la) 16 else -2
theorem L_999 : (999 : Int64).toInt = 999 := by decide
theorem L_8 : (8 : Int64).toInt = 8 := by decide
theorem L_2 : (2 : Int64).toInt = 2 := by decide
theorem L_12 : (12 : Int64).toInt = 12 := by decide
theorem L_m1 : (-1 : Int64).toInt = -1 := by decide
theorem L_3 : (3 : Int64).toInt = 3 := by decide
theorem L_4 : (4 : Int64).toInt = 4 := by decide
set_option maxHeartbeats 4000000 in
set_option maxRecDepth 100000 in
theorem l_X12_brown (G : GT) (b : Nat → Nat) (I : Nat → Int32) (A : Nat → Nat → Int32) (J : Nat → Int32) (tw : Int64) (la : Int32) : ∀ (n : Nat)  (k : Nat) (a : Int32) (hk : k ≤ 16) (hm : 16 < k + n) (ha : a = itL (orF (brP I A la)) 0 k), Tr G mX12_brown (Rm 2 0 0) (OM G (Pi (orS (brP I A la) 16) (MW G b I A J tw)) 0 0) 0 0 19 [(3, .int (nI k)), (2, .int a), (1, .int la), (0, .ref (b 0))] [] (MW G b I A J tw) := by
  intro n
  induction n with
  | zero =>
    intro k a hk hm ha
    exact absurd hm (by omega)
  | succ n ih =>
    intro k a hk hm ha
    refine z_iload_n d_X12_brown_19 0 rfl ?_
    refine z_bipush (v := 16) d_X12_brown_20 (by decide) ?_
    refine z_icmp_ge d_X12_brown_22 (fun c_22 => ?_) (fun c_22 => ?_)
    · refine z_iload_n d_X12_brown_63 1 rfl ?_
      exact z_iret _ d_X12_brown_64 rfl (Pi.of (by have h9 := ge_nI (N := 16) (by omega) (by decide) c_22; rw [ha, show k = 16 by omega]; rfl))
    · have h9 := lt_nI (N := 16) (by omega) (by decide) c_22
      refine z_iload_n d_X12_brown_25 1 rfl ?_
      refine z_aload_n d_X12_brown_26 3 rfl ?_
      refine z_iload_n d_X12_brown_27 0 rfl ?_
      refine z_callVp 0 c_X12_116 (t_X12_isStrip G b I A J tw (nI k)) rfl rfl rfl rfl (Nat.le_of_ble_eq_true rfl) rfl d_X12_brown_28 ?_
      refine z_if_eq d_X12_brown_31 (fun c_31 => ?_) (fun c_31 => ?_)
      · refine z_iconst (v := 0) d_X12_brown_54 (by decide) ?_
        refine z_ior d_X12_brown_55 ?_
        refine z_istore_n [(2, .int (a ||| 0)), (3, .int (nI k)), (1, .int la), (0, .ref (b 0))] d_X12_brown_56 (by decide) rfl ?_
        refine z_iinc (nI (k + 1)) [(3, .int (nI (k + 1))), (2, .int (a ||| 0)), (1, .int la), (0, .ref (b 0))] 1 d_X12_brown_57 rfl (nI_1 _) (by decide) rfl ?_
        refine z_goto d_X12_brown_60 ?_
        exact ih (k + 1) _ (by omega) (by omega) (by rw [itL, orF, ← ha]; clear ha ih; simp only [b01_0, b01_n0] at *; simp [brP, *])
      · refine z_aload_n d_X12_brown_34 3 rfl ?_
        refine z_iload_n d_X12_brown_35 0 rfl ?_
        refine z_callVp 0 c_X12_124 (t_X12_ageOf G b I A J tw k (by omega)) rfl rfl rfl rfl (Nat.le_of_ble_eq_true rfl) rfl d_X12_brown_36 ?_
        refine z_iload_n d_X12_brown_39 2 rfl ?_
        refine z_iadd d_X12_brown_40 ?_
        refine z_aload_n d_X12_brown_41 3 rfl ?_
        refine z_get (v := .int (I 14)) 0 f_X12_38_12 rfl rfl d_X12_brown_42 ?_
        refine z_icmp_lt d_X12_brown_45 (fun c_45 => ?_) (fun c_45 => ?_)
        · refine z_iconst (v := 0) d_X12_brown_54 (by decide) ?_
          refine z_ior d_X12_brown_55 ?_
          refine z_istore_n [(2, .int (a ||| 0)), (3, .int (nI k)), (1, .int la), (0, .ref (b 0))] d_X12_brown_56 (by decide) rfl ?_
          refine z_iinc (nI (k + 1)) [(3, .int (nI (k + 1))), (2, .int (a ||| 0)), (1, .int la), (0, .ref (b 0))] 1 d_X12_brown_57 rfl (nI_1 _) (by decide) rfl ?_
          refine z_goto d_X12_brown_60 ?_
          exact ih (k + 1) _ (by omega) (by omega) (by rw [itL, orF, ← ha]; clear ha ih; simp only [b01_0, b01_n0] at *; simp [brP, *])
        · refine z_iconst (v := 1) d_X12_brown_48 (by decide) ?_
          refine z_iload_n d_X12_brown_49 0 rfl ?_
          refine z_ishl d_X12_brown_50 ?_
          refine z_goto d_X12_brown_51 ?_
          refine z_ior d_X12_brown_55 ?_
          refine z_istore_n [(2, .int (a ||| (1 <<< ((nI k) &&& 31)))), (3, .int (nI k)), (1, .int la), (0, .ref (b 0))] d_X12_brown_56 (by decide) rfl ?_
          refine z_iinc (nI (k + 1)) [(3, .int (nI (k + 1))), (2, .int (a ||| (1 <<< ((nI k) &&& 31)))), (1, .int la), (0, .ref (b 0))] 1 d_X12_brown_57 rfl (nI_1 _) (by decide) rfl ?_
          refine z_goto d_X12_brown_60 ?_
          exact ih (k + 1) _ (by omega) (by omega) (by rw [itL, orF, ← ha]; clear ha ih; simp only [b01_0, b01_n0] at *; simp [brP, *])
set_option maxHeartbeats 4000000 in
set_option maxRecDepth 100000 in
theorem t_X12_brown (G : GT) (b : Nat → Nat) (I : Nat → Int32) (A : Nat → Nat → Int32) (J : Nat → Int32) (tw : Int64) (la : Int32)  : Ct G mX12_brown 2 0 0 [.ref (b 0), .int la] (MW G b I A J tw) (Pi (brS I A la) (MW G b I A J tw)) := by
  refine Ct.intro [(0, .ref (b 0)), (1, .int la)] (by decide) rfl (Nat.le_of_ble_eq_true rfl) ?_
  refine z_iload_n d_X12_brown_0 1 rfl ?_
  refine z_i2l d_X12_brown_1 ?_
  refine z_lconst (v := 0) d_X12_brown_2 (by decide) ?_
  refine z_ldc2 d_X12_brown_3 w_1317 ?_
  refine z_callSp c_X12_82 (t_X12_in G la.toInt64 0 999 (MW G b I A J tw)) rfl rfl (Nat.le_of_ble_eq_true rfl) rfl d_X12_brown_6 ?_
  refine z_if_ne d_X12_brown_9 (fun c_9 => ?_) (fun c_9 => ?_)
  · refine z_iconst (v := 0) d_X12_brown_15 (by decide) ?_
    refine z_istore_n [(2, .int 0), (0, .ref (b 0)), (1, .int la)] d_X12_brown_16 (by decide) rfl ?_
    refine z_iconst (v := 0) d_X12_brown_17 (by decide) ?_
    refine z_istore_n [(3, .int 0), (2, .int 0), (0, .ref (b 0)), (1, .int la)] d_X12_brown_18 (by decide) rfl ?_
    refine z_perm [0, 1, 3, 2] rfl ?_
    have e9 : brS I A la = orS (brP I A la) 16 := by simp only [in_b, b01_0, b01_n0, L_0, L_999] at *; simp only [brS, inB, c_9, ↓reduceIte]
    rw [e9]
    exact l_X12_brown G b I A J tw la 17 0 0 (by omega) (by omega) rfl
  · refine z_bipush (v := -2) d_X12_brown_12 (by decide) ?_
    exact z_iret _ d_X12_brown_14 rfl (Pi.of (by simp only [in_b, b01_0, b01_n0, L_0, L_999] at *; simp [brS, inB, *]))
