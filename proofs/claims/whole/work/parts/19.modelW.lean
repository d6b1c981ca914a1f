/-! THE REFERENCE: holes, pulls, least pull, best, build -/
theorem xy_ok {k : Nat} (h : k < 25) : (0 ≤ (irm (nI k) 5).toInt ∧ (irm (nI k) 5).toInt ≤ 4) ∧ 0 ≤ (nI k / 5).toInt ∧ (nI k / 5).toInt ≤ 4 := by
  have e : (nI k).toInt = (k : Int) := nI_i (by omega)
  rw [irm_i (by omega) (by decide), div_i (by omega) (by decide), e, i_5]
  omega
def hoP (set : Int32) (k : Nat) : Bool := decide (set >>> (nI k &&& 31) &&& 1 = 0) && (!decide (byS set (irm (nI k) 5) (nI k / 5) (-1) 0 = 0) && (!decide (byS set (irm (nI k) 5) (nI k / 5) 1 0 = 0) && (!decide (byS set (irm (nI k) 5) (nI k / 5) 0 (-1) = 0) && !decide (byS set (irm (nI k) 5) (nI k / 5) 0 1 = 0))))
theorem hoP_iff {set : Int32} {k : Nat} : hoP set k = true ↔ set >>> (nI k &&& 31) &&& 1 = 0 ∧ ¬ byS set (irm (nI k) 5) (nI k / 5) (-1) 0 = 0 ∧ ¬ byS set (irm (nI k) 5) (nI k / 5) 1 0 = 0 ∧ ¬ byS set (irm (nI k) 5) (nI k / 5) 0 (-1) = 0 ∧ ¬ byS set (irm (nI k) 5) (nI k / 5) 0 1 = 0 := by
  simp only [hoP, Bool.and_eq_true, decide_eq_true_eq, Bool.not_eq_true', decide_eq_false_iff_not]
def hlS (I : Nat → Int32) (A : Nat → Nat → Int32) : Int32 := orS (hoP (coS I A)) 25
set_option maxHeartbeats 4000000 in
set_option maxRecDepth 100000 in
theorem l_X12_holes (G : GT) (b : Nat → Nat) (I : Nat → Int32) (A : Nat → Nat → Int32) (J : Nat → Int32) (tw : Int64) (set : Int32) : ∀ (n : Nat)  (k : Nat) (x4 x5 x6 : Int32) (a : Int32) (hk : k ≤ 25) (hm : 25 < k + n) (ha : a = itL (orF (hoP set)) 0 k), Tr G mX12_holes (Rm 3 0 0) (OM G (Pi (orS (hoP set) 25) (MW G b I A J tw)) 0 0) 0 0 9 [(3, .int (nI k)), (2, .int a), (1, .int set), (0, .ref (b 0))] [] (MW G b I A J tw) := by
  intro n
  induction n with
  | zero =>
    intro k x4 x5 x6 a hk hm ha
    exact absurd hm (by omega)
  | succ n ih =>
    intro k x4 x5 x6 a hk hm ha
    refine z_iload_n d_X12_holes_9 0 rfl ?_
    refine z_bipush (v := 25) d_X12_holes_10 (by decide) ?_
    refine z_icmp_ge d_X12_holes_12 (fun c_12 => ?_) (fun c_12 => ?_)
    · refine z_iload_n d_X12_holes_113 1 rfl ?_
      exact z_iret _ d_X12_holes_114 rfl (Pi.of (by have h9 := ge_nI (N := 25) (by omega) (by decide) c_12; rw [ha, show k = 25 by omega]; rfl))
    · have hlt : k < 25 := lt_nI (by omega) (by decide) c_12
      refine z_iload_n d_X12_holes_15 0 rfl ?_
      refine z_iconst (v := 5) d_X12_holes_16 (by decide) ?_
      refine z_irm d_X12_holes_17 (by decide) ?_
      refine z_istore [(4, .int (irm (nI k) 5)), (3, .int (nI k)), (2, .int a), (1, .int set), (0, .ref (b 0))] d_X12_holes_18 (by decide) rfl ?_
      refine z_iload_n d_X12_holes_20 1 rfl ?_
      refine z_iconst (v := 5) d_X12_holes_21 (by decide) ?_
      refine z_idiv d_X12_holes_22 (by decide) ?_
      refine z_istore [(5, .int ((nI k) / 5)), (4, .int (irm (nI k) 5)), (3, .int (nI k)), (2, .int a), (1, .int set), (0, .ref (b 0))] d_X12_holes_23 (by decide) rfl ?_
      refine z_iload_n d_X12_holes_25 4 rfl ?_
      refine z_iload_n d_X12_holes_26 2 rfl ?_
      refine z_ishr d_X12_holes_27 ?_
      refine z_iconst (v := 1) d_X12_holes_28 (by decide) ?_
      refine z_iand d_X12_holes_29 ?_
      refine z_if_ne d_X12_holes_30 (fun c_30 => ?_) (fun c_30 => ?_)
      · refine z_iconst (v := 0) d_X12_holes_89 (by decide) ?_
        refine z_istore [(6, .int 0), (5, .int ((nI k) / 5)), (4, .int (irm (nI k) 5)), (3, .int (nI k)), (2, .int a), (1, .int set), (0, .ref (b 0))] d_X12_holes_90 (by decide) rfl ?_
        refine z_iload_n d_X12_holes_92 4 rfl ?_
        refine z_iload d_X12_holes_93 0 rfl ?_
        refine z_if_eq d_X12_holes_95 (fun c_95 => ?_) (fun c_95 => ?_)
        rotate_left
        · exact absurd c_95 (by decide)
        refine z_iconst (v := 0) d_X12_holes_104 (by decide) ?_
        refine z_ior d_X12_holes_105 ?_
        refine z_istore_n [(2, .int (a ||| 0)), (6, .int 0), (5, .int ((nI k) / 5)), (4, .int (irm (nI k) 5)), (3, .int (nI k)), (1, .int set), (0, .ref (b 0))] d_X12_holes_106 (by decide) rfl ?_
        refine z_iinc (nI (k + 1)) [(3, .int (nI (k + 1))), (2, .int (a ||| 0)), (6, .int 0), (5, .int ((nI k) / 5)), (4, .int (irm (nI k) 5)), (1, .int set), (0, .ref (b 0))] 4 d_X12_holes_107 rfl (nI_1 _) (by decide) rfl ?_
        refine z_goto d_X12_holes_110 ?_
        refine z_perm [0, 1, 5, 6] rfl ?_
        exact ih (k + 1) x4 x5 x6 _ (by omega) (by omega) (by rw [itL, orF, ← ha]; first | rw [if_pos (hoP_iff.mpr ⟨c_30, c_43, c_56, c_69, c_82⟩)] | rw [if_neg (fun e => by have e1 := hoP_iff.mp e; first | exact c_30 e1.1 | exact e1.2.1 c_43 | exact e1.2.2.1 c_56 | exact e1.2.2.2.1 c_69 | exact e1.2.2.2.2 c_82)])
      · refine z_iload_n d_X12_holes_33 4 rfl ?_
        refine z_iload d_X12_holes_34 1 rfl ?_
        refine z_iload d_X12_holes_36 0 rfl ?_
        refine z_iconst (v := -1) d_X12_holes_38 (by decide) ?_
        refine z_iconst (v := 0) d_X12_holes_39 (by decide) ?_
        refine z_callSp c_X12_332 (t_X12_isBeyond G set (irm (nI k) 5) ((nI k) / 5) (-1) 0 (by unfold Dir; decide) (xy_ok hlt).1 (xy_ok hlt).2 (MW G b I A J tw)) rfl rfl (Nat.le_of_ble_eq_true rfl) rfl d_X12_holes_40 ?_
        refine z_if_eq d_X12_holes_43 (fun c_43 => ?_) (fun c_43 => ?_)
        · refine z_iconst (v := 0) d_X12_holes_89 (by decide) ?_
          refine z_istore [(6, .int 0), (5, .int ((nI k) / 5)), (4, .int (irm (nI k) 5)), (3, .int (nI k)), (2, .int a), (1, .int set), (0, .ref (b 0))] d_X12_holes_90 (by decide) rfl ?_
          refine z_iload_n d_X12_holes_92 4 rfl ?_
          refine z_iload d_X12_holes_93 0 rfl ?_
          refine z_if_eq d_X12_holes_95 (fun c_95 => ?_) (fun c_95 => ?_)
          rotate_left
          · exact absurd c_95 (by decide)
          refine z_iconst (v := 0) d_X12_holes_104 (by decide) ?_
          refine z_ior d_X12_holes_105 ?_
          refine z_istore_n [(2, .int (a ||| 0)), (6, .int 0), (5, .int ((nI k) / 5)), (4, .int (irm (nI k) 5)), (3, .int (nI k)), (1, .int set), (0, .ref (b 0))] d_X12_holes_106 (by decide) rfl ?_
          refine z_iinc (nI (k + 1)) [(3, .int (nI (k + 1))), (2, .int (a ||| 0)), (6, .int 0), (5, .int ((nI k) / 5)), (4, .int (irm (nI k) 5)), (1, .int set), (0, .ref (b 0))] 4 d_X12_holes_107 rfl (nI_1 _) (by decide) rfl ?_
          refine z_goto d_X12_holes_110 ?_
          refine z_perm [0, 1, 5, 6] rfl ?_
          exact ih (k + 1) x4 x5 x6 _ (by omega) (by omega) (by rw [itL, orF, ← ha]; first | rw [if_pos (hoP_iff.mpr ⟨c_30, c_43, c_56, c_69, c_82⟩)] | rw [if_neg (fun e => by have e1 := hoP_iff.mp e; first | exact c_30 e1.1 | exact e1.2.1 c_43 | exact e1.2.2.1 c_56 | exact e1.2.2.2.1 c_69 | exact e1.2.2.2.2 c_82)])
        · refine z_iload_n d_X12_holes_46 4 rfl ?_
          refine z_iload d_X12_holes_47 1 rfl ?_
          refine z_iload d_X12_holes_49 0 rfl ?_
          refine z_iconst (v := 1) d_X12_holes_51 (by decide) ?_
          refine z_iconst (v := 0) d_X12_holes_52 (by decide) ?_
          refine z_callSp c_X12_332 (t_X12_isBeyond G set (irm (nI k) 5) ((nI k) / 5) 1 0 (by unfold Dir; decide) (xy_ok hlt).1 (xy_ok hlt).2 (MW G b I A J tw)) rfl rfl (Nat.le_of_ble_eq_true rfl) rfl d_X12_holes_53 ?_
          refine z_if_eq d_X12_holes_56 (fun c_56 => ?_) (fun c_56 => ?_)
          · refine z_iconst (v := 0) d_X12_holes_89 (by decide) ?_
            refine z_istore [(6, .int 0), (5, .int ((nI k) / 5)), (4, .int (irm (nI k) 5)), (3, .int (nI k)), (2, .int a), (1, .int set), (0, .ref (b 0))] d_X12_holes_90 (by decide) rfl ?_
            refine z_iload_n d_X12_holes_92 4 rfl ?_
            refine z_iload d_X12_holes_93 0 rfl ?_
            refine z_if_eq d_X12_holes_95 (fun c_95 => ?_) (fun c_95 => ?_)
            rotate_left
            · exact absurd c_95 (by decide)
            refine z_iconst (v := 0) d_X12_holes_104 (by decide) ?_
            refine z_ior d_X12_holes_105 ?_
            refine z_istore_n [(2, .int (a ||| 0)), (6, .int 0), (5, .int ((nI k) / 5)), (4, .int (irm (nI k) 5)), (3, .int (nI k)), (1, .int set), (0, .ref (b 0))] d_X12_holes_106 (by decide) rfl ?_
            refine z_iinc (nI (k + 1)) [(3, .int (nI (k + 1))), (2, .int (a ||| 0)), (6, .int 0), (5, .int ((nI k) / 5)), (4, .int (irm (nI k) 5)), (1, .int set), (0, .ref (b 0))] 4 d_X12_holes_107 rfl (nI_1 _) (by decide) rfl ?_
            refine z_goto d_X12_holes_110 ?_
            refine z_perm [0, 1, 5, 6] rfl ?_
            exact ih (k + 1) x4 x5 x6 _ (by omega) (by omega) (by rw [itL, orF, ← ha]; first | rw [if_pos (hoP_iff.mpr ⟨c_30, c_43, c_56, c_69, c_82⟩)] | rw [if_neg (fun e => by have e1 := hoP_iff.mp e; first | exact c_30 e1.1 | exact e1.2.1 c_43 | exact e1.2.2.1 c_56 | exact e1.2.2.2.1 c_69 | exact e1.2.2.2.2 c_82)])
          · refine z_iload_n d_X12_holes_59 4 rfl ?_
            refine z_iload d_X12_holes_60 1 rfl ?_
            refine z_iload d_X12_holes_62 0 rfl ?_
            refine z_iconst (v := 0) d_X12_holes_64 (by decide) ?_
            refine z_iconst (v := -1) d_X12_holes_65 (by decide) ?_
            refine z_callSp c_X12_332 (t_X12_isBeyond G set (irm (nI k) 5) ((nI k) / 5) 0 (-1) (by unfold Dir; decide) (xy_ok hlt).1 (xy_ok hlt).2 (MW G b I A J tw)) rfl rfl (Nat.le_of_ble_eq_true rfl) rfl d_X12_holes_66 ?_
            refine z_if_eq d_X12_holes_69 (fun c_69 => ?_) (fun c_69 => ?_)
            · refine z_iconst (v := 0) d_X12_holes_89 (by decide) ?_
              refine z_istore [(6, .int 0), (5, .int ((nI k) / 5)), (4, .int (irm (nI k) 5)), (3, .int (nI k)), (2, .int a), (1, .int set), (0, .ref (b 0))] d_X12_holes_90 (by decide) rfl ?_
              refine z_iload_n d_X12_holes_92 4 rfl ?_
              refine z_iload d_X12_holes_93 0 rfl ?_
              refine z_if_eq d_X12_holes_95 (fun c_95 => ?_) (fun c_95 => ?_)
              rotate_left
              · exact absurd c_95 (by decide)
              refine z_iconst (v := 0) d_X12_holes_104 (by decide) ?_
              refine z_ior d_X12_holes_105 ?_
              refine z_istore_n [(2, .int (a ||| 0)), (6, .int 0), (5, .int ((nI k) / 5)), (4, .int (irm (nI k) 5)), (3, .int (nI k)), (1, .int set), (0, .ref (b 0))] d_X12_holes_106 (by decide) rfl ?_
              refine z_iinc (nI (k + 1)) [(3, .int (nI (k + 1))), (2, .int (a ||| 0)), (6, .int 0), (5, .int ((nI k) / 5)), (4, .int (irm (nI k) 5)), (1, .int set), (0, .ref (b 0))] 4 d_X12_holes_107 rfl (nI_1 _) (by decide) rfl ?_
              refine z_goto d_X12_holes_110 ?_
              refine z_perm [0, 1, 5, 6] rfl ?_
              exact ih (k + 1) x4 x5 x6 _ (by omega) (by omega) (by rw [itL, orF, ← ha]; first | rw [if_pos (hoP_iff.mpr ⟨c_30, c_43, c_56, c_69, c_82⟩)] | rw [if_neg (fun e => by have e1 := hoP_iff.mp e; first | exact c_30 e1.1 | exact e1.2.1 c_43 | exact e1.2.2.1 c_56 | exact e1.2.2.2.1 c_69 | exact e1.2.2.2.2 c_82)])
            · refine z_iload_n d_X12_holes_72 4 rfl ?_
              refine z_iload d_X12_holes_73 1 rfl ?_
              refine z_iload d_X12_holes_75 0 rfl ?_
              refine z_iconst (v := 0) d_X12_holes_77 (by decide) ?_
              refine z_iconst (v := 1) d_X12_holes_78 (by decide) ?_
              refine z_callSp c_X12_332 (t_X12_isBeyond G set (irm (nI k) 5) ((nI k) / 5) 0 1 (by unfold Dir; decide) (xy_ok hlt).1 (xy_ok hlt).2 (MW G b I A J tw)) rfl rfl (Nat.le_of_ble_eq_true rfl) rfl d_X12_holes_79 ?_
              refine z_if_eq d_X12_holes_82 (fun c_82 => ?_) (fun c_82 => ?_)
              · refine z_iconst (v := 0) d_X12_holes_89 (by decide) ?_
                refine z_istore [(6, .int 0), (5, .int ((nI k) / 5)), (4, .int (irm (nI k) 5)), (3, .int (nI k)), (2, .int a), (1, .int set), (0, .ref (b 0))] d_X12_holes_90 (by decide) rfl ?_
                refine z_iload_n d_X12_holes_92 4 rfl ?_
                refine z_iload d_X12_holes_93 0 rfl ?_
                refine z_if_eq d_X12_holes_95 (fun c_95 => ?_) (fun c_95 => ?_)
                rotate_left
                · exact absurd c_95 (by decide)
                refine z_iconst (v := 0) d_X12_holes_104 (by decide) ?_
                refine z_ior d_X12_holes_105 ?_
                refine z_istore_n [(2, .int (a ||| 0)), (6, .int 0), (5, .int ((nI k) / 5)), (4, .int (irm (nI k) 5)), (3, .int (nI k)), (1, .int set), (0, .ref (b 0))] d_X12_holes_106 (by decide) rfl ?_
                refine z_iinc (nI (k + 1)) [(3, .int (nI (k + 1))), (2, .int (a ||| 0)), (6, .int 0), (5, .int ((nI k) / 5)), (4, .int (irm (nI k) 5)), (1, .int set), (0, .ref (b 0))] 4 d_X12_holes_107 rfl (nI_1 _) (by decide) rfl ?_
                refine z_goto d_X12_holes_110 ?_
                refine z_perm [0, 1, 5, 6] rfl ?_
                exact ih (k + 1) x4 x5 x6 _ (by omega) (by omega) (by rw [itL, orF, ← ha]; first | rw [if_pos (hoP_iff.mpr ⟨c_30, c_43, c_56, c_69, c_82⟩)] | rw [if_neg (fun e => by have e1 := hoP_iff.mp e; first | exact c_30 e1.1 | exact e1.2.1 c_43 | exact e1.2.2.1 c_56 | exact e1.2.2.2.1 c_69 | exact e1.2.2.2.2 c_82)])
              · refine z_iconst (v := 1) d_X12_holes_85 (by decide) ?_
                refine z_goto d_X12_holes_86 ?_
                refine z_istore [(6, .int 1), (5, .int ((nI k) / 5)), (4, .int (irm (nI k) 5)), (3, .int (nI k)), (2, .int a), (1, .int set), (0, .ref (b 0))] d_X12_holes_90 (by decide) rfl ?_
                refine z_iload_n d_X12_holes_92 4 rfl ?_
                refine z_iload d_X12_holes_93 0 rfl ?_
                refine z_if_eq d_X12_holes_95 (fun c_95 => ?_) (fun c_95 => ?_)
                · exact absurd c_95 (by decide)
                refine z_iconst (v := 1) d_X12_holes_98 (by decide) ?_
                refine z_iload_n d_X12_holes_99 3 rfl ?_
                refine z_ishl d_X12_holes_100 ?_
                refine z_goto d_X12_holes_101 ?_
                refine z_ior d_X12_holes_105 ?_
                refine z_istore_n [(2, .int (a ||| (1 <<< ((nI k) &&& 31)))), (6, .int 1), (5, .int ((nI k) / 5)), (4, .int (irm (nI k) 5)), (3, .int (nI k)), (1, .int set), (0, .ref (b 0))] d_X12_holes_106 (by decide) rfl ?_
                refine z_iinc (nI (k + 1)) [(3, .int (nI (k + 1))), (2, .int (a ||| (1 <<< ((nI k) &&& 31)))), (6, .int 1), (5, .int ((nI k) / 5)), (4, .int (irm (nI k) 5)), (1, .int set), (0, .ref (b 0))] 4 d_X12_holes_107 rfl (nI_1 _) (by decide) rfl ?_
                refine z_goto d_X12_holes_110 ?_
                refine z_perm [0, 1, 5, 6] rfl ?_
                exact ih (k + 1) x4 x5 x6 _ (by omega) (by omega) (by rw [itL, orF, ← ha]; first | rw [if_pos (hoP_iff.mpr ⟨c_30, c_43, c_56, c_69, c_82⟩)] | rw [if_neg (fun e => by have e1 := hoP_iff.mp e; first | exact c_30 e1.1 | exact e1.2.1 c_43 | exact e1.2.2.1 c_56 | exact e1.2.2.2.1 c_69 | exact e1.2.2.2.2 c_82)])
set_option maxHeartbeats 4000000 in
set_option maxRecDepth 100000 in
theorem t_X12_holes (G : GT) (b : Nat → Nat) (I : Nat → Int32) (A : Nat → Nat → Int32) (J : Nat → Int32) (tw : Int64)  : Ct G mX12_holes 3 0 0 [.ref (b 0)] (MW G b I A J tw) (Pi (hlS I A) (MW G b I A J tw)) := by
  refine Ct.intro [(0, .ref (b 0))] (by decide) rfl (Nat.le_of_ble_eq_true rfl) ?_
  refine z_aload_n d_X12_holes_0 0 rfl ?_
  refine z_callVp 0 c_X12_321 (t_X12_covered G b I A J tw) rfl rfl rfl rfl (Nat.le_of_ble_eq_true rfl) rfl d_X12_holes_1 ?_
  refine z_istore_n [(1, .int (coS I A)), (0, .ref (b 0))] d_X12_holes_4 (by decide) rfl ?_
  refine z_iconst (v := 0) d_X12_holes_5 (by decide) ?_
  refine z_istore_n [(2, .int 0), (1, .int (coS I A)), (0, .ref (b 0))] d_X12_holes_6 (by decide) rfl ?_
  refine z_iconst (v := 0) d_X12_holes_7 (by decide) ?_
  refine z_istore_n [(3, .int 0), (2, .int 0), (1, .int (coS I A)), (0, .ref (b 0))] d_X12_holes_8 (by decide) rfl ?_
  exact l_X12_holes G b I A J tw (coS I A) 26 0 0 0 0 0 (by omega) (by omega) rfl
def clS (hl many : Int32) : Int32 × Int32 := itL (bsF (fun k => okW (whS k many)) (fun k => whS k many) (fun k => pcI (cvS (whS k many) &&& hl))) (-1, 0) 50
def sel2 (what : Int32) (p : Int32 × Int32) : Int32 := if what = 0 then p.1 else p.2
def clR (I : Nat → Int32) (A : Nat → Nat → Int32) (many what : Int32) : Int32 := if (inB many 1 5 && inB what 0 1) = true then (if hlS I A = 0 then -1 else sel2 what (clS (hlS I A) many)) else -2
set_option maxHeartbeats 4000000 in
set_option maxRecDepth 100000 in
theorem l_X12_closes (G : GT) (b : Nat → Nat) (I : Nat → Int32) (A : Nat → Nat → Int32) (J : Nat → Int32) (tw : Int64) (many what hl : Int32) : ∀ (n : Nat)  (k : Nat) (a1 a2 : Int32) (hk : k ≤ 50) (hm : 50 < k + n) (ha : (a1, a2) = itL (bsF (fun k => okW (whS k many)) (fun k => whS k many) (fun k => pcI (cvS (whS k many) &&& hl))) (-1, 0) k), Tr G mX12_closes (Rm 4 0 0) (OM G (Pi (sel2 what (clS hl many)) (MW G b I A J tw)) 0 0) 0 0 45 [(6, .int (nI k)), (5, .int a2), (4, .int a1), (3, .int hl), (2, .int what), (1, .int many), (0, .ref (b 0))] [] (MW G b I A J tw) := by
  intro n
  induction n with
  | zero =>
    intro k a1 a2 hk hm ha
    exact absurd hm (by omega)
  | succ n ih =>
    intro k a1 a2 hk hm ha
    refine z_iload d_X12_closes_45 0 rfl ?_
    refine z_bipush (v := 50) d_X12_closes_47 (by decide) ?_
    refine z_icmp_ge d_X12_closes_49 (fun c_49 => ?_) (fun c_49 => ?_)
    · refine z_iload_n d_X12_closes_122 4 rfl ?_
      refine z_if_ne d_X12_closes_123 (fun c_123 => ?_) (fun c_123 => ?_)
      · refine z_iload d_X12_closes_131 1 rfl ?_
        exact z_iret _ d_X12_closes_133 rfl (Pi.of (by have h9 := ge_nI (N := 50) (by omega) (by decide) c_49; rw [clS, ← show k = 50 by omega, ← ha, sel2]; simp only [c_123, ↓reduceIte]))
      · refine z_iload d_X12_closes_126 2 rfl ?_
        refine z_goto d_X12_closes_128 ?_
        exact z_iret _ d_X12_closes_133 rfl (Pi.of (by have h9 := ge_nI (N := 50) (by omega) (by decide) c_49; rw [clS, ← show k = 50 by omega, ← ha, sel2]; simp only [c_123, ↓reduceIte]))
    · have h9 := lt_nI (N := 50) (by omega) (by decide) c_49
      refine z_iload d_X12_closes_52 0 rfl ?_
      refine z_iload_n d_X12_closes_54 5 rfl ?_
      refine z_callSp c_X12_312 (t_X12_where G k many (MW G b I A J tw)) rfl rfl (Nat.le_of_ble_eq_true rfl) rfl d_X12_closes_55 ?_
      refine z_istore [(7, .int (whS k many)), (6, .int (nI k)), (5, .int a2), (4, .int a1), (3, .int hl), (2, .int what), (1, .int many), (0, .ref (b 0))] d_X12_closes_58 (by decide) rfl ?_
      refine z_iload d_X12_closes_60 0 rfl ?_
      refine z_callSp c_X12_102 (t_X12_isWhere G (whS k many) (MW G b I A J tw)) rfl rfl (Nat.le_of_ble_eq_true rfl) rfl d_X12_closes_62 ?_
      refine z_if_eq d_X12_closes_65 (fun c_65 => ?_) (fun c_65 => ?_)
      · refine z_iconst (v := 0) d_X12_closes_81 (by decide) ?_
        refine z_istore [(8, .int 0), (7, .int (whS k many)), (6, .int (nI k)), (5, .int a2), (4, .int a1), (3, .int hl), (2, .int what), (1, .int many), (0, .ref (b 0))] d_X12_closes_82 (by decide) rfl ?_
        refine z_iload d_X12_closes_84 1 rfl ?_
        refine z_callSp c_X12_102 (t_X12_isWhere G (whS k many) (MW G b I A J tw)) rfl rfl (Nat.le_of_ble_eq_true rfl) rfl d_X12_closes_86 ?_
        refine z_if_eq d_X12_closes_89 (fun c_89 => ?_) (fun c_89 => ?_)
        rotate_left
        · exact absurd (b01_0.mp c_65) (by rw [b01_n0.mp c_89]; decide)
        refine z_iinc (nI (k + 1)) [(6, .int (nI (k + 1))), (8, .int 0), (7, .int (whS k many)), (5, .int a2), (4, .int a1), (3, .int hl), (2, .int what), (1, .int many), (0, .ref (b 0))] 2 d_X12_closes_116 rfl (nI_1 _) (by decide) rfl ?_
        refine z_goto d_X12_closes_119 ?_
        refine z_perm [0, 3, 4, 5, 6, 7, 8] rfl ?_
        exact ih (k + 1) a1 a2 (by omega) (by omega) (by rw [itL, bsF, ← ha]; clear ha ih; simp only [b01_0, b01_n0] at *; simp [*])
      · refine z_iload d_X12_closes_68 0 rfl ?_
        refine z_callSp c_X12_98 (t_X12_coversOf G (whS k many) (MW G b I A J tw)) rfl rfl (Nat.le_of_ble_eq_true rfl) rfl d_X12_closes_70 ?_
        refine z_iload_n d_X12_closes_73 4 rfl ?_
        refine z_iand d_X12_closes_74 ?_
        refine z_callSp c_X12_119 (t_X12_bitsOf G ((cvS (whS k many)) &&& hl) (MW G b I A J tw)) rfl rfl (Nat.le_of_ble_eq_true rfl) rfl d_X12_closes_75 ?_
        refine z_goto d_X12_closes_78 ?_
        refine z_istore [(8, .int (pcI ((cvS (whS k many)) &&& hl))), (7, .int (whS k many)), (6, .int (nI k)), (5, .int a2), (4, .int a1), (3, .int hl), (2, .int what), (1, .int many), (0, .ref (b 0))] d_X12_closes_82 (by decide) rfl ?_
        refine z_iload d_X12_closes_84 1 rfl ?_
        refine z_callSp c_X12_102 (t_X12_isWhere G (whS k many) (MW G b I A J tw)) rfl rfl (Nat.le_of_ble_eq_true rfl) rfl d_X12_closes_86 ?_
        refine z_if_eq d_X12_closes_89 (fun c_89 => ?_) (fun c_89 => ?_)
        · exact absurd c_89 (by rw [b01, if_pos (b01_n0.mp c_65)]; decide)
        refine z_iload d_X12_closes_92 4 rfl ?_
        refine z_iconst (v := -1) d_X12_closes_94 (by decide) ?_
        refine z_icmp_eq d_X12_closes_95 (fun c_95 => ?_) (fun c_95 => ?_)
        · refine z_iload d_X12_closes_108 1 rfl ?_
          refine z_istore [(4, .int (whS k many)), (8, .int (pcI ((cvS (whS k many)) &&& hl))), (7, .int (whS k many)), (6, .int (nI k)), (5, .int a2), (3, .int hl), (2, .int what), (1, .int many), (0, .ref (b 0))] d_X12_closes_110 (by decide) rfl ?_
          refine z_iload d_X12_closes_112 1 rfl ?_
          refine z_istore [(5, .int (pcI ((cvS (whS k many)) &&& hl))), (4, .int (whS k many)), (8, .int (pcI ((cvS (whS k many)) &&& hl))), (7, .int (whS k many)), (6, .int (nI k)), (3, .int hl), (2, .int what), (1, .int many), (0, .ref (b 0))] d_X12_closes_114 (by decide) rfl ?_
          refine z_iinc (nI (k + 1)) [(6, .int (nI (k + 1))), (5, .int (pcI ((cvS (whS k many)) &&& hl))), (4, .int (whS k many)), (8, .int (pcI ((cvS (whS k many)) &&& hl))), (7, .int (whS k many)), (3, .int hl), (2, .int what), (1, .int many), (0, .ref (b 0))] 4 d_X12_closes_116 rfl (nI_1 _) (by decide) rfl ?_
          refine z_goto d_X12_closes_119 ?_
          refine z_perm [0, 1, 2, 5, 6, 7, 8] rfl ?_
          exact ih (k + 1) (whS k many) (pcI ((cvS (whS k many)) &&& hl)) (by omega) (by omega) (by rw [itL, bsF, ← ha]; clear ha ih; simp only [b01_0, b01_n0] at *; simp [*])
        · refine z_iload d_X12_closes_98 0 rfl ?_
          refine z_iload d_X12_closes_100 3 rfl ?_
          refine z_icmp_gt d_X12_closes_102 (fun c_102 => ?_) (fun c_102 => ?_)
          · refine z_iload d_X12_closes_108 1 rfl ?_
            refine z_istore [(4, .int (whS k many)), (8, .int (pcI ((cvS (whS k many)) &&& hl))), (7, .int (whS k many)), (6, .int (nI k)), (5, .int a2), (3, .int hl), (2, .int what), (1, .int many), (0, .ref (b 0))] d_X12_closes_110 (by decide) rfl ?_
            refine z_iload d_X12_closes_112 1 rfl ?_
            refine z_istore [(5, .int (pcI ((cvS (whS k many)) &&& hl))), (4, .int (whS k many)), (8, .int (pcI ((cvS (whS k many)) &&& hl))), (7, .int (whS k many)), (6, .int (nI k)), (3, .int hl), (2, .int what), (1, .int many), (0, .ref (b 0))] d_X12_closes_114 (by decide) rfl ?_
            refine z_iinc (nI (k + 1)) [(6, .int (nI (k + 1))), (5, .int (pcI ((cvS (whS k many)) &&& hl))), (4, .int (whS k many)), (8, .int (pcI ((cvS (whS k many)) &&& hl))), (7, .int (whS k many)), (3, .int hl), (2, .int what), (1, .int many), (0, .ref (b 0))] 4 d_X12_closes_116 rfl (nI_1 _) (by decide) rfl ?_
            refine z_goto d_X12_closes_119 ?_
            refine z_perm [0, 1, 2, 5, 6, 7, 8] rfl ?_
            exact ih (k + 1) (whS k many) (pcI ((cvS (whS k many)) &&& hl)) (by omega) (by omega) (by rw [itL, bsF, ← ha]; clear ha ih; simp only [b01_0, b01_n0] at *; simp [*])
          · refine z_goto d_X12_closes_105 ?_
            refine z_iinc (nI (k + 1)) [(6, .int (nI (k + 1))), (8, .int (pcI ((cvS (whS k many)) &&& hl))), (7, .int (whS k many)), (5, .int a2), (4, .int a1), (3, .int hl), (2, .int what), (1, .int many), (0, .ref (b 0))] 2 d_X12_closes_116 rfl (nI_1 _) (by decide) rfl ?_
            refine z_goto d_X12_closes_119 ?_
            refine z_perm [0, 3, 4, 5, 6, 7, 8] rfl ?_
            exact ih (k + 1) a1 a2 (by omega) (by omega) (by rw [itL, bsF, ← ha]; clear ha ih; simp only [b01_0, b01_n0] at *; simp [*])
set_option maxHeartbeats 4000000 in
set_option maxRecDepth 100000 in
theorem t_X12_closes (G : GT) (b : Nat → Nat) (I : Nat → Int32) (A : Nat → Nat → Int32) (J : Nat → Int32) (tw : Int64) (many : Int32) (what : Int32)  : Ct G mX12_closes 4 0 0 [.ref (b 0), .int many, .int what] (MW G b I A J tw) (Pi (clR I A many what) (MW G b I A J tw)) := by
  refine Ct.intro [(0, .ref (b 0)), (1, .int many), (2, .int what)] (by decide) rfl (Nat.le_of_ble_eq_true rfl) ?_
  refine z_iload_n d_X12_closes_0 1 rfl ?_
  refine z_i2l d_X12_closes_1 ?_
  refine z_lconst (v := 1) d_X12_closes_2 (by decide) ?_
  refine z_ldc2 d_X12_closes_3 w_1127 ?_
  refine z_callSp c_X12_82 (t_X12_in G many.toInt64 1 5 (MW G b I A J tw)) rfl rfl (Nat.le_of_ble_eq_true rfl) rfl d_X12_closes_6 ?_
  refine z_if_eq d_X12_closes_9 (fun c_9 => ?_) (fun c_9 => ?_)
  · refine z_bipush (v := -2) d_X12_closes_22 (by decide) ?_
    exact z_iret _ d_X12_closes_24 rfl (Pi.of (by simp only [in_b, b01_0, b01_n0, L_0, L_1, L_5] at *; simp [clR, inB, *]))
  · refine z_iload_n d_X12_closes_12 2 rfl ?_
    refine z_i2l d_X12_closes_13 ?_
    refine z_lconst (v := 0) d_X12_closes_14 (by decide) ?_
    refine z_lconst (v := 1) d_X12_closes_15 (by decide) ?_
    refine z_callSp c_X12_82 (t_X12_in G what.toInt64 0 1 (MW G b I A J tw)) rfl rfl (Nat.le_of_ble_eq_true rfl) rfl d_X12_closes_16 ?_
    refine z_if_ne d_X12_closes_19 (fun c_19 => ?_) (fun c_19 => ?_)
    · refine z_aload_n d_X12_closes_25 0 rfl ?_
      refine z_callVp 0 c_X12_336 (t_X12_holes G b I A J tw) rfl rfl rfl rfl (Nat.le_of_ble_eq_true rfl) rfl d_X12_closes_26 ?_
      refine z_istore_n [(3, .int (hlS I A)), (0, .ref (b 0)), (1, .int many), (2, .int what)] d_X12_closes_29 (by decide) rfl ?_
      refine z_iload_n d_X12_closes_30 0 rfl ?_
      refine z_if_ne d_X12_closes_31 (fun c_31 => ?_) (fun c_31 => ?_)
      · refine z_iconst (v := -1) d_X12_closes_36 (by decide) ?_
        refine z_istore [(4, .int (-1)), (3, .int (hlS I A)), (0, .ref (b 0)), (1, .int many), (2, .int what)] d_X12_closes_37 (by decide) rfl ?_
        refine z_iconst (v := 0) d_X12_closes_39 (by decide) ?_
        refine z_istore [(5, .int 0), (4, .int (-1)), (3, .int (hlS I A)), (0, .ref (b 0)), (1, .int many), (2, .int what)] d_X12_closes_40 (by decide) rfl ?_
        refine z_iconst (v := 0) d_X12_closes_42 (by decide) ?_
        refine z_istore [(6, .int 0), (5, .int 0), (4, .int (-1)), (3, .int (hlS I A)), (0, .ref (b 0)), (1, .int many), (2, .int what)] d_X12_closes_43 (by decide) rfl ?_
        refine z_perm [0, 1, 2, 3, 6, 5, 4] rfl ?_
        have e9 : clR I A many what = sel2 what (clS (hlS I A) many) := by simp only [in_b, b01_0, b01_n0, L_0, L_1, L_5] at *; simp only [clR, inB, *, ↓reduceIte, Bool.and_self, Bool.true_and, Bool.and_true, Bool.not_eq_false]
        rw [e9]
        exact l_X12_closes G b I A J tw many what (hlS I A) 51 0 (-1) 0 (by omega) (by omega) rfl
      · refine z_iconst (v := -1) d_X12_closes_34 (by decide) ?_
        exact z_iret _ d_X12_closes_35 rfl (Pi.of (by simp only [in_b, b01_0, b01_n0, L_0, L_1, L_5] at *; simp [clR, inB, *]))
    · refine z_bipush (v := -2) d_X12_closes_22 (by decide) ?_
      exact z_iret _ d_X12_closes_24 rfl (Pi.of (by simp only [in_b, b01_0, b01_n0, L_0, L_1, L_5] at *; simp [clR, inB, *]))
def leP (cd : CD) (I : Nat → Int32) (A : Nat → Nat → Int32) (strong set on : Int32) (k : Nat) : Bool := decide (on >>> (nI k &&& 31) &&& 1 = 1) && decide (hoS cd I A k set < strong)
def leC (cd : CD) (I : Nat → Int32) (A : Nat → Nat → Int32) (c strong set : Int32) : Int32 := orS (leP cd I A strong set (atS A c set)) 16
def lbR (cd : CD) (I : Nat → Int32) (A : Nat → Nat → Int32) (c strong : Int32) : Nat → Int32 → Int32
  | 0, set => set
  | f + 1, set => if leC cd I A c strong set = 0 then set &&& (leC cd I A c strong set ^^^ (-1)) else lbR cd I A c strong f (set &&& (leC cd I A c strong set ^^^ (-1)))
def lbS (cd : CD) (I : Nat → Int32) (A : Nat → Nat → Int32) (c strong : Int32) : Int32 := lbR cd I A c strong 34 (I 12)
theorem atF_or (A : Nat → Nat → Int32) (c set : Int32) : atF A c set = orF (onF A c set) := rfl
theorem atS_bt {A : Nat → Nat → Int32} {c set : Int32} {i : Nat} (hi : i < 32) : bt (atS A c set) i = (decide (i < 16) && onF A c set i) := orS_bt (onF A c set) 16 (by decide) i hi
theorem leC_sub {cd : CD} {I : Nat → Int32} {A : Nat → Nat → Int32} {c strong set : Int32} {i : Nat} (hi : i < 32) (h : bt (leC cd I A c strong set) i = true) : bt set i = true := by
  rw [leC, orS_bt _ 16 (by decide) i hi, Bool.and_eq_true] at h
  have h2 := h.2
  rw [leP, Bool.and_eq_true, decide_eq_true_eq, sb1 hi, atS_bt hi, Bool.and_eq_true, onF, Bool.and_eq_true] at h2
  exact (sb1 hi).mp (of_decide_eq_true h2.1.2.1)
theorem leC_lt {cd : CD} {I : Nat → Int32} {A : Nat → Nat → Int32} {c strong set : Int32} (h : ¬ leC cd I A c strong set = 0) : pcn (set &&& (leC cd I A c strong set ^^^ (-1))) < pcn set := by
  obtain ⟨k, hk, hb⟩ := bt_ne h
  refine pcn_lt (fun i hi hh => ?_) hk ?_ (leC_sub hk hb)
  · rw [b_and, Bool.and_eq_true] at hh; exact hh.1
  · rw [b_and, b_not _ hk, hb]; simp
set_option maxHeartbeats 4000000 in
set_option maxRecDepth 100000 in
theorem l_X12_leftBy_27 (G : GT) (b : Nat → Nat) (I : Nat → Int32) (A : Nat → Nat → Int32) (t : Nat) (cd : CD) (hT : TxOk A t cd) (h4 : I 4 = nI t) (c strong set on : Int32) (E : Option Value → va_W → Prop) (hK : ∀ (J : Nat → Int32) (tw : Int64), Tr G mX12_leftBy (Rm 43 0 0) (OM G E 0 0) 0 0 8 [(4, .int (orS (leP cd I A strong set on) 16)), (3, .int (set &&& (orS (leP cd I A strong set on) 16 ^^^ (-1)))), (2, .int strong), (1, .int c), (0, .ref (b 0))] [] (MW G b I A J tw)) : ∀ (n : Nat)  (k : Nat) (J : Nat → Int32) (tw : Int64) (a : Int32) (hk : k ≤ 16) (hm : 16 < k + n) (ha : a = itL (orF (leP cd I A strong set on)) 0 k), Tr G mX12_leftBy (Rm 43 0 0) (OM G E 0 0) 0 0 27 [(6, .int (nI k)), (5, .int on), (4, .int a), (3, .int set), (2, .int strong), (1, .int c), (0, .ref (b 0))] [] (MW G b I A J tw) := by
  intro n
  induction n with
  | zero =>
    intro k J tw a hk hm ha
    exact absurd hm (by omega)
  | succ n ih =>
    intro k J tw a hk hm ha
    refine z_iload d_X12_leftBy_27 0 rfl ?_
    refine z_bipush (v := 16) d_X12_leftBy_29 (by decide) ?_
    refine z_icmp_ge d_X12_leftBy_31 (fun c_31 => ?_) (fun c_31 => ?_)
    · have h9 := ge_nI (N := 16) (by omega) (by decide) c_31; have e9 : a = orS (leP cd I A strong set on) 16 := (by rw [ha, show k = 16 by omega]; rfl); subst e9
      refine z_iload_n d_X12_leftBy_75 3 rfl ?_
      refine z_iload d_X12_leftBy_76 2 rfl ?_
      refine z_iconst (v := -1) d_X12_leftBy_78 (by decide) ?_
      refine z_ixor d_X12_leftBy_79 ?_
      refine z_iand d_X12_leftBy_80 ?_
      refine z_istore_n [(3, .int (set &&& ((orS (leP cd I A strong set on) 16) ^^^ (-1)))), (6, .int (nI k)), (5, .int on), (4, .int (orS (leP cd I A strong set on) 16)), (2, .int strong), (1, .int c), (0, .ref (b 0))] d_X12_leftBy_81 (by decide) rfl ?_
      refine z_goto d_X12_leftBy_82 ?_
      refine z_perm [3, 0, 4, 5, 6] rfl ?_
      exact hK _ _
    · have h9 := lt_nI (N := 16) (by omega) (by decide) c_31
      refine z_iload d_X12_leftBy_34 2 rfl ?_
      refine z_iload d_X12_leftBy_36 1 rfl ?_
      refine z_iload d_X12_leftBy_38 0 rfl ?_
      refine z_ishr d_X12_leftBy_40 ?_
      refine z_iconst (v := 1) d_X12_leftBy_41 (by decide) ?_
      refine z_iand d_X12_leftBy_42 ?_
      refine z_iconst (v := 1) d_X12_leftBy_43 (by decide) ?_
      refine z_icmp_ne d_X12_leftBy_44 (fun c_44 => ?_) (fun c_44 => ?_)
      · refine z_iconst (v := 0) d_X12_leftBy_65 (by decide) ?_
        refine z_ior d_X12_leftBy_66 ?_
        refine z_istore [(4, .int (a ||| 0)), (6, .int (nI k)), (5, .int on), (3, .int set), (2, .int strong), (1, .int c), (0, .ref (b 0))] d_X12_leftBy_67 (by decide) rfl ?_
        refine z_iinc (nI (k + 1)) [(6, .int (nI (k + 1))), (4, .int (a ||| 0)), (5, .int on), (3, .int set), (2, .int strong), (1, .int c), (0, .ref (b 0))] 1 d_X12_leftBy_69 rfl (nI_1 _) (by decide) rfl ?_
        refine z_goto d_X12_leftBy_72 ?_
        refine z_perm [0, 2, 1, 3, 4, 5, 6] rfl ?_
        exact ih (k + 1) _ _ _ (by omega) (by omega) (by rw [itL, orF, ← ha]; clear ha ih; simp only [leP]; simp [*])
      · refine z_aload_n d_X12_leftBy_47 6 rfl ?_
        refine z_iload d_X12_leftBy_48 0 rfl ?_
        refine z_iload_n d_X12_leftBy_50 3 rfl ?_
        refine z_callV 0 c_X12_154 rfl rfl (t_X12_holdOf G b I A J tw t cd hT h4 k set (by omega)) rfl rfl (Nat.le_of_ble_eq_true rfl) rfl d_X12_leftBy_51 ?_
        rintro v51 w51 ⟨rfl, J51, tw51, rfl⟩
        refine z_iload_n d_X12_leftBy_54 4 rfl ?_
        refine z_icmp_ge d_X12_leftBy_55 (fun c_55 => ?_) (fun c_55 => ?_)
        · refine z_iconst (v := 0) d_X12_leftBy_65 (by decide) ?_
          refine z_ior d_X12_leftBy_66 ?_
          refine z_istore [(4, .int (a ||| 0)), (6, .int (nI k)), (5, .int on), (3, .int set), (2, .int strong), (1, .int c), (0, .ref (b 0))] d_X12_leftBy_67 (by decide) rfl ?_
          refine z_iinc (nI (k + 1)) [(6, .int (nI (k + 1))), (4, .int (a ||| 0)), (5, .int on), (3, .int set), (2, .int strong), (1, .int c), (0, .ref (b 0))] 1 d_X12_leftBy_69 rfl (nI_1 _) (by decide) rfl ?_
          refine z_goto d_X12_leftBy_72 ?_
          refine z_perm [0, 2, 1, 3, 4, 5, 6] rfl ?_
          exact ih (k + 1) _ _ _ (by omega) (by omega) (by rw [itL, orF, ← ha]; clear ha ih; simp only [leP]; simp [*])
        · refine z_iconst (v := 1) d_X12_leftBy_58 (by decide) ?_
          refine z_iload d_X12_leftBy_59 0 rfl ?_
          refine z_ishl d_X12_leftBy_61 ?_
          refine z_goto d_X12_leftBy_62 ?_
          refine z_ior d_X12_leftBy_66 ?_
          refine z_istore [(4, .int (a ||| (1 <<< ((nI k) &&& 31)))), (6, .int (nI k)), (5, .int on), (3, .int set), (2, .int strong), (1, .int c), (0, .ref (b 0))] d_X12_leftBy_67 (by decide) rfl ?_
          refine z_iinc (nI (k + 1)) [(6, .int (nI (k + 1))), (4, .int (a ||| (1 <<< ((nI k) &&& 31)))), (5, .int on), (3, .int set), (2, .int strong), (1, .int c), (0, .ref (b 0))] 1 d_X12_leftBy_69 rfl (nI_1 _) (by decide) rfl ?_
          refine z_goto d_X12_leftBy_72 ?_
          refine z_perm [0, 2, 1, 3, 4, 5, 6] rfl ?_
          exact ih (k + 1) _ _ _ (by omega) (by omega) (by rw [itL, orF, ← ha]; clear ha ih; simp only [leP]; simp [*])
set_option maxHeartbeats 4000000 in
set_option maxRecDepth 100000 in
theorem l_X12_leftBy_8 (G : GT) (b : Nat → Nat) (I : Nat → Int32) (A : Nat → Nat → Int32) (t : Nat) (cd : CD) (hT : TxOk A t cd) (h4 : I 4 = nI t) (c strong : Int32) : ∀ (f : Nat)  (J : Nat → Int32) (tw : Int64) (set come : Int32) (h0 : 0 < f) (h1 : ¬ come = 0 → pcn set + 1 < f), Tr G mX12_leftBy (Rm 43 0 0) (OM G (Pj G b (if come = 0 then set else lbR cd I A c strong f set) I A) 0 0) 0 0 8 [(4, .int come), (3, .int set), (2, .int strong), (1, .int c), (0, .ref (b 0))] [] (MW G b I A J tw) := by
  intro f
  induction f with
  | zero =>
    intro J tw set come h0 h1
    exact absurd h0 (by omega)
  | succ f ih =>
    intro J tw set come h0 h1
    refine z_iload d_X12_leftBy_8 0 rfl ?_
    refine z_if_eq d_X12_leftBy_10 (fun c_10 => ?_) (fun c_10 => ?_)
    · refine z_iload_n d_X12_leftBy_85 1 rfl ?_
      exact z_iret _ d_X12_leftBy_86 rfl (Pj.of (by rw [if_pos c_10]))
    · refine z_iconst (v := 0) d_X12_leftBy_13 (by decide) ?_
      refine z_istore [(4, .int 0), (3, .int set), (2, .int strong), (1, .int c), (0, .ref (b 0))] d_X12_leftBy_14 (by decide) rfl ?_
      refine z_aload_n d_X12_leftBy_16 4 rfl ?_
      refine z_iload_n d_X12_leftBy_17 3 rfl ?_
      refine z_iload_n d_X12_leftBy_18 1 rfl ?_
      refine z_callVp 0 c_X12_127 (t_X12_at1 G b I A J tw c set) rfl rfl rfl rfl (Nat.le_of_ble_eq_true rfl) rfl d_X12_leftBy_19 ?_
      refine z_istore [(5, .int (atS A c set)), (4, .int 0), (3, .int set), (2, .int strong), (1, .int c), (0, .ref (b 0))] d_X12_leftBy_22 (by decide) rfl ?_
      refine z_iconst (v := 0) d_X12_leftBy_24 (by decide) ?_
      refine z_istore [(6, .int 0), (5, .int (atS A c set)), (4, .int 0), (3, .int set), (2, .int strong), (1, .int c), (0, .ref (b 0))] d_X12_leftBy_25 (by decide) rfl ?_
      refine l_X12_leftBy_27 G b I A t cd hT h4 c strong set (atS A c set) _ (fun J9 tw9 => ?_) 17 0 _ _ 0 (by omega) (by omega) rfl
      have e9 : (if come = 0 then set else lbR cd I A c strong (f + 1) set) = (if leC cd I A c strong set = 0 then set &&& (leC cd I A c strong set ^^^ (-1)) else lbR cd I A c strong f (set &&& (leC cd I A c strong set ^^^ (-1)))) := by rw [if_neg c_10, lbR]
      rw [e9]
      exact ih J9 tw9 _ (leC cd I A c strong set) (by have := h1 c_10; omega) (fun q => by have := h1 c_10; have := leC_lt q; omega)
set_option maxHeartbeats 4000000 in
set_option maxRecDepth 100000 in
theorem t_X12_leftBy (G : GT) (b : Nat → Nat) (I : Nat → Int32) (A : Nat → Nat → Int32) (J : Nat → Int32) (tw : Int64) (t : Nat) (cd : CD) (hT : TxOk A t cd) (h4 : I 4 = nI t) (c : Int32) (strong : Int32)  : Ct G mX12_leftBy 43 0 0 [.ref (b 0), .int c, .int strong] (MW G b I A J tw) (Pj G b (lbS cd I A c strong) (I) (A)) := by
  refine Ct.intro [(0, .ref (b 0)), (1, .int c), (2, .int strong)] (by decide) rfl (Nat.le_of_ble_eq_true rfl) ?_
  refine z_aload_n d_X12_leftBy_0 0 rfl ?_
  refine z_get (v := .int (I 12)) 0 f_X12_90_12 rfl rfl d_X12_leftBy_1 ?_
  refine z_istore_n [(3, .int (I 12)), (0, .ref (b 0)), (1, .int c), (2, .int strong)] d_X12_leftBy_4 (by decide) rfl ?_
  refine z_iconst (v := 1) d_X12_leftBy_5 (by decide) ?_
  refine z_istore [(4, .int 1), (3, .int (I 12)), (0, .ref (b 0)), (1, .int c), (2, .int strong)] d_X12_leftBy_6 (by decide) rfl ?_
  refine z_perm [0, 1, 4, 3, 2] rfl ?_
  have h9 := l_X12_leftBy_8 G b I A t cd hT h4 c strong 34 J tw (I 12) 1 (by omega) (fun _ => by have := pcn_le (I 12); omega)
  rw [if_neg (by decide)] at h9
  exact h9
def puP (c strong : Int32) : Bool := okC c && inB strong 1 999
def puR (cd : CD) (I : Nat → Int32) (A : Nat → Nat → Int32) (c strong what : Int32) : Int32 := if (puP c strong && inB what 0 1) = true then I 12 &&& ((if what = 0 then lbS cd I A c strong else lvA A (lbS cd I A c strong)) ^^^ (-1)) else -2
def pdI (cd : CD) (I : Nat → Int32) (A : Nat → Nat → Int32) (c strong : Int32) : Nat → Int32 := if puP c strong = true then upd I 12 (lvA A (lbS cd I A c strong)) else I
def pdR (cd : CD) (I : Nat → Int32) (A : Nat → Nat → Int32) (c strong : Int32) : Int32 := if puP c strong = true then pcI (I 12) - pcI (lvA A (lbS cd I A c strong)) else -2
set_option maxHeartbeats 4000000 in
set_option maxRecDepth 100000 in
theorem t_X12_pull (G : GT) (b : Nat → Nat) (I : Nat → Int32) (A : Nat → Nat → Int32) (J : Nat → Int32) (tw : Int64) (t : Nat) (cd : CD) (hT : TxOk A t cd) (h4 : I 4 = nI t) (c : Int32) (strong : Int32) (what : Int32)  : Ct G mX12_pull 44 0 0 [.ref (b 0), .int c, .int strong, .int what] (MW G b I A J tw) (Pj G b (puR cd I A c strong what) (I) (A)) := by
  refine Ct.intro [(0, .ref (b 0)), (1, .int c), (2, .int strong), (3, .int what)] (by decide) rfl (Nat.le_of_ble_eq_true rfl) ?_
  refine z_iload_n d_X12_pull_0 1 rfl ?_
  refine z_callSp c_X12_157 (t_X12_isCrossing G c (MW G b I A J tw)) rfl rfl (Nat.le_of_ble_eq_true rfl) rfl d_X12_pull_1 ?_
  refine z_if_eq d_X12_pull_4 (fun c_4 => ?_) (fun c_4 => ?_)
  · have h9 : ¬ (puP c strong && inB what 0 1) = true := by simp only [in_b, b01_0, b01_n0, L_0, L_1, L_999] at *; simp [puP, inB, *]
    refine z_bipush (v := -2) d_X12_pull_29 (by decide) ?_
    exact z_iret _ d_X12_pull_31 rfl (Pj.of (by rw [puR, if_neg h9]))
  · refine z_iload_n d_X12_pull_7 2 rfl ?_
    refine z_i2l d_X12_pull_8 ?_
    refine z_lconst (v := 1) d_X12_pull_9 (by decide) ?_
    refine z_ldc2 d_X12_pull_10 w_1317 ?_
    refine z_callSp c_X12_82 (t_X12_in G strong.toInt64 1 999 (MW G b I A J tw)) rfl rfl (Nat.le_of_ble_eq_true rfl) rfl d_X12_pull_13 ?_
    refine z_if_eq d_X12_pull_16 (fun c_16 => ?_) (fun c_16 => ?_)
    · have h9 : ¬ (puP c strong && inB what 0 1) = true := by simp only [in_b, b01_0, b01_n0, L_0, L_1, L_999] at *; simp [puP, inB, *]
      refine z_bipush (v := -2) d_X12_pull_29 (by decide) ?_
      exact z_iret _ d_X12_pull_31 rfl (Pj.of (by rw [puR, if_neg h9]))
    · refine z_iload_n d_X12_pull_19 3 rfl ?_
      refine z_i2l d_X12_pull_20 ?_
      refine z_lconst (v := 0) d_X12_pull_21 (by decide) ?_
      refine z_lconst (v := 1) d_X12_pull_22 (by decide) ?_
      refine z_callSp c_X12_82 (t_X12_in G what.toInt64 0 1 (MW G b I A J tw)) rfl rfl (Nat.le_of_ble_eq_true rfl) rfl d_X12_pull_23 ?_
      refine z_if_ne d_X12_pull_26 (fun c_26 => ?_) (fun c_26 => ?_)
      · have h9 : (puP c strong && inB what 0 1) = true := by simp only [in_b, b01_0, b01_n0, L_0, L_1, L_999] at * <;> simp only [puP, inB, *] <;> rfl
        refine z_aload_n d_X12_pull_32 0 rfl ?_
        refine z_iload_n d_X12_pull_33 1 rfl ?_
        refine z_iload_n d_X12_pull_34 2 rfl ?_
        refine z_callV 0 c_X12_304 rfl rfl (t_X12_leftBy G b I A J tw t cd hT h4 c strong) rfl rfl (Nat.le_of_ble_eq_true rfl) rfl d_X12_pull_35 ?_
        rintro v35 w35 ⟨rfl, J35, tw35, rfl⟩
        refine z_istore [(4, .int (lbS cd I A c strong)), (0, .ref (b 0)), (1, .int c), (2, .int strong), (3, .int what)] d_X12_pull_38 (by decide) rfl ?_
        refine z_aload_n d_X12_pull_40 1 rfl ?_
        refine z_get (v := .int (I 12)) 0 f_X12_90_12 rfl rfl d_X12_pull_41 ?_
        refine z_iload_n d_X12_pull_44 4 rfl ?_
        refine z_if_ne d_X12_pull_45 (fun c_45 => ?_) (fun c_45 => ?_)
        · refine z_iload d_X12_pull_53 0 rfl ?_
          refine z_aload_n d_X12_pull_55 1 rfl ?_
          refine z_iload d_X12_pull_56 0 rfl ?_
          refine z_callVp 0 c_X12_299 (t_X12_fallsOf G b I A J35 tw35 (lbS cd I A c strong)) rfl rfl rfl rfl (Nat.le_of_ble_eq_true rfl) rfl d_X12_pull_58 ?_
          refine z_iconst (v := -1) d_X12_pull_61 (by decide) ?_
          refine z_ixor d_X12_pull_62 ?_
          refine z_iand d_X12_pull_63 ?_
          refine z_iconst (v := -1) d_X12_pull_64 (by decide) ?_
          refine z_ixor d_X12_pull_65 ?_
          refine z_iand d_X12_pull_66 ?_
          exact z_iret _ d_X12_pull_67 rfl (Pj.of (by rw [puR, if_pos h9]; simp only [c_45, ↓reduceIte] <;> rfl))
        · refine z_iload d_X12_pull_48 0 rfl ?_
          refine z_goto d_X12_pull_50 ?_
          refine z_iconst (v := -1) d_X12_pull_64 (by decide) ?_
          refine z_ixor d_X12_pull_65 ?_
          refine z_iand d_X12_pull_66 ?_
          exact z_iret _ d_X12_pull_67 rfl (Pj.of (by rw [puR, if_pos h9]; simp only [c_45, ↓reduceIte] <;> rfl))
      · have h9 : ¬ (puP c strong && inB what 0 1) = true := by simp only [in_b, b01_0, b01_n0, L_0, L_1, L_999] at *; simp [puP, inB, *]
        refine z_bipush (v := -2) d_X12_pull_29 (by decide) ?_
        exact z_iret _ d_X12_pull_31 rfl (Pj.of (by rw [puR, if_neg h9]))
set_option maxHeartbeats 4000000 in
set_option maxRecDepth 100000 in
theorem t_X12_pulled (G : GT) (b : Nat → Nat) (I : Nat → Int32) (A : Nat → Nat → Int32) (J : Nat → Int32) (tw : Int64) (t : Nat) (cd : CD) (hT : TxOk A t cd) (h4 : I 4 = nI t) (c : Int32) (strong : Int32)  : Ct G mX12_pulled 44 0 0 [.ref (b 0), .int c, .int strong] (MW G b I A J tw) (Pj G b (pdR cd I A c strong) (pdI cd I A c strong) (A)) := by
  refine Ct.intro [(0, .ref (b 0)), (1, .int c), (2, .int strong)] (by decide) rfl (Nat.le_of_ble_eq_true rfl) ?_
  refine z_iload_n d_X12_pulled_0 1 rfl ?_
  refine z_callSp c_X12_157 (t_X12_isCrossing G c (MW G b I A J tw)) rfl rfl (Nat.le_of_ble_eq_true rfl) rfl d_X12_pulled_1 ?_
  refine z_if_eq d_X12_pulled_4 (fun c_4 => ?_) (fun c_4 => ?_)
  · have h9 : ¬ (puP c strong) = true := by simp only [in_b, b01_0, b01_n0, L_0, L_1, L_999] at *; simp [puP, inB, *]
    refine z_bipush (v := -2) d_X12_pulled_19 (by decide) ?_
    exact z_iret _ d_X12_pulled_21 rfl (Pj.ofw (by rw [pdR, if_neg h9]) (by rw [pdI, if_neg h9]) rfl)
  · refine z_iload_n d_X12_pulled_7 2 rfl ?_
    refine z_i2l d_X12_pulled_8 ?_
    refine z_lconst (v := 1) d_X12_pulled_9 (by decide) ?_
    refine z_ldc2 d_X12_pulled_10 w_1317 ?_
    refine z_callSp c_X12_82 (t_X12_in G strong.toInt64 1 999 (MW G b I A J tw)) rfl rfl (Nat.le_of_ble_eq_true rfl) rfl d_X12_pulled_13 ?_
    refine z_if_ne d_X12_pulled_16 (fun c_16 => ?_) (fun c_16 => ?_)
    · have h9 : (puP c strong) = true := by simp only [in_b, b01_0, b01_n0, L_0, L_1, L_999] at * <;> simp only [puP, inB, *] <;> rfl
      refine z_aload_n d_X12_pulled_22 0 rfl ?_
      refine z_get (v := .int (I 12)) 0 f_X12_90_12 rfl rfl d_X12_pulled_23 ?_
      refine z_callSp c_X12_119 (t_X12_bitsOf G (I 12) (MW G b I A J tw)) rfl rfl (Nat.le_of_ble_eq_true rfl) rfl d_X12_pulled_26 ?_
      refine z_istore_n [(3, .int (pcI (I 12))), (0, .ref (b 0)), (1, .int c), (2, .int strong)] d_X12_pulled_29 (by decide) rfl ?_
      refine z_aload_n d_X12_pulled_30 1 rfl ?_
      refine z_iload_n d_X12_pulled_31 2 rfl ?_
      refine z_iload_n d_X12_pulled_32 3 rfl ?_
      refine z_callV 0 c_X12_304 rfl rfl (t_X12_leftBy G b I A J tw t cd hT h4 c strong) rfl rfl (Nat.le_of_ble_eq_true rfl) rfl d_X12_pulled_33 ?_
      rintro v33 w33 ⟨rfl, J33, tw33, rfl⟩
      refine z_istore [(4, .int (lbS cd I A c strong)), (3, .int (pcI (I 12))), (0, .ref (b 0)), (1, .int c), (2, .int strong)] d_X12_pulled_36 (by decide) rfl ?_
      refine z_aload_n d_X12_pulled_38 2 rfl ?_
      refine z_iload d_X12_pulled_39 0 rfl ?_
      refine z_aload_n d_X12_pulled_41 2 rfl ?_
      refine z_iload d_X12_pulled_42 0 rfl ?_
      refine z_callVp 0 c_X12_299 (t_X12_fallsOf G b I A J33 tw33 (lbS cd I A c strong)) rfl rfl rfl rfl (Nat.le_of_ble_eq_true rfl) rfl d_X12_pulled_44 ?_
      refine z_iconst (v := -1) d_X12_pulled_47 (by decide) ?_
      refine z_ixor d_X12_pulled_48 ?_
      refine z_iand d_X12_pulled_49 ?_
      refine z_put 0 (MW G b (upd I 12 ((lbS cd I A c strong) &&& ((faS A (lbS cd I A c strong)) ^^^ (-1)))) A J33 tw33) p_X12_90_12 rfl rfl rfl (Nat.le_of_ble_eq_true rfl) (mw_12 G b I A J33 tw33 _) d_X12_pulled_50 ?_
      refine z_iload_n d_X12_pulled_53 1 rfl ?_
      refine z_aload_n d_X12_pulled_54 2 rfl ?_
      refine z_get (v := .int ((lbS cd I A c strong) &&& ((faS A (lbS cd I A c strong)) ^^^ (-1)))) 0 f_X12_90_12 rfl rfl d_X12_pulled_55 ?_
      refine z_callSp c_X12_119 (t_X12_bitsOf G ((lbS cd I A c strong) &&& ((faS A (lbS cd I A c strong)) ^^^ (-1))) (MW G b (upd I 12 ((lbS cd I A c strong) &&& ((faS A (lbS cd I A c strong)) ^^^ (-1)))) A J33 tw33)) rfl rfl (Nat.le_of_ble_eq_true rfl) rfl d_X12_pulled_58 ?_
      refine z_isub d_X12_pulled_61 ?_
      exact z_iret _ d_X12_pulled_62 rfl (Pj.ofw (by rw [pdR, if_pos h9]; rfl) (by rw [pdI, if_pos h9]; rfl) rfl)
    · have h9 : ¬ (puP c strong) = true := by simp only [in_b, b01_0, b01_n0, L_0, L_1, L_999] at *; simp [puP, inB, *]
      refine z_bipush (v := -2) d_X12_pulled_19 (by decide) ?_
      exact z_iret _ d_X12_pulled_21 rfl (Pj.ofw (by rw [pdR, if_neg h9]) (by rw [pdI, if_neg h9]) rfl)
