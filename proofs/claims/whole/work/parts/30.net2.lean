/-! THE NET of class X: least HOLD, next, closing, best, covered, taken -/
set_option maxHeartbeats 4000000 in
set_option maxRecDepth 100000 in
theorem l_X4_leastHold (G : GT) (x : Nat → Nat) (N : Nat → Int32) (R : Nat → Nat → Int32) (K : Nat → Nat → Option Nat) (r : Nat → Nat) (S : Nat → Int32) (tl : va_W) (I : Nat → Int32) (A : Nat → Nat → Int32) (h : NtR I A (N 2) (N 3) (N 4) (R 1) (R 2) (R 3) (K 0) tl) (cd : CD) (num : Int32) (hT : TxR G cd num (r 0) tl) (th : Int32) : ∀ (n : Nat) (k : Nat) (T : Nat → Nat → Int32) (a : Int32) (hk9 : k ≤ 16) (hm : 16 < k + n) (ha : a = itL (lhF cd (upd I 13 th) A) (-1) k) (hnn : a = -1 ∨ 0 ≤ a.toInt), Tr G mX4_leastHold (Rm 6 0 0) (OM G (Px G x N R K r S tl (some (.int (lhS cd (upd I 13 th) A)))) 0 0) 0 0 4 [(3, .int (nI k)), (2, .int a), (1, .int th), (0, .ref (x 6))] [] (XW G x N R K r S T tl) := by
  intro n
  induction n with
  | zero =>
    intro k T a hk9 hm ha hnn
    exact absurd hm (by omega)
  | succ n ih =>
    intro k T a hk9 hm ha hnn
    refine z_iload_n d_X4_leastHold_4 0 rfl ?_
    refine z_bipush (v := 16) d_X4_leastHold_5 (by decide) ?_
    refine z_icmp_ge d_X4_leastHold_7 (fun c_7 => ?_) (fun c_7 => ?_)
    · refine z_iload_n d_X4_leastHold_53 1 rfl ?_
      refine z_iconst (v := 0) d_X4_leastHold_54 (by decide) ?_
      refine z_mmax c_X4_114 (Nat.le_of_ble_eq_true rfl) rfl d_X4_leastHold_55 ?_
      exact z_iret _ d_X4_leastHold_58 rfl ⟨px_i (by have h9 := ge_nI (N := 16) (by omega) (by decide) c_7; rw [lhS, ← show k = 16 by omega, ← ha]; exact lh_mx hnn), _, rfl⟩
    · have hk : k < 16 := lt_nI (by omega) (by decide) c_7
      refine z_aload_n d_X4_leastHold_10 3 rfl ?_
      refine z_iload_n d_X4_leastHold_11 0 rfl ?_
      refine z_callVp 6 c_X4_77 (t_X4_has G x N R K r S T tl I A h (nI k) ) rfl rfl rfl rfl (Nat.le_of_ble_eq_true rfl) rfl d_X4_leastHold_12 ?_
      refine z_if_eq d_X4_leastHold_15 (fun c_15 => ?_) (fun c_15 => ?_)
      · refine z_iinc (nI (k + 1)) [(3, .int (nI (k + 1))), (2, .int a), (1, .int th), (0, .ref (x 6))] 0 d_X4_leastHold_47 rfl (nI_1 _) (by decide) rfl ?_
        refine z_goto d_X4_leastHold_50 ?_
        exact ih (k + 1) T a (by omega) (by omega) (by rw [itL, ← ha, lhF, if_neg (by rw [show isS (upd I 13 th) (nI k) = isS I (nI k) from rfl, b01_z c_15]; decide)]) hnn
      · have hb : bt (I 12) k = true := by rw [← isS_bt hk]; exact b01_o c_15
        have hm9 : Sb (N 2) (I 12) := by rw [h.al]; exact Sb.rf _
        refine z_aload_n d_X4_leastHold_18 3 rfl ?_
        refine z_iload_n d_X4_leastHold_19 0 rfl ?_
        refine z_aload_n d_X4_leastHold_20 3 rfl ?_
        refine z_get (v := .int (N 2)) (6) f_X4_48_4 rfl rfl d_X4_leastHold_21 ?_
        refine z_iload_n d_X4_leastHold_24 2 rfl ?_
        refine z_callV 6 c_X4_127 rfl rfl (t_X4_hold G x N R K r S T tl I A h cd num hT k (N 2) th hk hb hm9) rfl rfl (Nat.le_of_ble_eq_true rfl) rfl d_X4_leastHold_25 ?_
        rintro v25 w25 ⟨rfl, T25, rfl⟩
        refine z_istore [(4, .int (hoS cd (upd I 13 th) A k (N 2))), (3, .int (nI k)), (2, .int a), (1, .int th), (0, .ref (x 6))] d_X4_leastHold_28 (by decide) rfl ?_
        refine z_iload_n d_X4_leastHold_30 2 rfl ?_
        refine z_iconst (v := -1) d_X4_leastHold_31 (by decide) ?_
        refine z_icmp_ne d_X4_leastHold_32 (fun c_32 => ?_) (fun c_32 => ?_)
        · refine z_iload_n d_X4_leastHold_40 2 rfl ?_
          refine z_iload d_X4_leastHold_41 0 rfl ?_
          refine z_mmin c_X4_96 (Nat.le_of_ble_eq_true rfl) rfl d_X4_leastHold_43 ?_
          refine z_istore_n [(2, .int (mnS a (hoS cd (upd I 13 th) A k (N 2)))), (4, .int (hoS cd (upd I 13 th) A k (N 2))), (3, .int (nI k)), (1, .int th), (0, .ref (x 6))] d_X4_leastHold_46 (by decide) rfl ?_
          refine z_iinc (nI (k + 1)) [(3, .int (nI (k + 1))), (2, .int (mnS a (hoS cd (upd I 13 th) A k (N 2)))), (4, .int (hoS cd (upd I 13 th) A k (N 2))), (1, .int th), (0, .ref (x 6))] 2 d_X4_leastHold_47 rfl (nI_1 _) (by decide) rfl ?_
          refine z_goto d_X4_leastHold_50 ?_
          refine z_perm [0, 1, 3, 4] rfl ?_
          have hh : hoS cd (upd I 13 th) A k (N 2) = hoS cd (upd I 13 th) A k ((upd I 13 th) 12) := by rw [h.al]; rfl
          have hn9 := ho_nn (cd := cd) (I := upd I 13 th) (set := N 2) (h.kd hk hb) (h.nu hk hb)
          exact ih (k + 1) T25 _ (by omega) (by omega) (by rw [itL, ← ha, lhF, if_pos (show isS (upd I 13 th) (nI k) = true from b01_o c_15), ← hh, if_neg c_32]; exact mn_c _ _) (Or.inr (mn_nn (hnn.resolve_left c_32) hn9))
        · refine z_iload d_X4_leastHold_35 0 rfl ?_
          refine z_goto d_X4_leastHold_37 ?_
          refine z_istore_n [(2, .int (hoS cd (upd I 13 th) A k (N 2))), (4, .int (hoS cd (upd I 13 th) A k (N 2))), (3, .int (nI k)), (1, .int th), (0, .ref (x 6))] d_X4_leastHold_46 (by decide) rfl ?_
          refine z_iinc (nI (k + 1)) [(3, .int (nI (k + 1))), (2, .int (hoS cd (upd I 13 th) A k (N 2))), (4, .int (hoS cd (upd I 13 th) A k (N 2))), (1, .int th), (0, .ref (x 6))] 2 d_X4_leastHold_47 rfl (nI_1 _) (by decide) rfl ?_
          refine z_goto d_X4_leastHold_50 ?_
          refine z_perm [0, 1, 3, 4] rfl ?_
          have hh : hoS cd (upd I 13 th) A k (N 2) = hoS cd (upd I 13 th) A k ((upd I 13 th) 12) := by rw [h.al]; rfl
          have hn9 := ho_nn (cd := cd) (I := upd I 13 th) (set := N 2) (h.kd hk hb) (h.nu hk hb)
          exact ih (k + 1) T25 _ (by omega) (by omega) (by rw [itL, ← ha, lhF, if_pos (show isS (upd I 13 th) (nI k) = true from b01_o c_15), ← hh, if_pos c_32]) (Or.inr hn9)
set_option maxHeartbeats 4000000 in
set_option maxRecDepth 100000 in
theorem t_X4_leastHold (G : GT) (x : Nat → Nat) (N : Nat → Int32) (R : Nat → Nat → Int32) (K : Nat → Nat → Option Nat) (r : Nat → Nat) (S : Nat → Int32) (T : Nat → Nat → Int32) (tl : va_W) (I : Nat → Int32) (A : Nat → Nat → Int32) (h : NtR I A (N 2) (N 3) (N 4) (R 1) (R 2) (R 3) (K 0) tl) (cd : CD) (num : Int32) (hT : TxR G cd num (r 0) tl) (th : Int32)  : Ct G mX4_leastHold 6 0 0 [.ref (x 6), .int th] (XW G x N R K r S T tl) (Px G x N R K r S tl (some (.int (lhS cd (upd I 13 th) A)))) := by
  refine Ct.intro [(0, .ref (x 6)), (1, .int th)] (by decide) rfl (Nat.le_of_ble_eq_true rfl) ?_
  refine z_iconst (v := -1) d_X4_leastHold_0 (by decide) ?_
  refine z_istore_n [(2, .int (-1)), (0, .ref (x 6)), (1, .int th)] d_X4_leastHold_1 (by decide) rfl ?_
  refine z_iconst (v := 0) d_X4_leastHold_2 (by decide) ?_
  refine z_istore_n [(3, .int 0), (2, .int (-1)), (0, .ref (x 6)), (1, .int th)] d_X4_leastHold_3 (by decide) rfl ?_
  refine z_perm [0, 1, 3, 2] rfl ?_
  exact l_X4_leastHold G x N R K r S tl I A h cd num hT th 17 0 T (-1) (by omega) (by omega) rfl (Or.inl rfl)
set_option maxHeartbeats 4000000 in
set_option maxRecDepth 100000 in
theorem t_X4_worthNext (G : GT) (x : Nat → Nat) (N : Nat → Int32) (R : Nat → Nat → Int32) (K : Nat → Nat → Option Nat) (r : Nat → Nat) (S : Nat → Int32) (T : Nat → Nat → Int32) (tl : va_W) (I : Nat → Int32) (A : Nat → Nat → Int32) (h : NtR I A (N 2) (N 3) (N 4) (R 1) (R 2) (R 3) (K 0) tl) (cd : CD) (num : Int32) (hT : TxR G cd num (r 0) tl) (wh : Int32) (hok : okW wh = true) : Ct G mX4_worthNext 3 0 0 [.ref (x 6), .int wh] (XW G x N R K r S T tl) (Px G x N R K r S tl (some (.int (goS cd I A wh)))) := by
  obtain ⟨c, st, lg, hW⟩ := okW_WP hok
  refine Ct.intro [(0, .ref (x 6)), (1, .int wh)] (by decide) rfl (Nat.le_of_ble_eq_true rfl) ?_
  refine z_aload_n d_X4_worthNext_0 0 rfl ?_
  refine z_iload_n d_X4_worthNext_1 1 rfl ?_
  refine z_aload_n d_X4_worthNext_2 0 rfl ?_
  refine z_iload_n d_X4_worthNext_3 1 rfl ?_
  refine z_aload_n d_X4_worthNext_4 0 rfl ?_
  refine z_get (v := .int (N 2)) (6) f_X4_48_4 rfl rfl d_X4_worthNext_5 ?_
  refine z_bipush (v := 16) d_X4_worthNext_8 (by decide) ?_
  refine z_callVp 6 c_X4_88 (t_X4_met G x N R K r S T tl wh (N 2) 16 c st lg hW) rfl rfl rfl rfl (Nat.le_of_ble_eq_true rfl) rfl d_X4_worthNext_10 ?_
  refine z_iconst (v := 0) d_X4_worthNext_13 (by decide) ?_
  refine z_aload_n d_X4_worthNext_14 0 rfl ?_
  refine z_callVp 6 c_X4_142 (t_X4_size G x N R K r S T tl I A h  ) rfl rfl rfl rfl (Nat.le_of_ble_eq_true rfl) rfl d_X4_worthNext_15 ?_
  refine z_callVv 6 c_X4_104 (t_X4_nameStrip G x N R K r S T tl  wh (metS (R 3) c st lg (N 2) 16) 0 (pcI (I 12)) ) rfl rfl rfl rfl (Nat.le_of_ble_eq_true rfl) rfl d_X4_worthNext_18 ?_
  refine z_aload_n d_X4_worthNext_21 0 rfl ?_
  refine z_get (v := .ref (r 0)) (6) f_X4_44_4 rfl rfl d_X4_worthNext_22 ?_
  refine z_iconst (v := 1) d_X4_worthNext_25 (by decide) ?_
  refine z_aload_n d_X4_worthNext_26 0 rfl ?_
  refine z_get (v := .ref (x 11)) (6) f_X4_31_4 rfl rfl d_X4_worthNext_27 ?_
  refine z_aload_n d_X4_worthNext_30 0 rfl ?_
  refine z_get (v := .ref (x 12)) (6) f_X4_34_4 rfl rfl d_X4_worthNext_31 ?_
  obtain ⟨qt, fs9, hqt⟩ := hT.at
  refine z_callV (qt + 31) c_X4_108 hqt rfl (t_X9_worth G x N R K r S (vf_upd T 2 (nm6 (T 2) (irm (wh / 100) 5) (wh / 100 / 5) (metS (R 3) c st lg (N 2) 16) (irm wh 10) 0 (pcI (I 12)))) tl cd num (r 0) hT 1 (by decide)) rfl rfl (Nat.le_of_ble_eq_true rfl) rfl d_X4_worthNext_34 ?_
  rintro v34 w34 ⟨rfl, T34, rfl⟩
  exact z_iret _ d_X4_worthNext_37 rfl ⟨px_i (by show vOf (nm6 (T 2) (irm (wh / 100) 5) (wh / 100 / 5) (metS (R 3) c st lg (N 2) 16) (irm wh 10) 0 (pcI (I 12))) (pt cd 1) = _; rw [vO_c (nm6_F _ _ _ _ _ _ _), h.al, met_gc h hW]; rfl), _, rfl⟩
set_option maxHeartbeats 4000000 in
set_option maxRecDepth 100000 in
theorem t_X0_clear (G : GT) (x : Nat → Nat) (N : Nat → Int32) (R : Nat → Nat → Int32) (K : Nat → Nat → Option Nat) (r : Nat → Nat) (S : Nat → Int32) (T : Nat → Nat → Int32) (tl : va_W)  : Ct G mX0_clear 0 0 0 [.ref (x 13)] (XW G x N R K r S T tl) (Pv (XW G x N R K r (upd S 6 (-1)) T tl)) := by
  refine Ct.intro [(0, .ref (x 13))] (by decide) rfl (Nat.le_of_ble_eq_true rfl) ?_
  refine z_aload_n d_X0_clear_0 0 rfl ?_
  refine z_iconst (v := -1) d_X0_clear_1 (by decide) ?_
  refine z_put 13 (XW G x N R K r (upd S 6 (-1)) T tl) p_X0_9_0 rfl rfl rfl (Nat.le_of_ble_eq_true rfl) (xf_13_0 G x N R K r S T tl _) d_X0_clear_2 ?_
  exact z_vret _ d_X0_clear_5 rfl (Pv.of rfl)
set_option maxHeartbeats 4000000 in
set_option maxRecDepth 100000 in
theorem t_X0_offer (G : GT) (x : Nat → Nat) (N : Nat → Int32) (R : Nat → Nat → Int32) (K : Nat → Nat → Option Nat) (r : Nat → Nat) (S : Nat → Int32) (T : Nat → Nat → Int32) (tl : va_W) (w v : Int32)  : Ct G mX0_offer 0 0 0 [.ref (x 13), .int w, .int v] (XW G x N R K r S T tl) (Pv (XW G x N R K r (ofS S w v) T tl)) := by
  refine Ct.intro [(0, .ref (x 13)), (1, .int w), (2, .int v)] (by decide) rfl (Nat.le_of_ble_eq_true rfl) ?_
  refine z_aload_n d_X0_offer_0 0 rfl ?_
  refine z_get (v := .int (S 6)) (13) f_X0_9_0 rfl rfl d_X0_offer_1 ?_
  refine z_iconst (v := -1) d_X0_offer_4 (by decide) ?_
  refine z_icmp_eq d_X0_offer_5 (fun c_5 => ?_) (fun c_5 => ?_)
  · refine z_aload_n d_X0_offer_16 0 rfl ?_
    refine z_iload_n d_X0_offer_17 1 rfl ?_
    refine z_put 13 (XW G x N R K r (upd S 6 w) T tl) p_X0_9_0 rfl rfl rfl (Nat.le_of_ble_eq_true rfl) (xf_13_0 G x N R K r S T tl _) d_X0_offer_18 ?_
    refine z_aload_n d_X0_offer_21 0 rfl ?_
    refine z_iload_n d_X0_offer_22 2 rfl ?_
    refine z_put 13 (XW G x N R K r (upd (upd S 6 w) 7 v) T tl) p_X0_15_0 rfl rfl rfl (Nat.le_of_ble_eq_true rfl) (xf_13_1 G x N R K r (upd S 6 w) T tl _) d_X0_offer_23 ?_
    exact z_vret _ d_X0_offer_26 rfl (Pv.of (by unfold ofS; rw [if_pos c_5]))
  · refine z_iload_n d_X0_offer_8 2 rfl ?_
    refine z_aload_n d_X0_offer_9 0 rfl ?_
    refine z_get (v := .int (S 7)) (13) f_X0_15_0 rfl rfl d_X0_offer_10 ?_
    refine z_icmp_le d_X0_offer_13 (fun c_13 => ?_) (fun c_13 => ?_)
    · exact z_vret _ d_X0_offer_26 rfl (Pv.of (by unfold ofS; rw [if_neg c_5, if_neg c_13]))
    · refine z_aload_n d_X0_offer_16 0 rfl ?_
      refine z_iload_n d_X0_offer_17 1 rfl ?_
      refine z_put 13 (XW G x N R K r (upd S 6 w) T tl) p_X0_9_0 rfl rfl rfl (Nat.le_of_ble_eq_true rfl) (xf_13_0 G x N R K r S T tl _) d_X0_offer_18 ?_
      refine z_aload_n d_X0_offer_21 0 rfl ?_
      refine z_iload_n d_X0_offer_22 2 rfl ?_
      refine z_put 13 (XW G x N R K r (upd (upd S 6 w) 7 v) T tl) p_X0_15_0 rfl rfl rfl (Nat.le_of_ble_eq_true rfl) (xf_13_1 G x N R K r (upd S 6 w) T tl _) d_X0_offer_23 ?_
      exact z_vret _ d_X0_offer_26 rfl (Pv.of (by unfold ofS; rw [if_neg c_5, if_pos c_13]))
/-- a choice made: where, how good; scratch is left behind -/
def Pch (G : GT) (x : Nat → Nat) (N : Nat → Int32) (R : Nat → Nat → Int32) (K : Nat → Nat → Option Nat) (r : Nat → Nat) (tl : va_W) (a : Int32 × Int32) : Option Value → va_W → Prop := fun v w => v = some (.ref (x 13)) ∧ ∃ (S : Nat → Int32) (T : Nat → Nat → Int32), w = XW G x N R K r S T tl ∧ ChR S a
set_option maxHeartbeats 4000000 in
set_option maxRecDepth 100000 in
theorem l_X4_nextOf (G : GT) (x : Nat → Nat) (N : Nat → Int32) (R : Nat → Nat → Int32) (K : Nat → Nat → Option Nat) (r : Nat → Nat) (tl : va_W) (I : Nat → Int32) (A : Nat → Nat → Int32) (h : NtR I A (N 2) (N 3) (N 4) (R 1) (R 2) (R 3) (K 0) tl) (cd : CD) (num : Int32) (hT : TxR G cd num (r 0) tl) (many : Int32) : ∀ (n : Nat) (k : Nat) (S : Nat → Int32) (T : Nat → Nat → Int32) (hk : k ≤ 50) (hm : 50 < k + n) (hch : ChR S (itL (bsF (fun k => okW (whS k many)) (fun k => whS k many) (fun k => goS cd I A (whS k many))) (-1, 0) k)), Tr G mX4_nextOf (Rm 4 0 0) (OM G (Pch G x N R K r tl (nxS cd I A many)) 0 0) 0 0 9 [(2, .int (nI k)), (1, .int many), (0, .ref (x 6))] [] (XW G x N R K r S T tl) := by
  intro n
  induction n with
  | zero =>
    intro k S T hk hm hch
    exact absurd hm (by omega)
  | succ n ih =>
    intro k S T hk hm hch
    refine z_iload_n d_X4_nextOf_9 0 rfl ?_
    refine z_bipush (v := 50) d_X4_nextOf_10 (by decide) ?_
    refine z_icmp_ge d_X4_nextOf_12 (fun c_12 => ?_) (fun c_12 => ?_)
    · refine z_aload_n d_X4_nextOf_47 2 rfl ?_
      refine z_get (v := .ref (x 13)) (6) f_X4_40_4 rfl rfl d_X4_nextOf_48 ?_
      exact z_aret _ d_X4_nextOf_51 rfl (Or.inl ⟨_, rfl⟩) (Or.inr ⟨_, rfl⟩) ⟨rfl, S, T, rfl, by have h9 := ge_nI (N := 50) (by omega) (by decide) c_12; rw [show k = 50 by omega] at hch; exact hch⟩
    · have h9 : k < 50 := lt_nI (by omega) (by decide) c_12
      refine z_iload_n d_X4_nextOf_15 0 rfl ?_
      refine z_iload_n d_X4_nextOf_16 1 rfl ?_
      refine z_callSp c_X4_148 (t_X11_placeOf G k many (XW G x N R K r S T tl)) rfl rfl (Nat.le_of_ble_eq_true rfl) rfl d_X4_nextOf_17 ?_
      refine z_istore_n [(3, .int (whS k many)), (2, .int (nI k)), (1, .int many), (0, .ref (x 6))] d_X4_nextOf_20 (by decide) rfl ?_
      refine z_iload_n d_X4_nextOf_21 0 rfl ?_
      refine z_callSp c_X4_151 (t_X11_fits G (whS k many) (XW G x N R K r S T tl)) rfl rfl (Nat.le_of_ble_eq_true rfl) rfl d_X4_nextOf_22 ?_
      refine z_if_eq d_X4_nextOf_25 (fun c_25 => ?_) (fun c_25 => ?_)
      · refine z_iinc (nI (k + 1)) [(2, .int (nI (k + 1))), (3, .int (whS k many)), (1, .int many), (0, .ref (x 6))] 1 d_X4_nextOf_41 rfl (nI_1 _) (by decide) rfl ?_
        refine z_goto d_X4_nextOf_44 ?_
        refine z_perm [0, 2, 3] rfl ?_
        exact ih (k + 1) S T (by omega) (by omega) (by rw [itL, bsF_no (show (fun k => okW (whS k many)) k = false from b01_z c_25)]; exact hch)
      · have hok : okW (whS k many) = true := b01_o c_25
        refine z_aload_n d_X4_nextOf_28 3 rfl ?_
        refine z_get (v := .ref (x 13)) (6) f_X4_40_4 rfl rfl d_X4_nextOf_29 ?_
        refine z_iload_n d_X4_nextOf_32 0 rfl ?_
        refine z_aload_n d_X4_nextOf_33 3 rfl ?_
        refine z_iload_n d_X4_nextOf_34 0 rfl ?_
        refine z_callV 6 c_X4_154 rfl rfl (t_X4_worthNext G x N R K r S T tl I A h cd num hT (whS k many) hok) rfl rfl (Nat.le_of_ble_eq_true rfl) rfl d_X4_nextOf_35 ?_
        rintro v35 w35 ⟨rfl, T35, rfl⟩
        refine z_callVv 13 c_X4_157 (t_X0_offer G x N R K r S T35 tl (whS k many) (goS cd I A (whS k many))) rfl rfl rfl rfl (Nat.le_of_ble_eq_true rfl) rfl d_X4_nextOf_38 ?_
        refine z_iinc (nI (k + 1)) [(2, .int (nI (k + 1))), (3, .int (whS k many)), (1, .int many), (0, .ref (x 6))] 1 d_X4_nextOf_41 rfl (nI_1 _) (by decide) rfl ?_
        refine z_goto d_X4_nextOf_44 ?_
        refine z_perm [0, 2, 3] rfl ?_
        exact ih (k + 1) _ T35 (by omega) (by omega) (by rw [itL]; exact hch.offer (ok := fun k => okW (whS k many)) (wh := fun k => whS k many) (v := fun k => goS cd I A (whS k many)) hok)
set_option maxHeartbeats 4000000 in
set_option maxRecDepth 100000 in
theorem t_X4_nextOf (G : GT) (x : Nat → Nat) (N : Nat → Int32) (R : Nat → Nat → Int32) (K : Nat → Nat → Option Nat) (r : Nat → Nat) (S : Nat → Int32) (T : Nat → Nat → Int32) (tl : va_W) (I : Nat → Int32) (A : Nat → Nat → Int32) (h : NtR I A (N 2) (N 3) (N 4) (R 1) (R 2) (R 3) (K 0) tl) (cd : CD) (num : Int32) (hT : TxR G cd num (r 0) tl) (many : Int32)  : Ct G mX4_nextOf 4 0 0 [.ref (x 6), .int many] (XW G x N R K r S T tl) (Pch G x N R K r tl (nxS cd I A many)) := by
  refine Ct.intro [(0, .ref (x 6)), (1, .int many)] (by decide) rfl (Nat.le_of_ble_eq_true rfl) ?_
  refine z_aload_n d_X4_nextOf_0 0 rfl ?_
  refine z_get (v := .ref (x 13)) (6) f_X4_40_4 rfl rfl d_X4_nextOf_1 ?_
  refine z_callVv 13 c_X4_145 (t_X0_clear G x N R K r S T tl) rfl rfl rfl rfl (Nat.le_of_ble_eq_true rfl) rfl d_X4_nextOf_4 ?_
  refine z_iconst (v := 0) d_X4_nextOf_7 (by decide) ?_
  refine z_istore_n [(2, .int 0), (0, .ref (x 6)), (1, .int many)] d_X4_nextOf_8 (by decide) rfl ?_
  refine z_perm [0, 2, 1] rfl ?_
  exact l_X4_nextOf G x N R K r tl I A h cd num hT many 51 0 _ T (by omega) (by omega) ChR.st
set_option maxHeartbeats 4000000 in
set_option maxRecDepth 100000 in
theorem l_X4_crossingsOf (G : GT) (wh : Int32) (c st lg : Nat) (hW : WP wh c st lg) (ws : va_W) : ∀ (n : Nat) (i : Nat) (a : Int32) (hi : i ≤ lg) (hm : lg < i + n) (ha : a = itL (cvF wh) 0 i), Tr G mX4_crossingsOf (Rm 1 0 0) (OM G (Pi (cvS wh) ws) 0 0) 0 0 4 [(2, .int (nI i)), (1, .int a), (0, .int wh)] [] ws := by
  intro n
  induction n with
  | zero =>
    intro i a hi hm ha
    exact absurd hm (by omega)
  | succ n ih =>
    intro i a hi hm ha
    refine z_iload_n d_X4_crossingsOf_4 0 rfl ?_
    refine z_iload_n d_X4_crossingsOf_5 2 rfl ?_
    refine z_callSp c_X4_60 (t_X11_longOf G wh ws) rfl rfl (Nat.le_of_ble_eq_true rfl) rfl d_X4_crossingsOf_6 ?_
    refine z_icmp_ge d_X4_crossingsOf_9 (fun c_9 => ?_) (fun c_9 => ?_)
    · refine z_iload_n d_X4_crossingsOf_34 1 rfl ?_
      exact z_iret _ d_X4_crossingsOf_35 rfl (Pi.of (by have := hW.2.2.1; have e9 := hW.2.2.2.2.2.2.1; rw [e9] at c_9; have h9 := ge_nI (by omega) (by omega) c_9; rw [ha, cvS, e9, nI_tn (by omega), show i = lg by omega]))
    · have h9 : i < lg := by have := hW.2.2.1; rw [hW.2.2.2.2.2.2.1] at c_9; exact lt_nI (by omega) (by omega) c_9
      refine z_iload_n d_X4_crossingsOf_12 1 rfl ?_
      refine z_iconst (v := 1) d_X4_crossingsOf_13 (by decide) ?_
      refine z_iload_n d_X4_crossingsOf_14 2 rfl ?_
      refine z_callSp c_X4_63 (t_X11_firstOf G wh ws) rfl rfl (Nat.le_of_ble_eq_true rfl) rfl d_X4_crossingsOf_15 ?_
      refine z_iload_n d_X4_crossingsOf_18 0 rfl ?_
      refine z_iload_n d_X4_crossingsOf_19 2 rfl ?_
      refine z_callSp c_X4_66 (t_X11_stepOf G wh ws) rfl rfl (Nat.le_of_ble_eq_true rfl) rfl d_X4_crossingsOf_20 ?_
      refine z_imul d_X4_crossingsOf_23 ?_
      refine z_iadd d_X4_crossingsOf_24 ?_
      refine z_ishl d_X4_crossingsOf_25 ?_
      refine z_ior d_X4_crossingsOf_26 ?_
      refine z_istore_n [(1, .int (a ||| (1 <<< (((wh / 100) + ((nI i) * (stX wh))) &&& 31)))), (2, .int (nI i)), (0, .int wh)] d_X4_crossingsOf_27 (by decide) rfl ?_
      refine z_iinc (nI (i + 1)) [(2, .int (nI (i + 1))), (1, .int (a ||| (1 <<< (((wh / 100) + ((nI i) * (stX wh))) &&& 31)))), (0, .int wh)] 1 d_X4_crossingsOf_28 rfl (nI_1 _) (by decide) rfl ?_
      refine z_goto d_X4_crossingsOf_31 ?_
      exact ih (i + 1) _ (by omega) (by omega) (by rw [itL, cvF, ← ha]; rw [hW.2.2.2.2.2.2.2.2.1, ← hW.2.2.2.2.2.2.2.1, Int32.mul_comm])
set_option maxHeartbeats 4000000 in
set_option maxRecDepth 100000 in
theorem t_X4_crossingsOf (G : GT) (wh : Int32) (hok : okW wh = true) (ws : va_W)  : Ct G mX4_crossingsOf 1 0 0 [.int wh] ws (Pi (cvS wh) ws) := by
  obtain ⟨c, st, lg, hW⟩ := okW_WP hok
  refine Ct.intro [(0, .int wh)] (by decide) rfl (Nat.le_of_ble_eq_true rfl) ?_
  refine z_iconst (v := 0) d_X4_crossingsOf_0 (by decide) ?_
  refine z_istore_n [(1, .int 0), (0, .int wh)] d_X4_crossingsOf_1 (by decide) rfl ?_
  refine z_iconst (v := 0) d_X4_crossingsOf_2 (by decide) ?_
  refine z_istore_n [(2, .int 0), (1, .int 0), (0, .int wh)] d_X4_crossingsOf_3 (by decide) rfl ?_
  exact l_X4_crossingsOf G wh c st lg hW ws (lg + 1) 0 0 (by omega) (by omega) rfl
set_option maxHeartbeats 4000000 in
set_option maxRecDepth 100000 in
theorem l_X4_closingOf (G : GT) (x : Nat → Nat) (N : Nat → Int32) (R : Nat → Nat → Int32) (K : Nat → Nat → Option Nat) (r : Nat → Nat) (tl : va_W) (hl many : Int32) : ∀ (n : Nat) (k : Nat) (S : Nat → Int32) (T : Nat → Nat → Int32) (hk : k ≤ 50) (hm : 50 < k + n) (hch : ChR S (itL (bsF (fun k => okW (whS k many)) (fun k => whS k many) (fun k => pcI (cvS (whS k many) &&& hl))) (-1, 0) k)), Tr G mX4_closingOf (Rm 4 0 0) (OM G (Pch G x N R K r tl (clS hl many)) 0 0) 0 0 9 [(3, .int (nI k)), (2, .int many), (1, .int hl), (0, .ref (x 6))] [] (XW G x N R K r S T tl) := by
  intro n
  induction n with
  | zero =>
    intro k S T hk hm hch
    exact absurd hm (by omega)
  | succ n ih =>
    intro k S T hk hm hch
    refine z_iload_n d_X4_closingOf_9 0 rfl ?_
    refine z_bipush (v := 50) d_X4_closingOf_10 (by decide) ?_
    refine z_icmp_ge d_X4_closingOf_12 (fun c_12 => ?_) (fun c_12 => ?_)
    · refine z_aload_n d_X4_closingOf_55 3 rfl ?_
      refine z_get (v := .ref (x 13)) (6) f_X4_40_4 rfl rfl d_X4_closingOf_56 ?_
      exact z_aret _ d_X4_closingOf_59 rfl (Or.inl ⟨_, rfl⟩) (Or.inr ⟨_, rfl⟩) ⟨rfl, S, T, rfl, by have h9 := ge_nI (N := 50) (by omega) (by decide) c_12; rw [show k = 50 by omega] at hch; exact hch⟩
    · have h9 : k < 50 := lt_nI (by omega) (by decide) c_12
      refine z_iload_n d_X4_closingOf_15 0 rfl ?_
      refine z_iload_n d_X4_closingOf_16 1 rfl ?_
      refine z_callSp c_X4_148 (t_X11_placeOf G k many (XW G x N R K r S T tl)) rfl rfl (Nat.le_of_ble_eq_true rfl) rfl d_X4_closingOf_17 ?_
      refine z_istore [(4, .int (whS k many)), (3, .int (nI k)), (2, .int many), (1, .int hl), (0, .ref (x 6))] d_X4_closingOf_20 (by decide) rfl ?_
      refine z_iload d_X4_closingOf_22 0 rfl ?_
      refine z_callSp c_X4_151 (t_X11_fits G (whS k many) (XW G x N R K r S T tl)) rfl rfl (Nat.le_of_ble_eq_true rfl) rfl d_X4_closingOf_24 ?_
      refine z_if_eq d_X4_closingOf_27 (fun c_27 => ?_) (fun c_27 => ?_)
      · refine z_iinc (nI (k + 1)) [(3, .int (nI (k + 1))), (4, .int (whS k many)), (2, .int many), (1, .int hl), (0, .ref (x 6))] 1 d_X4_closingOf_49 rfl (nI_1 _) (by decide) rfl ?_
        refine z_goto d_X4_closingOf_52 ?_
        refine z_perm [0, 2, 3, 4] rfl ?_
        exact ih (k + 1) S T (by omega) (by omega) (by rw [itL, bsF_no (show (fun k => okW (whS k many)) k = false from b01_z c_27)]; exact hch)
      · have hok : okW (whS k many) = true := b01_o c_27
        refine z_aload_n d_X4_closingOf_30 4 rfl ?_
        refine z_get (v := .ref (x 13)) (6) f_X4_40_4 rfl rfl d_X4_closingOf_31 ?_
        refine z_iload d_X4_closingOf_34 0 rfl ?_
        refine z_iload d_X4_closingOf_36 0 rfl ?_
        refine z_callSp c_X4_168 (t_X4_crossingsOf G (whS k many) hok (XW G x N R K r S T tl)) rfl rfl (Nat.le_of_ble_eq_true rfl) rfl d_X4_closingOf_38 ?_
        refine z_iload_n d_X4_closingOf_41 3 rfl ?_
        refine z_iand d_X4_closingOf_42 ?_
        refine z_callSp c_X4_51 (t_J6_bitCount_0f7a4 G ((cvS (whS k many)) &&& hl) (XW G x N R K r S T tl)) rfl rfl (Nat.le_of_ble_eq_true rfl) rfl d_X4_closingOf_43 ?_
        refine z_callVv 13 c_X4_157 (t_X0_offer G x N R K r S T tl (whS k many) (pcI ((cvS (whS k many)) &&& hl))) rfl rfl rfl rfl (Nat.le_of_ble_eq_true rfl) rfl d_X4_closingOf_46 ?_
        refine z_iinc (nI (k + 1)) [(3, .int (nI (k + 1))), (4, .int (whS k many)), (2, .int many), (1, .int hl), (0, .ref (x 6))] 1 d_X4_closingOf_49 rfl (nI_1 _) (by decide) rfl ?_
        refine z_goto d_X4_closingOf_52 ?_
        refine z_perm [0, 2, 3, 4] rfl ?_
        exact ih (k + 1) _ T (by omega) (by omega) (by rw [itL]; exact hch.offer (ok := fun k => okW (whS k many)) (wh := fun k => whS k many) (v := fun k => pcI (cvS (whS k many) &&& hl)) hok)
set_option maxHeartbeats 4000000 in
set_option maxRecDepth 100000 in
theorem t_X4_closingOf (G : GT) (x : Nat → Nat) (N : Nat → Int32) (R : Nat → Nat → Int32) (K : Nat → Nat → Option Nat) (r : Nat → Nat) (S : Nat → Int32) (T : Nat → Nat → Int32) (tl : va_W) (hl many : Int32)  : Ct G mX4_closingOf 4 0 0 [.ref (x 6), .int hl, .int many] (XW G x N R K r S T tl) (Pch G x N R K r tl (clS hl many)) := by
  refine Ct.intro [(0, .ref (x 6)), (1, .int hl), (2, .int many)] (by decide) rfl (Nat.le_of_ble_eq_true rfl) ?_
  refine z_aload_n d_X4_closingOf_0 0 rfl ?_
  refine z_get (v := .ref (x 13)) (6) f_X4_40_4 rfl rfl d_X4_closingOf_1 ?_
  refine z_callVv 13 c_X4_145 (t_X0_clear G x N R K r S T tl) rfl rfl rfl rfl (Nat.le_of_ble_eq_true rfl) rfl d_X4_closingOf_4 ?_
  refine z_iconst (v := 0) d_X4_closingOf_7 (by decide) ?_
  refine z_istore_n [(3, .int 0), (0, .ref (x 6)), (1, .int hl), (2, .int many)] d_X4_closingOf_8 (by decide) rfl ?_
  refine z_perm [0, 3, 2, 1] rfl ?_
  exact l_X4_closingOf G x N R K r tl hl many 51 0 _ T (by omega) (by omega) ChR.st
set_option maxHeartbeats 4000000 in
set_option maxRecDepth 100000 in
theorem l_X4_covered (G : GT) (x : Nat → Nat) (N : Nat → Int32) (R : Nat → Nat → Int32) (K : Nat → Nat → Option Nat) (r : Nat → Nat) (S : Nat → Int32) (T : Nat → Nat → Int32) (tl : va_W) (I : Nat → Int32) (A : Nat → Nat → Int32) (h : NtR I A (N 2) (N 3) (N 4) (R 1) (R 2) (R 3) (K 0) tl) : ∀ (n : Nat) (k : Nat) (a : Int32) (hk : k ≤ 25) (hm : 25 < k + n) (ha : a = itL (orF (cvQ (R 3))) 0 k), Tr G mX4_covered (Rm 0 0 0) (OM G (Pi (coS I A) (XW G x N R K r S T tl)) 0 0) 0 0 4 [(2, .int (nI k)), (1, .int a), (0, .ref (x 6))] [] (XW G x N R K r S T tl) := by
  intro n
  induction n with
  | zero =>
    intro k a hk hm ha
    exact absurd hm (by omega)
  | succ n ih =>
    intro k a hk hm ha
    refine z_iload_n d_X4_covered_4 0 rfl ?_
    refine z_bipush (v := 25) d_X4_covered_5 (by decide) ?_
    refine z_icmp_ge d_X4_covered_7 (fun c_7 => ?_) (fun c_7 => ?_)
    · refine z_iload_n d_X4_covered_31 1 rfl ?_
      exact z_iret _ d_X4_covered_32 rfl (Pi.of (by have h9 := ge_nI (N := 25) (by omega) (by decide) c_7; rw [ha, ← cov_S h, orS, show k = 25 by omega]))
    · have h9 : k < 25 := lt_nI (by omega) (by decide) c_7
      refine z_aload_n d_X4_covered_10 2 rfl ?_
      refine z_get (v := .ref (x 10)) (6) f_X4_24_4 rfl rfl d_X4_covered_11 ?_
      refine z_iload_n d_X4_covered_14 0 rfl ?_
      refine z_ialdN (10) k rfl (nI_toInt (by omega)) (by omega) d_X4_covered_15 ?_
      refine z_if_eq d_X4_covered_16 (fun c_16 => ?_) (fun c_16 => ?_)
      · refine z_iinc (nI (k + 1)) [(2, .int (nI (k + 1))), (1, .int a), (0, .ref (x 6))] 0 d_X4_covered_25 rfl (nI_1 _) (by decide) rfl ?_
        refine z_goto d_X4_covered_28 ?_
        exact ih (k + 1) _ (by omega) (by omega) (orS_f (P := cvQ (R 3)) (by rw [cvQ, decide_eq_true c_16]; rfl) ha)
      · refine z_iload_n d_X4_covered_19 1 rfl ?_
        refine z_iconst (v := 1) d_X4_covered_20 (by decide) ?_
        refine z_iload_n d_X4_covered_21 0 rfl ?_
        refine z_ishl d_X4_covered_22 ?_
        refine z_ior d_X4_covered_23 ?_
        refine z_istore_n [(1, .int (a ||| (1 <<< ((nI k) &&& 31)))), (2, .int (nI k)), (0, .ref (x 6))] d_X4_covered_24 (by decide) rfl ?_
        refine z_iinc (nI (k + 1)) [(2, .int (nI (k + 1))), (1, .int (a ||| (1 <<< ((nI k) &&& 31)))), (0, .ref (x 6))] 1 d_X4_covered_25 rfl (nI_1 _) (by decide) rfl ?_
        refine z_goto d_X4_covered_28 ?_
        exact ih (k + 1) _ (by omega) (by omega) (orS_t (P := cvQ (R 3)) (by rw [cvQ, decide_eq_false c_16]; rfl) ha)
set_option maxHeartbeats 4000000 in
set_option maxRecDepth 100000 in
theorem t_X4_covered (G : GT) (x : Nat → Nat) (N : Nat → Int32) (R : Nat → Nat → Int32) (K : Nat → Nat → Option Nat) (r : Nat → Nat) (S : Nat → Int32) (T : Nat → Nat → Int32) (tl : va_W) (I : Nat → Int32) (A : Nat → Nat → Int32) (h : NtR I A (N 2) (N 3) (N 4) (R 1) (R 2) (R 3) (K 0) tl)  : Ct G mX4_covered 0 0 0 [.ref (x 6)] (XW G x N R K r S T tl) (Pi (coS I A) (XW G x N R K r S T tl)) := by
  refine Ct.intro [(0, .ref (x 6))] (by decide) rfl (Nat.le_of_ble_eq_true rfl) ?_
  refine z_iconst (v := 0) d_X4_covered_0 (by decide) ?_
  refine z_istore_n [(1, .int 0), (0, .ref (x 6))] d_X4_covered_1 (by decide) rfl ?_
  refine z_iconst (v := 0) d_X4_covered_2 (by decide) ?_
  refine z_istore_n [(2, .int 0), (1, .int 0), (0, .ref (x 6))] d_X4_covered_3 (by decide) rfl ?_
  exact l_X4_covered G x N R K r S T tl I A h 26 0 0 (by omega) (by omega) rfl
theorem isT_e {I : Nat → Int32} {A : Nat → Nat → Int32} {x_al x_ho x_gr : Int32} {x_wh x_la x_ly : Nat → Int32} {x_kn : Nat → Option Nat} {tl : va_W} (_ : NtR I A x_al x_ho x_gr x_wh x_la x_ly x_kn tl) {cd : CD} {th : Int32} {f : Nat → Int32} : vOf (nm6 f (pcI (coS I A)) (pcI (orS (grQ I A th) 16)) (lhS cd (upd I 13 th) A) 0 th (pcI (I 12))) (pt cd 2) = tkN cd (upd I 13 th) A := by
  rw [vO_c (nm6_F _ _ _ _ _ _ _), pc_gr]; rfl
set_option maxHeartbeats 4000000 in
set_option maxRecDepth 100000 in
theorem t_X4_isTaken (G : GT) (x : Nat → Nat) (N : Nat → Int32) (R : Nat → Nat → Int32) (K : Nat → Nat → Option Nat) (r : Nat → Nat) (S : Nat → Int32) (T : Nat → Nat → Int32) (tl : va_W) (I : Nat → Int32) (A : Nat → Nat → Int32) (h : NtR I A (N 2) (N 3) (N 4) (R 1) (R 2) (R 3) (K 0) tl) (cd : CD) (num : Int32) (hT : TxR G cd num (r 0) tl) (th : Int32)  : Ct G mX4_isTaken 7 0 0 [.ref (x 6), .int th] (XW G x N R K r S T tl) (Px G x N R K r S tl (some (.int (b01 (tkS cd (upd I 13 th) A))))) := by
  refine Ct.intro [(0, .ref (x 6)), (1, .int th)] (by decide) rfl (Nat.le_of_ble_eq_true rfl) ?_
  refine z_aload_n d_X4_isTaken_0 0 rfl ?_
  refine z_iload_n d_X4_isTaken_1 1 rfl ?_
  refine z_callV 6 c_X4_165 rfl rfl (t_X4_leastHold G x N R K r S T tl I A h cd num hT th ) rfl rfl (Nat.le_of_ble_eq_true rfl) rfl d_X4_isTaken_2 ?_
  rintro v2 w2 ⟨rfl, T2, rfl⟩
  refine z_istore_n [(2, .int (lhS cd (upd I 13 th) A)), (0, .ref (x 6)), (1, .int th)] d_X4_isTaken_5 (by decide) rfl ?_
  refine z_aload_n d_X4_isTaken_6 1 rfl ?_
  refine z_aload_n d_X4_isTaken_7 1 rfl ?_
  refine z_callVp 6 c_X4_171 (t_X4_covered G x N R K r S T2 tl I A h  ) rfl rfl rfl rfl (Nat.le_of_ble_eq_true rfl) rfl d_X4_isTaken_8 ?_
  refine z_callSp c_X4_51 (t_J6_bitCount_0f7a4 G (coS I A) (XW G x N R K r S T2 tl)) rfl rfl (Nat.le_of_ble_eq_true rfl) rfl d_X4_isTaken_11 ?_
  refine z_aload_n d_X4_isTaken_14 1 rfl ?_
  refine z_iload_n d_X4_isTaken_15 2 rfl ?_
  refine z_callVp 6 c_X4_177 (t_X4_greenBits G x N R K r S T2 tl I A h th ) rfl rfl rfl rfl (Nat.le_of_ble_eq_true rfl) rfl d_X4_isTaken_16 ?_
  refine z_callSp c_X4_51 (t_J6_bitCount_0f7a4 G (orS (grQ I A th) 16) (XW G x N R K r S T2 tl)) rfl rfl (Nat.le_of_ble_eq_true rfl) rfl d_X4_isTaken_19 ?_
  refine z_iload_n d_X4_isTaken_22 0 rfl ?_
  refine z_iconst (v := 0) d_X4_isTaken_23 (by decide) ?_
  refine z_iload_n d_X4_isTaken_24 2 rfl ?_
  refine z_aload_n d_X4_isTaken_25 1 rfl ?_
  refine z_callVp 6 c_X4_142 (t_X4_size G x N R K r S T2 tl I A h  ) rfl rfl rfl rfl (Nat.le_of_ble_eq_true rfl) rfl d_X4_isTaken_26 ?_
  refine z_callVv 6 c_X4_123 (t_X4_name G x N R K r S T2 tl  (pcI (coS I A)) (pcI (orS (grQ I A th) 16)) (lhS cd (upd I 13 th) A) 0 th (pcI (I 12)) ) rfl rfl rfl rfl (Nat.le_of_ble_eq_true rfl) rfl d_X4_isTaken_29 ?_
  refine z_aload_n d_X4_isTaken_32 1 rfl ?_
  refine z_get (v := .ref (r 0)) (6) f_X4_44_4 rfl rfl d_X4_isTaken_33 ?_
  refine z_iconst (v := 2) d_X4_isTaken_36 (by decide) ?_
  refine z_aload_n d_X4_isTaken_37 1 rfl ?_
  refine z_get (v := .ref (x 11)) (6) f_X4_31_4 rfl rfl d_X4_isTaken_38 ?_
  refine z_aload_n d_X4_isTaken_41 1 rfl ?_
  refine z_get (v := .ref (x 12)) (6) f_X4_34_4 rfl rfl d_X4_isTaken_42 ?_
  obtain ⟨qt, fs9, hqt⟩ := hT.at
  refine z_callV (qt + 31) c_X4_108 hqt rfl (t_X9_worth G x N R K r S (vf_upd T2 2 (nm6 (T2 2) (pcI (coS I A)) (pcI (orS (grQ I A th) 16)) (lhS cd (upd I 13 th) A) 0 th (pcI (I 12)))) tl cd num (r 0) hT 2 (by decide)) rfl rfl (Nat.le_of_ble_eq_true rfl) rfl d_X4_isTaken_45 ?_
  rintro v45 w45 ⟨rfl, T45, rfl⟩
  refine z_top (isT_e h (f := _) (cd := cd) (th := th)) ?_
  refine z_if_eq d_X4_isTaken_48 (fun c_48 => ?_) (fun c_48 => ?_)
  · refine z_iconst (v := 0) d_X4_isTaken_55 (by decide) ?_
    exact z_zret _ d_X4_isTaken_56 rfl (by first | rfl | decide) ⟨px_i (by rw [tkS, decide_eq_true c_48]; rfl), _, rfl⟩
  · refine z_iconst (v := 1) d_X4_isTaken_51 (by decide) ?_
    refine z_goto d_X4_isTaken_52 ?_
    exact z_zret _ d_X4_isTaken_56 rfl (by first | rfl | decide) ⟨px_i (by rw [tkS, decide_eq_false c_48]; rfl), _, rfl⟩
