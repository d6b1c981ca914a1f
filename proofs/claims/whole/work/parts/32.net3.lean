/-! THE NET of class X: what hangs and falls, pulls, LEAST PULL -/
set_option maxHeartbeats 4000000 in
set_option maxRecDepth 100000 in
theorem l_X4_hanging_40 (G : GT) (x : Nat → Nat) (N : Nat → Int32) (R : Nat → Nat → Int32) (K : Nat → Nat → Option Nat) (r : Nat → Nat) (S : Nat → Int32) (T : Nat → Nat → Int32) (tl : va_W) (I : Nat → Int32) (A : Nat → Nat → Int32) (h : NtR I A (N 2) (N 3) (N 4) (R 1) (R 2) (R 3) (K 0) tl) (mask hung rd : Int32) (hK : Tr G mX4_hanging (Rm 0 0 0) (OM G (Pi (hgM A mask) (XW G x N R K r S T tl)) 0 0) 0 0 79 [(4, .int (hgP (R 3) mask hung 25)), (3, .int rd), (2, .int hung), (1, .int mask), (0, .ref (x 6))] [] (XW G x N R K r S T tl)) : ∀ (n : Nat) (k : Nat) (m : Int32) (hk : k ≤ 25) (hm9 : 25 < k + n) (ha : m = hgP (R 3) mask hung k), Tr G mX4_hanging (Rm 0 0 0) (OM G (Pi (hgM A mask) (XW G x N R K r S T tl)) 0 0) 0 0 40 [(5, .int (nI k)), (4, .int m), (3, .int rd), (2, .int hung), (1, .int mask), (0, .ref (x 6))] [] (XW G x N R K r S T tl) := by
  intro n
  induction n with
  | zero =>
    intro k m hk hm9 ha
    exact absurd hm9 (by omega)
  | succ n ih =>
    intro k m hk hm9 ha
    refine z_iload d_X4_hanging_40 0 rfl ?_
    refine z_bipush (v := 25) d_X4_hanging_42 (by decide) ?_
    refine z_icmp_ge d_X4_hanging_44 (fun c_44 => ?_) (fun c_44 => ?_)
    · refine z_perm [1, 2, 3, 4, 5] rfl ?_
      have h9 := ge_nI (N := 25) (by omega) (by decide) c_44
      rw [ha, show k = 25 by omega]
      exact hK
    · have h9 : k < 25 := lt_nI (by omega) (by decide) c_44
      refine z_aload_n d_X4_hanging_47 5 rfl ?_
      refine z_get (v := .ref (x 10)) (6) f_X4_24_4 rfl rfl d_X4_hanging_48 ?_
      refine z_iload d_X4_hanging_51 0 rfl ?_
      refine z_ialdN (10) k rfl (nI_toInt (by omega)) (by omega) d_X4_hanging_53 ?_
      refine z_iload_n d_X4_hanging_54 3 rfl ?_
      refine z_iand d_X4_hanging_55 ?_
      refine z_if_eq d_X4_hanging_56 (fun c_56 => ?_) (fun c_56 => ?_)
      · refine z_iinc (nI (k + 1)) [(5, .int (nI (k + 1))), (4, .int m), (3, .int rd), (2, .int hung), (1, .int mask), (0, .ref (x 6))] 0 d_X4_hanging_73 rfl (nI_1 _) (by decide) rfl ?_
        refine z_goto d_X4_hanging_76 ?_
        exact ih (k + 1) _ (by omega) (by omega) (by show _ = hgF (R 3) mask hung k (hgP (R 3) mask hung k); rw [hgF, if_pos c_56, ← ha])
      · refine z_iload d_X4_hanging_59 1 rfl ?_
        refine z_aload_n d_X4_hanging_61 5 rfl ?_
        refine z_get (v := .ref (x 10)) (6) f_X4_24_4 rfl rfl d_X4_hanging_62 ?_
        refine z_iload d_X4_hanging_65 0 rfl ?_
        refine z_ialdN (10) k rfl (nI_toInt (by omega)) (by omega) d_X4_hanging_67 ?_
        refine z_iload_n d_X4_hanging_68 4 rfl ?_
        refine z_iand d_X4_hanging_69 ?_
        refine z_ior d_X4_hanging_70 ?_
        refine z_istore [(4, .int (m ||| (((R 3) k) &&& mask))), (5, .int (nI k)), (3, .int rd), (2, .int hung), (1, .int mask), (0, .ref (x 6))] d_X4_hanging_71 (by decide) rfl ?_
        refine z_iinc (nI (k + 1)) [(5, .int (nI (k + 1))), (4, .int (m ||| (((R 3) k) &&& mask))), (3, .int rd), (2, .int hung), (1, .int mask), (0, .ref (x 6))] 1 d_X4_hanging_73 rfl (nI_1 _) (by decide) rfl ?_
        refine z_goto d_X4_hanging_76 ?_
        exact ih (k + 1) _ (by omega) (by omega) (by show _ = hgF (R 3) mask hung k (hgP (R 3) mask hung k); rw [hgF, if_neg c_56, ← ha])
set_option maxHeartbeats 4000000 in
set_option maxRecDepth 100000 in
theorem l_X4_hanging_28 (G : GT) (x : Nat → Nat) (N : Nat → Int32) (R : Nat → Nat → Int32) (K : Nat → Nat → Option Nat) (r : Nat → Nat) (S : Nat → Int32) (T : Nat → Nat → Int32) (tl : va_W) (I : Nat → Int32) (A : Nat → Nat → Int32) (h : NtR I A (N 2) (N 3) (N 4) (R 1) (R 2) (R 3) (K 0) tl) (mask : Int32) (hm : Sb mask (I 12)) : ∀ (n : Nat) (rd : Nat) (hung : Int32) (hrd : rd ≤ 16) (hm9 : 16 < rd + n) (hv : HIv A mask hung) (hp : rd ≤ pcn hung), Tr G mX4_hanging (Rm 0 0 0) (OM G (Pi (hgM A mask) (XW G x N R K r S T tl)) 0 0) 0 0 28 [(3, .int (nI rd)), (2, .int hung), (1, .int mask), (0, .ref (x 6))] [] (XW G x N R K r S T tl) := by
  intro n
  induction n with
  | zero =>
    intro rd hung hrd hm9 hv hp
    exact absurd hm9 (by omega)
  | succ n ih =>
    intro rd hung hrd hm9 hv hp
    refine z_iload_n d_X4_hanging_28 0 rfl ?_
    refine z_bipush (v := 16) d_X4_hanging_29 (by decide) ?_
    refine z_icmp_ge d_X4_hanging_31 (fun c_31 => ?_) (fun c_31 => ?_)
    · refine z_iload_n d_X4_hanging_97 1 rfl ?_
      exact z_iret _ d_X4_hanging_98 rfl (Pi.of (hg_full h hm hv (by have h9 := ge_nI (N := 16) (by omega) (by decide) c_31; omega)))
    · refine z_iload_n d_X4_hanging_34 1 rfl ?_
      refine z_istore [(4, .int hung), (3, .int (nI rd)), (2, .int hung), (1, .int mask), (0, .ref (x 6))] d_X4_hanging_35 (by decide) rfl ?_
      refine z_iconst (v := 0) d_X4_hanging_37 (by decide) ?_
      refine z_istore [(5, .int 0), (4, .int hung), (3, .int (nI rd)), (2, .int hung), (1, .int mask), (0, .ref (x 6))] d_X4_hanging_38 (by decide) rfl ?_
      refine l_X4_hanging_40 G x N R K r S T tl I A h mask hung (nI rd) ?_ 26 0 _ (by omega) (by omega) rfl
      refine z_iload d_X4_hanging_79 0 rfl ?_
      refine z_iload_n d_X4_hanging_81 2 rfl ?_
      refine z_icmp_ne d_X4_hanging_82 (fun c_82 => ?_) (fun c_82 => ?_)
      · have h9 := lt_nI (N := 16) (by omega) (by decide) c_31
        refine z_iload d_X4_hanging_88 0 rfl ?_
        refine z_istore_n [(2, .int (hgP (R 3) mask hung 25)), (4, .int (hgP (R 3) mask hung 25)), (3, .int (nI rd)), (1, .int mask), (0, .ref (x 6))] d_X4_hanging_90 (by decide) rfl ?_
        refine z_iinc (nI (rd + 1)) [(3, .int (nI (rd + 1))), (2, .int (hgP (R 3) mask hung 25)), (4, .int (hgP (R 3) mask hung 25)), (1, .int mask), (0, .ref (x 6))] 2 d_X4_hanging_91 rfl (nI_1 _) (by decide) rfl ?_
        refine z_goto d_X4_hanging_94 ?_
        refine z_perm [0, 1, 3, 4] rfl ?_
        exact ih (rd + 1) _ (by omega) (by omega) (hgP_v h hm hv 25 (Nat.le_refl _)).1 (by have := hg_more h hm hv c_82; omega)
      · refine z_goto d_X4_hanging_85 ?_
        refine z_iload_n d_X4_hanging_97 2 rfl ?_
        exact z_iret _ d_X4_hanging_98 rfl (Pi.of (hg_end h hm hv c_82))
set_option maxHeartbeats 4000000 in
set_option maxRecDepth 100000 in
theorem l_X4_hanging_4 (G : GT) (x : Nat → Nat) (N : Nat → Int32) (R : Nat → Nat → Int32) (K : Nat → Nat → Option Nat) (r : Nat → Nat) (S : Nat → Int32) (T : Nat → Nat → Int32) (tl : va_W) (I : Nat → Int32) (A : Nat → Nat → Int32) (h : NtR I A (N 2) (N 3) (N 4) (R 1) (R 2) (R 3) (K 0) tl) (mask : Int32) (hm : Sb mask (I 12)) : ∀ (n : Nat) (k : Nat) (a : Int32) (hk : k ≤ 5) (hm9 : 5 < k + n) (ha : a = itL (h0F (R 3) mask) 0 k), Tr G mX4_hanging (Rm 0 0 0) (OM G (Pi (hgM A mask) (XW G x N R K r S T tl)) 0 0) 0 0 4 [(3, .int (nI k)), (2, .int a), (1, .int mask), (0, .ref (x 6))] [] (XW G x N R K r S T tl) := by
  intro n
  induction n with
  | zero =>
    intro k a hk hm9 ha
    exact absurd hm9 (by omega)
  | succ n ih =>
    intro k a hk hm9 ha
    refine z_iload_n d_X4_hanging_4 0 rfl ?_
    refine z_iconst (v := 5) d_X4_hanging_5 (by decide) ?_
    refine z_icmp_ge d_X4_hanging_6 (fun c_6 => ?_) (fun c_6 => ?_)
    · refine z_iconst (v := 0) d_X4_hanging_26 (by decide) ?_
      refine z_istore_n [(3, .int 0), (2, .int a), (1, .int mask), (0, .ref (x 6))] d_X4_hanging_27 (by decide) rfl ?_
      have h9 := ge_nI (N := 5) (by omega) (by decide) c_6
      have hv := h0_v h hm
      rw [← show k = 5 by omega, ← ha] at hv
      exact l_X4_hanging_28 G x N R K r S T tl I A h mask hm 17 0 a (by omega) (by omega) hv (by omega)
    · have h9 : k < 5 := lt_nI (by omega) (by decide) c_6
      refine z_iload_n d_X4_hanging_9 1 rfl ?_
      refine z_aload_n d_X4_hanging_10 3 rfl ?_
      refine z_get (v := .ref (x 10)) (6) f_X4_24_4 rfl rfl d_X4_hanging_11 ?_
      refine z_iload_n d_X4_hanging_14 0 rfl ?_
      refine z_ialdN (10) k rfl (nI_toInt (by omega)) (by omega) d_X4_hanging_15 ?_
      refine z_iload_n d_X4_hanging_16 2 rfl ?_
      refine z_iand d_X4_hanging_17 ?_
      refine z_ior d_X4_hanging_18 ?_
      refine z_istore_n [(2, .int (a ||| (((R 3) k) &&& mask))), (3, .int (nI k)), (1, .int mask), (0, .ref (x 6))] d_X4_hanging_19 (by decide) rfl ?_
      refine z_iinc (nI (k + 1)) [(3, .int (nI (k + 1))), (2, .int (a ||| (((R 3) k) &&& mask))), (1, .int mask), (0, .ref (x 6))] 1 d_X4_hanging_20 rfl (nI_1 _) (by decide) rfl ?_
      refine z_goto d_X4_hanging_23 ?_
      exact ih (k + 1) _ (by omega) (by omega) (by rw [itL, h0F, ← ha])
set_option maxHeartbeats 4000000 in
set_option maxRecDepth 100000 in
theorem t_X4_hanging (G : GT) (x : Nat → Nat) (N : Nat → Int32) (R : Nat → Nat → Int32) (K : Nat → Nat → Option Nat) (r : Nat → Nat) (S : Nat → Int32) (T : Nat → Nat → Int32) (tl : va_W) (I : Nat → Int32) (A : Nat → Nat → Int32) (h : NtR I A (N 2) (N 3) (N 4) (R 1) (R 2) (R 3) (K 0) tl) (mask : Int32) (hm : Sb mask (I 12)) : Ct G mX4_hanging 0 0 0 [.ref (x 6), .int mask] (XW G x N R K r S T tl) (Pi (hgM A mask) (XW G x N R K r S T tl)) := by
  refine Ct.intro [(0, .ref (x 6)), (1, .int mask)] (by decide) rfl (Nat.le_of_ble_eq_true rfl) ?_
  refine z_iconst (v := 0) d_X4_hanging_0 (by decide) ?_
  refine z_istore_n [(2, .int 0), (0, .ref (x 6)), (1, .int mask)] d_X4_hanging_1 (by decide) rfl ?_
  refine z_iconst (v := 0) d_X4_hanging_2 (by decide) ?_
  refine z_istore_n [(3, .int 0), (2, .int 0), (0, .ref (x 6)), (1, .int mask)] d_X4_hanging_3 (by decide) rfl ?_
  refine z_perm [0, 1, 3, 2] rfl ?_
  exact l_X4_hanging_4 G x N R K r S T tl I A h mask hm 6 0 0 (by omega) (by omega) rfl
set_option maxHeartbeats 4000000 in
set_option maxRecDepth 100000 in
theorem t_X4_falling (G : GT) (x : Nat → Nat) (N : Nat → Int32) (R : Nat → Nat → Int32) (K : Nat → Nat → Option Nat) (r : Nat → Nat) (S : Nat → Int32) (T : Nat → Nat → Int32) (tl : va_W) (I : Nat → Int32) (A : Nat → Nat → Int32) (h : NtR I A (N 2) (N 3) (N 4) (R 1) (R 2) (R 3) (K 0) tl) (mask : Int32) (hm : Sb mask (I 12)) : Ct G mX4_falling 1 0 0 [.ref (x 6), .int mask] (XW G x N R K r S T tl) (Pi (faS A mask) (XW G x N R K r S T tl)) := by
  refine Ct.intro [(0, .ref (x 6)), (1, .int mask)] (by decide) rfl (Nat.le_of_ble_eq_true rfl) ?_
  refine z_iload_n d_X4_falling_0 1 rfl ?_
  refine z_aload_n d_X4_falling_1 0 rfl ?_
  refine z_iload_n d_X4_falling_2 1 rfl ?_
  refine z_callVp 6 c_X4_130 (t_X4_hanging G x N R K r S T tl I A h mask hm) rfl rfl rfl rfl (Nat.le_of_ble_eq_true rfl) rfl d_X4_falling_3 ?_
  refine z_iconst (v := -1) d_X4_falling_6 (by decide) ?_
  refine z_ixor d_X4_falling_7 ?_
  refine z_iand d_X4_falling_8 ?_
  exact z_iret _ d_X4_falling_9 rfl (Pi.of rfl)
set_option maxHeartbeats 4000000 in
set_option maxRecDepth 100000 in
theorem t_X4_withFallen (G : GT) (x : Nat → Nat) (N : Nat → Int32) (R : Nat → Nat → Int32) (K : Nat → Nat → Option Nat) (r : Nat → Nat) (S : Nat → Int32) (T : Nat → Nat → Int32) (tl : va_W) (I : Nat → Int32) (A : Nat → Nat → Int32) (h : NtR I A (N 2) (N 3) (N 4) (R 1) (R 2) (R 3) (K 0) tl) (tk : Int32)  : Ct G mX4_withFallen 2 0 0 [.ref (x 6), .int tk] (XW G x N R K r S T tl) (Pi (tk ||| faS A (I 12 &&& (tk ^^^ (-1)))) (XW G x N R K r S T tl)) := by
  refine Ct.intro [(0, .ref (x 6)), (1, .int tk)] (by decide) rfl (Nat.le_of_ble_eq_true rfl) ?_
  refine z_iload_n d_X4_withFallen_0 1 rfl ?_
  refine z_aload_n d_X4_withFallen_1 0 rfl ?_
  refine z_aload_n d_X4_withFallen_2 0 rfl ?_
  refine z_get (v := .int (N 2)) (6) f_X4_48_4 rfl rfl d_X4_withFallen_3 ?_
  refine z_iload_n d_X4_withFallen_6 1 rfl ?_
  refine z_iconst (v := -1) d_X4_withFallen_7 (by decide) ?_
  refine z_ixor d_X4_withFallen_8 ?_
  refine z_iand d_X4_withFallen_9 ?_
  refine z_callVp 6 c_X4_133 (t_X4_falling G x N R K r S T tl I A h ((N 2) &&& (tk ^^^ (-1))) (by rw [h.al]; exact (Sb.rf _).and)) rfl rfl rfl rfl (Nat.le_of_ble_eq_true rfl) rfl d_X4_withFallen_10 ?_
  refine z_ior d_X4_withFallen_13 ?_
  exact z_iret _ d_X4_withFallen_14 rfl (Pi.of (by rw [h.al]))
theorem sb0n {x : Int32} {k : Nat} (hk : k < 32) (h : ¬ x >>> (nI k &&& 31) &&& 1 = 0) : bt x k = true := by
  cases hz : bt x k
  · exact absurd ((sb0 hk).mpr hz) h
  · rfl
set_option maxHeartbeats 4000000 in
set_option maxRecDepth 100000 in
theorem l_X4_looseAt (G : GT) (x : Nat → Nat) (N : Nat → Int32) (R : Nat → Nat → Int32) (K : Nat → Nat → Option Nat) (r : Nat → Nat) (S : Nat → Int32) (tl : va_W) (I : Nat → Int32) (A : Nat → Nat → Int32) (h : NtR I A (N 2) (N 3) (N 4) (R 1) (R 2) (R 3) (K 0) tl) (cd : CD) (num : Int32) (hT : TxR G cd num (r 0) tl) (c : Nat) (strong mask : Int32) (hc : c < 25) (hm : Sb mask (I 12)) (hI : upd I 13 (N 3) = I) : ∀ (n : Nat) (k : Nat) (T : Nat → Nat → Int32) (a : Int32) (hk9 : k ≤ 16) (hm9 : 16 < k + n) (ha : a = itL (orF (leP cd I A strong mask (atS A (nI c) mask))) 0 k), Tr G mX4_looseAt (Rm 6 0 0) (OM G (Px G x N R K r S tl (some (.int (leC cd I A (nI c) strong mask)))) 0 0) 0 0 16 [(6, .int (nI k)), (5, .int a), (4, .int (atS A (nI c) mask)), (3, .int mask), (2, .int strong), (1, .int (nI c)), (0, .ref (x 6))] [] (XW G x N R K r S T tl) := by
  intro n
  induction n with
  | zero =>
    intro k T a hk9 hm9 ha
    exact absurd hm9 (by omega)
  | succ n ih =>
    intro k T a hk9 hm9 ha
    refine z_iload d_X4_looseAt_16 0 rfl ?_
    refine z_bipush (v := 16) d_X4_looseAt_18 (by decide) ?_
    refine z_icmp_ge d_X4_looseAt_20 (fun c_20 => ?_) (fun c_20 => ?_)
    · refine z_iload d_X4_looseAt_63 1 rfl ?_
      exact z_iret _ d_X4_looseAt_65 rfl ⟨px_i (by have h9 := ge_nI (N := 16) (by omega) (by decide) c_20; rw [ha, leC, orS, show k = 16 by omega]), _, rfl⟩
    · have hk : k < 16 := lt_nI (by omega) (by decide) c_20
      refine z_iload d_X4_looseAt_23 2 rfl ?_
      refine z_iload d_X4_looseAt_25 0 rfl ?_
      refine z_ishr d_X4_looseAt_27 ?_
      refine z_iconst (v := 1) d_X4_looseAt_28 (by decide) ?_
      refine z_iand d_X4_looseAt_29 ?_
      refine z_if_eq d_X4_looseAt_30 (fun c_30 => ?_) (fun c_30 => ?_)
      · refine z_iinc (nI (k + 1)) [(6, .int (nI (k + 1))), (5, .int a), (4, .int (atS A (nI c) mask)), (3, .int mask), (2, .int strong), (1, .int (nI c)), (0, .ref (x 6))] 0 d_X4_looseAt_57 rfl (nI_1 _) (by decide) rfl ?_
        refine z_goto d_X4_looseAt_60 ?_
        exact ih (k + 1) T _ (by omega) (by omega) (orS_f (P := leP cd I A strong mask (atS A (nI c) mask)) (by rw [leP, decide_eq_false (by rw [sb1 (by omega)]; rw [sb0 (by omega)] at c_30; rw [c_30]; decide)]; rfl) ha)
      · have hbo : bt (atS A (nI c) mask) k = true := sb0n (by omega) c_30
        have hbm : bt mask k = true := by rw [at_bt hc (by omega), Bool.and_eq_true, Bool.and_eq_true] at hbo; exact hbo.2.1
        have hb : bt (I 12) k = true := hm k (by omega) hbm
        refine z_aload_n d_X4_looseAt_33 6 rfl ?_
        refine z_iload d_X4_looseAt_34 0 rfl ?_
        refine z_iload_n d_X4_looseAt_36 3 rfl ?_
        refine z_aload_n d_X4_looseAt_37 6 rfl ?_
        refine z_get (v := .int (N 3)) (6) f_X4_57_4 rfl rfl d_X4_looseAt_38 ?_
        refine z_callV 6 c_X4_127 rfl rfl (t_X4_hold G x N R K r S T tl I A h cd num hT k mask (N 3) hk hb hm) rfl rfl (Nat.le_of_ble_eq_true rfl) rfl d_X4_looseAt_41 ?_
        rintro v41 w41 ⟨rfl, T41, rfl⟩
        rw [hI]
        refine z_iload_n d_X4_looseAt_44 4 rfl ?_
        refine z_icmp_ge d_X4_looseAt_45 (fun c_45 => ?_) (fun c_45 => ?_)
        · refine z_iinc (nI (k + 1)) [(6, .int (nI (k + 1))), (5, .int a), (4, .int (atS A (nI c) mask)), (3, .int mask), (2, .int strong), (1, .int (nI c)), (0, .ref (x 6))] 0 d_X4_looseAt_57 rfl (nI_1 _) (by decide) rfl ?_
          refine z_goto d_X4_looseAt_60 ?_
          exact ih (k + 1) T41 _ (by omega) (by omega) (orS_f (P := leP cd I A strong mask (atS A (nI c) mask)) (by rw [leP, decide_eq_true (by rw [sb1 (by omega)]; exact hbo), decide_eq_false c_45]; rfl) ha)
        · refine z_iload d_X4_looseAt_48 1 rfl ?_
          refine z_iconst (v := 1) d_X4_looseAt_50 (by decide) ?_
          refine z_iload d_X4_looseAt_51 0 rfl ?_
          refine z_ishl d_X4_looseAt_53 ?_
          refine z_ior d_X4_looseAt_54 ?_
          refine z_istore [(5, .int (a ||| (1 <<< ((nI k) &&& 31)))), (6, .int (nI k)), (4, .int (atS A (nI c) mask)), (3, .int mask), (2, .int strong), (1, .int (nI c)), (0, .ref (x 6))] d_X4_looseAt_55 (by decide) rfl ?_
          refine z_iinc (nI (k + 1)) [(6, .int (nI (k + 1))), (5, .int (a ||| (1 <<< ((nI k) &&& 31)))), (4, .int (atS A (nI c) mask)), (3, .int mask), (2, .int strong), (1, .int (nI c)), (0, .ref (x 6))] 1 d_X4_looseAt_57 rfl (nI_1 _) (by decide) rfl ?_
          refine z_goto d_X4_looseAt_60 ?_
          exact ih (k + 1) T41 _ (by omega) (by omega) (orS_t (P := leP cd I A strong mask (atS A (nI c) mask)) (by rw [leP, decide_eq_true (by rw [sb1 (by omega)]; exact hbo), decide_eq_true c_45]; rfl) ha)
set_option maxHeartbeats 4000000 in
set_option maxRecDepth 100000 in
theorem t_X4_looseAt (G : GT) (x : Nat → Nat) (N : Nat → Int32) (R : Nat → Nat → Int32) (K : Nat → Nat → Option Nat) (r : Nat → Nat) (S : Nat → Int32) (T : Nat → Nat → Int32) (tl : va_W) (I : Nat → Int32) (A : Nat → Nat → Int32) (h : NtR I A (N 2) (N 3) (N 4) (R 1) (R 2) (R 3) (K 0) tl) (cd : CD) (num : Int32) (hT : TxR G cd num (r 0) tl) (c : Nat) (strong : Int32) (mask : Int32) (hc : c < 25) (hm : Sb mask (I 12)) : Ct G mX4_looseAt 6 0 0 [.ref (x 6), .int (nI c), .int strong, .int mask] (XW G x N R K r S T tl) (Px G x N R K r S tl (some (.int (leC cd I A (nI c) strong mask)))) := by
  have hI : upd I 13 (N 3) = I := by rw [h.ho, upd_self]
  refine Ct.intro [(0, .ref (x 6)), (1, .int (nI c)), (2, .int strong), (3, .int mask)] (by decide) rfl (Nat.le_of_ble_eq_true rfl) ?_
  refine z_aload_n d_X4_looseAt_0 0 rfl ?_
  refine z_get (v := .ref (x 10)) (6) f_X4_24_4 rfl rfl d_X4_looseAt_1 ?_
  refine z_iload_n d_X4_looseAt_4 1 rfl ?_
  refine z_ialdN (10) c rfl (nI_toInt (by omega)) (by omega) d_X4_looseAt_5 ?_
  refine z_iload_n d_X4_looseAt_6 3 rfl ?_
  refine z_iand d_X4_looseAt_7 ?_
  refine z_top (show R 3 c &&& mask = atS A (nI c) mask from by rw [h.ly hc, at_and hc hm]) ?_
  refine z_istore [(4, .int (atS A (nI c) mask)), (0, .ref (x 6)), (1, .int (nI c)), (2, .int strong), (3, .int mask)] d_X4_looseAt_8 (by decide) rfl ?_
  refine z_iconst (v := 0) d_X4_looseAt_10 (by decide) ?_
  refine z_istore [(5, .int 0), (4, .int (atS A (nI c) mask)), (0, .ref (x 6)), (1, .int (nI c)), (2, .int strong), (3, .int mask)] d_X4_looseAt_11 (by decide) rfl ?_
  refine z_iconst (v := 0) d_X4_looseAt_13 (by decide) ?_
  refine z_istore [(6, .int 0), (5, .int 0), (4, .int (atS A (nI c) mask)), (0, .ref (x 6)), (1, .int (nI c)), (2, .int strong), (3, .int mask)] d_X4_looseAt_14 (by decide) rfl ?_
  refine z_perm [0, 1, 2, 6, 5, 4, 3] rfl ?_
  exact l_X4_looseAt G x N R K r S tl I A h cd num hT c strong mask hc hm hI 17 0 T 0 (by omega) (by omega) rfl
set_option maxHeartbeats 4000000 in
set_option maxRecDepth 100000 in
theorem l_X4_takenByPull (G : GT) (x : Nat → Nat) (N : Nat → Int32) (R : Nat → Nat → Int32) (K : Nat → Nat → Option Nat) (r : Nat → Nat) (S : Nat → Int32) (tl : va_W) (I : Nat → Int32) (A : Nat → Nat → Int32) (h : NtR I A (N 2) (N 3) (N 4) (R 1) (R 2) (R 3) (K 0) tl) (cd : CD) (num : Int32) (hT : TxR G cd num (r 0) tl) (c : Nat) (strong : Int32) (hc : c < 25) : ∀ (n : Nat) (rd : Nat) (T : Nat → Nat → Int32) (mask : Int32) (F : Nat) (hrd : rd ≤ 16) (hm9 : 16 < rd + n) (hm : Sb mask (I 12)) (hF : lbR cd I A (nI c) strong F mask = lbS cd I A (nI c) strong) (hF2 : pcn mask < F) (hp : pcn mask + rd ≤ 16), Tr G mX4_takenByPull (Rm 7 0 0) (OM G (Px G x N R K r S tl (some (.int (I 12 &&& (lbS cd I A (nI c) strong ^^^ (-1)))))) 0 0) 0 0 8 [(4, .int (nI rd)), (3, .int mask), (2, .int strong), (1, .int (nI c)), (0, .ref (x 6))] [] (XW G x N R K r S T tl) := by
  intro n
  induction n with
  | zero =>
    intro rd T mask F hrd hm9 hm hF hF2 hp
    exact absurd hm9 (by omega)
  | succ n ih =>
    intro rd T mask F hrd hm9 hm hF hF2 hp
    refine z_iload d_X4_takenByPull_8 0 rfl ?_
    refine z_bipush (v := 16) d_X4_takenByPull_10 (by decide) ?_
    refine z_icmp_ge d_X4_takenByPull_12 (fun c_12 => ?_) (fun c_12 => ?_)
    · refine z_aload_n d_X4_takenByPull_45 4 rfl ?_
      refine z_get (v := .int (N 2)) (6) f_X4_48_4 rfl rfl d_X4_takenByPull_46 ?_
      refine z_iload_n d_X4_takenByPull_49 1 rfl ?_
      refine z_iconst (v := -1) d_X4_takenByPull_50 (by decide) ?_
      refine z_ixor d_X4_takenByPull_51 ?_
      refine z_iand d_X4_takenByPull_52 ?_
      exact z_iret _ d_X4_takenByPull_53 rfl ⟨px_i (by have h9 := ge_nI (N := 16) (by omega) (by decide) c_12; have e9 : mask = 0 := pcn_z (by omega); rw [e9, lbR_0 (by omega) leC_z] at hF; rw [h.al, ← hF, e9]), _, rfl⟩
    · refine z_aload_n d_X4_takenByPull_15 4 rfl ?_
      refine z_iload_n d_X4_takenByPull_16 3 rfl ?_
      refine z_iload_n d_X4_takenByPull_17 2 rfl ?_
      refine z_iload_n d_X4_takenByPull_18 1 rfl ?_
      refine z_callV 6 c_X4_136 rfl rfl (t_X4_looseAt G x N R K r S T tl I A h cd num hT c strong mask hc hm) rfl rfl (Nat.le_of_ble_eq_true rfl) rfl d_X4_takenByPull_19 ?_
      rintro v19 w19 ⟨rfl, T19, rfl⟩
      refine z_istore [(5, .int (leC cd I A (nI c) strong mask)), (4, .int (nI rd)), (3, .int mask), (2, .int strong), (1, .int (nI c)), (0, .ref (x 6))] d_X4_takenByPull_22 (by decide) rfl ?_
      refine z_iload d_X4_takenByPull_24 0 rfl ?_
      refine z_if_ne d_X4_takenByPull_26 (fun c_26 => ?_) (fun c_26 => ?_)
      · refine z_iload_n d_X4_takenByPull_32 2 rfl ?_
        refine z_iload d_X4_takenByPull_33 0 rfl ?_
        refine z_iconst (v := -1) d_X4_takenByPull_35 (by decide) ?_
        refine z_ixor d_X4_takenByPull_36 ?_
        refine z_iand d_X4_takenByPull_37 ?_
        refine z_istore_n [(3, .int (mask &&& ((leC cd I A (nI c) strong mask) ^^^ (-1)))), (5, .int (leC cd I A (nI c) strong mask)), (4, .int (nI rd)), (2, .int strong), (1, .int (nI c)), (0, .ref (x 6))] d_X4_takenByPull_38 (by decide) rfl ?_
        refine z_iinc (nI (rd + 1)) [(4, .int (nI (rd + 1))), (3, .int (mask &&& ((leC cd I A (nI c) strong mask) ^^^ (-1)))), (5, .int (leC cd I A (nI c) strong mask)), (2, .int strong), (1, .int (nI c)), (0, .ref (x 6))] 2 d_X4_takenByPull_39 rfl (nI_1 _) (by decide) rfl ?_
        refine z_goto d_X4_takenByPull_42 ?_
        refine z_perm [0, 1, 3, 4, 5] rfl ?_
        obtain ⟨F9, rfl⟩ : ∃ F9, F = F9 + 1 := ⟨F - 1, by omega⟩
        rw [lbR_s c_26] at hF
        have hl := le_less c_26
        have h9 := lt_nI (N := 16) (by omega) (by decide) c_12
        exact ih (rd + 1) T19 _ F9 (by omega) (by omega) hm.and hF (by omega) (by omega)
      · refine z_goto d_X4_takenByPull_29 ?_
        refine z_aload_n d_X4_takenByPull_45 5 rfl ?_
        refine z_get (v := .int (N 2)) (6) f_X4_48_4 rfl rfl d_X4_takenByPull_46 ?_
        refine z_iload_n d_X4_takenByPull_49 2 rfl ?_
        refine z_iconst (v := -1) d_X4_takenByPull_50 (by decide) ?_
        refine z_ixor d_X4_takenByPull_51 ?_
        refine z_iand d_X4_takenByPull_52 ?_
        exact z_iret _ d_X4_takenByPull_53 rfl ⟨px_i (by rw [lbR_0 (by omega) c_26] at hF; rw [h.al, ← hF]), _, rfl⟩
set_option maxHeartbeats 4000000 in
set_option maxRecDepth 100000 in
theorem t_X4_takenByPull (G : GT) (x : Nat → Nat) (N : Nat → Int32) (R : Nat → Nat → Int32) (K : Nat → Nat → Option Nat) (r : Nat → Nat) (S : Nat → Int32) (T : Nat → Nat → Int32) (tl : va_W) (I : Nat → Int32) (A : Nat → Nat → Int32) (h : NtR I A (N 2) (N 3) (N 4) (R 1) (R 2) (R 3) (K 0) tl) (cd : CD) (num : Int32) (hT : TxR G cd num (r 0) tl) (c : Nat) (strong : Int32) (hc : c < 25) : Ct G mX4_takenByPull 7 0 0 [.ref (x 6), .int (nI c), .int strong] (XW G x N R K r S T tl) (Px G x N R K r S tl (some (.int (I 12 &&& (lbS cd I A (nI c) strong ^^^ (-1)))))) := by
  refine Ct.intro [(0, .ref (x 6)), (1, .int (nI c)), (2, .int strong)] (by decide) rfl (Nat.le_of_ble_eq_true rfl) ?_
  refine z_aload_n d_X4_takenByPull_0 0 rfl ?_
  refine z_get (v := .int (N 2)) (6) f_X4_48_4 rfl rfl d_X4_takenByPull_1 ?_
  refine z_istore_n [(3, .int (N 2)), (0, .ref (x 6)), (1, .int (nI c)), (2, .int strong)] d_X4_takenByPull_4 (by decide) rfl ?_
  refine z_iconst (v := 0) d_X4_takenByPull_5 (by decide) ?_
  refine z_istore [(4, .int 0), (3, .int (N 2)), (0, .ref (x 6)), (1, .int (nI c)), (2, .int strong)] d_X4_takenByPull_6 (by decide) rfl ?_
  refine z_perm [0, 1, 4, 3, 2] rfl ?_
  have h16 := pcn_16 h.s16
  rw [h.al]
  exact l_X4_takenByPull G x N R K r S tl I A h cd num hT c strong hc 17 0 T (I 12) 34 (by omega) (by omega) (Sb.rf _) rfl (by omega) (by omega)
set_option maxHeartbeats 4000000 in
set_option maxRecDepth 100000 in
theorem l_X4_weakestAt (G : GT) (x : Nat → Nat) (N : Nat → Int32) (R : Nat → Nat → Int32) (K : Nat → Nat → Option Nat) (r : Nat → Nat) (S : Nat → Int32) (tl : va_W) (I : Nat → Int32) (A : Nat → Nat → Int32) (h : NtR I A (N 2) (N 3) (N 4) (R 1) (R 2) (R 3) (K 0) tl) (cd : CD) (num : Int32) (hT : TxR G cd num (r 0) tl) (c : Nat) (mask : Int32) (hc : c < 25) (hm : Sb mask (I 12)) (hI : upd I 13 (N 3) = I) : ∀ (n : Nat) (k : Nat) (T : Nat → Nat → Int32) (a1 a2 : Int32) (hk9 : k ≤ 16) (hm9 : 16 < k + n) (ha : (a1, a2) = lsP cd I A mask (atS A (nI c) mask) k), Tr G mX4_weakestAt (Rm 6 0 0) (OM G (Px G x N R K r S tl (some (.int ((lsP cd I A mask (atS A (nI c) mask) 16).1)))) 0 0) 0 0 18 [(6, .int (nI k)), (5, .int a2), (4, .int a1), (3, .int (atS A (nI c) mask)), (2, .int mask), (1, .int (nI c)), (0, .ref (x 6))] [] (XW G x N R K r S T tl) := by
  intro n
  induction n with
  | zero =>
    intro k T a1 a2 hk9 hm9 ha
    exact absurd hm9 (by omega)
  | succ n ih =>
    intro k T a1 a2 hk9 hm9 ha
    refine z_iload d_X4_weakestAt_18 0 rfl ?_
    refine z_bipush (v := 16) d_X4_weakestAt_20 (by decide) ?_
    refine z_icmp_ge d_X4_weakestAt_22 (fun c_22 => ?_) (fun c_22 => ?_)
    · refine z_iload d_X4_weakestAt_74 2 rfl ?_
      exact z_iret _ d_X4_weakestAt_76 rfl ⟨px_i (by have h9 := ge_nI (N := 16) (by omega) (by decide) c_22; rw [← show k = 16 by omega, ← ha]), _, rfl⟩
    · have hk : k < 16 := lt_nI (by omega) (by decide) c_22
      refine z_iload_n d_X4_weakestAt_25 3 rfl ?_
      refine z_iload d_X4_weakestAt_26 0 rfl ?_
      refine z_ishr d_X4_weakestAt_28 ?_
      refine z_iconst (v := 1) d_X4_weakestAt_29 (by decide) ?_
      refine z_iand d_X4_weakestAt_30 ?_
      refine z_if_eq d_X4_weakestAt_31 (fun c_31 => ?_) (fun c_31 => ?_)
      · refine z_iinc (nI (k + 1)) [(6, .int (nI (k + 1))), (5, .int a2), (4, .int a1), (3, .int (atS A (nI c) mask)), (2, .int mask), (1, .int (nI c)), (0, .ref (x 6))] 0 d_X4_weakestAt_68 rfl (nI_1 _) (by decide) rfl ?_
        refine z_goto d_X4_weakestAt_71 ?_
        exact ih (k + 1) T a1 a2 (by omega) (by omega) (by show _ = lsF cd I A mask (atS A (nI c) mask) k (lsP cd I A mask (atS A (nI c) mask) k); rw [lsF, if_neg (by rw [sb1 (by omega)]; rw [sb0 (by omega)] at c_31; rw [c_31]; decide), ← ha])
      · have hbo : bt (atS A (nI c) mask) k = true := sb0n (by omega) c_31
        have hbm : bt mask k = true := by rw [at_bt hc (by omega), Bool.and_eq_true, Bool.and_eq_true] at hbo; exact hbo.2.1
        have hb : bt (I 12) k = true := hm k (by omega) hbm
        refine z_aload_n d_X4_weakestAt_34 6 rfl ?_
        refine z_iload d_X4_weakestAt_35 0 rfl ?_
        refine z_iload_n d_X4_weakestAt_37 4 rfl ?_
        refine z_aload_n d_X4_weakestAt_38 6 rfl ?_
        refine z_get (v := .int (N 3)) (6) f_X4_57_4 rfl rfl d_X4_weakestAt_39 ?_
        refine z_callV 6 c_X4_127 rfl rfl (t_X4_hold G x N R K r S T tl I A h cd num hT k mask (N 3) hk hb hm) rfl rfl (Nat.le_of_ble_eq_true rfl) rfl d_X4_weakestAt_42 ?_
        rintro v42 w42 ⟨rfl, T42, rfl⟩
        rw [hI]
        refine z_istore [(7, .int (hoS cd I A k mask)), (6, .int (nI k)), (5, .int a2), (4, .int a1), (3, .int (atS A (nI c) mask)), (2, .int mask), (1, .int (nI c)), (0, .ref (x 6))] d_X4_weakestAt_45 (by decide) rfl ?_
        refine z_iload d_X4_weakestAt_47 3 rfl ?_
        refine z_iconst (v := -1) d_X4_weakestAt_49 (by decide) ?_
        refine z_icmp_eq d_X4_weakestAt_50 (fun c_50 => ?_) (fun c_50 => ?_)
        · refine z_iload d_X4_weakestAt_60 1 rfl ?_
          refine z_istore [(4, .int (nI k)), (7, .int (hoS cd I A k mask)), (6, .int (nI k)), (5, .int a2), (3, .int (atS A (nI c) mask)), (2, .int mask), (1, .int (nI c)), (0, .ref (x 6))] d_X4_weakestAt_62 (by decide) rfl ?_
          refine z_iload d_X4_weakestAt_64 1 rfl ?_
          refine z_istore [(5, .int (hoS cd I A k mask)), (4, .int (nI k)), (7, .int (hoS cd I A k mask)), (6, .int (nI k)), (3, .int (atS A (nI c) mask)), (2, .int mask), (1, .int (nI c)), (0, .ref (x 6))] d_X4_weakestAt_66 (by decide) rfl ?_
          refine z_iinc (nI (k + 1)) [(6, .int (nI (k + 1))), (5, .int (hoS cd I A k mask)), (4, .int (nI k)), (7, .int (hoS cd I A k mask)), (3, .int (atS A (nI c) mask)), (2, .int mask), (1, .int (nI c)), (0, .ref (x 6))] 3 d_X4_weakestAt_68 rfl (nI_1 _) (by decide) rfl ?_
          refine z_goto d_X4_weakestAt_71 ?_
          refine z_perm [0, 1, 2, 4, 5, 6, 7] rfl ?_
          exact ih (k + 1) T42 _ _ (by omega) (by omega) (by show _ = lsF cd I A mask (atS A (nI c) mask) k (lsP cd I A mask (atS A (nI c) mask) k); rw [lsF, if_pos ((sb1 (by omega)).mpr hbo), ← ha]; rw [if_pos c_50])
        · refine z_iload d_X4_weakestAt_53 0 rfl ?_
          refine z_iload d_X4_weakestAt_55 2 rfl ?_
          refine z_icmp_ge d_X4_weakestAt_57 (fun c_57 => ?_) (fun c_57 => ?_)
          · refine z_iinc (nI (k + 1)) [(6, .int (nI (k + 1))), (7, .int (hoS cd I A k mask)), (5, .int a2), (4, .int a1), (3, .int (atS A (nI c) mask)), (2, .int mask), (1, .int (nI c)), (0, .ref (x 6))] 1 d_X4_weakestAt_68 rfl (nI_1 _) (by decide) rfl ?_
            refine z_goto d_X4_weakestAt_71 ?_
            refine z_perm [0, 2, 3, 4, 5, 6, 7] rfl ?_
            exact ih (k + 1) T42 a1 a2 (by omega) (by omega) (by show _ = lsF cd I A mask (atS A (nI c) mask) k (lsP cd I A mask (atS A (nI c) mask) k); rw [lsF, if_pos ((sb1 (by omega)).mpr hbo), ← ha]; rw [if_neg c_50, if_neg c_57])
          · refine z_iload d_X4_weakestAt_60 1 rfl ?_
            refine z_istore [(4, .int (nI k)), (7, .int (hoS cd I A k mask)), (6, .int (nI k)), (5, .int a2), (3, .int (atS A (nI c) mask)), (2, .int mask), (1, .int (nI c)), (0, .ref (x 6))] d_X4_weakestAt_62 (by decide) rfl ?_
            refine z_iload d_X4_weakestAt_64 1 rfl ?_
            refine z_istore [(5, .int (hoS cd I A k mask)), (4, .int (nI k)), (7, .int (hoS cd I A k mask)), (6, .int (nI k)), (3, .int (atS A (nI c) mask)), (2, .int mask), (1, .int (nI c)), (0, .ref (x 6))] d_X4_weakestAt_66 (by decide) rfl ?_
            refine z_iinc (nI (k + 1)) [(6, .int (nI (k + 1))), (5, .int (hoS cd I A k mask)), (4, .int (nI k)), (7, .int (hoS cd I A k mask)), (3, .int (atS A (nI c) mask)), (2, .int mask), (1, .int (nI c)), (0, .ref (x 6))] 3 d_X4_weakestAt_68 rfl (nI_1 _) (by decide) rfl ?_
            refine z_goto d_X4_weakestAt_71 ?_
            refine z_perm [0, 1, 2, 4, 5, 6, 7] rfl ?_
            exact ih (k + 1) T42 _ _ (by omega) (by omega) (by show _ = lsF cd I A mask (atS A (nI c) mask) k (lsP cd I A mask (atS A (nI c) mask) k); rw [lsF, if_pos ((sb1 (by omega)).mpr hbo), ← ha]; rw [if_neg c_50, if_pos c_57])
set_option maxHeartbeats 4000000 in
set_option maxRecDepth 100000 in
theorem t_X4_weakestAt (G : GT) (x : Nat → Nat) (N : Nat → Int32) (R : Nat → Nat → Int32) (K : Nat → Nat → Option Nat) (r : Nat → Nat) (S : Nat → Int32) (T : Nat → Nat → Int32) (tl : va_W) (I : Nat → Int32) (A : Nat → Nat → Int32) (h : NtR I A (N 2) (N 3) (N 4) (R 1) (R 2) (R 3) (K 0) tl) (cd : CD) (num : Int32) (hT : TxR G cd num (r 0) tl) (c : Nat) (mask : Int32) (hc : c < 25) (hm : Sb mask (I 12)) : Ct G mX4_weakestAt 6 0 0 [.ref (x 6), .int (nI c), .int mask] (XW G x N R K r S T tl) (Px G x N R K r S tl (some (.int ((lsP cd I A mask (atS A (nI c) mask) 16).1)))) := by
  have hI : upd I 13 (N 3) = I := by rw [h.ho, upd_self]
  refine Ct.intro [(0, .ref (x 6)), (1, .int (nI c)), (2, .int mask)] (by decide) rfl (Nat.le_of_ble_eq_true rfl) ?_
  refine z_aload_n d_X4_weakestAt_0 0 rfl ?_
  refine z_get (v := .ref (x 10)) (6) f_X4_24_4 rfl rfl d_X4_weakestAt_1 ?_
  refine z_iload_n d_X4_weakestAt_4 1 rfl ?_
  refine z_ialdN (10) c rfl (nI_toInt (by omega)) (by omega) d_X4_weakestAt_5 ?_
  refine z_iload_n d_X4_weakestAt_6 2 rfl ?_
  refine z_iand d_X4_weakestAt_7 ?_
  refine z_top (show R 3 c &&& mask = atS A (nI c) mask from by rw [h.ly hc, at_and hc hm]) ?_
  refine z_istore_n [(3, .int (atS A (nI c) mask)), (0, .ref (x 6)), (1, .int (nI c)), (2, .int mask)] d_X4_weakestAt_8 (by decide) rfl ?_
  refine z_iconst (v := -1) d_X4_weakestAt_9 (by decide) ?_
  refine z_istore [(4, .int (-1)), (3, .int (atS A (nI c) mask)), (0, .ref (x 6)), (1, .int (nI c)), (2, .int mask)] d_X4_weakestAt_10 (by decide) rfl ?_
  refine z_iconst (v := 0) d_X4_weakestAt_12 (by decide) ?_
  refine z_istore [(5, .int 0), (4, .int (-1)), (3, .int (atS A (nI c) mask)), (0, .ref (x 6)), (1, .int (nI c)), (2, .int mask)] d_X4_weakestAt_13 (by decide) rfl ?_
  refine z_iconst (v := 0) d_X4_weakestAt_15 (by decide) ?_
  refine z_istore [(6, .int 0), (5, .int 0), (4, .int (-1)), (3, .int (atS A (nI c) mask)), (0, .ref (x 6)), (1, .int (nI c)), (2, .int mask)] d_X4_weakestAt_16 (by decide) rfl ?_
  refine z_perm [0, 1, 2, 3, 6, 5, 4] rfl ?_
  exact l_X4_weakestAt G x N R K r S tl I A h cd num hT c mask hc hm hI 17 0 T (-1) 0 (by omega) (by omega) rfl
set_option maxHeartbeats 4000000 in
set_option maxRecDepth 100000 in
theorem l_X4_leastPull (G : GT) (x : Nat → Nat) (N : Nat → Int32) (R : Nat → Nat → Int32) (K : Nat → Nat → Option Nat) (r : Nat → Nat) (S : Nat → Int32) (tl : va_W) (I : Nat → Int32) (A : Nat → Nat → Int32) (h : NtR I A (N 2) (N 3) (N 4) (R 1) (R 2) (R 3) (K 0) tl) (cd : CD) (num : Int32) (hT : TxR G cd num (r 0) tl) (c : Nat) (hc : c < 25) (hI : upd I 13 (N 3) = I) : ∀ (n : Nat) (rd : Nat) (T : Nat → Nat → Int32) (mask most : Int32) (F : Nat) (hrd : rd ≤ 16) (hm9 : 16 < rd + n) (hm : Sb mask (I 12)) (hF : ltR cd I A F mask (atS A (nI c) mask) most = ltR cd I A 33 (I 12) (atS A (nI c) (I 12)) 0) (hF2 : pcn (atS A (nI c) mask) < F) (hp : pcn (atS A (nI c) mask) + rd ≤ 16), Tr G mX4_leastPull (Rm 7 0 0) (OM G (Px G x N R K r S tl (some (.int ((ltR cd I A 33 (I 12) (atS A (nI c) (I 12)) 0).2 + 1)))) 0 0) 0 0 10 [(4, .int (nI rd)), (3, .int most), (2, .int mask), (1, .int (nI c)), (0, .ref (x 6))] [] (XW G x N R K r S T tl) := by
  intro n
  induction n with
  | zero =>
    intro rd T mask most F hrd hm9 hm hF hF2 hp
    exact absurd hm9 (by omega)
  | succ n ih =>
    intro rd T mask most F hrd hm9 hm hF hF2 hp
    refine z_iload d_X4_leastPull_10 0 rfl ?_
    refine z_bipush (v := 16) d_X4_leastPull_12 (by decide) ?_
    refine z_icmp_ge d_X4_leastPull_14 (fun c_14 => ?_) (fun c_14 => ?_)
    · refine z_iload_n d_X4_leastPull_67 1 rfl ?_
      refine z_iconst (v := 1) d_X4_leastPull_68 (by decide) ?_
      refine z_iadd d_X4_leastPull_69 ?_
      exact z_iret _ d_X4_leastPull_70 rfl ⟨px_i (by have h9 := ge_nI (N := 16) (by omega) (by decide) c_14; have e9 : atS A (nI c) mask = 0 := pcn_z (by omega); obtain ⟨F9, rfl⟩ : ∃ F9, F = F9 + 1 := ⟨F - 1, by omega⟩; rw [ltR, if_pos e9] at hF; rw [← hF]), _, rfl⟩
    · refine z_aload_n d_X4_leastPull_17 4 rfl ?_
      refine z_get (v := .ref (x 10)) (6) f_X4_24_4 rfl rfl d_X4_leastPull_18 ?_
      refine z_iload_n d_X4_leastPull_21 3 rfl ?_
      refine z_ialdN (10) c rfl (nI_toInt (by omega)) (by omega) d_X4_leastPull_22 ?_
      refine z_iload_n d_X4_leastPull_23 2 rfl ?_
      refine z_iand d_X4_leastPull_24 ?_
      refine z_if_eq d_X4_leastPull_25 (fun c_25 => ?_) (fun c_25 => ?_)
      · refine z_iload_n d_X4_leastPull_67 1 rfl ?_
        refine z_iconst (v := 1) d_X4_leastPull_68 (by decide) ?_
        refine z_iadd d_X4_leastPull_69 ?_
        exact z_iret _ d_X4_leastPull_70 rfl ⟨px_i (by have e9 : atS A (nI c) mask = 0 := by { rw [h.ly hc, at_and hc hm] at c_25; exact c_25 }; obtain ⟨F9, rfl⟩ : ∃ F9, F = F9 + 1 := ⟨F - 1, by omega⟩; rw [ltR, if_pos e9] at hF; rw [← hF]), _, rfl⟩
      · have h9 := lt_nI (N := 16) (by omega) (by decide) c_14
        have e25 : R 3 c &&& mask = atS A (nI c) mask := by rw [h.ly hc, at_and hc hm]
        rw [e25] at c_25
        obtain ⟨k, hk, hbo, hls⟩ := ls_k (cd := cd) (I := I) (A := A) (set := mask) c_25 (at_16 A _ _)
        have hbm : bt mask k = true := by rw [at_bt hc (by omega), Bool.and_eq_true, Bool.and_eq_true] at hbo; exact hbo.2.1
        have hb : bt (I 12) k = true := hm k (by omega) hbm
        refine z_aload_n d_X4_leastPull_28 4 rfl ?_
        refine z_iload_n d_X4_leastPull_29 3 rfl ?_
        refine z_iload_n d_X4_leastPull_30 2 rfl ?_
        refine z_callV 6 c_X4_139 rfl rfl (t_X4_weakestAt G x N R K r S T tl I A h cd num hT c mask hc hm) rfl rfl (Nat.le_of_ble_eq_true rfl) rfl d_X4_leastPull_31 ?_
        rintro v31 w31 ⟨rfl, T31, rfl⟩
        refine z_top (show (lsP cd I A mask (atS A (nI c) mask) 16).1 = nI k from by rw [hls]) ?_
        refine z_istore [(5, .int (nI k)), (4, .int (nI rd)), (3, .int most), (2, .int mask), (1, .int (nI c)), (0, .ref (x 6))] d_X4_leastPull_34 (by decide) rfl ?_
        refine z_iload_n d_X4_leastPull_36 2 rfl ?_
        refine z_aload_n d_X4_leastPull_37 5 rfl ?_
        refine z_iload d_X4_leastPull_38 0 rfl ?_
        refine z_iload_n d_X4_leastPull_40 3 rfl ?_
        refine z_aload_n d_X4_leastPull_41 5 rfl ?_
        refine z_get (v := .int (N 3)) (6) f_X4_57_4 rfl rfl d_X4_leastPull_42 ?_
        refine z_callV 6 c_X4_127 rfl rfl (t_X4_hold G x N R K r S T31 tl I A h cd num hT k mask (N 3) hk hb hm) rfl rfl (Nat.le_of_ble_eq_true rfl) rfl d_X4_leastPull_45 ?_
        rintro v45 w45 ⟨rfl, T45, rfl⟩
        rw [hI]
        refine z_mmax c_X4_114 (Nat.le_of_ble_eq_true rfl) rfl d_X4_leastPull_48 ?_
        refine z_istore_n [(3, .int (mxS most (hoS cd I A k mask))), (5, .int (nI k)), (4, .int (nI rd)), (2, .int mask), (1, .int (nI c)), (0, .ref (x 6))] d_X4_leastPull_51 (by decide) rfl ?_
        refine z_iload_n d_X4_leastPull_52 3 rfl ?_
        refine z_iconst (v := 1) d_X4_leastPull_53 (by decide) ?_
        refine z_iload d_X4_leastPull_54 1 rfl ?_
        refine z_ishl d_X4_leastPull_56 ?_
        refine z_iconst (v := -1) d_X4_leastPull_57 (by decide) ?_
        refine z_ixor d_X4_leastPull_58 ?_
        refine z_iand d_X4_leastPull_59 ?_
        refine z_istore_n [(2, .int (mask &&& ((1 <<< ((nI k) &&& 31)) ^^^ (-1)))), (3, .int (mxS most (hoS cd I A k mask))), (5, .int (nI k)), (4, .int (nI rd)), (1, .int (nI c)), (0, .ref (x 6))] d_X4_leastPull_60 (by decide) rfl ?_
        refine z_iinc (nI (rd + 1)) [(4, .int (nI (rd + 1))), (2, .int (mask &&& ((1 <<< ((nI k) &&& 31)) ^^^ (-1)))), (3, .int (mxS most (hoS cd I A k mask))), (5, .int (nI k)), (1, .int (nI c)), (0, .ref (x 6))] 3 d_X4_leastPull_61 rfl (nI_1 _) (by decide) rfl ?_
        refine z_goto d_X4_leastPull_64 ?_
        refine z_perm [0, 2, 1, 4, 5] rfl ?_
        obtain ⟨F9, rfl⟩ : ∃ F9, F = F9 + 1 := ⟨F - 1, by omega⟩
        rw [ltR, if_neg c_25, hls] at hF
        have hd := pcn_del (by omega) hbo
        exact ih (rd + 1) T45 _ _ F9 (by omega) (by omega) hm.and (by rw [at_del hc]; exact hF) (by rw [at_del hc]; omega) (by rw [at_del hc]; omega)
set_option maxHeartbeats 4000000 in
set_option maxRecDepth 100000 in
theorem t_X4_leastPull (G : GT) (x : Nat → Nat) (N : Nat → Int32) (R : Nat → Nat → Int32) (K : Nat → Nat → Option Nat) (r : Nat → Nat) (S : Nat → Int32) (T : Nat → Nat → Int32) (tl : va_W) (I : Nat → Int32) (A : Nat → Nat → Int32) (h : NtR I A (N 2) (N 3) (N 4) (R 1) (R 2) (R 3) (K 0) tl) (cd : CD) (num : Int32) (hT : TxR G cd num (r 0) tl) (c : Nat) (hc : c < 25) : Ct G mX4_leastPull 7 0 0 [.ref (x 6), .int (nI c)] (XW G x N R K r S T tl) (Px G x N R K r S tl (some (.int ((ltR cd I A 33 (I 12) (atS A (nI c) (I 12)) 0).2 + 1)))) := by
  have hI : upd I 13 (N 3) = I := by rw [h.ho, upd_self]
  refine Ct.intro [(0, .ref (x 6)), (1, .int (nI c))] (by decide) rfl (Nat.le_of_ble_eq_true rfl) ?_
  refine z_aload_n d_X4_leastPull_0 0 rfl ?_
  refine z_get (v := .int (N 2)) (6) f_X4_48_4 rfl rfl d_X4_leastPull_1 ?_
  refine z_istore_n [(2, .int (N 2)), (0, .ref (x 6)), (1, .int (nI c))] d_X4_leastPull_4 (by decide) rfl ?_
  refine z_iconst (v := 0) d_X4_leastPull_5 (by decide) ?_
  refine z_istore_n [(3, .int 0), (2, .int (N 2)), (0, .ref (x 6)), (1, .int (nI c))] d_X4_leastPull_6 (by decide) rfl ?_
  refine z_iconst (v := 0) d_X4_leastPull_7 (by decide) ?_
  refine z_istore [(4, .int 0), (3, .int 0), (2, .int (N 2)), (0, .ref (x 6)), (1, .int (nI c))] d_X4_leastPull_8 (by decide) rfl ?_
  refine z_perm [0, 1, 2, 4, 3] rfl ?_
  have h16 := pcn_16 (at_16 A (nI c) (I 12))
  rw [h.al]
  exact l_X4_leastPull G x N R K r S tl I A h cd num hT c hc hI 17 0 T (I 12) 0 33 (by omega) (by omega) (Sb.rf _) rfl (by omega) (by omega)
