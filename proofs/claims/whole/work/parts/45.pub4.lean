/-! THE PUBLIC METHODS of class X: best, build, feed, text -/
theorem beA_ne {I : Nat → Int32} {A : Nat → Nat → Int32} {s : Nat} {kd v many : Int32} {j : Nat} (hj : ¬ (7 ≤ j ∧ j ≤ 11)) : ∀ q, beA I A s kd v many q j = A j
  | 0 => rfl
  | q + 1 => by
    show (if okW (whS q many) = true then laA I (beA I A s kd v many q) s kd (whS q many) v else beA I A s kd v many q) j = A j
    split
    · rw [laA_ne hj]; exact beA_ne hj q
    · exact beA_ne hj q
theorem bs_ok {many : Int32} {v : Nat → Int32} : ∀ n, (itL (bsF (fun k => okW (whS k many)) (fun k => whS k many) v) (-1, 0) n).1 = -1 ∨ okW (itL (bsF (fun k => okW (whS k many)) (fun k => whS k many) v) (-1, 0) n).1 = true
  | 0 => Or.inl rfl
  | n + 1 => by
    have ih := bs_ok (many := many) (v := v) n
    rw [itL, bsF]
    by_cases h : okW (whS n many) = true
    · rw [if_pos h]
      split
      · exact Or.inr h
      · split
        · exact Or.inr h
        · exact ih
    · rw [if_neg h]; exact ih
theorem beO_iff {kd v many what : Int32} : beO kd v many what = true ↔ (inB kd 0 5 && inB v 0 9) = true ∧ inB many 1 5 = true ∧ inB what 0 1 = true := by
  unfold beO
  cases inB kd 0 5 <;> cases inB v 0 9 <;> cases inB many 1 5 <;> cases inB what 0 1 <;> simp
set_option maxHeartbeats 4000000 in
set_option maxRecDepth 100000 in
theorem t_X11_best (G : GT) (x : Nat → Nat) (N : Nat → Int32) (R : Nat → Nat → Int32) (K : Nat → Nat → Option Nat) (r : Nat → Nat) (S : Nat → Int32) (T : Nat → Nat → Int32) (tl : va_W) (I : Nat → Int32) (A : Nat → Nat → Int32) (hx : XRel G I A N R K r tl) (t : Nat) (cd : CD) (hOk : TxOk A t cd) (h4 : I 4 = nI t) (kd : Int32) (v : Int32) (many : Int32) (what : Int32)  : Ct G mX11_best 8 1 1 [.ref (x 0), .int kd, .int v, .int many, .int what] (XW G x N R K r S T tl) (XP G x (some (.int (besR cd I A kd v many what))) I (besA I A kd v many what)) := by
  have h := hx.nt
  obtain ⟨num, hnum⟩ : ∃ num : Int32, num = nI t := ⟨_, rfl⟩
  have hT : TxR G cd num (r 0) tl := by rw [hnum]; exact hx.tx hOk h4
  refine Ct.intro [(0, .ref (x 0)), (1, .int kd), (2, .int v), (3, .int many), (4, .int what)] (by decide) rfl (Nat.le_of_ble_eq_true rfl) ?_
  refine z_iload_n d_X11_best_0 1 rfl ?_
  refine z_iload_n d_X11_best_1 2 rfl ?_
  refine z_callSp c_X11_210 (t_X11_isKnot G kd v (XW G x N R K r S T tl)) rfl rfl (Nat.le_of_ble_eq_true rfl) rfl d_X11_best_2 ?_
  refine z_if_eq d_X11_best_5 (fun c_5 => ?_) (fun c_5 => ?_)
  · refine z_bipush (v := -2) d_X11_best_26 (by decide) ?_
    refine z_widen (pc' := 0) 1 1 (by omega) (by omega) ?_
    exact z_iret _ d_X11_best_28 rfl (XP.of (by rw [besR, if_neg (fun hh => by obtain ⟨g1, g2, g3⟩ := beO_iff.mp hh; rw [b01_z c_5] at g1; exact absurd g1 (by decide))]) (by rw [besA, if_neg (by rw [Bool.and_eq_true]; exact fun hh => (fun hh => by obtain ⟨g1, g2, g3⟩ := beO_iff.mp hh; rw [b01_z c_5] at g1; exact absurd g1 (by decide)) hh.1)]; exact hx))
  · refine z_iload_n d_X11_best_8 3 rfl ?_
    refine z_callSp c_X11_198 (t_X11_isLong G many (XW G x N R K r S T tl)) rfl rfl (Nat.le_of_ble_eq_true rfl) rfl d_X11_best_9 ?_
    refine z_if_eq d_X11_best_12 (fun c_12 => ?_) (fun c_12 => ?_)
    · refine z_bipush (v := -2) d_X11_best_26 (by decide) ?_
      refine z_widen (pc' := 0) 1 1 (by omega) (by omega) ?_
      exact z_iret _ d_X11_best_28 rfl (XP.of (by rw [besR, if_neg (fun hh => by obtain ⟨g1, g2, g3⟩ := beO_iff.mp hh; rw [b01_z c_12] at g2; exact absurd g2 (by decide))]) (by rw [besA, if_neg (by rw [Bool.and_eq_true]; exact fun hh => (fun hh => by obtain ⟨g1, g2, g3⟩ := beO_iff.mp hh; rw [b01_z c_12] at g2; exact absurd g2 (by decide)) hh.1)]; exact hx))
    · refine z_iload d_X11_best_15 4 rfl ?_
      refine z_if_lt d_X11_best_17 (fun c_17 => ?_) (fun c_17 => ?_)
      · refine z_bipush (v := -2) d_X11_best_26 (by decide) ?_
        refine z_widen (pc' := 0) 1 1 (by omega) (by omega) ?_
        exact z_iret _ d_X11_best_28 rfl (XP.of (by rw [besR, if_neg (fun hh => by obtain ⟨g1, g2, g3⟩ := beO_iff.mp hh; rw [inB_iff] at g3; simp only [lt_i, i_0, i_1] at c_17; omega)]) (by rw [besA, if_neg (by rw [Bool.and_eq_true]; exact fun hh => (fun hh => by obtain ⟨g1, g2, g3⟩ := beO_iff.mp hh; rw [inB_iff] at g3; simp only [lt_i, i_0, i_1] at c_17; omega) hh.1)]; exact hx))
      · refine z_iload d_X11_best_20 4 rfl ?_
        refine z_iconst (v := 1) d_X11_best_22 (by decide) ?_
        refine z_icmp_le d_X11_best_23 (fun c_23 => ?_) (fun c_23 => ?_)
        · have hbe : beO kd v many what = true := beO_iff.mpr ⟨b01_o c_5, b01_o c_12, by rw [inB_iff]; simp only [lt_i, i_0, i_1] at c_17 c_23; omega⟩
          obtain ⟨hb1, hb2, -⟩ := beO_iff.mp hbe
          rw [Bool.and_eq_true, inB_iff, inB_iff] at hb1
          have hkd := kOk_of hb1.1.1 hb1.1.2
          obtain ⟨j, hj, rfl⟩ : ∃ j : Nat, j < 6 ∧ kd = nI j := ⟨kd.toInt.toNat, by omega, eq_nI (by omega)⟩
          refine z_aload_n d_X11_best_29 0 rfl ?_
          refine z_get (v := .ref (x 6)) (0) f_X11_60_11 rfl rfl d_X11_best_30 ?_
          refine z_callVp 6 c_X11_72 (t_X4_leastFree G x N R K r S T tl I A h  ) rfl rfl rfl rfl (Nat.le_of_ble_eq_true rfl) rfl d_X11_best_33 ?_
          refine z_istore [(5, .int (lfS (I 12))), (0, .ref (x 0)), (1, .int (nI j)), (2, .int v), (3, .int many), (4, .int what)] d_X11_best_36 (by decide) rfl ?_
          refine z_iload d_X11_best_38 0 rfl ?_
          refine z_iconst (v := -1) d_X11_best_40 (by decide) ?_
          refine z_icmp_ne d_X11_best_41 (fun c_41 => ?_) (fun c_41 => ?_)
          · obtain ⟨hf, el⟩ := lf_lt c_41
            rw [el]
            refine z_aload_n d_X11_best_47 1 rfl ?_
            refine z_get (v := .ref (x 6)) (0) f_X11_60_11 rfl rfl d_X11_best_48 ?_
            refine z_iload d_X11_best_51 0 rfl ?_
            refine z_iload_n d_X11_best_53 2 rfl ?_
            refine z_iload_n d_X11_best_54 3 rfl ?_
            refine z_callS c_X11_75 (t_X11_knotOf G (XW G x N R K r S T tl) j v hj) rfl rfl (Nat.le_of_ble_eq_true rfl) rfl d_X11_best_55 ?_
            rintro v55 w55 ⟨a9, rfl, rfl⟩
            rw [xw_app]
            refine z_iload_n d_X11_best_58 4 rfl ?_
            refine z_callV 6 c_X11_213 rfl rfl (t_X4_bestOf G x N R K r S T (tl ++ [(a9, .inr (kdC (nI j), [.int v]))]) I A (h.more _) cd num (hT.more _) (frN (I 12)) tl.length a9 (nI j) v many hf (frN_clear hf) get_last hkd hb1.2) rfl rfl (Nat.le_of_ble_eq_true rfl) rfl d_X11_best_59 ?_
            rintro v59 w59 ⟨rfl, N5, R5, K5, S5, T5, rfl, hch, hn5, hFr⟩
            refine z_astore [(6, .ref (x 13)), (5, .int (nI (frN (I 12)))), (0, .ref (x 0)), (1, .int (nI j)), (2, .int v), (3, .int many), (4, .int what)] d_X11_best_62 (by decide) rfl ?_
            refine z_iload d_X11_best_64 6 rfl ?_
            refine z_if_ne d_X11_best_66 (fun c_66 => ?_) (fun c_66 => ?_)
            · refine z_aload d_X11_best_77 0 rfl ?_
              refine z_get (v := .int (S5 7)) (13) f_X11_217_0 rfl rfl d_X11_best_79 ?_
              exact z_iret _ d_X11_best_82 rfl (XP.of (by rw [besR, if_pos hbe, if_neg (lf_n16 hf), sel2]; rw [if_neg c_66, hch.2 (bs_ne hb2 50 (by decide))]) (by rw [besA, hbe, decide_eq_false (lf_n16 hf)]; exact hx.net _ (fun _ _ => rfl) (fun i hi => beA_ne hi 50) (fun i hi => hFr.1 i (by omega) (by omega) (by omega)) (fun i hi => hFr.2.1 i (by omega) (by omega) (by omega)) (fun i hi => hFr.2.2 i hi) hn5))
            · refine z_aload d_X11_best_69 0 rfl ?_
              refine z_get (v := .int (S5 6)) (13) f_X11_205_0 rfl rfl d_X11_best_71 ?_
              refine z_goto d_X11_best_74 ?_
              exact z_iret _ d_X11_best_82 rfl (XP.of (by rw [besR, if_pos hbe, if_neg (lf_n16 hf), sel2]; rw [if_pos c_66, hch.1]) (by rw [besA, hbe, decide_eq_false (lf_n16 hf)]; exact hx.net _ (fun _ _ => rfl) (fun i hi => beA_ne hi 50) (fun i hi => hFr.1 i (by omega) (by omega) (by omega)) (fun i hi => hFr.2.1 i (by omega) (by omega) (by omega)) (fun i hi => hFr.2.2 i hi) hn5))
          · refine z_bipush (v := -4) d_X11_best_44 (by decide) ?_
            refine z_widen (pc' := 0) 1 1 (by omega) (by omega) ?_
            exact z_iret _ d_X11_best_46 rfl (XP.of (by rw [besR, if_pos hbe, if_pos (lf_16 c_41)]) (by rw [besA, hbe, decide_eq_true (lf_16 c_41)]; exact hx))
        · refine z_bipush (v := -2) d_X11_best_26 (by decide) ?_
          refine z_widen (pc' := 0) 1 1 (by omega) (by omega) ?_
          exact z_iret _ d_X11_best_28 rfl (XP.of (by rw [besR, if_neg (fun hh => by obtain ⟨g1, g2, g3⟩ := beO_iff.mp hh; rw [inB_iff] at g3; simp only [lt_i, i_0, i_1] at c_17 c_23; omega)]) (by rw [besA, if_neg (by rw [Bool.and_eq_true]; exact fun hh => (fun hh => by obtain ⟨g1, g2, g3⟩ := beO_iff.mp hh; rw [inB_iff] at g3; simp only [lt_i, i_0, i_1] at c_17 c_23; omega) hh.1)]; exact hx))
theorem rm_j {d D mc j : Nat} (h : d + 1 ≤ D) (h2 : j + mc ≤ 8) : rmok d mc mc j j (Rm D 8 8) = true := by
  simp only [rmok, Rm, Bool.and_eq_true]
  exact ⟨Nat.ble_eq_true_of_le h, Nat.ble_eq_true_of_le (by omega), Nat.ble_eq_true_of_le h2, Nat.ble_eq_true_of_le h2⟩
theorem buO_iff {many n0 : Int32} : buO many n0 = true ↔ inB many 1 5 = true ∧ inB n0 0 8 = true := by unfold buO; rw [Bool.and_eq_true]
set_option maxHeartbeats 4000000 in
set_option maxRecDepth 100000 in
theorem lp_build (G : GT) (x : Nat → Nat) (r : Nat → Nat) (cd : CD) (num many : Int32) (m : Nat) (hm8 : m ≤ 8) (hmy : inB many 1 5 = true) (z1 : Int32) (I1 : Nat → Int32) (A1 : Nat → Nat → Int32) : ∀ (n : Nat) (j : Nat) (N : Nat → Int32) (R : Nat → Nat → Int32) (K : Nat → Nat → Option Nat) (S : Nat → Int32) (T : Nat → Nat → Int32) (tl : va_W) (I : Nat → Int32) (A : Nat → Nat → Int32) (hx : XRel G I A N R K r tl) (hT : TxR G cd num (r 0) tl) (hj : j ≤ m) (hm : m < j + n) (hb : nI (j + (bdR cd many (m - j) I A).1) = z1 ∧ (bdR cd many (m - j) I A).2.1 = I1 ∧ (bdR cd many (m - j) I A).2.2 = A1), Tr G mX11_build (Rm 8 8 8) (OM G (XP G x (some (.int z1)) I1 A1) 8 8) j j 22 [(3, .int (nI j)), (0, .ref (x 0)), (1, .int many), (2, .int (nI m))] [] (XW G x N R K r S T tl) := by
  intro n
  induction n with
  | zero =>
    intro j N R K S T tl I A hx hT hj hm hb
    exact absurd hm (by omega)
  | succ n ih =>
    intro j N R K S T tl I A hx hT hj hm hb
    refine z_iload_n d_X11_build_22 0 rfl ?_
    refine z_iload_n d_X11_build_23 3 rfl ?_
    refine z_icmp_ge d_X11_build_24 (fun c_24 => ?_) (fun c_24 => ?_)
    · refine z_iload_n d_X11_build_75 3 rfl ?_
      refine z_widen (pc' := 0) 8 8 (by omega) (by omega) ?_
      exact z_iret _ d_X11_build_76 rfl (by rw [show m - j = 0 by have := ge_nI (by omega) (by omega) c_24; omega, bdR] at hb; obtain ⟨rfl, rfl, rfl⟩ := hb; exact XP.of (by have := ge_nI (by omega) (by omega) c_24; rw [show j = m by omega]; rfl) hx)
    · have h := hx.nt
      have h9 : j < m := lt_nI (by omega) (by omega) c_24
      refine z_aload_n d_X11_build_27 1 rfl ?_
      refine z_get (v := .ref (x 6)) (0) f_X11_60_11 rfl rfl d_X11_build_28 ?_
      refine z_callVp 6 c_X11_72 (t_X4_leastFree G x N R K r S T tl I A h  ) rfl rfl rfl rfl (Nat.le_of_ble_eq_true rfl) (rm_j (by omega) (by omega)) d_X11_build_31 ?_
      refine z_istore [(4, .int (lfS (I 12))), (3, .int (nI j)), (0, .ref (x 0)), (1, .int many), (2, .int (nI m))] d_X11_build_34 (by decide) rfl ?_
      refine z_iload d_X11_build_36 0 rfl ?_
      refine z_iconst (v := -1) d_X11_build_38 (by decide) ?_
      refine z_icmp_ne d_X11_build_39 (fun c_39 => ?_) (fun c_39 => ?_)
      · obtain ⟨hf, el⟩ := lf_lt c_39
        rw [el]
        have hwo : okW (nxS cd I A many).1 = true := (bs_ok 50).resolve_left (bs_ne hmy 50 (by decide))
        rw [show m - j = (m - (j + 1)) + 1 by omega, bdR, if_pos hf] at hb
        refine z_aload_n d_X11_build_44 2 rfl ?_
        refine z_get (v := .ref (x 6)) (0) f_X11_60_11 rfl rfl d_X11_build_45 ?_
        refine z_iload d_X11_build_48 0 rfl ?_
        refine z_iconst (v := 0) d_X11_build_50 (by decide) ?_
        refine z_iconst (v := 0) d_X11_build_51 (by decide) ?_
        refine z_callS c_X11_75 (t_X11_knotOf G (XW G x N R K r S T tl) 0 0 (by decide)) rfl rfl (Nat.le_of_ble_eq_true rfl) (rm_j (by omega) (by omega)) d_X11_build_52 ?_
        rintro v52 w52 ⟨a9, rfl, rfl⟩
        rw [xw_app]
        refine z_aload_n d_X11_build_55 2 rfl ?_
        refine z_get (v := .ref (x 6)) (0) f_X11_60_11 rfl rfl d_X11_build_56 ?_
        refine z_iload_n d_X11_build_59 3 rfl ?_
        refine z_callV 6 c_X11_201 rfl rfl (t_X4_nextOf G x N R K r S T (tl ++ [(a9, .inr (kdC (nI 0), [.int 0]))]) I A (h.more _) cd num (hT.more _) many) rfl rfl (Nat.le_of_ble_eq_true rfl) (rm_j (by omega) (by omega)) d_X11_build_60 ?_
        rintro v60 w60 ⟨rfl, S60, T60, rfl, hch⟩
        refine z_get (v := .int (S60 6)) (13) f_X11_205_0 rfl rfl d_X11_build_63 ?_
        refine z_top hch.1 ?_
        obtain ⟨c9, st9, lg9, hW9⟩ := okW_WP hwo
        refine z_callVv 6 c_X11_79 (t_X4_put G x N R K r S60 T60 (tl ++ [(a9, .inr (kdC (nI 0), [.int 0]))]) (frN (I 12)) c9 st9 lg9 a9 tl.length (kdC (nI 0)) 0 ((nxS cd I A many).1) hf hW9 (kdC_t _) get_last) rfl rfl rfl rfl (Nat.le_of_ble_eq_true rfl) (rm_j (by omega) (by omega)) d_X11_build_66 ?_
        refine z_iinc (nI (j + 1)) [(3, .int (nI (j + 1))), (4, .int (nI (frN (I 12)))), (0, .ref (x 0)), (1, .int many), (2, .int (nI m))] 1 d_X11_build_69 rfl (nI_1 _) (by decide) rfl ?_
        refine z_goto d_X11_build_72 ?_
        refine z_perm [0, 2, 3, 4] rfl ?_
        exact ih (j + 1) _ _ _ _ _ _ (laI I (frN (I 12))) (laA I A (frN (I 12)) 0 (nxS cd I A many).1 0) (hx.net _ (fun i hi => if_neg (by omega)) (fun i hi => laA_ne hi) (fun i hi => if_neg (by omega)) (fun i hi => by unfold vf_upd; rw [if_neg (by omega), if_neg (by omega), if_neg (by omega)]) (fun i hi => if_neg (by omega)) (((h.more [(a9, .inr (kdC (nI 0), [.int 0]))]).put hf (frN_clear hf) ⟨a9, tl.length, rfl, get_last⟩ (Or.inl rfl) ⟨by decide, by decide⟩ hwo hW9))) (hT.more _) (by omega) (by omega) (by rw [show j + 1 + (bdR cd many (m - (j + 1)) (laI I (frN (I 12))) (laA I A (frN (I 12)) 0 (nxS cd I A many).1 0)).1 = j + ((bdR cd many (m - (j + 1)) (laI I (frN (I 12))) (laA I A (frN (I 12)) 0 (nxS cd I A many).1 0)).1 + 1) by omega]; exact hb)
      · refine z_iload_n d_X11_build_42 1 rfl ?_
        refine z_widen (pc' := 0) 8 8 (by omega) (by omega) ?_
        exact z_iret _ d_X11_build_43 rfl (by rw [show m - j = (m - (j + 1)) + 1 by omega, bdR, if_neg (fun hh => lf_n16 hh (lf_16 c_39))] at hb; obtain ⟨rfl, rfl, rfl⟩ := hb; exact XP.of rfl hx)
set_option maxHeartbeats 4000000 in
set_option maxRecDepth 100000 in
theorem t_X11_build (G : GT) (x : Nat → Nat) (N : Nat → Int32) (R : Nat → Nat → Int32) (K : Nat → Nat → Option Nat) (r : Nat → Nat) (S : Nat → Int32) (T : Nat → Nat → Int32) (tl : va_W) (I : Nat → Int32) (A : Nat → Nat → Int32) (hx : XRel G I A N R K r tl) (t : Nat) (cd : CD) (hOk : TxOk A t cd) (h4 : I 4 = nI t) (many : Int32) (n0 : Int32)  : Ct G mX11_build 8 8 8 [.ref (x 0), .int many, .int n0] (XW G x N R K r S T tl) (XP G x (some (.int (buiR cd I A many n0))) (buiI cd I A many n0) (buiA cd I A many n0)) := by
  have h := hx.nt
  obtain ⟨num, hnum⟩ : ∃ num : Int32, num = nI t := ⟨_, rfl⟩
  have hT : TxR G cd num (r 0) tl := by rw [hnum]; exact hx.tx hOk h4
  refine Ct.intro [(0, .ref (x 0)), (1, .int many), (2, .int n0)] (by decide) rfl (Nat.le_of_ble_eq_true rfl) ?_
  refine z_iload_n d_X11_build_0 1 rfl ?_
  refine z_callSp c_X11_198 (t_X11_isLong G many (XW G x N R K r S T tl)) rfl rfl (Nat.le_of_ble_eq_true rfl) rfl d_X11_build_1 ?_
  refine z_if_eq d_X11_build_4 (fun c_4 => ?_) (fun c_4 => ?_)
  · refine z_bipush (v := -2) d_X11_build_17 (by decide) ?_
    refine z_widen (pc' := 0) 8 8 (by omega) (by omega) ?_
    exact z_iret _ d_X11_build_19 rfl (XP.of (by rw [buiR, if_neg (fun hh => by obtain ⟨g1, g2⟩ := buO_iff.mp hh; rw [b01_z c_4] at g1; exact absurd g1 (by decide))]) (by rw [buiI, buiA, if_neg (fun hh => by obtain ⟨g1, g2⟩ := buO_iff.mp hh; rw [b01_z c_4] at g1; exact absurd g1 (by decide)), if_neg (fun hh => by obtain ⟨g1, g2⟩ := buO_iff.mp hh; rw [b01_z c_4] at g1; exact absurd g1 (by decide))]; exact hx))
  · refine z_iload_n d_X11_build_7 2 rfl ?_
    refine z_if_lt d_X11_build_8 (fun c_8 => ?_) (fun c_8 => ?_)
    · refine z_bipush (v := -2) d_X11_build_17 (by decide) ?_
      refine z_widen (pc' := 0) 8 8 (by omega) (by omega) ?_
      exact z_iret _ d_X11_build_19 rfl (XP.of (by rw [buiR, if_neg (fun hh => by obtain ⟨g1, g2⟩ := buO_iff.mp hh; rw [inB_iff] at g2; simp only [lt_i, i_0, l_8] at c_8; omega)]) (by rw [buiI, buiA, if_neg (fun hh => by obtain ⟨g1, g2⟩ := buO_iff.mp hh; rw [inB_iff] at g2; simp only [lt_i, i_0, l_8] at c_8; omega), if_neg (fun hh => by obtain ⟨g1, g2⟩ := buO_iff.mp hh; rw [inB_iff] at g2; simp only [lt_i, i_0, l_8] at c_8; omega)]; exact hx))
    · refine z_iload_n d_X11_build_11 2 rfl ?_
      refine z_bipush (v := 8) d_X11_build_12 (by decide) ?_
      refine z_icmp_le d_X11_build_14 (fun c_14 => ?_) (fun c_14 => ?_)
      · have hbu : buO many n0 = true := buO_iff.mpr ⟨b01_o c_4, by rw [inB_iff]; simp only [lt_i, i_0, l_8] at c_8 c_14; omega⟩
        obtain ⟨m, hm8, rfl⟩ := inB_nI (buO_iff.mp hbu).2
        replace hm8 : m < 9 := hm8
        refine z_iconst (v := 0) d_X11_build_20 (by decide) ?_
        refine z_istore_n [(3, .int 0), (0, .ref (x 0)), (1, .int many), (2, .int (nI m))] d_X11_build_21 (by decide) rfl ?_
        exact lp_build G x r cd num many m (by omega) (b01_o c_4) _ _ _ (m + 1) 0 N R K S T tl I A hx hT (by omega) (by omega) (by rw [buiR, buiI, buiA, if_pos hbu, if_pos hbu, if_pos hbu, nI_tn (by omega), Nat.sub_zero, Nat.zero_add]; exact ⟨rfl, rfl, rfl⟩)
      · refine z_bipush (v := -2) d_X11_build_17 (by decide) ?_
        refine z_widen (pc' := 0) 8 8 (by omega) (by omega) ?_
        exact z_iret _ d_X11_build_19 rfl (XP.of (by rw [buiR, if_neg (fun hh => by obtain ⟨g1, g2⟩ := buO_iff.mp hh; rw [inB_iff] at g2; simp only [lt_i, i_0, l_8] at c_8 c_14; omega)]) (by rw [buiI, buiA, if_neg (fun hh => by obtain ⟨g1, g2⟩ := buO_iff.mp hh; rw [inB_iff] at g2; simp only [lt_i, i_0, l_8] at c_8 c_14; omega), if_neg (fun hh => by obtain ⟨g1, g2⟩ := buO_iff.mp hh; rw [inB_iff] at g2; simp only [lt_i, i_0, l_8] at c_8 c_14; omega)]; exact hx))
theorem fd_b (bytes : Int64) (i : Nat) : (((bytes >>> ((8 * nI i).toInt64 &&& 63)).toInt32).toInt8.toInt32) = sb (fdB bytes i) ∧ bOk (fdB bytes i) := by
  unfold fdB sb bOk
  generalize bytes >>> ((8 * nI i).toInt64 &&& 63) = z
  have e : (z &&& 255).toInt32 = z.toInt32 &&& 255 := by
    rw [Int64.toInt32_and]; rfl
  rw [e]
  generalize z.toInt32 = y
  have h1 : ((y &&& 255).toInt8) = y.toInt8 := by rw [Int32.toInt8_and]; show y.toInt8 &&& (-1) = _; exact Int8.and_neg_one
  rw [h1]
  refine ⟨rfl, ?_⟩
  have e2 : (y &&& 255).toInt = ((y.toBitVec &&& 255#32).toNat : Int) := by
    show (y.toBitVec &&& 255#32).toInt = _
    rw [BitVec.toInt_eq_toNat_of_lt]
    rw [BitVec.toNat_and]
    have : y.toBitVec.toNat &&& (255#32).toNat ≤ 255 := Nat.and_le_right
    omega
  have h2 : (y.toBitVec &&& 255#32).toNat ≤ 255 := by rw [BitVec.toNat_and]; exact Nat.and_le_right
  rw [e2]; omega
