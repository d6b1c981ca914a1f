/-! THE PUBLIC METHODS of class X: best, build, feed, text -/
theorem beA_ne {I : Nat → Int32} {A : Nat → Nat → Int32} {s : Nat} {kd v many : Int32} {j : Nat} (hj : ¬ (7 ≤ j ∧ j ≤ 11)) : ∀ q, beA I A s kd v many q j = A j
  | 0 => rfl
  | q + 1 => by
    show (if okW (whS q many) = true then laA I (beA I A s kd v many q) s kd (whS q many) v else beA I A s kd v many q) j = A j
    split
    · rw [laA_ne hj]; exact beA_ne hj q
    · exact beA_ne hj q
theorem bs_ok {many : Int32} {v : Nat → Int32} : ∀ n, (itL (bsF (fun k => okW (whS k many)) (fun k => whS k many) v) (-1, 0) n).1 = -1 ∨ okW (itL (bsF (fun k => okW (whS k many)) (fun k => whS k many) v) (-1, 0) n).1 = true
  | 0 => Or.inl rfl
  | n + 1 => by
    have ih := bs_ok (many := many) (v := v) n
    rw [itL, bsF]
    by_cases h : okW (whS n many) = true
    · rw [if_pos h]
      split
      · exact Or.inr h
      · split
        · exact Or.inr h
        · exact ih
    · rw [if_neg h]; exact ih
theorem beO_iff {kd v many what : Int32} : beO kd v many what = true ↔ (inB kd 0 5 && inB v 0 9) = true ∧ inB many 1 5 = true ∧ inB what 0 1 = true := by
  unfold beO
  cases inB kd 0 5 <;> cases inB v 0 9 <;> cases inB many 1 5 <;> cases inB what 0 1 <;> simp
set_option maxHeartbeats 4000000 in
set_option maxRecDepth 100000 in
theorem t_X11_best (G : GT) (x : Nat → Nat) (N : Nat → Int32) (R : Nat → Nat → Int32) (K : Nat → Nat → Option Nat) (r : Nat → Nat) (S : Nat → Int32) (T : Nat → Nat → Int32) (tl : va_W) (I : Nat → Int32) (A : Nat → Nat → Int32) (hx : XRel G I A N R K r tl) (t : Nat) (cd : CD) (hOk : TxOk A t cd) (h4 : I 4 = nI t) (kd : Int32) (v : Int32) (many : Int32) (what : Int32)  : Ct G mX11_best 8 1 1 [.ref (x 0), .int kd, .int v, .int many, .int what] (XW G x N R K r S T tl) (XP G x (some (.int (besR cd I A kd v many what))) I (besA I A kd v many what)) := by
  have h := hx.nt
  obtain ⟨num, hnum⟩ : ∃ num : Int32, num = nI t := ⟨_, rfl⟩
  have hT : TxR G cd num (r 0) tl := by rw [hnum]; exact hx.tx hOk h4
  refine Ct.intro [(0, .ref (x 0)), (1, .int kd), (2, .int v), (3, .int many), (4, .int what)] (by decide) rfl (Nat.le_of_ble_eq_true rfl) ?_
  refine z_iload_n d_X11_best_0 1 rfl ?_
  refine z_iload_n d_X11_best_1 2 rfl ?_
  refine z_callSp c_X11_210 (t_X11_isKnot G kd v (XW G x N R K r S T tl)) rfl rfl (Nat.le_of_ble_eq_true rfl) rfl d_X11_best_2 ?_
  refine z_if_eq d_X11_best_5 (fun c_5 => ?_) (fun c_5 => ?_)
  · refine z_bipush (v := -2) d_X11_best_26 (by decide) ?_
    refine z_widen (pc' := 0) 1 1 (by omega) (by omega) ?_
    exact z_iret _ d_X11_best_28 rfl (XP.of (by rw [besR, if_neg (fun hh => by obtain ⟨g1, g2, g3⟩ := beO_iff.mp hh; rw [b01_z c_5] at g1; exact absurd g1 (by decide))]) (by rw [besA, if_neg (by rw [Bool.and_eq_true]; exact fun hh => (fun hh => by obtain ⟨g1, g2, g3⟩ := beO_iff.mp hh; rw [b01_z c_5] at g1; exact absurd g1 (by decide)) hh.1)]; exact hx))
  · refine z_iload_n d_X11_best_8 3 rfl ?_
    refine z_callSp c_X11_198 (t_X11_isLong G many (XW G x N R K r S T tl)) rfl rfl (Nat.le_of_ble_eq_true rfl) rfl d_X11_best_9 ?_
    refine z_if_eq d_X11_best_12 (fun c_12 => ?_) (fun c_12 => ?_)
    · refine z_bipush (v := -2) d_X11_best_26 (by decide) ?_
      refine z_widen (pc' := 0) 1 1 (by omega) (by omega) ?_
      exact z_iret _ d_X11_best_28 rfl (XP.of (by rw [besR, if_neg (fun hh => by obtain ⟨g1, g2, g3⟩ := beO_iff.mp hh; rw [b01_z c_12] at g2; exact absurd g2 (by decide))]) (by rw [besA, if_neg (by rw [Bool.and_eq_true]; exact fun hh => (fun hh => by obtain ⟨g1, g2, g3⟩ := beO_iff.mp hh; rw [b01_z c_12] at g2; exact absurd g2 (by decide)) hh.1)]; exact hx))
    · refine z_iload d_X11_best_15 4 rfl ?_
      refine z_if_lt d_X11_best_17 (fun c_17 => ?_) (fun c_17 => ?_)
      · refine z_bipush (v := -2) d_X11_best_26 (by decide) ?_
        refine z_widen (pc' := 0) 1 1 (by omega) (by omega) ?_
        exact z_iret _ d_X11_best_28 rfl (XP.of (by rw [besR, if_neg (fun hh => by obtain ⟨g1, g2, g3⟩ := beO_iff.mp hh; rw [inB_iff] at g3; simp only [lt_i, i_0, i_1] at c_17; omega)]) (by rw [besA, if_neg (by rw [Bool.and_eq_true]; exact fun hh => (fun hh => by obtain ⟨g1, g2, g3⟩ := beO_iff.mp hh; rw [inB_iff] at g3; simp only [lt_i, i_0, i_1] at c_17; omega) hh.1)]; exact hx))
      · refine z_iload d_X11_best_20 4 rfl ?_
        refine z_iconst (v := 1) d_X11_best_22 (by decide) ?_
        refine z_icmp_le d_X11_best_23 (fun c_23 => ?_) (fun c_23 => ?_)
        · have hbe : beO kd v many what = true := beO_iff.mpr ⟨b01_o c_5, b01_o c_12, by rw [inB_iff]; simp only [lt_i, i_0, i_1] at c_17 c_23; omega⟩
          obtain ⟨hb1, hb2, -⟩ := beO_iff.mp hbe
          rw [Bool.and_eq_true, inB_iff, inB_iff] at hb1
          have hkd := kOk_of hb1.1.1 hb1.1.2
          obtain ⟨j, hj, rfl⟩ : ∃ j : Nat, j < 6 ∧ kd = nI j := ⟨kd.toInt.toNat, by omega, eq_nI (by omega)⟩
          refine z_aload_n d_X11_best_29 0 rfl ?_
          refine z_get (v := .ref (x 6)) (0) f_X11_60_11 rfl rfl d_X11_best_30 ?_
          refine z_callVp 6 c_X11_72 (t_X4_leastFree G x N R K r S T tl I A h  ) rfl rfl rfl rfl (Nat.le_of_ble_eq_true rfl) rfl d_X11_best_33 ?_
          refine z_istore [(5, .int (lfS (I 12))), (0, .ref (x 0)), (1, .int (nI j)), (2, .int v), (3, .int many), (4, .int what)] d_X11_best_36 (by decide) rfl ?_
          refine z_iload d_X11_best_38 0 rfl ?_
          refine z_iconst (v := -1) d_X11_best_40 (by decide) ?_
          refine z_icmp_ne d_X11_best_41 (fun c_41 => ?_) (fun c_41 => ?_)
          · obtain ⟨hf, el⟩ := lf_lt c_41
            rw [el]
            refine z_aload_n d_X11_best_47 1 rfl ?_
            refine z_get (v := .ref (x 6)) (0) f_X11_60_11 rfl rfl d_X11_best_48 ?_
            refine z_iload d_X11_best_51 0 rfl ?_
            refine z_iload_n d_X11_best_53 2 rfl ?_
            refine z_iload_n d_X11_best_54 3 rfl ?_
            refine z_callS c_X11_75 (t_X11_knotOf G (XW G x N R K r S T tl) j v hj) rfl rfl (Nat.le_of_ble_eq_true rfl) rfl d_X11_best_55 ?_
            rintro v55 w55 ⟨a9, rfl, rfl⟩
            rw [xw_app]
            refine z_iload_n d_X11_best_58 4 rfl ?_
            refine z_callV 6 c_X11_213 rfl rfl (t_X4_bestOf G x N R K r S T (tl ++ [(a9, .inr (kdC (nI j), [.int v]))]) I A (h.more _) cd num (hT.more _) (frN (I 12)) tl.length a9 (nI j) v many hf (frN_clear hf) get_last hkd hb1.2) rfl rfl (Nat.le_of_ble_eq_true rfl) rfl d_X11_best_59 ?_
            rintro v59 w59 ⟨rfl, N5, R5, K5, S5, T5, rfl, hch, hn5, hFr⟩
            refine z_astore [(6, .ref (x 13)), (5, .int (nI (frN (I 12)))), (0, .ref (x 0)), (1, .int (nI j)), (2, .int v), (3, .int many), (4, .int what)] d_X11_best_62 (by decide) rfl ?_
            refine z_iload d_X11_best_64 6 rfl ?_
            refine z_if_ne d_X11_best_66 (fun c_66 => ?_) (fun c_66 => ?_)
            · refine z_aload d_X11_best_77 0 rfl ?_
              refine z_get (v := .int (S5 7)) (13) f_X11_217_0 rfl rfl d_X11_best_79 ?_
              exact z_iret _ d_X11_best_82 rfl (XP.of (by rw [besR, if_pos hbe, if_neg (lf_n16 hf), sel2]; rw [if_neg c_66, hch.2 (bs_ne hb2 50 (by decide))]) (by rw [besA, hbe, decide_eq_false (lf_n16 hf)]; exact hx.net _ (fun _ _ => rfl) (fun i hi => beA_ne hi 50) (fun i hi => hFr.1 i (by omega) (by omega) (by omega)) (fun i hi => hFr.2.1 i (by omega) (by omega) (by omega)) (fun i hi => hFr.2.2 i hi) hn5))
            · refine z_aload d_X11_best_69 0 rfl ?_
              refine z_get (v := .int (S5 6)) (13) f_X11_205_0 rfl rfl d_X11_best_71 ?_
              refine z_goto d_X11_best_74 ?_
              exact z_iret _ d_X11_best_82 rfl (XP.of (by rw [besR, if_pos hbe, if_neg (lf_n16 hf), sel2]; rw [if_pos c_66, hch.1]) (by rw [besA, hbe, decide_eq_false (lf_n16 hf)]; exact hx.net _ (fun _ _ => rfl) (fun i hi => beA_ne hi 50) (fun i hi => hFr.1 i (by omega) (by omega) (by omega)) (fun i hi => hFr.2.1 i (by omega) (by omega) (by omega)) (fun i hi => hFr.2.2 i hi) hn5))
          · refine z_bipush (v := -4) d_X11_best_44 (by decide) ?_
            refine z_widen (pc' := 0) 1 1 (by omega) (by omega) ?_
            exact z_iret _ d_X11_best_46 rfl (XP.of (by rw [besR, if_pos hbe, if_pos (lf_16 c_41)]) (by rw [besA, hbe, decide_eq_true (lf_16 c_41)]; exact hx))
        · refine z_bipush (v := -2) d_X11_best_26 (by decide) ?_
          refine z_widen (pc' := 0) 1 1 (by omega) (by omega) ?_
          exact z_iret _ d_X11_best_28 rfl (XP.of (by rw [besR, if_neg (fun hh => by obtain ⟨g1, g2, g3⟩ := beO_iff.mp hh; rw [inB_iff] at g3; simp only [lt_i, i_0, i_1] at c_17 c_23; omega)]) (by rw [besA, if_neg (by rw [Bool.and_eq_true]; exact fun hh => (fun hh => by obtain ⟨g1, g2, g3⟩ := beO_iff.mp hh; rw [inB_iff] at g3; simp only [lt_i, i_0, i_1] at c_17 c_23; omega) hh.1)]; exact hx))
