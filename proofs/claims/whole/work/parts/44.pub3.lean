/-! THE PUBLIC METHODS of class X: what they change -/
theorem laA_ne {I : Nat → Int32} {A : Nat → Nat → Int32} {s j : Nat} {k w v : Int32} (h : ¬ (7 ≤ j ∧ j ≤ 11)) : laA I A s k w v j = A j := by
  unfold laA vf_upd
  rw [if_neg (by omega), if_neg (by omega), if_neg (by omega), if_neg (by omega), if_neg (by omega)]
theorem okX_L (k w v : Int32) : okX k w v = okL k w v := by
  unfold okX okL inB
  cases okW w <;> cases decide (0 ≤ v.toInt) <;> cases decide (v.toInt ≤ 9) <;> cases decide (0 ≤ k.toInt) <;> cases decide (k.toInt ≤ 5) <;> rfl
theorem lf_lt {th : Int32} (h : ¬ lfS th = -1) : frN th < 16 ∧ lfS th = nI (frN th) := by
  unfold lfS at h ⊢
  by_cases e : frN th = 16
  · rw [if_pos e] at h; exact absurd rfl h
  · have := frN_le th
    rw [if_neg e]; exact ⟨by omega, rfl⟩
theorem lf_16 {th : Int32} (h : lfS th = -1) : nI (frN th) = 16 := by
  unfold lfS at h
  by_cases e : frN th = 16
  · rw [e]; rfl
  · rw [if_neg e] at h
    have := frN_le th
    have h2 := congrArg Int32.toInt h
    rw [nI_i (by omega)] at h2
    have : (-1 : Int32).toInt = -1 := by decide
    omega
theorem lf_n16 {th : Int32} (h : frN th < 16) : ¬ nI (frN th) = 16 := by
  intro e
  rw [show (16 : Int32) = nI 16 from rfl, nI_eq (by omega) (by decide)] at e
  omega
theorem okX_nI {k w v : Int32} (h : okX k w v = true) : ∃ j : Nat, j < 6 ∧ k = nI j ∧ kOk k ∧ (0 ≤ v.toInt ∧ v.toInt ≤ 9) ∧ okW w = true := by
  rw [okX, Bool.and_eq_true, Bool.and_eq_true, inB_iff, inB_iff] at h
  exact ⟨k.toInt.toNat, by omega, eq_nI (by omega), kOk_of h.1.1.1 h.1.1.2, h.1.2, h.2⟩
set_option maxHeartbeats 4000000 in
set_option maxRecDepth 100000 in
theorem t_X11_lay (G : GT) (x : Nat → Nat) (N : Nat → Int32) (R : Nat → Nat → Int32) (K : Nat → Nat → Option Nat) (r : Nat → Nat) (S : Nat → Int32) (T : Nat → Nat → Int32) (tl : va_W) (I : Nat → Int32) (A : Nat → Nat → Int32) (hx : XRel G I A N R K r tl) (kd : Int32) (wh : Int32) (nu : Int32)  : Ct G mX11_lay 7 1 1 [.ref (x 0), .int kd, .int wh, .int nu] (XW G x N R K r S T tl) (XP G x (some (.int (layR I kd wh nu))) (layI I kd wh nu) (layA I A kd wh nu)) := by
  have h := hx.nt
  refine Ct.intro [(0, .ref (x 0)), (1, .int kd), (2, .int wh), (3, .int nu)] (by decide) rfl (Nat.le_of_ble_eq_true rfl) ?_
  refine z_iload_n d_X11_lay_0 1 rfl ?_
  refine z_iload_n d_X11_lay_1 2 rfl ?_
  refine z_iload_n d_X11_lay_2 3 rfl ?_
  refine z_callSp c_X11_68 (t_X11_canBeLaid G kd wh nu (XW G x N R K r S T tl)) rfl rfl (Nat.le_of_ble_eq_true rfl) rfl d_X11_lay_3 ?_
  refine z_if_ne d_X11_lay_6 (fun c_6 => ?_) (fun c_6 => ?_)
  · have hok := b01_o c_6
    obtain ⟨j, hj, rfl, hkd, hnu, hwo⟩ := okX_nI hok
    refine z_aload_n d_X11_lay_12 0 rfl ?_
    refine z_get (v := .ref (x 6)) (0) f_X11_60_11 rfl rfl d_X11_lay_13 ?_
    refine z_callVp 6 c_X11_72 (t_X4_leastFree G x N R K r S T tl I A h  ) rfl rfl rfl rfl (Nat.le_of_ble_eq_true rfl) rfl d_X11_lay_16 ?_
    refine z_istore [(4, .int (lfS (I 12))), (0, .ref (x 0)), (1, .int (nI j)), (2, .int wh), (3, .int nu)] d_X11_lay_19 (by decide) rfl ?_
    refine z_iload d_X11_lay_21 0 rfl ?_
    refine z_iconst (v := -1) d_X11_lay_23 (by decide) ?_
    refine z_icmp_ne d_X11_lay_24 (fun c_24 => ?_) (fun c_24 => ?_)
    · obtain ⟨hf, el⟩ := lf_lt c_24
      rw [el]
      refine z_aload_n d_X11_lay_30 1 rfl ?_
      refine z_get (v := .ref (x 6)) (0) f_X11_60_11 rfl rfl d_X11_lay_31 ?_
      refine z_iload d_X11_lay_34 0 rfl ?_
      refine z_iload_n d_X11_lay_36 2 rfl ?_
      refine z_iload_n d_X11_lay_37 4 rfl ?_
      refine z_callS c_X11_75 (t_X11_knotOf G (XW G x N R K r S T tl) j nu hj) rfl rfl (Nat.le_of_ble_eq_true rfl) rfl d_X11_lay_38 ?_
      rintro v38 w38 ⟨a9, rfl, rfl⟩
      rw [xw_app]
      refine z_iload_n d_X11_lay_41 3 rfl ?_
      obtain ⟨c9, st9, lg9, hW9⟩ := okW_WP hwo
      refine z_callVv 6 c_X11_79 (t_X4_put G x N R K r S T (tl ++ [(a9, .inr (kdC (nI j), [.int nu]))]) (frN (I 12)) c9 st9 lg9 a9 tl.length (kdC (nI j)) nu wh hf hW9 (kdC_t _) get_last) rfl rfl rfl rfl (Nat.le_of_ble_eq_true rfl) rfl d_X11_lay_42 ?_
      refine z_iload d_X11_lay_45 0 rfl ?_
      exact z_iret _ d_X11_lay_47 rfl (XP.of (by rw [layR, ← okX_L, if_pos hok, if_neg (lf_n16 hf)]) (by rw [layI, layA, layP, ← okX_L, hok, decide_eq_false (lf_n16 hf)]; exact hx.net _ (fun i hi => if_neg (by omega)) (fun i hi => laA_ne hi) (fun i hi => if_neg (by omega)) (fun i hi => by unfold vf_upd; rw [if_neg (by omega), if_neg (by omega), if_neg (by omega)]) (fun i hi => if_neg (by omega)) (((h.more [(a9, .inr (kdC (nI j), [.int nu]))]).put hf (frN_clear hf) ⟨a9, tl.length, rfl, get_last⟩ hkd hnu hwo hW9))))
    · refine z_bipush (v := -4) d_X11_lay_27 (by decide) ?_
      refine z_widen (pc' := 0) 1 1 (by omega) (by omega) ?_
      exact z_iret _ d_X11_lay_29 rfl (XP.of (by rw [layR, ← okX_L, if_pos hok, if_pos (lf_16 c_24)]) (by rw [layI, layA, layP, ← okX_L, hok, decide_eq_true (lf_16 c_24)]; exact hx))
  · refine z_bipush (v := -2) d_X11_lay_9 (by decide) ?_
    refine z_widen (pc' := 0) 1 1 (by omega) (by omega) ?_
    exact z_iret _ d_X11_lay_11 rfl (XP.of (by rw [layR, ← okX_L, if_neg (by rw [b01_z c_6]; decide)]) (by rw [layI, layA, layP, ← okX_L, b01_z c_6]; exact hx))
set_option maxHeartbeats 4000000 in
set_option maxRecDepth 100000 in
theorem t_X11_isUnder (G : GT) (ws : va_W) (q0 a : Nat) (kd num : Int32) (hkd : kOk kd) (k : Nat) (hk : k < 6) (he : ws[q0]? = some (a, .inr (kdC kd, [.int num]))) : Ct G mX11_isUnder 0 0 0 [.ref a, .int (nI k)] ws (Pi (b01 (decide (tkW (nI k) 5 kd = nI k))) ws) := by
  refine Ct.intro [(0, .ref a), (1, .int (nI k))] (by decide) rfl (Nat.le_of_ble_eq_true rfl) ?_
  refine z_iload_n d_X11_isUnder_0 1 rfl ?_
  by_cases h1 : k = 1
  · subst h1
    refine z_swIn (tgt := 36) (off := 35) d_X11_isUnder_1 (show (nI 1).toInt = 1 by decide) (by decide) (by decide) (by decide) (by decide) ?_
    refine z_aload_n d_X11_isUnder_36 0 rfl ?_
    rcases hkd with rfl | rfl | rfl | rfl | rfl | rfl
    · exact z_instF q0 he rfl w_0511 (List.mem_of_getElem? (i := 1) rfl) d_X11_isUnder_37 (z_zret _ d_X11_isUnder_40 rfl (by rfl) (Pi.of (by decide)))
    · exact z_instT q0 he rfl w_0511 (Or.inl rfl) d_X11_isUnder_37 (z_zret _ d_X11_isUnder_40 rfl (by rfl) (Pi.of (by decide)))
    · exact z_instT q0 he rfl w_0511 (Or.inr (List.mem_of_getElem? (i := 1) rfl)) d_X11_isUnder_37 (z_zret _ d_X11_isUnder_40 rfl (by rfl) (Pi.of (by decide)))
    · exact z_instT q0 he rfl w_0511 (Or.inr (List.mem_of_getElem? (i := 2) rfl)) d_X11_isUnder_37 (z_zret _ d_X11_isUnder_40 rfl (by rfl) (Pi.of (by decide)))
    · exact z_instT q0 he rfl w_0511 (Or.inr (List.mem_of_getElem? (i := 0) rfl)) d_X11_isUnder_37 (z_zret _ d_X11_isUnder_40 rfl (by rfl) (Pi.of (by decide)))
    · exact z_instF q0 he rfl w_0511 (List.mem_of_getElem? (i := 0) rfl) d_X11_isUnder_37 (z_zret _ d_X11_isUnder_40 rfl (by rfl) (Pi.of (by decide)))
  by_cases h2 : k = 2
  · subst h2
    refine z_swIn (tgt := 41) (off := 40) d_X11_isUnder_1 (show (nI 2).toInt = 2 by decide) (by decide) (by decide) (by decide) (by decide) ?_
    refine z_aload_n d_X11_isUnder_41 0 rfl ?_
    rcases hkd with rfl | rfl | rfl | rfl | rfl | rfl
    · exact z_instF q0 he rfl w_0529 (List.mem_of_getElem? (i := 5) rfl) d_X11_isUnder_42 (z_zret _ d_X11_isUnder_45 rfl (by rfl) (Pi.of (by decide)))
    · exact z_instF q0 he rfl w_0529 (List.mem_of_getElem? (i := 2) rfl) d_X11_isUnder_42 (z_zret _ d_X11_isUnder_45 rfl (by rfl) (Pi.of (by decide)))
    · exact z_instT q0 he rfl w_0529 (Or.inl rfl) d_X11_isUnder_42 (z_zret _ d_X11_isUnder_45 rfl (by rfl) (Pi.of (by decide)))
    · exact z_instF q0 he rfl w_0529 (List.mem_of_getElem? (i := 3) rfl) d_X11_isUnder_42 (z_zret _ d_X11_isUnder_45 rfl (by rfl) (Pi.of (by decide)))
    · exact z_instT q0 he rfl w_0529 (Or.inr (List.mem_of_getElem? (i := 3) rfl)) d_X11_isUnder_42 (z_zret _ d_X11_isUnder_45 rfl (by rfl) (Pi.of (by decide)))
    · exact z_instF q0 he rfl w_0529 (List.mem_of_getElem? (i := 4) rfl) d_X11_isUnder_42 (z_zret _ d_X11_isUnder_45 rfl (by rfl) (Pi.of (by decide)))
  by_cases h3 : k = 3
  · subst h3
    refine z_swIn (tgt := 46) (off := 45) d_X11_isUnder_1 (show (nI 3).toInt = 3 by decide) (by decide) (by decide) (by decide) (by decide) ?_
    refine z_aload_n d_X11_isUnder_46 0 rfl ?_
    rcases hkd with rfl | rfl | rfl | rfl | rfl | rfl
    · exact z_instF q0 he rfl w_0537 (List.mem_of_getElem? (i := 10) rfl) d_X11_isUnder_47 (z_zret _ d_X11_isUnder_50 rfl (by rfl) (Pi.of (by decide)))
    · exact z_instF q0 he rfl w_0537 (List.mem_of_getElem? (i := 6) rfl) d_X11_isUnder_47 (z_zret _ d_X11_isUnder_50 rfl (by rfl) (Pi.of (by decide)))
    · exact z_instF q0 he rfl w_0537 (List.mem_of_getElem? (i := 7) rfl) d_X11_isUnder_47 (z_zret _ d_X11_isUnder_50 rfl (by rfl) (Pi.of (by decide)))
    · exact z_instT q0 he rfl w_0537 (Or.inl rfl) d_X11_isUnder_47 (z_zret _ d_X11_isUnder_50 rfl (by rfl) (Pi.of (by decide)))
    · exact z_instF q0 he rfl w_0537 (List.mem_of_getElem? (i := 8) rfl) d_X11_isUnder_47 (z_zret _ d_X11_isUnder_50 rfl (by rfl) (Pi.of (by decide)))
    · exact z_instF q0 he rfl w_0537 (List.mem_of_getElem? (i := 9) rfl) d_X11_isUnder_47 (z_zret _ d_X11_isUnder_50 rfl (by rfl) (Pi.of (by decide)))
  by_cases h4 : k = 4
  · subst h4
    refine z_swIn (tgt := 51) (off := 50) d_X11_isUnder_1 (show (nI 4).toInt = 4 by decide) (by decide) (by decide) (by decide) (by decide) ?_
    refine z_aload_n d_X11_isUnder_51 0 rfl ?_
    rcases hkd with rfl | rfl | rfl | rfl | rfl | rfl
    · exact z_instF q0 he rfl w_0545 (List.mem_of_getElem? (i := 15) rfl) d_X11_isUnder_52 (z_zret _ d_X11_isUnder_55 rfl (by rfl) (Pi.of (by decide)))
    · exact z_instF q0 he rfl w_0545 (List.mem_of_getElem? (i := 11) rfl) d_X11_isUnder_52 (z_zret _ d_X11_isUnder_55 rfl (by rfl) (Pi.of (by decide)))
    · exact z_instF q0 he rfl w_0545 (List.mem_of_getElem? (i := 12) rfl) d_X11_isUnder_52 (z_zret _ d_X11_isUnder_55 rfl (by rfl) (Pi.of (by decide)))
    · exact z_instF q0 he rfl w_0545 (List.mem_of_getElem? (i := 13) rfl) d_X11_isUnder_52 (z_zret _ d_X11_isUnder_55 rfl (by rfl) (Pi.of (by decide)))
    · exact z_instT q0 he rfl w_0545 (Or.inl rfl) d_X11_isUnder_52 (z_zret _ d_X11_isUnder_55 rfl (by rfl) (Pi.of (by decide)))
    · exact z_instF q0 he rfl w_0545 (List.mem_of_getElem? (i := 14) rfl) d_X11_isUnder_52 (z_zret _ d_X11_isUnder_55 rfl (by rfl) (Pi.of (by decide)))
  by_cases h5 : k = 5
  · subst h5
    refine z_swIn (tgt := 56) (off := 55) d_X11_isUnder_1 (show (nI 5).toInt = 5 by decide) (by decide) (by decide) (by decide) (by decide) ?_
    refine z_aload_n d_X11_isUnder_56 0 rfl ?_
    rcases hkd with rfl | rfl | rfl | rfl | rfl | rfl
    · exact z_instF q0 he rfl w_0553 (List.mem_of_getElem? (i := 20) rfl) d_X11_isUnder_57 (z_zret _ d_X11_isUnder_60 rfl (by rfl) (Pi.of (by decide)))
    · exact z_instF q0 he rfl w_0553 (List.mem_of_getElem? (i := 16) rfl) d_X11_isUnder_57 (z_zret _ d_X11_isUnder_60 rfl (by rfl) (Pi.of (by decide)))
    · exact z_instF q0 he rfl w_0553 (List.mem_of_getElem? (i := 17) rfl) d_X11_isUnder_57 (z_zret _ d_X11_isUnder_60 rfl (by rfl) (Pi.of (by decide)))
    · exact z_instF q0 he rfl w_0553 (List.mem_of_getElem? (i := 18) rfl) d_X11_isUnder_57 (z_zret _ d_X11_isUnder_60 rfl (by rfl) (Pi.of (by decide)))
    · exact z_instF q0 he rfl w_0553 (List.mem_of_getElem? (i := 19) rfl) d_X11_isUnder_57 (z_zret _ d_X11_isUnder_60 rfl (by rfl) (Pi.of (by decide)))
    · exact z_instT q0 he rfl w_0553 (Or.inl rfl) d_X11_isUnder_57 (z_zret _ d_X11_isUnder_60 rfl (by rfl) (Pi.of (by decide)))
  have h0 : k = 0 := by omega
  subst h0
  refine z_swOut (tgt := 61) d_X11_isUnder_1 (by decide) (by decide) ?_
  refine z_iconst (v := 1) d_X11_isUnder_61 (by decide) ?_
  exact z_zret _ d_X11_isUnder_62 rfl (by rfl) (Pi.of (by rcases hkd with rfl | rfl | rfl | rfl | rfl | rfl <;> decide))
set_option maxHeartbeats 4000000 in
set_option maxRecDepth 100000 in
theorem t_X11_taken (G : GT) (x : Nat → Nat) (N : Nat → Int32) (R : Nat → Nat → Int32) (K : Nat → Nat → Option Nat) (r : Nat → Nat) (S : Nat → Int32) (T : Nat → Nat → Int32) (tl : va_W) (I : Nat → Int32) (A : Nat → Nat → Int32) (hx : XRel G I A N R K r tl) (s : Int32) (k : Int32)  : Ct G mX11_taken 1 0 0 [.ref (x 0), .int s, .int k] (XW G x N R K r S T tl) (XP G x (some (.int (takS I A s k))) I A) := by
  have h := hx.nt
  refine Ct.intro [(0, .ref (x 0)), (1, .int s), (2, .int k)] (by decide) rfl (Nat.le_of_ble_eq_true rfl) ?_
  refine z_iload_n d_X11_taken_0 2 rfl ?_
  refine z_if_lt d_X11_taken_1 (fun c_1 => ?_) (fun c_1 => ?_)
  · refine z_bipush (v := -2) d_X11_taken_10 (by decide) ?_
    exact z_iret _ d_X11_taken_12 rfl (XP.of (by rw [takS, if_neg (by rw [inB_iff]; simp only [lt_i, i_0, l_6] at c_1; omega)]) hx)
  · refine z_iload_n d_X11_taken_4 2 rfl ?_
    refine z_bipush (v := 6) d_X11_taken_5 (by decide) ?_
    refine z_icmp_lt d_X11_taken_7 (fun c_7 => ?_) (fun c_7 => ?_)
    · have hin : inB k 0 5 = true := by rw [inB_iff]; simp only [lt_i, i_0, l_6] at c_1 c_7; omega
      obtain ⟨m6, hm6, rfl⟩ := inB_nI hin
      refine z_aload_n d_X11_taken_13 0 rfl ?_
      refine z_get (v := .ref (x 6)) (0) f_X11_60_11 rfl rfl d_X11_taken_14 ?_
      refine z_iload_n d_X11_taken_17 1 rfl ?_
      refine z_callVp 6 c_X11_83 (t_X4_has G x N R K r S T tl I A h s ) rfl rfl rfl rfl (Nat.le_of_ble_eq_true rfl) rfl d_X11_taken_18 ?_
      refine z_if_ne d_X11_taken_21 (fun c_21 => ?_) (fun c_21 => ?_)
      · have his := b01_o c_21
        obtain ⟨k, hk, rfl, hb⟩ := isS_k his
        refine z_aload_n d_X11_taken_27 0 rfl ?_
        refine z_get (v := .ref (x 6)) (0) f_X11_60_11 rfl rfl d_X11_taken_28 ?_
        refine z_get (v := .ref (x 7)) (6) f_X11_100_4 rfl rfl d_X11_taken_31 ?_
        refine z_iload_n d_X11_taken_34 1 rfl ?_
        refine z_aldq (C0 := RX10) 7 3 k rfl rfl (nI_toInt (by omega)) (by omega) d_X11_taken_35 ?_
        obtain ⟨a35, q35, ha35, hq35⟩ := h.k1 hk hb
        refine z_topv (show va_rf ((K 0) k) = .ref a35 from by rw [ha35]; rfl) ?_
        refine z_astore_n [(3, .ref a35), (0, .ref (x 0)), (1, .int (nI k)), (2, .int (nI m6))] d_X11_taken_36 (by decide) rfl ?_
        refine z_aload_n d_X11_taken_37 0 rfl ?_
        refine z_iload_n d_X11_taken_38 3 rfl ?_
        refine z_callSp c_X11_278 (t_X11_isUnder G (XW G x N R K r S T tl) (q35 + 31) a35 (A 7 k) (A 9 k) (h.kd hk hb) m6 hm6 hq35) rfl rfl (Nat.le_of_ble_eq_true rfl) rfl d_X11_taken_39 ?_
        refine z_if_eq d_X11_taken_42 (fun c_42 => ?_) (fun c_42 => ?_)
        · refine z_bipush (v := -13) d_X11_taken_52 (by decide) ?_
          exact z_iret _ d_X11_taken_54 rfl (XP.of (by rw [takS, if_pos hin, if_pos his, nI_tn (by omega)]; rw [if_neg (dec_n c_42)]) hx)
        · refine z_aload_n d_X11_taken_45 0 rfl ?_
          refine z_get (v := .int (A 9 k)) (q35 + 31) (fT_X11_282 (kdC_t _)) hq35 rfl d_X11_taken_46 ?_
          refine z_goto d_X11_taken_49 ?_
          exact z_iret _ d_X11_taken_54 rfl (XP.of (by rw [takS, if_pos hin, if_pos his, nI_tn (by omega)]; rw [if_pos (dec_y c_42)]) hx)
      · refine z_bipush (v := -11) d_X11_taken_24 (by decide) ?_
        exact z_iret _ d_X11_taken_26 rfl (XP.of (by rw [takS, if_pos hin, if_neg (by rw [b01_z c_21]; decide)]) hx)
    · refine z_bipush (v := -2) d_X11_taken_10 (by decide) ?_
      exact z_iret _ d_X11_taken_12 rfl (XP.of (by rw [takS, if_neg (by rw [inB_iff]; simp only [lt_i, i_0, l_6] at c_1 c_7; omega)]) hx)
theorem nI_pr {m : Nat} (h : 1 ≤ m) : nI m - 1 = nI (m - 1) := nI_sub h
theorem XRel.rule {G : GT} {I : Nat → Int32} {A : Nat → Nat → Int32} {N : Nat → Int32} {R : Nat → Nat → Int32} {K : Nat → Nat → Option Nat} {r : Nat → Nat} {tl : va_W} {m : Nat} (hx : XRel G I A N R K r tl) (j : Nat) {a : Nat} (hj : j < m) (ea : K 2 j = some a) (hm : I 3 = nI m := by assumption) (hm6 : m ≤ 6 := by assumption) : XRel G (upd I 4 (nI j)) A N R K (va_up r 0 a) tl := by
  obtain ⟨m', h1, ⟨t1, t2, t3, t4, t5⟩, h3, h4, h5, h6⟩ := hx
  have e : m' = m := by rw [t3, nI_eq (by omega) (by omega)] at hm; exact hm
  subst e
  refine ⟨m', h1, ⟨t1, t2, t3, t4, t5⟩, ⟨j, hj, rfl, ea⟩, h4, ?_, h6⟩
  rcases h5 with g | ⟨g1, g2, g3, g4⟩
  · exact Or.inl g
  · exact Or.inr ⟨g1, g2, g3.cong rfl rfl rfl (fun _ _ => ⟨rfl, rfl, rfl, rfl, rfl⟩), g4⟩
set_option maxHeartbeats 4000000 in
set_option maxRecDepth 100000 in
theorem t_X11_force (G : GT) (x : Nat → Nat) (N : Nat → Int32) (R : Nat → Nat → Int32) (K : Nat → Nat → Option Nat) (r : Nat → Nat) (S : Nat → Int32) (T : Nat → Nat → Int32) (tl : va_W) (I : Nat → Int32) (A : Nat → Nat → Int32) (hx : XRel G I A N R K r tl) (v : Int32)  : Ct G mX11_force 0 0 0 [.ref (x 0), .int v] (XW G x N R K r S T tl) (XP G x (some (.int (foR I v))) (foI I v) A) := by
  have h := hx.nt
  obtain ⟨m, -, ⟨m1, hm6, m3, mN, m5⟩, -⟩ := id hx
  obtain ⟨t, cd, h4, hOk⟩ := hx.cd
  obtain ⟨q9, q91, q92, c9, e9, f9, g9, hq9, -⟩ := hx.tx hOk h4
  refine Ct.intro [(0, .ref (x 0)), (1, .int v)] (by decide) rfl (Nat.le_of_ble_eq_true rfl) ?_
  refine z_iload_n d_X11_force_0 1 rfl ?_
  refine z_if_lt d_X11_force_1 (fun c_1 => ?_) (fun c_1 => ?_)
  · refine z_bipush (v := -2) d_X11_force_12 (by decide) ?_
    exact z_iret _ d_X11_force_14 rfl (XP.of (by rw [foR, if_neg (by rw [foP, m3, Bool.and_eq_true, decide_eq_true_eq, decide_eq_true_eq, nI_pr (by omega), nI_i (by omega)]; rw [lt_i, i_0] at c_1; omega)]) (by rw [foI, if_neg (by rw [foP, m3, Bool.and_eq_true, decide_eq_true_eq, decide_eq_true_eq, nI_pr (by omega), nI_i (by omega)]; rw [lt_i, i_0] at c_1; omega)]; exact hx))
  · refine z_iload_n d_X11_force_4 1 rfl ?_
    refine z_aload_n d_X11_force_5 0 rfl ?_
    refine z_get (v := .int (N 1)) (0) f_X11_51_11 rfl rfl d_X11_force_6 ?_
    refine z_top (mN.trans m3.symm) ?_
    refine z_icmp_lt d_X11_force_9 (fun c_9 => ?_) (fun c_9 => ?_)
    · have hin : foP I v = true := by rw [foP, m3, Bool.and_eq_true, decide_eq_true_eq, decide_eq_true_eq, nI_pr (by omega), nI_i (by omega)]; rw [lt_i, m3, nI_i (by omega)] at c_9; rw [lt_i, i_0] at c_1; omega
      obtain ⟨j, hj, rfl⟩ : ∃ j : Nat, j < m ∧ v = nI j := ⟨v.toInt.toNat, by rw [lt_i, m3, nI_i (by omega)] at c_9; rw [lt_i, i_0] at c_1; omega, eq_nI (by rw [lt_i, i_0] at c_1; omega)⟩
      obtain ⟨a9, cd9, ea9, -, -⟩ := m5 j hj
      refine z_aload_n d_X11_force_15 0 rfl ?_
      refine z_get (v := .ref (x 6)) (0) f_X11_60_11 rfl rfl d_X11_force_16 ?_
      refine z_get (v := .ref (r 0)) (6) f_X11_157_4 rfl rfl d_X11_force_19 ?_
      refine z_get (v := .int (nI t)) (q9 + 31) f_X11_161_9 hq9 rfl d_X11_force_22 ?_
      refine z_istore_n [(2, .int (nI t)), (0, .ref (x 0)), (1, .int (nI j))] d_X11_force_25 (by decide) rfl ?_
      refine z_aload_n d_X11_force_26 1 rfl ?_
      refine z_get (v := .ref (x 6)) (0) f_X11_60_11 rfl rfl d_X11_force_27 ?_
      refine z_aload_n d_X11_force_30 1 rfl ?_
      refine z_get (v := .ref (x 5)) (0) f_X11_18_11 rfl rfl d_X11_force_31 ?_
      refine z_iload_n d_X11_force_34 2 rfl ?_
      refine z_aldq (C0 := RX9) 5 4 j rfl rfl (nI_toInt (by omega)) (by omega) d_X11_force_35 ?_
      refine z_topv (show va_rf ((K 2) j) = .ref a9 from by rw [ea9]; rfl) ?_
      refine z_put 6 (XW G x N R K (va_up r 0 a9) S T tl) p_X11_157_4 rfl rfl rfl (Nat.le_of_ble_eq_true rfl) (xf_6_7 G x N R K r S T tl _) d_X11_force_36 ?_
      refine z_iload_n d_X11_force_39 0 rfl ?_
      exact z_iret _ d_X11_force_40 rfl (XP.of (by rw [foR, if_pos hin, h4]) (by rw [foI, if_pos hin]; exact hx.rule j hj ea9))
    · refine z_bipush (v := -2) d_X11_force_12 (by decide) ?_
      exact z_iret _ d_X11_force_14 rfl (XP.of (by rw [foR, if_neg (by rw [foP, m3, Bool.and_eq_true, decide_eq_true_eq, decide_eq_true_eq, nI_pr (by omega), nI_i (by omega)]; rw [lt_i, m3, nI_i (by omega)] at c_9; omega)]) (by rw [foI, if_neg (by rw [foP, m3, Bool.and_eq_true, decide_eq_true_eq, decide_eq_true_eq, nI_pr (by omega), nI_i (by omega)]; rw [lt_i, m3, nI_i (by omega)] at c_9; omega)]; exact hx))
theorem bkI_3 (I : Nat → Int32) : bkI I 12 = I 32 ∧ bkI I 13 = I 33 ∧ bkI I 14 = I 34 ∧ bkI I 4 = I 35 := ⟨rfl, rfl, rfl, rfl⟩
theorem im_row (A : Nat → Nat → Int32) : ∀ n, n ≤ 16 → ∀ s, s < n → itL (imR A) (A 30) n s = A 7 s ∧ itL (imR A) (A 30) n (16 + s) = A 8 s ∧ itL (imR A) (A 30) n (32 + s) = A 9 s ∧ itL (imR A) (A 30) n (48 + s) = A 10 s ∧ itL (imR A) (A 30) n (64 + s) = A 11 s
  | 0, _, s, h => absurd h (by omega)
  | n + 1, hn, s, h => by
    have ih := im_row A n (by omega)
    rw [itL]
    unfold imR upd
    by_cases e : s = n
    · subst e
      refine ⟨?_, ?_, ?_, ?_, ?_⟩
      · rw [if_neg (by omega), if_neg (by omega), if_neg (by omega), if_neg (by omega), if_pos rfl]
      · rw [if_neg (by omega), if_neg (by omega), if_neg (by omega), if_pos rfl]
      · rw [if_neg (by omega), if_neg (by omega), if_pos rfl]
      · rw [if_neg (by omega), if_pos rfl]
      · rw [if_pos rfl]
    · obtain ⟨i1, i2, i3, i4, i5⟩ := ih s (by omega)
      refine ⟨?_, ?_, ?_, ?_, ?_⟩ <;> (rw [if_neg (by omega), if_neg (by omega), if_neg (by omega), if_neg (by omega), if_neg (by omega)]; assumption)
theorem im_kp (A : Nat → Nat → Int32) {s : Nat} (hs : s < 16) : kpA (imA A) 7 s = A 7 s ∧ kpA (imA A) 8 s = A 8 s ∧ kpA (imA A) 9 s = A 9 s ∧ kpA (imA A) 10 s = A 10 s ∧ kpA (imA A) 11 s = A 11 s := im_row A 16 (Nat.le_refl _) s hs
theorem bk_row (A : Nat → Nat → Int32) : ∀ n, n ≤ 16 → (∀ j, ¬ (7 ≤ j ∧ j ≤ 11) → itL bkF A n j = A j) ∧ ∀ s, s < n → itL bkF A n 7 s = A 30 s ∧ itL bkF A n 8 s = A 30 (16 + s) ∧ itL bkF A n 9 s = A 30 (32 + s) ∧ itL bkF A n 10 s = A 30 (48 + s) ∧ itL bkF A n 11 s = A 30 (64 + s)
  | 0, _ => ⟨fun _ _ => rfl, fun s h => absurd h (by omega)⟩
  | n + 1, hn => by
    obtain ⟨ih1, ih2⟩ := bk_row A n (by omega)
    have e30 := ih1 30 (by omega)
    refine ⟨fun j hj => ?_, fun s h => ?_⟩
    · rw [itL]; unfold bkF vf_upd
      rw [if_neg (by omega), if_neg (by omega), if_neg (by omega), if_neg (by omega), if_neg (by omega)]; exact ih1 j hj
    · rw [itL]
      show upd (itL bkF A n 7) n (itL bkF A n 30 n) s = _ ∧ upd (itL bkF A n 8) n (itL bkF A n 30 (16 + n)) s = _ ∧ upd (itL bkF A n 9) n (itL bkF A n 30 (32 + n)) s = _ ∧ upd (itL bkF A n 10) n (itL bkF A n 30 (48 + n)) s = _ ∧ upd (itL bkF A n 11) n (itL bkF A n 30 (64 + n)) s = _
      rw [e30]
      unfold upd
      by_cases e : s = n
      · subst e; simp only [if_pos]; exact ⟨trivial, trivial, trivial, trivial, trivial⟩
      · simp only [if_neg e]; exact ih2 s (by omega)
section
variable {G : GT} {I : Nat → Int32} {A : Nat → Nat → Int32} {N : Nat → Int32} {R : Nat → Nat → Int32} {K : Nat → Nat → Option Nat} {r : Nat → Nat} {tl : va_W}
theorem XRel.image (hx : XRel G I A N R K r tl) : XRel G (imI I) (imA A) (upd (upd (upd (upd N 6 (N 2)) 7 (N 3)) 8 (N 4)) 5 1) (vf_upd (vf_upd (vf_upd R 4 (cpI (R 1) (R 4) 16)) 5 (cpI (R 2) (R 5) 16)) 6 (cpI (R 3) (R 6) 25)) (vf_upd K 1 (cpK (K 0) (K 1) 16)) (va_up r 1 (r 0)) tl := by
  obtain ⟨m, h1, ⟨t1, t2, t3, t4, t5⟩, h3, h4, h5, h6⟩ := hx
  have e1 : imA A 1 = A 1 := rfl
  refine ⟨m, ?_, ⟨t1, t2, t3, t4, fun t ht => ?_⟩, h3, h4, Or.inr ⟨by show ¬ (1 : Int32) = 0; decide, by show ¬ (1 : Int32) = 0; decide, ?_, h3⟩, ?_⟩
  · exact h1.cong rfl rfl rfl (fun _ _ => ⟨rfl, rfl, rfl, rfl, rfl⟩)
  · obtain ⟨a, cd, g1, g2, g3⟩ := t5 t ht
    exact ⟨a, cd, g1, g2.cong rfl (fun _ _ => rfl) (fun _ _ h => h), g3⟩
  · exact h1.cp.cong rfl rfl rfl (fun s hs => im_kp A hs)
  · intro j hj
    have := h6 j hj
    rcases (show j = 0 ∨ j = 1 ∨ j = 2 ∨ j = 3 by omega) with rfl | rfl | rfl | rfl <;> exact this
theorem XRel.back (hx : XRel G I A N R K r tl) (h31 : ¬ I 31 = 0) : XRel G (bkI I) (itL bkF A 16) (upd (upd (upd N 2 (N 6)) 3 (N 7)) 4 (N 8)) (vf_upd (vf_upd (vf_upd R 1 (cpI (R 4) (R 1) 16)) 2 (cpI (R 5) (R 2) 16)) 3 (cpI (R 6) (R 3) 25)) (vf_upd K 0 (cpK (K 1) (K 0) 16)) (va_up r 0 (r 1)) tl := by
  obtain ⟨m, h1, ⟨t1, t2, t3, t4, t5⟩, h3, ⟨k, k1, k2, k3, k4⟩, h5, h6⟩ := hx
  obtain ⟨b1, b2⟩ := bk_row A 16 (Nat.le_refl _)
  rcases h5 with g | ⟨g1, g2, g3, g4⟩
  · exact absurd g.1 h31
  · refine ⟨m, ?_, ⟨t1, t2, t3, t4, fun t ht => ?_⟩, g4, ⟨k, k1, k2, k3, by rw [b1 5 (by omega)]; exact k4⟩, Or.inr ⟨g1, g2, ?_, g4⟩, ?_⟩
    · exact g3.cp.cong rfl rfl rfl (fun s hs => b2 s hs)
    · obtain ⟨a, cd, e1, e2, e3⟩ := t5 t ht
      have eb : bM (itL bkF A 16) t = bM A t := by funext i; unfold bM; rw [b1 1 (by omega)]
      exact ⟨a, cd, e1, e2.cong (by rw [b1 2 (by omega)]) (fun i _ => by rw [eb]) (fun n _ hP => by rw [eb]; exact hP), e3⟩
    · have ek : kpA (itL bkF A 16) = kpA A := by funext j s; unfold kpA; rw [b1 30 (by omega)]
      rw [ek]; exact g3.cong rfl rfl rfl (fun _ _ => ⟨rfl, rfl, rfl, rfl, rfl⟩)
    · intro j hj
      have := h6 j hj
      rw [b1 36 (by omega), b1 37 (by omega), b1 38 (by omega), b1 39 (by omega)]
      rcases (show j = 0 ∨ j = 1 ∨ j = 2 ∨ j = 3 by omega) with rfl | rfl | rfl | rfl <;> exact this
theorem XRel.kp (hx : XRel G I A N R K r tl) (h31 : ¬ I 31 = 0) : NtR (bkI I) (kpA A) (N 6) (N 7) (N 8) (R 4) (R 5) (R 6) (K 1) tl := by
  obtain ⟨m, h1, h2, h3, h4, h5, h6⟩ := hx
  rcases h5 with g | ⟨g1, g2, g3, g4⟩
  · exact absurd g.1 h31
  · exact g3
theorem XRel.k5 (hx : XRel G I A N R K r tl) : N 5 = 0 ↔ I 31 = 0 := by
  obtain ⟨m, h1, h2, h3, h4, h5, h6⟩ := hx
  rcases h5 with g | g
  · exact ⟨fun _ => g.1, fun _ => g.2⟩
  · exact ⟨fun h => absurd h g.2.1, fun h => absurd h g.1⟩
end
set_option maxHeartbeats 4000000 in
set_option maxRecDepth 100000 in
theorem t_sizeK (G : GT) (x : Nat → Nat) (N : Nat → Int32) (R : Nat → Nat → Int32) (K : Nat → Nat → Option Nat) (r : Nat → Nat) (S : Nat → Int32) (T : Nat → Nat → Int32) (tl : va_W)  : Ct G mX4_size 1 0 0 [.ref (x 14)] (XW G x N R K r S T tl) (Pi (pcI (N 6)) (XW G x N R K r S T tl)) := by
  refine Ct.intro [(0, .ref (x 14))] (by decide) rfl (Nat.le_of_ble_eq_true rfl) ?_
  refine z_aload_n d_X4_size_0 0 rfl ?_
  refine z_get (v := .int (N 6)) (14) f_X4_48_4 rfl rfl d_X4_size_1 ?_
  refine z_callSp c_X4_51 (t_J6_bitCount_0f7a4 G (N 6) (XW G x N R K r S T tl)) rfl rfl (Nat.le_of_ble_eq_true rfl) rfl d_X4_size_4 ?_
  exact z_iret _ d_X4_size_7 rfl (Pi.of rfl)
set_option maxHeartbeats 4000000 in
set_option maxRecDepth 100000 in
theorem t_sizeN (G : GT) (x : Nat → Nat) (N : Nat → Int32) (R : Nat → Nat → Int32) (K : Nat → Nat → Option Nat) (r : Nat → Nat) (S : Nat → Int32) (T : Nat → Nat → Int32) (tl : va_W)  : Ct G mX4_size 1 0 0 [.ref (x 6)] (XW G x N R K r S T tl) (Pi (pcI (N 2)) (XW G x N R K r S T tl)) := by
  refine Ct.intro [(0, .ref (x 6))] (by decide) rfl (Nat.le_of_ble_eq_true rfl) ?_
  refine z_aload_n d_X4_size_0 0 rfl ?_
  refine z_get (v := .int (N 2)) (6) f_X4_48_4 rfl rfl d_X4_size_1 ?_
  refine z_callSp c_X4_51 (t_J6_bitCount_0f7a4 G (N 2) (XW G x N R K r S T tl)) rfl rfl (Nat.le_of_ble_eq_true rfl) rfl d_X4_size_4 ?_
  exact z_iret _ d_X4_size_7 rfl (Pi.of rfl)
set_option maxHeartbeats 4000000 in
set_option maxRecDepth 100000 in
theorem t_X11_image (G : GT) (x : Nat → Nat) (N : Nat → Int32) (R : Nat → Nat → Int32) (K : Nat → Nat → Option Nat) (r : Nat → Nat) (S : Nat → Int32) (T : Nat → Nat → Int32) (tl : va_W) (I : Nat → Int32) (A : Nat → Nat → Int32) (hx : XRel G I A N R K r tl)  : Ct G mX11_image 2 0 0 [.ref (x 0)] (XW G x N R K r S T tl) (XP G x (some (.int (pcI (I 12)))) (imI I) (imA A)) := by
  have h := hx.nt
  refine Ct.intro [(0, .ref (x 0))] (by decide) rfl (Nat.le_of_ble_eq_true rfl) ?_
  refine z_aload_n d_X11_image_0 0 rfl ?_
  refine z_get (v := .ref (x 14)) (0) f_X11_64_11 rfl rfl d_X11_image_1 ?_
  refine z_aload_n d_X11_image_4 0 rfl ?_
  refine z_get (v := .ref (x 6)) (0) f_X11_60_11 rfl rfl d_X11_image_5 ?_
  refine z_callVv 14 c_X11_236 (t_X4_becomes_KN G x N R K r S T tl I A h) rfl rfl rfl rfl (Nat.le_of_ble_eq_true rfl) rfl d_X11_image_8 ?_
  refine z_aload_n d_X11_image_11 0 rfl ?_
  refine z_iconst (v := 1) d_X11_image_12 (by decide) ?_
  refine z_put 0 (XW G x (upd (upd (upd (upd N 6 (N 2)) 7 (N 3)) 8 (N 4)) 5 1) (vf_upd (vf_upd (vf_upd R 4 (cpI (R 1) (R 4) 16)) 5 (cpI (R 2) (R 5) 16)) 6 (cpI (R 3) (R 6) 25)) (vf_upd K 1 (cpK (K 0) (K 1) 16)) (va_up r 1 (r 0)) S T tl) p_X11_240_11 rfl rfl rfl (Nat.le_of_ble_eq_true rfl) (xf_0_5 G x (upd (upd (upd N 6 (N 2)) 7 (N 3)) 8 (N 4)) (vf_upd (vf_upd (vf_upd R 4 (cpI (R 1) (R 4) 16)) 5 (cpI (R 2) (R 5) 16)) 6 (cpI (R 3) (R 6) 25)) (vf_upd K 1 (cpK (K 0) (K 1) 16)) (va_up r 1 (r 0)) S T tl _) d_X11_image_13 ?_
  refine z_aload_n d_X11_image_16 0 rfl ?_
  refine z_get (v := .ref (x 14)) (0) f_X11_64_11 rfl rfl d_X11_image_17 ?_
  refine z_callVp 14 c_X11_91 (t_sizeK G x (upd (upd (upd (upd N 6 (N 2)) 7 (N 3)) 8 (N 4)) 5 1) (vf_upd (vf_upd (vf_upd R 4 (cpI (R 1) (R 4) 16)) 5 (cpI (R 2) (R 5) 16)) 6 (cpI (R 3) (R 6) 25)) (vf_upd K 1 (cpK (K 0) (K 1) 16)) (va_up r 1 (r 0)) S T tl) rfl rfl rfl rfl (Nat.le_of_ble_eq_true rfl) rfl d_X11_image_20 ?_
  exact z_iret _ d_X11_image_23 rfl (XP.of (by rw [h.al]; rfl) hx.image)
set_option maxHeartbeats 4000000 in
set_option maxRecDepth 100000 in
theorem t_X11_back (G : GT) (x : Nat → Nat) (N : Nat → Int32) (R : Nat → Nat → Int32) (K : Nat → Nat → Option Nat) (r : Nat → Nat) (S : Nat → Int32) (T : Nat → Nat → Int32) (tl : va_W) (I : Nat → Int32) (A : Nat → Nat → Int32) (hx : XRel G I A N R K r tl)  : Ct G mX11_back 2 0 0 [.ref (x 0)] (XW G x N R K r S T tl) (XP G x (some (.int (bacR I))) (bacI I) (bacA I A)) := by
  have h := hx.nt
  refine Ct.intro [(0, .ref (x 0))] (by decide) rfl (Nat.le_of_ble_eq_true rfl) ?_
  refine z_aload_n d_X11_back_0 0 rfl ?_
  refine z_get (v := .int (N 5)) (0) f_X11_240_11 rfl rfl d_X11_back_1 ?_
  refine z_if_ne d_X11_back_4 (fun c_4 => ?_) (fun c_4 => ?_)
  · have hk5 : ¬ I 31 = 0 := fun hh => c_4 (hx.k5.mpr hh)
    refine z_aload_n d_X11_back_10 0 rfl ?_
    refine z_get (v := .ref (x 6)) (0) f_X11_60_11 rfl rfl d_X11_back_11 ?_
    refine z_aload_n d_X11_back_14 0 rfl ?_
    refine z_get (v := .ref (x 14)) (0) f_X11_64_11 rfl rfl d_X11_back_15 ?_
    refine z_callVv 6 c_X11_236 (t_X4_becomes_NK G x N R K r S T tl (bkI I) (kpA A) (hx.kp hk5)) rfl rfl rfl rfl (Nat.le_of_ble_eq_true rfl) rfl d_X11_back_18 ?_
    refine z_aload_n d_X11_back_21 0 rfl ?_
    refine z_get (v := .ref (x 6)) (0) f_X11_60_11 rfl rfl d_X11_back_22 ?_
    refine z_callVp 6 c_X11_91 (t_sizeN G x (upd (upd (upd N 2 (N 6)) 3 (N 7)) 4 (N 8)) (vf_upd (vf_upd (vf_upd R 1 (cpI (R 4) (R 1) 16)) 2 (cpI (R 5) (R 2) 16)) 3 (cpI (R 6) (R 3) 25)) (vf_upd K 0 (cpK (K 1) (K 0) 16)) (va_up r 0 (r 1)) S T tl) rfl rfl rfl rfl (Nat.le_of_ble_eq_true rfl) rfl d_X11_back_25 ?_
    exact z_iret _ d_X11_back_28 rfl (XP.of (by rw [bacR, if_neg hk5, (hx.kp hk5).al]; rfl) (by rw [bacI, bacA, if_neg hk5, if_neg hk5]; exact hx.back hk5))
  · refine z_bipush (v := -3) d_X11_back_7 (by decide) ?_
    exact z_iret _ d_X11_back_9 rfl (XP.of (by rw [bacR, if_pos (hx.k5.mp c_4)]) (by rw [bacI, bacA, if_pos (hx.k5.mp c_4), if_pos (hx.k5.mp c_4)]; exact hx))
