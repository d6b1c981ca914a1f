/-! THE PUBLIC METHODS of class X: what they tell -/
set_option maxHeartbeats 4000000 in
set_option maxRecDepth 100000 in
theorem t_X11_told (G : GT) (x : Nat → Nat) (N : Nat → Int32) (R : Nat → Nat → Int32) (K : Nat → Nat → Option Nat) (r : Nat → Nat) (S : Nat → Int32) (T : Nat → Nat → Int32) (tl : va_W) (I : Nat → Int32) (A : Nat → Nat → Int32) (hx : XRel G I A N R K r tl) (t : Nat) (cd : CD) (hOk : TxOk A t cd) (h4 : I 4 = nI t) (s : Int32) (what : Int32)  : Ct G mX11_told 6 0 0 [.ref (x 0), .int s, .int what] (XW G x N R K r S T tl) (XP G x (some (.int (toS cd I A s what))) I A) := by
  have h := hx.nt
  obtain ⟨num, hnum⟩ : ∃ num : Int32, num = nI t := ⟨_, rfl⟩
  have hT : TxR G cd num (r 0) tl := by rw [hnum]; exact hx.tx hOk h4
  refine Ct.intro [(0, .ref (x 0)), (1, .int s), (2, .int what)] (by decide) rfl (Nat.le_of_ble_eq_true rfl) ?_
  refine z_aload_n d_X11_told_0 0 rfl ?_
  refine z_get (v := .ref (x 6)) (0) f_X11_60_11 rfl rfl d_X11_told_1 ?_
  refine z_iload_n d_X11_told_4 1 rfl ?_
  refine z_callVp 6 c_X11_83 (t_X4_has G x N R K r S T tl I A h s ) rfl rfl rfl rfl (Nat.le_of_ble_eq_true rfl) rfl d_X11_told_5 ?_
  refine z_if_ne d_X11_told_8 (fun c_8 => ?_) (fun c_8 => ?_)
  · have his := b01_o c_8
    obtain ⟨k, hk, rfl, hb⟩ := isS_k his
    refine z_aload_n d_X11_told_14 0 rfl ?_
    refine z_get (v := .ref (x 6)) (0) f_X11_60_11 rfl rfl d_X11_told_15 ?_
    refine z_get (v := .ref (x 7)) (6) f_X11_100_4 rfl rfl d_X11_told_18 ?_
    refine z_iload_n d_X11_told_21 1 rfl ?_
    refine z_aldq (C0 := RX10) 7 3 k rfl rfl (nI_toInt (by omega)) (by omega) d_X11_told_22 ?_
    obtain ⟨a22, q22, ha22, hq22⟩ := h.k1 hk hb
    refine z_topv (show va_rf ((K 0) k) = .ref a22 from by rw [ha22]; rfl) ?_
    refine z_astore_n [(3, .ref a22), (0, .ref (x 0)), (1, .int (nI k)), (2, .int what)] d_X11_told_23 (by decide) rfl ?_
    refine z_aload_n d_X11_told_24 1 rfl ?_
    refine z_get (v := .ref (x 6)) (0) f_X11_60_11 rfl rfl d_X11_told_25 ?_
    refine z_iload_n d_X11_told_28 2 rfl ?_
    refine z_aload_n d_X11_told_29 1 rfl ?_
    refine z_get (v := .ref (x 6)) (0) f_X11_60_11 rfl rfl d_X11_told_30 ?_
    refine z_get (v := .int (N 3)) (6) f_X11_94_4 rfl rfl d_X11_told_33 ?_
    refine z_top h.ho ?_
    refine z_callVp 6 c_X11_104 (t_X4_ageOf G x N R K r S T tl I A h k (I 13) hk) rfl rfl rfl rfl (Nat.le_of_ble_eq_true rfl) rfl d_X11_told_36 ?_
    refine z_istore [(4, .int ((I 13) - A 10 k)), (3, .ref a22), (0, .ref (x 0)), (1, .int (nI k)), (2, .int what)] d_X11_told_39 (by decide) rfl ?_
    refine z_iload_n d_X11_told_41 4 rfl ?_
    by_cases s_42_0 : what.toInt = 0
    · refine z_swIn (tgt := 96) (off := 54) d_X11_told_42 s_42_0 (by decide) (by decide) (by decide) (by decide) ?_
      refine z_aload_n d_X11_told_96 1 rfl ?_
      refine z_vkind (q22 + 31) (h.kd hk hb) hq22 w_0613 (Nat.le_of_ble_eq_true rfl) rfl d_X11_told_97 ?_
      exact z_iret _ d_X11_told_100 rfl (XP.of (by rw [toS, if_pos his, nI_tn (by omega), toK]; rw [if_pos s_42_0]) hx)
    by_cases s_42_1 : what.toInt = 1
    · refine z_swIn (tgt := 101) (off := 59) d_X11_told_42 s_42_1 (by decide) (by decide) (by decide) (by decide) ?_
      refine z_aload_n d_X11_told_101 2 rfl ?_
      refine z_get (v := .ref (x 6)) (0) f_X11_60_11 rfl rfl d_X11_told_102 ?_
      refine z_get (v := .ref (x 8)) (6) f_X11_113_4 rfl rfl d_X11_told_105 ?_
      refine z_iload_n d_X11_told_108 3 rfl ?_
      refine z_ialdN (8) k rfl (nI_toInt (by omega)) (by omega) d_X11_told_109 ?_
      refine z_top (h.wh hk) ?_
      exact z_iret _ d_X11_told_110 rfl (XP.of (by rw [toS, if_pos his, nI_tn (by omega), toK]; rw [if_neg s_42_0]; rw [if_pos s_42_1]) hx)
    by_cases s_42_2 : what.toInt = 2
    · refine z_swIn (tgt := 111) (off := 69) d_X11_told_42 s_42_2 (by decide) (by decide) (by decide) (by decide) ?_
      refine z_iload d_X11_told_111 0 rfl ?_
      exact z_iret _ d_X11_told_113 rfl (XP.of (by rw [toS, if_pos his, nI_tn (by omega), toK]; rw [if_neg s_42_0]; rw [if_neg s_42_1]; rw [if_pos s_42_2]) hx)
    by_cases s_42_3 : what.toInt = 3
    · refine z_swIn (tgt := 114) (off := 72) d_X11_told_42 s_42_3 (by decide) (by decide) (by decide) (by decide) ?_
      refine z_aload_n d_X11_told_114 1 rfl ?_
      refine z_iload d_X11_told_115 0 rfl ?_
      refine z_vknot (q22 + 31) (h.kd hk hb) hq22 w_0633 (Nat.le_of_ble_eq_true rfl) rfl d_X11_told_117 ?_
      refine z_iconst (v := 0) d_X11_told_120 (by decide) ?_
      refine z_mmax c_X11_121 (Nat.le_of_ble_eq_true rfl) rfl d_X11_told_121 ?_
      exact z_iret _ d_X11_told_124 rfl (XP.of (by rw [toS, if_pos his, nI_tn (by omega), toK]; rw [if_neg s_42_0]; rw [if_neg s_42_1]; rw [if_neg s_42_2]; rw [if_pos s_42_3]; rfl) hx)
    by_cases s_42_4 : what.toInt = 4
    · refine z_swIn (tgt := 125) (off := 83) d_X11_told_42 s_42_4 (by decide) (by decide) (by decide) (by decide) ?_
      refine z_aload_n d_X11_told_125 1 rfl ?_
      refine z_iload d_X11_told_126 0 rfl ?_
      refine z_vslips (q22 + 31) (h.kd hk hb) hq22 w_0659 (Nat.le_of_ble_eq_true rfl) rfl d_X11_told_128 ?_
      refine z_if_eq d_X11_told_131 (fun c_131 => ?_) (fun c_131 => ?_)
      · refine z_iconst (v := 0) d_X11_told_138 (by decide) ?_
        exact z_iret _ d_X11_told_139 rfl (XP.of (by rw [toS, if_pos his, nI_tn (by omega), toK]; rw [if_neg s_42_0]; rw [if_neg s_42_1]; rw [if_neg s_42_2]; rw [if_neg s_42_3]; rw [if_pos s_42_4]; exact (b01_0.mpr (b01_z c_131)).symm) hx)
      · refine z_iconst (v := 1) d_X11_told_134 (by decide) ?_
        refine z_goto d_X11_told_135 ?_
        exact z_iret _ d_X11_told_139 rfl (XP.of (by rw [toS, if_pos his, nI_tn (by omega), toK]; rw [if_neg s_42_0]; rw [if_neg s_42_1]; rw [if_neg s_42_2]; rw [if_neg s_42_3]; rw [if_pos s_42_4]; exact (b01_1.mpr (b01_o c_131)).symm) hx)
    by_cases s_42_5 : what.toInt = 5
    · refine z_swIn (tgt := 140) (off := 98) d_X11_told_42 s_42_5 (by decide) (by decide) (by decide) (by decide) ?_
      refine z_aload_n d_X11_told_140 1 rfl ?_
      refine z_vties (q22 + 31) (h.kd hk hb) hq22 w_0673 (Nat.le_of_ble_eq_true rfl) rfl d_X11_told_141 ?_
      exact z_iret _ d_X11_told_144 rfl (XP.of (by rw [toS, if_pos his, nI_tn (by omega), toK]; rw [if_neg s_42_0]; rw [if_neg s_42_1]; rw [if_neg s_42_2]; rw [if_neg s_42_3]; rw [if_neg s_42_4]; rw [if_pos s_42_5]; rfl) hx)
    by_cases s_42_6 : what.toInt = 6
    · refine z_swIn (tgt := 145) (off := 103) d_X11_told_42 s_42_6 (by decide) (by decide) (by decide) (by decide) ?_
      refine z_aload_n d_X11_told_145 2 rfl ?_
      refine z_get (v := .ref (x 6)) (0) f_X11_60_11 rfl rfl d_X11_told_146 ?_
      refine z_iload_n d_X11_told_149 3 rfl ?_
      refine z_aload_n d_X11_told_150 2 rfl ?_
      refine z_get (v := .ref (x 6)) (0) f_X11_60_11 rfl rfl d_X11_told_151 ?_
      refine z_get (v := .int (N 2)) (6) f_X11_132_4 rfl rfl d_X11_told_154 ?_
      refine z_top h.al ?_
      refine z_callVp 6 c_X11_135 (t_X4_crosses G x N R K r S T tl I A h k (I 12) hk hb (Sb.rf _)) rfl rfl rfl rfl (Nat.le_of_ble_eq_true rfl) rfl d_X11_told_157 ?_
      exact z_iret _ d_X11_told_160 rfl (XP.of (by rw [toS, if_pos his, nI_tn (by omega), toK]; rw [if_neg s_42_0]; rw [if_neg s_42_1]; rw [if_neg s_42_2]; rw [if_neg s_42_3]; rw [if_neg s_42_4]; rw [if_neg s_42_5]; rw [if_pos s_42_6]) hx)
    by_cases s_42_7 : what.toInt = 7
    · refine z_swIn (tgt := 161) (off := 119) d_X11_told_42 s_42_7 (by decide) (by decide) (by decide) (by decide) ?_
      refine z_aload_n d_X11_told_161 2 rfl ?_
      refine z_get (v := .ref (x 6)) (0) f_X11_60_11 rfl rfl d_X11_told_162 ?_
      refine z_iload_n d_X11_told_165 3 rfl ?_
      refine z_aload_n d_X11_told_166 2 rfl ?_
      refine z_get (v := .ref (x 6)) (0) f_X11_60_11 rfl rfl d_X11_told_167 ?_
      refine z_get (v := .int (N 2)) (6) f_X11_132_4 rfl rfl d_X11_told_170 ?_
      refine z_top h.al ?_
      refine z_callVp 6 c_X11_138 (t_X4_rubs G x N R K r S T tl I A h k (I 12) hk hb (Sb.rf _)) rfl rfl rfl rfl (Nat.le_of_ble_eq_true rfl) rfl d_X11_told_173 ?_
      exact z_iret _ d_X11_told_176 rfl (XP.of (by rw [toS, if_pos his, nI_tn (by omega), toK]; rw [if_neg s_42_0]; rw [if_neg s_42_1]; rw [if_neg s_42_2]; rw [if_neg s_42_3]; rw [if_neg s_42_4]; rw [if_neg s_42_5]; rw [if_neg s_42_6]; rw [if_pos s_42_7]) hx)
    by_cases s_42_8 : what.toInt = 8
    · refine z_swIn (tgt := 177) (off := 135) d_X11_told_42 s_42_8 (by decide) (by decide) (by decide) (by decide) ?_
      refine z_aload_n d_X11_told_177 2 rfl ?_
      refine z_get (v := .ref (x 6)) (0) f_X11_60_11 rfl rfl d_X11_told_178 ?_
      refine z_iload_n d_X11_told_181 3 rfl ?_
      refine z_aload_n d_X11_told_182 2 rfl ?_
      refine z_get (v := .ref (x 6)) (0) f_X11_60_11 rfl rfl d_X11_told_183 ?_
      refine z_get (v := .int (N 2)) (6) f_X11_132_4 rfl rfl d_X11_told_186 ?_
      refine z_top h.al ?_
      refine z_aload_n d_X11_told_189 2 rfl ?_
      refine z_get (v := .ref (x 6)) (0) f_X11_60_11 rfl rfl d_X11_told_190 ?_
      refine z_get (v := .int (N 3)) (6) f_X11_94_4 rfl rfl d_X11_told_193 ?_
      refine z_top h.ho ?_
      refine z_callV 6 c_X11_141 rfl rfl (t_X4_hold G x N R K r S T tl I A h cd num hT k (I 12) (I 13) hk hb (Sb.rf _)) rfl rfl (Nat.le_of_ble_eq_true rfl) rfl d_X11_told_196 ?_
      rintro v196 w196 ⟨rfl, T196, rfl⟩
      exact z_iret _ d_X11_told_199 rfl (XP.of (by rw [toS, if_pos his, nI_tn (by omega), toK]; rw [if_neg s_42_0]; rw [if_neg s_42_1]; rw [if_neg s_42_2]; rw [if_neg s_42_3]; rw [if_neg s_42_4]; rw [if_neg s_42_5]; rw [if_neg s_42_6]; rw [if_neg s_42_7]; rw [if_pos s_42_8]; rw [upd_self]) hx)
    by_cases s_42_9 : what.toInt = 9
    · refine z_swIn (tgt := 200) (off := 158) d_X11_told_42 s_42_9 (by decide) (by decide) (by decide) (by decide) ?_
      refine z_aload_n d_X11_told_200 2 rfl ?_
      refine z_get (v := .ref (x 6)) (0) f_X11_60_11 rfl rfl d_X11_told_201 ?_
      refine z_iload_n d_X11_told_204 3 rfl ?_
      refine z_aload_n d_X11_told_205 2 rfl ?_
      refine z_get (v := .ref (x 6)) (0) f_X11_60_11 rfl rfl d_X11_told_206 ?_
      refine z_get (v := .int (N 3)) (6) f_X11_94_4 rfl rfl d_X11_told_209 ?_
      refine z_top h.ho ?_
      refine z_callVp 6 c_X11_145 (t_X4_isGreen G x N R K r S T tl I A h k (I 13) hk) rfl rfl rfl rfl (Nat.le_of_ble_eq_true rfl) rfl d_X11_told_212 ?_
      refine z_if_eq d_X11_told_215 (fun c_215 => ?_) (fun c_215 => ?_)
      · refine z_iconst (v := 0) d_X11_told_222 (by decide) ?_
        exact z_iret _ d_X11_told_223 rfl (XP.of (by rw [toS, if_pos his, nI_tn (by omega), toK]; rw [if_neg s_42_0]; rw [if_neg s_42_1]; rw [if_neg s_42_2]; rw [if_neg s_42_3]; rw [if_neg s_42_4]; rw [if_neg s_42_5]; rw [if_neg s_42_6]; rw [if_neg s_42_7]; rw [if_neg s_42_8]; rw [if_pos s_42_9]; exact (b01_0.mpr (b01_z c_215)).symm) hx)
      · refine z_iconst (v := 1) d_X11_told_218 (by decide) ?_
        refine z_goto d_X11_told_219 ?_
        exact z_iret _ d_X11_told_223 rfl (XP.of (by rw [toS, if_pos his, nI_tn (by omega), toK]; rw [if_neg s_42_0]; rw [if_neg s_42_1]; rw [if_neg s_42_2]; rw [if_neg s_42_3]; rw [if_neg s_42_4]; rw [if_neg s_42_5]; rw [if_neg s_42_6]; rw [if_neg s_42_7]; rw [if_neg s_42_8]; rw [if_pos s_42_9]; exact (b01_1.mpr (b01_o c_215)).symm) hx)
    refine z_swOut (tgt := 224) d_X11_told_42 (by omega) (by decide) ?_
    refine z_bipush (v := -5) d_X11_told_224 (by decide) ?_
    exact z_iret _ d_X11_told_226 rfl (XP.of (by rw [toS, if_pos his, nI_tn (by omega), toK]; rw [if_neg s_42_0]; rw [if_neg s_42_1]; rw [if_neg s_42_2]; rw [if_neg s_42_3]; rw [if_neg s_42_4]; rw [if_neg s_42_5]; rw [if_neg s_42_6]; rw [if_neg s_42_7]; rw [if_neg s_42_8]; rw [if_neg s_42_9]) hx)
  · refine z_bipush (v := -5) d_X11_told_11 (by decide) ?_
    exact z_iret _ d_X11_told_13 rfl (XP.of (by rw [toS, if_neg (by rw [b01_z c_8]; decide)]) hx)
set_option maxHeartbeats 4000000 in
set_option maxRecDepth 100000 in
theorem t_X11_least (G : GT) (x : Nat → Nat) (N : Nat → Int32) (R : Nat → Nat → Int32) (K : Nat → Nat → Option Nat) (r : Nat → Nat) (S : Nat → Int32) (T : Nat → Nat → Int32) (tl : va_W) (I : Nat → Int32) (A : Nat → Nat → Int32) (hx : XRel G I A N R K r tl) (t : Nat) (cd : CD) (hOk : TxOk A t cd) (h4 : I 4 = nI t) (c : Int32) (what : Int32)  : Ct G mX11_least 8 0 0 [.ref (x 0), .int c, .int what] (XW G x N R K r S T tl) (XP G x (some (.int (leaS cd I A c what))) I A) := by
  have h := hx.nt
  obtain ⟨num, hnum⟩ : ∃ num : Int32, num = nI t := ⟨_, rfl⟩
  have hT : TxR G cd num (r 0) tl := by rw [hnum]; exact hx.tx hOk h4
  refine Ct.intro [(0, .ref (x 0)), (1, .int c), (2, .int what)] (by decide) rfl (Nat.le_of_ble_eq_true rfl) ?_
  refine z_iload_n d_X11_least_0 1 rfl ?_
  refine z_callSp c_X11_149 (t_X11_isCrossing G c (XW G x N R K r S T tl)) rfl rfl (Nat.le_of_ble_eq_true rfl) rfl d_X11_least_1 ?_
  refine z_if_eq d_X11_least_4 (fun c_4 => ?_) (fun c_4 => ?_)
  · refine z_bipush (v := -2) d_X11_least_16 (by decide) ?_
    exact z_iret _ d_X11_least_18 rfl (XP.of (by rw [leaS, if_neg (by rw [Bool.and_eq_true]; rintro ⟨g1, g2⟩; rw [b01_z c_4] at g1; exact absurd g1 (by decide))]) hx)
  · refine z_iload_n d_X11_least_7 2 rfl ?_
    refine z_if_lt d_X11_least_8 (fun c_8 => ?_) (fun c_8 => ?_)
    · refine z_bipush (v := -2) d_X11_least_16 (by decide) ?_
      exact z_iret _ d_X11_least_18 rfl (XP.of (by rw [leaS, if_neg (by rw [Bool.and_eq_true]; rintro ⟨g1, g2⟩; rw [inB_iff] at g2; simp only [lt_i, i_0, i_1] at c_8; omega)]) hx)
    · refine z_iload_n d_X11_least_11 2 rfl ?_
      refine z_iconst (v := 1) d_X11_least_12 (by decide) ?_
      refine z_icmp_le d_X11_least_13 (fun c_13 => ?_) (fun c_13 => ?_)
      · have hoc := b01_o c_4
        obtain ⟨k, hk, rfl⟩ : ∃ k : Nat, k < 25 ∧ c = nI k := okC_nI (b01_o c_4)
        refine z_aload_n d_X11_least_19 0 rfl ?_
        refine z_get (v := .ref (x 6)) (0) f_X11_60_11 rfl rfl d_X11_least_20 ?_
        refine z_get (v := .ref (x 10)) (6) f_X11_152_4 rfl rfl d_X11_least_23 ?_
        refine z_iload_n d_X11_least_26 1 rfl ?_
        refine z_ialdN (10) k rfl (nI_i (by omega)) (by omega) d_X11_least_27 ?_
        refine z_top (h.ly hk) ?_
        refine z_istore_n [(3, .int (atS A (nI k) (I 12))), (0, .ref (x 0)), (1, .int (nI k)), (2, .int what)] d_X11_least_28 (by decide) rfl ?_
        refine z_iload_n d_X11_least_29 0 rfl ?_
        refine z_if_ne d_X11_least_30 (fun c_30 => ?_) (fun c_30 => ?_)
        · refine z_iload_n d_X11_least_35 3 rfl ?_
          refine z_if_ne d_X11_least_36 (fun c_36 => ?_) (fun c_36 => ?_)
          · refine z_aload_n d_X11_least_50 1 rfl ?_
            refine z_get (v := .ref (x 6)) (0) f_X11_60_11 rfl rfl d_X11_least_51 ?_
            refine z_aload_n d_X11_least_54 1 rfl ?_
            refine z_get (v := .ref (x 6)) (0) f_X11_60_11 rfl rfl d_X11_least_55 ?_
            refine z_get (v := .int (N 2)) (6) f_X11_132_4 rfl rfl d_X11_least_58 ?_
            refine z_top h.al ?_
            refine z_iload_n d_X11_least_61 0 rfl ?_
            refine z_iconst (v := -1) d_X11_least_62 (by decide) ?_
            refine z_ixor d_X11_least_63 ?_
            refine z_iand d_X11_least_64 ?_
            refine z_callVp 6 c_X11_182 (t_X4_hanging G x N R K r S T tl I A h ((I 12) &&& ((atS A (nI k) (I 12)) ^^^ (-1))) (Sb.rf _).and) rfl rfl rfl rfl (Nat.le_of_ble_eq_true rfl) rfl d_X11_least_65 ?_
            refine z_callSp c_X11_185 (t_J6_bitCount_0f7a4 G (hgM A ((I 12) &&& ((atS A (nI k) (I 12)) ^^^ (-1)))) (XW G x N R K r S T tl)) rfl rfl (Nat.le_of_ble_eq_true rfl) rfl d_X11_least_68 ?_
            exact z_iret _ d_X11_least_71 rfl (XP.of (by rw [leaS, if_pos (by rw [Bool.and_eq_true]; refine ⟨hoc, ?_⟩; rw [inB_iff]; simp only [lt_i, i_0, i_1] at c_8 c_13; omega)]; rw [if_neg c_30, ltE]; rw [if_neg c_36, lv_hg, ltR_1 33 _ _ _ (atS_16 _ _ _) (by have := pcn_16 (atS_16 A (nI k) (I 12)); omega)]) hx)
          · refine z_aload_n d_X11_least_39 1 rfl ?_
            refine z_get (v := .ref (x 6)) (0) f_X11_60_11 rfl rfl d_X11_least_40 ?_
            refine z_iload_n d_X11_least_43 2 rfl ?_
            refine z_callV 6 c_X11_179 rfl rfl (t_X4_leastPull G x N R K r S T tl I A h cd num hT k hk) rfl rfl (Nat.le_of_ble_eq_true rfl) rfl d_X11_least_44 ?_
            rintro v44 w44 ⟨rfl, T44, rfl⟩
            refine z_goto d_X11_least_47 ?_
            exact z_iret _ d_X11_least_71 rfl (XP.of (by rw [leaS, if_pos (by rw [Bool.and_eq_true]; refine ⟨hoc, ?_⟩; rw [inB_iff]; simp only [lt_i, i_0, i_1] at c_8 c_13; omega)]; rw [if_neg c_30, ltE]; rw [if_pos c_36]) hx)
        · refine z_iconst (v := -1) d_X11_least_33 (by decide) ?_
          exact z_iret _ d_X11_least_34 rfl (XP.of (by rw [leaS, if_pos (by rw [Bool.and_eq_true]; refine ⟨hoc, ?_⟩; rw [inB_iff]; simp only [lt_i, i_0, i_1] at c_8 c_13; omega)]; rw [if_pos c_30]) hx)
      · refine z_bipush (v := -2) d_X11_least_16 (by decide) ?_
        exact z_iret _ d_X11_least_18 rfl (XP.of (by rw [leaS, if_neg (by rw [Bool.and_eq_true]; rintro ⟨g1, g2⟩; rw [inB_iff] at g2; simp only [lt_i, i_0, i_1] at c_8 c_13; omega)]) hx)
set_option maxHeartbeats 4000000 in
set_option maxRecDepth 100000 in
theorem t_X11_good (G : GT) (x : Nat → Nat) (N : Nat → Int32) (R : Nat → Nat → Int32) (K : Nat → Nat → Option Nat) (r : Nat → Nat) (S : Nat → Int32) (T : Nat → Nat → Int32) (tl : va_W) (I : Nat → Int32) (A : Nat → Nat → Int32) (hx : XRel G I A N R K r tl) (t : Nat) (cd : CD) (hOk : TxOk A t cd) (h4 : I 4 = nI t) (wh : Int32)  : Ct G mX11_good 4 0 0 [.ref (x 0), .int wh] (XW G x N R K r S T tl) (XP G x (some (.long (godR cd I A wh))) I A) := by
  have h := hx.nt
  obtain ⟨num, hnum⟩ : ∃ num : Int32, num = nI t := ⟨_, rfl⟩
  have hT : TxR G cd num (r 0) tl := by rw [hnum]; exact hx.tx hOk h4
  refine Ct.intro [(0, .ref (x 0)), (1, .int wh)] (by decide) rfl (Nat.le_of_ble_eq_true rfl) ?_
  refine z_iload_n d_X11_good_0 1 rfl ?_
  refine z_callSp c_X11_190 (t_X11_fits G wh (XW G x N R K r S T tl)) rfl rfl (Nat.le_of_ble_eq_true rfl) rfl d_X11_good_1 ?_
  refine z_if_eq d_X11_good_4 (fun c_4 => ?_) (fun c_4 => ?_)
  · refine z_ldc2 d_X11_good_19 w_0821 ?_
    exact z_lret _ d_X11_good_22 rfl (XP.ofl (by rw [godR, if_neg (by rw [b01_z c_4]; decide)]) hx)
  · have hok := b01_o c_4
    refine z_aload_n d_X11_good_7 0 rfl ?_
    refine z_get (v := .ref (x 6)) (0) f_X11_60_11 rfl rfl d_X11_good_8 ?_
    refine z_iload_n d_X11_good_11 1 rfl ?_
    refine z_callV 6 c_X11_193 rfl rfl (t_X4_worthNext G x N R K r S T tl I A h cd num hT wh hok) rfl rfl (Nat.le_of_ble_eq_true rfl) rfl d_X11_good_12 ?_
    rintro v12 w12 ⟨rfl, T12, rfl⟩
    refine z_i2l d_X11_good_15 ?_
    refine z_goto d_X11_good_16 ?_
    exact z_lret _ d_X11_good_22 rfl (XP.ofl (by rw [godR, if_pos hok]) hx)
set_option maxHeartbeats 4000000 in
set_option maxRecDepth 100000 in
theorem t_X11_next (G : GT) (x : Nat → Nat) (N : Nat → Int32) (R : Nat → Nat → Int32) (K : Nat → Nat → Option Nat) (r : Nat → Nat) (S : Nat → Int32) (T : Nat → Nat → Int32) (tl : va_W) (I : Nat → Int32) (A : Nat → Nat → Int32) (hx : XRel G I A N R K r tl) (t : Nat) (cd : CD) (hOk : TxOk A t cd) (h4 : I 4 = nI t) (many : Int32)  : Ct G mX11_next 5 0 0 [.ref (x 0), .int many] (XW G x N R K r S T tl) (XP G x (some (.int (nexR cd I A many))) I A) := by
  have h := hx.nt
  obtain ⟨num, hnum⟩ : ∃ num : Int32, num = nI t := ⟨_, rfl⟩
  have hT : TxR G cd num (r 0) tl := by rw [hnum]; exact hx.tx hOk h4
  refine Ct.intro [(0, .ref (x 0)), (1, .int many)] (by decide) rfl (Nat.le_of_ble_eq_true rfl) ?_
  refine z_iload_n d_X11_next_0 1 rfl ?_
  refine z_callSp c_X11_198 (t_X11_isLong G many (XW G x N R K r S T tl)) rfl rfl (Nat.le_of_ble_eq_true rfl) rfl d_X11_next_1 ?_
  refine z_if_eq d_X11_next_4 (fun c_4 => ?_) (fun c_4 => ?_)
  · refine z_bipush (v := -2) d_X11_next_21 (by decide) ?_
    exact z_iret _ d_X11_next_23 rfl (XP.of (by rw [nexR, if_neg (by rw [b01_z c_4]; decide)]) hx)
  · refine z_aload_n d_X11_next_7 0 rfl ?_
    refine z_get (v := .ref (x 6)) (0) f_X11_60_11 rfl rfl d_X11_next_8 ?_
    refine z_iload_n d_X11_next_11 1 rfl ?_
    refine z_callV 6 c_X11_201 rfl rfl (t_X4_nextOf G x N R K r S T tl I A h cd num hT many) rfl rfl (Nat.le_of_ble_eq_true rfl) rfl d_X11_next_12 ?_
    rintro v12 w12 ⟨rfl, S12, T12, rfl, hch⟩
    refine z_get (v := .int (S12 6)) (13) f_X11_205_0 rfl rfl d_X11_next_15 ?_
    refine z_goto d_X11_next_18 ?_
    exact z_iret _ d_X11_next_23 rfl (XP.of (by rw [nexR, if_pos (b01_o c_4), hch.1]) hx)
set_option maxHeartbeats 4000000 in
set_option maxRecDepth 100000 in
theorem t_X11_closes (G : GT) (x : Nat → Nat) (N : Nat → Int32) (R : Nat → Nat → Int32) (K : Nat → Nat → Option Nat) (r : Nat → Nat) (S : Nat → Int32) (T : Nat → Nat → Int32) (tl : va_W) (I : Nat → Int32) (A : Nat → Nat → Int32) (hx : XRel G I A N R K r tl) (many : Int32) (what : Int32)  : Ct G mX11_closes 5 0 0 [.ref (x 0), .int many, .int what] (XW G x N R K r S T tl) (XP G x (some (.int (clR I A many what))) I A) := by
  have h := hx.nt
  refine Ct.intro [(0, .ref (x 0)), (1, .int many), (2, .int what)] (by decide) rfl (Nat.le_of_ble_eq_true rfl) ?_
  refine z_iload_n d_X11_closes_0 1 rfl ?_
  refine z_callSp c_X11_198 (t_X11_isLong G many (XW G x N R K r S T tl)) rfl rfl (Nat.le_of_ble_eq_true rfl) rfl d_X11_closes_1 ?_
  refine z_if_eq d_X11_closes_4 (fun c_4 => ?_) (fun c_4 => ?_)
  · refine z_bipush (v := -2) d_X11_closes_16 (by decide) ?_
    exact z_iret _ d_X11_closes_18 rfl (XP.of (by rw [clR, if_neg (by rw [Bool.and_eq_true]; rintro ⟨g1, g2⟩; rw [b01_z c_4] at g1; exact absurd g1 (by decide))]) hx)
  · refine z_iload_n d_X11_closes_7 2 rfl ?_
    refine z_if_lt d_X11_closes_8 (fun c_8 => ?_) (fun c_8 => ?_)
    · refine z_bipush (v := -2) d_X11_closes_16 (by decide) ?_
      exact z_iret _ d_X11_closes_18 rfl (XP.of (by rw [clR, if_neg (by rw [Bool.and_eq_true]; rintro ⟨g1, g2⟩; rw [inB_iff] at g2; simp only [lt_i, i_0, i_1] at c_8; omega)]) hx)
    · refine z_iload_n d_X11_closes_11 2 rfl ?_
      refine z_iconst (v := 1) d_X11_closes_12 (by decide) ?_
      refine z_icmp_le d_X11_closes_13 (fun c_13 => ?_) (fun c_13 => ?_)
      · refine z_aload_n d_X11_closes_19 0 rfl ?_
        refine z_get (v := .ref (x 6)) (0) f_X11_60_11 rfl rfl d_X11_closes_20 ?_
        refine z_callVp 6 c_X11_226 (t_X4_holeBits G x N R K r S T tl I A h  ) rfl rfl rfl rfl (Nat.le_of_ble_eq_true rfl) rfl d_X11_closes_23 ?_
        refine z_istore_n [(3, .int (hlS I A)), (0, .ref (x 0)), (1, .int many), (2, .int what)] d_X11_closes_26 (by decide) rfl ?_
        refine z_iload_n d_X11_closes_27 0 rfl ?_
        refine z_if_ne d_X11_closes_28 (fun c_28 => ?_) (fun c_28 => ?_)
        · refine z_aload_n d_X11_closes_33 1 rfl ?_
          refine z_get (v := .ref (x 6)) (0) f_X11_60_11 rfl rfl d_X11_closes_34 ?_
          refine z_iload_n d_X11_closes_37 0 rfl ?_
          refine z_iload_n d_X11_closes_38 2 rfl ?_
          refine z_callV 6 c_X11_229 rfl rfl (t_X4_closingOf G x N R K r S T tl (hlS I A) many) rfl rfl (Nat.le_of_ble_eq_true rfl) rfl d_X11_closes_39 ?_
          rintro v39 w39 ⟨rfl, S39, T39, rfl, hch⟩
          refine z_astore [(4, .ref (x 13)), (3, .int (hlS I A)), (0, .ref (x 0)), (1, .int many), (2, .int what)] d_X11_closes_42 (by decide) rfl ?_
          refine z_iload_n d_X11_closes_44 4 rfl ?_
          refine z_if_ne d_X11_closes_45 (fun c_45 => ?_) (fun c_45 => ?_)
          · refine z_aload d_X11_closes_56 0 rfl ?_
            refine z_get (v := .int (S39 7)) (13) f_X11_217_0 rfl rfl d_X11_closes_58 ?_
            exact z_iret _ d_X11_closes_61 rfl (XP.of (by rw [clR, if_pos (by rw [Bool.and_eq_true]; refine ⟨b01_o c_4, ?_⟩; rw [inB_iff]; simp only [lt_i, i_0, i_1] at c_8 c_13; omega)]; rw [if_neg c_28, sel2]; rw [if_neg c_45, hch.2 (bs_ne (b01_o c_4) 50 (by decide))]) hx)
          · refine z_aload d_X11_closes_48 0 rfl ?_
            refine z_get (v := .int (S39 6)) (13) f_X11_205_0 rfl rfl d_X11_closes_50 ?_
            refine z_goto d_X11_closes_53 ?_
            exact z_iret _ d_X11_closes_61 rfl (XP.of (by rw [clR, if_pos (by rw [Bool.and_eq_true]; refine ⟨b01_o c_4, ?_⟩; rw [inB_iff]; simp only [lt_i, i_0, i_1] at c_8 c_13; omega)]; rw [if_neg c_28, sel2]; rw [if_pos c_45, hch.1]) hx)
        · refine z_iconst (v := -1) d_X11_closes_31 (by decide) ?_
          exact z_iret _ d_X11_closes_32 rfl (XP.of (by rw [clR, if_pos (by rw [Bool.and_eq_true]; refine ⟨b01_o c_4, ?_⟩; rw [inB_iff]; simp only [lt_i, i_0, i_1] at c_8 c_13; omega)]; rw [if_pos c_28]) hx)
      · refine z_bipush (v := -2) d_X11_closes_16 (by decide) ?_
        exact z_iret _ d_X11_closes_18 rfl (XP.of (by rw [clR, if_neg (by rw [Bool.and_eq_true]; rintro ⟨g1, g2⟩; rw [inB_iff] at g2; simp only [lt_i, i_0, i_1] at c_8 c_13; omega)]) hx)
set_option maxHeartbeats 4000000 in
set_option maxRecDepth 100000 in
theorem t_X11_brown (G : GT) (x : Nat → Nat) (N : Nat → Int32) (R : Nat → Nat → Int32) (K : Nat → Nat → Option Nat) (r : Nat → Nat) (S : Nat → Int32) (T : Nat → Nat → Int32) (tl : va_W) (I : Nat → Int32) (A : Nat → Nat → Int32) (hx : XRel G I A N R K r tl) (la : Int32)  : Ct G mX11_brown 3 0 0 [.ref (x 0), .int la] (XW G x N R K r S T tl) (XP G x (some (.int (brS I A la))) I A) := by
  have h := hx.nt
  refine Ct.intro [(0, .ref (x 0)), (1, .int la)] (by decide) rfl (Nat.le_of_ble_eq_true rfl) ?_
  refine z_iload_n d_X11_brown_0 1 rfl ?_
  refine z_if_lt d_X11_brown_1 (fun c_1 => ?_) (fun c_1 => ?_)
  · refine z_bipush (v := -2) d_X11_brown_11 (by decide) ?_
    exact z_iret _ d_X11_brown_13 rfl (XP.of (by rw [brS, if_neg (by rw [inB_iff]; simp only [lt_i, i_0, l_999] at c_1; omega)]) hx)
  · refine z_iload_n d_X11_brown_4 1 rfl ?_
    refine z_sipush (v := 999) d_X11_brown_5 (by decide) ?_
    refine z_icmp_le d_X11_brown_8 (fun c_8 => ?_) (fun c_8 => ?_)
    · refine z_aload_n d_X11_brown_14 0 rfl ?_
      refine z_get (v := .ref (x 6)) (0) f_X11_60_11 rfl rfl d_X11_brown_15 ?_
      refine z_get (v := .int (N 2)) (6) f_X11_132_4 rfl rfl d_X11_brown_18 ?_
      refine z_top h.al ?_
      refine z_aload_n d_X11_brown_21 0 rfl ?_
      refine z_get (v := .ref (x 6)) (0) f_X11_60_11 rfl rfl d_X11_brown_22 ?_
      refine z_aload_n d_X11_brown_25 0 rfl ?_
      refine z_get (v := .ref (x 6)) (0) f_X11_60_11 rfl rfl d_X11_brown_26 ?_
      refine z_get (v := .int (N 3)) (6) f_X11_94_4 rfl rfl d_X11_brown_29 ?_
      refine z_top h.ho ?_
      refine z_iload_n d_X11_brown_32 1 rfl ?_
      refine z_iadd d_X11_brown_33 ?_
      refine z_callVp 6 c_X11_223 (t_X4_greenBits G x N R K r S T tl I A h ((I 13) + la) ) rfl rfl rfl rfl (Nat.le_of_ble_eq_true rfl) rfl d_X11_brown_34 ?_
      refine z_iconst (v := -1) d_X11_brown_37 (by decide) ?_
      refine z_ixor d_X11_brown_38 ?_
      refine z_iand d_X11_brown_39 ?_
      exact z_iret _ d_X11_brown_40 rfl (XP.of (by rw [brS, if_pos (by rw [inB_iff]; simp only [lt_i, i_0, l_999] at c_1 c_8; omega)]; exact brown_1 h.s16) hx)
    · refine z_bipush (v := -2) d_X11_brown_11 (by decide) ?_
      exact z_iret _ d_X11_brown_13 rfl (XP.of (by rw [brS, if_neg (by rw [inB_iff]; simp only [lt_i, i_0, l_999] at c_1 c_8; omega)]) hx)
set_option maxHeartbeats 4000000 in
set_option maxRecDepth 100000 in
theorem lp_when (G : GT) (x : Nat → Nat) (N : Nat → Int32) (R : Nat → Nat → Int32) (K : Nat → Nat → Option Nat) (r : Nat → Nat) (S : Nat → Int32) (tl : va_W) (I : Nat → Int32) (A : Nat → Nat → Int32) (hx : XRel G I A N R K r tl) (h : NtR I A (N 2) (N 3) (N 4) (R 1) (R 2) (R 3) (K 0) tl) (cd : CD) (num : Int32) (hT : TxR G cd num (r 0) tl) : ∀ (n : Nat) (j : Nat) (T : Nat → Nat → Int32) (hj : 1 ≤ j ∧ j ≤ 201) (hm : 201 < j + n) (hw : whN cd I A (201 - j) j = whnR cd I A), Tr G mX11_when (Rm 9 0 0) (OM G (XP G x (some (.int (whnR cd I A))) I A) 0 0) 0 0 22 [(1, .int (nI j)), (0, .ref (x 0))] [] (XW G x N R K r S T tl) := by
  intro n
  induction n with
  | zero =>
    intro j T hj hm hw
    exact absurd hm (by omega)
  | succ n ih =>
    intro j T hj hm hw
    refine z_iload_n d_X11_when_22 0 rfl ?_
    refine z_sipush (v := 200) d_X11_when_23 (by decide) ?_
    refine z_icmp_gt d_X11_when_26 (fun c_26 => ?_) (fun c_26 => ?_)
    · have h9 : 200 < j := by rw [show (200 : Int32) = nI 200 from rfl] at c_26; exact lt_nI (by decide) (by omega) c_26
      refine z_iconst (v := -1) d_X11_when_56 (by decide) ?_
      exact z_iret _ d_X11_when_57 rfl (XP.of (by rw [← hw, show 201 - j = 0 by omega, whN]) hx)
    · have h9 : j ≤ 200 := by rw [show (200 : Int32) = nI 200 from rfl] at c_26; have := ge_nI (by decide) (by omega) c_26; omega
      refine z_aload_n d_X11_when_29 1 rfl ?_
      refine z_get (v := .ref (x 6)) (0) f_X11_60_11 rfl rfl d_X11_when_30 ?_
      refine z_aload_n d_X11_when_33 1 rfl ?_
      refine z_get (v := .ref (x 6)) (0) f_X11_60_11 rfl rfl d_X11_when_34 ?_
      refine z_get (v := .int (N 3)) (6) f_X11_94_4 rfl rfl d_X11_when_37 ?_
      refine z_top h.ho ?_
      refine z_iload_n d_X11_when_40 0 rfl ?_
      refine z_iadd d_X11_when_41 ?_
      refine z_callV 6 c_X11_220 rfl rfl (t_X4_isTaken G x N R K r S T tl I A h cd num hT ((I 13) + (nI j)) ) rfl rfl (Nat.le_of_ble_eq_true rfl) rfl d_X11_when_42 ?_
      rintro v42 w42 ⟨rfl, T42, rfl⟩
      refine z_if_ne d_X11_when_45 (fun c_45 => ?_) (fun c_45 => ?_)
      · refine z_iinc (nI (j + 1)) [(1, .int (nI (j + 1))), (0, .ref (x 0))] 0 d_X11_when_50 rfl (nI_1 _) (by decide) rfl ?_
        refine z_goto d_X11_when_53 ?_
        exact ih (j + 1) T42 (by omega) (by omega) (by rw [show 201 - j = (200 - j) + 1 by omega, whN, if_pos (b01_o c_45)] at hw; rw [show 201 - (j + 1) = 200 - j by omega]; exact hw)
      · refine z_iload_n d_X11_when_48 0 rfl ?_
        exact z_iret _ d_X11_when_49 rfl (XP.of (by rw [← hw, show 201 - j = (200 - j) + 1 by omega, whN, if_neg (by rw [b01_z c_45]; decide)]) hx)
set_option maxHeartbeats 4000000 in
set_option maxRecDepth 100000 in
theorem t_X11_when (G : GT) (x : Nat → Nat) (N : Nat → Int32) (R : Nat → Nat → Int32) (K : Nat → Nat → Option Nat) (r : Nat → Nat) (S : Nat → Int32) (T : Nat → Nat → Int32) (tl : va_W) (I : Nat → Int32) (A : Nat → Nat → Int32) (hx : XRel G I A N R K r tl) (t : Nat) (cd : CD) (hOk : TxOk A t cd) (h4 : I 4 = nI t)  : Ct G mX11_when 9 0 0 [.ref (x 0)] (XW G x N R K r S T tl) (XP G x (some (.int (whnR cd I A))) I A) := by
  have h := hx.nt
  obtain ⟨num, hnum⟩ : ∃ num : Int32, num = nI t := ⟨_, rfl⟩
  have hT : TxR G cd num (r 0) tl := by rw [hnum]; exact hx.tx hOk h4
  refine Ct.intro [(0, .ref (x 0))] (by decide) rfl (Nat.le_of_ble_eq_true rfl) ?_
  refine z_aload_n d_X11_when_0 0 rfl ?_
  refine z_get (v := .ref (x 6)) (0) f_X11_60_11 rfl rfl d_X11_when_1 ?_
  refine z_aload_n d_X11_when_4 0 rfl ?_
  refine z_get (v := .ref (x 6)) (0) f_X11_60_11 rfl rfl d_X11_when_5 ?_
  refine z_get (v := .int (N 3)) (6) f_X11_94_4 rfl rfl d_X11_when_8 ?_
  refine z_top h.ho ?_
  refine z_callV 6 c_X11_220 rfl rfl (t_X4_isTaken G x N R K r S T tl I A h cd num hT (I 13) ) rfl rfl (Nat.le_of_ble_eq_true rfl) rfl d_X11_when_11 ?_
  rintro v11 w11 ⟨rfl, T11, rfl⟩
  refine z_if_ne d_X11_when_14 (fun c_14 => ?_) (fun c_14 => ?_)
  · refine z_iconst (v := 1) d_X11_when_20 (by decide) ?_
    refine z_istore_n [(1, .int 1), (0, .ref (x 0))] d_X11_when_21 (by decide) rfl ?_
    exact lp_when G x N R K r S tl I A hx h cd num hT 201 1 T11 (by omega) (by omega) (by have e := b01_o c_14; rw [upd_self] at e; rw [whnR, if_pos e])
  · refine z_bipush (v := -3) d_X11_when_17 (by decide) ?_
    exact z_iret _ d_X11_when_19 rfl (XP.of (by have e := b01_z c_14; rw [upd_self] at e; rw [whnR, if_neg (by rw [e]; decide)]) hx)
set_option maxHeartbeats 4000000 in
set_option maxRecDepth 100000 in
theorem lp_spare (G : GT) (x : Nat → Nat) (N : Nat → Int32) (R : Nat → Nat → Int32) (K : Nat → Nat → Option Nat) (r : Nat → Nat) (S : Nat → Int32) (T : Nat → Nat → Int32) (tl : va_W) (I : Nat → Int32) (A : Nat → Nat → Int32) (hx : XRel G I A N R K r tl) (h : NtR I A (N 2) (N 3) (N 4) (R 1) (R 2) (R 3) (K 0) tl) : ∀ (n : Nat) (k : Nat) (a : Int32) (hk9 : k ≤ 16) (hm : 16 < k + n) (ha : a = itL (orF (spP I A)) 0 k), Tr G mX11_spare (Rm 6 0 0) (OM G (XP G x (some (.int (orS (spP I A) 16))) I A) 0 0) 0 0 19 [(3, .int (nI k)), (2, .int a), (1, .int (faS A (I 12))), (0, .ref (x 0))] [] (XW G x N R K r S T tl) := by
  intro n
  induction n with
  | zero =>
    intro k a hk9 hm ha
    exact absurd hm (by omega)
  | succ n ih =>
    intro k a hk9 hm ha
    refine z_iload_n d_X11_spare_19 0 rfl ?_
    refine z_bipush (v := 16) d_X11_spare_20 (by decide) ?_
    refine z_icmp_ge d_X11_spare_22 (fun c_22 => ?_) (fun c_22 => ?_)
    · refine z_iload_n d_X11_spare_75 1 rfl ?_
      exact z_iret _ d_X11_spare_76 rfl (XP.of (by have h9 := ge_nI (N := 16) (by omega) (by decide) c_22; rw [ha, orS, show k = 16 by omega]) hx)
    · have hk : k < 16 := lt_nI (by omega) (by decide) c_22
      refine z_aload_n d_X11_spare_25 3 rfl ?_
      refine z_get (v := .ref (x 6)) (0) f_X11_60_11 rfl rfl d_X11_spare_26 ?_
      refine z_iload_n d_X11_spare_29 0 rfl ?_
      refine z_callVp 6 c_X11_83 (t_X4_has G x N R K r S T tl I A h (nI k) ) rfl rfl rfl rfl (Nat.le_of_ble_eq_true rfl) rfl d_X11_spare_30 ?_
      refine z_if_eq d_X11_spare_33 (fun c_33 => ?_) (fun c_33 => ?_)
      · refine z_iinc (nI (k + 1)) [(3, .int (nI (k + 1))), (2, .int a), (1, .int (faS A (I 12))), (0, .ref (x 0))] 0 d_X11_spare_69 rfl (nI_1 _) (by decide) rfl ?_
        refine z_goto d_X11_spare_72 ?_
        exact ih (k + 1) _ (by omega) (by omega) (orS_f (P := spP I A) (by rw [spP, b01_z c_33]; rfl) ha)
      · refine z_aload_n d_X11_spare_36 3 rfl ?_
        refine z_get (v := .ref (x 6)) (0) f_X11_60_11 rfl rfl d_X11_spare_37 ?_
        refine z_aload_n d_X11_spare_40 3 rfl ?_
        refine z_get (v := .ref (x 6)) (0) f_X11_60_11 rfl rfl d_X11_spare_41 ?_
        refine z_get (v := .int (N 2)) (6) f_X11_132_4 rfl rfl d_X11_spare_44 ?_
        refine z_top h.al ?_
        refine z_iconst (v := 1) d_X11_spare_47 (by decide) ?_
        refine z_iload_n d_X11_spare_48 0 rfl ?_
        refine z_ishl d_X11_spare_49 ?_
        refine z_iconst (v := -1) d_X11_spare_50 (by decide) ?_
        refine z_ixor d_X11_spare_51 ?_
        refine z_iand d_X11_spare_52 ?_
        refine z_callVp 6 c_X11_176 (t_X4_falling G x N R K r S T tl I A h ((I 12) &&& ((1 <<< ((nI k) &&& 31)) ^^^ (-1))) (Sb.rf _).and) rfl rfl rfl rfl (Nat.le_of_ble_eq_true rfl) rfl d_X11_spare_53 ?_
        refine z_iload_n d_X11_spare_56 2 rfl ?_
        refine z_iconst (v := -1) d_X11_spare_57 (by decide) ?_
        refine z_ixor d_X11_spare_58 ?_
        refine z_iand d_X11_spare_59 ?_
        refine z_if_ne d_X11_spare_60 (fun c_60 => ?_) (fun c_60 => ?_)
        · refine z_iinc (nI (k + 1)) [(3, .int (nI (k + 1))), (2, .int a), (1, .int (faS A (I 12))), (0, .ref (x 0))] 0 d_X11_spare_69 rfl (nI_1 _) (by decide) rfl ?_
          refine z_goto d_X11_spare_72 ?_
          exact ih (k + 1) _ (by omega) (by omega) (orS_f (P := spP I A) (by rw [spP, decide_eq_false c_60, Bool.and_false]) ha)
        · refine z_iload_n d_X11_spare_63 1 rfl ?_
          refine z_iconst (v := 1) d_X11_spare_64 (by decide) ?_
          refine z_iload_n d_X11_spare_65 0 rfl ?_
          refine z_ishl d_X11_spare_66 ?_
          refine z_ior d_X11_spare_67 ?_
          refine z_istore_n [(2, .int (a ||| (1 <<< ((nI k) &&& 31)))), (3, .int (nI k)), (1, .int (faS A (I 12))), (0, .ref (x 0))] d_X11_spare_68 (by decide) rfl ?_
          refine z_iinc (nI (k + 1)) [(3, .int (nI (k + 1))), (2, .int (a ||| (1 <<< ((nI k) &&& 31)))), (1, .int (faS A (I 12))), (0, .ref (x 0))] 1 d_X11_spare_69 rfl (nI_1 _) (by decide) rfl ?_
          refine z_goto d_X11_spare_72 ?_
          exact ih (k + 1) _ (by omega) (by omega) (orS_t (P := spP I A) (by rw [spP, b01_o c_33, decide_eq_true c_60]; rfl) ha)
set_option maxHeartbeats 4000000 in
set_option maxRecDepth 100000 in
theorem t_X11_spare (G : GT) (x : Nat → Nat) (N : Nat → Int32) (R : Nat → Nat → Int32) (K : Nat → Nat → Option Nat) (r : Nat → Nat) (S : Nat → Int32) (T : Nat → Nat → Int32) (tl : va_W) (I : Nat → Int32) (A : Nat → Nat → Int32) (hx : XRel G I A N R K r tl)  : Ct G mX11_spare 6 0 0 [.ref (x 0)] (XW G x N R K r S T tl) (XP G x (some (.int (orS (spP I A) 16))) I A) := by
  have h := hx.nt
  refine Ct.intro [(0, .ref (x 0))] (by decide) rfl (Nat.le_of_ble_eq_true rfl) ?_
  refine z_aload_n d_X11_spare_0 0 rfl ?_
  refine z_get (v := .ref (x 6)) (0) f_X11_60_11 rfl rfl d_X11_spare_1 ?_
  refine z_aload_n d_X11_spare_4 0 rfl ?_
  refine z_get (v := .ref (x 6)) (0) f_X11_60_11 rfl rfl d_X11_spare_5 ?_
  refine z_get (v := .int (N 2)) (6) f_X11_132_4 rfl rfl d_X11_spare_8 ?_
  refine z_top h.al ?_
  refine z_callVp 6 c_X11_176 (t_X4_falling G x N R K r S T tl I A h (I 12) (Sb.rf _)) rfl rfl rfl rfl (Nat.le_of_ble_eq_true rfl) rfl d_X11_spare_11 ?_
  refine z_istore_n [(1, .int (faS A (I 12))), (0, .ref (x 0))] d_X11_spare_14 (by decide) rfl ?_
  refine z_iconst (v := 0) d_X11_spare_15 (by decide) ?_
  refine z_istore_n [(2, .int 0), (1, .int (faS A (I 12))), (0, .ref (x 0))] d_X11_spare_16 (by decide) rfl ?_
  refine z_iconst (v := 0) d_X11_spare_17 (by decide) ?_
  refine z_istore_n [(3, .int 0), (2, .int 0), (1, .int (faS A (I 12))), (0, .ref (x 0))] d_X11_spare_18 (by decide) rfl ?_
  exact lp_spare G x N R K r S T tl I A hx h 17 0 0 (by omega) (by omega) rfl
set_option maxHeartbeats 4000000 in
set_option maxRecDepth 100000 in
theorem t_X11_count (G : GT) (x : Nat → Nat) (N : Nat → Int32) (R : Nat → Nat → Int32) (K : Nat → Nat → Option Nat) (r : Nat → Nat) (S : Nat → Int32) (T : Nat → Nat → Int32) (tl : va_W) (I : Nat → Int32) (A : Nat → Nat → Int32) (hx : XRel G I A N R K r tl) (what : Int32)  : Ct G mX11_count 3 0 0 [.ref (x 0), .int what] (XW G x N R K r S T tl) (XP G x (some (.int (ctS I A what))) I A) := by
  have h := hx.nt
  obtain ⟨m, -, ⟨-, -, m3, m1, -⟩, -, ⟨kk, -, k6, k0, -⟩, -⟩ := id hx
  obtain ⟨t, cd, h4, hOk⟩ := hx.cd
  obtain ⟨q9, q91, q92, c9, e9, f9, g9, hq9, -⟩ := hx.tx hOk h4
  refine Ct.intro [(0, .ref (x 0)), (1, .int what)] (by decide) rfl (Nat.le_of_ble_eq_true rfl) ?_
  refine z_iload_n d_X11_count_0 1 rfl ?_
  by_cases s_1_0 : what.toInt = 0
  · refine z_swIn (tgt := 48) (off := 47) d_X11_count_1 s_1_0 (by decide) (by decide) (by decide) (by decide) ?_
    refine z_aload_n d_X11_count_48 0 rfl ?_
    refine z_get (v := .ref (x 6)) (0) f_X11_60_11 rfl rfl d_X11_count_49 ?_
    refine z_callVp 6 c_X11_91 (t_X4_size G x N R K r S T tl I A h  ) rfl rfl rfl rfl (Nat.le_of_ble_eq_true rfl) rfl d_X11_count_52 ?_
    exact z_iret _ d_X11_count_55 rfl (XP.of (by rw [ctS]; rw [if_pos s_1_0]) hx)
  by_cases s_1_1 : what.toInt = 1
  · refine z_swIn (tgt := 56) (off := 55) d_X11_count_1 s_1_1 (by decide) (by decide) (by decide) (by decide) ?_
    refine z_aload_n d_X11_count_56 0 rfl ?_
    refine z_get (v := .ref (x 6)) (0) f_X11_60_11 rfl rfl d_X11_count_57 ?_
    refine z_get (v := .int (N 3)) (6) f_X11_94_4 rfl rfl d_X11_count_60 ?_
    refine z_top h.ho ?_
    exact z_iret _ d_X11_count_63 rfl (XP.of (by rw [ctS]; rw [if_neg s_1_0]; rw [if_pos s_1_1]) hx)
  by_cases s_1_2 : what.toInt = 2
  · refine z_swIn (tgt := 64) (off := 63) d_X11_count_1 s_1_2 (by decide) (by decide) (by decide) (by decide) ?_
    refine z_aload_n d_X11_count_64 0 rfl ?_
    refine z_get (v := .ref (x 6)) (0) f_X11_60_11 rfl rfl d_X11_count_65 ?_
    refine z_get (v := .int (N 4)) (6) f_X11_97_4 rfl rfl d_X11_count_68 ?_
    refine z_top h.gr ?_
    exact z_iret _ d_X11_count_71 rfl (XP.of (by rw [ctS]; rw [if_neg s_1_0]; rw [if_neg s_1_1]; rw [if_pos s_1_2]) hx)
  by_cases s_1_3 : what.toInt = 3
  · refine z_swIn (tgt := 72) (off := 71) d_X11_count_1 s_1_3 (by decide) (by decide) (by decide) (by decide) ?_
    refine z_aload_n d_X11_count_72 0 rfl ?_
    refine z_get (v := .int (N 1)) (0) f_X11_51_11 rfl rfl d_X11_count_73 ?_
    refine z_top (m1.trans m3.symm) ?_
    exact z_iret _ d_X11_count_76 rfl (XP.of (by rw [ctS]; rw [if_neg s_1_0]; rw [if_neg s_1_1]; rw [if_neg s_1_2]; rw [if_pos s_1_3]) hx)
  by_cases s_1_4 : what.toInt = 4
  · refine z_swIn (tgt := 77) (off := 76) d_X11_count_1 s_1_4 (by decide) (by decide) (by decide) (by decide) ?_
    refine z_aload_n d_X11_count_77 0 rfl ?_
    refine z_get (v := .ref (x 1)) (0) f_X11_10_11 rfl rfl d_X11_count_78 ?_
    refine z_get (v := .int (N 0)) (1) f_X11_155_6 rfl rfl d_X11_count_81 ?_
    refine z_top (k0.trans k6.symm) ?_
    exact z_iret _ d_X11_count_84 rfl (XP.of (by rw [ctS]; rw [if_neg s_1_0]; rw [if_neg s_1_1]; rw [if_neg s_1_2]; rw [if_neg s_1_3]; rw [if_pos s_1_4]) hx)
  by_cases s_1_5 : what.toInt = 5
  · refine z_swIn (tgt := 85) (off := 84) d_X11_count_1 s_1_5 (by decide) (by decide) (by decide) (by decide) ?_
    refine z_aload_n d_X11_count_85 0 rfl ?_
    refine z_get (v := .ref (x 6)) (0) f_X11_60_11 rfl rfl d_X11_count_86 ?_
    refine z_get (v := .ref (r 0)) (6) f_X11_157_4 rfl rfl d_X11_count_89 ?_
    refine z_get (v := .int (nI t)) (q9 + 31) f_X11_161_9 hq9 rfl d_X11_count_92 ?_
    exact z_iret _ d_X11_count_95 rfl (XP.of (by rw [ctS]; rw [if_neg s_1_0]; rw [if_neg s_1_1]; rw [if_neg s_1_2]; rw [if_neg s_1_3]; rw [if_neg s_1_4]; rw [if_pos s_1_5]; exact h4.symm) hx)
  by_cases s_1_6 : what.toInt = 6
  · refine z_swIn (tgt := 96) (off := 95) d_X11_count_1 s_1_6 (by decide) (by decide) (by decide) (by decide) ?_
    refine z_aload_n d_X11_count_96 0 rfl ?_
    refine z_get (v := .ref (x 6)) (0) f_X11_60_11 rfl rfl d_X11_count_97 ?_
    refine z_aload_n d_X11_count_100 0 rfl ?_
    refine z_get (v := .ref (x 6)) (0) f_X11_60_11 rfl rfl d_X11_count_101 ?_
    refine z_get (v := .int (N 3)) (6) f_X11_94_4 rfl rfl d_X11_count_104 ?_
    refine z_top h.ho ?_
    refine z_callVp 6 c_X11_223 (t_X4_greenBits G x N R K r S T tl I A h (I 13) ) rfl rfl rfl rfl (Nat.le_of_ble_eq_true rfl) rfl d_X11_count_107 ?_
    refine z_callSp c_X11_185 (t_J6_bitCount_0f7a4 G (orS (grQ I A (I 13)) 16) (XW G x N R K r S T tl)) rfl rfl (Nat.le_of_ble_eq_true rfl) rfl d_X11_count_110 ?_
    exact z_iret _ d_X11_count_113 rfl (XP.of (by rw [ctS]; rw [if_neg s_1_0]; rw [if_neg s_1_1]; rw [if_neg s_1_2]; rw [if_neg s_1_3]; rw [if_neg s_1_4]; rw [if_neg s_1_5]; rw [if_pos s_1_6]; rw [pc_gr, upd_self]) hx)
  by_cases s_1_7 : what.toInt = 7
  · refine z_swIn (tgt := 114) (off := 113) d_X11_count_1 s_1_7 (by decide) (by decide) (by decide) (by decide) ?_
    refine z_aload_n d_X11_count_114 0 rfl ?_
    refine z_get (v := .ref (x 6)) (0) f_X11_60_11 rfl rfl d_X11_count_115 ?_
    refine z_callVp 6 c_X11_244 (t_X4_covered G x N R K r S T tl I A h  ) rfl rfl rfl rfl (Nat.le_of_ble_eq_true rfl) rfl d_X11_count_118 ?_
    refine z_callSp c_X11_185 (t_J6_bitCount_0f7a4 G (coS I A) (XW G x N R K r S T tl)) rfl rfl (Nat.le_of_ble_eq_true rfl) rfl d_X11_count_121 ?_
    exact z_iret _ d_X11_count_124 rfl (XP.of (by rw [ctS]; rw [if_neg s_1_0]; rw [if_neg s_1_1]; rw [if_neg s_1_2]; rw [if_neg s_1_3]; rw [if_neg s_1_4]; rw [if_neg s_1_5]; rw [if_neg s_1_6]; rw [if_pos s_1_7]) hx)
  refine z_swOut (tgt := 125) d_X11_count_1 (by omega) (by decide) ?_
  refine z_bipush (v := -2) d_X11_count_125 (by decide) ?_
  exact z_iret _ d_X11_count_127 rfl (XP.of (by rw [ctS]; rw [if_neg s_1_0]; rw [if_neg s_1_1]; rw [if_neg s_1_2]; rw [if_neg s_1_3]; rw [if_neg s_1_4]; rw [if_neg s_1_5]; rw [if_neg s_1_6]; rw [if_neg s_1_7]) hx)
