/-! THE PUBLIC METHODS of class X: copy -/
set_option maxHeartbeats 4000000 in
set_option maxRecDepth 100000 in
theorem t_X11_copy (G : GT) (x : Nat → Nat) (N : Nat → Int32) (R : Nat → Nat → Int32) (K : Nat → Nat → Option Nat) (r : Nat → Nat) (S : Nat → Int32) (T : Nat → Nat → Int32) (tl : va_W) (I : Nat → Int32) (A : Nat → Nat → Int32) (hx : XRel G I A N R K r tl) (s : Int32) (i : Int32) (o : Int32) (j : Int32) (n0 : Int32)  : Ct G mX11_copy 1 0 0 [.ref (x 0), .int s, .int i, .int o, .int j, .int n0] (XW G x N R K r S T tl) (XP G x (some (.int (copR A s i o j n0))) I (copA A s i o j n0)) := by
  have h := hx.nt
  refine Ct.intro [(0, .ref (x 0)), (1, .int s), (2, .int i), (3, .int o), (4, .int j), (5, .int n0)] (by decide) rfl (Nat.le_of_ble_eq_true rfl) ?_
  refine z_iload_n d_X11_copy_0 1 rfl ?_
  refine z_callSp c_X11_247 (t_X11_isSheet G s (XW G x N R K r S T tl)) rfl rfl (Nat.le_of_ble_eq_true rfl) rfl d_X11_copy_1 ?_
  refine z_if_eq d_X11_copy_4 (fun c_4 => ?_) (fun c_4 => ?_)
  · refine z_bipush (v := -2) d_X11_copy_14 (by decide) ?_
    exact z_iret _ d_X11_copy_16 rfl (XP.of (by rw [copR, copX, if_neg (show ¬ inB s 0 3 = true by rw [b01_z c_4]; decide)]) (by rw [copA, copX, if_neg (show ¬ inB s 0 3 = true by rw [b01_z c_4]; decide)]; exact hx))
  · refine z_iload_n d_X11_copy_7 3 rfl ?_
    refine z_callSp c_X11_247 (t_X11_isSheet G o (XW G x N R K r S T tl)) rfl rfl (Nat.le_of_ble_eq_true rfl) rfl d_X11_copy_8 ?_
    refine z_if_ne d_X11_copy_11 (fun c_11 => ?_) (fun c_11 => ?_)
    · have his := b01_o c_4
      have hio := b01_o c_11
      obtain ⟨j_s, hj_s, ej_s⟩ := inB_nI his
      replace hj_s : j_s < 4 := hj_s
      subst ej_s
      rcases (show j_s = 0 ∨ j_s = 1 ∨ j_s = 2 ∨ j_s = 3 by omega) with rfl | rfl | rfl | rfl
      · refine z_aload_n d_X11_copy_17 0 rfl ?_
        obtain ⟨j_o, hj_o, ej_o⟩ := inB_nI hio
        replace hj_o : j_o < 4 := hj_o
        subst ej_o
        rcases (show j_o = 0 ∨ j_o = 1 ∨ j_o = 2 ∨ j_o = 3 by omega) with rfl | rfl | rfl | rfl
        · refine z_get (v := .ref (x 22)) (0) f_X11_24_11 rfl rfl d_X11_copy_18 ?_
          refine z_iload_n d_X11_copy_21 1 rfl ?_
          refine z_aldq (C0 := RX7) 22 5 0 rfl rfl (nI_toInt (by omega)) (by omega) d_X11_copy_22 ?_
          refine z_topv (v := .ref (x 23)) rfl ?_
          refine z_astore [(6, .ref (x 23)), (0, .ref (x 0)), (1, .int (nI 0)), (2, .int i), (3, .int (nI 0)), (4, .int j), (5, .int n0)] d_X11_copy_23 (by decide) rfl ?_
          refine z_aload_n d_X11_copy_25 1 rfl ?_
          refine z_get (v := .ref (x 22)) (0) f_X11_24_11 rfl rfl d_X11_copy_26 ?_
          refine z_iload_n d_X11_copy_29 4 rfl ?_
          refine z_aldq (C0 := RX7) 22 5 0 rfl rfl (nI_toInt (by omega)) (by omega) d_X11_copy_30 ?_
          refine z_topv (v := .ref (x 23)) rfl ?_
          refine z_astore [(7, .ref (x 23)), (6, .ref (x 23)), (0, .ref (x 0)), (1, .int (nI 0)), (2, .int i), (3, .int (nI 0)), (4, .int j), (5, .int n0)] d_X11_copy_31 (by decide) rfl ?_
          refine z_aload d_X11_copy_33 1 rfl ?_
          refine z_get (v := .int (N 10)) (23) f_X11_256_7 rfl rfl d_X11_copy_35 ?_
          refine z_iconst (v := -1) d_X11_copy_38 (by decide) ?_
          refine z_icmp_eq d_X11_copy_39 (fun c_39 => ?_) (fun c_39 => ?_)
          · refine z_bipush (v := -11) d_X11_copy_51 (by decide) ?_
            exact z_iret _ d_X11_copy_53 rfl (XP.of (by rw [copR, copX, if_pos his, if_pos hio, show (nI 0).toInt.toNat = 0 from nI_tn (by omega), if_pos (show A 36 0 = 0 from hx.ss.no (j := 0) (by decide) c_39)]) (by rw [copA, copX, if_pos his, if_pos hio, show (nI 0).toInt.toNat = 0 from nI_tn (by omega), if_pos (show A 36 0 = 0 from hx.ss.no (j := 0) (by decide) c_39)]; exact hx))
          · refine z_aload d_X11_copy_42 0 rfl ?_
            refine z_get (v := .int (N 10)) (23) f_X11_256_7 rfl rfl d_X11_copy_44 ?_
            refine z_iconst (v := -1) d_X11_copy_47 (by decide) ?_
            refine z_icmp_ne d_X11_copy_48 (fun c_48 => ?_) (fun c_48 => ?_)
            · obtain ⟨y1, y2, y3, y4, y5, y6, y7, y8⟩ := hx.ss.yes (j := 0) (by decide) c_39
              obtain ⟨z1, z2, z3, z4, z5, z6, z7, z8⟩ := hx.ss.yes (j := 0) (by decide) c_48
              refine z_aload d_X11_copy_54 1 rfl ?_
              refine z_get (v := .int (N 10)) (23) f_X11_256_7 rfl rfl d_X11_copy_56 ?_
              refine z_aload d_X11_copy_59 0 rfl ?_
              refine z_get (v := .int (N 10)) (23) f_X11_256_7 rfl rfl d_X11_copy_61 ?_
              refine z_icmp_eq d_X11_copy_64 (fun c_64 => ?_) (fun c_64 => ?_)
              · have hso : A 37 0 = A 37 0 := (show N 10 = A 37 0 from y2).symm.trans (c_64.trans (show N 10 = A 37 0 from z2))
                refine z_aload d_X11_copy_70 1 rfl ?_
                refine z_iload_n d_X11_copy_72 4 rfl ?_
                refine z_iload d_X11_copy_73 7 rfl ?_
                refine z_callVp 23 c_X11_263 (t_holds0 G x N R K r S T tl i n0) rfl rfl rfl rfl (Nat.le_of_ble_eq_true rfl) rfl d_X11_copy_75 ?_
                refine z_if_eq d_X11_copy_78 (fun c_78 => ?_) (fun c_78 => ?_)
                · refine z_bipush (v := -12) d_X11_copy_93 (by decide) ?_
                  exact z_iret _ d_X11_copy_95 rfl (XP.of (by rw [copR, copX, if_pos his, if_pos hio, show (nI 0).toInt.toNat = 0 from nI_tn (by omega), if_neg y1, if_neg z1, if_pos hso, cop_off ⟨y6, y7⟩ ⟨z6, z7⟩ (fun hh => by have q1 := hh.1; rw [← y5] at q1; rw [show hoQ (N (11 + 2 * 0)) i n0 = false from b01_z c_78] at q1; exact absurd q1 (by decide))]) (by rw [copA, copX, if_pos his, if_pos hio, show (nI 0).toInt.toNat = 0 from nI_tn (by omega), if_neg y1, if_neg z1, if_pos hso, cop_off ⟨y6, y7⟩ ⟨z6, z7⟩ (fun hh => by have q1 := hh.1; rw [← y5] at q1; rw [show hoQ (N (11 + 2 * 0)) i n0 = false from b01_z c_78] at q1; exact absurd q1 (by decide))]; exact hx))
                · refine z_aload d_X11_copy_81 0 rfl ?_
                  refine z_iload d_X11_copy_83 6 rfl ?_
                  refine z_iload d_X11_copy_85 7 rfl ?_
                  refine z_callVp 23 c_X11_263 (t_holds0 G x N R K r S T tl j n0) rfl rfl rfl rfl (Nat.le_of_ble_eq_true rfl) rfl d_X11_copy_87 ?_
                  refine z_if_ne d_X11_copy_90 (fun c_90 => ?_) (fun c_90 => ?_)
                  · have g1 : hoQ (A 38 0) i n0 = true := by rw [← y5]; exact b01_o c_78
                    have g2 : hoQ (A 38 0) j n0 = true := by rw [← z5]; exact b01_o c_90
                    obtain ⟨a1, a2, a3⟩ := (ho_iff ⟨y6, y7⟩).mp g1
                    obtain ⟨b1, b2, b3⟩ := (ho_iff ⟨z6, z7⟩).mp g2
                    rw [lt_i, i_0] at a1 a2 b1
                    have ln := n0.toInt_lt
                    rw [lt_i, isub (by omega) (by omega)] at a3 b3
                    obtain ⟨iq, hiq⟩ : ∃ q : Nat, i = nI q ∧ (q : Int) = i.toInt := ⟨i.toInt.toNat, eq_nI (by omega), by omega⟩
                    obtain ⟨jq, hjq⟩ : ∃ q : Nat, j = nI q ∧ (q : Int) = j.toInt := ⟨j.toInt.toNat, eq_nI (by omega), by omega⟩
                    obtain ⟨m, hmq⟩ : ∃ q : Nat, n0 = nI q ∧ (q : Int) = n0.toInt := ⟨n0.toInt.toNat, eq_nI (by omega), by omega⟩
                    have hi1 : iq + m ≤ (A 38 0).toInt.toNat := by omega
                    have hj1 : jq + m ≤ 40 := by omega
                    have hi2 : iq + m ≤ 40 := by omega
                    refine z_aload d_X11_copy_96 1 rfl ?_
                    refine z_get (v := .ref (x 24)) (23) f_X11_266_7 rfl rfl d_X11_copy_98 ?_
                    refine z_iload_n d_X11_copy_101 4 rfl ?_
                    refine z_aload d_X11_copy_102 0 rfl ?_
                    refine z_get (v := .ref (x 24)) (23) f_X11_266_7 rfl rfl d_X11_copy_104 ?_
                    refine z_iload d_X11_copy_107 6 rfl ?_
                    refine z_iload d_X11_copy_109 7 rfl ?_
                    refine z_copyi 24 24 iq jq m (XW G x N (vf_upd R 7 (va_cpy (R 7) (R 7) iq jq m)) K r S T tl) rfl rfl hiq.2.symm hjq.2.symm hmq.2.symm hi2 hj1 w_0971 rfl (by decide +kernel) (xa_24 G x N R K r S T tl _) d_X11_copy_111 ?_
                    refine z_iload d_X11_copy_114 7 rfl ?_
                    exact z_iret _ d_X11_copy_116 rfl (XP.of (by rw [copR, copX, if_pos his, if_pos hio, show (nI 0).toInt.toNat = 0 from nI_tn (by omega), if_neg y1, if_neg z1, if_pos hso, cop_on ⟨y6, y7⟩ ⟨z6, z7⟩ g1 g2]) (by rw [copA, copX, if_pos his, if_pos hio, show (nI 0).toInt.toNat = 0 from nI_tn (by omega), if_neg y1, if_neg z1, if_pos hso, cop_on ⟨y6, y7⟩ ⟨z6, z7⟩ g1 g2, hiq.1, hjq.1, hmq.1, nI_tn (by omega), nI_tn (by omega), nI_tn (by omega)]; exact hx.sh (fun k hk => if_neg (by omega)) (fun _ _ => rfl) (fun q hq => if_neg (by omega)) (hx.ss.cpy (s := 0) (o := 0) (by decide) (by decide) y1 hi1 hi2 hj1)))
                  · refine z_bipush (v := -12) d_X11_copy_93 (by decide) ?_
                    exact z_iret _ d_X11_copy_95 rfl (XP.of (by rw [copR, copX, if_pos his, if_pos hio, show (nI 0).toInt.toNat = 0 from nI_tn (by omega), if_neg y1, if_neg z1, if_pos hso, cop_off ⟨y6, y7⟩ ⟨z6, z7⟩ (fun hh => by have q1 := hh.2; rw [← z5] at q1; rw [show hoQ (N (11 + 2 * 0)) j n0 = false from b01_z c_90] at q1; exact absurd q1 (by decide))]) (by rw [copA, copX, if_pos his, if_pos hio, show (nI 0).toInt.toNat = 0 from nI_tn (by omega), if_neg y1, if_neg z1, if_pos hso, cop_off ⟨y6, y7⟩ ⟨z6, z7⟩ (fun hh => by have q1 := hh.2; rw [← z5] at q1; rw [show hoQ (N (11 + 2 * 0)) j n0 = false from b01_z c_90] at q1; exact absurd q1 (by decide))]; exact hx))
              · refine z_bipush (v := -13) d_X11_copy_67 (by decide) ?_
                exact z_iret _ d_X11_copy_69 rfl (XP.of (by rw [copR, copX, if_pos his, if_pos hio, show (nI 0).toInt.toNat = 0 from nI_tn (by omega), if_neg y1, if_neg z1, if_neg (show ¬ A 37 0 = A 37 0 from fun hh => c_64 ((show N 10 = A 37 0 from y2).trans (hh.trans (show N 10 = A 37 0 from z2).symm)))]) (by rw [copA, copX, if_pos his, if_pos hio, show (nI 0).toInt.toNat = 0 from nI_tn (by omega), if_neg y1, if_neg z1, if_neg (show ¬ A 37 0 = A 37 0 from fun hh => c_64 ((show N 10 = A 37 0 from y2).trans (hh.trans (show N 10 = A 37 0 from z2).symm)))]; exact hx))
            · refine z_bipush (v := -11) d_X11_copy_51 (by decide) ?_
              exact z_iret _ d_X11_copy_53 rfl (XP.of (by rw [copR, copX, if_pos his, if_pos hio, show (nI 0).toInt.toNat = 0 from nI_tn (by omega), if_neg (show ¬ A 36 0 = 0 from (hx.ss.yes (j := 0) (by decide) c_39).1), if_pos (show A 36 0 = 0 from hx.ss.no (j := 0) (by decide) c_48)]) (by rw [copA, copX, if_pos his, if_pos hio, show (nI 0).toInt.toNat = 0 from nI_tn (by omega), if_neg (show ¬ A 36 0 = 0 from (hx.ss.yes (j := 0) (by decide) c_39).1), if_pos (show A 36 0 = 0 from hx.ss.no (j := 0) (by decide) c_48)]; exact hx))
        · refine z_get (v := .ref (x 22)) (0) f_X11_24_11 rfl rfl d_X11_copy_18 ?_
          refine z_iload_n d_X11_copy_21 1 rfl ?_
          refine z_aldq (C0 := RX7) 22 5 0 rfl rfl (nI_toInt (by omega)) (by omega) d_X11_copy_22 ?_
          refine z_topv (v := .ref (x 23)) rfl ?_
          refine z_astore [(6, .ref (x 23)), (0, .ref (x 0)), (1, .int (nI 0)), (2, .int i), (3, .int (nI 1)), (4, .int j), (5, .int n0)] d_X11_copy_23 (by decide) rfl ?_
          refine z_aload_n d_X11_copy_25 1 rfl ?_
          refine z_get (v := .ref (x 22)) (0) f_X11_24_11 rfl rfl d_X11_copy_26 ?_
          refine z_iload_n d_X11_copy_29 4 rfl ?_
          refine z_aldq (C0 := RX7) 22 5 1 rfl rfl (nI_toInt (by omega)) (by omega) d_X11_copy_30 ?_
          refine z_topv (v := .ref (x 25)) rfl ?_
          refine z_astore [(7, .ref (x 25)), (6, .ref (x 23)), (0, .ref (x 0)), (1, .int (nI 0)), (2, .int i), (3, .int (nI 1)), (4, .int j), (5, .int n0)] d_X11_copy_31 (by decide) rfl ?_
          refine z_aload d_X11_copy_33 1 rfl ?_
          refine z_get (v := .int (N 10)) (23) f_X11_256_7 rfl rfl d_X11_copy_35 ?_
          refine z_iconst (v := -1) d_X11_copy_38 (by decide) ?_
          refine z_icmp_eq d_X11_copy_39 (fun c_39 => ?_) (fun c_39 => ?_)
          · refine z_bipush (v := -11) d_X11_copy_51 (by decide) ?_
            exact z_iret _ d_X11_copy_53 rfl (XP.of (by rw [copR, copX, if_pos his, if_pos hio, show (nI 0).toInt.toNat = 0 from nI_tn (by omega), show (nI 1).toInt.toNat = 1 from nI_tn (by omega), if_pos (show A 36 0 = 0 from hx.ss.no (j := 0) (by decide) c_39)]) (by rw [copA, copX, if_pos his, if_pos hio, show (nI 0).toInt.toNat = 0 from nI_tn (by omega), show (nI 1).toInt.toNat = 1 from nI_tn (by omega), if_pos (show A 36 0 = 0 from hx.ss.no (j := 0) (by decide) c_39)]; exact hx))
          · refine z_aload d_X11_copy_42 0 rfl ?_
            refine z_get (v := .int (N 12)) (25) f_X11_256_7 rfl rfl d_X11_copy_44 ?_
            refine z_iconst (v := -1) d_X11_copy_47 (by decide) ?_
            refine z_icmp_ne d_X11_copy_48 (fun c_48 => ?_) (fun c_48 => ?_)
            · obtain ⟨y1, y2, y3, y4, y5, y6, y7, y8⟩ := hx.ss.yes (j := 0) (by decide) c_39
              obtain ⟨z1, z2, z3, z4, z5, z6, z7, z8⟩ := hx.ss.yes (j := 1) (by decide) c_48
              refine z_aload d_X11_copy_54 1 rfl ?_
              refine z_get (v := .int (N 10)) (23) f_X11_256_7 rfl rfl d_X11_copy_56 ?_
              refine z_aload d_X11_copy_59 0 rfl ?_
              refine z_get (v := .int (N 12)) (25) f_X11_256_7 rfl rfl d_X11_copy_61 ?_
              refine z_icmp_eq d_X11_copy_64 (fun c_64 => ?_) (fun c_64 => ?_)
              · have hso : A 37 0 = A 37 1 := (show N 10 = A 37 0 from y2).symm.trans (c_64.trans (show N 12 = A 37 1 from z2))
                refine z_aload d_X11_copy_70 1 rfl ?_
                refine z_iload_n d_X11_copy_72 4 rfl ?_
                refine z_iload d_X11_copy_73 7 rfl ?_
                refine z_callVp 23 c_X11_263 (t_holds0 G x N R K r S T tl i n0) rfl rfl rfl rfl (Nat.le_of_ble_eq_true rfl) rfl d_X11_copy_75 ?_
                refine z_if_eq d_X11_copy_78 (fun c_78 => ?_) (fun c_78 => ?_)
                · refine z_bipush (v := -12) d_X11_copy_93 (by decide) ?_
                  exact z_iret _ d_X11_copy_95 rfl (XP.of (by rw [copR, copX, if_pos his, if_pos hio, show (nI 0).toInt.toNat = 0 from nI_tn (by omega), show (nI 1).toInt.toNat = 1 from nI_tn (by omega), if_neg y1, if_neg z1, if_pos hso, cop_off ⟨y6, y7⟩ ⟨z6, z7⟩ (fun hh => by have q1 := hh.1; rw [← y5] at q1; rw [show hoQ (N (11 + 2 * 0)) i n0 = false from b01_z c_78] at q1; exact absurd q1 (by decide))]) (by rw [copA, copX, if_pos his, if_pos hio, show (nI 0).toInt.toNat = 0 from nI_tn (by omega), show (nI 1).toInt.toNat = 1 from nI_tn (by omega), if_neg y1, if_neg z1, if_pos hso, cop_off ⟨y6, y7⟩ ⟨z6, z7⟩ (fun hh => by have q1 := hh.1; rw [← y5] at q1; rw [show hoQ (N (11 + 2 * 0)) i n0 = false from b01_z c_78] at q1; exact absurd q1 (by decide))]; exact hx))
                · refine z_aload d_X11_copy_81 0 rfl ?_
                  refine z_iload d_X11_copy_83 6 rfl ?_
                  refine z_iload d_X11_copy_85 7 rfl ?_
                  refine z_callVp 25 c_X11_263 (t_holds1 G x N R K r S T tl j n0) rfl rfl rfl rfl (Nat.le_of_ble_eq_true rfl) rfl d_X11_copy_87 ?_
                  refine z_if_ne d_X11_copy_90 (fun c_90 => ?_) (fun c_90 => ?_)
                  · have g1 : hoQ (A 38 0) i n0 = true := by rw [← y5]; exact b01_o c_78
                    have g2 : hoQ (A 38 1) j n0 = true := by rw [← z5]; exact b01_o c_90
                    obtain ⟨a1, a2, a3⟩ := (ho_iff ⟨y6, y7⟩).mp g1
                    obtain ⟨b1, b2, b3⟩ := (ho_iff ⟨z6, z7⟩).mp g2
                    rw [lt_i, i_0] at a1 a2 b1
                    have ln := n0.toInt_lt
                    rw [lt_i, isub (by omega) (by omega)] at a3 b3
                    obtain ⟨iq, hiq⟩ : ∃ q : Nat, i = nI q ∧ (q : Int) = i.toInt := ⟨i.toInt.toNat, eq_nI (by omega), by omega⟩
                    obtain ⟨jq, hjq⟩ : ∃ q : Nat, j = nI q ∧ (q : Int) = j.toInt := ⟨j.toInt.toNat, eq_nI (by omega), by omega⟩
                    obtain ⟨m, hmq⟩ : ∃ q : Nat, n0 = nI q ∧ (q : Int) = n0.toInt := ⟨n0.toInt.toNat, eq_nI (by omega), by omega⟩
                    have hi1 : iq + m ≤ (A 38 0).toInt.toNat := by omega
                    have hj1 : jq + m ≤ 40 := by omega
                    have hi2 : iq + m ≤ 40 := by omega
                    refine z_aload d_X11_copy_96 1 rfl ?_
                    refine z_get (v := .ref (x 24)) (23) f_X11_266_7 rfl rfl d_X11_copy_98 ?_
                    refine z_iload_n d_X11_copy_101 4 rfl ?_
                    refine z_aload d_X11_copy_102 0 rfl ?_
                    refine z_get (v := .ref (x 26)) (25) f_X11_266_7 rfl rfl d_X11_copy_104 ?_
                    refine z_iload d_X11_copy_107 6 rfl ?_
                    refine z_iload d_X11_copy_109 7 rfl ?_
                    refine z_copyi 24 26 iq jq m (XW G x N (vf_upd R 8 (va_cpy (R 7) (R 8) iq jq m)) K r S T tl) rfl rfl hiq.2.symm hjq.2.symm hmq.2.symm hi2 hj1 w_0971 rfl (by decide +kernel) (xa_26 G x N R K r S T tl _) d_X11_copy_111 ?_
                    refine z_iload d_X11_copy_114 7 rfl ?_
                    exact z_iret _ d_X11_copy_116 rfl (XP.of (by rw [copR, copX, if_pos his, if_pos hio, show (nI 0).toInt.toNat = 0 from nI_tn (by omega), show (nI 1).toInt.toNat = 1 from nI_tn (by omega), if_neg y1, if_neg z1, if_pos hso, cop_on ⟨y6, y7⟩ ⟨z6, z7⟩ g1 g2]) (by rw [copA, copX, if_pos his, if_pos hio, show (nI 0).toInt.toNat = 0 from nI_tn (by omega), show (nI 1).toInt.toNat = 1 from nI_tn (by omega), if_neg y1, if_neg z1, if_pos hso, cop_on ⟨y6, y7⟩ ⟨z6, z7⟩ g1 g2, hiq.1, hjq.1, hmq.1, nI_tn (by omega), nI_tn (by omega), nI_tn (by omega)]; exact hx.sh (fun k hk => if_neg (by omega)) (fun _ _ => rfl) (fun q hq => if_neg (by omega)) (hx.ss.cpy (s := 0) (o := 1) (by decide) (by decide) y1 hi1 hi2 hj1)))
                  · refine z_bipush (v := -12) d_X11_copy_93 (by decide) ?_
                    exact z_iret _ d_X11_copy_95 rfl (XP.of (by rw [copR, copX, if_pos his, if_pos hio, show (nI 0).toInt.toNat = 0 from nI_tn (by omega), show (nI 1).toInt.toNat = 1 from nI_tn (by omega), if_neg y1, if_neg z1, if_pos hso, cop_off ⟨y6, y7⟩ ⟨z6, z7⟩ (fun hh => by have q1 := hh.2; rw [← z5] at q1; rw [show hoQ (N (11 + 2 * 1)) j n0 = false from b01_z c_90] at q1; exact absurd q1 (by decide))]) (by rw [copA, copX, if_pos his, if_pos hio, show (nI 0).toInt.toNat = 0 from nI_tn (by omega), show (nI 1).toInt.toNat = 1 from nI_tn (by omega), if_neg y1, if_neg z1, if_pos hso, cop_off ⟨y6, y7⟩ ⟨z6, z7⟩ (fun hh => by have q1 := hh.2; rw [← z5] at q1; rw [show hoQ (N (11 + 2 * 1)) j n0 = false from b01_z c_90] at q1; exact absurd q1 (by decide))]; exact hx))
              · refine z_bipush (v := -13) d_X11_copy_67 (by decide) ?_
                exact z_iret _ d_X11_copy_69 rfl (XP.of (by rw [copR, copX, if_pos his, if_pos hio, show (nI 0).toInt.toNat = 0 from nI_tn (by omega), show (nI 1).toInt.toNat = 1 from nI_tn (by omega), if_neg y1, if_neg z1, if_neg (show ¬ A 37 0 = A 37 1 from fun hh => c_64 ((show N 10 = A 37 0 from y2).trans (hh.trans (show N 12 = A 37 1 from z2).symm)))]) (by rw [copA, copX, if_pos his, if_pos hio, show (nI 0).toInt.toNat = 0 from nI_tn (by omega), show (nI 1).toInt.toNat = 1 from nI_tn (by omega), if_neg y1, if_neg z1, if_neg (show ¬ A 37 0 = A 37 1 from fun hh => c_64 ((show N 10 = A 37 0 from y2).trans (hh.trans (show N 12 = A 37 1 from z2).symm)))]; exact hx))
            · refine z_bipush (v := -11) d_X11_copy_51 (by decide) ?_
              exact z_iret _ d_X11_copy_53 rfl (XP.of (by rw [copR, copX, if_pos his, if_pos hio, show (nI 0).toInt.toNat = 0 from nI_tn (by omega), show (nI 1).toInt.toNat = 1 from nI_tn (by omega), if_neg (show ¬ A 36 0 = 0 from (hx.ss.yes (j := 0) (by decide) c_39).1), if_pos (show A 36 1 = 0 from hx.ss.no (j := 1) (by decide) c_48)]) (by rw [copA, copX, if_pos his, if_pos hio, show (nI 0).toInt.toNat = 0 from nI_tn (by omega), show (nI 1).toInt.toNat = 1 from nI_tn (by omega), if_neg (show ¬ A 36 0 = 0 from (hx.ss.yes (j := 0) (by decide) c_39).1), if_pos (show A 36 1 = 0 from hx.ss.no (j := 1) (by decide) c_48)]; exact hx))
        · refine z_get (v := .ref (x 22)) (0) f_X11_24_11 rfl rfl d_X11_copy_18 ?_
          refine z_iload_n d_X11_copy_21 1 rfl ?_
          refine z_aldq (C0 := RX7) 22 5 0 rfl rfl (nI_toInt (by omega)) (by omega) d_X11_copy_22 ?_
          refine z_topv (v := .ref (x 23)) rfl ?_
          refine z_astore [(6, .ref (x 23)), (0, .ref (x 0)), (1, .int (nI 0)), (2, .int i), (3, .int (nI 2)), (4, .int j), (5, .int n0)] d_X11_copy_23 (by decide) rfl ?_
          refine z_aload_n d_X11_copy_25 1 rfl ?_
          refine z_get (v := .ref (x 22)) (0) f_X11_24_11 rfl rfl d_X11_copy_26 ?_
          refine z_iload_n d_X11_copy_29 4 rfl ?_
          refine z_aldq (C0 := RX7) 22 5 2 rfl rfl (nI_toInt (by omega)) (by omega) d_X11_copy_30 ?_
          refine z_topv (v := .ref (x 27)) rfl ?_
          refine z_astore [(7, .ref (x 27)), (6, .ref (x 23)), (0, .ref (x 0)), (1, .int (nI 0)), (2, .int i), (3, .int (nI 2)), (4, .int j), (5, .int n0)] d_X11_copy_31 (by decide) rfl ?_
          refine z_aload d_X11_copy_33 1 rfl ?_
          refine z_get (v := .int (N 10)) (23) f_X11_256_7 rfl rfl d_X11_copy_35 ?_
          refine z_iconst (v := -1) d_X11_copy_38 (by decide) ?_
          refine z_icmp_eq d_X11_copy_39 (fun c_39 => ?_) (fun c_39 => ?_)
          · refine z_bipush (v := -11) d_X11_copy_51 (by decide) ?_
            exact z_iret _ d_X11_copy_53 rfl (XP.of (by rw [copR, copX, if_pos his, if_pos hio, show (nI 0).toInt.toNat = 0 from nI_tn (by omega), show (nI 2).toInt.toNat = 2 from nI_tn (by omega), if_pos (show A 36 0 = 0 from hx.ss.no (j := 0) (by decide) c_39)]) (by rw [copA, copX, if_pos his, if_pos hio, show (nI 0).toInt.toNat = 0 from nI_tn (by omega), show (nI 2).toInt.toNat = 2 from nI_tn (by omega), if_pos (show A 36 0 = 0 from hx.ss.no (j := 0) (by decide) c_39)]; exact hx))
          · refine z_aload d_X11_copy_42 0 rfl ?_
            refine z_get (v := .int (N 14)) (27) f_X11_256_7 rfl rfl d_X11_copy_44 ?_
            refine z_iconst (v := -1) d_X11_copy_47 (by decide) ?_
            refine z_icmp_ne d_X11_copy_48 (fun c_48 => ?_) (fun c_48 => ?_)
            · obtain ⟨y1, y2, y3, y4, y5, y6, y7, y8⟩ := hx.ss.yes (j := 0) (by decide) c_39
              obtain ⟨z1, z2, z3, z4, z5, z6, z7, z8⟩ := hx.ss.yes (j := 2) (by decide) c_48
              refine z_aload d_X11_copy_54 1 rfl ?_
              refine z_get (v := .int (N 10)) (23) f_X11_256_7 rfl rfl d_X11_copy_56 ?_
              refine z_aload d_X11_copy_59 0 rfl ?_
              refine z_get (v := .int (N 14)) (27) f_X11_256_7 rfl rfl d_X11_copy_61 ?_
              refine z_icmp_eq d_X11_copy_64 (fun c_64 => ?_) (fun c_64 => ?_)
              · have hso : A 37 0 = A 37 2 := (show N 10 = A 37 0 from y2).symm.trans (c_64.trans (show N 14 = A 37 2 from z2))
                refine z_aload d_X11_copy_70 1 rfl ?_
                refine z_iload_n d_X11_copy_72 4 rfl ?_
                refine z_iload d_X11_copy_73 7 rfl ?_
                refine z_callVp 23 c_X11_263 (t_holds0 G x N R K r S T tl i n0) rfl rfl rfl rfl (Nat.le_of_ble_eq_true rfl) rfl d_X11_copy_75 ?_
                refine z_if_eq d_X11_copy_78 (fun c_78 => ?_) (fun c_78 => ?_)
                · refine z_bipush (v := -12) d_X11_copy_93 (by decide) ?_
                  exact z_iret _ d_X11_copy_95 rfl (XP.of (by rw [copR, copX, if_pos his, if_pos hio, show (nI 0).toInt.toNat = 0 from nI_tn (by omega), show (nI 2).toInt.toNat = 2 from nI_tn (by omega), if_neg y1, if_neg z1, if_pos hso, cop_off ⟨y6, y7⟩ ⟨z6, z7⟩ (fun hh => by have q1 := hh.1; rw [← y5] at q1; rw [show hoQ (N (11 + 2 * 0)) i n0 = false from b01_z c_78] at q1; exact absurd q1 (by decide))]) (by rw [copA, copX, if_pos his, if_pos hio, show (nI 0).toInt.toNat = 0 from nI_tn (by omega), show (nI 2).toInt.toNat = 2 from nI_tn (by omega), if_neg y1, if_neg z1, if_pos hso, cop_off ⟨y6, y7⟩ ⟨z6, z7⟩ (fun hh => by have q1 := hh.1; rw [← y5] at q1; rw [show hoQ (N (11 + 2 * 0)) i n0 = false from b01_z c_78] at q1; exact absurd q1 (by decide))]; exact hx))
                · refine z_aload d_X11_copy_81 0 rfl ?_
                  refine z_iload d_X11_copy_83 6 rfl ?_
                  refine z_iload d_X11_copy_85 7 rfl ?_
                  refine z_callVp 27 c_X11_263 (t_holds2 G x N R K r S T tl j n0) rfl rfl rfl rfl (Nat.le_of_ble_eq_true rfl) rfl d_X11_copy_87 ?_
                  refine z_if_ne d_X11_copy_90 (fun c_90 => ?_) (fun c_90 => ?_)
                  · have g1 : hoQ (A 38 0) i n0 = true := by rw [← y5]; exact b01_o c_78
                    have g2 : hoQ (A 38 2) j n0 = true := by rw [← z5]; exact b01_o c_90
                    obtain ⟨a1, a2, a3⟩ := (ho_iff ⟨y6, y7⟩).mp g1
                    obtain ⟨b1, b2, b3⟩ := (ho_iff ⟨z6, z7⟩).mp g2
                    rw [lt_i, i_0] at a1 a2 b1
                    have ln := n0.toInt_lt
                    rw [lt_i, isub (by omega) (by omega)] at a3 b3
                    obtain ⟨iq, hiq⟩ : ∃ q : Nat, i = nI q ∧ (q : Int) = i.toInt := ⟨i.toInt.toNat, eq_nI (by omega), by omega⟩
                    obtain ⟨jq, hjq⟩ : ∃ q : Nat, j = nI q ∧ (q : Int) = j.toInt := ⟨j.toInt.toNat, eq_nI (by omega), by omega⟩
                    obtain ⟨m, hmq⟩ : ∃ q : Nat, n0 = nI q ∧ (q : Int) = n0.toInt := ⟨n0.toInt.toNat, eq_nI (by omega), by omega⟩
                    have hi1 : iq + m ≤ (A 38 0).toInt.toNat := by omega
                    have hj1 : jq + m ≤ 40 := by omega
                    have hi2 : iq + m ≤ 40 := by omega
                    refine z_aload d_X11_copy_96 1 rfl ?_
                    refine z_get (v := .ref (x 24)) (23) f_X11_266_7 rfl rfl d_X11_copy_98 ?_
                    refine z_iload_n d_X11_copy_101 4 rfl ?_
                    refine z_aload d_X11_copy_102 0 rfl ?_
                    refine z_get (v := .ref (x 28)) (27) f_X11_266_7 rfl rfl d_X11_copy_104 ?_
                    refine z_iload d_X11_copy_107 6 rfl ?_
                    refine z_iload d_X11_copy_109 7 rfl ?_
                    refine z_copyi 24 28 iq jq m (XW G x N (vf_upd R 9 (va_cpy (R 7) (R 9) iq jq m)) K r S T tl) rfl rfl hiq.2.symm hjq.2.symm hmq.2.symm hi2 hj1 w_0971 rfl (by decide +kernel) (xa_28 G x N R K r S T tl _) d_X11_copy_111 ?_
                    refine z_iload d_X11_copy_114 7 rfl ?_
                    exact z_iret _ d_X11_copy_116 rfl (XP.of (by rw [copR, copX, if_pos his, if_pos hio, show (nI 0).toInt.toNat = 0 from nI_tn (by omega), show (nI 2).toInt.toNat = 2 from nI_tn (by omega), if_neg y1, if_neg z1, if_pos hso, cop_on ⟨y6, y7⟩ ⟨z6, z7⟩ g1 g2]) (by rw [copA, copX, if_pos his, if_pos hio, show (nI 0).toInt.toNat = 0 from nI_tn (by omega), show (nI 2).toInt.toNat = 2 from nI_tn (by omega), if_neg y1, if_neg z1, if_pos hso, cop_on ⟨y6, y7⟩ ⟨z6, z7⟩ g1 g2, hiq.1, hjq.1, hmq.1, nI_tn (by omega), nI_tn (by omega), nI_tn (by omega)]; exact hx.sh (fun k hk => if_neg (by omega)) (fun _ _ => rfl) (fun q hq => if_neg (by omega)) (hx.ss.cpy (s := 0) (o := 2) (by decide) (by decide) y1 hi1 hi2 hj1)))
                  · refine z_bipush (v := -12) d_X11_copy_93 (by decide) ?_
                    exact z_iret _ d_X11_copy_95 rfl (XP.of (by rw [copR, copX, if_pos his, if_pos hio, show (nI 0).toInt.toNat = 0 from nI_tn (by omega), show (nI 2).toInt.toNat = 2 from nI_tn (by omega), if_neg y1, if_neg z1, if_pos hso, cop_off ⟨y6, y7⟩ ⟨z6, z7⟩ (fun hh => by have q1 := hh.2; rw [← z5] at q1; rw [show hoQ (N (11 + 2 * 2)) j n0 = false from b01_z c_90] at q1; exact absurd q1 (by decide))]) (by rw [copA, copX, if_pos his, if_pos hio, show (nI 0).toInt.toNat = 0 from nI_tn (by omega), show (nI 2).toInt.toNat = 2 from nI_tn (by omega), if_neg y1, if_neg z1, if_pos hso, cop_off ⟨y6, y7⟩ ⟨z6, z7⟩ (fun hh => by have q1 := hh.2; rw [← z5] at q1; rw [show hoQ (N (11 + 2 * 2)) j n0 = false from b01_z c_90] at q1; exact absurd q1 (by decide))]; exact hx))
              · refine z_bipush (v := -13) d_X11_copy_67 (by decide) ?_
                exact z_iret _ d_X11_copy_69 rfl (XP.of (by rw [copR, copX, if_pos his, if_pos hio, show (nI 0).toInt.toNat = 0 from nI_tn (by omega), show (nI 2).toInt.toNat = 2 from nI_tn (by omega), if_neg y1, if_neg z1, if_neg (show ¬ A 37 0 = A 37 2 from fun hh => c_64 ((show N 10 = A 37 0 from y2).trans (hh.trans (show N 14 = A 37 2 from z2).symm)))]) (by rw [copA, copX, if_pos his, if_pos hio, show (nI 0).toInt.toNat = 0 from nI_tn (by omega), show (nI 2).toInt.toNat = 2 from nI_tn (by omega), if_neg y1, if_neg z1, if_neg (show ¬ A 37 0 = A 37 2 from fun hh => c_64 ((show N 10 = A 37 0 from y2).trans (hh.trans (show N 14 = A 37 2 from z2).symm)))]; exact hx))
            · refine z_bipush (v := -11) d_X11_copy_51 (by decide) ?_
              exact z_iret _ d_X11_copy_53 rfl (XP.of (by rw [copR, copX, if_pos his, if_pos hio, show (nI 0).toInt.toNat = 0 from nI_tn (by omega), show (nI 2).toInt.toNat = 2 from nI_tn (by omega), if_neg (show ¬ A 36 0 = 0 from (hx.ss.yes (j := 0) (by decide) c_39).1), if_pos (show A 36 2 = 0 from hx.ss.no (j := 2) (by decide) c_48)]) (by rw [copA, copX, if_pos his, if_pos hio, show (nI 0).toInt.toNat = 0 from nI_tn (by omega), show (nI 2).toInt.toNat = 2 from nI_tn (by omega), if_neg (show ¬ A 36 0 = 0 from (hx.ss.yes (j := 0) (by decide) c_39).1), if_pos (show A 36 2 = 0 from hx.ss.no (j := 2) (by decide) c_48)]; exact hx))
        · refine z_get (v := .ref (x 22)) (0) f_X11_24_11 rfl rfl d_X11_copy_18 ?_
          refine z_iload_n d_X11_copy_21 1 rfl ?_
          refine z_aldq (C0 := RX7) 22 5 0 rfl rfl (nI_toInt (by omega)) (by omega) d_X11_copy_22 ?_
          refine z_topv (v := .ref (x 23)) rfl ?_
          refine z_astore [(6, .ref (x 23)), (0, .ref (x 0)), (1, .int (nI 0)), (2, .int i), (3, .int (nI 3)), (4, .int j), (5, .int n0)] d_X11_copy_23 (by decide) rfl ?_
          refine z_aload_n d_X11_copy_25 1 rfl ?_
          refine z_get (v := .ref (x 22)) (0) f_X11_24_11 rfl rfl d_X11_copy_26 ?_
          refine z_iload_n d_X11_copy_29 4 rfl ?_
          refine z_aldq (C0 := RX7) 22 5 3 rfl rfl (nI_toInt (by omega)) (by omega) d_X11_copy_30 ?_
          refine z_topv (v := .ref (x 29)) rfl ?_
          refine z_astore [(7, .ref (x 29)), (6, .ref (x 23)), (0, .ref (x 0)), (1, .int (nI 0)), (2, .int i), (3, .int (nI 3)), (4, .int j), (5, .int n0)] d_X11_copy_31 (by decide) rfl ?_
          refine z_aload d_X11_copy_33 1 rfl ?_
          refine z_get (v := .int (N 10)) (23) f_X11_256_7 rfl rfl d_X11_copy_35 ?_
          refine z_iconst (v := -1) d_X11_copy_38 (by decide) ?_
          refine z_icmp_eq d_X11_copy_39 (fun c_39 => ?_) (fun c_39 => ?_)
          · refine z_bipush (v := -11) d_X11_copy_51 (by decide) ?_
            exact z_iret _ d_X11_copy_53 rfl (XP.of (by rw [copR, copX, if_pos his, if_pos hio, show (nI 0).toInt.toNat = 0 from nI_tn (by omega), show (nI 3).toInt.toNat = 3 from nI_tn (by omega), if_pos (show A 36 0 = 0 from hx.ss.no (j := 0) (by decide) c_39)]) (by rw [copA, copX, if_pos his, if_pos hio, show (nI 0).toInt.toNat = 0 from nI_tn (by omega), show (nI 3).toInt.toNat = 3 from nI_tn (by omega), if_pos (show A 36 0 = 0 from hx.ss.no (j := 0) (by decide) c_39)]; exact hx))
          · refine z_aload d_X11_copy_42 0 rfl ?_
            refine z_get (v := .int (N 16)) (29) f_X11_256_7 rfl rfl d_X11_copy_44 ?_
            refine z_iconst (v := -1) d_X11_copy_47 (by decide) ?_
            refine z_icmp_ne d_X11_copy_48 (fun c_48 => ?_) (fun c_48 => ?_)
            · obtain ⟨y1, y2, y3, y4, y5, y6, y7, y8⟩ := hx.ss.yes (j := 0) (by decide) c_39
              obtain ⟨z1, z2, z3, z4, z5, z6, z7, z8⟩ := hx.ss.yes (j := 3) (by decide) c_48
              refine z_aload d_X11_copy_54 1 rfl ?_
              refine z_get (v := .int (N 10)) (23) f_X11_256_7 rfl rfl d_X11_copy_56 ?_
              refine z_aload d_X11_copy_59 0 rfl ?_
              refine z_get (v := .int (N 16)) (29) f_X11_256_7 rfl rfl d_X11_copy_61 ?_
              refine z_icmp_eq d_X11_copy_64 (fun c_64 => ?_) (fun c_64 => ?_)
              · have hso : A 37 0 = A 37 3 := (show N 10 = A 37 0 from y2).symm.trans (c_64.trans (show N 16 = A 37 3 from z2))
                refine z_aload d_X11_copy_70 1 rfl ?_
                refine z_iload_n d_X11_copy_72 4 rfl ?_
                refine z_iload d_X11_copy_73 7 rfl ?_
                refine z_callVp 23 c_X11_263 (t_holds0 G x N R K r S T tl i n0) rfl rfl rfl rfl (Nat.le_of_ble_eq_true rfl) rfl d_X11_copy_75 ?_
                refine z_if_eq d_X11_copy_78 (fun c_78 => ?_) (fun c_78 => ?_)
                · refine z_bipush (v := -12) d_X11_copy_93 (by decide) ?_
                  exact z_iret _ d_X11_copy_95 rfl (XP.of (by rw [copR, copX, if_pos his, if_pos hio, show (nI 0).toInt.toNat = 0 from nI_tn (by omega), show (nI 3).toInt.toNat = 3 from nI_tn (by omega), if_neg y1, if_neg z1, if_pos hso, cop_off ⟨y6, y7⟩ ⟨z6, z7⟩ (fun hh => by have q1 := hh.1; rw [← y5] at q1; rw [show hoQ (N (11 + 2 * 0)) i n0 = false from b01_z c_78] at q1; exact absurd q1 (by decide))]) (by rw [copA, copX, if_pos his, if_pos hio, show (nI 0).toInt.toNat = 0 from nI_tn (by omega), show (nI 3).toInt.toNat = 3 from nI_tn (by omega), if_neg y1, if_neg z1, if_pos hso, cop_off ⟨y6, y7⟩ ⟨z6, z7⟩ (fun hh => by have q1 := hh.1; rw [← y5] at q1; rw [show hoQ (N (11 + 2 * 0)) i n0 = false from b01_z c_78] at q1; exact absurd q1 (by decide))]; exact hx))
                · refine z_aload d_X11_copy_81 0 rfl ?_
                  refine z_iload d_X11_copy_83 6 rfl ?_
                  refine z_iload d_X11_copy_85 7 rfl ?_
                  refine z_callVp 29 c_X11_263 (t_holds3 G x N R K r S T tl j n0) rfl rfl rfl rfl (Nat.le_of_ble_eq_true rfl) rfl d_X11_copy_87 ?_
                  refine z_if_ne d_X11_copy_90 (fun c_90 => ?_) (fun c_90 => ?_)
                  · have g1 : hoQ (A 38 0) i n0 = true := by rw [← y5]; exact b01_o c_78
                    have g2 : hoQ (A 38 3) j n0 = true := by rw [← z5]; exact b01_o c_90
                    obtain ⟨a1, a2, a3⟩ := (ho_iff ⟨y6, y7⟩).mp g1
                    obtain ⟨b1, b2, b3⟩ := (ho_iff ⟨z6, z7⟩).mp g2
                    rw [lt_i, i_0] at a1 a2 b1
                    have ln := n0.toInt_lt
                    rw [lt_i, isub (by omega) (by omega)] at a3 b3
                    obtain ⟨iq, hiq⟩ : ∃ q : Nat, i = nI q ∧ (q : Int) = i.toInt := ⟨i.toInt.toNat, eq_nI (by omega), by omega⟩
                    obtain ⟨jq, hjq⟩ : ∃ q : Nat, j = nI q ∧ (q : Int) = j.toInt := ⟨j.toInt.toNat, eq_nI (by omega), by omega⟩
                    obtain ⟨m, hmq⟩ : ∃ q : Nat, n0 = nI q ∧ (q : Int) = n0.toInt := ⟨n0.toInt.toNat, eq_nI (by omega), by omega⟩
                    have hi1 : iq + m ≤ (A 38 0).toInt.toNat := by omega
                    have hj1 : jq + m ≤ 40 := by omega
                    have hi2 : iq + m ≤ 40 := by omega
                    refine z_aload d_X11_copy_96 1 rfl ?_
                    refine z_get (v := .ref (x 24)) (23) f_X11_266_7 rfl rfl d_X11_copy_98 ?_
                    refine z_iload_n d_X11_copy_101 4 rfl ?_
                    refine z_aload d_X11_copy_102 0 rfl ?_
                    refine z_get (v := .ref (x 30)) (29) f_X11_266_7 rfl rfl d_X11_copy_104 ?_
                    refine z_iload d_X11_copy_107 6 rfl ?_
                    refine z_iload d_X11_copy_109 7 rfl ?_
                    refine z_copyi 24 30 iq jq m (XW G x N (vf_upd R 10 (va_cpy (R 7) (R 10) iq jq m)) K r S T tl) rfl rfl hiq.2.symm hjq.2.symm hmq.2.symm hi2 hj1 w_0971 rfl (by decide +kernel) (xa_30 G x N R K r S T tl _) d_X11_copy_111 ?_
                    refine z_iload d_X11_copy_114 7 rfl ?_
                    exact z_iret _ d_X11_copy_116 rfl (XP.of (by rw [copR, copX, if_pos his, if_pos hio, show (nI 0).toInt.toNat = 0 from nI_tn (by omega), show (nI 3).toInt.toNat = 3 from nI_tn (by omega), if_neg y1, if_neg z1, if_pos hso, cop_on ⟨y6, y7⟩ ⟨z6, z7⟩ g1 g2]) (by rw [copA, copX, if_pos his, if_pos hio, show (nI 0).toInt.toNat = 0 from nI_tn (by omega), show (nI 3).toInt.toNat = 3 from nI_tn (by omega), if_neg y1, if_neg z1, if_pos hso, cop_on ⟨y6, y7⟩ ⟨z6, z7⟩ g1 g2, hiq.1, hjq.1, hmq.1, nI_tn (by omega), nI_tn (by omega), nI_tn (by omega)]; exact hx.sh (fun k hk => if_neg (by omega)) (fun _ _ => rfl) (fun q hq => if_neg (by omega)) (hx.ss.cpy (s := 0) (o := 3) (by decide) (by decide) y1 hi1 hi2 hj1)))
                  · refine z_bipush (v := -12) d_X11_copy_93 (by decide) ?_
                    exact z_iret _ d_X11_copy_95 rfl (XP.of (by rw [copR, copX, if_pos his, if_pos hio, show (nI 0).toInt.toNat = 0 from nI_tn (by omega), show (nI 3).toInt.toNat = 3 from nI_tn (by omega), if_neg y1, if_neg z1, if_pos hso, cop_off ⟨y6, y7⟩ ⟨z6, z7⟩ (fun hh => by have q1 := hh.2; rw [← z5] at q1; rw [show hoQ (N (11 + 2 * 3)) j n0 = false from b01_z c_90] at q1; exact absurd q1 (by decide))]) (by rw [copA, copX, if_pos his, if_pos hio, show (nI 0).toInt.toNat = 0 from nI_tn (by omega), show (nI 3).toInt.toNat = 3 from nI_tn (by omega), if_neg y1, if_neg z1, if_pos hso, cop_off ⟨y6, y7⟩ ⟨z6, z7⟩ (fun hh => by have q1 := hh.2; rw [← z5] at q1; rw [show hoQ (N (11 + 2 * 3)) j n0 = false from b01_z c_90] at q1; exact absurd q1 (by decide))]; exact hx))
              · refine z_bipush (v := -13) d_X11_copy_67 (by decide) ?_
                exact z_iret _ d_X11_copy_69 rfl (XP.of (by rw [copR, copX, if_pos his, if_pos hio, show (nI 0).toInt.toNat = 0 from nI_tn (by omega), show (nI 3).toInt.toNat = 3 from nI_tn (by omega), if_neg y1, if_neg z1, if_neg (show ¬ A 37 0 = A 37 3 from fun hh => c_64 ((show N 10 = A 37 0 from y2).trans (hh.trans (show N 16 = A 37 3 from z2).symm)))]) (by rw [copA, copX, if_pos his, if_pos hio, show (nI 0).toInt.toNat = 0 from nI_tn (by omega), show (nI 3).toInt.toNat = 3 from nI_tn (by omega), if_neg y1, if_neg z1, if_neg (show ¬ A 37 0 = A 37 3 from fun hh => c_64 ((show N 10 = A 37 0 from y2).trans (hh.trans (show N 16 = A 37 3 from z2).symm)))]; exact hx))
            · refine z_bipush (v := -11) d_X11_copy_51 (by decide) ?_
              exact z_iret _ d_X11_copy_53 rfl (XP.of (by rw [copR, copX, if_pos his, if_pos hio, show (nI 0).toInt.toNat = 0 from nI_tn (by omega), show (nI 3).toInt.toNat = 3 from nI_tn (by omega), if_neg (show ¬ A 36 0 = 0 from (hx.ss.yes (j := 0) (by decide) c_39).1), if_pos (show A 36 3 = 0 from hx.ss.no (j := 3) (by decide) c_48)]) (by rw [copA, copX, if_pos his, if_pos hio, show (nI 0).toInt.toNat = 0 from nI_tn (by omega), show (nI 3).toInt.toNat = 3 from nI_tn (by omega), if_neg (show ¬ A 36 0 = 0 from (hx.ss.yes (j := 0) (by decide) c_39).1), if_pos (show A 36 3 = 0 from hx.ss.no (j := 3) (by decide) c_48)]; exact hx))
      · refine z_aload_n d_X11_copy_17 0 rfl ?_
        obtain ⟨j_o, hj_o, ej_o⟩ := inB_nI hio
        replace hj_o : j_o < 4 := hj_o
        subst ej_o
        rcases (show j_o = 0 ∨ j_o = 1 ∨ j_o = 2 ∨ j_o = 3 by omega) with rfl | rfl | rfl | rfl
        · refine z_get (v := .ref (x 22)) (0) f_X11_24_11 rfl rfl d_X11_copy_18 ?_
          refine z_iload_n d_X11_copy_21 1 rfl ?_
          refine z_aldq (C0 := RX7) 22 5 1 rfl rfl (nI_toInt (by omega)) (by omega) d_X11_copy_22 ?_
          refine z_topv (v := .ref (x 25)) rfl ?_
          refine z_astore [(6, .ref (x 25)), (0, .ref (x 0)), (1, .int (nI 1)), (2, .int i), (3, .int (nI 0)), (4, .int j), (5, .int n0)] d_X11_copy_23 (by decide) rfl ?_
          refine z_aload_n d_X11_copy_25 1 rfl ?_
          refine z_get (v := .ref (x 22)) (0) f_X11_24_11 rfl rfl d_X11_copy_26 ?_
          refine z_iload_n d_X11_copy_29 4 rfl ?_
          refine z_aldq (C0 := RX7) 22 5 0 rfl rfl (nI_toInt (by omega)) (by omega) d_X11_copy_30 ?_
          refine z_topv (v := .ref (x 23)) rfl ?_
          refine z_astore [(7, .ref (x 23)), (6, .ref (x 25)), (0, .ref (x 0)), (1, .int (nI 1)), (2, .int i), (3, .int (nI 0)), (4, .int j), (5, .int n0)] d_X11_copy_31 (by decide) rfl ?_
          refine z_aload d_X11_copy_33 1 rfl ?_
          refine z_get (v := .int (N 12)) (25) f_X11_256_7 rfl rfl d_X11_copy_35 ?_
          refine z_iconst (v := -1) d_X11_copy_38 (by decide) ?_
          refine z_icmp_eq d_X11_copy_39 (fun c_39 => ?_) (fun c_39 => ?_)
          · refine z_bipush (v := -11) d_X11_copy_51 (by decide) ?_
            exact z_iret _ d_X11_copy_53 rfl (XP.of (by rw [copR, copX, if_pos his, if_pos hio, show (nI 1).toInt.toNat = 1 from nI_tn (by omega), show (nI 0).toInt.toNat = 0 from nI_tn (by omega), if_pos (show A 36 1 = 0 from hx.ss.no (j := 1) (by decide) c_39)]) (by rw [copA, copX, if_pos his, if_pos hio, show (nI 1).toInt.toNat = 1 from nI_tn (by omega), show (nI 0).toInt.toNat = 0 from nI_tn (by omega), if_pos (show A 36 1 = 0 from hx.ss.no (j := 1) (by decide) c_39)]; exact hx))
          · refine z_aload d_X11_copy_42 0 rfl ?_
            refine z_get (v := .int (N 10)) (23) f_X11_256_7 rfl rfl d_X11_copy_44 ?_
            refine z_iconst (v := -1) d_X11_copy_47 (by decide) ?_
            refine z_icmp_ne d_X11_copy_48 (fun c_48 => ?_) (fun c_48 => ?_)
            · obtain ⟨y1, y2, y3, y4, y5, y6, y7, y8⟩ := hx.ss.yes (j := 1) (by decide) c_39
              obtain ⟨z1, z2, z3, z4, z5, z6, z7, z8⟩ := hx.ss.yes (j := 0) (by decide) c_48
              refine z_aload d_X11_copy_54 1 rfl ?_
              refine z_get (v := .int (N 12)) (25) f_X11_256_7 rfl rfl d_X11_copy_56 ?_
              refine z_aload d_X11_copy_59 0 rfl ?_
              refine z_get (v := .int (N 10)) (23) f_X11_256_7 rfl rfl d_X11_copy_61 ?_
              refine z_icmp_eq d_X11_copy_64 (fun c_64 => ?_) (fun c_64 => ?_)
              · have hso : A 37 1 = A 37 0 := (show N 12 = A 37 1 from y2).symm.trans (c_64.trans (show N 10 = A 37 0 from z2))
                refine z_aload d_X11_copy_70 1 rfl ?_
                refine z_iload_n d_X11_copy_72 4 rfl ?_
                refine z_iload d_X11_copy_73 7 rfl ?_
                refine z_callVp 25 c_X11_263 (t_holds1 G x N R K r S T tl i n0) rfl rfl rfl rfl (Nat.le_of_ble_eq_true rfl) rfl d_X11_copy_75 ?_
                refine z_if_eq d_X11_copy_78 (fun c_78 => ?_) (fun c_78 => ?_)
                · refine z_bipush (v := -12) d_X11_copy_93 (by decide) ?_
                  exact z_iret _ d_X11_copy_95 rfl (XP.of (by rw [copR, copX, if_pos his, if_pos hio, show (nI 1).toInt.toNat = 1 from nI_tn (by omega), show (nI 0).toInt.toNat = 0 from nI_tn (by omega), if_neg y1, if_neg z1, if_pos hso, cop_off ⟨y6, y7⟩ ⟨z6, z7⟩ (fun hh => by have q1 := hh.1; rw [← y5] at q1; rw [show hoQ (N (11 + 2 * 1)) i n0 = false from b01_z c_78] at q1; exact absurd q1 (by decide))]) (by rw [copA, copX, if_pos his, if_pos hio, show (nI 1).toInt.toNat = 1 from nI_tn (by omega), show (nI 0).toInt.toNat = 0 from nI_tn (by omega), if_neg y1, if_neg z1, if_pos hso, cop_off ⟨y6, y7⟩ ⟨z6, z7⟩ (fun hh => by have q1 := hh.1; rw [← y5] at q1; rw [show hoQ (N (11 + 2 * 1)) i n0 = false from b01_z c_78] at q1; exact absurd q1 (by decide))]; exact hx))
                · refine z_aload d_X11_copy_81 0 rfl ?_
                  refine z_iload d_X11_copy_83 6 rfl ?_
                  refine z_iload d_X11_copy_85 7 rfl ?_
                  refine z_callVp 23 c_X11_263 (t_holds0 G x N R K r S T tl j n0) rfl rfl rfl rfl (Nat.le_of_ble_eq_true rfl) rfl d_X11_copy_87 ?_
                  refine z_if_ne d_X11_copy_90 (fun c_90 => ?_) (fun c_90 => ?_)
                  · have g1 : hoQ (A 38 1) i n0 = true := by rw [← y5]; exact b01_o c_78
                    have g2 : hoQ (A 38 0) j n0 = true := by rw [← z5]; exact b01_o c_90
                    obtain ⟨a1, a2, a3⟩ := (ho_iff ⟨y6, y7⟩).mp g1
                    obtain ⟨b1, b2, b3⟩ := (ho_iff ⟨z6, z7⟩).mp g2
                    rw [lt_i, i_0] at a1 a2 b1
                    have ln := n0.toInt_lt
                    rw [lt_i, isub (by omega) (by omega)] at a3 b3
                    obtain ⟨iq, hiq⟩ : ∃ q : Nat, i = nI q ∧ (q : Int) = i.toInt := ⟨i.toInt.toNat, eq_nI (by omega), by omega⟩
                    obtain ⟨jq, hjq⟩ : ∃ q : Nat, j = nI q ∧ (q : Int) = j.toInt := ⟨j.toInt.toNat, eq_nI (by omega), by omega⟩
                    obtain ⟨m, hmq⟩ : ∃ q : Nat, n0 = nI q ∧ (q : Int) = n0.toInt := ⟨n0.toInt.toNat, eq_nI (by omega), by omega⟩
                    have hi1 : iq + m ≤ (A 38 1).toInt.toNat := by omega
                    have hj1 : jq + m ≤ 40 := by omega
                    have hi2 : iq + m ≤ 40 := by omega
                    refine z_aload d_X11_copy_96 1 rfl ?_
                    refine z_get (v := .ref (x 26)) (25) f_X11_266_7 rfl rfl d_X11_copy_98 ?_
                    refine z_iload_n d_X11_copy_101 4 rfl ?_
                    refine z_aload d_X11_copy_102 0 rfl ?_
                    refine z_get (v := .ref (x 24)) (23) f_X11_266_7 rfl rfl d_X11_copy_104 ?_
                    refine z_iload d_X11_copy_107 6 rfl ?_
                    refine z_iload d_X11_copy_109 7 rfl ?_
                    refine z_copyi 26 24 iq jq m (XW G x N (vf_upd R 7 (va_cpy (R 8) (R 7) iq jq m)) K r S T tl) rfl rfl hiq.2.symm hjq.2.symm hmq.2.symm hi2 hj1 w_0971 rfl (by decide +kernel) (xa_24 G x N R K r S T tl _) d_X11_copy_111 ?_
                    refine z_iload d_X11_copy_114 7 rfl ?_
                    exact z_iret _ d_X11_copy_116 rfl (XP.of (by rw [copR, copX, if_pos his, if_pos hio, show (nI 1).toInt.toNat = 1 from nI_tn (by omega), show (nI 0).toInt.toNat = 0 from nI_tn (by omega), if_neg y1, if_neg z1, if_pos hso, cop_on ⟨y6, y7⟩ ⟨z6, z7⟩ g1 g2]) (by rw [copA, copX, if_pos his, if_pos hio, show (nI 1).toInt.toNat = 1 from nI_tn (by omega), show (nI 0).toInt.toNat = 0 from nI_tn (by omega), if_neg y1, if_neg z1, if_pos hso, cop_on ⟨y6, y7⟩ ⟨z6, z7⟩ g1 g2, hiq.1, hjq.1, hmq.1, nI_tn (by omega), nI_tn (by omega), nI_tn (by omega)]; exact hx.sh (fun k hk => if_neg (by omega)) (fun _ _ => rfl) (fun q hq => if_neg (by omega)) (hx.ss.cpy (s := 1) (o := 0) (by decide) (by decide) y1 hi1 hi2 hj1)))
                  · refine z_bipush (v := -12) d_X11_copy_93 (by decide) ?_
                    exact z_iret _ d_X11_copy_95 rfl (XP.of (by rw [copR, copX, if_pos his, if_pos hio, show (nI 1).toInt.toNat = 1 from nI_tn (by omega), show (nI 0).toInt.toNat = 0 from nI_tn (by omega), if_neg y1, if_neg z1, if_pos hso, cop_off ⟨y6, y7⟩ ⟨z6, z7⟩ (fun hh => by have q1 := hh.2; rw [← z5] at q1; rw [show hoQ (N (11 + 2 * 0)) j n0 = false from b01_z c_90] at q1; exact absurd q1 (by decide))]) (by rw [copA, copX, if_pos his, if_pos hio, show (nI 1).toInt.toNat = 1 from nI_tn (by omega), show (nI 0).toInt.toNat = 0 from nI_tn (by omega), if_neg y1, if_neg z1, if_pos hso, cop_off ⟨y6, y7⟩ ⟨z6, z7⟩ (fun hh => by have q1 := hh.2; rw [← z5] at q1; rw [show hoQ (N (11 + 2 * 0)) j n0 = false from b01_z c_90] at q1; exact absurd q1 (by decide))]; exact hx))
              · refine z_bipush (v := -13) d_X11_copy_67 (by decide) ?_
                exact z_iret _ d_X11_copy_69 rfl (XP.of (by rw [copR, copX, if_pos his, if_pos hio, show (nI 1).toInt.toNat = 1 from nI_tn (by omega), show (nI 0).toInt.toNat = 0 from nI_tn (by omega), if_neg y1, if_neg z1, if_neg (show ¬ A 37 1 = A 37 0 from fun hh => c_64 ((show N 12 = A 37 1 from y2).trans (hh.trans (show N 10 = A 37 0 from z2).symm)))]) (by rw [copA, copX, if_pos his, if_pos hio, show (nI 1).toInt.toNat = 1 from nI_tn (by omega), show (nI 0).toInt.toNat = 0 from nI_tn (by omega), if_neg y1, if_neg z1, if_neg (show ¬ A 37 1 = A 37 0 from fun hh => c_64 ((show N 12 = A 37 1 from y2).trans (hh.trans (show N 10 = A 37 0 from z2).symm)))]; exact hx))
            · refine z_bipush (v := -11) d_X11_copy_51 (by decide) ?_
              exact z_iret _ d_X11_copy_53 rfl (XP.of (by rw [copR, copX, if_pos his, if_pos hio, show (nI 1).toInt.toNat = 1 from nI_tn (by omega), show (nI 0).toInt.toNat = 0 from nI_tn (by omega), if_neg (show ¬ A 36 1 = 0 from (hx.ss.yes (j := 1) (by decide) c_39).1), if_pos (show A 36 0 = 0 from hx.ss.no (j := 0) (by decide) c_48)]) (by rw [copA, copX, if_pos his, if_pos hio, show (nI 1).toInt.toNat = 1 from nI_tn (by omega), show (nI 0).toInt.toNat = 0 from nI_tn (by omega), if_neg (show ¬ A 36 1 = 0 from (hx.ss.yes (j := 1) (by decide) c_39).1), if_pos (show A 36 0 = 0 from hx.ss.no (j := 0) (by decide) c_48)]; exact hx))
        · refine z_get (v := .ref (x 22)) (0) f_X11_24_11 rfl rfl d_X11_copy_18 ?_
          refine z_iload_n d_X11_copy_21 1 rfl ?_
          refine z_aldq (C0 := RX7) 22 5 1 rfl rfl (nI_toInt (by omega)) (by omega) d_X11_copy_22 ?_
          refine z_topv (v := .ref (x 25)) rfl ?_
          refine z_astore [(6, .ref (x 25)), (0, .ref (x 0)), (1, .int (nI 1)), (2, .int i), (3, .int (nI 1)), (4, .int j), (5, .int n0)] d_X11_copy_23 (by decide) rfl ?_
          refine z_aload_n d_X11_copy_25 1 rfl ?_
          refine z_get (v := .ref (x 22)) (0) f_X11_24_11 rfl rfl d_X11_copy_26 ?_
          refine z_iload_n d_X11_copy_29 4 rfl ?_
          refine z_aldq (C0 := RX7) 22 5 1 rfl rfl (nI_toInt (by omega)) (by omega) d_X11_copy_30 ?_
          refine z_topv (v := .ref (x 25)) rfl ?_
          refine z_astore [(7, .ref (x 25)), (6, .ref (x 25)), (0, .ref (x 0)), (1, .int (nI 1)), (2, .int i), (3, .int (nI 1)), (4, .int j), (5, .int n0)] d_X11_copy_31 (by decide) rfl ?_
          refine z_aload d_X11_copy_33 1 rfl ?_
          refine z_get (v := .int (N 12)) (25) f_X11_256_7 rfl rfl d_X11_copy_35 ?_
          refine z_iconst (v := -1) d_X11_copy_38 (by decide) ?_
          refine z_icmp_eq d_X11_copy_39 (fun c_39 => ?_) (fun c_39 => ?_)
          · refine z_bipush (v := -11) d_X11_copy_51 (by decide) ?_
            exact z_iret _ d_X11_copy_53 rfl (XP.of (by rw [copR, copX, if_pos his, if_pos hio, show (nI 1).toInt.toNat = 1 from nI_tn (by omega), if_pos (show A 36 1 = 0 from hx.ss.no (j := 1) (by decide) c_39)]) (by rw [copA, copX, if_pos his, if_pos hio, show (nI 1).toInt.toNat = 1 from nI_tn (by omega), if_pos (show A 36 1 = 0 from hx.ss.no (j := 1) (by decide) c_39)]; exact hx))
          · refine z_aload d_X11_copy_42 0 rfl ?_
            refine z_get (v := .int (N 12)) (25) f_X11_256_7 rfl rfl d_X11_copy_44 ?_
            refine z_iconst (v := -1) d_X11_copy_47 (by decide) ?_
            refine z_icmp_ne d_X11_copy_48 (fun c_48 => ?_) (fun c_48 => ?_)
            · obtain ⟨y1, y2, y3, y4, y5, y6, y7, y8⟩ := hx.ss.yes (j := 1) (by decide) c_39
              obtain ⟨z1, z2, z3, z4, z5, z6, z7, z8⟩ := hx.ss.yes (j := 1) (by decide) c_48
              refine z_aload d_X11_copy_54 1 rfl ?_
              refine z_get (v := .int (N 12)) (25) f_X11_256_7 rfl rfl d_X11_copy_56 ?_
              refine z_aload d_X11_copy_59 0 rfl ?_
              refine z_get (v := .int (N 12)) (25) f_X11_256_7 rfl rfl d_X11_copy_61 ?_
              refine z_icmp_eq d_X11_copy_64 (fun c_64 => ?_) (fun c_64 => ?_)
              · have hso : A 37 1 = A 37 1 := (show N 12 = A 37 1 from y2).symm.trans (c_64.trans (show N 12 = A 37 1 from z2))
                refine z_aload d_X11_copy_70 1 rfl ?_
                refine z_iload_n d_X11_copy_72 4 rfl ?_
                refine z_iload d_X11_copy_73 7 rfl ?_
                refine z_callVp 25 c_X11_263 (t_holds1 G x N R K r S T tl i n0) rfl rfl rfl rfl (Nat.le_of_ble_eq_true rfl) rfl d_X11_copy_75 ?_
                refine z_if_eq d_X11_copy_78 (fun c_78 => ?_) (fun c_78 => ?_)
                · refine z_bipush (v := -12) d_X11_copy_93 (by decide) ?_
                  exact z_iret _ d_X11_copy_95 rfl (XP.of (by rw [copR, copX, if_pos his, if_pos hio, show (nI 1).toInt.toNat = 1 from nI_tn (by omega), if_neg y1, if_neg z1, if_pos hso, cop_off ⟨y6, y7⟩ ⟨z6, z7⟩ (fun hh => by have q1 := hh.1; rw [← y5] at q1; rw [show hoQ (N (11 + 2 * 1)) i n0 = false from b01_z c_78] at q1; exact absurd q1 (by decide))]) (by rw [copA, copX, if_pos his, if_pos hio, show (nI 1).toInt.toNat = 1 from nI_tn (by omega), if_neg y1, if_neg z1, if_pos hso, cop_off ⟨y6, y7⟩ ⟨z6, z7⟩ (fun hh => by have q1 := hh.1; rw [← y5] at q1; rw [show hoQ (N (11 + 2 * 1)) i n0 = false from b01_z c_78] at q1; exact absurd q1 (by decide))]; exact hx))
                · refine z_aload d_X11_copy_81 0 rfl ?_
                  refine z_iload d_X11_copy_83 6 rfl ?_
                  refine z_iload d_X11_copy_85 7 rfl ?_
                  refine z_callVp 25 c_X11_263 (t_holds1 G x N R K r S T tl j n0) rfl rfl rfl rfl (Nat.le_of_ble_eq_true rfl) rfl d_X11_copy_87 ?_
                  refine z_if_ne d_X11_copy_90 (fun c_90 => ?_) (fun c_90 => ?_)
                  · have g1 : hoQ (A 38 1) i n0 = true := by rw [← y5]; exact b01_o c_78
                    have g2 : hoQ (A 38 1) j n0 = true := by rw [← z5]; exact b01_o c_90
                    obtain ⟨a1, a2, a3⟩ := (ho_iff ⟨y6, y7⟩).mp g1
                    obtain ⟨b1, b2, b3⟩ := (ho_iff ⟨z6, z7⟩).mp g2
                    rw [lt_i, i_0] at a1 a2 b1
                    have ln := n0.toInt_lt
                    rw [lt_i, isub (by omega) (by omega)] at a3 b3
                    obtain ⟨iq, hiq⟩ : ∃ q : Nat, i = nI q ∧ (q : Int) = i.toInt := ⟨i.toInt.toNat, eq_nI (by omega), by omega⟩
                    obtain ⟨jq, hjq⟩ : ∃ q : Nat, j = nI q ∧ (q : Int) = j.toInt := ⟨j.toInt.toNat, eq_nI (by omega), by omega⟩
                    obtain ⟨m, hmq⟩ : ∃ q : Nat, n0 = nI q ∧ (q : Int) = n0.toInt := ⟨n0.toInt.toNat, eq_nI (by omega), by omega⟩
                    have hi1 : iq + m ≤ (A 38 1).toInt.toNat := by omega
                    have hj1 : jq + m ≤ 40 := by omega
                    have hi2 : iq + m ≤ 40 := by omega
                    refine z_aload d_X11_copy_96 1 rfl ?_
                    refine z_get (v := .ref (x 26)) (25) f_X11_266_7 rfl rfl d_X11_copy_98 ?_
                    refine z_iload_n d_X11_copy_101 4 rfl ?_
                    refine z_aload d_X11_copy_102 0 rfl ?_
                    refine z_get (v := .ref (x 26)) (25) f_X11_266_7 rfl rfl d_X11_copy_104 ?_
                    refine z_iload d_X11_copy_107 6 rfl ?_
                    refine z_iload d_X11_copy_109 7 rfl ?_
                    refine z_copyi 26 26 iq jq m (XW G x N (vf_upd R 8 (va_cpy (R 8) (R 8) iq jq m)) K r S T tl) rfl rfl hiq.2.symm hjq.2.symm hmq.2.symm hi2 hj1 w_0971 rfl (by decide +kernel) (xa_26 G x N R K r S T tl _) d_X11_copy_111 ?_
                    refine z_iload d_X11_copy_114 7 rfl ?_
                    exact z_iret _ d_X11_copy_116 rfl (XP.of (by rw [copR, copX, if_pos his, if_pos hio, show (nI 1).toInt.toNat = 1 from nI_tn (by omega), if_neg y1, if_neg z1, if_pos hso, cop_on ⟨y6, y7⟩ ⟨z6, z7⟩ g1 g2]) (by rw [copA, copX, if_pos his, if_pos hio, show (nI 1).toInt.toNat = 1 from nI_tn (by omega), if_neg y1, if_neg z1, if_pos hso, cop_on ⟨y6, y7⟩ ⟨z6, z7⟩ g1 g2, hiq.1, hjq.1, hmq.1, nI_tn (by omega), nI_tn (by omega), nI_tn (by omega)]; exact hx.sh (fun k hk => if_neg (by omega)) (fun _ _ => rfl) (fun q hq => if_neg (by omega)) (hx.ss.cpy (s := 1) (o := 1) (by decide) (by decide) y1 hi1 hi2 hj1)))
                  · refine z_bipush (v := -12) d_X11_copy_93 (by decide) ?_
                    exact z_iret _ d_X11_copy_95 rfl (XP.of (by rw [copR, copX, if_pos his, if_pos hio, show (nI 1).toInt.toNat = 1 from nI_tn (by omega), if_neg y1, if_neg z1, if_pos hso, cop_off ⟨y6, y7⟩ ⟨z6, z7⟩ (fun hh => by have q1 := hh.2; rw [← z5] at q1; rw [show hoQ (N (11 + 2 * 1)) j n0 = false from b01_z c_90] at q1; exact absurd q1 (by decide))]) (by rw [copA, copX, if_pos his, if_pos hio, show (nI 1).toInt.toNat = 1 from nI_tn (by omega), if_neg y1, if_neg z1, if_pos hso, cop_off ⟨y6, y7⟩ ⟨z6, z7⟩ (fun hh => by have q1 := hh.2; rw [← z5] at q1; rw [show hoQ (N (11 + 2 * 1)) j n0 = false from b01_z c_90] at q1; exact absurd q1 (by decide))]; exact hx))
              · refine z_bipush (v := -13) d_X11_copy_67 (by decide) ?_
                exact z_iret _ d_X11_copy_69 rfl (XP.of (by rw [copR, copX, if_pos his, if_pos hio, show (nI 1).toInt.toNat = 1 from nI_tn (by omega), if_neg y1, if_neg z1, if_neg (show ¬ A 37 1 = A 37 1 from fun hh => c_64 ((show N 12 = A 37 1 from y2).trans (hh.trans (show N 12 = A 37 1 from z2).symm)))]) (by rw [copA, copX, if_pos his, if_pos hio, show (nI 1).toInt.toNat = 1 from nI_tn (by omega), if_neg y1, if_neg z1, if_neg (show ¬ A 37 1 = A 37 1 from fun hh => c_64 ((show N 12 = A 37 1 from y2).trans (hh.trans (show N 12 = A 37 1 from z2).symm)))]; exact hx))
            · refine z_bipush (v := -11) d_X11_copy_51 (by decide) ?_
              exact z_iret _ d_X11_copy_53 rfl (XP.of (by rw [copR, copX, if_pos his, if_pos hio, show (nI 1).toInt.toNat = 1 from nI_tn (by omega), if_neg (show ¬ A 36 1 = 0 from (hx.ss.yes (j := 1) (by decide) c_39).1), if_pos (show A 36 1 = 0 from hx.ss.no (j := 1) (by decide) c_48)]) (by rw [copA, copX, if_pos his, if_pos hio, show (nI 1).toInt.toNat = 1 from nI_tn (by omega), if_neg (show ¬ A 36 1 = 0 from (hx.ss.yes (j := 1) (by decide) c_39).1), if_pos (show A 36 1 = 0 from hx.ss.no (j := 1) (by decide) c_48)]; exact hx))
        · refine z_get (v := .ref (x 22)) (0) f_X11_24_11 rfl rfl d_X11_copy_18 ?_
          refine z_iload_n d_X11_copy_21 1 rfl ?_
          refine z_aldq (C0 := RX7) 22 5 1 rfl rfl (nI_toInt (by omega)) (by omega) d_X11_copy_22 ?_
          refine z_topv (v := .ref (x 25)) rfl ?_
          refine z_astore [(6, .ref (x 25)), (0, .ref (x 0)), (1, .int (nI 1)), (2, .int i), (3, .int (nI 2)), (4, .int j), (5, .int n0)] d_X11_copy_23 (by decide) rfl ?_
          refine z_aload_n d_X11_copy_25 1 rfl ?_
          refine z_get (v := .ref (x 22)) (0) f_X11_24_11 rfl rfl d_X11_copy_26 ?_
          refine z_iload_n d_X11_copy_29 4 rfl ?_
          refine z_aldq (C0 := RX7) 22 5 2 rfl rfl (nI_toInt (by omega)) (by omega) d_X11_copy_30 ?_
          refine z_topv (v := .ref (x 27)) rfl ?_
          refine z_astore [(7, .ref (x 27)), (6, .ref (x 25)), (0, .ref (x 0)), (1, .int (nI 1)), (2, .int i), (3, .int (nI 2)), (4, .int j), (5, .int n0)] d_X11_copy_31 (by decide) rfl ?_
          refine z_aload d_X11_copy_33 1 rfl ?_
          refine z_get (v := .int (N 12)) (25) f_X11_256_7 rfl rfl d_X11_copy_35 ?_
          refine z_iconst (v := -1) d_X11_copy_38 (by decide) ?_
          refine z_icmp_eq d_X11_copy_39 (fun c_39 => ?_) (fun c_39 => ?_)
          · refine z_bipush (v := -11) d_X11_copy_51 (by decide) ?_
            exact z_iret _ d_X11_copy_53 rfl (XP.of (by rw [copR, copX, if_pos his, if_pos hio, show (nI 1).toInt.toNat = 1 from nI_tn (by omega), show (nI 2).toInt.toNat = 2 from nI_tn (by omega), if_pos (show A 36 1 = 0 from hx.ss.no (j := 1) (by decide) c_39)]) (by rw [copA, copX, if_pos his, if_pos hio, show (nI 1).toInt.toNat = 1 from nI_tn (by omega), show (nI 2).toInt.toNat = 2 from nI_tn (by omega), if_pos (show A 36 1 = 0 from hx.ss.no (j := 1) (by decide) c_39)]; exact hx))
          · refine z_aload d_X11_copy_42 0 rfl ?_
            refine z_get (v := .int (N 14)) (27) f_X11_256_7 rfl rfl d_X11_copy_44 ?_
            refine z_iconst (v := -1) d_X11_copy_47 (by decide) ?_
            refine z_icmp_ne d_X11_copy_48 (fun c_48 => ?_) (fun c_48 => ?_)
            · obtain ⟨y1, y2, y3, y4, y5, y6, y7, y8⟩ := hx.ss.yes (j := 1) (by decide) c_39
              obtain ⟨z1, z2, z3, z4, z5, z6, z7, z8⟩ := hx.ss.yes (j := 2) (by decide) c_48
              refine z_aload d_X11_copy_54 1 rfl ?_
              refine z_get (v := .int (N 12)) (25) f_X11_256_7 rfl rfl d_X11_copy_56 ?_
              refine z_aload d_X11_copy_59 0 rfl ?_
              refine z_get (v := .int (N 14)) (27) f_X11_256_7 rfl rfl d_X11_copy_61 ?_
              refine z_icmp_eq d_X11_copy_64 (fun c_64 => ?_) (fun c_64 => ?_)
              · have hso : A 37 1 = A 37 2 := (show N 12 = A 37 1 from y2).symm.trans (c_64.trans (show N 14 = A 37 2 from z2))
                refine z_aload d_X11_copy_70 1 rfl ?_
                refine z_iload_n d_X11_copy_72 4 rfl ?_
                refine z_iload d_X11_copy_73 7 rfl ?_
                refine z_callVp 25 c_X11_263 (t_holds1 G x N R K r S T tl i n0) rfl rfl rfl rfl (Nat.le_of_ble_eq_true rfl) rfl d_X11_copy_75 ?_
                refine z_if_eq d_X11_copy_78 (fun c_78 => ?_) (fun c_78 => ?_)
                · refine z_bipush (v := -12) d_X11_copy_93 (by decide) ?_
                  exact z_iret _ d_X11_copy_95 rfl (XP.of (by rw [copR, copX, if_pos his, if_pos hio, show (nI 1).toInt.toNat = 1 from nI_tn (by omega), show (nI 2).toInt.toNat = 2 from nI_tn (by omega), if_neg y1, if_neg z1, if_pos hso, cop_off ⟨y6, y7⟩ ⟨z6, z7⟩ (fun hh => by have q1 := hh.1; rw [← y5] at q1; rw [show hoQ (N (11 + 2 * 1)) i n0 = false from b01_z c_78] at q1; exact absurd q1 (by decide))]) (by rw [copA, copX, if_pos his, if_pos hio, show (nI 1).toInt.toNat = 1 from nI_tn (by omega), show (nI 2).toInt.toNat = 2 from nI_tn (by omega), if_neg y1, if_neg z1, if_pos hso, cop_off ⟨y6, y7⟩ ⟨z6, z7⟩ (fun hh => by have q1 := hh.1; rw [← y5] at q1; rw [show hoQ (N (11 + 2 * 1)) i n0 = false from b01_z c_78] at q1; exact absurd q1 (by decide))]; exact hx))
                · refine z_aload d_X11_copy_81 0 rfl ?_
                  refine z_iload d_X11_copy_83 6 rfl ?_
                  refine z_iload d_X11_copy_85 7 rfl ?_
                  refine z_callVp 27 c_X11_263 (t_holds2 G x N R K r S T tl j n0) rfl rfl rfl rfl (Nat.le_of_ble_eq_true rfl) rfl d_X11_copy_87 ?_
                  refine z_if_ne d_X11_copy_90 (fun c_90 => ?_) (fun c_90 => ?_)
                  · have g1 : hoQ (A 38 1) i n0 = true := by rw [← y5]; exact b01_o c_78
                    have g2 : hoQ (A 38 2) j n0 = true := by rw [← z5]; exact b01_o c_90
                    obtain ⟨a1, a2, a3⟩ := (ho_iff ⟨y6, y7⟩).mp g1
                    obtain ⟨b1, b2, b3⟩ := (ho_iff ⟨z6, z7⟩).mp g2
                    rw [lt_i, i_0] at a1 a2 b1
                    have ln := n0.toInt_lt
                    rw [lt_i, isub (by omega) (by omega)] at a3 b3
                    obtain ⟨iq, hiq⟩ : ∃ q : Nat, i = nI q ∧ (q : Int) = i.toInt := ⟨i.toInt.toNat, eq_nI (by omega), by omega⟩
                    obtain ⟨jq, hjq⟩ : ∃ q : Nat, j = nI q ∧ (q : Int) = j.toInt := ⟨j.toInt.toNat, eq_nI (by omega), by omega⟩
                    obtain ⟨m, hmq⟩ : ∃ q : Nat, n0 = nI q ∧ (q : Int) = n0.toInt := ⟨n0.toInt.toNat, eq_nI (by omega), by omega⟩
                    have hi1 : iq + m ≤ (A 38 1).toInt.toNat := by omega
                    have hj1 : jq + m ≤ 40 := by omega
                    have hi2 : iq + m ≤ 40 := by omega
                    refine z_aload d_X11_copy_96 1 rfl ?_
                    refine z_get (v := .ref (x 26)) (25) f_X11_266_7 rfl rfl d_X11_copy_98 ?_
                    refine z_iload_n d_X11_copy_101 4 rfl ?_
                    refine z_aload d_X11_copy_102 0 rfl ?_
                    refine z_get (v := .ref (x 28)) (27) f_X11_266_7 rfl rfl d_X11_copy_104 ?_
                    refine z_iload d_X11_copy_107 6 rfl ?_
                    refine z_iload d_X11_copy_109 7 rfl ?_
                    refine z_copyi 26 28 iq jq m (XW G x N (vf_upd R 9 (va_cpy (R 8) (R 9) iq jq m)) K r S T tl) rfl rfl hiq.2.symm hjq.2.symm hmq.2.symm hi2 hj1 w_0971 rfl (by decide +kernel) (xa_28 G x N R K r S T tl _) d_X11_copy_111 ?_
                    refine z_iload d_X11_copy_114 7 rfl ?_
                    exact z_iret _ d_X11_copy_116 rfl (XP.of (by rw [copR, copX, if_pos his, if_pos hio, show (nI 1).toInt.toNat = 1 from nI_tn (by omega), show (nI 2).toInt.toNat = 2 from nI_tn (by omega), if_neg y1, if_neg z1, if_pos hso, cop_on ⟨y6, y7⟩ ⟨z6, z7⟩ g1 g2]) (by rw [copA, copX, if_pos his, if_pos hio, show (nI 1).toInt.toNat = 1 from nI_tn (by omega), show (nI 2).toInt.toNat = 2 from nI_tn (by omega), if_neg y1, if_neg z1, if_pos hso, cop_on ⟨y6, y7⟩ ⟨z6, z7⟩ g1 g2, hiq.1, hjq.1, hmq.1, nI_tn (by omega), nI_tn (by omega), nI_tn (by omega)]; exact hx.sh (fun k hk => if_neg (by omega)) (fun _ _ => rfl) (fun q hq => if_neg (by omega)) (hx.ss.cpy (s := 1) (o := 2) (by decide) (by decide) y1 hi1 hi2 hj1)))
                  · refine z_bipush (v := -12) d_X11_copy_93 (by decide) ?_
                    exact z_iret _ d_X11_copy_95 rfl (XP.of (by rw [copR, copX, if_pos his, if_pos hio, show (nI 1).toInt.toNat = 1 from nI_tn (by omega), show (nI 2).toInt.toNat = 2 from nI_tn (by omega), if_neg y1, if_neg z1, if_pos hso, cop_off ⟨y6, y7⟩ ⟨z6, z7⟩ (fun hh => by have q1 := hh.2; rw [← z5] at q1; rw [show hoQ (N (11 + 2 * 2)) j n0 = false from b01_z c_90] at q1; exact absurd q1 (by decide))]) (by rw [copA, copX, if_pos his, if_pos hio, show (nI 1).toInt.toNat = 1 from nI_tn (by omega), show (nI 2).toInt.toNat = 2 from nI_tn (by omega), if_neg y1, if_neg z1, if_pos hso, cop_off ⟨y6, y7⟩ ⟨z6, z7⟩ (fun hh => by have q1 := hh.2; rw [← z5] at q1; rw [show hoQ (N (11 + 2 * 2)) j n0 = false from b01_z c_90] at q1; exact absurd q1 (by decide))]; exact hx))
              · refine z_bipush (v := -13) d_X11_copy_67 (by decide) ?_
                exact z_iret _ d_X11_copy_69 rfl (XP.of (by rw [copR, copX, if_pos his, if_pos hio, show (nI 1).toInt.toNat = 1 from nI_tn (by omega), show (nI 2).toInt.toNat = 2 from nI_tn (by omega), if_neg y1, if_neg z1, if_neg (show ¬ A 37 1 = A 37 2 from fun hh => c_64 ((show N 12 = A 37 1 from y2).trans (hh.trans (show N 14 = A 37 2 from z2).symm)))]) (by rw [copA, copX, if_pos his, if_pos hio, show (nI 1).toInt.toNat = 1 from nI_tn (by omega), show (nI 2).toInt.toNat = 2 from nI_tn (by omega), if_neg y1, if_neg z1, if_neg (show ¬ A 37 1 = A 37 2 from fun hh => c_64 ((show N 12 = A 37 1 from y2).trans (hh.trans (show N 14 = A 37 2 from z2).symm)))]; exact hx))
            · refine z_bipush (v := -11) d_X11_copy_51 (by decide) ?_
              exact z_iret _ d_X11_copy_53 rfl (XP.of (by rw [copR, copX, if_pos his, if_pos hio, show (nI 1).toInt.toNat = 1 from nI_tn (by omega), show (nI 2).toInt.toNat = 2 from nI_tn (by omega), if_neg (show ¬ A 36 1 = 0 from (hx.ss.yes (j := 1) (by decide) c_39).1), if_pos (show A 36 2 = 0 from hx.ss.no (j := 2) (by decide) c_48)]) (by rw [copA, copX, if_pos his, if_pos hio, show (nI 1).toInt.toNat = 1 from nI_tn (by omega), show (nI 2).toInt.toNat = 2 from nI_tn (by omega), if_neg (show ¬ A 36 1 = 0 from (hx.ss.yes (j := 1) (by decide) c_39).1), if_pos (show A 36 2 = 0 from hx.ss.no (j := 2) (by decide) c_48)]; exact hx))
        · refine z_get (v := .ref (x 22)) (0) f_X11_24_11 rfl rfl d_X11_copy_18 ?_
          refine z_iload_n d_X11_copy_21 1 rfl ?_
          refine z_aldq (C0 := RX7) 22 5 1 rfl rfl (nI_toInt (by omega)) (by omega) d_X11_copy_22 ?_
          refine z_topv (v := .ref (x 25)) rfl ?_
          refine z_astore [(6, .ref (x 25)), (0, .ref (x 0)), (1, .int (nI 1)), (2, .int i), (3, .int (nI 3)), (4, .int j), (5, .int n0)] d_X11_copy_23 (by decide) rfl ?_
          refine z_aload_n d_X11_copy_25 1 rfl ?_
          refine z_get (v := .ref (x 22)) (0) f_X11_24_11 rfl rfl d_X11_copy_26 ?_
          refine z_iload_n d_X11_copy_29 4 rfl ?_
          refine z_aldq (C0 := RX7) 22 5 3 rfl rfl (nI_toInt (by omega)) (by omega) d_X11_copy_30 ?_
          refine z_topv (v := .ref (x 29)) rfl ?_
          refine z_astore [(7, .ref (x 29)), (6, .ref (x 25)), (0, .ref (x 0)), (1, .int (nI 1)), (2, .int i), (3, .int (nI 3)), (4, .int j), (5, .int n0)] d_X11_copy_31 (by decide) rfl ?_
          refine z_aload d_X11_copy_33 1 rfl ?_
          refine z_get (v := .int (N 12)) (25) f_X11_256_7 rfl rfl d_X11_copy_35 ?_
          refine z_iconst (v := -1) d_X11_copy_38 (by decide) ?_
          refine z_icmp_eq d_X11_copy_39 (fun c_39 => ?_) (fun c_39 => ?_)
          · refine z_bipush (v := -11) d_X11_copy_51 (by decide) ?_
            exact z_iret _ d_X11_copy_53 rfl (XP.of (by rw [copR, copX, if_pos his, if_pos hio, show (nI 1).toInt.toNat = 1 from nI_tn (by omega), show (nI 3).toInt.toNat = 3 from nI_tn (by omega), if_pos (show A 36 1 = 0 from hx.ss.no (j := 1) (by decide) c_39)]) (by rw [copA, copX, if_pos his, if_pos hio, show (nI 1).toInt.toNat = 1 from nI_tn (by omega), show (nI 3).toInt.toNat = 3 from nI_tn (by omega), if_pos (show A 36 1 = 0 from hx.ss.no (j := 1) (by decide) c_39)]; exact hx))
          · refine z_aload d_X11_copy_42 0 rfl ?_
            refine z_get (v := .int (N 16)) (29) f_X11_256_7 rfl rfl d_X11_copy_44 ?_
            refine z_iconst (v := -1) d_X11_copy_47 (by decide) ?_
            refine z_icmp_ne d_X11_copy_48 (fun c_48 => ?_) (fun c_48 => ?_)
            · obtain ⟨y1, y2, y3, y4, y5, y6, y7, y8⟩ := hx.ss.yes (j := 1) (by decide) c_39
              obtain ⟨z1, z2, z3, z4, z5, z6, z7, z8⟩ := hx.ss.yes (j := 3) (by decide) c_48
              refine z_aload d_X11_copy_54 1 rfl ?_
              refine z_get (v := .int (N 12)) (25) f_X11_256_7 rfl rfl d_X11_copy_56 ?_
              refine z_aload d_X11_copy_59 0 rfl ?_
              refine z_get (v := .int (N 16)) (29) f_X11_256_7 rfl rfl d_X11_copy_61 ?_
              refine z_icmp_eq d_X11_copy_64 (fun c_64 => ?_) (fun c_64 => ?_)
              · have hso : A 37 1 = A 37 3 := (show N 12 = A 37 1 from y2).symm.trans (c_64.trans (show N 16 = A 37 3 from z2))
                refine z_aload d_X11_copy_70 1 rfl ?_
                refine z_iload_n d_X11_copy_72 4 rfl ?_
                refine z_iload d_X11_copy_73 7 rfl ?_
                refine z_callVp 25 c_X11_263 (t_holds1 G x N R K r S T tl i n0) rfl rfl rfl rfl (Nat.le_of_ble_eq_true rfl) rfl d_X11_copy_75 ?_
                refine z_if_eq d_X11_copy_78 (fun c_78 => ?_) (fun c_78 => ?_)
                · refine z_bipush (v := -12) d_X11_copy_93 (by decide) ?_
                  exact z_iret _ d_X11_copy_95 rfl (XP.of (by rw [copR, copX, if_pos his, if_pos hio, show (nI 1).toInt.toNat = 1 from nI_tn (by omega), show (nI 3).toInt.toNat = 3 from nI_tn (by omega), if_neg y1, if_neg z1, if_pos hso, cop_off ⟨y6, y7⟩ ⟨z6, z7⟩ (fun hh => by have q1 := hh.1; rw [← y5] at q1; rw [show hoQ (N (11 + 2 * 1)) i n0 = false from b01_z c_78] at q1; exact absurd q1 (by decide))]) (by rw [copA, copX, if_pos his, if_pos hio, show (nI 1).toInt.toNat = 1 from nI_tn (by omega), show (nI 3).toInt.toNat = 3 from nI_tn (by omega), if_neg y1, if_neg z1, if_pos hso, cop_off ⟨y6, y7⟩ ⟨z6, z7⟩ (fun hh => by have q1 := hh.1; rw [← y5] at q1; rw [show hoQ (N (11 + 2 * 1)) i n0 = false from b01_z c_78] at q1; exact absurd q1 (by decide))]; exact hx))
                · refine z_aload d_X11_copy_81 0 rfl ?_
                  refine z_iload d_X11_copy_83 6 rfl ?_
                  refine z_iload d_X11_copy_85 7 rfl ?_
                  refine z_callVp 29 c_X11_263 (t_holds3 G x N R K r S T tl j n0) rfl rfl rfl rfl (Nat.le_of_ble_eq_true rfl) rfl d_X11_copy_87 ?_
                  refine z_if_ne d_X11_copy_90 (fun c_90 => ?_) (fun c_90 => ?_)
                  · have g1 : hoQ (A 38 1) i n0 = true := by rw [← y5]; exact b01_o c_78
                    have g2 : hoQ (A 38 3) j n0 = true := by rw [← z5]; exact b01_o c_90
                    obtain ⟨a1, a2, a3⟩ := (ho_iff ⟨y6, y7⟩).mp g1
                    obtain ⟨b1, b2, b3⟩ := (ho_iff ⟨z6, z7⟩).mp g2
                    rw [lt_i, i_0] at a1 a2 b1
                    have ln := n0.toInt_lt
                    rw [lt_i, isub (by omega) (by omega)] at a3 b3
                    obtain ⟨iq, hiq⟩ : ∃ q : Nat, i = nI q ∧ (q : Int) = i.toInt := ⟨i.toInt.toNat, eq_nI (by omega), by omega⟩
                    obtain ⟨jq, hjq⟩ : ∃ q : Nat, j = nI q ∧ (q : Int) = j.toInt := ⟨j.toInt.toNat, eq_nI (by omega), by omega⟩
                    obtain ⟨m, hmq⟩ : ∃ q : Nat, n0 = nI q ∧ (q : Int) = n0.toInt := ⟨n0.toInt.toNat, eq_nI (by omega), by omega⟩
                    have hi1 : iq + m ≤ (A 38 1).toInt.toNat := by omega
                    have hj1 : jq + m ≤ 40 := by omega
                    have hi2 : iq + m ≤ 40 := by omega
                    refine z_aload d_X11_copy_96 1 rfl ?_
                    refine z_get (v := .ref (x 26)) (25) f_X11_266_7 rfl rfl d_X11_copy_98 ?_
                    refine z_iload_n d_X11_copy_101 4 rfl ?_
                    refine z_aload d_X11_copy_102 0 rfl ?_
                    refine z_get (v := .ref (x 30)) (29) f_X11_266_7 rfl rfl d_X11_copy_104 ?_
                    refine z_iload d_X11_copy_107 6 rfl ?_
                    refine z_iload d_X11_copy_109 7 rfl ?_
                    refine z_copyi 26 30 iq jq m (XW G x N (vf_upd R 10 (va_cpy (R 8) (R 10) iq jq m)) K r S T tl) rfl rfl hiq.2.symm hjq.2.symm hmq.2.symm hi2 hj1 w_0971 rfl (by decide +kernel) (xa_30 G x N R K r S T tl _) d_X11_copy_111 ?_
                    refine z_iload d_X11_copy_114 7 rfl ?_
                    exact z_iret _ d_X11_copy_116 rfl (XP.of (by rw [copR, copX, if_pos his, if_pos hio, show (nI 1).toInt.toNat = 1 from nI_tn (by omega), show (nI 3).toInt.toNat = 3 from nI_tn (by omega), if_neg y1, if_neg z1, if_pos hso, cop_on ⟨y6, y7⟩ ⟨z6, z7⟩ g1 g2]) (by rw [copA, copX, if_pos his, if_pos hio, show (nI 1).toInt.toNat = 1 from nI_tn (by omega), show (nI 3).toInt.toNat = 3 from nI_tn (by omega), if_neg y1, if_neg z1, if_pos hso, cop_on ⟨y6, y7⟩ ⟨z6, z7⟩ g1 g2, hiq.1, hjq.1, hmq.1, nI_tn (by omega), nI_tn (by omega), nI_tn (by omega)]; exact hx.sh (fun k hk => if_neg (by omega)) (fun _ _ => rfl) (fun q hq => if_neg (by omega)) (hx.ss.cpy (s := 1) (o := 3) (by decide) (by decide) y1 hi1 hi2 hj1)))
                  · refine z_bipush (v := -12) d_X11_copy_93 (by decide) ?_
                    exact z_iret _ d_X11_copy_95 rfl (XP.of (by rw [copR, copX, if_pos his, if_pos hio, show (nI 1).toInt.toNat = 1 from nI_tn (by omega), show (nI 3).toInt.toNat = 3 from nI_tn (by omega), if_neg y1, if_neg z1, if_pos hso, cop_off ⟨y6, y7⟩ ⟨z6, z7⟩ (fun hh => by have q1 := hh.2; rw [← z5] at q1; rw [show hoQ (N (11 + 2 * 3)) j n0 = false from b01_z c_90] at q1; exact absurd q1 (by decide))]) (by rw [copA, copX, if_pos his, if_pos hio, show (nI 1).toInt.toNat = 1 from nI_tn (by omega), show (nI 3).toInt.toNat = 3 from nI_tn (by omega), if_neg y1, if_neg z1, if_pos hso, cop_off ⟨y6, y7⟩ ⟨z6, z7⟩ (fun hh => by have q1 := hh.2; rw [← z5] at q1; rw [show hoQ (N (11 + 2 * 3)) j n0 = false from b01_z c_90] at q1; exact absurd q1 (by decide))]; exact hx))
              · refine z_bipush (v := -13) d_X11_copy_67 (by decide) ?_
                exact z_iret _ d_X11_copy_69 rfl (XP.of (by rw [copR, copX, if_pos his, if_pos hio, show (nI 1).toInt.toNat = 1 from nI_tn (by omega), show (nI 3).toInt.toNat = 3 from nI_tn (by omega), if_neg y1, if_neg z1, if_neg (show ¬ A 37 1 = A 37 3 from fun hh => c_64 ((show N 12 = A 37 1 from y2).trans (hh.trans (show N 16 = A 37 3 from z2).symm)))]) (by rw [copA, copX, if_pos his, if_pos hio, show (nI 1).toInt.toNat = 1 from nI_tn (by omega), show (nI 3).toInt.toNat = 3 from nI_tn (by omega), if_neg y1, if_neg z1, if_neg (show ¬ A 37 1 = A 37 3 from fun hh => c_64 ((show N 12 = A 37 1 from y2).trans (hh.trans (show N 16 = A 37 3 from z2).symm)))]; exact hx))
            · refine z_bipush (v := -11) d_X11_copy_51 (by decide) ?_
              exact z_iret _ d_X11_copy_53 rfl (XP.of (by rw [copR, copX, if_pos his, if_pos hio, show (nI 1).toInt.toNat = 1 from nI_tn (by omega), show (nI 3).toInt.toNat = 3 from nI_tn (by omega), if_neg (show ¬ A 36 1 = 0 from (hx.ss.yes (j := 1) (by decide) c_39).1), if_pos (show A 36 3 = 0 from hx.ss.no (j := 3) (by decide) c_48)]) (by rw [copA, copX, if_pos his, if_pos hio, show (nI 1).toInt.toNat = 1 from nI_tn (by omega), show (nI 3).toInt.toNat = 3 from nI_tn (by omega), if_neg (show ¬ A 36 1 = 0 from (hx.ss.yes (j := 1) (by decide) c_39).1), if_pos (show A 36 3 = 0 from hx.ss.no (j := 3) (by decide) c_48)]; exact hx))
      · refine z_aload_n d_X11_copy_17 0 rfl ?_
        obtain ⟨j_o, hj_o, ej_o⟩ := inB_nI hio
        replace hj_o : j_o < 4 := hj_o
        subst ej_o
        rcases (show j_o = 0 ∨ j_o = 1 ∨ j_o = 2 ∨ j_o = 3 by omega) with rfl | rfl | rfl | rfl
        · refine z_get (v := .ref (x 22)) (0) f_X11_24_11 rfl rfl d_X11_copy_18 ?_
          refine z_iload_n d_X11_copy_21 1 rfl ?_
          refine z_aldq (C0 := RX7) 22 5 2 rfl rfl (nI_toInt (by omega)) (by omega) d_X11_copy_22 ?_
          refine z_topv (v := .ref (x 27)) rfl ?_
          refine z_astore [(6, .ref (x 27)), (0, .ref (x 0)), (1, .int (nI 2)), (2, .int i), (3, .int (nI 0)), (4, .int j), (5, .int n0)] d_X11_copy_23 (by decide) rfl ?_
          refine z_aload_n d_X11_copy_25 1 rfl ?_
          refine z_get (v := .ref (x 22)) (0) f_X11_24_11 rfl rfl d_X11_copy_26 ?_
          refine z_iload_n d_X11_copy_29 4 rfl ?_
          refine z_aldq (C0 := RX7) 22 5 0 rfl rfl (nI_toInt (by omega)) (by omega) d_X11_copy_30 ?_
          refine z_topv (v := .ref (x 23)) rfl ?_
          refine z_astore [(7, .ref (x 23)), (6, .ref (x 27)), (0, .ref (x 0)), (1, .int (nI 2)), (2, .int i), (3, .int (nI 0)), (4, .int j), (5, .int n0)] d_X11_copy_31 (by decide) rfl ?_
          refine z_aload d_X11_copy_33 1 rfl ?_
          refine z_get (v := .int (N 14)) (27) f_X11_256_7 rfl rfl d_X11_copy_35 ?_
          refine z_iconst (v := -1) d_X11_copy_38 (by decide) ?_
          refine z_icmp_eq d_X11_copy_39 (fun c_39 => ?_) (fun c_39 => ?_)
          · refine z_bipush (v := -11) d_X11_copy_51 (by decide) ?_
            exact z_iret _ d_X11_copy_53 rfl (XP.of (by rw [copR, copX, if_pos his, if_pos hio, show (nI 2).toInt.toNat = 2 from nI_tn (by omega), show (nI 0).toInt.toNat = 0 from nI_tn (by omega), if_pos (show A 36 2 = 0 from hx.ss.no (j := 2) (by decide) c_39)]) (by rw [copA, copX, if_pos his, if_pos hio, show (nI 2).toInt.toNat = 2 from nI_tn (by omega), show (nI 0).toInt.toNat = 0 from nI_tn (by omega), if_pos (show A 36 2 = 0 from hx.ss.no (j := 2) (by decide) c_39)]; exact hx))
          · refine z_aload d_X11_copy_42 0 rfl ?_
            refine z_get (v := .int (N 10)) (23) f_X11_256_7 rfl rfl d_X11_copy_44 ?_
            refine z_iconst (v := -1) d_X11_copy_47 (by decide) ?_
            refine z_icmp_ne d_X11_copy_48 (fun c_48 => ?_) (fun c_48 => ?_)
            · obtain ⟨y1, y2, y3, y4, y5, y6, y7, y8⟩ := hx.ss.yes (j := 2) (by decide) c_39
              obtain ⟨z1, z2, z3, z4, z5, z6, z7, z8⟩ := hx.ss.yes (j := 0) (by decide) c_48
              refine z_aload d_X11_copy_54 1 rfl ?_
              refine z_get (v := .int (N 14)) (27) f_X11_256_7 rfl rfl d_X11_copy_56 ?_
              refine z_aload d_X11_copy_59 0 rfl ?_
              refine z_get (v := .int (N 10)) (23) f_X11_256_7 rfl rfl d_X11_copy_61 ?_
              refine z_icmp_eq d_X11_copy_64 (fun c_64 => ?_) (fun c_64 => ?_)
              · have hso : A 37 2 = A 37 0 := (show N 14 = A 37 2 from y2).symm.trans (c_64.trans (show N 10 = A 37 0 from z2))
                refine z_aload d_X11_copy_70 1 rfl ?_
                refine z_iload_n d_X11_copy_72 4 rfl ?_
                refine z_iload d_X11_copy_73 7 rfl ?_
                refine z_callVp 27 c_X11_263 (t_holds2 G x N R K r S T tl i n0) rfl rfl rfl rfl (Nat.le_of_ble_eq_true rfl) rfl d_X11_copy_75 ?_
                refine z_if_eq d_X11_copy_78 (fun c_78 => ?_) (fun c_78 => ?_)
                · refine z_bipush (v := -12) d_X11_copy_93 (by decide) ?_
                  exact z_iret _ d_X11_copy_95 rfl (XP.of (by rw [copR, copX, if_pos his, if_pos hio, show (nI 2).toInt.toNat = 2 from nI_tn (by omega), show (nI 0).toInt.toNat = 0 from nI_tn (by omega), if_neg y1, if_neg z1, if_pos hso, cop_off ⟨y6, y7⟩ ⟨z6, z7⟩ (fun hh => by have q1 := hh.1; rw [← y5] at q1; rw [show hoQ (N (11 + 2 * 2)) i n0 = false from b01_z c_78] at q1; exact absurd q1 (by decide))]) (by rw [copA, copX, if_pos his, if_pos hio, show (nI 2).toInt.toNat = 2 from nI_tn (by omega), show (nI 0).toInt.toNat = 0 from nI_tn (by omega), if_neg y1, if_neg z1, if_pos hso, cop_off ⟨y6, y7⟩ ⟨z6, z7⟩ (fun hh => by have q1 := hh.1; rw [← y5] at q1; rw [show hoQ (N (11 + 2 * 2)) i n0 = false from b01_z c_78] at q1; exact absurd q1 (by decide))]; exact hx))
                · refine z_aload d_X11_copy_81 0 rfl ?_
                  refine z_iload d_X11_copy_83 6 rfl ?_
                  refine z_iload d_X11_copy_85 7 rfl ?_
                  refine z_callVp 23 c_X11_263 (t_holds0 G x N R K r S T tl j n0) rfl rfl rfl rfl (Nat.le_of_ble_eq_true rfl) rfl d_X11_copy_87 ?_
                  refine z_if_ne d_X11_copy_90 (fun c_90 => ?_) (fun c_90 => ?_)
                  · have g1 : hoQ (A 38 2) i n0 = true := by rw [← y5]; exact b01_o c_78
                    have g2 : hoQ (A 38 0) j n0 = true := by rw [← z5]; exact b01_o c_90
                    obtain ⟨a1, a2, a3⟩ := (ho_iff ⟨y6, y7⟩).mp g1
                    obtain ⟨b1, b2, b3⟩ := (ho_iff ⟨z6, z7⟩).mp g2
                    rw [lt_i, i_0] at a1 a2 b1
                    have ln := n0.toInt_lt
                    rw [lt_i, isub (by omega) (by omega)] at a3 b3
                    obtain ⟨iq, hiq⟩ : ∃ q : Nat, i = nI q ∧ (q : Int) = i.toInt := ⟨i.toInt.toNat, eq_nI (by omega), by omega⟩
                    obtain ⟨jq, hjq⟩ : ∃ q : Nat, j = nI q ∧ (q : Int) = j.toInt := ⟨j.toInt.toNat, eq_nI (by omega), by omega⟩
                    obtain ⟨m, hmq⟩ : ∃ q : Nat, n0 = nI q ∧ (q : Int) = n0.toInt := ⟨n0.toInt.toNat, eq_nI (by omega), by omega⟩
                    have hi1 : iq + m ≤ (A 38 2).toInt.toNat := by omega
                    have hj1 : jq + m ≤ 40 := by omega
                    have hi2 : iq + m ≤ 40 := by omega
                    refine z_aload d_X11_copy_96 1 rfl ?_
                    refine z_get (v := .ref (x 28)) (27) f_X11_266_7 rfl rfl d_X11_copy_98 ?_
                    refine z_iload_n d_X11_copy_101 4 rfl ?_
                    refine z_aload d_X11_copy_102 0 rfl ?_
                    refine z_get (v := .ref (x 24)) (23) f_X11_266_7 rfl rfl d_X11_copy_104 ?_
                    refine z_iload d_X11_copy_107 6 rfl ?_
                    refine z_iload d_X11_copy_109 7 rfl ?_
                    refine z_copyi 28 24 iq jq m (XW G x N (vf_upd R 7 (va_cpy (R 9) (R 7) iq jq m)) K r S T tl) rfl rfl hiq.2.symm hjq.2.symm hmq.2.symm hi2 hj1 w_0971 rfl (by decide +kernel) (xa_24 G x N R K r S T tl _) d_X11_copy_111 ?_
                    refine z_iload d_X11_copy_114 7 rfl ?_
                    exact z_iret _ d_X11_copy_116 rfl (XP.of (by rw [copR, copX, if_pos his, if_pos hio, show (nI 2).toInt.toNat = 2 from nI_tn (by omega), show (nI 0).toInt.toNat = 0 from nI_tn (by omega), if_neg y1, if_neg z1, if_pos hso, cop_on ⟨y6, y7⟩ ⟨z6, z7⟩ g1 g2]) (by rw [copA, copX, if_pos his, if_pos hio, show (nI 2).toInt.toNat = 2 from nI_tn (by omega), show (nI 0).toInt.toNat = 0 from nI_tn (by omega), if_neg y1, if_neg z1, if_pos hso, cop_on ⟨y6, y7⟩ ⟨z6, z7⟩ g1 g2, hiq.1, hjq.1, hmq.1, nI_tn (by omega), nI_tn (by omega), nI_tn (by omega)]; exact hx.sh (fun k hk => if_neg (by omega)) (fun _ _ => rfl) (fun q hq => if_neg (by omega)) (hx.ss.cpy (s := 2) (o := 0) (by decide) (by decide) y1 hi1 hi2 hj1)))
                  · refine z_bipush (v := -12) d_X11_copy_93 (by decide) ?_
                    exact z_iret _ d_X11_copy_95 rfl (XP.of (by rw [copR, copX, if_pos his, if_pos hio, show (nI 2).toInt.toNat = 2 from nI_tn (by omega), show (nI 0).toInt.toNat = 0 from nI_tn (by omega), if_neg y1, if_neg z1, if_pos hso, cop_off ⟨y6, y7⟩ ⟨z6, z7⟩ (fun hh => by have q1 := hh.2; rw [← z5] at q1; rw [show hoQ (N (11 + 2 * 0)) j n0 = false from b01_z c_90] at q1; exact absurd q1 (by decide))]) (by rw [copA, copX, if_pos his, if_pos hio, show (nI 2).toInt.toNat = 2 from nI_tn (by omega), show (nI 0).toInt.toNat = 0 from nI_tn (by omega), if_neg y1, if_neg z1, if_pos hso, cop_off ⟨y6, y7⟩ ⟨z6, z7⟩ (fun hh => by have q1 := hh.2; rw [← z5] at q1; rw [show hoQ (N (11 + 2 * 0)) j n0 = false from b01_z c_90] at q1; exact absurd q1 (by decide))]; exact hx))
              · refine z_bipush (v := -13) d_X11_copy_67 (by decide) ?_
                exact z_iret _ d_X11_copy_69 rfl (XP.of (by rw [copR, copX, if_pos his, if_pos hio, show (nI 2).toInt.toNat = 2 from nI_tn (by omega), show (nI 0).toInt.toNat = 0 from nI_tn (by omega), if_neg y1, if_neg z1, if_neg (show ¬ A 37 2 = A 37 0 from fun hh => c_64 ((show N 14 = A 37 2 from y2).trans (hh.trans (show N 10 = A 37 0 from z2).symm)))]) (by rw [copA, copX, if_pos his, if_pos hio, show (nI 2).toInt.toNat = 2 from nI_tn (by omega), show (nI 0).toInt.toNat = 0 from nI_tn (by omega), if_neg y1, if_neg z1, if_neg (show ¬ A 37 2 = A 37 0 from fun hh => c_64 ((show N 14 = A 37 2 from y2).trans (hh.trans (show N 10 = A 37 0 from z2).symm)))]; exact hx))
            · refine z_bipush (v := -11) d_X11_copy_51 (by decide) ?_
              exact z_iret _ d_X11_copy_53 rfl (XP.of (by rw [copR, copX, if_pos his, if_pos hio, show (nI 2).toInt.toNat = 2 from nI_tn (by omega), show (nI 0).toInt.toNat = 0 from nI_tn (by omega), if_neg (show ¬ A 36 2 = 0 from (hx.ss.yes (j := 2) (by decide) c_39).1), if_pos (show A 36 0 = 0 from hx.ss.no (j := 0) (by decide) c_48)]) (by rw [copA, copX, if_pos his, if_pos hio, show (nI 2).toInt.toNat = 2 from nI_tn (by omega), show (nI 0).toInt.toNat = 0 from nI_tn (by omega), if_neg (show ¬ A 36 2 = 0 from (hx.ss.yes (j := 2) (by decide) c_39).1), if_pos (show A 36 0 = 0 from hx.ss.no (j := 0) (by decide) c_48)]; exact hx))
        · refine z_get (v := .ref (x 22)) (0) f_X11_24_11 rfl rfl d_X11_copy_18 ?_
          refine z_iload_n d_X11_copy_21 1 rfl ?_
          refine z_aldq (C0 := RX7) 22 5 2 rfl rfl (nI_toInt (by omega)) (by omega) d_X11_copy_22 ?_
          refine z_topv (v := .ref (x 27)) rfl ?_
          refine z_astore [(6, .ref (x 27)), (0, .ref (x 0)), (1, .int (nI 2)), (2, .int i), (3, .int (nI 1)), (4, .int j), (5, .int n0)] d_X11_copy_23 (by decide) rfl ?_
          refine z_aload_n d_X11_copy_25 1 rfl ?_
          refine z_get (v := .ref (x 22)) (0) f_X11_24_11 rfl rfl d_X11_copy_26 ?_
          refine z_iload_n d_X11_copy_29 4 rfl ?_
          refine z_aldq (C0 := RX7) 22 5 1 rfl rfl (nI_toInt (by omega)) (by omega) d_X11_copy_30 ?_
          refine z_topv (v := .ref (x 25)) rfl ?_
          refine z_astore [(7, .ref (x 25)), (6, .ref (x 27)), (0, .ref (x 0)), (1, .int (nI 2)), (2, .int i), (3, .int (nI 1)), (4, .int j), (5, .int n0)] d_X11_copy_31 (by decide) rfl ?_
          refine z_aload d_X11_copy_33 1 rfl ?_
          refine z_get (v := .int (N 14)) (27) f_X11_256_7 rfl rfl d_X11_copy_35 ?_
          refine z_iconst (v := -1) d_X11_copy_38 (by decide) ?_
          refine z_icmp_eq d_X11_copy_39 (fun c_39 => ?_) (fun c_39 => ?_)
          · refine z_bipush (v := -11) d_X11_copy_51 (by decide) ?_
            exact z_iret _ d_X11_copy_53 rfl (XP.of (by rw [copR, copX, if_pos his, if_pos hio, show (nI 2).toInt.toNat = 2 from nI_tn (by omega), show (nI 1).toInt.toNat = 1 from nI_tn (by omega), if_pos (show A 36 2 = 0 from hx.ss.no (j := 2) (by decide) c_39)]) (by rw [copA, copX, if_pos his, if_pos hio, show (nI 2).toInt.toNat = 2 from nI_tn (by omega), show (nI 1).toInt.toNat = 1 from nI_tn (by omega), if_pos (show A 36 2 = 0 from hx.ss.no (j := 2) (by decide) c_39)]; exact hx))
          · refine z_aload d_X11_copy_42 0 rfl ?_
            refine z_get (v := .int (N 12)) (25) f_X11_256_7 rfl rfl d_X11_copy_44 ?_
            refine z_iconst (v := -1) d_X11_copy_47 (by decide) ?_
            refine z_icmp_ne d_X11_copy_48 (fun c_48 => ?_) (fun c_48 => ?_)
            · obtain ⟨y1, y2, y3, y4, y5, y6, y7, y8⟩ := hx.ss.yes (j := 2) (by decide) c_39
              obtain ⟨z1, z2, z3, z4, z5, z6, z7, z8⟩ := hx.ss.yes (j := 1) (by decide) c_48
              refine z_aload d_X11_copy_54 1 rfl ?_
              refine z_get (v := .int (N 14)) (27) f_X11_256_7 rfl rfl d_X11_copy_56 ?_
              refine z_aload d_X11_copy_59 0 rfl ?_
              refine z_get (v := .int (N 12)) (25) f_X11_256_7 rfl rfl d_X11_copy_61 ?_
              refine z_icmp_eq d_X11_copy_64 (fun c_64 => ?_) (fun c_64 => ?_)
              · have hso : A 37 2 = A 37 1 := (show N 14 = A 37 2 from y2).symm.trans (c_64.trans (show N 12 = A 37 1 from z2))
                refine z_aload d_X11_copy_70 1 rfl ?_
                refine z_iload_n d_X11_copy_72 4 rfl ?_
                refine z_iload d_X11_copy_73 7 rfl ?_
                refine z_callVp 27 c_X11_263 (t_holds2 G x N R K r S T tl i n0) rfl rfl rfl rfl (Nat.le_of_ble_eq_true rfl) rfl d_X11_copy_75 ?_
                refine z_if_eq d_X11_copy_78 (fun c_78 => ?_) (fun c_78 => ?_)
                · refine z_bipush (v := -12) d_X11_copy_93 (by decide) ?_
                  exact z_iret _ d_X11_copy_95 rfl (XP.of (by rw [copR, copX, if_pos his, if_pos hio, show (nI 2).toInt.toNat = 2 from nI_tn (by omega), show (nI 1).toInt.toNat = 1 from nI_tn (by omega), if_neg y1, if_neg z1, if_pos hso, cop_off ⟨y6, y7⟩ ⟨z6, z7⟩ (fun hh => by have q1 := hh.1; rw [← y5] at q1; rw [show hoQ (N (11 + 2 * 2)) i n0 = false from b01_z c_78] at q1; exact absurd q1 (by decide))]) (by rw [copA, copX, if_pos his, if_pos hio, show (nI 2).toInt.toNat = 2 from nI_tn (by omega), show (nI 1).toInt.toNat = 1 from nI_tn (by omega), if_neg y1, if_neg z1, if_pos hso, cop_off ⟨y6, y7⟩ ⟨z6, z7⟩ (fun hh => by have q1 := hh.1; rw [← y5] at q1; rw [show hoQ (N (11 + 2 * 2)) i n0 = false from b01_z c_78] at q1; exact absurd q1 (by decide))]; exact hx))
                · refine z_aload d_X11_copy_81 0 rfl ?_
                  refine z_iload d_X11_copy_83 6 rfl ?_
                  refine z_iload d_X11_copy_85 7 rfl ?_
                  refine z_callVp 25 c_X11_263 (t_holds1 G x N R K r S T tl j n0) rfl rfl rfl rfl (Nat.le_of_ble_eq_true rfl) rfl d_X11_copy_87 ?_
                  refine z_if_ne d_X11_copy_90 (fun c_90 => ?_) (fun c_90 => ?_)
                  · have g1 : hoQ (A 38 2) i n0 = true := by rw [← y5]; exact b01_o c_78
                    have g2 : hoQ (A 38 1) j n0 = true := by rw [← z5]; exact b01_o c_90
                    obtain ⟨a1, a2, a3⟩ := (ho_iff ⟨y6, y7⟩).mp g1
                    obtain ⟨b1, b2, b3⟩ := (ho_iff ⟨z6, z7⟩).mp g2
                    rw [lt_i, i_0] at a1 a2 b1
                    have ln := n0.toInt_lt
                    rw [lt_i, isub (by omega) (by omega)] at a3 b3
                    obtain ⟨iq, hiq⟩ : ∃ q : Nat, i = nI q ∧ (q : Int) = i.toInt := ⟨i.toInt.toNat, eq_nI (by omega), by omega⟩
                    obtain ⟨jq, hjq⟩ : ∃ q : Nat, j = nI q ∧ (q : Int) = j.toInt := ⟨j.toInt.toNat, eq_nI (by omega), by omega⟩
                    obtain ⟨m, hmq⟩ : ∃ q : Nat, n0 = nI q ∧ (q : Int) = n0.toInt := ⟨n0.toInt.toNat, eq_nI (by omega), by omega⟩
                    have hi1 : iq + m ≤ (A 38 2).toInt.toNat := by omega
                    have hj1 : jq + m ≤ 40 := by omega
                    have hi2 : iq + m ≤ 40 := by omega
                    refine z_aload d_X11_copy_96 1 rfl ?_
                    refine z_get (v := .ref (x 28)) (27) f_X11_266_7 rfl rfl d_X11_copy_98 ?_
                    refine z_iload_n d_X11_copy_101 4 rfl ?_
                    refine z_aload d_X11_copy_102 0 rfl ?_
                    refine z_get (v := .ref (x 26)) (25) f_X11_266_7 rfl rfl d_X11_copy_104 ?_
                    refine z_iload d_X11_copy_107 6 rfl ?_
                    refine z_iload d_X11_copy_109 7 rfl ?_
                    refine z_copyi 28 26 iq jq m (XW G x N (vf_upd R 8 (va_cpy (R 9) (R 8) iq jq m)) K r S T tl) rfl rfl hiq.2.symm hjq.2.symm hmq.2.symm hi2 hj1 w_0971 rfl (by decide +kernel) (xa_26 G x N R K r S T tl _) d_X11_copy_111 ?_
                    refine z_iload d_X11_copy_114 7 rfl ?_
                    exact z_iret _ d_X11_copy_116 rfl (XP.of (by rw [copR, copX, if_pos his, if_pos hio, show (nI 2).toInt.toNat = 2 from nI_tn (by omega), show (nI 1).toInt.toNat = 1 from nI_tn (by omega), if_neg y1, if_neg z1, if_pos hso, cop_on ⟨y6, y7⟩ ⟨z6, z7⟩ g1 g2]) (by rw [copA, copX, if_pos his, if_pos hio, show (nI 2).toInt.toNat = 2 from nI_tn (by omega), show (nI 1).toInt.toNat = 1 from nI_tn (by omega), if_neg y1, if_neg z1, if_pos hso, cop_on ⟨y6, y7⟩ ⟨z6, z7⟩ g1 g2, hiq.1, hjq.1, hmq.1, nI_tn (by omega), nI_tn (by omega), nI_tn (by omega)]; exact hx.sh (fun k hk => if_neg (by omega)) (fun _ _ => rfl) (fun q hq => if_neg (by omega)) (hx.ss.cpy (s := 2) (o := 1) (by decide) (by decide) y1 hi1 hi2 hj1)))
                  · refine z_bipush (v := -12) d_X11_copy_93 (by decide) ?_
                    exact z_iret _ d_X11_copy_95 rfl (XP.of (by rw [copR, copX, if_pos his, if_pos hio, show (nI 2).toInt.toNat = 2 from nI_tn (by omega), show (nI 1).toInt.toNat = 1 from nI_tn (by omega), if_neg y1, if_neg z1, if_pos hso, cop_off ⟨y6, y7⟩ ⟨z6, z7⟩ (fun hh => by have q1 := hh.2; rw [← z5] at q1; rw [show hoQ (N (11 + 2 * 1)) j n0 = false from b01_z c_90] at q1; exact absurd q1 (by decide))]) (by rw [copA, copX, if_pos his, if_pos hio, show (nI 2).toInt.toNat = 2 from nI_tn (by omega), show (nI 1).toInt.toNat = 1 from nI_tn (by omega), if_neg y1, if_neg z1, if_pos hso, cop_off ⟨y6, y7⟩ ⟨z6, z7⟩ (fun hh => by have q1 := hh.2; rw [← z5] at q1; rw [show hoQ (N (11 + 2 * 1)) j n0 = false from b01_z c_90] at q1; exact absurd q1 (by decide))]; exact hx))
              · refine z_bipush (v := -13) d_X11_copy_67 (by decide) ?_
                exact z_iret _ d_X11_copy_69 rfl (XP.of (by rw [copR, copX, if_pos his, if_pos hio, show (nI 2).toInt.toNat = 2 from nI_tn (by omega), show (nI 1).toInt.toNat = 1 from nI_tn (by omega), if_neg y1, if_neg z1, if_neg (show ¬ A 37 2 = A 37 1 from fun hh => c_64 ((show N 14 = A 37 2 from y2).trans (hh.trans (show N 12 = A 37 1 from z2).symm)))]) (by rw [copA, copX, if_pos his, if_pos hio, show (nI 2).toInt.toNat = 2 from nI_tn (by omega), show (nI 1).toInt.toNat = 1 from nI_tn (by omega), if_neg y1, if_neg z1, if_neg (show ¬ A 37 2 = A 37 1 from fun hh => c_64 ((show N 14 = A 37 2 from y2).trans (hh.trans (show N 12 = A 37 1 from z2).symm)))]; exact hx))
            · refine z_bipush (v := -11) d_X11_copy_51 (by decide) ?_
              exact z_iret _ d_X11_copy_53 rfl (XP.of (by rw [copR, copX, if_pos his, if_pos hio, show (nI 2).toInt.toNat = 2 from nI_tn (by omega), show (nI 1).toInt.toNat = 1 from nI_tn (by omega), if_neg (show ¬ A 36 2 = 0 from (hx.ss.yes (j := 2) (by decide) c_39).1), if_pos (show A 36 1 = 0 from hx.ss.no (j := 1) (by decide) c_48)]) (by rw [copA, copX, if_pos his, if_pos hio, show (nI 2).toInt.toNat = 2 from nI_tn (by omega), show (nI 1).toInt.toNat = 1 from nI_tn (by omega), if_neg (show ¬ A 36 2 = 0 from (hx.ss.yes (j := 2) (by decide) c_39).1), if_pos (show A 36 1 = 0 from hx.ss.no (j := 1) (by decide) c_48)]; exact hx))
        · refine z_get (v := .ref (x 22)) (0) f_X11_24_11 rfl rfl d_X11_copy_18 ?_
          refine z_iload_n d_X11_copy_21 1 rfl ?_
          refine z_aldq (C0 := RX7) 22 5 2 rfl rfl (nI_toInt (by omega)) (by omega) d_X11_copy_22 ?_
          refine z_topv (v := .ref (x 27)) rfl ?_
          refine z_astore [(6, .ref (x 27)), (0, .ref (x 0)), (1, .int (nI 2)), (2, .int i), (3, .int (nI 2)), (4, .int j), (5, .int n0)] d_X11_copy_23 (by decide) rfl ?_
          refine z_aload_n d_X11_copy_25 1 rfl ?_
          refine z_get (v := .ref (x 22)) (0) f_X11_24_11 rfl rfl d_X11_copy_26 ?_
          refine z_iload_n d_X11_copy_29 4 rfl ?_
          refine z_aldq (C0 := RX7) 22 5 2 rfl rfl (nI_toInt (by omega)) (by omega) d_X11_copy_30 ?_
          refine z_topv (v := .ref (x 27)) rfl ?_
          refine z_astore [(7, .ref (x 27)), (6, .ref (x 27)), (0, .ref (x 0)), (1, .int (nI 2)), (2, .int i), (3, .int (nI 2)), (4, .int j), (5, .int n0)] d_X11_copy_31 (by decide) rfl ?_
          refine z_aload d_X11_copy_33 1 rfl ?_
          refine z_get (v := .int (N 14)) (27) f_X11_256_7 rfl rfl d_X11_copy_35 ?_
          refine z_iconst (v := -1) d_X11_copy_38 (by decide) ?_
          refine z_icmp_eq d_X11_copy_39 (fun c_39 => ?_) (fun c_39 => ?_)
          · refine z_bipush (v := -11) d_X11_copy_51 (by decide) ?_
            exact z_iret _ d_X11_copy_53 rfl (XP.of (by rw [copR, copX, if_pos his, if_pos hio, show (nI 2).toInt.toNat = 2 from nI_tn (by omega), if_pos (show A 36 2 = 0 from hx.ss.no (j := 2) (by decide) c_39)]) (by rw [copA, copX, if_pos his, if_pos hio, show (nI 2).toInt.toNat = 2 from nI_tn (by omega), if_pos (show A 36 2 = 0 from hx.ss.no (j := 2) (by decide) c_39)]; exact hx))
          · refine z_aload d_X11_copy_42 0 rfl ?_
            refine z_get (v := .int (N 14)) (27) f_X11_256_7 rfl rfl d_X11_copy_44 ?_
            refine z_iconst (v := -1) d_X11_copy_47 (by decide) ?_
            refine z_icmp_ne d_X11_copy_48 (fun c_48 => ?_) (fun c_48 => ?_)
            · obtain ⟨y1, y2, y3, y4, y5, y6, y7, y8⟩ := hx.ss.yes (j := 2) (by decide) c_39
              obtain ⟨z1, z2, z3, z4, z5, z6, z7, z8⟩ := hx.ss.yes (j := 2) (by decide) c_48
              refine z_aload d_X11_copy_54 1 rfl ?_
              refine z_get (v := .int (N 14)) (27) f_X11_256_7 rfl rfl d_X11_copy_56 ?_
              refine z_aload d_X11_copy_59 0 rfl ?_
              refine z_get (v := .int (N 14)) (27) f_X11_256_7 rfl rfl d_X11_copy_61 ?_
              refine z_icmp_eq d_X11_copy_64 (fun c_64 => ?_) (fun c_64 => ?_)
              · have hso : A 37 2 = A 37 2 := (show N 14 = A 37 2 from y2).symm.trans (c_64.trans (show N 14 = A 37 2 from z2))
                refine z_aload d_X11_copy_70 1 rfl ?_
                refine z_iload_n d_X11_copy_72 4 rfl ?_
                refine z_iload d_X11_copy_73 7 rfl ?_
                refine z_callVp 27 c_X11_263 (t_holds2 G x N R K r S T tl i n0) rfl rfl rfl rfl (Nat.le_of_ble_eq_true rfl) rfl d_X11_copy_75 ?_
                refine z_if_eq d_X11_copy_78 (fun c_78 => ?_) (fun c_78 => ?_)
                · refine z_bipush (v := -12) d_X11_copy_93 (by decide) ?_
                  exact z_iret _ d_X11_copy_95 rfl (XP.of (by rw [copR, copX, if_pos his, if_pos hio, show (nI 2).toInt.toNat = 2 from nI_tn (by omega), if_neg y1, if_neg z1, if_pos hso, cop_off ⟨y6, y7⟩ ⟨z6, z7⟩ (fun hh => by have q1 := hh.1; rw [← y5] at q1; rw [show hoQ (N (11 + 2 * 2)) i n0 = false from b01_z c_78] at q1; exact absurd q1 (by decide))]) (by rw [copA, copX, if_pos his, if_pos hio, show (nI 2).toInt.toNat = 2 from nI_tn (by omega), if_neg y1, if_neg z1, if_pos hso, cop_off ⟨y6, y7⟩ ⟨z6, z7⟩ (fun hh => by have q1 := hh.1; rw [← y5] at q1; rw [show hoQ (N (11 + 2 * 2)) i n0 = false from b01_z c_78] at q1; exact absurd q1 (by decide))]; exact hx))
                · refine z_aload d_X11_copy_81 0 rfl ?_
                  refine z_iload d_X11_copy_83 6 rfl ?_
                  refine z_iload d_X11_copy_85 7 rfl ?_
                  refine z_callVp 27 c_X11_263 (t_holds2 G x N R K r S T tl j n0) rfl rfl rfl rfl (Nat.le_of_ble_eq_true rfl) rfl d_X11_copy_87 ?_
                  refine z_if_ne d_X11_copy_90 (fun c_90 => ?_) (fun c_90 => ?_)
                  · have g1 : hoQ (A 38 2) i n0 = true := by rw [← y5]; exact b01_o c_78
                    have g2 : hoQ (A 38 2) j n0 = true := by rw [← z5]; exact b01_o c_90
                    obtain ⟨a1, a2, a3⟩ := (ho_iff ⟨y6, y7⟩).mp g1
                    obtain ⟨b1, b2, b3⟩ := (ho_iff ⟨z6, z7⟩).mp g2
                    rw [lt_i, i_0] at a1 a2 b1
                    have ln := n0.toInt_lt
                    rw [lt_i, isub (by omega) (by omega)] at a3 b3
                    obtain ⟨iq, hiq⟩ : ∃ q : Nat, i = nI q ∧ (q : Int) = i.toInt := ⟨i.toInt.toNat, eq_nI (by omega), by omega⟩
                    obtain ⟨jq, hjq⟩ : ∃ q : Nat, j = nI q ∧ (q : Int) = j.toInt := ⟨j.toInt.toNat, eq_nI (by omega), by omega⟩
                    obtain ⟨m, hmq⟩ : ∃ q : Nat, n0 = nI q ∧ (q : Int) = n0.toInt := ⟨n0.toInt.toNat, eq_nI (by omega), by omega⟩
                    have hi1 : iq + m ≤ (A 38 2).toInt.toNat := by omega
                    have hj1 : jq + m ≤ 40 := by omega
                    have hi2 : iq + m ≤ 40 := by omega
                    refine z_aload d_X11_copy_96 1 rfl ?_
                    refine z_get (v := .ref (x 28)) (27) f_X11_266_7 rfl rfl d_X11_copy_98 ?_
                    refine z_iload_n d_X11_copy_101 4 rfl ?_
                    refine z_aload d_X11_copy_102 0 rfl ?_
                    refine z_get (v := .ref (x 28)) (27) f_X11_266_7 rfl rfl d_X11_copy_104 ?_
                    refine z_iload d_X11_copy_107 6 rfl ?_
                    refine z_iload d_X11_copy_109 7 rfl ?_
                    refine z_copyi 28 28 iq jq m (XW G x N (vf_upd R 9 (va_cpy (R 9) (R 9) iq jq m)) K r S T tl) rfl rfl hiq.2.symm hjq.2.symm hmq.2.symm hi2 hj1 w_0971 rfl (by decide +kernel) (xa_28 G x N R K r S T tl _) d_X11_copy_111 ?_
                    refine z_iload d_X11_copy_114 7 rfl ?_
                    exact z_iret _ d_X11_copy_116 rfl (XP.of (by rw [copR, copX, if_pos his, if_pos hio, show (nI 2).toInt.toNat = 2 from nI_tn (by omega), if_neg y1, if_neg z1, if_pos hso, cop_on ⟨y6, y7⟩ ⟨z6, z7⟩ g1 g2]) (by rw [copA, copX, if_pos his, if_pos hio, show (nI 2).toInt.toNat = 2 from nI_tn (by omega), if_neg y1, if_neg z1, if_pos hso, cop_on ⟨y6, y7⟩ ⟨z6, z7⟩ g1 g2, hiq.1, hjq.1, hmq.1, nI_tn (by omega), nI_tn (by omega), nI_tn (by omega)]; exact hx.sh (fun k hk => if_neg (by omega)) (fun _ _ => rfl) (fun q hq => if_neg (by omega)) (hx.ss.cpy (s := 2) (o := 2) (by decide) (by decide) y1 hi1 hi2 hj1)))
                  · refine z_bipush (v := -12) d_X11_copy_93 (by decide) ?_
                    exact z_iret _ d_X11_copy_95 rfl (XP.of (by rw [copR, copX, if_pos his, if_pos hio, show (nI 2).toInt.toNat = 2 from nI_tn (by omega), if_neg y1, if_neg z1, if_pos hso, cop_off ⟨y6, y7⟩ ⟨z6, z7⟩ (fun hh => by have q1 := hh.2; rw [← z5] at q1; rw [show hoQ (N (11 + 2 * 2)) j n0 = false from b01_z c_90] at q1; exact absurd q1 (by decide))]) (by rw [copA, copX, if_pos his, if_pos hio, show (nI 2).toInt.toNat = 2 from nI_tn (by omega), if_neg y1, if_neg z1, if_pos hso, cop_off ⟨y6, y7⟩ ⟨z6, z7⟩ (fun hh => by have q1 := hh.2; rw [← z5] at q1; rw [show hoQ (N (11 + 2 * 2)) j n0 = false from b01_z c_90] at q1; exact absurd q1 (by decide))]; exact hx))
              · refine z_bipush (v := -13) d_X11_copy_67 (by decide) ?_
                exact z_iret _ d_X11_copy_69 rfl (XP.of (by rw [copR, copX, if_pos his, if_pos hio, show (nI 2).toInt.toNat = 2 from nI_tn (by omega), if_neg y1, if_neg z1, if_neg (show ¬ A 37 2 = A 37 2 from fun hh => c_64 ((show N 14 = A 37 2 from y2).trans (hh.trans (show N 14 = A 37 2 from z2).symm)))]) (by rw [copA, copX, if_pos his, if_pos hio, show (nI 2).toInt.toNat = 2 from nI_tn (by omega), if_neg y1, if_neg z1, if_neg (show ¬ A 37 2 = A 37 2 from fun hh => c_64 ((show N 14 = A 37 2 from y2).trans (hh.trans (show N 14 = A 37 2 from z2).symm)))]; exact hx))
            · refine z_bipush (v := -11) d_X11_copy_51 (by decide) ?_
              exact z_iret _ d_X11_copy_53 rfl (XP.of (by rw [copR, copX, if_pos his, if_pos hio, show (nI 2).toInt.toNat = 2 from nI_tn (by omega), if_neg (show ¬ A 36 2 = 0 from (hx.ss.yes (j := 2) (by decide) c_39).1), if_pos (show A 36 2 = 0 from hx.ss.no (j := 2) (by decide) c_48)]) (by rw [copA, copX, if_pos his, if_pos hio, show (nI 2).toInt.toNat = 2 from nI_tn (by omega), if_neg (show ¬ A 36 2 = 0 from (hx.ss.yes (j := 2) (by decide) c_39).1), if_pos (show A 36 2 = 0 from hx.ss.no (j := 2) (by decide) c_48)]; exact hx))
        · refine z_get (v := .ref (x 22)) (0) f_X11_24_11 rfl rfl d_X11_copy_18 ?_
          refine z_iload_n d_X11_copy_21 1 rfl ?_
          refine z_aldq (C0 := RX7) 22 5 2 rfl rfl (nI_toInt (by omega)) (by omega) d_X11_copy_22 ?_
          refine z_topv (v := .ref (x 27)) rfl ?_
          refine z_astore [(6, .ref (x 27)), (0, .ref (x 0)), (1, .int (nI 2)), (2, .int i), (3, .int (nI 3)), (4, .int j), (5, .int n0)] d_X11_copy_23 (by decide) rfl ?_
          refine z_aload_n d_X11_copy_25 1 rfl ?_
          refine z_get (v := .ref (x 22)) (0) f_X11_24_11 rfl rfl d_X11_copy_26 ?_
          refine z_iload_n d_X11_copy_29 4 rfl ?_
          refine z_aldq (C0 := RX7) 22 5 3 rfl rfl (nI_toInt (by omega)) (by omega) d_X11_copy_30 ?_
          refine z_topv (v := .ref (x 29)) rfl ?_
          refine z_astore [(7, .ref (x 29)), (6, .ref (x 27)), (0, .ref (x 0)), (1, .int (nI 2)), (2, .int i), (3, .int (nI 3)), (4, .int j), (5, .int n0)] d_X11_copy_31 (by decide) rfl ?_
          refine z_aload d_X11_copy_33 1 rfl ?_
          refine z_get (v := .int (N 14)) (27) f_X11_256_7 rfl rfl d_X11_copy_35 ?_
          refine z_iconst (v := -1) d_X11_copy_38 (by decide) ?_
          refine z_icmp_eq d_X11_copy_39 (fun c_39 => ?_) (fun c_39 => ?_)
          · refine z_bipush (v := -11) d_X11_copy_51 (by decide) ?_
            exact z_iret _ d_X11_copy_53 rfl (XP.of (by rw [copR, copX, if_pos his, if_pos hio, show (nI 2).toInt.toNat = 2 from nI_tn (by omega), show (nI 3).toInt.toNat = 3 from nI_tn (by omega), if_pos (show A 36 2 = 0 from hx.ss.no (j := 2) (by decide) c_39)]) (by rw [copA, copX, if_pos his, if_pos hio, show (nI 2).toInt.toNat = 2 from nI_tn (by omega), show (nI 3).toInt.toNat = 3 from nI_tn (by omega), if_pos (show A 36 2 = 0 from hx.ss.no (j := 2) (by decide) c_39)]; exact hx))
          · refine z_aload d_X11_copy_42 0 rfl ?_
            refine z_get (v := .int (N 16)) (29) f_X11_256_7 rfl rfl d_X11_copy_44 ?_
            refine z_iconst (v := -1) d_X11_copy_47 (by decide) ?_
            refine z_icmp_ne d_X11_copy_48 (fun c_48 => ?_) (fun c_48 => ?_)
            · obtain ⟨y1, y2, y3, y4, y5, y6, y7, y8⟩ := hx.ss.yes (j := 2) (by decide) c_39
              obtain ⟨z1, z2, z3, z4, z5, z6, z7, z8⟩ := hx.ss.yes (j := 3) (by decide) c_48
              refine z_aload d_X11_copy_54 1 rfl ?_
              refine z_get (v := .int (N 14)) (27) f_X11_256_7 rfl rfl d_X11_copy_56 ?_
              refine z_aload d_X11_copy_59 0 rfl ?_
              refine z_get (v := .int (N 16)) (29) f_X11_256_7 rfl rfl d_X11_copy_61 ?_
              refine z_icmp_eq d_X11_copy_64 (fun c_64 => ?_) (fun c_64 => ?_)
              · have hso : A 37 2 = A 37 3 := (show N 14 = A 37 2 from y2).symm.trans (c_64.trans (show N 16 = A 37 3 from z2))
                refine z_aload d_X11_copy_70 1 rfl ?_
                refine z_iload_n d_X11_copy_72 4 rfl ?_
                refine z_iload d_X11_copy_73 7 rfl ?_
                refine z_callVp 27 c_X11_263 (t_holds2 G x N R K r S T tl i n0) rfl rfl rfl rfl (Nat.le_of_ble_eq_true rfl) rfl d_X11_copy_75 ?_
                refine z_if_eq d_X11_copy_78 (fun c_78 => ?_) (fun c_78 => ?_)
                · refine z_bipush (v := -12) d_X11_copy_93 (by decide) ?_
                  exact z_iret _ d_X11_copy_95 rfl (XP.of (by rw [copR, copX, if_pos his, if_pos hio, show (nI 2).toInt.toNat = 2 from nI_tn (by omega), show (nI 3).toInt.toNat = 3 from nI_tn (by omega), if_neg y1, if_neg z1, if_pos hso, cop_off ⟨y6, y7⟩ ⟨z6, z7⟩ (fun hh => by have q1 := hh.1; rw [← y5] at q1; rw [show hoQ (N (11 + 2 * 2)) i n0 = false from b01_z c_78] at q1; exact absurd q1 (by decide))]) (by rw [copA, copX, if_pos his, if_pos hio, show (nI 2).toInt.toNat = 2 from nI_tn (by omega), show (nI 3).toInt.toNat = 3 from nI_tn (by omega), if_neg y1, if_neg z1, if_pos hso, cop_off ⟨y6, y7⟩ ⟨z6, z7⟩ (fun hh => by have q1 := hh.1; rw [← y5] at q1; rw [show hoQ (N (11 + 2 * 2)) i n0 = false from b01_z c_78] at q1; exact absurd q1 (by decide))]; exact hx))
                · refine z_aload d_X11_copy_81 0 rfl ?_
                  refine z_iload d_X11_copy_83 6 rfl ?_
                  refine z_iload d_X11_copy_85 7 rfl ?_
                  refine z_callVp 29 c_X11_263 (t_holds3 G x N R K r S T tl j n0) rfl rfl rfl rfl (Nat.le_of_ble_eq_true rfl) rfl d_X11_copy_87 ?_
                  refine z_if_ne d_X11_copy_90 (fun c_90 => ?_) (fun c_90 => ?_)
                  · have g1 : hoQ (A 38 2) i n0 = true := by rw [← y5]; exact b01_o c_78
                    have g2 : hoQ (A 38 3) j n0 = true := by rw [← z5]; exact b01_o c_90
                    obtain ⟨a1, a2, a3⟩ := (ho_iff ⟨y6, y7⟩).mp g1
                    obtain ⟨b1, b2, b3⟩ := (ho_iff ⟨z6, z7⟩).mp g2
                    rw [lt_i, i_0] at a1 a2 b1
                    have ln := n0.toInt_lt
                    rw [lt_i, isub (by omega) (by omega)] at a3 b3
                    obtain ⟨iq, hiq⟩ : ∃ q : Nat, i = nI q ∧ (q : Int) = i.toInt := ⟨i.toInt.toNat, eq_nI (by omega), by omega⟩
                    obtain ⟨jq, hjq⟩ : ∃ q : Nat, j = nI q ∧ (q : Int) = j.toInt := ⟨j.toInt.toNat, eq_nI (by omega), by omega⟩
                    obtain ⟨m, hmq⟩ : ∃ q : Nat, n0 = nI q ∧ (q : Int) = n0.toInt := ⟨n0.toInt.toNat, eq_nI (by omega), by omega⟩
                    have hi1 : iq + m ≤ (A 38 2).toInt.toNat := by omega
                    have hj1 : jq + m ≤ 40 := by omega
                    have hi2 : iq + m ≤ 40 := by omega
                    refine z_aload d_X11_copy_96 1 rfl ?_
                    refine z_get (v := .ref (x 28)) (27) f_X11_266_7 rfl rfl d_X11_copy_98 ?_
                    refine z_iload_n d_X11_copy_101 4 rfl ?_
                    refine z_aload d_X11_copy_102 0 rfl ?_
                    refine z_get (v := .ref (x 30)) (29) f_X11_266_7 rfl rfl d_X11_copy_104 ?_
                    refine z_iload d_X11_copy_107 6 rfl ?_
                    refine z_iload d_X11_copy_109 7 rfl ?_
                    refine z_copyi 28 30 iq jq m (XW G x N (vf_upd R 10 (va_cpy (R 9) (R 10) iq jq m)) K r S T tl) rfl rfl hiq.2.symm hjq.2.symm hmq.2.symm hi2 hj1 w_0971 rfl (by decide +kernel) (xa_30 G x N R K r S T tl _) d_X11_copy_111 ?_
                    refine z_iload d_X11_copy_114 7 rfl ?_
                    exact z_iret _ d_X11_copy_116 rfl (XP.of (by rw [copR, copX, if_pos his, if_pos hio, show (nI 2).toInt.toNat = 2 from nI_tn (by omega), show (nI 3).toInt.toNat = 3 from nI_tn (by omega), if_neg y1, if_neg z1, if_pos hso, cop_on ⟨y6, y7⟩ ⟨z6, z7⟩ g1 g2]) (by rw [copA, copX, if_pos his, if_pos hio, show (nI 2).toInt.toNat = 2 from nI_tn (by omega), show (nI 3).toInt.toNat = 3 from nI_tn (by omega), if_neg y1, if_neg z1, if_pos hso, cop_on ⟨y6, y7⟩ ⟨z6, z7⟩ g1 g2, hiq.1, hjq.1, hmq.1, nI_tn (by omega), nI_tn (by omega), nI_tn (by omega)]; exact hx.sh (fun k hk => if_neg (by omega)) (fun _ _ => rfl) (fun q hq => if_neg (by omega)) (hx.ss.cpy (s := 2) (o := 3) (by decide) (by decide) y1 hi1 hi2 hj1)))
                  · refine z_bipush (v := -12) d_X11_copy_93 (by decide) ?_
                    exact z_iret _ d_X11_copy_95 rfl (XP.of (by rw [copR, copX, if_pos his, if_pos hio, show (nI 2).toInt.toNat = 2 from nI_tn (by omega), show (nI 3).toInt.toNat = 3 from nI_tn (by omega), if_neg y1, if_neg z1, if_pos hso, cop_off ⟨y6, y7⟩ ⟨z6, z7⟩ (fun hh => by have q1 := hh.2; rw [← z5] at q1; rw [show hoQ (N (11 + 2 * 3)) j n0 = false from b01_z c_90] at q1; exact absurd q1 (by decide))]) (by rw [copA, copX, if_pos his, if_pos hio, show (nI 2).toInt.toNat = 2 from nI_tn (by omega), show (nI 3).toInt.toNat = 3 from nI_tn (by omega), if_neg y1, if_neg z1, if_pos hso, cop_off ⟨y6, y7⟩ ⟨z6, z7⟩ (fun hh => by have q1 := hh.2; rw [← z5] at q1; rw [show hoQ (N (11 + 2 * 3)) j n0 = false from b01_z c_90] at q1; exact absurd q1 (by decide))]; exact hx))
              · refine z_bipush (v := -13) d_X11_copy_67 (by decide) ?_
                exact z_iret _ d_X11_copy_69 rfl (XP.of (by rw [copR, copX, if_pos his, if_pos hio, show (nI 2).toInt.toNat = 2 from nI_tn (by omega), show (nI 3).toInt.toNat = 3 from nI_tn (by omega), if_neg y1, if_neg z1, if_neg (show ¬ A 37 2 = A 37 3 from fun hh => c_64 ((show N 14 = A 37 2 from y2).trans (hh.trans (show N 16 = A 37 3 from z2).symm)))]) (by rw [copA, copX, if_pos his, if_pos hio, show (nI 2).toInt.toNat = 2 from nI_tn (by omega), show (nI 3).toInt.toNat = 3 from nI_tn (by omega), if_neg y1, if_neg z1, if_neg (show ¬ A 37 2 = A 37 3 from fun hh => c_64 ((show N 14 = A 37 2 from y2).trans (hh.trans (show N 16 = A 37 3 from z2).symm)))]; exact hx))
            · refine z_bipush (v := -11) d_X11_copy_51 (by decide) ?_
              exact z_iret _ d_X11_copy_53 rfl (XP.of (by rw [copR, copX, if_pos his, if_pos hio, show (nI 2).toInt.toNat = 2 from nI_tn (by omega), show (nI 3).toInt.toNat = 3 from nI_tn (by omega), if_neg (show ¬ A 36 2 = 0 from (hx.ss.yes (j := 2) (by decide) c_39).1), if_pos (show A 36 3 = 0 from hx.ss.no (j := 3) (by decide) c_48)]) (by rw [copA, copX, if_pos his, if_pos hio, show (nI 2).toInt.toNat = 2 from nI_tn (by omega), show (nI 3).toInt.toNat = 3 from nI_tn (by omega), if_neg (show ¬ A 36 2 = 0 from (hx.ss.yes (j := 2) (by decide) c_39).1), if_pos (show A 36 3 = 0 from hx.ss.no (j := 3) (by decide) c_48)]; exact hx))
      · refine z_aload_n d_X11_copy_17 0 rfl ?_
        obtain ⟨j_o, hj_o, ej_o⟩ := inB_nI hio
        replace hj_o : j_o < 4 := hj_o
        subst ej_o
        rcases (show j_o = 0 ∨ j_o = 1 ∨ j_o = 2 ∨ j_o = 3 by omega) with rfl | rfl | rfl | rfl
        · refine z_get (v := .ref (x 22)) (0) f_X11_24_11 rfl rfl d_X11_copy_18 ?_
          refine z_iload_n d_X11_copy_21 1 rfl ?_
          refine z_aldq (C0 := RX7) 22 5 3 rfl rfl (nI_toInt (by omega)) (by omega) d_X11_copy_22 ?_
          refine z_topv (v := .ref (x 29)) rfl ?_
          refine z_astore [(6, .ref (x 29)), (0, .ref (x 0)), (1, .int (nI 3)), (2, .int i), (3, .int (nI 0)), (4, .int j), (5, .int n0)] d_X11_copy_23 (by decide) rfl ?_
          refine z_aload_n d_X11_copy_25 1 rfl ?_
          refine z_get (v := .ref (x 22)) (0) f_X11_24_11 rfl rfl d_X11_copy_26 ?_
          refine z_iload_n d_X11_copy_29 4 rfl ?_
          refine z_aldq (C0 := RX7) 22 5 0 rfl rfl (nI_toInt (by omega)) (by omega) d_X11_copy_30 ?_
          refine z_topv (v := .ref (x 23)) rfl ?_
          refine z_astore [(7, .ref (x 23)), (6, .ref (x 29)), (0, .ref (x 0)), (1, .int (nI 3)), (2, .int i), (3, .int (nI 0)), (4, .int j), (5, .int n0)] d_X11_copy_31 (by decide) rfl ?_
          refine z_aload d_X11_copy_33 1 rfl ?_
          refine z_get (v := .int (N 16)) (29) f_X11_256_7 rfl rfl d_X11_copy_35 ?_
          refine z_iconst (v := -1) d_X11_copy_38 (by decide) ?_
          refine z_icmp_eq d_X11_copy_39 (fun c_39 => ?_) (fun c_39 => ?_)
          · refine z_bipush (v := -11) d_X11_copy_51 (by decide) ?_
            exact z_iret _ d_X11_copy_53 rfl (XP.of (by rw [copR, copX, if_pos his, if_pos hio, show (nI 3).toInt.toNat = 3 from nI_tn (by omega), show (nI 0).toInt.toNat = 0 from nI_tn (by omega), if_pos (show A 36 3 = 0 from hx.ss.no (j := 3) (by decide) c_39)]) (by rw [copA, copX, if_pos his, if_pos hio, show (nI 3).toInt.toNat = 3 from nI_tn (by omega), show (nI 0).toInt.toNat = 0 from nI_tn (by omega), if_pos (show A 36 3 = 0 from hx.ss.no (j := 3) (by decide) c_39)]; exact hx))
          · refine z_aload d_X11_copy_42 0 rfl ?_
            refine z_get (v := .int (N 10)) (23) f_X11_256_7 rfl rfl d_X11_copy_44 ?_
            refine z_iconst (v := -1) d_X11_copy_47 (by decide) ?_
            refine z_icmp_ne d_X11_copy_48 (fun c_48 => ?_) (fun c_48 => ?_)
            · obtain ⟨y1, y2, y3, y4, y5, y6, y7, y8⟩ := hx.ss.yes (j := 3) (by decide) c_39
              obtain ⟨z1, z2, z3, z4, z5, z6, z7, z8⟩ := hx.ss.yes (j := 0) (by decide) c_48
              refine z_aload d_X11_copy_54 1 rfl ?_
              refine z_get (v := .int (N 16)) (29) f_X11_256_7 rfl rfl d_X11_copy_56 ?_
              refine z_aload d_X11_copy_59 0 rfl ?_
              refine z_get (v := .int (N 10)) (23) f_X11_256_7 rfl rfl d_X11_copy_61 ?_
              refine z_icmp_eq d_X11_copy_64 (fun c_64 => ?_) (fun c_64 => ?_)
              · have hso : A 37 3 = A 37 0 := (show N 16 = A 37 3 from y2).symm.trans (c_64.trans (show N 10 = A 37 0 from z2))
                refine z_aload d_X11_copy_70 1 rfl ?_
                refine z_iload_n d_X11_copy_72 4 rfl ?_
                refine z_iload d_X11_copy_73 7 rfl ?_
                refine z_callVp 29 c_X11_263 (t_holds3 G x N R K r S T tl i n0) rfl rfl rfl rfl (Nat.le_of_ble_eq_true rfl) rfl d_X11_copy_75 ?_
                refine z_if_eq d_X11_copy_78 (fun c_78 => ?_) (fun c_78 => ?_)
                · refine z_bipush (v := -12) d_X11_copy_93 (by decide) ?_
                  exact z_iret _ d_X11_copy_95 rfl (XP.of (by rw [copR, copX, if_pos his, if_pos hio, show (nI 3).toInt.toNat = 3 from nI_tn (by omega), show (nI 0).toInt.toNat = 0 from nI_tn (by omega), if_neg y1, if_neg z1, if_pos hso, cop_off ⟨y6, y7⟩ ⟨z6, z7⟩ (fun hh => by have q1 := hh.1; rw [← y5] at q1; rw [show hoQ (N (11 + 2 * 3)) i n0 = false from b01_z c_78] at q1; exact absurd q1 (by decide))]) (by rw [copA, copX, if_pos his, if_pos hio, show (nI 3).toInt.toNat = 3 from nI_tn (by omega), show (nI 0).toInt.toNat = 0 from nI_tn (by omega), if_neg y1, if_neg z1, if_pos hso, cop_off ⟨y6, y7⟩ ⟨z6, z7⟩ (fun hh => by have q1 := hh.1; rw [← y5] at q1; rw [show hoQ (N (11 + 2 * 3)) i n0 = false from b01_z c_78] at q1; exact absurd q1 (by decide))]; exact hx))
                · refine z_aload d_X11_copy_81 0 rfl ?_
                  refine z_iload d_X11_copy_83 6 rfl ?_
                  refine z_iload d_X11_copy_85 7 rfl ?_
                  refine z_callVp 23 c_X11_263 (t_holds0 G x N R K r S T tl j n0) rfl rfl rfl rfl (Nat.le_of_ble_eq_true rfl) rfl d_X11_copy_87 ?_
                  refine z_if_ne d_X11_copy_90 (fun c_90 => ?_) (fun c_90 => ?_)
                  · have g1 : hoQ (A 38 3) i n0 = true := by rw [← y5]; exact b01_o c_78
                    have g2 : hoQ (A 38 0) j n0 = true := by rw [← z5]; exact b01_o c_90
                    obtain ⟨a1, a2, a3⟩ := (ho_iff ⟨y6, y7⟩).mp g1
                    obtain ⟨b1, b2, b3⟩ := (ho_iff ⟨z6, z7⟩).mp g2
                    rw [lt_i, i_0] at a1 a2 b1
                    have ln := n0.toInt_lt
                    rw [lt_i, isub (by omega) (by omega)] at a3 b3
                    obtain ⟨iq, hiq⟩ : ∃ q : Nat, i = nI q ∧ (q : Int) = i.toInt := ⟨i.toInt.toNat, eq_nI (by omega), by omega⟩
                    obtain ⟨jq, hjq⟩ : ∃ q : Nat, j = nI q ∧ (q : Int) = j.toInt := ⟨j.toInt.toNat, eq_nI (by omega), by omega⟩
                    obtain ⟨m, hmq⟩ : ∃ q : Nat, n0 = nI q ∧ (q : Int) = n0.toInt := ⟨n0.toInt.toNat, eq_nI (by omega), by omega⟩
                    have hi1 : iq + m ≤ (A 38 3).toInt.toNat := by omega
                    have hj1 : jq + m ≤ 40 := by omega
                    have hi2 : iq + m ≤ 40 := by omega
                    refine z_aload d_X11_copy_96 1 rfl ?_
                    refine z_get (v := .ref (x 30)) (29) f_X11_266_7 rfl rfl d_X11_copy_98 ?_
                    refine z_iload_n d_X11_copy_101 4 rfl ?_
                    refine z_aload d_X11_copy_102 0 rfl ?_
                    refine z_get (v := .ref (x 24)) (23) f_X11_266_7 rfl rfl d_X11_copy_104 ?_
                    refine z_iload d_X11_copy_107 6 rfl ?_
                    refine z_iload d_X11_copy_109 7 rfl ?_
                    refine z_copyi 30 24 iq jq m (XW G x N (vf_upd R 7 (va_cpy (R 10) (R 7) iq jq m)) K r S T tl) rfl rfl hiq.2.symm hjq.2.symm hmq.2.symm hi2 hj1 w_0971 rfl (by decide +kernel) (xa_24 G x N R K r S T tl _) d_X11_copy_111 ?_
                    refine z_iload d_X11_copy_114 7 rfl ?_
                    exact z_iret _ d_X11_copy_116 rfl (XP.of (by rw [copR, copX, if_pos his, if_pos hio, show (nI 3).toInt.toNat = 3 from nI_tn (by omega), show (nI 0).toInt.toNat = 0 from nI_tn (by omega), if_neg y1, if_neg z1, if_pos hso, cop_on ⟨y6, y7⟩ ⟨z6, z7⟩ g1 g2]) (by rw [copA, copX, if_pos his, if_pos hio, show (nI 3).toInt.toNat = 3 from nI_tn (by omega), show (nI 0).toInt.toNat = 0 from nI_tn (by omega), if_neg y1, if_neg z1, if_pos hso, cop_on ⟨y6, y7⟩ ⟨z6, z7⟩ g1 g2, hiq.1, hjq.1, hmq.1, nI_tn (by omega), nI_tn (by omega), nI_tn (by omega)]; exact hx.sh (fun k hk => if_neg (by omega)) (fun _ _ => rfl) (fun q hq => if_neg (by omega)) (hx.ss.cpy (s := 3) (o := 0) (by decide) (by decide) y1 hi1 hi2 hj1)))
                  · refine z_bipush (v := -12) d_X11_copy_93 (by decide) ?_
                    exact z_iret _ d_X11_copy_95 rfl (XP.of (by rw [copR, copX, if_pos his, if_pos hio, show (nI 3).toInt.toNat = 3 from nI_tn (by omega), show (nI 0).toInt.toNat = 0 from nI_tn (by omega), if_neg y1, if_neg z1, if_pos hso, cop_off ⟨y6, y7⟩ ⟨z6, z7⟩ (fun hh => by have q1 := hh.2; rw [← z5] at q1; rw [show hoQ (N (11 + 2 * 0)) j n0 = false from b01_z c_90] at q1; exact absurd q1 (by decide))]) (by rw [copA, copX, if_pos his, if_pos hio, show (nI 3).toInt.toNat = 3 from nI_tn (by omega), show (nI 0).toInt.toNat = 0 from nI_tn (by omega), if_neg y1, if_neg z1, if_pos hso, cop_off ⟨y6, y7⟩ ⟨z6, z7⟩ (fun hh => by have q1 := hh.2; rw [← z5] at q1; rw [show hoQ (N (11 + 2 * 0)) j n0 = false from b01_z c_90] at q1; exact absurd q1 (by decide))]; exact hx))
              · refine z_bipush (v := -13) d_X11_copy_67 (by decide) ?_
                exact z_iret _ d_X11_copy_69 rfl (XP.of (by rw [copR, copX, if_pos his, if_pos hio, show (nI 3).toInt.toNat = 3 from nI_tn (by omega), show (nI 0).toInt.toNat = 0 from nI_tn (by omega), if_neg y1, if_neg z1, if_neg (show ¬ A 37 3 = A 37 0 from fun hh => c_64 ((show N 16 = A 37 3 from y2).trans (hh.trans (show N 10 = A 37 0 from z2).symm)))]) (by rw [copA, copX, if_pos his, if_pos hio, show (nI 3).toInt.toNat = 3 from nI_tn (by omega), show (nI 0).toInt.toNat = 0 from nI_tn (by omega), if_neg y1, if_neg z1, if_neg (show ¬ A 37 3 = A 37 0 from fun hh => c_64 ((show N 16 = A 37 3 from y2).trans (hh.trans (show N 10 = A 37 0 from z2).symm)))]; exact hx))
            · refine z_bipush (v := -11) d_X11_copy_51 (by decide) ?_
              exact z_iret _ d_X11_copy_53 rfl (XP.of (by rw [copR, copX, if_pos his, if_pos hio, show (nI 3).toInt.toNat = 3 from nI_tn (by omega), show (nI 0).toInt.toNat = 0 from nI_tn (by omega), if_neg (show ¬ A 36 3 = 0 from (hx.ss.yes (j := 3) (by decide) c_39).1), if_pos (show A 36 0 = 0 from hx.ss.no (j := 0) (by decide) c_48)]) (by rw [copA, copX, if_pos his, if_pos hio, show (nI 3).toInt.toNat = 3 from nI_tn (by omega), show (nI 0).toInt.toNat = 0 from nI_tn (by omega), if_neg (show ¬ A 36 3 = 0 from (hx.ss.yes (j := 3) (by decide) c_39).1), if_pos (show A 36 0 = 0 from hx.ss.no (j := 0) (by decide) c_48)]; exact hx))
        · refine z_get (v := .ref (x 22)) (0) f_X11_24_11 rfl rfl d_X11_copy_18 ?_
          refine z_iload_n d_X11_copy_21 1 rfl ?_
          refine z_aldq (C0 := RX7) 22 5 3 rfl rfl (nI_toInt (by omega)) (by omega) d_X11_copy_22 ?_
          refine z_topv (v := .ref (x 29)) rfl ?_
          refine z_astore [(6, .ref (x 29)), (0, .ref (x 0)), (1, .int (nI 3)), (2, .int i), (3, .int (nI 1)), (4, .int j), (5, .int n0)] d_X11_copy_23 (by decide) rfl ?_
          refine z_aload_n d_X11_copy_25 1 rfl ?_
          refine z_get (v := .ref (x 22)) (0) f_X11_24_11 rfl rfl d_X11_copy_26 ?_
          refine z_iload_n d_X11_copy_29 4 rfl ?_
          refine z_aldq (C0 := RX7) 22 5 1 rfl rfl (nI_toInt (by omega)) (by omega) d_X11_copy_30 ?_
          refine z_topv (v := .ref (x 25)) rfl ?_
          refine z_astore [(7, .ref (x 25)), (6, .ref (x 29)), (0, .ref (x 0)), (1, .int (nI 3)), (2, .int i), (3, .int (nI 1)), (4, .int j), (5, .int n0)] d_X11_copy_31 (by decide) rfl ?_
          refine z_aload d_X11_copy_33 1 rfl ?_
          refine z_get (v := .int (N 16)) (29) f_X11_256_7 rfl rfl d_X11_copy_35 ?_
          refine z_iconst (v := -1) d_X11_copy_38 (by decide) ?_
          refine z_icmp_eq d_X11_copy_39 (fun c_39 => ?_) (fun c_39 => ?_)
          · refine z_bipush (v := -11) d_X11_copy_51 (by decide) ?_
            exact z_iret _ d_X11_copy_53 rfl (XP.of (by rw [copR, copX, if_pos his, if_pos hio, show (nI 3).toInt.toNat = 3 from nI_tn (by omega), show (nI 1).toInt.toNat = 1 from nI_tn (by omega), if_pos (show A 36 3 = 0 from hx.ss.no (j := 3) (by decide) c_39)]) (by rw [copA, copX, if_pos his, if_pos hio, show (nI 3).toInt.toNat = 3 from nI_tn (by omega), show (nI 1).toInt.toNat = 1 from nI_tn (by omega), if_pos (show A 36 3 = 0 from hx.ss.no (j := 3) (by decide) c_39)]; exact hx))
          · refine z_aload d_X11_copy_42 0 rfl ?_
            refine z_get (v := .int (N 12)) (25) f_X11_256_7 rfl rfl d_X11_copy_44 ?_
            refine z_iconst (v := -1) d_X11_copy_47 (by decide) ?_
            refine z_icmp_ne d_X11_copy_48 (fun c_48 => ?_) (fun c_48 => ?_)
            · obtain ⟨y1, y2, y3, y4, y5, y6, y7, y8⟩ := hx.ss.yes (j := 3) (by decide) c_39
              obtain ⟨z1, z2, z3, z4, z5, z6, z7, z8⟩ := hx.ss.yes (j := 1) (by decide) c_48
              refine z_aload d_X11_copy_54 1 rfl ?_
              refine z_get (v := .int (N 16)) (29) f_X11_256_7 rfl rfl d_X11_copy_56 ?_
              refine z_aload d_X11_copy_59 0 rfl ?_
              refine z_get (v := .int (N 12)) (25) f_X11_256_7 rfl rfl d_X11_copy_61 ?_
              refine z_icmp_eq d_X11_copy_64 (fun c_64 => ?_) (fun c_64 => ?_)
              · have hso : A 37 3 = A 37 1 := (show N 16 = A 37 3 from y2).symm.trans (c_64.trans (show N 12 = A 37 1 from z2))
                refine z_aload d_X11_copy_70 1 rfl ?_
                refine z_iload_n d_X11_copy_72 4 rfl ?_
                refine z_iload d_X11_copy_73 7 rfl ?_
                refine z_callVp 29 c_X11_263 (t_holds3 G x N R K r S T tl i n0) rfl rfl rfl rfl (Nat.le_of_ble_eq_true rfl) rfl d_X11_copy_75 ?_
                refine z_if_eq d_X11_copy_78 (fun c_78 => ?_) (fun c_78 => ?_)
                · refine z_bipush (v := -12) d_X11_copy_93 (by decide) ?_
                  exact z_iret _ d_X11_copy_95 rfl (XP.of (by rw [copR, copX, if_pos his, if_pos hio, show (nI 3).toInt.toNat = 3 from nI_tn (by omega), show (nI 1).toInt.toNat = 1 from nI_tn (by omega), if_neg y1, if_neg z1, if_pos hso, cop_off ⟨y6, y7⟩ ⟨z6, z7⟩ (fun hh => by have q1 := hh.1; rw [← y5] at q1; rw [show hoQ (N (11 + 2 * 3)) i n0 = false from b01_z c_78] at q1; exact absurd q1 (by decide))]) (by rw [copA, copX, if_pos his, if_pos hio, show (nI 3).toInt.toNat = 3 from nI_tn (by omega), show (nI 1).toInt.toNat = 1 from nI_tn (by omega), if_neg y1, if_neg z1, if_pos hso, cop_off ⟨y6, y7⟩ ⟨z6, z7⟩ (fun hh => by have q1 := hh.1; rw [← y5] at q1; rw [show hoQ (N (11 + 2 * 3)) i n0 = false from b01_z c_78] at q1; exact absurd q1 (by decide))]; exact hx))
                · refine z_aload d_X11_copy_81 0 rfl ?_
                  refine z_iload d_X11_copy_83 6 rfl ?_
                  refine z_iload d_X11_copy_85 7 rfl ?_
                  refine z_callVp 25 c_X11_263 (t_holds1 G x N R K r S T tl j n0) rfl rfl rfl rfl (Nat.le_of_ble_eq_true rfl) rfl d_X11_copy_87 ?_
                  refine z_if_ne d_X11_copy_90 (fun c_90 => ?_) (fun c_90 => ?_)
                  · have g1 : hoQ (A 38 3) i n0 = true := by rw [← y5]; exact b01_o c_78
                    have g2 : hoQ (A 38 1) j n0 = true := by rw [← z5]; exact b01_o c_90
                    obtain ⟨a1, a2, a3⟩ := (ho_iff ⟨y6, y7⟩).mp g1
                    obtain ⟨b1, b2, b3⟩ := (ho_iff ⟨z6, z7⟩).mp g2
                    rw [lt_i, i_0] at a1 a2 b1
                    have ln := n0.toInt_lt
                    rw [lt_i, isub (by omega) (by omega)] at a3 b3
                    obtain ⟨iq, hiq⟩ : ∃ q : Nat, i = nI q ∧ (q : Int) = i.toInt := ⟨i.toInt.toNat, eq_nI (by omega), by omega⟩
                    obtain ⟨jq, hjq⟩ : ∃ q : Nat, j = nI q ∧ (q : Int) = j.toInt := ⟨j.toInt.toNat, eq_nI (by omega), by omega⟩
                    obtain ⟨m, hmq⟩ : ∃ q : Nat, n0 = nI q ∧ (q : Int) = n0.toInt := ⟨n0.toInt.toNat, eq_nI (by omega), by omega⟩
                    have hi1 : iq + m ≤ (A 38 3).toInt.toNat := by omega
                    have hj1 : jq + m ≤ 40 := by omega
                    have hi2 : iq + m ≤ 40 := by omega
                    refine z_aload d_X11_copy_96 1 rfl ?_
                    refine z_get (v := .ref (x 30)) (29) f_X11_266_7 rfl rfl d_X11_copy_98 ?_
                    refine z_iload_n d_X11_copy_101 4 rfl ?_
                    refine z_aload d_X11_copy_102 0 rfl ?_
                    refine z_get (v := .ref (x 26)) (25) f_X11_266_7 rfl rfl d_X11_copy_104 ?_
                    refine z_iload d_X11_copy_107 6 rfl ?_
                    refine z_iload d_X11_copy_109 7 rfl ?_
                    refine z_copyi 30 26 iq jq m (XW G x N (vf_upd R 8 (va_cpy (R 10) (R 8) iq jq m)) K r S T tl) rfl rfl hiq.2.symm hjq.2.symm hmq.2.symm hi2 hj1 w_0971 rfl (by decide +kernel) (xa_26 G x N R K r S T tl _) d_X11_copy_111 ?_
                    refine z_iload d_X11_copy_114 7 rfl ?_
                    exact z_iret _ d_X11_copy_116 rfl (XP.of (by rw [copR, copX, if_pos his, if_pos hio, show (nI 3).toInt.toNat = 3 from nI_tn (by omega), show (nI 1).toInt.toNat = 1 from nI_tn (by omega), if_neg y1, if_neg z1, if_pos hso, cop_on ⟨y6, y7⟩ ⟨z6, z7⟩ g1 g2]) (by rw [copA, copX, if_pos his, if_pos hio, show (nI 3).toInt.toNat = 3 from nI_tn (by omega), show (nI 1).toInt.toNat = 1 from nI_tn (by omega), if_neg y1, if_neg z1, if_pos hso, cop_on ⟨y6, y7⟩ ⟨z6, z7⟩ g1 g2, hiq.1, hjq.1, hmq.1, nI_tn (by omega), nI_tn (by omega), nI_tn (by omega)]; exact hx.sh (fun k hk => if_neg (by omega)) (fun _ _ => rfl) (fun q hq => if_neg (by omega)) (hx.ss.cpy (s := 3) (o := 1) (by decide) (by decide) y1 hi1 hi2 hj1)))
                  · refine z_bipush (v := -12) d_X11_copy_93 (by decide) ?_
                    exact z_iret _ d_X11_copy_95 rfl (XP.of (by rw [copR, copX, if_pos his, if_pos hio, show (nI 3).toInt.toNat = 3 from nI_tn (by omega), show (nI 1).toInt.toNat = 1 from nI_tn (by omega), if_neg y1, if_neg z1, if_pos hso, cop_off ⟨y6, y7⟩ ⟨z6, z7⟩ (fun hh => by have q1 := hh.2; rw [← z5] at q1; rw [show hoQ (N (11 + 2 * 1)) j n0 = false from b01_z c_90] at q1; exact absurd q1 (by decide))]) (by rw [copA, copX, if_pos his, if_pos hio, show (nI 3).toInt.toNat = 3 from nI_tn (by omega), show (nI 1).toInt.toNat = 1 from nI_tn (by omega), if_neg y1, if_neg z1, if_pos hso, cop_off ⟨y6, y7⟩ ⟨z6, z7⟩ (fun hh => by have q1 := hh.2; rw [← z5] at q1; rw [show hoQ (N (11 + 2 * 1)) j n0 = false from b01_z c_90] at q1; exact absurd q1 (by decide))]; exact hx))
              · refine z_bipush (v := -13) d_X11_copy_67 (by decide) ?_
                exact z_iret _ d_X11_copy_69 rfl (XP.of (by rw [copR, copX, if_pos his, if_pos hio, show (nI 3).toInt.toNat = 3 from nI_tn (by omega), show (nI 1).toInt.toNat = 1 from nI_tn (by omega), if_neg y1, if_neg z1, if_neg (show ¬ A 37 3 = A 37 1 from fun hh => c_64 ((show N 16 = A 37 3 from y2).trans (hh.trans (show N 12 = A 37 1 from z2).symm)))]) (by rw [copA, copX, if_pos his, if_pos hio, show (nI 3).toInt.toNat = 3 from nI_tn (by omega), show (nI 1).toInt.toNat = 1 from nI_tn (by omega), if_neg y1, if_neg z1, if_neg (show ¬ A 37 3 = A 37 1 from fun hh => c_64 ((show N 16 = A 37 3 from y2).trans (hh.trans (show N 12 = A 37 1 from z2).symm)))]; exact hx))
            · refine z_bipush (v := -11) d_X11_copy_51 (by decide) ?_
              exact z_iret _ d_X11_copy_53 rfl (XP.of (by rw [copR, copX, if_pos his, if_pos hio, show (nI 3).toInt.toNat = 3 from nI_tn (by omega), show (nI 1).toInt.toNat = 1 from nI_tn (by omega), if_neg (show ¬ A 36 3 = 0 from (hx.ss.yes (j := 3) (by decide) c_39).1), if_pos (show A 36 1 = 0 from hx.ss.no (j := 1) (by decide) c_48)]) (by rw [copA, copX, if_pos his, if_pos hio, show (nI 3).toInt.toNat = 3 from nI_tn (by omega), show (nI 1).toInt.toNat = 1 from nI_tn (by omega), if_neg (show ¬ A 36 3 = 0 from (hx.ss.yes (j := 3) (by decide) c_39).1), if_pos (show A 36 1 = 0 from hx.ss.no (j := 1) (by decide) c_48)]; exact hx))
        · refine z_get (v := .ref (x 22)) (0) f_X11_24_11 rfl rfl d_X11_copy_18 ?_
          refine z_iload_n d_X11_copy_21 1 rfl ?_
          refine z_aldq (C0 := RX7) 22 5 3 rfl rfl (nI_toInt (by omega)) (by omega) d_X11_copy_22 ?_
          refine z_topv (v := .ref (x 29)) rfl ?_
          refine z_astore [(6, .ref (x 29)), (0, .ref (x 0)), (1, .int (nI 3)), (2, .int i), (3, .int (nI 2)), (4, .int j), (5, .int n0)] d_X11_copy_23 (by decide) rfl ?_
          refine z_aload_n d_X11_copy_25 1 rfl ?_
          refine z_get (v := .ref (x 22)) (0) f_X11_24_11 rfl rfl d_X11_copy_26 ?_
          refine z_iload_n d_X11_copy_29 4 rfl ?_
          refine z_aldq (C0 := RX7) 22 5 2 rfl rfl (nI_toInt (by omega)) (by omega) d_X11_copy_30 ?_
          refine z_topv (v := .ref (x 27)) rfl ?_
          refine z_astore [(7, .ref (x 27)), (6, .ref (x 29)), (0, .ref (x 0)), (1, .int (nI 3)), (2, .int i), (3, .int (nI 2)), (4, .int j), (5, .int n0)] d_X11_copy_31 (by decide) rfl ?_
          refine z_aload d_X11_copy_33 1 rfl ?_
          refine z_get (v := .int (N 16)) (29) f_X11_256_7 rfl rfl d_X11_copy_35 ?_
          refine z_iconst (v := -1) d_X11_copy_38 (by decide) ?_
          refine z_icmp_eq d_X11_copy_39 (fun c_39 => ?_) (fun c_39 => ?_)
          · refine z_bipush (v := -11) d_X11_copy_51 (by decide) ?_
            exact z_iret _ d_X11_copy_53 rfl (XP.of (by rw [copR, copX, if_pos his, if_pos hio, show (nI 3).toInt.toNat = 3 from nI_tn (by omega), show (nI 2).toInt.toNat = 2 from nI_tn (by omega), if_pos (show A 36 3 = 0 from hx.ss.no (j := 3) (by decide) c_39)]) (by rw [copA, copX, if_pos his, if_pos hio, show (nI 3).toInt.toNat = 3 from nI_tn (by omega), show (nI 2).toInt.toNat = 2 from nI_tn (by omega), if_pos (show A 36 3 = 0 from hx.ss.no (j := 3) (by decide) c_39)]; exact hx))
          · refine z_aload d_X11_copy_42 0 rfl ?_
            refine z_get (v := .int (N 14)) (27) f_X11_256_7 rfl rfl d_X11_copy_44 ?_
            refine z_iconst (v := -1) d_X11_copy_47 (by decide) ?_
            refine z_icmp_ne d_X11_copy_48 (fun c_48 => ?_) (fun c_48 => ?_)
            · obtain ⟨y1, y2, y3, y4, y5, y6, y7, y8⟩ := hx.ss.yes (j := 3) (by decide) c_39
              obtain ⟨z1, z2, z3, z4, z5, z6, z7, z8⟩ := hx.ss.yes (j := 2) (by decide) c_48
              refine z_aload d_X11_copy_54 1 rfl ?_
              refine z_get (v := .int (N 16)) (29) f_X11_256_7 rfl rfl d_X11_copy_56 ?_
              refine z_aload d_X11_copy_59 0 rfl ?_
              refine z_get (v := .int (N 14)) (27) f_X11_256_7 rfl rfl d_X11_copy_61 ?_
              refine z_icmp_eq d_X11_copy_64 (fun c_64 => ?_) (fun c_64 => ?_)
              · have hso : A 37 3 = A 37 2 := (show N 16 = A 37 3 from y2).symm.trans (c_64.trans (show N 14 = A 37 2 from z2))
                refine z_aload d_X11_copy_70 1 rfl ?_
                refine z_iload_n d_X11_copy_72 4 rfl ?_
                refine z_iload d_X11_copy_73 7 rfl ?_
                refine z_callVp 29 c_X11_263 (t_holds3 G x N R K r S T tl i n0) rfl rfl rfl rfl (Nat.le_of_ble_eq_true rfl) rfl d_X11_copy_75 ?_
                refine z_if_eq d_X11_copy_78 (fun c_78 => ?_) (fun c_78 => ?_)
                · refine z_bipush (v := -12) d_X11_copy_93 (by decide) ?_
                  exact z_iret _ d_X11_copy_95 rfl (XP.of (by rw [copR, copX, if_pos his, if_pos hio, show (nI 3).toInt.toNat = 3 from nI_tn (by omega), show (nI 2).toInt.toNat = 2 from nI_tn (by omega), if_neg y1, if_neg z1, if_pos hso, cop_off ⟨y6, y7⟩ ⟨z6, z7⟩ (fun hh => by have q1 := hh.1; rw [← y5] at q1; rw [show hoQ (N (11 + 2 * 3)) i n0 = false from b01_z c_78] at q1; exact absurd q1 (by decide))]) (by rw [copA, copX, if_pos his, if_pos hio, show (nI 3).toInt.toNat = 3 from nI_tn (by omega), show (nI 2).toInt.toNat = 2 from nI_tn (by omega), if_neg y1, if_neg z1, if_pos hso, cop_off ⟨y6, y7⟩ ⟨z6, z7⟩ (fun hh => by have q1 := hh.1; rw [← y5] at q1; rw [show hoQ (N (11 + 2 * 3)) i n0 = false from b01_z c_78] at q1; exact absurd q1 (by decide))]; exact hx))
                · refine z_aload d_X11_copy_81 0 rfl ?_
                  refine z_iload d_X11_copy_83 6 rfl ?_
                  refine z_iload d_X11_copy_85 7 rfl ?_
                  refine z_callVp 27 c_X11_263 (t_holds2 G x N R K r S T tl j n0) rfl rfl rfl rfl (Nat.le_of_ble_eq_true rfl) rfl d_X11_copy_87 ?_
                  refine z_if_ne d_X11_copy_90 (fun c_90 => ?_) (fun c_90 => ?_)
                  · have g1 : hoQ (A 38 3) i n0 = true := by rw [← y5]; exact b01_o c_78
                    have g2 : hoQ (A 38 2) j n0 = true := by rw [← z5]; exact b01_o c_90
                    obtain ⟨a1, a2, a3⟩ := (ho_iff ⟨y6, y7⟩).mp g1
                    obtain ⟨b1, b2, b3⟩ := (ho_iff ⟨z6, z7⟩).mp g2
                    rw [lt_i, i_0] at a1 a2 b1
                    have ln := n0.toInt_lt
                    rw [lt_i, isub (by omega) (by omega)] at a3 b3
                    obtain ⟨iq, hiq⟩ : ∃ q : Nat, i = nI q ∧ (q : Int) = i.toInt := ⟨i.toInt.toNat, eq_nI (by omega), by omega⟩
                    obtain ⟨jq, hjq⟩ : ∃ q : Nat, j = nI q ∧ (q : Int) = j.toInt := ⟨j.toInt.toNat, eq_nI (by omega), by omega⟩
                    obtain ⟨m, hmq⟩ : ∃ q : Nat, n0 = nI q ∧ (q : Int) = n0.toInt := ⟨n0.toInt.toNat, eq_nI (by omega), by omega⟩
                    have hi1 : iq + m ≤ (A 38 3).toInt.toNat := by omega
                    have hj1 : jq + m ≤ 40 := by omega
                    have hi2 : iq + m ≤ 40 := by omega
                    refine z_aload d_X11_copy_96 1 rfl ?_
                    refine z_get (v := .ref (x 30)) (29) f_X11_266_7 rfl rfl d_X11_copy_98 ?_
                    refine z_iload_n d_X11_copy_101 4 rfl ?_
                    refine z_aload d_X11_copy_102 0 rfl ?_
                    refine z_get (v := .ref (x 28)) (27) f_X11_266_7 rfl rfl d_X11_copy_104 ?_
                    refine z_iload d_X11_copy_107 6 rfl ?_
                    refine z_iload d_X11_copy_109 7 rfl ?_
                    refine z_copyi 30 28 iq jq m (XW G x N (vf_upd R 9 (va_cpy (R 10) (R 9) iq jq m)) K r S T tl) rfl rfl hiq.2.symm hjq.2.symm hmq.2.symm hi2 hj1 w_0971 rfl (by decide +kernel) (xa_28 G x N R K r S T tl _) d_X11_copy_111 ?_
                    refine z_iload d_X11_copy_114 7 rfl ?_
                    exact z_iret _ d_X11_copy_116 rfl (XP.of (by rw [copR, copX, if_pos his, if_pos hio, show (nI 3).toInt.toNat = 3 from nI_tn (by omega), show (nI 2).toInt.toNat = 2 from nI_tn (by omega), if_neg y1, if_neg z1, if_pos hso, cop_on ⟨y6, y7⟩ ⟨z6, z7⟩ g1 g2]) (by rw [copA, copX, if_pos his, if_pos hio, show (nI 3).toInt.toNat = 3 from nI_tn (by omega), show (nI 2).toInt.toNat = 2 from nI_tn (by omega), if_neg y1, if_neg z1, if_pos hso, cop_on ⟨y6, y7⟩ ⟨z6, z7⟩ g1 g2, hiq.1, hjq.1, hmq.1, nI_tn (by omega), nI_tn (by omega), nI_tn (by omega)]; exact hx.sh (fun k hk => if_neg (by omega)) (fun _ _ => rfl) (fun q hq => if_neg (by omega)) (hx.ss.cpy (s := 3) (o := 2) (by decide) (by decide) y1 hi1 hi2 hj1)))
                  · refine z_bipush (v := -12) d_X11_copy_93 (by decide) ?_
                    exact z_iret _ d_X11_copy_95 rfl (XP.of (by rw [copR, copX, if_pos his, if_pos hio, show (nI 3).toInt.toNat = 3 from nI_tn (by omega), show (nI 2).toInt.toNat = 2 from nI_tn (by omega), if_neg y1, if_neg z1, if_pos hso, cop_off ⟨y6, y7⟩ ⟨z6, z7⟩ (fun hh => by have q1 := hh.2; rw [← z5] at q1; rw [show hoQ (N (11 + 2 * 2)) j n0 = false from b01_z c_90] at q1; exact absurd q1 (by decide))]) (by rw [copA, copX, if_pos his, if_pos hio, show (nI 3).toInt.toNat = 3 from nI_tn (by omega), show (nI 2).toInt.toNat = 2 from nI_tn (by omega), if_neg y1, if_neg z1, if_pos hso, cop_off ⟨y6, y7⟩ ⟨z6, z7⟩ (fun hh => by have q1 := hh.2; rw [← z5] at q1; rw [show hoQ (N (11 + 2 * 2)) j n0 = false from b01_z c_90] at q1; exact absurd q1 (by decide))]; exact hx))
              · refine z_bipush (v := -13) d_X11_copy_67 (by decide) ?_
                exact z_iret _ d_X11_copy_69 rfl (XP.of (by rw [copR, copX, if_pos his, if_pos hio, show (nI 3).toInt.toNat = 3 from nI_tn (by omega), show (nI 2).toInt.toNat = 2 from nI_tn (by omega), if_neg y1, if_neg z1, if_neg (show ¬ A 37 3 = A 37 2 from fun hh => c_64 ((show N 16 = A 37 3 from y2).trans (hh.trans (show N 14 = A 37 2 from z2).symm)))]) (by rw [copA, copX, if_pos his, if_pos hio, show (nI 3).toInt.toNat = 3 from nI_tn (by omega), show (nI 2).toInt.toNat = 2 from nI_tn (by omega), if_neg y1, if_neg z1, if_neg (show ¬ A 37 3 = A 37 2 from fun hh => c_64 ((show N 16 = A 37 3 from y2).trans (hh.trans (show N 14 = A 37 2 from z2).symm)))]; exact hx))
            · refine z_bipush (v := -11) d_X11_copy_51 (by decide) ?_
              exact z_iret _ d_X11_copy_53 rfl (XP.of (by rw [copR, copX, if_pos his, if_pos hio, show (nI 3).toInt.toNat = 3 from nI_tn (by omega), show (nI 2).toInt.toNat = 2 from nI_tn (by omega), if_neg (show ¬ A 36 3 = 0 from (hx.ss.yes (j := 3) (by decide) c_39).1), if_pos (show A 36 2 = 0 from hx.ss.no (j := 2) (by decide) c_48)]) (by rw [copA, copX, if_pos his, if_pos hio, show (nI 3).toInt.toNat = 3 from nI_tn (by omega), show (nI 2).toInt.toNat = 2 from nI_tn (by omega), if_neg (show ¬ A 36 3 = 0 from (hx.ss.yes (j := 3) (by decide) c_39).1), if_pos (show A 36 2 = 0 from hx.ss.no (j := 2) (by decide) c_48)]; exact hx))
        · refine z_get (v := .ref (x 22)) (0) f_X11_24_11 rfl rfl d_X11_copy_18 ?_
          refine z_iload_n d_X11_copy_21 1 rfl ?_
          refine z_aldq (C0 := RX7) 22 5 3 rfl rfl (nI_toInt (by omega)) (by omega) d_X11_copy_22 ?_
          refine z_topv (v := .ref (x 29)) rfl ?_
          refine z_astore [(6, .ref (x 29)), (0, .ref (x 0)), (1, .int (nI 3)), (2, .int i), (3, .int (nI 3)), (4, .int j), (5, .int n0)] d_X11_copy_23 (by decide) rfl ?_
          refine z_aload_n d_X11_copy_25 1 rfl ?_
          refine z_get (v := .ref (x 22)) (0) f_X11_24_11 rfl rfl d_X11_copy_26 ?_
          refine z_iload_n d_X11_copy_29 4 rfl ?_
          refine z_aldq (C0 := RX7) 22 5 3 rfl rfl (nI_toInt (by omega)) (by omega) d_X11_copy_30 ?_
          refine z_topv (v := .ref (x 29)) rfl ?_
          refine z_astore [(7, .ref (x 29)), (6, .ref (x 29)), (0, .ref (x 0)), (1, .int (nI 3)), (2, .int i), (3, .int (nI 3)), (4, .int j), (5, .int n0)] d_X11_copy_31 (by decide) rfl ?_
          refine z_aload d_X11_copy_33 1 rfl ?_
          refine z_get (v := .int (N 16)) (29) f_X11_256_7 rfl rfl d_X11_copy_35 ?_
          refine z_iconst (v := -1) d_X11_copy_38 (by decide) ?_
          refine z_icmp_eq d_X11_copy_39 (fun c_39 => ?_) (fun c_39 => ?_)
          · refine z_bipush (v := -11) d_X11_copy_51 (by decide) ?_
            exact z_iret _ d_X11_copy_53 rfl (XP.of (by rw [copR, copX, if_pos his, if_pos hio, show (nI 3).toInt.toNat = 3 from nI_tn (by omega), if_pos (show A 36 3 = 0 from hx.ss.no (j := 3) (by decide) c_39)]) (by rw [copA, copX, if_pos his, if_pos hio, show (nI 3).toInt.toNat = 3 from nI_tn (by omega), if_pos (show A 36 3 = 0 from hx.ss.no (j := 3) (by decide) c_39)]; exact hx))
          · refine z_aload d_X11_copy_42 0 rfl ?_
            refine z_get (v := .int (N 16)) (29) f_X11_256_7 rfl rfl d_X11_copy_44 ?_
            refine z_iconst (v := -1) d_X11_copy_47 (by decide) ?_
            refine z_icmp_ne d_X11_copy_48 (fun c_48 => ?_) (fun c_48 => ?_)
            · obtain ⟨y1, y2, y3, y4, y5, y6, y7, y8⟩ := hx.ss.yes (j := 3) (by decide) c_39
              obtain ⟨z1, z2, z3, z4, z5, z6, z7, z8⟩ := hx.ss.yes (j := 3) (by decide) c_48
              refine z_aload d_X11_copy_54 1 rfl ?_
              refine z_get (v := .int (N 16)) (29) f_X11_256_7 rfl rfl d_X11_copy_56 ?_
              refine z_aload d_X11_copy_59 0 rfl ?_
              refine z_get (v := .int (N 16)) (29) f_X11_256_7 rfl rfl d_X11_copy_61 ?_
              refine z_icmp_eq d_X11_copy_64 (fun c_64 => ?_) (fun c_64 => ?_)
              · have hso : A 37 3 = A 37 3 := (show N 16 = A 37 3 from y2).symm.trans (c_64.trans (show N 16 = A 37 3 from z2))
                refine z_aload d_X11_copy_70 1 rfl ?_
                refine z_iload_n d_X11_copy_72 4 rfl ?_
                refine z_iload d_X11_copy_73 7 rfl ?_
                refine z_callVp 29 c_X11_263 (t_holds3 G x N R K r S T tl i n0) rfl rfl rfl rfl (Nat.le_of_ble_eq_true rfl) rfl d_X11_copy_75 ?_
                refine z_if_eq d_X11_copy_78 (fun c_78 => ?_) (fun c_78 => ?_)
                · refine z_bipush (v := -12) d_X11_copy_93 (by decide) ?_
                  exact z_iret _ d_X11_copy_95 rfl (XP.of (by rw [copR, copX, if_pos his, if_pos hio, show (nI 3).toInt.toNat = 3 from nI_tn (by omega), if_neg y1, if_neg z1, if_pos hso, cop_off ⟨y6, y7⟩ ⟨z6, z7⟩ (fun hh => by have q1 := hh.1; rw [← y5] at q1; rw [show hoQ (N (11 + 2 * 3)) i n0 = false from b01_z c_78] at q1; exact absurd q1 (by decide))]) (by rw [copA, copX, if_pos his, if_pos hio, show (nI 3).toInt.toNat = 3 from nI_tn (by omega), if_neg y1, if_neg z1, if_pos hso, cop_off ⟨y6, y7⟩ ⟨z6, z7⟩ (fun hh => by have q1 := hh.1; rw [← y5] at q1; rw [show hoQ (N (11 + 2 * 3)) i n0 = false from b01_z c_78] at q1; exact absurd q1 (by decide))]; exact hx))
                · refine z_aload d_X11_copy_81 0 rfl ?_
                  refine z_iload d_X11_copy_83 6 rfl ?_
                  refine z_iload d_X11_copy_85 7 rfl ?_
                  refine z_callVp 29 c_X11_263 (t_holds3 G x N R K r S T tl j n0) rfl rfl rfl rfl (Nat.le_of_ble_eq_true rfl) rfl d_X11_copy_87 ?_
                  refine z_if_ne d_X11_copy_90 (fun c_90 => ?_) (fun c_90 => ?_)
                  · have g1 : hoQ (A 38 3) i n0 = true := by rw [← y5]; exact b01_o c_78
                    have g2 : hoQ (A 38 3) j n0 = true := by rw [← z5]; exact b01_o c_90
                    obtain ⟨a1, a2, a3⟩ := (ho_iff ⟨y6, y7⟩).mp g1
                    obtain ⟨b1, b2, b3⟩ := (ho_iff ⟨z6, z7⟩).mp g2
                    rw [lt_i, i_0] at a1 a2 b1
                    have ln := n0.toInt_lt
                    rw [lt_i, isub (by omega) (by omega)] at a3 b3
                    obtain ⟨iq, hiq⟩ : ∃ q : Nat, i = nI q ∧ (q : Int) = i.toInt := ⟨i.toInt.toNat, eq_nI (by omega), by omega⟩
                    obtain ⟨jq, hjq⟩ : ∃ q : Nat, j = nI q ∧ (q : Int) = j.toInt := ⟨j.toInt.toNat, eq_nI (by omega), by omega⟩
                    obtain ⟨m, hmq⟩ : ∃ q : Nat, n0 = nI q ∧ (q : Int) = n0.toInt := ⟨n0.toInt.toNat, eq_nI (by omega), by omega⟩
                    have hi1 : iq + m ≤ (A 38 3).toInt.toNat := by omega
                    have hj1 : jq + m ≤ 40 := by omega
                    have hi2 : iq + m ≤ 40 := by omega
                    refine z_aload d_X11_copy_96 1 rfl ?_
                    refine z_get (v := .ref (x 30)) (29) f_X11_266_7 rfl rfl d_X11_copy_98 ?_
                    refine z_iload_n d_X11_copy_101 4 rfl ?_
                    refine z_aload d_X11_copy_102 0 rfl ?_
                    refine z_get (v := .ref (x 30)) (29) f_X11_266_7 rfl rfl d_X11_copy_104 ?_
                    refine z_iload d_X11_copy_107 6 rfl ?_
                    refine z_iload d_X11_copy_109 7 rfl ?_
                    refine z_copyi 30 30 iq jq m (XW G x N (vf_upd R 10 (va_cpy (R 10) (R 10) iq jq m)) K r S T tl) rfl rfl hiq.2.symm hjq.2.symm hmq.2.symm hi2 hj1 w_0971 rfl (by decide +kernel) (xa_30 G x N R K r S T tl _) d_X11_copy_111 ?_
                    refine z_iload d_X11_copy_114 7 rfl ?_
                    exact z_iret _ d_X11_copy_116 rfl (XP.of (by rw [copR, copX, if_pos his, if_pos hio, show (nI 3).toInt.toNat = 3 from nI_tn (by omega), if_neg y1, if_neg z1, if_pos hso, cop_on ⟨y6, y7⟩ ⟨z6, z7⟩ g1 g2]) (by rw [copA, copX, if_pos his, if_pos hio, show (nI 3).toInt.toNat = 3 from nI_tn (by omega), if_neg y1, if_neg z1, if_pos hso, cop_on ⟨y6, y7⟩ ⟨z6, z7⟩ g1 g2, hiq.1, hjq.1, hmq.1, nI_tn (by omega), nI_tn (by omega), nI_tn (by omega)]; exact hx.sh (fun k hk => if_neg (by omega)) (fun _ _ => rfl) (fun q hq => if_neg (by omega)) (hx.ss.cpy (s := 3) (o := 3) (by decide) (by decide) y1 hi1 hi2 hj1)))
                  · refine z_bipush (v := -12) d_X11_copy_93 (by decide) ?_
                    exact z_iret _ d_X11_copy_95 rfl (XP.of (by rw [copR, copX, if_pos his, if_pos hio, show (nI 3).toInt.toNat = 3 from nI_tn (by omega), if_neg y1, if_neg z1, if_pos hso, cop_off ⟨y6, y7⟩ ⟨z6, z7⟩ (fun hh => by have q1 := hh.2; rw [← z5] at q1; rw [show hoQ (N (11 + 2 * 3)) j n0 = false from b01_z c_90] at q1; exact absurd q1 (by decide))]) (by rw [copA, copX, if_pos his, if_pos hio, show (nI 3).toInt.toNat = 3 from nI_tn (by omega), if_neg y1, if_neg z1, if_pos hso, cop_off ⟨y6, y7⟩ ⟨z6, z7⟩ (fun hh => by have q1 := hh.2; rw [← z5] at q1; rw [show hoQ (N (11 + 2 * 3)) j n0 = false from b01_z c_90] at q1; exact absurd q1 (by decide))]; exact hx))
              · refine z_bipush (v := -13) d_X11_copy_67 (by decide) ?_
                exact z_iret _ d_X11_copy_69 rfl (XP.of (by rw [copR, copX, if_pos his, if_pos hio, show (nI 3).toInt.toNat = 3 from nI_tn (by omega), if_neg y1, if_neg z1, if_neg (show ¬ A 37 3 = A 37 3 from fun hh => c_64 ((show N 16 = A 37 3 from y2).trans (hh.trans (show N 16 = A 37 3 from z2).symm)))]) (by rw [copA, copX, if_pos his, if_pos hio, show (nI 3).toInt.toNat = 3 from nI_tn (by omega), if_neg y1, if_neg z1, if_neg (show ¬ A 37 3 = A 37 3 from fun hh => c_64 ((show N 16 = A 37 3 from y2).trans (hh.trans (show N 16 = A 37 3 from z2).symm)))]; exact hx))
            · refine z_bipush (v := -11) d_X11_copy_51 (by decide) ?_
              exact z_iret _ d_X11_copy_53 rfl (XP.of (by rw [copR, copX, if_pos his, if_pos hio, show (nI 3).toInt.toNat = 3 from nI_tn (by omega), if_neg (show ¬ A 36 3 = 0 from (hx.ss.yes (j := 3) (by decide) c_39).1), if_pos (show A 36 3 = 0 from hx.ss.no (j := 3) (by decide) c_48)]) (by rw [copA, copX, if_pos his, if_pos hio, show (nI 3).toInt.toNat = 3 from nI_tn (by omega), if_neg (show ¬ A 36 3 = 0 from (hx.ss.yes (j := 3) (by decide) c_39).1), if_pos (show A 36 3 = 0 from hx.ss.no (j := 3) (by decide) c_48)]; exact hx))
    · refine z_bipush (v := -2) d_X11_copy_14 (by decide) ?_
      exact z_iret _ d_X11_copy_16 rfl (XP.of (by rw [copR, copX, if_pos (b01_o c_4), if_neg (show ¬ inB o 0 3 = true by rw [b01_z c_11]; decide)]) (by rw [copA, copX, if_pos (b01_o c_4), if_neg (show ¬ inB o 0 3 = true by rw [b01_z c_11]; decide)]; exact hx))
