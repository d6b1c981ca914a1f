/-! THE PUBLIC METHODS of class X: cell -/
section
variable {A : Nat → Nat → Int32} {N : Nat → Int32} {R : Nat → Nat → Int32}
theorem ShS.no (h : ShS A N R) {j : Nat} (hj : j < 4) (e : N (10 + 2 * j) = -1) : A 36 j = 0 := by
  rcases h j hj with g | ⟨g1, g2, g3, g4, -⟩
  · exact g.1
  · rw [← g2, e] at g3; exact absurd g3 (by decide)
theorem ShS.yes (h : ShS A N R) {j : Nat} (hj : j < 4) (e : ¬ N (10 + 2 * j) = -1) : ¬ A 36 j = 0 ∧ N (10 + 2 * j) = A 37 j ∧ 0 ≤ (A 37 j).toInt ∧ (A 37 j).toInt ≤ 2 ∧ N (11 + 2 * j) = A 38 j ∧ 0 ≤ (A 38 j).toInt ∧ (A 38 j).toInt ≤ 40 ∧ ∀ i, i < (A 38 j).toInt.toNat → R (7 + j) i = A 39 (40 * j + i) := by
  rcases h j hj with g | g
  · exact absurd g.2 e
  · exact g
theorem ShS.wr (h : ShS A N R) {j q : Nat} (hj : j < 4) (hq : q < 40) (z : Int32) : ShS (vf_upd A 39 (upd (A 39) (40 * j + q) z)) N (vf_upd R (7 + j) (upd (R (7 + j)) q z)) := by
  refine h.one hj (fun k hk e => ⟨rfl, rfl, rfl, fun i hi => uq_n (by omega)⟩) (fun k hk e => ⟨rfl, rfl, if_neg (by omega)⟩) ?_
  rcases h j hj with g | ⟨g1, g2, g3, g4, g5, g6, g7, g8⟩
  · exact Or.inl g
  · refine Or.inr ⟨g1, g2, g3, g4, g5, g6, g7, fun i hi => ?_⟩
    show vf_upd R (7 + j) (upd (R (7 + j)) q z) (7 + j) i = upd (A 39) (40 * j + q) z (40 * j + i)
    unfold vf_upd
    rw [if_pos rfl]
    by_cases e : i = q
    · subst e; rw [uq_s, uq_s]
    · rw [uq_n e, uq_n (by omega)]; exact g8 i hi
theorem sz_1 {z : Int32} (h : 0 ≤ z.toInt) : (z - 1).toInt = z.toInt - 1 := by
  have h2 := z.toInt_lt
  rw [Int32.toInt_sub, show (1 : Int32).toInt = 1 by decide]
  exact Int.bmod_eq_of_le (by omega) (by omega)
end
set_option maxHeartbeats 4000000 in
set_option maxRecDepth 100000 in
theorem t_X11_cell (G : GT) (x : Nat → Nat) (N : Nat → Int32) (R : Nat → Nat → Int32) (K : Nat → Nat → Option Nat) (r : Nat → Nat) (S : Nat → Int32) (T : Nat → Nat → Int32) (tl : va_W) (I : Nat → Int32) (A : Nat → Nat → Int32) (hx : XRel G I A N R K r tl) (s : Int32) (i : Int32) (v : Int32)  : Ct G mX11_cell 1 0 0 [.ref (x 0), .int s, .int i, .int v] (XW G x N R K r S T tl) (XP G x (some (.int (celR A s i))) I (celA A s i v)) := by
  have h := hx.nt
  refine Ct.intro [(0, .ref (x 0)), (1, .int s), (2, .int i), (3, .int v)] (by decide) rfl (Nat.le_of_ble_eq_true rfl) ?_
  refine z_iload_n d_X11_cell_0 1 rfl ?_
  refine z_callSp c_X11_247 (t_X11_isSheet G s (XW G x N R K r S T tl)) rfl rfl (Nat.le_of_ble_eq_true rfl) rfl d_X11_cell_1 ?_
  refine z_if_ne d_X11_cell_4 (fun c_4 => ?_) (fun c_4 => ?_)
  · have hin := b01_o c_4
    obtain ⟨j_s, hj_s, ej_s⟩ := inB_nI hin
    replace hj_s : j_s < 4 := hj_s
    subst ej_s
    rcases (show j_s = 0 ∨ j_s = 1 ∨ j_s = 2 ∨ j_s = 3 by omega) with rfl | rfl | rfl | rfl
    · refine z_aload_n d_X11_cell_10 0 rfl ?_
      refine z_get (v := .ref (x 22)) (0) f_X11_24_11 rfl rfl d_X11_cell_11 ?_
      refine z_iload_n d_X11_cell_14 1 rfl ?_
      refine z_aldq (C0 := RX7) 22 5 0 rfl rfl (nI_toInt (by omega)) (by omega) d_X11_cell_15 ?_
      refine z_topv (v := .ref (x 23)) rfl ?_
      refine z_astore [(4, .ref (x 23)), (0, .ref (x 0)), (1, .int (nI 0)), (2, .int i), (3, .int v)] d_X11_cell_16 (by decide) rfl ?_
      refine z_aload d_X11_cell_18 0 rfl ?_
      refine z_get (v := .int (N 10)) (23) f_X11_256_7 rfl rfl d_X11_cell_20 ?_
      refine z_iconst (v := -1) d_X11_cell_23 (by decide) ?_
      refine z_icmp_ne d_X11_cell_24 (fun c_24 => ?_) (fun c_24 => ?_)
      · obtain ⟨y1, y2, y3, y4, y5, y6, y7, y8⟩ := hx.ss.yes (j := 0) (by decide) c_24
        refine z_iload_n d_X11_cell_30 3 rfl ?_
        refine z_if_lt d_X11_cell_31 (fun c_31 => ?_) (fun c_31 => ?_)
        · refine z_bipush (v := -12) d_X11_cell_43 (by decide) ?_
          exact z_iret _ d_X11_cell_45 rfl (XP.of (by rw [celR, celX, if_pos hin, show (nI 0).toInt.toNat = 0 from nI_tn (by omega), if_neg y1, if_neg (show ¬ ceO A 0 i = true by rw [ceO, Bool.and_eq_true, decide_eq_true_eq, decide_eq_true_eq, sz_1 y6]; rw [lt_i, i_0] at c_31; omega)]) (by rw [celA, celX, if_pos hin, show (nI 0).toInt.toNat = 0 from nI_tn (by omega), if_neg y1, if_neg (show ¬ ceO A 0 i = true by rw [ceO, Bool.and_eq_true, decide_eq_true_eq, decide_eq_true_eq, sz_1 y6]; rw [lt_i, i_0] at c_31; omega)]; exact hx))
        · refine z_iload_n d_X11_cell_34 3 rfl ?_
          refine z_aload d_X11_cell_35 0 rfl ?_
          refine z_get (v := .int (N 11)) (23) f_X11_259_7 rfl rfl d_X11_cell_37 ?_
          refine z_icmp_lt d_X11_cell_40 (fun c_40 => ?_) (fun c_40 => ?_)
          · have hlt : i.toInt < (A 38 0).toInt := by rw [← y5]; rw [lt_i] at c_40; exact c_40
            have hce : ceO A 0 i = true := by rw [ceO, Bool.and_eq_true, decide_eq_true_eq, decide_eq_true_eq, sz_1 y6]; rw [lt_i, i_0] at c_31; omega
            obtain ⟨q, hq, rfl⟩ : ∃ q : Nat, q < 40 ∧ i = nI q := ⟨i.toInt.toNat, by rw [lt_i, i_0] at c_31; omega, eq_nI (by rw [lt_i, i_0] at c_31; omega)⟩
            refine z_aload d_X11_cell_46 0 rfl ?_
            refine z_iload_n d_X11_cell_48 3 rfl ?_
            refine z_iload_n d_X11_cell_49 4 rfl ?_
            refine z_callVv 23 c_X11_260 (t_write0 G x N R K r S T tl q v hq) rfl rfl rfl rfl (Nat.le_of_ble_eq_true rfl) rfl d_X11_cell_50 ?_
            refine z_iconst (v := 1) d_X11_cell_53 (by decide) ?_
            exact z_iret _ d_X11_cell_54 rfl (XP.of (by rw [celR, celX, if_pos hin, show (nI 0).toInt.toNat = 0 from nI_tn (by omega), if_neg y1, if_pos hce]) (by rw [celA, celX, if_pos hin, show (nI 0).toInt.toNat = 0 from nI_tn (by omega), if_neg y1, if_pos hce, nI_tn (by omega), show N 10 = A 37 0 from y2]; exact hx.sh (fun k hk => if_neg (by omega)) (fun _ _ => rfl) (fun i hi => if_neg (by omega)) (hx.ss.wr (j := 0) (by decide) hq _)))
          · refine z_bipush (v := -12) d_X11_cell_43 (by decide) ?_
            exact z_iret _ d_X11_cell_45 rfl (XP.of (by rw [celR, celX, if_pos hin, show (nI 0).toInt.toNat = 0 from nI_tn (by omega), if_neg y1, if_neg (show ¬ ceO A 0 i = true by rw [ceO, Bool.and_eq_true, decide_eq_true_eq, decide_eq_true_eq, sz_1 y6]; rw [lt_i, show N 11 = A 38 0 from y5] at c_40; omega)]) (by rw [celA, celX, if_pos hin, show (nI 0).toInt.toNat = 0 from nI_tn (by omega), if_neg y1, if_neg (show ¬ ceO A 0 i = true by rw [ceO, Bool.and_eq_true, decide_eq_true_eq, decide_eq_true_eq, sz_1 y6]; rw [lt_i, show N 11 = A 38 0 from y5] at c_40; omega)]; exact hx))
      · refine z_bipush (v := -11) d_X11_cell_27 (by decide) ?_
        exact z_iret _ d_X11_cell_29 rfl (XP.of (by rw [celR, celX, if_pos hin, show (nI 0).toInt.toNat = 0 from nI_tn (by omega), if_pos (show A 36 0 = 0 from hx.ss.no (j := 0) (by decide) c_24)]) (by rw [celA, celX, if_pos hin, show (nI 0).toInt.toNat = 0 from nI_tn (by omega), if_pos (show A 36 0 = 0 from hx.ss.no (j := 0) (by decide) c_24)]; exact hx))
    · refine z_aload_n d_X11_cell_10 0 rfl ?_
      refine z_get (v := .ref (x 22)) (0) f_X11_24_11 rfl rfl d_X11_cell_11 ?_
      refine z_iload_n d_X11_cell_14 1 rfl ?_
      refine z_aldq (C0 := RX7) 22 5 1 rfl rfl (nI_toInt (by omega)) (by omega) d_X11_cell_15 ?_
      refine z_topv (v := .ref (x 25)) rfl ?_
      refine z_astore [(4, .ref (x 25)), (0, .ref (x 0)), (1, .int (nI 1)), (2, .int i), (3, .int v)] d_X11_cell_16 (by decide) rfl ?_
      refine z_aload d_X11_cell_18 0 rfl ?_
      refine z_get (v := .int (N 12)) (25) f_X11_256_7 rfl rfl d_X11_cell_20 ?_
      refine z_iconst (v := -1) d_X11_cell_23 (by decide) ?_
      refine z_icmp_ne d_X11_cell_24 (fun c_24 => ?_) (fun c_24 => ?_)
      · obtain ⟨y1, y2, y3, y4, y5, y6, y7, y8⟩ := hx.ss.yes (j := 1) (by decide) c_24
        refine z_iload_n d_X11_cell_30 3 rfl ?_
        refine z_if_lt d_X11_cell_31 (fun c_31 => ?_) (fun c_31 => ?_)
        · refine z_bipush (v := -12) d_X11_cell_43 (by decide) ?_
          exact z_iret _ d_X11_cell_45 rfl (XP.of (by rw [celR, celX, if_pos hin, show (nI 1).toInt.toNat = 1 from nI_tn (by omega), if_neg y1, if_neg (show ¬ ceO A 1 i = true by rw [ceO, Bool.and_eq_true, decide_eq_true_eq, decide_eq_true_eq, sz_1 y6]; rw [lt_i, i_0] at c_31; omega)]) (by rw [celA, celX, if_pos hin, show (nI 1).toInt.toNat = 1 from nI_tn (by omega), if_neg y1, if_neg (show ¬ ceO A 1 i = true by rw [ceO, Bool.and_eq_true, decide_eq_true_eq, decide_eq_true_eq, sz_1 y6]; rw [lt_i, i_0] at c_31; omega)]; exact hx))
        · refine z_iload_n d_X11_cell_34 3 rfl ?_
          refine z_aload d_X11_cell_35 0 rfl ?_
          refine z_get (v := .int (N 13)) (25) f_X11_259_7 rfl rfl d_X11_cell_37 ?_
          refine z_icmp_lt d_X11_cell_40 (fun c_40 => ?_) (fun c_40 => ?_)
          · have hlt : i.toInt < (A 38 1).toInt := by rw [← y5]; rw [lt_i] at c_40; exact c_40
            have hce : ceO A 1 i = true := by rw [ceO, Bool.and_eq_true, decide_eq_true_eq, decide_eq_true_eq, sz_1 y6]; rw [lt_i, i_0] at c_31; omega
            obtain ⟨q, hq, rfl⟩ : ∃ q : Nat, q < 40 ∧ i = nI q := ⟨i.toInt.toNat, by rw [lt_i, i_0] at c_31; omega, eq_nI (by rw [lt_i, i_0] at c_31; omega)⟩
            refine z_aload d_X11_cell_46 0 rfl ?_
            refine z_iload_n d_X11_cell_48 3 rfl ?_
            refine z_iload_n d_X11_cell_49 4 rfl ?_
            refine z_callVv 25 c_X11_260 (t_write1 G x N R K r S T tl q v hq) rfl rfl rfl rfl (Nat.le_of_ble_eq_true rfl) rfl d_X11_cell_50 ?_
            refine z_iconst (v := 1) d_X11_cell_53 (by decide) ?_
            exact z_iret _ d_X11_cell_54 rfl (XP.of (by rw [celR, celX, if_pos hin, show (nI 1).toInt.toNat = 1 from nI_tn (by omega), if_neg y1, if_pos hce]) (by rw [celA, celX, if_pos hin, show (nI 1).toInt.toNat = 1 from nI_tn (by omega), if_neg y1, if_pos hce, nI_tn (by omega), show N 12 = A 37 1 from y2]; exact hx.sh (fun k hk => if_neg (by omega)) (fun _ _ => rfl) (fun i hi => if_neg (by omega)) (hx.ss.wr (j := 1) (by decide) hq _)))
          · refine z_bipush (v := -12) d_X11_cell_43 (by decide) ?_
            exact z_iret _ d_X11_cell_45 rfl (XP.of (by rw [celR, celX, if_pos hin, show (nI 1).toInt.toNat = 1 from nI_tn (by omega), if_neg y1, if_neg (show ¬ ceO A 1 i = true by rw [ceO, Bool.and_eq_true, decide_eq_true_eq, decide_eq_true_eq, sz_1 y6]; rw [lt_i, show N 13 = A 38 1 from y5] at c_40; omega)]) (by rw [celA, celX, if_pos hin, show (nI 1).toInt.toNat = 1 from nI_tn (by omega), if_neg y1, if_neg (show ¬ ceO A 1 i = true by rw [ceO, Bool.and_eq_true, decide_eq_true_eq, decide_eq_true_eq, sz_1 y6]; rw [lt_i, show N 13 = A 38 1 from y5] at c_40; omega)]; exact hx))
      · refine z_bipush (v := -11) d_X11_cell_27 (by decide) ?_
        exact z_iret _ d_X11_cell_29 rfl (XP.of (by rw [celR, celX, if_pos hin, show (nI 1).toInt.toNat = 1 from nI_tn (by omega), if_pos (show A 36 1 = 0 from hx.ss.no (j := 1) (by decide) c_24)]) (by rw [celA, celX, if_pos hin, show (nI 1).toInt.toNat = 1 from nI_tn (by omega), if_pos (show A 36 1 = 0 from hx.ss.no (j := 1) (by decide) c_24)]; exact hx))
    · refine z_aload_n d_X11_cell_10 0 rfl ?_
      refine z_get (v := .ref (x 22)) (0) f_X11_24_11 rfl rfl d_X11_cell_11 ?_
      refine z_iload_n d_X11_cell_14 1 rfl ?_
      refine z_aldq (C0 := RX7) 22 5 2 rfl rfl (nI_toInt (by omega)) (by omega) d_X11_cell_15 ?_
      refine z_topv (v := .ref (x 27)) rfl ?_
      refine z_astore [(4, .ref (x 27)), (0, .ref (x 0)), (1, .int (nI 2)), (2, .int i), (3, .int v)] d_X11_cell_16 (by decide) rfl ?_
      refine z_aload d_X11_cell_18 0 rfl ?_
      refine z_get (v := .int (N 14)) (27) f_X11_256_7 rfl rfl d_X11_cell_20 ?_
      refine z_iconst (v := -1) d_X11_cell_23 (by decide) ?_
      refine z_icmp_ne d_X11_cell_24 (fun c_24 => ?_) (fun c_24 => ?_)
      · obtain ⟨y1, y2, y3, y4, y5, y6, y7, y8⟩ := hx.ss.yes (j := 2) (by decide) c_24
        refine z_iload_n d_X11_cell_30 3 rfl ?_
        refine z_if_lt d_X11_cell_31 (fun c_31 => ?_) (fun c_31 => ?_)
        · refine z_bipush (v := -12) d_X11_cell_43 (by decide) ?_
          exact z_iret _ d_X11_cell_45 rfl (XP.of (by rw [celR, celX, if_pos hin, show (nI 2).toInt.toNat = 2 from nI_tn (by omega), if_neg y1, if_neg (show ¬ ceO A 2 i = true by rw [ceO, Bool.and_eq_true, decide_eq_true_eq, decide_eq_true_eq, sz_1 y6]; rw [lt_i, i_0] at c_31; omega)]) (by rw [celA, celX, if_pos hin, show (nI 2).toInt.toNat = 2 from nI_tn (by omega), if_neg y1, if_neg (show ¬ ceO A 2 i = true by rw [ceO, Bool.and_eq_true, decide_eq_true_eq, decide_eq_true_eq, sz_1 y6]; rw [lt_i, i_0] at c_31; omega)]; exact hx))
        · refine z_iload_n d_X11_cell_34 3 rfl ?_
          refine z_aload d_X11_cell_35 0 rfl ?_
          refine z_get (v := .int (N 15)) (27) f_X11_259_7 rfl rfl d_X11_cell_37 ?_
          refine z_icmp_lt d_X11_cell_40 (fun c_40 => ?_) (fun c_40 => ?_)
          · have hlt : i.toInt < (A 38 2).toInt := by rw [← y5]; rw [lt_i] at c_40; exact c_40
            have hce : ceO A 2 i = true := by rw [ceO, Bool.and_eq_true, decide_eq_true_eq, decide_eq_true_eq, sz_1 y6]; rw [lt_i, i_0] at c_31; omega
            obtain ⟨q, hq, rfl⟩ : ∃ q : Nat, q < 40 ∧ i = nI q := ⟨i.toInt.toNat, by rw [lt_i, i_0] at c_31; omega, eq_nI (by rw [lt_i, i_0] at c_31; omega)⟩
            refine z_aload d_X11_cell_46 0 rfl ?_
            refine z_iload_n d_X11_cell_48 3 rfl ?_
            refine z_iload_n d_X11_cell_49 4 rfl ?_
            refine z_callVv 27 c_X11_260 (t_write2 G x N R K r S T tl q v hq) rfl rfl rfl rfl (Nat.le_of_ble_eq_true rfl) rfl d_X11_cell_50 ?_
            refine z_iconst (v := 1) d_X11_cell_53 (by decide) ?_
            exact z_iret _ d_X11_cell_54 rfl (XP.of (by rw [celR, celX, if_pos hin, show (nI 2).toInt.toNat = 2 from nI_tn (by omega), if_neg y1, if_pos hce]) (by rw [celA, celX, if_pos hin, show (nI 2).toInt.toNat = 2 from nI_tn (by omega), if_neg y1, if_pos hce, nI_tn (by omega), show N 14 = A 37 2 from y2]; exact hx.sh (fun k hk => if_neg (by omega)) (fun _ _ => rfl) (fun i hi => if_neg (by omega)) (hx.ss.wr (j := 2) (by decide) hq _)))
          · refine z_bipush (v := -12) d_X11_cell_43 (by decide) ?_
            exact z_iret _ d_X11_cell_45 rfl (XP.of (by rw [celR, celX, if_pos hin, show (nI 2).toInt.toNat = 2 from nI_tn (by omega), if_neg y1, if_neg (show ¬ ceO A 2 i = true by rw [ceO, Bool.and_eq_true, decide_eq_true_eq, decide_eq_true_eq, sz_1 y6]; rw [lt_i, show N 15 = A 38 2 from y5] at c_40; omega)]) (by rw [celA, celX, if_pos hin, show (nI 2).toInt.toNat = 2 from nI_tn (by omega), if_neg y1, if_neg (show ¬ ceO A 2 i = true by rw [ceO, Bool.and_eq_true, decide_eq_true_eq, decide_eq_true_eq, sz_1 y6]; rw [lt_i, show N 15 = A 38 2 from y5] at c_40; omega)]; exact hx))
      · refine z_bipush (v := -11) d_X11_cell_27 (by decide) ?_
        exact z_iret _ d_X11_cell_29 rfl (XP.of (by rw [celR, celX, if_pos hin, show (nI 2).toInt.toNat = 2 from nI_tn (by omega), if_pos (show A 36 2 = 0 from hx.ss.no (j := 2) (by decide) c_24)]) (by rw [celA, celX, if_pos hin, show (nI 2).toInt.toNat = 2 from nI_tn (by omega), if_pos (show A 36 2 = 0 from hx.ss.no (j := 2) (by decide) c_24)]; exact hx))
    · refine z_aload_n d_X11_cell_10 0 rfl ?_
      refine z_get (v := .ref (x 22)) (0) f_X11_24_11 rfl rfl d_X11_cell_11 ?_
      refine z_iload_n d_X11_cell_14 1 rfl ?_
      refine z_aldq (C0 := RX7) 22 5 3 rfl rfl (nI_toInt (by omega)) (by omega) d_X11_cell_15 ?_
      refine z_topv (v := .ref (x 29)) rfl ?_
      refine z_astore [(4, .ref (x 29)), (0, .ref (x 0)), (1, .int (nI 3)), (2, .int i), (3, .int v)] d_X11_cell_16 (by decide) rfl ?_
      refine z_aload d_X11_cell_18 0 rfl ?_
      refine z_get (v := .int (N 16)) (29) f_X11_256_7 rfl rfl d_X11_cell_20 ?_
      refine z_iconst (v := -1) d_X11_cell_23 (by decide) ?_
      refine z_icmp_ne d_X11_cell_24 (fun c_24 => ?_) (fun c_24 => ?_)
      · obtain ⟨y1, y2, y3, y4, y5, y6, y7, y8⟩ := hx.ss.yes (j := 3) (by decide) c_24
        refine z_iload_n d_X11_cell_30 3 rfl ?_
        refine z_if_lt d_X11_cell_31 (fun c_31 => ?_) (fun c_31 => ?_)
        · refine z_bipush (v := -12) d_X11_cell_43 (by decide) ?_
          exact z_iret _ d_X11_cell_45 rfl (XP.of (by rw [celR, celX, if_pos hin, show (nI 3).toInt.toNat = 3 from nI_tn (by omega), if_neg y1, if_neg (show ¬ ceO A 3 i = true by rw [ceO, Bool.and_eq_true, decide_eq_true_eq, decide_eq_true_eq, sz_1 y6]; rw [lt_i, i_0] at c_31; omega)]) (by rw [celA, celX, if_pos hin, show (nI 3).toInt.toNat = 3 from nI_tn (by omega), if_neg y1, if_neg (show ¬ ceO A 3 i = true by rw [ceO, Bool.and_eq_true, decide_eq_true_eq, decide_eq_true_eq, sz_1 y6]; rw [lt_i, i_0] at c_31; omega)]; exact hx))
        · refine z_iload_n d_X11_cell_34 3 rfl ?_
          refine z_aload d_X11_cell_35 0 rfl ?_
          refine z_get (v := .int (N 17)) (29) f_X11_259_7 rfl rfl d_X11_cell_37 ?_
          refine z_icmp_lt d_X11_cell_40 (fun c_40 => ?_) (fun c_40 => ?_)
          · have hlt : i.toInt < (A 38 3).toInt := by rw [← y5]; rw [lt_i] at c_40; exact c_40
            have hce : ceO A 3 i = true := by rw [ceO, Bool.and_eq_true, decide_eq_true_eq, decide_eq_true_eq, sz_1 y6]; rw [lt_i, i_0] at c_31; omega
            obtain ⟨q, hq, rfl⟩ : ∃ q : Nat, q < 40 ∧ i = nI q := ⟨i.toInt.toNat, by rw [lt_i, i_0] at c_31; omega, eq_nI (by rw [lt_i, i_0] at c_31; omega)⟩
            refine z_aload d_X11_cell_46 0 rfl ?_
            refine z_iload_n d_X11_cell_48 3 rfl ?_
            refine z_iload_n d_X11_cell_49 4 rfl ?_
            refine z_callVv 29 c_X11_260 (t_write3 G x N R K r S T tl q v hq) rfl rfl rfl rfl (Nat.le_of_ble_eq_true rfl) rfl d_X11_cell_50 ?_
            refine z_iconst (v := 1) d_X11_cell_53 (by decide) ?_
            exact z_iret _ d_X11_cell_54 rfl (XP.of (by rw [celR, celX, if_pos hin, show (nI 3).toInt.toNat = 3 from nI_tn (by omega), if_neg y1, if_pos hce]) (by rw [celA, celX, if_pos hin, show (nI 3).toInt.toNat = 3 from nI_tn (by omega), if_neg y1, if_pos hce, nI_tn (by omega), show N 16 = A 37 3 from y2]; exact hx.sh (fun k hk => if_neg (by omega)) (fun _ _ => rfl) (fun i hi => if_neg (by omega)) (hx.ss.wr (j := 3) (by decide) hq _)))
          · refine z_bipush (v := -12) d_X11_cell_43 (by decide) ?_
            exact z_iret _ d_X11_cell_45 rfl (XP.of (by rw [celR, celX, if_pos hin, show (nI 3).toInt.toNat = 3 from nI_tn (by omega), if_neg y1, if_neg (show ¬ ceO A 3 i = true by rw [ceO, Bool.and_eq_true, decide_eq_true_eq, decide_eq_true_eq, sz_1 y6]; rw [lt_i, show N 17 = A 38 3 from y5] at c_40; omega)]) (by rw [celA, celX, if_pos hin, show (nI 3).toInt.toNat = 3 from nI_tn (by omega), if_neg y1, if_neg (show ¬ ceO A 3 i = true by rw [ceO, Bool.and_eq_true, decide_eq_true_eq, decide_eq_true_eq, sz_1 y6]; rw [lt_i, show N 17 = A 38 3 from y5] at c_40; omega)]; exact hx))
      · refine z_bipush (v := -11) d_X11_cell_27 (by decide) ?_
        exact z_iret _ d_X11_cell_29 rfl (XP.of (by rw [celR, celX, if_pos hin, show (nI 3).toInt.toNat = 3 from nI_tn (by omega), if_pos (show A 36 3 = 0 from hx.ss.no (j := 3) (by decide) c_24)]) (by rw [celA, celX, if_pos hin, show (nI 3).toInt.toNat = 3 from nI_tn (by omega), if_pos (show A 36 3 = 0 from hx.ss.no (j := 3) (by decide) c_24)]; exact hx))
  · refine z_bipush (v := -2) d_X11_cell_7 (by decide) ?_
    exact z_iret _ d_X11_cell_9 rfl (XP.of (by rw [celR, celX, if_neg (by rw [b01_z c_4]; decide)]) (by rw [celA, celX, if_neg (by rw [b01_z c_4]; decide)]; exact hx))
