/-! THE PUBLIC METHODS of class X: strips -/
theorem rm_k {d D mc j : Nat} (h : d + 1 ≤ D) (h2 : j + mc ≤ 12) : rmok d mc mc j j (Rm D 12 12) = true := by
  simp only [rmok, Rm, Bool.and_eq_true]
  exact ⟨Nat.ble_eq_true_of_le h, Nat.ble_eq_true_of_le (by omega), Nat.ble_eq_true_of_le h2, Nat.ble_eq_true_of_le h2⟩
theorem i3k {k : Nat} (h : k ≤ 12) : (3 * nI k).toInt = 3 * (k : Int) := by
  rw [show (3 : Int32) = nI 3 from rfl, nI_mul, nI_i (by omega)]; omega
theorem isub {x y : Int32} (h : -2147483648 ≤ x.toInt - y.toInt) (h2 : x.toInt - y.toInt ≤ 2147483647) : (x - y).toInt = x.toInt - y.toInt := by
  rw [Int32.toInt_sub]; exact Int.bmod_eq_of_le (by omega) (by omega)
theorem iadd {x y : Int32} (h : -2147483648 ≤ x.toInt + y.toInt) (h2 : x.toInt + y.toInt ≤ 2147483647) : (x + y).toInt = x.toInt + y.toInt := by
  rw [Int32.toInt_add]; exact Int.bmod_eq_of_le (by omega) (by omega)
theorem st_ok {z at0 : Int32} {k : Nat} (hz : 0 ≤ z.toInt ∧ z.toInt ≤ 40) (hk : k = 0 ∨ (0 ≤ at0.toInt ∧ at0.toInt ≤ 37)) (hk12 : k ≤ 12) : hoQ z (at0 + 3 * nI k) 3 = true ↔ ¬ at0 < 0 ∧ ¬ z - 3 * nI k - 3 < at0 := by
  have e3 := i3k hk12
  have t3 : (3 : Int32).toInt = 3 := by decide
  have l1 := at0.toInt_lt
  have l2 := at0.le_toInt
  have e1 : (at0 + 3 * nI k).toInt = at0.toInt + 3 * (k : Int) := by rw [iadd (by omega) (by omega), e3]
  have e5 : (z - 3 * nI k).toInt = z.toInt - 3 * (k : Int) := by rw [isub (by omega) (by omega), e3]
  have e6 : (z - 3 * nI k - 3).toInt = z.toInt - 3 * (k : Int) - 3 := by rw [isub (by omega) (by omega), e5, t3]
  rw [hoQ, Bool.and_eq_true, Bool.and_eq_true, decide_eq_true_eq, decide_eq_true_eq, decide_eq_true_eq]
  simp only [lt_i, e1, e6, i_0, t3]
  by_cases h0 : at0.toInt + 3 * (k : Int) < 0
  · omega
  · have e4 : (z - (at0 + 3 * nI k)).toInt = z.toInt - (at0.toInt + 3 * (k : Int)) := by rw [isub (by omega) (by omega), e1]
    rw [e4]; omega
theorem strO_iff {s so n0 : Int32} : strO s so n0 = true ↔ inB s 0 3 = true ∧ inB so 0 2 = true ∧ inB n0 0 12 = true := by unfold strO; rw [Bool.and_eq_true, Bool.and_eq_true]
theorem layA_ne {I : Nat → Int32} {A : Nat → Nat → Int32} {k w v : Int32} {j : Nat} (h : ¬ (7 ≤ j ∧ j ≤ 11)) : layA I A k w v j = A j := by
  unfold layA; split
  · exact laA_ne h
  · rfl
set_option maxHeartbeats 4000000 in
set_option maxRecDepth 100000 in
theorem lp_strips0 (G : GT) (x : Nat → Nat) (so at0 : Int32) (m : Nat) (hm12 : m ≤ 12) (z1 : Int32) (I1 : Nat → Int32) (A1 : Nat → Nat → Int32) : ∀ (n : Nat) (k : Nat) (c : Int32) (N : Nat → Int32) (R : Nat → Nat → Int32) (K : Nat → Nat → Option Nat) (r : Nat → Nat) (S : Nat → Int32) (T : Nat → Nat → Int32) (tl : va_W) (I : Nat → Int32) (A : Nat → Nat → Int32) (it : List (Nat × Value)) (hx : XRel G I A N R K r tl) (h36 : ¬ A 36 0 = 0) (hk0 : k = 0 ∨ (0 ≤ at0.toInt ∧ at0.toInt ≤ 37)) (hkm : k ≤ m) (hm : m < k + n) (hres : srF 0 at0 (nI m) (13 - k) k c I A = (z1, I1, A1)), Tr G mX11_strips (Rm 8 12 12) (OM G (XP G x (some (.int z1)) I1 A1) 12 12) k k 67 [(7, .int (nI k)), (6, .int c), (5, .ref (x 23)), (0, .ref (x 0)), (3, .int at0), (4, .int (nI m))] [] (XW G x N R K r S T tl) := by
  intro n
  induction n with
  | zero =>
    intro k c N R K r S T tl I A it hx h36 hk0 hkm hm hres
    exact absurd hm (by omega)
  | succ n ih =>
    intro k c N R K r S T tl I A it hx h36 hk0 hkm hm hres
    refine z_iload d_X11_strips_67 0 rfl ?_
    refine z_iload d_X11_strips_69 5 rfl ?_
    refine z_icmp_ge d_X11_strips_71 (fun c_71 => ?_) (fun c_71 => ?_)
    · refine z_iload d_X11_strips_140 1 rfl ?_
      refine z_widen (pc' := 0) 12 12 (by omega) (by omega) ?_
      exact z_iret _ d_X11_strips_142 rfl (by rw [show 13 - k = (12 - k) + 1 by omega, srF, if_neg c_71] at hres; cases hres; exact XP.of rfl hx)
    · have hlt := c_71
      have h9 : k < m := lt_nI (by omega) (by omega) c_71
      obtain ⟨y2, y3, y4, y5, y6, y7, y8⟩ := (hx.ss 0 (by decide)).resolve_left (fun g => h36 g.1) |>.2
      rw [show 13 - k = (12 - k) + 1 by omega, srF, if_pos hlt] at hres
      refine z_iload_n d_X11_strips_74 4 rfl ?_
      refine z_iconst (v := 3) d_X11_strips_75 (by decide) ?_
      refine z_iload d_X11_strips_76 0 rfl ?_
      refine z_imul d_X11_strips_78 ?_
      refine z_iadd d_X11_strips_79 ?_
      refine z_istore [(8, .int (at0 + (3 * (nI k)))), (7, .int (nI k)), (6, .int c), (5, .ref (x 23)), (0, .ref (x 0)), (3, .int at0), (4, .int (nI m))] d_X11_strips_80 (by decide) rfl ?_
      refine z_aload d_X11_strips_82 3 rfl ?_
      refine z_iload d_X11_strips_84 0 rfl ?_
      refine z_iconst (v := 3) d_X11_strips_86 (by decide) ?_
      refine z_callVp 23 c_X11_263 (t_holds0 G x N R K r S T tl (at0 + (3 * (nI k))) 3) rfl rfl rfl rfl (Nat.le_of_ble_eq_true rfl) (rm_k (by omega) (by omega)) d_X11_strips_87 ?_
      refine z_if_ne d_X11_strips_90 (fun c_90 => ?_) (fun c_90 => ?_)
      · have hok := (st_ok ⟨y6, y7⟩ hk0 (by omega)).mp (by rw [← y5]; exact b01_o c_90)
        rw [if_neg hok.1, if_neg hok.2] at hres
        have hz := hok.2
        have hn9 : 0 ≤ at0.toInt := by have := hok.1; rw [lt_i, i_0] at this; omega
        have hb9 : at0.toInt + 3 * (k : Int) + 3 ≤ (A 38 0).toInt := by rw [lt_i, isub (by rw [isub (by rw [i3k (by omega)]; omega) (by rw [i3k (by omega)]; omega), i3k (by omega), l_3]; omega) (by rw [isub (by rw [i3k (by omega)]; omega) (by rw [i3k (by omega)]; omega), i3k (by omega), l_3]; omega), isub (by rw [i3k (by omega)]; omega) (by rw [i3k (by omega)]; omega), i3k (by omega), l_3] at hz; omega
        obtain ⟨a, ha⟩ : ∃ a : Nat, at0 = nI a := ⟨at0.toInt.toNat, eq_nI (by omega)⟩
        clear ha
        obtain ⟨a, ha2, ha⟩ : ∃ a : Nat, a ≤ 37 ∧ at0 = nI a := ⟨at0.toInt.toNat, by omega, eq_nI (by omega)⟩
        have ei : at0 + 3 * nI k = nI (a + 3 * k) := by rw [ha, show (3 : Int32) = nI 3 from rfl, nI_mul, nI_add]
        have et : at0.toInt.toNat = a := by rw [ha]; exact nI_tn (by omega)
        have hq : a + 3 * k + 2 < (A 38 0).toInt.toNat := by have : at0.toInt = (a : Int) := (by rw [ha]; exact nI_i (by omega)); omega
        rw [et] at hres
        rw [ei]
        refine z_aload_n d_X11_strips_96 4 rfl ?_
        refine z_aload d_X11_strips_97 3 rfl ?_
        refine z_get (v := .ref (x 24)) (23) f_X11_266_7 rfl rfl d_X11_strips_99 ?_
        refine z_iload d_X11_strips_102 0 rfl ?_
        refine z_ialdN (24) (a + 3 * k) rfl (nI_toInt (by omega)) (by omega) d_X11_strips_104 ?_
        refine z_top (show R 7 (a + 3 * k) = A 39 (40 * 0 + a + 3 * k) by rw [Nat.add_assoc (40 * 0) a (3 * k)]; exact y8 _ (by omega)) ?_
        refine z_aload d_X11_strips_105 3 rfl ?_
        refine z_get (v := .ref (x 24)) (23) f_X11_266_7 rfl rfl d_X11_strips_107 ?_
        refine z_iload d_X11_strips_110 0 rfl ?_
        refine z_iconst (v := 1) d_X11_strips_112 (by decide) ?_
        refine z_iadd d_X11_strips_113 ?_
        refine z_ialdN (24) (a + 3 * k + 1) rfl (by rw [nI_1]; exact nI_i (by omega)) (by omega) d_X11_strips_114 ?_
        refine z_top (show R 7 (a + 3 * k + 1) = A 39 (40 * 0 + a + 3 * k + 1) by rw [Nat.add_assoc (40 * 0) a (3 * k), Nat.add_assoc (40 * 0)]; exact y8 _ (by omega)) ?_
        refine z_aload d_X11_strips_115 3 rfl ?_
        refine z_get (v := .ref (x 24)) (23) f_X11_266_7 rfl rfl d_X11_strips_117 ?_
        refine z_iload d_X11_strips_120 0 rfl ?_
        refine z_iconst (v := 2) d_X11_strips_122 (by decide) ?_
        refine z_iadd d_X11_strips_123 ?_
        refine z_ialdN (24) (a + 3 * k + 2) rfl (by rw [show (2 : Int32) = nI 2 from rfl, nI_add]; exact nI_i (by omega)) (by omega) d_X11_strips_124 ?_
        refine z_top (show R 7 (a + 3 * k + 2) = A 39 (40 * 0 + a + 3 * k + 2) by rw [Nat.add_assoc (40 * 0) a (3 * k), Nat.add_assoc (40 * 0)]; exact y8 _ (by omega)) ?_
        refine z_callV 0 c_X11_275 rfl rfl (t_X11_lay G x N R K r S T tl I A hx (A 39 (40 * 0 + a + 3 * k)) (A 39 (40 * 0 + a + 3 * k + 1)) (A 39 (40 * 0 + a + 3 * k + 2))) rfl rfl (Nat.le_of_ble_eq_true rfl) (rm_k (by omega) (by omega)) d_X11_strips_125 ?_
        rintro v125 w125 ⟨rfl, N5, R5, K5, r5, S5, T5, tl5, rfl, hx5⟩
        refine z_if_lt d_X11_strips_128 (fun c_128 => ?_) (fun c_128 => ?_)
        · refine z_iinc (nI (k + 1)) [(7, .int (nI (k + 1))), (8, .int (nI (a + 3 * k))), (6, .int c), (5, .ref (x 23)), (0, .ref (x 0)), (3, .int at0), (4, .int (nI m))] 1 d_X11_strips_134 rfl (nI_1 _) (by decide) rfl ?_
          refine z_goto d_X11_strips_137 ?_
          refine z_perm [0, 2, 3, 4, 5, 6] rfl ?_
          rw [if_pos c_128, Int32.add_zero] at hres
          exact ih (k + 1) _ N5 R5 K5 r5 S5 T5 tl5 (layI I (A 39 (40 * 0 + a + 3 * k)) (A 39 (40 * 0 + a + 3 * k + 1)) (A 39 (40 * 0 + a + 3 * k + 2))) (layA I A (A 39 (40 * 0 + a + 3 * k)) (A 39 (40 * 0 + a + 3 * k + 1)) (A 39 (40 * 0 + a + 3 * k + 2))) [] hx5 (by rw [layA_ne (by omega)]; exact h36) (Or.inr ⟨hn9, by omega⟩) (by omega) (by omega) (by rw [show 13 - (k + 1) = 12 - k by omega]; exact hres)
        · refine z_iinc (c + 1) [(6, .int (c + 1)), (8, .int (nI (a + 3 * k))), (7, .int (nI k)), (5, .ref (x 23)), (0, .ref (x 0)), (3, .int at0), (4, .int (nI m))] 2 d_X11_strips_131 rfl rfl (by decide) rfl ?_
          refine z_iinc (nI (k + 1)) [(7, .int (nI (k + 1))), (6, .int (c + 1)), (8, .int (nI (a + 3 * k))), (5, .ref (x 23)), (0, .ref (x 0)), (3, .int at0), (4, .int (nI m))] 2 d_X11_strips_134 rfl (nI_1 _) (by decide) rfl ?_
          refine z_goto d_X11_strips_137 ?_
          refine z_perm [0, 1, 3, 4, 5, 6] rfl ?_
          rw [if_neg c_128] at hres
          exact ih (k + 1) _ N5 R5 K5 r5 S5 T5 tl5 (layI I (A 39 (40 * 0 + a + 3 * k)) (A 39 (40 * 0 + a + 3 * k + 1)) (A 39 (40 * 0 + a + 3 * k + 2))) (layA I A (A 39 (40 * 0 + a + 3 * k)) (A 39 (40 * 0 + a + 3 * k + 1)) (A 39 (40 * 0 + a + 3 * k + 2))) [] hx5 (by rw [layA_ne (by omega)]; exact h36) (Or.inr ⟨hn9, by omega⟩) (by omega) (by omega) (by rw [show 13 - (k + 1) = 12 - k by omega]; exact hres)
      · refine z_bipush (v := -12) d_X11_strips_93 (by decide) ?_
        refine z_widen (pc' := 0) 12 12 (by omega) (by omega) ?_
        exact z_iret _ d_X11_strips_95 rfl (by rcases Decidable.em (at0 < 0) with g | g; rw [if_pos g] at hres; cases hres; exact XP.of rfl hx; rw [if_neg g] at hres; rcases Decidable.em (A 38 0 - 3 * nI k - 3 < at0) with g2 | g2; rw [if_pos g2] at hres; cases hres; exact XP.of rfl hx; exact absurd ((st_ok ⟨y6, y7⟩ hk0 (by omega)).mpr ⟨g, g2⟩) (by rw [← y5]; intro hh; rw [show hoQ (N (11 + 2 * 0)) (at0 + 3 * nI k) 3 = false from b01_z c_90] at hh; exact absurd hh (by decide)))
set_option maxHeartbeats 4000000 in
set_option maxRecDepth 100000 in
theorem lp_strips1 (G : GT) (x : Nat → Nat) (so at0 : Int32) (m : Nat) (hm12 : m ≤ 12) (z1 : Int32) (I1 : Nat → Int32) (A1 : Nat → Nat → Int32) : ∀ (n : Nat) (k : Nat) (c : Int32) (N : Nat → Int32) (R : Nat → Nat → Int32) (K : Nat → Nat → Option Nat) (r : Nat → Nat) (S : Nat → Int32) (T : Nat → Nat → Int32) (tl : va_W) (I : Nat → Int32) (A : Nat → Nat → Int32) (it : List (Nat × Value)) (hx : XRel G I A N R K r tl) (h36 : ¬ A 36 1 = 0) (hk0 : k = 0 ∨ (0 ≤ at0.toInt ∧ at0.toInt ≤ 37)) (hkm : k ≤ m) (hm : m < k + n) (hres : srF 1 at0 (nI m) (13 - k) k c I A = (z1, I1, A1)), Tr G mX11_strips (Rm 8 12 12) (OM G (XP G x (some (.int z1)) I1 A1) 12 12) k k 67 [(7, .int (nI k)), (6, .int c), (5, .ref (x 25)), (0, .ref (x 0)), (3, .int at0), (4, .int (nI m))] [] (XW G x N R K r S T tl) := by
  intro n
  induction n with
  | zero =>
    intro k c N R K r S T tl I A it hx h36 hk0 hkm hm hres
    exact absurd hm (by omega)
  | succ n ih =>
    intro k c N R K r S T tl I A it hx h36 hk0 hkm hm hres
    refine z_iload d_X11_strips_67 0 rfl ?_
    refine z_iload d_X11_strips_69 5 rfl ?_
    refine z_icmp_ge d_X11_strips_71 (fun c_71 => ?_) (fun c_71 => ?_)
    · refine z_iload d_X11_strips_140 1 rfl ?_
      refine z_widen (pc' := 0) 12 12 (by omega) (by omega) ?_
      exact z_iret _ d_X11_strips_142 rfl (by rw [show 13 - k = (12 - k) + 1 by omega, srF, if_neg c_71] at hres; cases hres; exact XP.of rfl hx)
    · have hlt := c_71
      have h9 : k < m := lt_nI (by omega) (by omega) c_71
      obtain ⟨y2, y3, y4, y5, y6, y7, y8⟩ := (hx.ss 1 (by decide)).resolve_left (fun g => h36 g.1) |>.2
      rw [show 13 - k = (12 - k) + 1 by omega, srF, if_pos hlt] at hres
      refine z_iload_n d_X11_strips_74 4 rfl ?_
      refine z_iconst (v := 3) d_X11_strips_75 (by decide) ?_
      refine z_iload d_X11_strips_76 0 rfl ?_
      refine z_imul d_X11_strips_78 ?_
      refine z_iadd d_X11_strips_79 ?_
      refine z_istore [(8, .int (at0 + (3 * (nI k)))), (7, .int (nI k)), (6, .int c), (5, .ref (x 25)), (0, .ref (x 0)), (3, .int at0), (4, .int (nI m))] d_X11_strips_80 (by decide) rfl ?_
      refine z_aload d_X11_strips_82 3 rfl ?_
      refine z_iload d_X11_strips_84 0 rfl ?_
      refine z_iconst (v := 3) d_X11_strips_86 (by decide) ?_
      refine z_callVp 25 c_X11_263 (t_holds1 G x N R K r S T tl (at0 + (3 * (nI k))) 3) rfl rfl rfl rfl (Nat.le_of_ble_eq_true rfl) (rm_k (by omega) (by omega)) d_X11_strips_87 ?_
      refine z_if_ne d_X11_strips_90 (fun c_90 => ?_) (fun c_90 => ?_)
      · have hok := (st_ok ⟨y6, y7⟩ hk0 (by omega)).mp (by rw [← y5]; exact b01_o c_90)
        rw [if_neg hok.1, if_neg hok.2] at hres
        have hz := hok.2
        have hn9 : 0 ≤ at0.toInt := by have := hok.1; rw [lt_i, i_0] at this; omega
        have hb9 : at0.toInt + 3 * (k : Int) + 3 ≤ (A 38 1).toInt := by rw [lt_i, isub (by rw [isub (by rw [i3k (by omega)]; omega) (by rw [i3k (by omega)]; omega), i3k (by omega), l_3]; omega) (by rw [isub (by rw [i3k (by omega)]; omega) (by rw [i3k (by omega)]; omega), i3k (by omega), l_3]; omega), isub (by rw [i3k (by omega)]; omega) (by rw [i3k (by omega)]; omega), i3k (by omega), l_3] at hz; omega
        obtain ⟨a, ha⟩ : ∃ a : Nat, at0 = nI a := ⟨at0.toInt.toNat, eq_nI (by omega)⟩
        clear ha
        obtain ⟨a, ha2, ha⟩ : ∃ a : Nat, a ≤ 37 ∧ at0 = nI a := ⟨at0.toInt.toNat, by omega, eq_nI (by omega)⟩
        have ei : at0 + 3 * nI k = nI (a + 3 * k) := by rw [ha, show (3 : Int32) = nI 3 from rfl, nI_mul, nI_add]
        have et : at0.toInt.toNat = a := by rw [ha]; exact nI_tn (by omega)
        have hq : a + 3 * k + 2 < (A 38 1).toInt.toNat := by have : at0.toInt = (a : Int) := (by rw [ha]; exact nI_i (by omega)); omega
        rw [et] at hres
        rw [ei]
        refine z_aload_n d_X11_strips_96 4 rfl ?_
        refine z_aload d_X11_strips_97 3 rfl ?_
        refine z_get (v := .ref (x 26)) (25) f_X11_266_7 rfl rfl d_X11_strips_99 ?_
        refine z_iload d_X11_strips_102 0 rfl ?_
        refine z_ialdN (26) (a + 3 * k) rfl (nI_toInt (by omega)) (by omega) d_X11_strips_104 ?_
        refine z_top (show R 8 (a + 3 * k) = A 39 (40 * 1 + a + 3 * k) by rw [Nat.add_assoc (40 * 1) a (3 * k)]; exact y8 _ (by omega)) ?_
        refine z_aload d_X11_strips_105 3 rfl ?_
        refine z_get (v := .ref (x 26)) (25) f_X11_266_7 rfl rfl d_X11_strips_107 ?_
        refine z_iload d_X11_strips_110 0 rfl ?_
        refine z_iconst (v := 1) d_X11_strips_112 (by decide) ?_
        refine z_iadd d_X11_strips_113 ?_
        refine z_ialdN (26) (a + 3 * k + 1) rfl (by rw [nI_1]; exact nI_i (by omega)) (by omega) d_X11_strips_114 ?_
        refine z_top (show R 8 (a + 3 * k + 1) = A 39 (40 * 1 + a + 3 * k + 1) by rw [Nat.add_assoc (40 * 1) a (3 * k), Nat.add_assoc (40 * 1)]; exact y8 _ (by omega)) ?_
        refine z_aload d_X11_strips_115 3 rfl ?_
        refine z_get (v := .ref (x 26)) (25) f_X11_266_7 rfl rfl d_X11_strips_117 ?_
        refine z_iload d_X11_strips_120 0 rfl ?_
        refine z_iconst (v := 2) d_X11_strips_122 (by decide) ?_
        refine z_iadd d_X11_strips_123 ?_
        refine z_ialdN (26) (a + 3 * k + 2) rfl (by rw [show (2 : Int32) = nI 2 from rfl, nI_add]; exact nI_i (by omega)) (by omega) d_X11_strips_124 ?_
        refine z_top (show R 8 (a + 3 * k + 2) = A 39 (40 * 1 + a + 3 * k + 2) by rw [Nat.add_assoc (40 * 1) a (3 * k), Nat.add_assoc (40 * 1)]; exact y8 _ (by omega)) ?_
        refine z_callV 0 c_X11_275 rfl rfl (t_X11_lay G x N R K r S T tl I A hx (A 39 (40 * 1 + a + 3 * k)) (A 39 (40 * 1 + a + 3 * k + 1)) (A 39 (40 * 1 + a + 3 * k + 2))) rfl rfl (Nat.le_of_ble_eq_true rfl) (rm_k (by omega) (by omega)) d_X11_strips_125 ?_
        rintro v125 w125 ⟨rfl, N5, R5, K5, r5, S5, T5, tl5, rfl, hx5⟩
        refine z_if_lt d_X11_strips_128 (fun c_128 => ?_) (fun c_128 => ?_)
        · refine z_iinc (nI (k + 1)) [(7, .int (nI (k + 1))), (8, .int (nI (a + 3 * k))), (6, .int c), (5, .ref (x 25)), (0, .ref (x 0)), (3, .int at0), (4, .int (nI m))] 1 d_X11_strips_134 rfl (nI_1 _) (by decide) rfl ?_
          refine z_goto d_X11_strips_137 ?_
          refine z_perm [0, 2, 3, 4, 5, 6] rfl ?_
          rw [if_pos c_128, Int32.add_zero] at hres
          exact ih (k + 1) _ N5 R5 K5 r5 S5 T5 tl5 (layI I (A 39 (40 * 1 + a + 3 * k)) (A 39 (40 * 1 + a + 3 * k + 1)) (A 39 (40 * 1 + a + 3 * k + 2))) (layA I A (A 39 (40 * 1 + a + 3 * k)) (A 39 (40 * 1 + a + 3 * k + 1)) (A 39 (40 * 1 + a + 3 * k + 2))) [] hx5 (by rw [layA_ne (by omega)]; exact h36) (Or.inr ⟨hn9, by omega⟩) (by omega) (by omega) (by rw [show 13 - (k + 1) = 12 - k by omega]; exact hres)
        · refine z_iinc (c + 1) [(6, .int (c + 1)), (8, .int (nI (a + 3 * k))), (7, .int (nI k)), (5, .ref (x 25)), (0, .ref (x 0)), (3, .int at0), (4, .int (nI m))] 2 d_X11_strips_131 rfl rfl (by decide) rfl ?_
          refine z_iinc (nI (k + 1)) [(7, .int (nI (k + 1))), (6, .int (c + 1)), (8, .int (nI (a + 3 * k))), (5, .ref (x 25)), (0, .ref (x 0)), (3, .int at0), (4, .int (nI m))] 2 d_X11_strips_134 rfl (nI_1 _) (by decide) rfl ?_
          refine z_goto d_X11_strips_137 ?_
          refine z_perm [0, 1, 3, 4, 5, 6] rfl ?_
          rw [if_neg c_128] at hres
          exact ih (k + 1) _ N5 R5 K5 r5 S5 T5 tl5 (layI I (A 39 (40 * 1 + a + 3 * k)) (A 39 (40 * 1 + a + 3 * k + 1)) (A 39 (40 * 1 + a + 3 * k + 2))) (layA I A (A 39 (40 * 1 + a + 3 * k)) (A 39 (40 * 1 + a + 3 * k + 1)) (A 39 (40 * 1 + a + 3 * k + 2))) [] hx5 (by rw [layA_ne (by omega)]; exact h36) (Or.inr ⟨hn9, by omega⟩) (by omega) (by omega) (by rw [show 13 - (k + 1) = 12 - k by omega]; exact hres)
      · refine z_bipush (v := -12) d_X11_strips_93 (by decide) ?_
        refine z_widen (pc' := 0) 12 12 (by omega) (by omega) ?_
        exact z_iret _ d_X11_strips_95 rfl (by rcases Decidable.em (at0 < 0) with g | g; rw [if_pos g] at hres; cases hres; exact XP.of rfl hx; rw [if_neg g] at hres; rcases Decidable.em (A 38 1 - 3 * nI k - 3 < at0) with g2 | g2; rw [if_pos g2] at hres; cases hres; exact XP.of rfl hx; exact absurd ((st_ok ⟨y6, y7⟩ hk0 (by omega)).mpr ⟨g, g2⟩) (by rw [← y5]; intro hh; rw [show hoQ (N (11 + 2 * 1)) (at0 + 3 * nI k) 3 = false from b01_z c_90] at hh; exact absurd hh (by decide)))
set_option maxHeartbeats 4000000 in
set_option maxRecDepth 100000 in
theorem lp_strips2 (G : GT) (x : Nat → Nat) (so at0 : Int32) (m : Nat) (hm12 : m ≤ 12) (z1 : Int32) (I1 : Nat → Int32) (A1 : Nat → Nat → Int32) : ∀ (n : Nat) (k : Nat) (c : Int32) (N : Nat → Int32) (R : Nat → Nat → Int32) (K : Nat → Nat → Option Nat) (r : Nat → Nat) (S : Nat → Int32) (T : Nat → Nat → Int32) (tl : va_W) (I : Nat → Int32) (A : Nat → Nat → Int32) (it : List (Nat × Value)) (hx : XRel G I A N R K r tl) (h36 : ¬ A 36 2 = 0) (hk0 : k = 0 ∨ (0 ≤ at0.toInt ∧ at0.toInt ≤ 37)) (hkm : k ≤ m) (hm : m < k + n) (hres : srF 2 at0 (nI m) (13 - k) k c I A = (z1, I1, A1)), Tr G mX11_strips (Rm 8 12 12) (OM G (XP G x (some (.int z1)) I1 A1) 12 12) k k 67 [(7, .int (nI k)), (6, .int c), (5, .ref (x 27)), (0, .ref (x 0)), (3, .int at0), (4, .int (nI m))] [] (XW G x N R K r S T tl) := by
  intro n
  induction n with
  | zero =>
    intro k c N R K r S T tl I A it hx h36 hk0 hkm hm hres
    exact absurd hm (by omega)
  | succ n ih =>
    intro k c N R K r S T tl I A it hx h36 hk0 hkm hm hres
    refine z_iload d_X11_strips_67 0 rfl ?_
    refine z_iload d_X11_strips_69 5 rfl ?_
    refine z_icmp_ge d_X11_strips_71 (fun c_71 => ?_) (fun c_71 => ?_)
    · refine z_iload d_X11_strips_140 1 rfl ?_
      refine z_widen (pc' := 0) 12 12 (by omega) (by omega) ?_
      exact z_iret _ d_X11_strips_142 rfl (by rw [show 13 - k = (12 - k) + 1 by omega, srF, if_neg c_71] at hres; cases hres; exact XP.of rfl hx)
    · have hlt := c_71
      have h9 : k < m := lt_nI (by omega) (by omega) c_71
      obtain ⟨y2, y3, y4, y5, y6, y7, y8⟩ := (hx.ss 2 (by decide)).resolve_left (fun g => h36 g.1) |>.2
      rw [show 13 - k = (12 - k) + 1 by omega, srF, if_pos hlt] at hres
      refine z_iload_n d_X11_strips_74 4 rfl ?_
      refine z_iconst (v := 3) d_X11_strips_75 (by decide) ?_
      refine z_iload d_X11_strips_76 0 rfl ?_
      refine z_imul d_X11_strips_78 ?_
      refine z_iadd d_X11_strips_79 ?_
      refine z_istore [(8, .int (at0 + (3 * (nI k)))), (7, .int (nI k)), (6, .int c), (5, .ref (x 27)), (0, .ref (x 0)), (3, .int at0), (4, .int (nI m))] d_X11_strips_80 (by decide) rfl ?_
      refine z_aload d_X11_strips_82 3 rfl ?_
      refine z_iload d_X11_strips_84 0 rfl ?_
      refine z_iconst (v := 3) d_X11_strips_86 (by decide) ?_
      refine z_callVp 27 c_X11_263 (t_holds2 G x N R K r S T tl (at0 + (3 * (nI k))) 3) rfl rfl rfl rfl (Nat.le_of_ble_eq_true rfl) (rm_k (by omega) (by omega)) d_X11_strips_87 ?_
      refine z_if_ne d_X11_strips_90 (fun c_90 => ?_) (fun c_90 => ?_)
      · have hok := (st_ok ⟨y6, y7⟩ hk0 (by omega)).mp (by rw [← y5]; exact b01_o c_90)
        rw [if_neg hok.1, if_neg hok.2] at hres
        have hz := hok.2
        have hn9 : 0 ≤ at0.toInt := by have := hok.1; rw [lt_i, i_0] at this; omega
        have hb9 : at0.toInt + 3 * (k : Int) + 3 ≤ (A 38 2).toInt := by rw [lt_i, isub (by rw [isub (by rw [i3k (by omega)]; omega) (by rw [i3k (by omega)]; omega), i3k (by omega), l_3]; omega) (by rw [isub (by rw [i3k (by omega)]; omega) (by rw [i3k (by omega)]; omega), i3k (by omega), l_3]; omega), isub (by rw [i3k (by omega)]; omega) (by rw [i3k (by omega)]; omega), i3k (by omega), l_3] at hz; omega
        obtain ⟨a, ha⟩ : ∃ a : Nat, at0 = nI a := ⟨at0.toInt.toNat, eq_nI (by omega)⟩
        clear ha
        obtain ⟨a, ha2, ha⟩ : ∃ a : Nat, a ≤ 37 ∧ at0 = nI a := ⟨at0.toInt.toNat, by omega, eq_nI (by omega)⟩
        have ei : at0 + 3 * nI k = nI (a + 3 * k) := by rw [ha, show (3 : Int32) = nI 3 from rfl, nI_mul, nI_add]
        have et : at0.toInt.toNat = a := by rw [ha]; exact nI_tn (by omega)
        have hq : a + 3 * k + 2 < (A 38 2).toInt.toNat := by have : at0.toInt = (a : Int) := (by rw [ha]; exact nI_i (by omega)); omega
        rw [et] at hres
        rw [ei]
        refine z_aload_n d_X11_strips_96 4 rfl ?_
        refine z_aload d_X11_strips_97 3 rfl ?_
        refine z_get (v := .ref (x 28)) (27) f_X11_266_7 rfl rfl d_X11_strips_99 ?_
        refine z_iload d_X11_strips_102 0 rfl ?_
        refine z_ialdN (28) (a + 3 * k) rfl (nI_toInt (by omega)) (by omega) d_X11_strips_104 ?_
        refine z_top (show R 9 (a + 3 * k) = A 39 (40 * 2 + a + 3 * k) by rw [Nat.add_assoc (40 * 2) a (3 * k)]; exact y8 _ (by omega)) ?_
        refine z_aload d_X11_strips_105 3 rfl ?_
        refine z_get (v := .ref (x 28)) (27) f_X11_266_7 rfl rfl d_X11_strips_107 ?_
        refine z_iload d_X11_strips_110 0 rfl ?_
        refine z_iconst (v := 1) d_X11_strips_112 (by decide) ?_
        refine z_iadd d_X11_strips_113 ?_
        refine z_ialdN (28) (a + 3 * k + 1) rfl (by rw [nI_1]; exact nI_i (by omega)) (by omega) d_X11_strips_114 ?_
        refine z_top (show R 9 (a + 3 * k + 1) = A 39 (40 * 2 + a + 3 * k + 1) by rw [Nat.add_assoc (40 * 2) a (3 * k), Nat.add_assoc (40 * 2)]; exact y8 _ (by omega)) ?_
        refine z_aload d_X11_strips_115 3 rfl ?_
        refine z_get (v := .ref (x 28)) (27) f_X11_266_7 rfl rfl d_X11_strips_117 ?_
        refine z_iload d_X11_strips_120 0 rfl ?_
        refine z_iconst (v := 2) d_X11_strips_122 (by decide) ?_
        refine z_iadd d_X11_strips_123 ?_
        refine z_ialdN (28) (a + 3 * k + 2) rfl (by rw [show (2 : Int32) = nI 2 from rfl, nI_add]; exact nI_i (by omega)) (by omega) d_X11_strips_124 ?_
        refine z_top (show R 9 (a + 3 * k + 2) = A 39 (40 * 2 + a + 3 * k + 2) by rw [Nat.add_assoc (40 * 2) a (3 * k), Nat.add_assoc (40 * 2)]; exact y8 _ (by omega)) ?_
        refine z_callV 0 c_X11_275 rfl rfl (t_X11_lay G x N R K r S T tl I A hx (A 39 (40 * 2 + a + 3 * k)) (A 39 (40 * 2 + a + 3 * k + 1)) (A 39 (40 * 2 + a + 3 * k + 2))) rfl rfl (Nat.le_of_ble_eq_true rfl) (rm_k (by omega) (by omega)) d_X11_strips_125 ?_
        rintro v125 w125 ⟨rfl, N5, R5, K5, r5, S5, T5, tl5, rfl, hx5⟩
        refine z_if_lt d_X11_strips_128 (fun c_128 => ?_) (fun c_128 => ?_)
        · refine z_iinc (nI (k + 1)) [(7, .int (nI (k + 1))), (8, .int (nI (a + 3 * k))), (6, .int c), (5, .ref (x 27)), (0, .ref (x 0)), (3, .int at0), (4, .int (nI m))] 1 d_X11_strips_134 rfl (nI_1 _) (by decide) rfl ?_
          refine z_goto d_X11_strips_137 ?_
          refine z_perm [0, 2, 3, 4, 5, 6] rfl ?_
          rw [if_pos c_128, Int32.add_zero] at hres
          exact ih (k + 1) _ N5 R5 K5 r5 S5 T5 tl5 (layI I (A 39 (40 * 2 + a + 3 * k)) (A 39 (40 * 2 + a + 3 * k + 1)) (A 39 (40 * 2 + a + 3 * k + 2))) (layA I A (A 39 (40 * 2 + a + 3 * k)) (A 39 (40 * 2 + a + 3 * k + 1)) (A 39 (40 * 2 + a + 3 * k + 2))) [] hx5 (by rw [layA_ne (by omega)]; exact h36) (Or.inr ⟨hn9, by omega⟩) (by omega) (by omega) (by rw [show 13 - (k + 1) = 12 - k by omega]; exact hres)
        · refine z_iinc (c + 1) [(6, .int (c + 1)), (8, .int (nI (a + 3 * k))), (7, .int (nI k)), (5, .ref (x 27)), (0, .ref (x 0)), (3, .int at0), (4, .int (nI m))] 2 d_X11_strips_131 rfl rfl (by decide) rfl ?_
          refine z_iinc (nI (k + 1)) [(7, .int (nI (k + 1))), (6, .int (c + 1)), (8, .int (nI (a + 3 * k))), (5, .ref (x 27)), (0, .ref (x 0)), (3, .int at0), (4, .int (nI m))] 2 d_X11_strips_134 rfl (nI_1 _) (by decide) rfl ?_
          refine z_goto d_X11_strips_137 ?_
          refine z_perm [0, 1, 3, 4, 5, 6] rfl ?_
          rw [if_neg c_128] at hres
          exact ih (k + 1) _ N5 R5 K5 r5 S5 T5 tl5 (layI I (A 39 (40 * 2 + a + 3 * k)) (A 39 (40 * 2 + a + 3 * k + 1)) (A 39 (40 * 2 + a + 3 * k + 2))) (layA I A (A 39 (40 * 2 + a + 3 * k)) (A 39 (40 * 2 + a + 3 * k + 1)) (A 39 (40 * 2 + a + 3 * k + 2))) [] hx5 (by rw [layA_ne (by omega)]; exact h36) (Or.inr ⟨hn9, by omega⟩) (by omega) (by omega) (by rw [show 13 - (k + 1) = 12 - k by omega]; exact hres)
      · refine z_bipush (v := -12) d_X11_strips_93 (by decide) ?_
        refine z_widen (pc' := 0) 12 12 (by omega) (by omega) ?_
        exact z_iret _ d_X11_strips_95 rfl (by rcases Decidable.em (at0 < 0) with g | g; rw [if_pos g] at hres; cases hres; exact XP.of rfl hx; rw [if_neg g] at hres; rcases Decidable.em (A 38 2 - 3 * nI k - 3 < at0) with g2 | g2; rw [if_pos g2] at hres; cases hres; exact XP.of rfl hx; exact absurd ((st_ok ⟨y6, y7⟩ hk0 (by omega)).mpr ⟨g, g2⟩) (by rw [← y5]; intro hh; rw [show hoQ (N (11 + 2 * 2)) (at0 + 3 * nI k) 3 = false from b01_z c_90] at hh; exact absurd hh (by decide)))
set_option maxHeartbeats 4000000 in
set_option maxRecDepth 100000 in
theorem lp_strips3 (G : GT) (x : Nat → Nat) (so at0 : Int32) (m : Nat) (hm12 : m ≤ 12) (z1 : Int32) (I1 : Nat → Int32) (A1 : Nat → Nat → Int32) : ∀ (n : Nat) (k : Nat) (c : Int32) (N : Nat → Int32) (R : Nat → Nat → Int32) (K : Nat → Nat → Option Nat) (r : Nat → Nat) (S : Nat → Int32) (T : Nat → Nat → Int32) (tl : va_W) (I : Nat → Int32) (A : Nat → Nat → Int32) (it : List (Nat × Value)) (hx : XRel G I A N R K r tl) (h36 : ¬ A 36 3 = 0) (hk0 : k = 0 ∨ (0 ≤ at0.toInt ∧ at0.toInt ≤ 37)) (hkm : k ≤ m) (hm : m < k + n) (hres : srF 3 at0 (nI m) (13 - k) k c I A = (z1, I1, A1)), Tr G mX11_strips (Rm 8 12 12) (OM G (XP G x (some (.int z1)) I1 A1) 12 12) k k 67 [(7, .int (nI k)), (6, .int c), (5, .ref (x 29)), (0, .ref (x 0)), (3, .int at0), (4, .int (nI m))] [] (XW G x N R K r S T tl) := by
  intro n
  induction n with
  | zero =>
    intro k c N R K r S T tl I A it hx h36 hk0 hkm hm hres
    exact absurd hm (by omega)
  | succ n ih =>
    intro k c N R K r S T tl I A it hx h36 hk0 hkm hm hres
    refine z_iload d_X11_strips_67 0 rfl ?_
    refine z_iload d_X11_strips_69 5 rfl ?_
    refine z_icmp_ge d_X11_strips_71 (fun c_71 => ?_) (fun c_71 => ?_)
    · refine z_iload d_X11_strips_140 1 rfl ?_
      refine z_widen (pc' := 0) 12 12 (by omega) (by omega) ?_
      exact z_iret _ d_X11_strips_142 rfl (by rw [show 13 - k = (12 - k) + 1 by omega, srF, if_neg c_71] at hres; cases hres; exact XP.of rfl hx)
    · have hlt := c_71
      have h9 : k < m := lt_nI (by omega) (by omega) c_71
      obtain ⟨y2, y3, y4, y5, y6, y7, y8⟩ := (hx.ss 3 (by decide)).resolve_left (fun g => h36 g.1) |>.2
      rw [show 13 - k = (12 - k) + 1 by omega, srF, if_pos hlt] at hres
      refine z_iload_n d_X11_strips_74 4 rfl ?_
      refine z_iconst (v := 3) d_X11_strips_75 (by decide) ?_
      refine z_iload d_X11_strips_76 0 rfl ?_
      refine z_imul d_X11_strips_78 ?_
      refine z_iadd d_X11_strips_79 ?_
      refine z_istore [(8, .int (at0 + (3 * (nI k)))), (7, .int (nI k)), (6, .int c), (5, .ref (x 29)), (0, .ref (x 0)), (3, .int at0), (4, .int (nI m))] d_X11_strips_80 (by decide) rfl ?_
      refine z_aload d_X11_strips_82 3 rfl ?_
      refine z_iload d_X11_strips_84 0 rfl ?_
      refine z_iconst (v := 3) d_X11_strips_86 (by decide) ?_
      refine z_callVp 29 c_X11_263 (t_holds3 G x N R K r S T tl (at0 + (3 * (nI k))) 3) rfl rfl rfl rfl (Nat.le_of_ble_eq_true rfl) (rm_k (by omega) (by omega)) d_X11_strips_87 ?_
      refine z_if_ne d_X11_strips_90 (fun c_90 => ?_) (fun c_90 => ?_)
      · have hok := (st_ok ⟨y6, y7⟩ hk0 (by omega)).mp (by rw [← y5]; exact b01_o c_90)
        rw [if_neg hok.1, if_neg hok.2] at hres
        have hz := hok.2
        have hn9 : 0 ≤ at0.toInt := by have := hok.1; rw [lt_i, i_0] at this; omega
        have hb9 : at0.toInt + 3 * (k : Int) + 3 ≤ (A 38 3).toInt := by rw [lt_i, isub (by rw [isub (by rw [i3k (by omega)]; omega) (by rw [i3k (by omega)]; omega), i3k (by omega), l_3]; omega) (by rw [isub (by rw [i3k (by omega)]; omega) (by rw [i3k (by omega)]; omega), i3k (by omega), l_3]; omega), isub (by rw [i3k (by omega)]; omega) (by rw [i3k (by omega)]; omega), i3k (by omega), l_3] at hz; omega
        obtain ⟨a, ha⟩ : ∃ a : Nat, at0 = nI a := ⟨at0.toInt.toNat, eq_nI (by omega)⟩
        clear ha
        obtain ⟨a, ha2, ha⟩ : ∃ a : Nat, a ≤ 37 ∧ at0 = nI a := ⟨at0.toInt.toNat, by omega, eq_nI (by omega)⟩
        have ei : at0 + 3 * nI k = nI (a + 3 * k) := by rw [ha, show (3 : Int32) = nI 3 from rfl, nI_mul, nI_add]
        have et : at0.toInt.toNat = a := by rw [ha]; exact nI_tn (by omega)
        have hq : a + 3 * k + 2 < (A 38 3).toInt.toNat := by have : at0.toInt = (a : Int) := (by rw [ha]; exact nI_i (by omega)); omega
        rw [et] at hres
        rw [ei]
        refine z_aload_n d_X11_strips_96 4 rfl ?_
        refine z_aload d_X11_strips_97 3 rfl ?_
        refine z_get (v := .ref (x 30)) (29) f_X11_266_7 rfl rfl d_X11_strips_99 ?_
        refine z_iload d_X11_strips_102 0 rfl ?_
        refine z_ialdN (30) (a + 3 * k) rfl (nI_toInt (by omega)) (by omega) d_X11_strips_104 ?_
        refine z_top (show R 10 (a + 3 * k) = A 39 (40 * 3 + a + 3 * k) by rw [Nat.add_assoc (40 * 3) a (3 * k)]; exact y8 _ (by omega)) ?_
        refine z_aload d_X11_strips_105 3 rfl ?_
        refine z_get (v := .ref (x 30)) (29) f_X11_266_7 rfl rfl d_X11_strips_107 ?_
        refine z_iload d_X11_strips_110 0 rfl ?_
        refine z_iconst (v := 1) d_X11_strips_112 (by decide) ?_
        refine z_iadd d_X11_strips_113 ?_
        refine z_ialdN (30) (a + 3 * k + 1) rfl (by rw [nI_1]; exact nI_i (by omega)) (by omega) d_X11_strips_114 ?_
        refine z_top (show R 10 (a + 3 * k + 1) = A 39 (40 * 3 + a + 3 * k + 1) by rw [Nat.add_assoc (40 * 3) a (3 * k), Nat.add_assoc (40 * 3)]; exact y8 _ (by omega)) ?_
        refine z_aload d_X11_strips_115 3 rfl ?_
        refine z_get (v := .ref (x 30)) (29) f_X11_266_7 rfl rfl d_X11_strips_117 ?_
        refine z_iload d_X11_strips_120 0 rfl ?_
        refine z_iconst (v := 2) d_X11_strips_122 (by decide) ?_
        refine z_iadd d_X11_strips_123 ?_
        refine z_ialdN (30) (a + 3 * k + 2) rfl (by rw [show (2 : Int32) = nI 2 from rfl, nI_add]; exact nI_i (by omega)) (by omega) d_X11_strips_124 ?_
        refine z_top (show R 10 (a + 3 * k + 2) = A 39 (40 * 3 + a + 3 * k + 2) by rw [Nat.add_assoc (40 * 3) a (3 * k), Nat.add_assoc (40 * 3)]; exact y8 _ (by omega)) ?_
        refine z_callV 0 c_X11_275 rfl rfl (t_X11_lay G x N R K r S T tl I A hx (A 39 (40 * 3 + a + 3 * k)) (A 39 (40 * 3 + a + 3 * k + 1)) (A 39 (40 * 3 + a + 3 * k + 2))) rfl rfl (Nat.le_of_ble_eq_true rfl) (rm_k (by omega) (by omega)) d_X11_strips_125 ?_
        rintro v125 w125 ⟨rfl, N5, R5, K5, r5, S5, T5, tl5, rfl, hx5⟩
        refine z_if_lt d_X11_strips_128 (fun c_128 => ?_) (fun c_128 => ?_)
        · refine z_iinc (nI (k + 1)) [(7, .int (nI (k + 1))), (8, .int (nI (a + 3 * k))), (6, .int c), (5, .ref (x 29)), (0, .ref (x 0)), (3, .int at0), (4, .int (nI m))] 1 d_X11_strips_134 rfl (nI_1 _) (by decide) rfl ?_
          refine z_goto d_X11_strips_137 ?_
          refine z_perm [0, 2, 3, 4, 5, 6] rfl ?_
          rw [if_pos c_128, Int32.add_zero] at hres
          exact ih (k + 1) _ N5 R5 K5 r5 S5 T5 tl5 (layI I (A 39 (40 * 3 + a + 3 * k)) (A 39 (40 * 3 + a + 3 * k + 1)) (A 39 (40 * 3 + a + 3 * k + 2))) (layA I A (A 39 (40 * 3 + a + 3 * k)) (A 39 (40 * 3 + a + 3 * k + 1)) (A 39 (40 * 3 + a + 3 * k + 2))) [] hx5 (by rw [layA_ne (by omega)]; exact h36) (Or.inr ⟨hn9, by omega⟩) (by omega) (by omega) (by rw [show 13 - (k + 1) = 12 - k by omega]; exact hres)
        · refine z_iinc (c + 1) [(6, .int (c + 1)), (8, .int (nI (a + 3 * k))), (7, .int (nI k)), (5, .ref (x 29)), (0, .ref (x 0)), (3, .int at0), (4, .int (nI m))] 2 d_X11_strips_131 rfl rfl (by decide) rfl ?_
          refine z_iinc (nI (k + 1)) [(7, .int (nI (k + 1))), (6, .int (c + 1)), (8, .int (nI (a + 3 * k))), (5, .ref (x 29)), (0, .ref (x 0)), (3, .int at0), (4, .int (nI m))] 2 d_X11_strips_134 rfl (nI_1 _) (by decide) rfl ?_
          refine z_goto d_X11_strips_137 ?_
          refine z_perm [0, 1, 3, 4, 5, 6] rfl ?_
          rw [if_neg c_128] at hres
          exact ih (k + 1) _ N5 R5 K5 r5 S5 T5 tl5 (layI I (A 39 (40 * 3 + a + 3 * k)) (A 39 (40 * 3 + a + 3 * k + 1)) (A 39 (40 * 3 + a + 3 * k + 2))) (layA I A (A 39 (40 * 3 + a + 3 * k)) (A 39 (40 * 3 + a + 3 * k + 1)) (A 39 (40 * 3 + a + 3 * k + 2))) [] hx5 (by rw [layA_ne (by omega)]; exact h36) (Or.inr ⟨hn9, by omega⟩) (by omega) (by omega) (by rw [show 13 - (k + 1) = 12 - k by omega]; exact hres)
      · refine z_bipush (v := -12) d_X11_strips_93 (by decide) ?_
        refine z_widen (pc' := 0) 12 12 (by omega) (by omega) ?_
        exact z_iret _ d_X11_strips_95 rfl (by rcases Decidable.em (at0 < 0) with g | g; rw [if_pos g] at hres; cases hres; exact XP.of rfl hx; rw [if_neg g] at hres; rcases Decidable.em (A 38 3 - 3 * nI k - 3 < at0) with g2 | g2; rw [if_pos g2] at hres; cases hres; exact XP.of rfl hx; exact absurd ((st_ok ⟨y6, y7⟩ hk0 (by omega)).mpr ⟨g, g2⟩) (by rw [← y5]; intro hh; rw [show hoQ (N (11 + 2 * 3)) (at0 + 3 * nI k) 3 = false from b01_z c_90] at hh; exact absurd hh (by decide)))
theorem l_12 : (12 : Int32).toInt = 12 := by decide
set_option maxHeartbeats 4000000 in
set_option maxRecDepth 100000 in
theorem t_X11_strips (G : GT) (x : Nat → Nat) (N : Nat → Int32) (R : Nat → Nat → Int32) (K : Nat → Nat → Option Nat) (r : Nat → Nat) (S : Nat → Int32) (T : Nat → Nat → Int32) (tl : va_W) (I : Nat → Int32) (A : Nat → Nat → Int32) (hx : XRel G I A N R K r tl) (s : Int32) (so : Int32) (at0 : Int32) (n0 : Int32)  : Ct G mX11_strips 8 12 12 [.ref (x 0), .int s, .int so, .int at0, .int n0] (XW G x N R K r S T tl) (XP G x (some (.int ((strX A I s so at0 n0).1))) ((strX A I s so at0 n0).2.1) ((strX A I s so at0 n0).2.2)) := by
  have h := hx.nt
  refine Ct.intro [(0, .ref (x 0)), (1, .int s), (2, .int so), (3, .int at0), (4, .int n0)] (by decide) rfl (Nat.le_of_ble_eq_true rfl) ?_
  refine z_iload_n d_X11_strips_0 1 rfl ?_
  refine z_callSp c_X11_247 (t_X11_isSheet G s (XW G x N R K r S T tl)) rfl rfl (Nat.le_of_ble_eq_true rfl) rfl d_X11_strips_1 ?_
  refine z_if_eq d_X11_strips_4 (fun c_4 => ?_) (fun c_4 => ?_)
  · refine z_bipush (v := -2) d_X11_strips_26 (by decide) ?_
    refine z_widen (pc' := 0) 12 12 (by omega) (by omega) ?_
    exact z_iret _ d_X11_strips_28 rfl (XP.of (by rw [strX, if_neg (fun hh => by obtain ⟨g1, g2, g3⟩ := strO_iff.mp hh; rw [b01_z c_4] at g1; exact absurd g1 (by decide))]) (by rw [strX, if_neg (fun hh => by obtain ⟨g1, g2, g3⟩ := strO_iff.mp hh; rw [b01_z c_4] at g1; exact absurd g1 (by decide))]; exact hx))
  · refine z_iload_n d_X11_strips_7 2 rfl ?_
    refine z_callSp c_X11_250 (t_X11_isSort G so (XW G x N R K r S T tl)) rfl rfl (Nat.le_of_ble_eq_true rfl) rfl d_X11_strips_8 ?_
    refine z_if_eq d_X11_strips_11 (fun c_11 => ?_) (fun c_11 => ?_)
    · refine z_bipush (v := -2) d_X11_strips_26 (by decide) ?_
      refine z_widen (pc' := 0) 12 12 (by omega) (by omega) ?_
      exact z_iret _ d_X11_strips_28 rfl (XP.of (by rw [strX, if_neg (fun hh => by obtain ⟨g1, g2, g3⟩ := strO_iff.mp hh; rw [b01_z c_11] at g2; exact absurd g2 (by decide))]) (by rw [strX, if_neg (fun hh => by obtain ⟨g1, g2, g3⟩ := strO_iff.mp hh; rw [b01_z c_11] at g2; exact absurd g2 (by decide))]; exact hx))
    · refine z_iload d_X11_strips_14 4 rfl ?_
      refine z_if_lt d_X11_strips_16 (fun c_16 => ?_) (fun c_16 => ?_)
      · refine z_bipush (v := -2) d_X11_strips_26 (by decide) ?_
        refine z_widen (pc' := 0) 12 12 (by omega) (by omega) ?_
        exact z_iret _ d_X11_strips_28 rfl (XP.of (by rw [strX, if_neg (fun hh => by obtain ⟨g1, g2, g3⟩ := strO_iff.mp hh; rw [inB_iff] at g3; simp only [lt_i, i_0, l_12] at c_16; omega)]) (by rw [strX, if_neg (fun hh => by obtain ⟨g1, g2, g3⟩ := strO_iff.mp hh; rw [inB_iff] at g3; simp only [lt_i, i_0, l_12] at c_16; omega)]; exact hx))
      · refine z_iload d_X11_strips_19 4 rfl ?_
        refine z_bipush (v := 12) d_X11_strips_21 (by decide) ?_
        refine z_icmp_le d_X11_strips_23 (fun c_23 => ?_) (fun c_23 => ?_)
        · have hst : strO s so n0 = true := strO_iff.mpr ⟨b01_o c_4, b01_o c_11, by rw [inB_iff]; simp only [lt_i, i_0, l_12] at c_16 c_23; omega⟩
          obtain ⟨hin, -, hn12⟩ := strO_iff.mp hst
          obtain ⟨m, hm12, em⟩ := inB_nI hn12
          replace hm12 : m < 13 := hm12
          subst em
          obtain ⟨j_s, hj_s, ej_s⟩ := inB_nI hin
          replace hj_s : j_s < 4 := hj_s
          subst ej_s
          rcases (show j_s = 0 ∨ j_s = 1 ∨ j_s = 2 ∨ j_s = 3 by omega) with rfl | rfl | rfl | rfl
          · refine z_aload_n d_X11_strips_29 0 rfl ?_
            refine z_get (v := .ref (x 22)) (0) f_X11_24_11 rfl rfl d_X11_strips_30 ?_
            refine z_iload_n d_X11_strips_33 1 rfl ?_
            refine z_aldq (C0 := RX7) 22 5 0 rfl rfl (nI_toInt (by omega)) (by omega) d_X11_strips_34 ?_
            refine z_topv (v := .ref (x 23)) rfl ?_
            refine z_astore [(5, .ref (x 23)), (0, .ref (x 0)), (1, .int (nI 0)), (2, .int so), (3, .int at0), (4, .int (nI m))] d_X11_strips_35 (by decide) rfl ?_
            refine z_aload d_X11_strips_37 0 rfl ?_
            refine z_get (v := .int (N 10)) (23) f_X11_256_7 rfl rfl d_X11_strips_39 ?_
            refine z_iconst (v := -1) d_X11_strips_42 (by decide) ?_
            refine z_icmp_ne d_X11_strips_43 (fun c_43 => ?_) (fun c_43 => ?_)
            · obtain ⟨y1, y2, y3, y4, y5, y6, y7, y8⟩ := hx.ss.yes (j := 0) (by decide) c_43
              refine z_aload d_X11_strips_49 0 rfl ?_
              refine z_get (v := .int (N 10)) (23) f_X11_256_7 rfl rfl d_X11_strips_51 ?_
              refine z_iload_n d_X11_strips_54 3 rfl ?_
              refine z_icmp_eq d_X11_strips_55 (fun c_55 => ?_) (fun c_55 => ?_)
              · refine z_iconst (v := 0) d_X11_strips_61 (by decide) ?_
                refine z_istore [(6, .int 0), (5, .ref (x 23)), (0, .ref (x 0)), (1, .int (nI 0)), (2, .int so), (3, .int at0), (4, .int (nI m))] d_X11_strips_62 (by decide) rfl ?_
                refine z_iconst (v := 0) d_X11_strips_64 (by decide) ?_
                refine z_istore [(7, .int 0), (6, .int 0), (5, .ref (x 23)), (0, .ref (x 0)), (1, .int (nI 0)), (2, .int so), (3, .int at0), (4, .int (nI m))] d_X11_strips_65 (by decide) rfl ?_
                refine z_perm [0, 1, 2, 3, 6, 7] rfl ?_
                rw [strX, if_pos hst, show (nI 0).toInt.toNat = 0 from nI_tn (by omega), if_neg y1, if_pos ((show N 10 = A 37 0 from y2).symm.trans c_55)]
                exact lp_strips0 G x so at0 m (by omega) _ _ _ (m + 1) 0 0 N R K r S T tl I A [] hx y1 (Or.inl rfl) (by omega) (by omega) rfl
              · refine z_bipush (v := -13) d_X11_strips_58 (by decide) ?_
                refine z_widen (pc' := 0) 12 12 (by omega) (by omega) ?_
                exact z_iret _ d_X11_strips_60 rfl (by rw [strX, if_pos hst, show (nI 0).toInt.toNat = 0 from nI_tn (by omega), if_neg y1, if_neg (fun hh => c_55 ((show N 10 = A 37 0 from y2).trans hh))]; exact XP.of rfl hx)
            · refine z_bipush (v := -11) d_X11_strips_46 (by decide) ?_
              refine z_widen (pc' := 0) 12 12 (by omega) (by omega) ?_
              exact z_iret _ d_X11_strips_48 rfl (by rw [strX, if_pos hst, show (nI 0).toInt.toNat = 0 from nI_tn (by omega), if_pos (show A 36 0 = 0 from hx.ss.no (j := 0) (by decide) c_43)]; exact XP.of rfl hx)
          · refine z_aload_n d_X11_strips_29 0 rfl ?_
            refine z_get (v := .ref (x 22)) (0) f_X11_24_11 rfl rfl d_X11_strips_30 ?_
            refine z_iload_n d_X11_strips_33 1 rfl ?_
            refine z_aldq (C0 := RX7) 22 5 1 rfl rfl (nI_toInt (by omega)) (by omega) d_X11_strips_34 ?_
            refine z_topv (v := .ref (x 25)) rfl ?_
            refine z_astore [(5, .ref (x 25)), (0, .ref (x 0)), (1, .int (nI 1)), (2, .int so), (3, .int at0), (4, .int (nI m))] d_X11_strips_35 (by decide) rfl ?_
            refine z_aload d_X11_strips_37 0 rfl ?_
            refine z_get (v := .int (N 12)) (25) f_X11_256_7 rfl rfl d_X11_strips_39 ?_
            refine z_iconst (v := -1) d_X11_strips_42 (by decide) ?_
            refine z_icmp_ne d_X11_strips_43 (fun c_43 => ?_) (fun c_43 => ?_)
            · obtain ⟨y1, y2, y3, y4, y5, y6, y7, y8⟩ := hx.ss.yes (j := 1) (by decide) c_43
              refine z_aload d_X11_strips_49 0 rfl ?_
              refine z_get (v := .int (N 12)) (25) f_X11_256_7 rfl rfl d_X11_strips_51 ?_
              refine z_iload_n d_X11_strips_54 3 rfl ?_
              refine z_icmp_eq d_X11_strips_55 (fun c_55 => ?_) (fun c_55 => ?_)
              · refine z_iconst (v := 0) d_X11_strips_61 (by decide) ?_
                refine z_istore [(6, .int 0), (5, .ref (x 25)), (0, .ref (x 0)), (1, .int (nI 1)), (2, .int so), (3, .int at0), (4, .int (nI m))] d_X11_strips_62 (by decide) rfl ?_
                refine z_iconst (v := 0) d_X11_strips_64 (by decide) ?_
                refine z_istore [(7, .int 0), (6, .int 0), (5, .ref (x 25)), (0, .ref (x 0)), (1, .int (nI 1)), (2, .int so), (3, .int at0), (4, .int (nI m))] d_X11_strips_65 (by decide) rfl ?_
                refine z_perm [0, 1, 2, 3, 6, 7] rfl ?_
                rw [strX, if_pos hst, show (nI 1).toInt.toNat = 1 from nI_tn (by omega), if_neg y1, if_pos ((show N 12 = A 37 1 from y2).symm.trans c_55)]
                exact lp_strips1 G x so at0 m (by omega) _ _ _ (m + 1) 0 0 N R K r S T tl I A [] hx y1 (Or.inl rfl) (by omega) (by omega) rfl
              · refine z_bipush (v := -13) d_X11_strips_58 (by decide) ?_
                refine z_widen (pc' := 0) 12 12 (by omega) (by omega) ?_
                exact z_iret _ d_X11_strips_60 rfl (by rw [strX, if_pos hst, show (nI 1).toInt.toNat = 1 from nI_tn (by omega), if_neg y1, if_neg (fun hh => c_55 ((show N 12 = A 37 1 from y2).trans hh))]; exact XP.of rfl hx)
            · refine z_bipush (v := -11) d_X11_strips_46 (by decide) ?_
              refine z_widen (pc' := 0) 12 12 (by omega) (by omega) ?_
              exact z_iret _ d_X11_strips_48 rfl (by rw [strX, if_pos hst, show (nI 1).toInt.toNat = 1 from nI_tn (by omega), if_pos (show A 36 1 = 0 from hx.ss.no (j := 1) (by decide) c_43)]; exact XP.of rfl hx)
          · refine z_aload_n d_X11_strips_29 0 rfl ?_
            refine z_get (v := .ref (x 22)) (0) f_X11_24_11 rfl rfl d_X11_strips_30 ?_
            refine z_iload_n d_X11_strips_33 1 rfl ?_
            refine z_aldq (C0 := RX7) 22 5 2 rfl rfl (nI_toInt (by omega)) (by omega) d_X11_strips_34 ?_
            refine z_topv (v := .ref (x 27)) rfl ?_
            refine z_astore [(5, .ref (x 27)), (0, .ref (x 0)), (1, .int (nI 2)), (2, .int so), (3, .int at0), (4, .int (nI m))] d_X11_strips_35 (by decide) rfl ?_
            refine z_aload d_X11_strips_37 0 rfl ?_
            refine z_get (v := .int (N 14)) (27) f_X11_256_7 rfl rfl d_X11_strips_39 ?_
            refine z_iconst (v := -1) d_X11_strips_42 (by decide) ?_
            refine z_icmp_ne d_X11_strips_43 (fun c_43 => ?_) (fun c_43 => ?_)
            · obtain ⟨y1, y2, y3, y4, y5, y6, y7, y8⟩ := hx.ss.yes (j := 2) (by decide) c_43
              refine z_aload d_X11_strips_49 0 rfl ?_
              refine z_get (v := .int (N 14)) (27) f_X11_256_7 rfl rfl d_X11_strips_51 ?_
              refine z_iload_n d_X11_strips_54 3 rfl ?_
              refine z_icmp_eq d_X11_strips_55 (fun c_55 => ?_) (fun c_55 => ?_)
              · refine z_iconst (v := 0) d_X11_strips_61 (by decide) ?_
                refine z_istore [(6, .int 0), (5, .ref (x 27)), (0, .ref (x 0)), (1, .int (nI 2)), (2, .int so), (3, .int at0), (4, .int (nI m))] d_X11_strips_62 (by decide) rfl ?_
                refine z_iconst (v := 0) d_X11_strips_64 (by decide) ?_
                refine z_istore [(7, .int 0), (6, .int 0), (5, .ref (x 27)), (0, .ref (x 0)), (1, .int (nI 2)), (2, .int so), (3, .int at0), (4, .int (nI m))] d_X11_strips_65 (by decide) rfl ?_
                refine z_perm [0, 1, 2, 3, 6, 7] rfl ?_
                rw [strX, if_pos hst, show (nI 2).toInt.toNat = 2 from nI_tn (by omega), if_neg y1, if_pos ((show N 14 = A 37 2 from y2).symm.trans c_55)]
                exact lp_strips2 G x so at0 m (by omega) _ _ _ (m + 1) 0 0 N R K r S T tl I A [] hx y1 (Or.inl rfl) (by omega) (by omega) rfl
              · refine z_bipush (v := -13) d_X11_strips_58 (by decide) ?_
                refine z_widen (pc' := 0) 12 12 (by omega) (by omega) ?_
                exact z_iret _ d_X11_strips_60 rfl (by rw [strX, if_pos hst, show (nI 2).toInt.toNat = 2 from nI_tn (by omega), if_neg y1, if_neg (fun hh => c_55 ((show N 14 = A 37 2 from y2).trans hh))]; exact XP.of rfl hx)
            · refine z_bipush (v := -11) d_X11_strips_46 (by decide) ?_
              refine z_widen (pc' := 0) 12 12 (by omega) (by omega) ?_
              exact z_iret _ d_X11_strips_48 rfl (by rw [strX, if_pos hst, show (nI 2).toInt.toNat = 2 from nI_tn (by omega), if_pos (show A 36 2 = 0 from hx.ss.no (j := 2) (by decide) c_43)]; exact XP.of rfl hx)
          · refine z_aload_n d_X11_strips_29 0 rfl ?_
            refine z_get (v := .ref (x 22)) (0) f_X11_24_11 rfl rfl d_X11_strips_30 ?_
            refine z_iload_n d_X11_strips_33 1 rfl ?_
            refine z_aldq (C0 := RX7) 22 5 3 rfl rfl (nI_toInt (by omega)) (by omega) d_X11_strips_34 ?_
            refine z_topv (v := .ref (x 29)) rfl ?_
            refine z_astore [(5, .ref (x 29)), (0, .ref (x 0)), (1, .int (nI 3)), (2, .int so), (3, .int at0), (4, .int (nI m))] d_X11_strips_35 (by decide) rfl ?_
            refine z_aload d_X11_strips_37 0 rfl ?_
            refine z_get (v := .int (N 16)) (29) f_X11_256_7 rfl rfl d_X11_strips_39 ?_
            refine z_iconst (v := -1) d_X11_strips_42 (by decide) ?_
            refine z_icmp_ne d_X11_strips_43 (fun c_43 => ?_) (fun c_43 => ?_)
            · obtain ⟨y1, y2, y3, y4, y5, y6, y7, y8⟩ := hx.ss.yes (j := 3) (by decide) c_43
              refine z_aload d_X11_strips_49 0 rfl ?_
              refine z_get (v := .int (N 16)) (29) f_X11_256_7 rfl rfl d_X11_strips_51 ?_
              refine z_iload_n d_X11_strips_54 3 rfl ?_
              refine z_icmp_eq d_X11_strips_55 (fun c_55 => ?_) (fun c_55 => ?_)
              · refine z_iconst (v := 0) d_X11_strips_61 (by decide) ?_
                refine z_istore [(6, .int 0), (5, .ref (x 29)), (0, .ref (x 0)), (1, .int (nI 3)), (2, .int so), (3, .int at0), (4, .int (nI m))] d_X11_strips_62 (by decide) rfl ?_
                refine z_iconst (v := 0) d_X11_strips_64 (by decide) ?_
                refine z_istore [(7, .int 0), (6, .int 0), (5, .ref (x 29)), (0, .ref (x 0)), (1, .int (nI 3)), (2, .int so), (3, .int at0), (4, .int (nI m))] d_X11_strips_65 (by decide) rfl ?_
                refine z_perm [0, 1, 2, 3, 6, 7] rfl ?_
                rw [strX, if_pos hst, show (nI 3).toInt.toNat = 3 from nI_tn (by omega), if_neg y1, if_pos ((show N 16 = A 37 3 from y2).symm.trans c_55)]
                exact lp_strips3 G x so at0 m (by omega) _ _ _ (m + 1) 0 0 N R K r S T tl I A [] hx y1 (Or.inl rfl) (by omega) (by omega) rfl
              · refine z_bipush (v := -13) d_X11_strips_58 (by decide) ?_
                refine z_widen (pc' := 0) 12 12 (by omega) (by omega) ?_
                exact z_iret _ d_X11_strips_60 rfl (by rw [strX, if_pos hst, show (nI 3).toInt.toNat = 3 from nI_tn (by omega), if_neg y1, if_neg (fun hh => c_55 ((show N 16 = A 37 3 from y2).trans hh))]; exact XP.of rfl hx)
            · refine z_bipush (v := -11) d_X11_strips_46 (by decide) ?_
              refine z_widen (pc' := 0) 12 12 (by omega) (by omega) ?_
              exact z_iret _ d_X11_strips_48 rfl (by rw [strX, if_pos hst, show (nI 3).toInt.toNat = 3 from nI_tn (by omega), if_pos (show A 36 3 = 0 from hx.ss.no (j := 3) (by decide) c_43)]; exact XP.of rfl hx)
        · refine z_bipush (v := -2) d_X11_strips_26 (by decide) ?_
          refine z_widen (pc' := 0) 12 12 (by omega) (by omega) ?_
          exact z_iret _ d_X11_strips_28 rfl (XP.of (by rw [strX, if_neg (fun hh => by obtain ⟨g1, g2, g3⟩ := strO_iff.mp hh; rw [inB_iff] at g3; simp only [lt_i, i_0, l_12] at c_16 c_23; omega)]) (by rw [strX, if_neg (fun hh => by obtain ⟨g1, g2, g3⟩ := strO_iff.mp hh; rw [inB_iff] at g3; simp only [lt_i, i_0, l_12] at c_16 c_23; omega)]; exact hx))
