/-! THE CONSTRUCTOR of class X -/
set_option maxHeartbeats 8000000 in
set_option maxRecDepth 100000 in
theorem y9_made2 (G : GT) (x : Nat → Nat) (N : Nat → Int32) (R : Nat → Nat → Int32) (K : Nat → Nat → Option Nat) (r : Nat → Nat) (S : Nat → Int32) (T : Nat → Nat → Int32) (tl : va_W) (cd : CD) (num : Int32) (h : Rd cd S T) : Ct G mX6_made 2 3 166 [.ref (x 1), .int num] (YW G x N R K r S T tl) (fun v w => ∃ (a c e : Nat) (g : Nat → Int32), v = some (.ref a) ∧ w = YW G x N R K r S T (tl ++ [(a, .inr (9, [.int num, .ref c, .ref e])), (c, .inl (G.2.1 0, (cd.1 ++ cd.2.1 ++ cd.2.2).length, .inl g)), (e, .inl (G.2.1 0, 3, .inl (T 1)))]) ∧ TxR G cd num a [(a, .inr (9, [.int num, .ref c, .ref e])), (c, .inl (G.2.1 0, (cd.1 ++ cd.2.1 ++ cd.2.2).length, .inl g)), (e, .inl (G.2.1 0, 3, .inl (T 1)))]) := by
  have hL := h.2.2.2.2.2.1
  refine Ct.intro [(0, .ref (x 1)), (1, .int num)] (by decide) rfl (Nat.le_of_ble_eq_true rfl) ?_
  refine z_new (C0 := RX9) (T1 := TX9) (N := 3) (ci := 9) (fs := [.int 0, .null, .null]) tyX9 rfl u_X9 tyX9_ok w_0339 w_0340 w_0065 (by decide +kernel) rfl d_X6_made_0 (fun q => ?_)
  refine z_dup d_X6_made_3 rfl ?_
  refine z_iload_n d_X6_made_4 1 rfl ?_
  refine z_aload_n d_X6_made_5 0 rfl ?_
  refine z_get (v := .ref (x 3)) 1 f_X6_15_6 rfl rfl d_X6_made_6 ?_
  refine z_aload_n d_X6_made_9 0 rfl ?_
  refine z_get (v := .int (S 5)) 1 f_X6_29_6 rfl rfl d_X6_made_10 ?_
  refine z_top h.1 ?_
  refine z_callS c_X6_50 (t_J7_copyOf G 3 (x 3) 160 (cd.1 ++ cd.2.1 ++ cd.2.2).length (T 0) (by decide) hL _ rfl) rfl rfl (Nat.le_of_ble_eq_true rfl) rfl d_X6_made_13 ?_
  rintro v w ⟨qc, g, rfl, rfl, hg⟩
  refine z_aload_n d_X6_made_16 0 rfl ?_
  refine z_get (v := .ref (x 4)) 1 f_X6_19_6 rfl rfl d_X6_made_17 ?_
  refine z_clone (N := 3) (f := T 1) 4 rfl w_0355 rfl rfl rfl d_X6_made_20 (fun qe => ?_)
  refine z_castI _ get_last w_0356 d_X6_made_23 ?_
  refine z_callI c_X6_61 (t_X9_init G _ (YW G x N R K r S T tl).length q (.int 0) .null .null num qc qe get3) rfl rfl (Nat.le_of_ble_eq_true rfl) rfl d_X6_made_26 ?_
  rintro v w ⟨rfl, rfl⟩
  rw [set3]
  exact z_aret _ d_X6_made_29 rfl (Or.inl ⟨_, rfl⟩) (Or.inr ⟨_, rfl⟩) ⟨q, qc, qe, g, rfl, rfl, h.tx (tl := []) hg⟩
set_option maxHeartbeats 8000000 in
set_option maxRecDepth 100000 in
theorem l_X11_init (G : GT) (x : Nat → Nat) (K : Nat → Nat → Option Nat) (r : Nat → Nat) (S : Nat → Int32) (T : Nat → Nat → Int32) (tl : va_W) (E : Option Value → va_W → Prop)
    (hk : ∀ (N : Nat → Int32) (R : Nat → Nat → Int32), N 0 = nI 51 → Tp (chS 0) 51 (R 0) → Tr G mX11_init (Rm 47 33 1185) (OM G E 33 1185) 6 343 63 [(0, .ref (x 0))] [] (YW G x N R K r S T tl)) :
    ∀ (n k : Nat) (N : Nat → Int32) (R : Nat → Nat → Int32), k ≤ 51 → 51 < k + n → N 0 = nI k → Tp (chS 0) k (R 0) → Tr G mX11_init (Rm 47 33 1185) (OM G E 33 1185) 6 343 34 [(1, .int (nI k)), (0, .ref (x 0))] [] (YW G x N R K r S T tl) := by
  intro n
  induction n with
  | zero => intro k N R h1 h2; omega
  | succ n ih =>
    intro k N R h1 h2 h0 hT
    refine z_iload_n d_X11_init_34 0 rfl ?_
    refine z_ldcs d_X11_init_35 0 rfl ?_
    refine z_callKp (by decide) c_X11_30 (t_J0_length_8abf5 G 0 (by decide) _) rfl rfl (Nat.le_of_ble_eq_true rfl) rfl d_X11_init_37 ?_
    refine z_icmp_ge d_X11_init_40 (fun q => ?_) (fun q => ?_)
    · have hl : k = 51 := by
        have q1 : ¬ nI k < nI 51 := q
        rw [lt_i, nI_toInt (by omega), nI_toInt (by omega)] at q1
        omega
      subst hl
      refine z_perm [1] rfl ?_
      exact hk N R h0 hT
    · have hl : k < 51 := by
        have q1 : nI k < nI 51 := q
        rw [lt_i, nI_toInt (by omega), nI_toInt (by omega)] at q1
        omega
      refine z_aload_n d_X11_init_43 1 rfl ?_
      refine z_get (v := .ref (x 1)) 0 f_X11_10_11 rfl rfl d_X11_init_44 ?_
      refine z_ldcs d_X11_init_47 0 rfl ?_
      refine z_iload_n d_X11_init_49 0 rfl ?_
      refine z_callKp (by decide) c_X11_36 (t_J0_charAt_5068e G 0 k (by decide) hl _) rfl rfl (Nat.le_of_ble_eq_true rfl) rfl d_X11_init_50 ?_
      refine z_i2b d_X11_init_53 ?_
      refine z_callV 1 c_X11_40 rfl rfl (y9_t_X6_append G x N R K r S T tl k (chS 0 k).toInt8.toInt32 (by omega) h0) rfl rfl (Nat.le_of_ble_eq_true rfl) rfl d_X11_init_54 ?_
      rintro v w ⟨rfl, rfl⟩
      refine z_iinc (nI (k + 1)) [(1, .int (nI (k + 1))), (0, .ref (x 0))] 0 d_X11_init_57 rfl (nI_1 _) (by decide) rfl ?_
      refine z_goto d_X11_init_60 ?_
      refine ih (k + 1) _ _ (by omega) (by omega) rfl (fun i hi => ?_)
      show (if i = k then vp_nar .byte (chS 0 k).toInt8.toInt32 else R 0 i) = sb (chS 0 i) ∧ bOk (chS 0 i)
      by_cases e : i = k
      · subst e
        rw [if_pos rfl]
        obtain ⟨g1, g2, g3⟩ := f_by i hl
        exact ⟨g1, g2, g3⟩
      · rw [if_neg e]; exact hT i (by omega)
set_option maxHeartbeats 8000000 in
set_option maxRecDepth 100000 in
theorem s_X11_init (G : GT) (a q1 q5 q22 ta : Nat) (u1 u2 u3 u4 t2 t3 : Nat × va_E) (fs : List Value) (E : Option Value → va_W → Prop)
    (hk : ∀ n0 n1 n2 n3 n4 n5 n6 n7 m0 m1 m2 m3 m4 m5 m6 m7 s0 s1 s2 s3 i0 i1 i2 i3 : Nat, Tr G mX11_init (Rm 47 33 1185) (OM G E 33 1185) 33 1185 142 [(2, .int 4), (1, .ref ta), (0, .ref a)] [] [(a, .inr (11, [.ref q1, .ref q5, .int 1, .ref n0, .ref m0, .int 0, .ref q22])), u1, u2, u3, u4, (q5, .inl (G.2.1 4, 6, .inr (.inr (.inr (.inr (va_up (fun _ => none) 0 (some ta))))))), (q22, .inl (G.2.1 5, 4, .inr (.inr (.inr (.inr (va_up (va_up (va_up (va_up (fun _ => none) 0 (some s0)) 1 (some s1)) 2 (some s2)) 3 (some s3))))))), (ta, .inr (9, fs)), t2, t3, (n0, .inr (4, [.ref n1, .ref n2, .ref n3, .ref n4, .int 0, .int 0, .int 48, .ref ta, .ref n5, .ref n6, .ref n7])), (n1, .inl (G.2.1 3, 16, .inr (.inr (.inr (.inr (fun _ => none)))))), (n2, .inl (G.2.1 0, 16, .inl (fun _ => 0))), (n3, .inl (G.2.1 0, 16, .inl (fun _ => 0))), (n4, .inl (G.2.1 0, 25, .inl (fun _ => 0))), (n5, .inl (G.2.1 0, 6, .inl (fun _ => 0))), (n6, .inl (G.2.1 0, 160, .inl (fun _ => 0))), (n7, .inr (0, [.int (-1), .int 0])), (m0, .inr (4, [.ref m1, .ref m2, .ref m3, .ref m4, .int 0, .int 0, .int 48, .ref ta, .ref m5, .ref m6, .ref m7])), (m1, .inl (G.2.1 3, 16, .inr (.inr (.inr (.inr (fun _ => none)))))), (m2, .inl (G.2.1 0, 16, .inl (fun _ => 0))), (m3, .inl (G.2.1 0, 16, .inl (fun _ => 0))), (m4, .inl (G.2.1 0, 25, .inl (fun _ => 0))), (m5, .inl (G.2.1 0, 6, .inl (fun _ => 0))), (m6, .inl (G.2.1 0, 160, .inl (fun _ => 0))), (m7, .inr (0, [.int (-1), .int 0])), (s0, .inr (7, [.int (-1), .int 0, .ref i0])), (i0, .inl (G.2.1 0, 40, .inl (fun _ => 0))), (s1, .inr (7, [.int (-1), .int 0, .ref i1])), (i1, .inl (G.2.1 0, 40, .inl (fun _ => 0))), (s2, .inr (7, [.int (-1), .int 0, .ref i2])), (i2, .inl (G.2.1 0, 40, .inl (fun _ => 0))), (s3, .inr (7, [.int (-1), .int 0, .ref i3])), (i3, .inl (G.2.1 0, 40, .inl (fun _ => 0)))]) :
    Tr G mX11_init (Rm 47 33 1185) (OM G E 33 1185) 9 509 87 [(1, .ref ta), (0, .ref a)] [] [(a, .inr (11, [.ref q1, .ref q5, .int 0, .null, .null, .int 0, .ref q22])), u1, u2, u3, u4, (q5, .inl (G.2.1 4, 6, .inr (.inr (.inr (.inr (va_up (fun _ => none) 0 (some ta))))))), (q22, .inl (G.2.1 5, 4, .inr (.inr (.inr (.inr (fun _ => none)))))), (ta, .inr (9, fs)), t2, t3] := by
  refine z_aload_n d_X11_init_87 1 rfl ?_
  refine z_iconst (v := 1) d_X11_init_88 (by decide) ?_
  refine z_put 0 ([(a, .inr (11, [.ref q1, .ref q5, .int 1, .null, .null, .int 0, .ref q22])), u1, u2, u3, u4, (q5, .inl (G.2.1 4, 6, .inr (.inr (.inr (.inr (va_up (fun _ => none) 0 (some ta))))))), (q22, .inl (G.2.1 5, 4, .inr (.inr (.inr (.inr (fun _ => none)))))), (ta, .inr (9, fs)), t2, t3]) p_X11_51_11 rfl rfl rfl (Nat.le_of_ble_eq_true rfl) rfl d_X11_init_89 ?_
  refine z_aload_n d_X11_init_92 1 rfl ?_
  refine z_new (C0 := RX4) (T1 := TX4) (N := 11) (ci := 4) (fs := [.null, .null, .null, .null, .int 0, .int 0, .int 0, .null, .null, .null, .null]) tyX4 rfl u_X4 tyX4_ok w_0372 w_0373 w_0068 (by decide +kernel) rfl d_X11_init_93 (fun n0 => ?_)
  refine z_dup d_X11_init_96 rfl ?_
  refine z_aload_n d_X11_init_97 0 rfl ?_
  refine z_callI c_X11_57 (t_X4_init G ([(a, .inr (11, [.ref q1, .ref q5, .int 1, .null, .null, .int 0, .ref q22])), u1, u2, u3, u4, (q5, .inl (G.2.1 4, 6, .inr (.inr (.inr (.inr (va_up (fun _ => none) 0 (some ta))))))), (q22, .inl (G.2.1 5, 4, .inr (.inr (.inr (.inr (fun _ => none)))))), (ta, .inr (9, fs)), t2, t3]) n0 ta) rfl rfl (Nat.le_of_ble_eq_true rfl) rfl d_X11_init_98 ?_
  rintro v w ⟨n1, n2, n3, n4, n5, n6, n7, rfl, rfl⟩
  refine z_putF 0 ([(a, .inr (11, [.ref q1, .ref q5, .int 1, .ref n0, .null, .int 0, .ref q22])), u1, u2, u3, u4, (q5, .inl (G.2.1 4, 6, .inr (.inr (.inr (.inr (va_up (fun _ => none) 0 (some ta))))))), (q22, .inl (G.2.1 5, 4, .inr (.inr (.inr (.inr (fun _ => none)))))), (ta, .inr (9, fs)), t2, t3, (n0, .inr (4, [.ref n1, .ref n2, .ref n3, .ref n4, .int 0, .int 0, .int 48, .ref ta, .ref n5, .ref n6, .ref n7])), (n1, .inl (G.2.1 3, 16, .inr (.inr (.inr (.inr (fun _ => none)))))), (n2, .inl (G.2.1 0, 16, .inl (fun _ => 0))), (n3, .inl (G.2.1 0, 16, .inl (fun _ => 0))), (n4, .inl (G.2.1 0, 25, .inl (fun _ => 0))), (n5, .inl (G.2.1 0, 6, .inl (fun _ => 0))), (n6, .inl (G.2.1 0, 160, .inl (fun _ => 0))), (n7, .inr (0, [.int (-1), .int 0]))]) p_X11_60_11 rfl rfl rfl rfl (Nat.le_of_ble_eq_true rfl) rfl d_X11_init_101 ?_
  refine z_aload_n d_X11_init_104 1 rfl ?_
  refine z_new (C0 := RX4) (T1 := TX4) (N := 11) (ci := 4) (fs := [.null, .null, .null, .null, .int 0, .int 0, .int 0, .null, .null, .null, .null]) tyX4 rfl u_X4 tyX4_ok w_0372 w_0373 w_0068 (by decide +kernel) rfl d_X11_init_105 (fun m0 => ?_)
  refine z_dup d_X11_init_108 rfl ?_
  refine z_aload_n d_X11_init_109 0 rfl ?_
  refine z_callI c_X11_57 (t_X4_init G ([(a, .inr (11, [.ref q1, .ref q5, .int 1, .ref n0, .null, .int 0, .ref q22])), u1, u2, u3, u4, (q5, .inl (G.2.1 4, 6, .inr (.inr (.inr (.inr (va_up (fun _ => none) 0 (some ta))))))), (q22, .inl (G.2.1 5, 4, .inr (.inr (.inr (.inr (fun _ => none)))))), (ta, .inr (9, fs)), t2, t3, (n0, .inr (4, [.ref n1, .ref n2, .ref n3, .ref n4, .int 0, .int 0, .int 48, .ref ta, .ref n5, .ref n6, .ref n7])), (n1, .inl (G.2.1 3, 16, .inr (.inr (.inr (.inr (fun _ => none)))))), (n2, .inl (G.2.1 0, 16, .inl (fun _ => 0))), (n3, .inl (G.2.1 0, 16, .inl (fun _ => 0))), (n4, .inl (G.2.1 0, 25, .inl (fun _ => 0))), (n5, .inl (G.2.1 0, 6, .inl (fun _ => 0))), (n6, .inl (G.2.1 0, 160, .inl (fun _ => 0))), (n7, .inr (0, [.int (-1), .int 0]))]) m0 ta) rfl rfl (Nat.le_of_ble_eq_true rfl) rfl d_X11_init_110 ?_
  rintro v w ⟨m1, m2, m3, m4, m5, m6, m7, rfl, rfl⟩
  refine z_putF 0 ([(a, .inr (11, [.ref q1, .ref q5, .int 1, .ref n0, .ref m0, .int 0, .ref q22])), u1, u2, u3, u4, (q5, .inl (G.2.1 4, 6, .inr (.inr (.inr (.inr (va_up (fun _ => none) 0 (some ta))))))), (q22, .inl (G.2.1 5, 4, .inr (.inr (.inr (.inr (fun _ => none)))))), (ta, .inr (9, fs)), t2, t3, (n0, .inr (4, [.ref n1, .ref n2, .ref n3, .ref n4, .int 0, .int 0, .int 48, .ref ta, .ref n5, .ref n6, .ref n7])), (n1, .inl (G.2.1 3, 16, .inr (.inr (.inr (.inr (fun _ => none)))))), (n2, .inl (G.2.1 0, 16, .inl (fun _ => 0))), (n3, .inl (G.2.1 0, 16, .inl (fun _ => 0))), (n4, .inl (G.2.1 0, 25, .inl (fun _ => 0))), (n5, .inl (G.2.1 0, 6, .inl (fun _ => 0))), (n6, .inl (G.2.1 0, 160, .inl (fun _ => 0))), (n7, .inr (0, [.int (-1), .int 0])), (m0, .inr (4, [.ref m1, .ref m2, .ref m3, .ref m4, .int 0, .int 0, .int 48, .ref ta, .ref m5, .ref m6, .ref m7])), (m1, .inl (G.2.1 3, 16, .inr (.inr (.inr (.inr (fun _ => none)))))), (m2, .inl (G.2.1 0, 16, .inl (fun _ => 0))), (m3, .inl (G.2.1 0, 16, .inl (fun _ => 0))), (m4, .inl (G.2.1 0, 25, .inl (fun _ => 0))), (m5, .inl (G.2.1 0, 6, .inl (fun _ => 0))), (m6, .inl (G.2.1 0, 160, .inl (fun _ => 0))), (m7, .inr (0, [.int (-1), .int 0]))]) p_X11_64_11 rfl rfl rfl rfl (Nat.le_of_ble_eq_true rfl) rfl d_X11_init_113 ?_
  refine z_iconst (v := 0) d_X11_init_116 (by decide) ?_
  refine z_istore_n [(2, .int 0), (1, .ref ta), (0, .ref a)] d_X11_init_117 (by decide) rfl ?_
  refine z_iload_n d_X11_init_118 0 rfl ?_
  refine z_iconst (v := 4) d_X11_init_119 (by decide) ?_
  refine z_icmp_ge d_X11_init_120 (fun q => ?_) (fun _ => ?_)
  · exact absurd q (by decide)
  refine z_aload_n d_X11_init_123 2 rfl ?_
  refine z_get (v := .ref q22) 0 f_X11_24_11 rfl rfl d_X11_init_124 ?_
  refine z_iload_n d_X11_init_127 0 rfl ?_
  refine z_new (C0 := RX7) (T1 := TX7) (N := 3) (ci := 7) (fs := [.int 0, .int 0, .null]) tyX7 rfl u_X7 tyX7_ok w_0129 w_0436 w_0070 (by decide +kernel) rfl d_X11_init_128 (fun s0 => ?_)
  refine z_dup d_X11_init_131 rfl ?_
  refine z_callI c_X11_67 (t_X7_init G ([(a, .inr (11, [.ref q1, .ref q5, .int 1, .ref n0, .ref m0, .int 0, .ref q22])), u1, u2, u3, u4, (q5, .inl (G.2.1 4, 6, .inr (.inr (.inr (.inr (va_up (fun _ => none) 0 (some ta))))))), (q22, .inl (G.2.1 5, 4, .inr (.inr (.inr (.inr (fun _ => none)))))), (ta, .inr (9, fs)), t2, t3, (n0, .inr (4, [.ref n1, .ref n2, .ref n3, .ref n4, .int 0, .int 0, .int 48, .ref ta, .ref n5, .ref n6, .ref n7])), (n1, .inl (G.2.1 3, 16, .inr (.inr (.inr (.inr (fun _ => none)))))), (n2, .inl (G.2.1 0, 16, .inl (fun _ => 0))), (n3, .inl (G.2.1 0, 16, .inl (fun _ => 0))), (n4, .inl (G.2.1 0, 25, .inl (fun _ => 0))), (n5, .inl (G.2.1 0, 6, .inl (fun _ => 0))), (n6, .inl (G.2.1 0, 160, .inl (fun _ => 0))), (n7, .inr (0, [.int (-1), .int 0])), (m0, .inr (4, [.ref m1, .ref m2, .ref m3, .ref m4, .int 0, .int 0, .int 48, .ref ta, .ref m5, .ref m6, .ref m7])), (m1, .inl (G.2.1 3, 16, .inr (.inr (.inr (.inr (fun _ => none)))))), (m2, .inl (G.2.1 0, 16, .inl (fun _ => 0))), (m3, .inl (G.2.1 0, 16, .inl (fun _ => 0))), (m4, .inl (G.2.1 0, 25, .inl (fun _ => 0))), (m5, .inl (G.2.1 0, 6, .inl (fun _ => 0))), (m6, .inl (G.2.1 0, 160, .inl (fun _ => 0))), (m7, .inr (0, [.int (-1), .int 0])), (s0, .inr (7, [.int 0, .int 0, .null]))]) 26 s0 (.int 0) (.int 0) .null rfl) rfl rfl (Nat.le_of_ble_eq_true rfl) rfl d_X11_init_132 ?_
  rintro v w ⟨i0, rfl, rfl⟩
  refine z_astR (E0 := RX7) 6 5 26 0 ([(a, .inr (11, [.ref q1, .ref q5, .int 1, .ref n0, .ref m0, .int 0, .ref q22])), u1, u2, u3, u4, (q5, .inl (G.2.1 4, 6, .inr (.inr (.inr (.inr (va_up (fun _ => none) 0 (some ta))))))), (q22, .inl (G.2.1 5, 4, .inr (.inr (.inr (.inr (va_up (fun _ => none) 0 (some s0))))))), (ta, .inr (9, fs)), t2, t3, (n0, .inr (4, [.ref n1, .ref n2, .ref n3, .ref n4, .int 0, .int 0, .int 48, .ref ta, .ref n5, .ref n6, .ref n7])), (n1, .inl (G.2.1 3, 16, .inr (.inr (.inr (.inr (fun _ => none)))))), (n2, .inl (G.2.1 0, 16, .inl (fun _ => 0))), (n3, .inl (G.2.1 0, 16, .inl (fun _ => 0))), (n4, .inl (G.2.1 0, 25, .inl (fun _ => 0))), (n5, .inl (G.2.1 0, 6, .inl (fun _ => 0))), (n6, .inl (G.2.1 0, 160, .inl (fun _ => 0))), (n7, .inr (0, [.int (-1), .int 0])), (m0, .inr (4, [.ref m1, .ref m2, .ref m3, .ref m4, .int 0, .int 0, .int 48, .ref ta, .ref m5, .ref m6, .ref m7])), (m1, .inl (G.2.1 3, 16, .inr (.inr (.inr (.inr (fun _ => none)))))), (m2, .inl (G.2.1 0, 16, .inl (fun _ => 0))), (m3, .inl (G.2.1 0, 16, .inl (fun _ => 0))), (m4, .inl (G.2.1 0, 25, .inl (fun _ => 0))), (m5, .inl (G.2.1 0, 6, .inl (fun _ => 0))), (m6, .inl (G.2.1 0, 160, .inl (fun _ => 0))), (m7, .inr (0, [.int (-1), .int 0])), (s0, .inr (7, [.int (-1), .int 0, .ref i0])), (i0, .inl (G.2.1 0, 40, .inl (fun _ => 0)))]) rfl rfl rfl rfl (Or.inl rfl) (by rfl) (by decide) rfl d_X11_init_135 ?_
  refine z_iinc 1 [(2, .int 1), (1, .ref ta), (0, .ref a)] 0 d_X11_init_136 rfl (by rfl) (by decide) rfl ?_
  refine z_goto d_X11_init_139 ?_
  refine z_iload_n d_X11_init_118 0 rfl ?_
  refine z_iconst (v := 4) d_X11_init_119 (by decide) ?_
  refine z_icmp_ge d_X11_init_120 (fun q => ?_) (fun _ => ?_)
  · exact absurd q (by decide)
  refine z_aload_n d_X11_init_123 2 rfl ?_
  refine z_get (v := .ref q22) 0 f_X11_24_11 rfl rfl d_X11_init_124 ?_
  refine z_iload_n d_X11_init_127 0 rfl ?_
  refine z_new (C0 := RX7) (T1 := TX7) (N := 3) (ci := 7) (fs := [.int 0, .int 0, .null]) tyX7 rfl u_X7 tyX7_ok w_0129 w_0436 w_0070 (by decide +kernel) rfl d_X11_init_128 (fun s1 => ?_)
  refine z_dup d_X11_init_131 rfl ?_
  refine z_callI c_X11_67 (t_X7_init G ([(a, .inr (11, [.ref q1, .ref q5, .int 1, .ref n0, .ref m0, .int 0, .ref q22])), u1, u2, u3, u4, (q5, .inl (G.2.1 4, 6, .inr (.inr (.inr (.inr (va_up (fun _ => none) 0 (some ta))))))), (q22, .inl (G.2.1 5, 4, .inr (.inr (.inr (.inr (va_up (fun _ => none) 0 (some s0))))))), (ta, .inr (9, fs)), t2, t3, (n0, .inr (4, [.ref n1, .ref n2, .ref n3, .ref n4, .int 0, .int 0, .int 48, .ref ta, .ref n5, .ref n6, .ref n7])), (n1, .inl (G.2.1 3, 16, .inr (.inr (.inr (.inr (fun _ => none)))))), (n2, .inl (G.2.1 0, 16, .inl (fun _ => 0))), (n3, .inl (G.2.1 0, 16, .inl (fun _ => 0))), (n4, .inl (G.2.1 0, 25, .inl (fun _ => 0))), (n5, .inl (G.2.1 0, 6, .inl (fun _ => 0))), (n6, .inl (G.2.1 0, 160, .inl (fun _ => 0))), (n7, .inr (0, [.int (-1), .int 0])), (m0, .inr (4, [.ref m1, .ref m2, .ref m3, .ref m4, .int 0, .int 0, .int 48, .ref ta, .ref m5, .ref m6, .ref m7])), (m1, .inl (G.2.1 3, 16, .inr (.inr (.inr (.inr (fun _ => none)))))), (m2, .inl (G.2.1 0, 16, .inl (fun _ => 0))), (m3, .inl (G.2.1 0, 16, .inl (fun _ => 0))), (m4, .inl (G.2.1 0, 25, .inl (fun _ => 0))), (m5, .inl (G.2.1 0, 6, .inl (fun _ => 0))), (m6, .inl (G.2.1 0, 160, .inl (fun _ => 0))), (m7, .inr (0, [.int (-1), .int 0])), (s0, .inr (7, [.int (-1), .int 0, .ref i0])), (i0, .inl (G.2.1 0, 40, .inl (fun _ => 0))), (s1, .inr (7, [.int 0, .int 0, .null]))]) 28 s1 (.int 0) (.int 0) .null rfl) rfl rfl (Nat.le_of_ble_eq_true rfl) rfl d_X11_init_132 ?_
  rintro v w ⟨i1, rfl, rfl⟩
  refine z_astR (E0 := RX7) 6 5 28 1 ([(a, .inr (11, [.ref q1, .ref q5, .int 1, .ref n0, .ref m0, .int 0, .ref q22])), u1, u2, u3, u4, (q5, .inl (G.2.1 4, 6, .inr (.inr (.inr (.inr (va_up (fun _ => none) 0 (some ta))))))), (q22, .inl (G.2.1 5, 4, .inr (.inr (.inr (.inr (va_up (va_up (fun _ => none) 0 (some s0)) 1 (some s1))))))), (ta, .inr (9, fs)), t2, t3, (n0, .inr (4, [.ref n1, .ref n2, .ref n3, .ref n4, .int 0, .int 0, .int 48, .ref ta, .ref n5, .ref n6, .ref n7])), (n1, .inl (G.2.1 3, 16, .inr (.inr (.inr (.inr (fun _ => none)))))), (n2, .inl (G.2.1 0, 16, .inl (fun _ => 0))), (n3, .inl (G.2.1 0, 16, .inl (fun _ => 0))), (n4, .inl (G.2.1 0, 25, .inl (fun _ => 0))), (n5, .inl (G.2.1 0, 6, .inl (fun _ => 0))), (n6, .inl (G.2.1 0, 160, .inl (fun _ => 0))), (n7, .inr (0, [.int (-1), .int 0])), (m0, .inr (4, [.ref m1, .ref m2, .ref m3, .ref m4, .int 0, .int 0, .int 48, .ref ta, .ref m5, .ref m6, .ref m7])), (m1, .inl (G.2.1 3, 16, .inr (.inr (.inr (.inr (fun _ => none)))))), (m2, .inl (G.2.1 0, 16, .inl (fun _ => 0))), (m3, .inl (G.2.1 0, 16, .inl (fun _ => 0))), (m4, .inl (G.2.1 0, 25, .inl (fun _ => 0))), (m5, .inl (G.2.1 0, 6, .inl (fun _ => 0))), (m6, .inl (G.2.1 0, 160, .inl (fun _ => 0))), (m7, .inr (0, [.int (-1), .int 0])), (s0, .inr (7, [.int (-1), .int 0, .ref i0])), (i0, .inl (G.2.1 0, 40, .inl (fun _ => 0))), (s1, .inr (7, [.int (-1), .int 0, .ref i1])), (i1, .inl (G.2.1 0, 40, .inl (fun _ => 0)))]) rfl rfl rfl rfl (Or.inl rfl) (by rfl) (by decide) rfl d_X11_init_135 ?_
  refine z_iinc 2 [(2, .int 2), (1, .ref ta), (0, .ref a)] 0 d_X11_init_136 rfl (by rfl) (by decide) rfl ?_
  refine z_goto d_X11_init_139 ?_
  refine z_iload_n d_X11_init_118 0 rfl ?_
  refine z_iconst (v := 4) d_X11_init_119 (by decide) ?_
  refine z_icmp_ge d_X11_init_120 (fun q => ?_) (fun _ => ?_)
  · exact absurd q (by decide)
  refine z_aload_n d_X11_init_123 2 rfl ?_
  refine z_get (v := .ref q22) 0 f_X11_24_11 rfl rfl d_X11_init_124 ?_
  refine z_iload_n d_X11_init_127 0 rfl ?_
  refine z_new (C0 := RX7) (T1 := TX7) (N := 3) (ci := 7) (fs := [.int 0, .int 0, .null]) tyX7 rfl u_X7 tyX7_ok w_0129 w_0436 w_0070 (by decide +kernel) rfl d_X11_init_128 (fun s2 => ?_)
  refine z_dup d_X11_init_131 rfl ?_
  refine z_callI c_X11_67 (t_X7_init G ([(a, .inr (11, [.ref q1, .ref q5, .int 1, .ref n0, .ref m0, .int 0, .ref q22])), u1, u2, u3, u4, (q5, .inl (G.2.1 4, 6, .inr (.inr (.inr (.inr (va_up (fun _ => none) 0 (some ta))))))), (q22, .inl (G.2.1 5, 4, .inr (.inr (.inr (.inr (va_up (va_up (fun _ => none) 0 (some s0)) 1 (some s1))))))), (ta, .inr (9, fs)), t2, t3, (n0, .inr (4, [.ref n1, .ref n2, .ref n3, .ref n4, .int 0, .int 0, .int 48, .ref ta, .ref n5, .ref n6, .ref n7])), (n1, .inl (G.2.1 3, 16, .inr (.inr (.inr (.inr (fun _ => none)))))), (n2, .inl (G.2.1 0, 16, .inl (fun _ => 0))), (n3, .inl (G.2.1 0, 16, .inl (fun _ => 0))), (n4, .inl (G.2.1 0, 25, .inl (fun _ => 0))), (n5, .inl (G.2.1 0, 6, .inl (fun _ => 0))), (n6, .inl (G.2.1 0, 160, .inl (fun _ => 0))), (n7, .inr (0, [.int (-1), .int 0])), (m0, .inr (4, [.ref m1, .ref m2, .ref m3, .ref m4, .int 0, .int 0, .int 48, .ref ta, .ref m5, .ref m6, .ref m7])), (m1, .inl (G.2.1 3, 16, .inr (.inr (.inr (.inr (fun _ => none)))))), (m2, .inl (G.2.1 0, 16, .inl (fun _ => 0))), (m3, .inl (G.2.1 0, 16, .inl (fun _ => 0))), (m4, .inl (G.2.1 0, 25, .inl (fun _ => 0))), (m5, .inl (G.2.1 0, 6, .inl (fun _ => 0))), (m6, .inl (G.2.1 0, 160, .inl (fun _ => 0))), (m7, .inr (0, [.int (-1), .int 0])), (s0, .inr (7, [.int (-1), .int 0, .ref i0])), (i0, .inl (G.2.1 0, 40, .inl (fun _ => 0))), (s1, .inr (7, [.int (-1), .int 0, .ref i1])), (i1, .inl (G.2.1 0, 40, .inl (fun _ => 0))), (s2, .inr (7, [.int 0, .int 0, .null]))]) 30 s2 (.int 0) (.int 0) .null rfl) rfl rfl (Nat.le_of_ble_eq_true rfl) rfl d_X11_init_132 ?_
  rintro v w ⟨i2, rfl, rfl⟩
  refine z_astR (E0 := RX7) 6 5 30 2 ([(a, .inr (11, [.ref q1, .ref q5, .int 1, .ref n0, .ref m0, .int 0, .ref q22])), u1, u2, u3, u4, (q5, .inl (G.2.1 4, 6, .inr (.inr (.inr (.inr (va_up (fun _ => none) 0 (some ta))))))), (q22, .inl (G.2.1 5, 4, .inr (.inr (.inr (.inr (va_up (va_up (va_up (fun _ => none) 0 (some s0)) 1 (some s1)) 2 (some s2))))))), (ta, .inr (9, fs)), t2, t3, (n0, .inr (4, [.ref n1, .ref n2, .ref n3, .ref n4, .int 0, .int 0, .int 48, .ref ta, .ref n5, .ref n6, .ref n7])), (n1, .inl (G.2.1 3, 16, .inr (.inr (.inr (.inr (fun _ => none)))))), (n2, .inl (G.2.1 0, 16, .inl (fun _ => 0))), (n3, .inl (G.2.1 0, 16, .inl (fun _ => 0))), (n4, .inl (G.2.1 0, 25, .inl (fun _ => 0))), (n5, .inl (G.2.1 0, 6, .inl (fun _ => 0))), (n6, .inl (G.2.1 0, 160, .inl (fun _ => 0))), (n7, .inr (0, [.int (-1), .int 0])), (m0, .inr (4, [.ref m1, .ref m2, .ref m3, .ref m4, .int 0, .int 0, .int 48, .ref ta, .ref m5, .ref m6, .ref m7])), (m1, .inl (G.2.1 3, 16, .inr (.inr (.inr (.inr (fun _ => none)))))), (m2, .inl (G.2.1 0, 16, .inl (fun _ => 0))), (m3, .inl (G.2.1 0, 16, .inl (fun _ => 0))), (m4, .inl (G.2.1 0, 25, .inl (fun _ => 0))), (m5, .inl (G.2.1 0, 6, .inl (fun _ => 0))), (m6, .inl (G.2.1 0, 160, .inl (fun _ => 0))), (m7, .inr (0, [.int (-1), .int 0])), (s0, .inr (7, [.int (-1), .int 0, .ref i0])), (i0, .inl (G.2.1 0, 40, .inl (fun _ => 0))), (s1, .inr (7, [.int (-1), .int 0, .ref i1])), (i1, .inl (G.2.1 0, 40, .inl (fun _ => 0))), (s2, .inr (7, [.int (-1), .int 0, .ref i2])), (i2, .inl (G.2.1 0, 40, .inl (fun _ => 0)))]) rfl rfl rfl rfl (Or.inl rfl) (by rfl) (by decide) rfl d_X11_init_135 ?_
  refine z_iinc 3 [(2, .int 3), (1, .ref ta), (0, .ref a)] 0 d_X11_init_136 rfl (by rfl) (by decide) rfl ?_
  refine z_goto d_X11_init_139 ?_
  refine z_iload_n d_X11_init_118 0 rfl ?_
  refine z_iconst (v := 4) d_X11_init_119 (by decide) ?_
  refine z_icmp_ge d_X11_init_120 (fun q => ?_) (fun _ => ?_)
  · exact absurd q (by decide)
  refine z_aload_n d_X11_init_123 2 rfl ?_
  refine z_get (v := .ref q22) 0 f_X11_24_11 rfl rfl d_X11_init_124 ?_
  refine z_iload_n d_X11_init_127 0 rfl ?_
  refine z_new (C0 := RX7) (T1 := TX7) (N := 3) (ci := 7) (fs := [.int 0, .int 0, .null]) tyX7 rfl u_X7 tyX7_ok w_0129 w_0436 w_0070 (by decide +kernel) rfl d_X11_init_128 (fun s3 => ?_)
  refine z_dup d_X11_init_131 rfl ?_
  refine z_callI c_X11_67 (t_X7_init G ([(a, .inr (11, [.ref q1, .ref q5, .int 1, .ref n0, .ref m0, .int 0, .ref q22])), u1, u2, u3, u4, (q5, .inl (G.2.1 4, 6, .inr (.inr (.inr (.inr (va_up (fun _ => none) 0 (some ta))))))), (q22, .inl (G.2.1 5, 4, .inr (.inr (.inr (.inr (va_up (va_up (va_up (fun _ => none) 0 (some s0)) 1 (some s1)) 2 (some s2))))))), (ta, .inr (9, fs)), t2, t3, (n0, .inr (4, [.ref n1, .ref n2, .ref n3, .ref n4, .int 0, .int 0, .int 48, .ref ta, .ref n5, .ref n6, .ref n7])), (n1, .inl (G.2.1 3, 16, .inr (.inr (.inr (.inr (fun _ => none)))))), (n2, .inl (G.2.1 0, 16, .inl (fun _ => 0))), (n3, .inl (G.2.1 0, 16, .inl (fun _ => 0))), (n4, .inl (G.2.1 0, 25, .inl (fun _ => 0))), (n5, .inl (G.2.1 0, 6, .inl (fun _ => 0))), (n6, .inl (G.2.1 0, 160, .inl (fun _ => 0))), (n7, .inr (0, [.int (-1), .int 0])), (m0, .inr (4, [.ref m1, .ref m2, .ref m3, .ref m4, .int 0, .int 0, .int 48, .ref ta, .ref m5, .ref m6, .ref m7])), (m1, .inl (G.2.1 3, 16, .inr (.inr (.inr (.inr (fun _ => none)))))), (m2, .inl (G.2.1 0, 16, .inl (fun _ => 0))), (m3, .inl (G.2.1 0, 16, .inl (fun _ => 0))), (m4, .inl (G.2.1 0, 25, .inl (fun _ => 0))), (m5, .inl (G.2.1 0, 6, .inl (fun _ => 0))), (m6, .inl (G.2.1 0, 160, .inl (fun _ => 0))), (m7, .inr (0, [.int (-1), .int 0])), (s0, .inr (7, [.int (-1), .int 0, .ref i0])), (i0, .inl (G.2.1 0, 40, .inl (fun _ => 0))), (s1, .inr (7, [.int (-1), .int 0, .ref i1])), (i1, .inl (G.2.1 0, 40, .inl (fun _ => 0))), (s2, .inr (7, [.int (-1), .int 0, .ref i2])), (i2, .inl (G.2.1 0, 40, .inl (fun _ => 0))), (s3, .inr (7, [.int 0, .int 0, .null]))]) 32 s3 (.int 0) (.int 0) .null rfl) rfl rfl (Nat.le_of_ble_eq_true rfl) rfl d_X11_init_132 ?_
  rintro v w ⟨i3, rfl, rfl⟩
  refine z_astR (E0 := RX7) 6 5 32 3 ([(a, .inr (11, [.ref q1, .ref q5, .int 1, .ref n0, .ref m0, .int 0, .ref q22])), u1, u2, u3, u4, (q5, .inl (G.2.1 4, 6, .inr (.inr (.inr (.inr (va_up (fun _ => none) 0 (some ta))))))), (q22, .inl (G.2.1 5, 4, .inr (.inr (.inr (.inr (va_up (va_up (va_up (va_up (fun _ => none) 0 (some s0)) 1 (some s1)) 2 (some s2)) 3 (some s3))))))), (ta, .inr (9, fs)), t2, t3, (n0, .inr (4, [.ref n1, .ref n2, .ref n3, .ref n4, .int 0, .int 0, .int 48, .ref ta, .ref n5, .ref n6, .ref n7])), (n1, .inl (G.2.1 3, 16, .inr (.inr (.inr (.inr (fun _ => none)))))), (n2, .inl (G.2.1 0, 16, .inl (fun _ => 0))), (n3, .inl (G.2.1 0, 16, .inl (fun _ => 0))), (n4, .inl (G.2.1 0, 25, .inl (fun _ => 0))), (n5, .inl (G.2.1 0, 6, .inl (fun _ => 0))), (n6, .inl (G.2.1 0, 160, .inl (fun _ => 0))), (n7, .inr (0, [.int (-1), .int 0])), (m0, .inr (4, [.ref m1, .ref m2, .ref m3, .ref m4, .int 0, .int 0, .int 48, .ref ta, .ref m5, .ref m6, .ref m7])), (m1, .inl (G.2.1 3, 16, .inr (.inr (.inr (.inr (fun _ => none)))))), (m2, .inl (G.2.1 0, 16, .inl (fun _ => 0))), (m3, .inl (G.2.1 0, 16, .inl (fun _ => 0))), (m4, .inl (G.2.1 0, 25, .inl (fun _ => 0))), (m5, .inl (G.2.1 0, 6, .inl (fun _ => 0))), (m6, .inl (G.2.1 0, 160, .inl (fun _ => 0))), (m7, .inr (0, [.int (-1), .int 0])), (s0, .inr (7, [.int (-1), .int 0, .ref i0])), (i0, .inl (G.2.1 0, 40, .inl (fun _ => 0))), (s1, .inr (7, [.int (-1), .int 0, .ref i1])), (i1, .inl (G.2.1 0, 40, .inl (fun _ => 0))), (s2, .inr (7, [.int (-1), .int 0, .ref i2])), (i2, .inl (G.2.1 0, 40, .inl (fun _ => 0))), (s3, .inr (7, [.int (-1), .int 0, .ref i3])), (i3, .inl (G.2.1 0, 40, .inl (fun _ => 0)))]) rfl rfl rfl rfl (Or.inl rfl) (by rfl) (by decide) rfl d_X11_init_135 ?_
  refine z_iinc 4 [(2, .int 4), (1, .ref ta), (0, .ref a)] 0 d_X11_init_136 rfl (by rfl) (by decide) rfl ?_
  refine z_goto d_X11_init_139 ?_
  refine z_iload_n d_X11_init_118 0 rfl ?_
  refine z_iconst (v := 4) d_X11_init_119 (by decide) ?_
  refine z_icmp_ge d_X11_init_120 (fun _ => ?_) (fun q => ?_)
  rotate_left
  · exact absurd q (by decide)
  exact hk _ _ _ _ _ _ _ _ _ _ _ _ _ _ _ _ _ _ _ _ _ _ _ _
theorem arr_c {c : ClassId} {n : Nat} {f g : Nat → Value} (h : ∀ j, j < n → f j = g j) : arrV c n f = arrV c n g := by
  unfold arrV
  have e : (fun j : Fin n => f j.val) = fun j : Fin n => g j.val := funext fun j => h j.val j.isLt
  rw [e]
theorem z_refun {G : GT} {μ : Mu} {R : Room} {O : OT} {cs ss pc : Nat} {lv : List (Nat × Value)} {st : List Value} {ws : va_W} {a n : Nat} {c0 : ClassId} {f g : Nat → Option Nat} (i : Nat) (ws' : va_W) (he : ws[i]? = some (a, .inl (c0, n, .inr (.inr (.inr (.inr f)))))) (hfg : ∀ j, j < n → f j = g j) (hw : ws.set i (a, .inl (c0, n, .inr (.inr (.inr (.inr g))))) = ws') (k : Tr G μ R O cs ss pc lv st ws') : Tr G μ R O cs ss pc lv st ws := fun p l ev s m args below meth c A H locs ls C hl hP hD hS => by
  subst hw
  refine k p l ev s m args below meth c A H locs ls C hl (hP.set hD he ?_ (fun _ _ => rfl)) (hD.set he) hS
  have h1 := hP i _ he
  show H[a]? = some (arrV c0 n (fun j => va_rf (g j)))
  rw [arr_c (f := fun j => va_rf (g j)) (g := fun j => va_rf (f j)) (fun j hj => by rw [hfg j hj])]
  exact h1
def nX (k : Nat) : Int32 := [0, 1, 0, 0, 48, 0, 0, 0, 48, 0, -1, 0, -1, 0, -1, 0, -1, 0].getD k 0
def rX (t : Nat → Int32) (k : Nat) : Nat → Int32 := if k = 0 then t else fun _ => 0
def kX (ta : Nat) (k : Nat) : Nat → Option Nat := if k = 2 then va_up (fun _ => none) 0 (some ta) else fun _ => none
def sX (S : Nat → Int32) (k : Nat) : Int32 := if k < 6 then S k else if k = 6 ∨ k = 8 then -1 else 0
def tX (T : Nat → Nat → Int32) (k : Nat) : Nat → Int32 := if k < 2 then T k else fun _ => 0
theorem x_start {G : GT} {ta : Nat} {t : Nat → Int32} {tl : va_W} (h : TxR G cd0 0 ta tl) : XRel G I0 A0 nX (rX t) (kX ta) (fun _ => ta) tl := by
  refine ⟨1, ⟨rfl, rfl, rfl, fun i _ _ => f_bt i, fun s hs => ⟨rfl, rfl, fun _ => rfl, fun hb => absurd hb (by rw [show I0 12 = 0 from rfl, f_bt]; decide)⟩, fun c hc => f_at c hc⟩, ⟨by decide, by decide, rfl, rfl, fun t0 ht => ?_⟩, ⟨0, by decide, rfl, rfl⟩, ⟨0, by decide, rfl, rfl, fun i hi => absurd hi (by omega)⟩, Or.inl ⟨rfl, rfl⟩, fun j hj => Or.inl ?_⟩
  · have e : t0 = 0 := by omega
    subst e
    exact ⟨ta, cd0, rfl, f_ok, h⟩
  · rcases (show j = 0 ∨ j = 1 ∨ j = 2 ∨ j = 3 by omega) with rfl | rfl | rfl | rfl <;> exact ⟨rfl, rfl⟩
def EX (G : GT) (a : Nat) : Option Value → va_W → Prop := (fun v w => ∃ (x : Nat → Nat) (N : Nat → Int32) (R : Nat → Nat → Int32) (K : Nat → Nat → Option Nat) (r : Nat → Nat) (S : Nat → Int32) (T : Nat → Nat → Int32) (tl : va_W), v = none ∧ x 0 = a ∧ w = XW G x N R K r S T tl ∧ XRel G I0 A0 N R K r tl)
set_option maxHeartbeats 8000000 in
set_option maxRecDepth 100000 in
theorem s_X11_init0 (G : GT) (a q1 q2 q3 q4 q5 q22 : Nat) (N : Nat → Int32) (R : Nat → Nat → Int32) (h0 : N 0 = nI 51) (hT : Tp (chS 0) 51 (R 0)) : Tr G mX11_init (Rm 47 33 1185) (OM G (EX G a) 33 1185) 6 343 63 [(0, .ref ((xL [a, q1, q2, q3, q4, q5, 0, 0, 0, 0, 0, 0, 0, 0, 0, 0, 0, 0, 0, 0, 0, 0, q22]) 0))] [] (YW G (xL [a, q1, q2, q3, q4, q5, 0, 0, 0, 0, 0, 0, 0, 0, 0, 0, 0, 0, 0, 0, 0, 0, q22]) N R (fun _ _ => none) (fun _ => 0) (fun _ => 0) (fun _ _ => 0) [(q5, .inl (G.2.1 4, 6, .inr (.inr (.inr (.inr (fun _ => none)))))), (q22, .inl (G.2.1 5, 4, .inr (.inr (.inr (.inr (fun _ => none))))))]) := by
  refine z_aload_n d_X11_init_63 0 rfl ?_
  refine z_get (v := .ref ((xL [a, q1, q2, q3, q4, q5, 0, 0, 0, 0, 0, 0, 0, 0, 0, 0, 0, 0, 0, 0, 0, 0, q22]) 1)) 0 f_X11_10_11 rfl rfl d_X11_init_64 ?_
  refine z_callV 1 c_X11_44 rfl rfl (y9_t_X6_readTape G (xL [a, q1, q2, q3, q4, q5, 0, 0, 0, 0, 0, 0, 0, 0, 0, 0, 0, 0, 0, 0, 0, 0, q22]) N R (fun _ _ => none) (fun _ => 0) (fun _ => 0) (fun _ _ => 0) [(q5, .inl (G.2.1 4, 6, .inr (.inr (.inr (.inr (fun _ => none)))))), (q22, .inl (G.2.1 5, 4, .inr (.inr (.inr (.inr (fun _ => none))))))] (chS 0) 51 (by decide) h0 hT) rfl rfl (Nat.le_of_ble_eq_true rfl) rfl d_X11_init_67 ?_
  rintro v w ⟨S2, T2, rfl, hR⟩
  rw [f_txt] at hR
  obtain ⟨rfl, hd⟩ := hR
  refine z_pop d_X11_init_70 rfl ?_
  refine z_aload_n d_X11_init_71 0 rfl ?_
  refine z_get (v := .ref ((xL [a, q1, q2, q3, q4, q5, 0, 0, 0, 0, 0, 0, 0, 0, 0, 0, 0, 0, 0, 0, 0, 0, q22]) 1)) 0 f_X11_10_11 rfl rfl d_X11_init_72 ?_
  refine z_iconst (v := 0) d_X11_init_75 (by decide) ?_
  refine z_callV 1 c_X11_47 rfl rfl (y9_made2 G (xL [a, q1, q2, q3, q4, q5, 0, 0, 0, 0, 0, 0, 0, 0, 0, 0, 0, 0, 0, 0, 0, 0, q22]) (upd N 0 0) R (fun _ _ => none) (fun _ => 0) S2 T2 [(q5, .inl (G.2.1 4, 6, .inr (.inr (.inr (.inr (fun _ => none)))))), (q22, .inl (G.2.1 5, 4, .inr (.inr (.inr (.inr (fun _ => none))))))] cd0 0 hd) rfl rfl (Nat.le_of_ble_eq_true rfl) rfl d_X11_init_76 ?_
  rintro v w ⟨ta, tc, te, g, rfl, rfl, hx⟩
  refine z_astore_n [(1, .ref ta), (0, .ref a)] d_X11_init_79 (by decide) rfl ?_
  refine z_aload_n d_X11_init_80 1 rfl ?_
  refine z_get (v := .ref q5) 0 f_X11_18_11 rfl rfl d_X11_init_81 ?_
  refine z_iconst (v := 0) d_X11_init_84 (by decide) ?_
  refine z_aload_n d_X11_init_85 0 rfl ?_
  refine z_astR (E0 := RX9) 5 4 7 0 ([(a, .inr (11, [.ref q1, .ref q5, .int 0, .null, .null, .int 0, .ref q22])), (q1, .inr (6, XF1 (xL [a, q1, q2, q3, q4, q5, 0, 0, 0, 0, 0, 0, 0, 0, 0, 0, 0, 0, 0, 0, 0, 0, q22]) (upd N 0 0) (fun _ => 0) S2)), (q2, .inl (G.2.1 1, 160, .inl (R 0))), (q3, .inl (G.2.1 0, 160, .inl (T2 0))), (q4, .inl (G.2.1 0, 3, .inl (T2 1))), (q5, .inl (G.2.1 4, 6, .inr (.inr (.inr (.inr (va_up (fun _ => none) 0 (some ta))))))), (q22, .inl (G.2.1 5, 4, .inr (.inr (.inr (.inr (fun _ => none)))))), (ta, .inr (9, [.int 0, .ref tc, .ref te])), (tc, .inl (G.2.1 0, (cd0.1 ++ cd0.2.1 ++ cd0.2.2).length, .inl g)), (te, .inl (G.2.1 0, 3, .inl (T2 1)))]) rfl rfl rfl rfl (Or.inl rfl) rfl (by decide) rfl d_X11_init_86 ?_
  refine s_X11_init G a q1 q5 q22 ta (q1, .inr (6, XF1 (xL [a, q1, q2, q3, q4, q5, 0, 0, 0, 0, 0, 0, 0, 0, 0, 0, 0, 0, 0, 0, 0, 0, q22]) (upd N 0 0) (fun _ => 0) S2)) (q2, .inl (G.2.1 1, 160, .inl (R 0))) (q3, .inl (G.2.1 0, 160, .inl (T2 0))) (q4, .inl (G.2.1 0, 3, .inl (T2 1))) (tc, .inl (G.2.1 0, (cd0.1 ++ cd0.2.1 ++ cd0.2.2).length, .inl g)) (te, .inl (G.2.1 0, 3, .inl (T2 1))) [.int 0, .ref tc, .ref te] (EX G a) (fun n0 n1 n2 n3 n4 n5 n6 n7 m0 m1 m2 m3 m4 m5 m6 m7 s0 s1 s2 s3 i0 i1 i2 i3 => ?_)
  refine z_refun (g := fun j => some (xL [a, q1, q2, q3, q4, q5, n0, n1, n2, n3, n4, n5, n6, n7, m0, m1, m2, m3, m4, m5, m6, m7, q22, s0, i0, s1, i1, s2, i2, s3, i3] (23 + 2 * j))) 6 ([(a, .inr (11, [.ref q1, .ref q5, .int 1, .ref n0, .ref m0, .int 0, .ref q22])), (q1, .inr (6, XF1 (xL [a, q1, q2, q3, q4, q5, 0, 0, 0, 0, 0, 0, 0, 0, 0, 0, 0, 0, 0, 0, 0, 0, q22]) (upd N 0 0) (fun _ => 0) S2)), (q2, .inl (G.2.1 1, 160, .inl (R 0))), (q3, .inl (G.2.1 0, 160, .inl (T2 0))), (q4, .inl (G.2.1 0, 3, .inl (T2 1))), (q5, .inl (G.2.1 4, 6, .inr (.inr (.inr (.inr (va_up (fun _ => none) 0 (some ta))))))), (q22, .inl (G.2.1 5, 4, .inr (.inr (.inr (.inr (fun j => some (xL [a, q1, q2, q3, q4, q5, n0, n1, n2, n3, n4, n5, n6, n7, m0, m1, m2, m3, m4, m5, m6, m7, q22, s0, i0, s1, i1, s2, i2, s3, i3] (23 + 2 * j)))))))), (ta, .inr (9, [.int 0, .ref tc, .ref te])), (tc, .inl (G.2.1 0, (cd0.1 ++ cd0.2.1 ++ cd0.2.2).length, .inl g)), (te, .inl (G.2.1 0, 3, .inl (T2 1))), (n0, .inr (4, [.ref n1, .ref n2, .ref n3, .ref n4, .int 0, .int 0, .int 48, .ref ta, .ref n5, .ref n6, .ref n7])), (n1, .inl (G.2.1 3, 16, .inr (.inr (.inr (.inr (fun _ => none)))))), (n2, .inl (G.2.1 0, 16, .inl (fun _ => 0))), (n3, .inl (G.2.1 0, 16, .inl (fun _ => 0))), (n4, .inl (G.2.1 0, 25, .inl (fun _ => 0))), (n5, .inl (G.2.1 0, 6, .inl (fun _ => 0))), (n6, .inl (G.2.1 0, 160, .inl (fun _ => 0))), (n7, .inr (0, [.int (-1), .int 0])), (m0, .inr (4, [.ref m1, .ref m2, .ref m3, .ref m4, .int 0, .int 0, .int 48, .ref ta, .ref m5, .ref m6, .ref m7])), (m1, .inl (G.2.1 3, 16, .inr (.inr (.inr (.inr (fun _ => none)))))), (m2, .inl (G.2.1 0, 16, .inl (fun _ => 0))), (m3, .inl (G.2.1 0, 16, .inl (fun _ => 0))), (m4, .inl (G.2.1 0, 25, .inl (fun _ => 0))), (m5, .inl (G.2.1 0, 6, .inl (fun _ => 0))), (m6, .inl (G.2.1 0, 160, .inl (fun _ => 0))), (m7, .inr (0, [.int (-1), .int 0])), (s0, .inr (7, [.int (-1), .int 0, .ref i0])), (i0, .inl (G.2.1 0, 40, .inl (fun _ => 0))), (s1, .inr (7, [.int (-1), .int 0, .ref i1])), (i1, .inl (G.2.1 0, 40, .inl (fun _ => 0))), (s2, .inr (7, [.int (-1), .int 0, .ref i2])), (i2, .inl (G.2.1 0, 40, .inl (fun _ => 0))), (s3, .inr (7, [.int (-1), .int 0, .ref i3])), (i3, .inl (G.2.1 0, 40, .inl (fun _ => 0)))]) rfl (fun j hj => by rcases (show j = 0 ∨ j = 1 ∨ j = 2 ∨ j = 3 by omega) with rfl | rfl | rfl | rfl <;> rfl) rfl ?_
  refine z_world (ws' := XW G (xL [a, q1, q2, q3, q4, q5, n0, n1, n2, n3, n4, n5, n6, n7, m0, m1, m2, m3, m4, m5, m6, m7, q22, s0, i0, s1, i1, s2, i2, s3, i3]) nX (rX (R 0)) (kX ta) (fun _ => ta) (sX S2) (tX T2) [(ta, .inr (9, [.int 0, .ref tc, .ref te])), (tc, .inl (G.2.1 0, (cd0.1 ++ cd0.2.1 ++ cd0.2.2).length, .inl g)), (te, .inl (G.2.1 0, 3, .inl (T2 1)))]) [0, 1, 2, 3, 4, 5, 10, 11, 12, 13, 14, 15, 16, 17, 18, 19, 20, 21, 22, 23, 24, 25, 6, 26, 27, 28, 29, 30, 31, 32, 33, 7, 8, 9] rfl rfl ?_
  exact z_vret _ d_X11_init_142 rfl ⟨_, _, _, _, _, _, _, _, rfl, rfl, rfl, x_start hx⟩
set_option maxHeartbeats 8000000 in
set_option maxRecDepth 100000 in
theorem t_X11_init (G : GT) (a : Nat) : Ct G mX11_init 47 33 1185 [.ref a] [(a, .inr (11, [.null, .null, .int 0, .null, .null, .int 0, .null]))] (EX G a) := by
  refine Ct.intro [(0, .ref a)] (by decide) rfl (Nat.le_of_ble_eq_true rfl) ?_
  refine z_aload_n d_X11_init_0 0 rfl ?_
  refine z_objInit w_0084 rfl d_X11_init_1 ?_
  refine z_aload_n d_X11_init_4 0 rfl ?_
  refine z_new (C0 := RX6) (T1 := TX6) (N := 10) (ci := 6) (fs := [.int 0, .null, .int 0, .int 0, .int 0, .int 0, .int 0, .null, .int 0, .null]) tyX6 rfl u_X6 tyX6_ok w_0087 w_0088 w_0058 (by decide +kernel) rfl d_X11_init_5 (fun q1 => ?_)
  refine z_dup d_X11_init_8 rfl ?_
  refine z_callI c_X11_9 (t_X6_init G [(a, .inr (11, [.null, .null, .int 0, .null, .null, .int 0, .null]))] q1) rfl rfl (Nat.le_of_ble_eq_true rfl) rfl d_X11_init_9 ?_
  rintro v w ⟨q2, q3, q4, rfl, rfl⟩
  refine z_putF 0 ([(a, .inr (11, [.ref q1, .null, .int 0, .null, .null, .int 0, .null])), (q1, .inr (6, [.int 0, .ref q2, .int 0, .int 0, .int 0, .int 0, .int 0, .ref q3, .int 0, .ref q4])), (q2, .inl (G.2.1 1, 160, .inl (fun _ => 0))), (q3, .inl (G.2.1 0, 160, .inl (fun _ => 0))), (q4, .inl (G.2.1 0, 3, .inl (fun _ => 0)))]) p_X11_10_11 rfl rfl rfl rfl (Nat.le_of_ble_eq_true rfl) rfl d_X11_init_12 ?_
  refine z_aload_n d_X11_init_15 0 rfl ?_
  refine z_bipush (v := 6) d_X11_init_16 (by decide) ?_
  refine z_newq (C0 := RX9) 4 6 rfl (List.mem_cons_of_mem _ (List.mem_cons_self ..)) w_0127 rfl (by decide) rfl d_X11_init_18 (fun q5 => ?_)
  refine z_putF 0 ([(a, .inr (11, [.ref q1, .ref q5, .int 0, .null, .null, .int 0, .null])), (q1, .inr (6, [.int 0, .ref q2, .int 0, .int 0, .int 0, .int 0, .int 0, .ref q3, .int 0, .ref q4])), (q2, .inl (G.2.1 1, 160, .inl (fun _ => 0))), (q3, .inl (G.2.1 0, 160, .inl (fun _ => 0))), (q4, .inl (G.2.1 0, 3, .inl (fun _ => 0))), (q5, .inl (G.2.1 4, 6, .inr (.inr (.inr (.inr (fun _ => none))))))]) p_X11_18_11 rfl rfl rfl rfl (Nat.le_of_ble_eq_true rfl) rfl d_X11_init_21 ?_
  refine z_aload_n d_X11_init_24 0 rfl ?_
  refine z_iconst (v := 4) d_X11_init_25 (by decide) ?_
  refine z_newq (C0 := RX7) 5 4 rfl (List.mem_cons_of_mem _ (List.mem_cons_of_mem _ (List.mem_cons_self ..))) w_0129 rfl (by decide) rfl d_X11_init_26 (fun q22 => ?_)
  refine z_putF 0 ([(a, .inr (11, [.ref q1, .ref q5, .int 0, .null, .null, .int 0, .ref q22])), (q1, .inr (6, [.int 0, .ref q2, .int 0, .int 0, .int 0, .int 0, .int 0, .ref q3, .int 0, .ref q4])), (q2, .inl (G.2.1 1, 160, .inl (fun _ => 0))), (q3, .inl (G.2.1 0, 160, .inl (fun _ => 0))), (q4, .inl (G.2.1 0, 3, .inl (fun _ => 0))), (q5, .inl (G.2.1 4, 6, .inr (.inr (.inr (.inr (fun _ => none)))))), (q22, .inl (G.2.1 5, 4, .inr (.inr (.inr (.inr (fun _ => none))))))]) p_X11_24_11 rfl rfl rfl rfl (Nat.le_of_ble_eq_true rfl) rfl d_X11_init_29 ?_
  refine z_iconst (v := nI 0) d_X11_init_32 (by decide) ?_
  refine z_istore_n [(1, .int (nI 0)), (0, .ref a)] d_X11_init_33 (by decide) rfl ?_
  exact l_X11_init G (xL [a, q1, q2, q3, q4, q5, 0, 0, 0, 0, 0, 0, 0, 0, 0, 0, 0, 0, 0, 0, 0, 0, q22]) (fun _ _ => none) (fun _ => 0) (fun _ => 0) (fun _ _ => 0) [(q5, .inl (G.2.1 4, 6, .inr (.inr (.inr (.inr (fun _ => none)))))), (q22, .inl (G.2.1 5, 4, .inr (.inr (.inr (.inr (fun _ => none))))))] (EX G a) (fun N R h0 hT => s_X11_init0 G a q1 q2 q3 q4 q5 q22 N R h0 hT) 52 0 (fun _ => 0) (fun _ _ => 0) (by decide) (by decide) rfl (fun i hi => absurd hi (by omega))
