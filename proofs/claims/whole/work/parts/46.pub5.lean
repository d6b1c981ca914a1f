/-! THE PUBLIC METHODS of class X: feed, text -/
theorem vf_upd_upd (A : Nat → Nat → Int32) (k : Nat) (f g : Nat → Int32) : vf_upd (vf_upd A k f) k g = vf_upd A k g := by
  funext j; unfold vf_upd
  by_cases h : j = k
  · rw [if_pos h, if_pos h]
  · rw [if_neg h, if_neg h, if_neg h]
theorem nar_b (y : Int32) : vp_nar .byte (y.toInt8.toInt32) = y.toInt8.toInt32 := by
  show (y.toInt8.toInt32).toInt8.toInt32 = _
  rw [Int8.toInt8_toInt32]
section
variable {G : GT} {I : Nat → Int32} {A : Nat → Nat → Int32} {N : Nat → Int32} {R : Nat → Nat → Int32} {K : Nat → Nat → Option Nat} {r : Nat → Nat} {tl : va_W}
theorem XRel.feed (hx : XRel G I A N R K r tl) {k : Nat} (h6 : I 6 = nI k) (hk : k < 160) {c v : Int32} (hv : vp_nar .byte v = sb c) (hc : bOk c) : XRel G (upd I 6 (nI (k + 1))) (vf_upd A 5 (upd (A 5) k c)) (upd N 0 (nI (k + 1))) (vf_upd R 0 (upd (R 0) k (vp_nar .byte v))) K r tl := by
  obtain ⟨m, h1, ⟨t1, t2, t3, t4, t5⟩, h3, ⟨k', k1, k2, k3, k4⟩, h5, g6⟩ := hx
  have e : k' = k := by rw [h6, nI_eq (by omega) (by omega)] at k2; exact k2.symm
  subst e
  refine ⟨m, h1.cong rfl rfl rfl (fun _ _ => ⟨rfl, rfl, rfl, rfl, rfl⟩), ⟨t1, t2, t3, t4, fun t ht => ?_⟩, h3, ⟨k' + 1, by omega, rfl, rfl, fun i hi => ?_⟩, ?_, ?_⟩
  · obtain ⟨a, cd, e1, e2, e3⟩ := t5 t ht
    exact ⟨a, cd, e1, e2.cong rfl (fun _ _ => rfl) (fun _ _ h => h), e3⟩
  · show upd (R 0) k' (vp_nar .byte v) i = sb (upd (A 5) k' c i) ∧ bOk (upd (A 5) k' c i)
    unfold upd
    by_cases h : i = k'
    · rw [if_pos h, if_pos h]; exact ⟨hv, hc⟩
    · rw [if_neg h, if_neg h]; exact k4 i (by omega)
  · rcases h5 with q | ⟨q1, q2, q3, q4⟩
    · exact Or.inl q
    · exact Or.inr ⟨q1, q2, q3.cong rfl rfl rfl (fun _ _ => ⟨rfl, rfl, rfl, rfl, rfl⟩), q4⟩
  · intro j hj
    have := g6 j hj
    rcases (show j = 0 ∨ j = 1 ∨ j = 2 ∨ j = 3 by omega) with rfl | rfl | rfl | rfl <;> exact this
theorem XRel.rd (hx : XRel G I A N R K r tl) {k : Nat} (h6 : I 6 = nI k) (hk : k ≤ 160) : N 0 = nI k ∧ Tp (A 5) k (R 0) := by
  obtain ⟨m, h1, h2, h3, ⟨k', k1, k2, k3, k4⟩, h5⟩ := hx
  have e : k' = k := by rw [h6, nI_eq (by omega) (by omega)] at k2; exact k2.symm
  subst e
  exact ⟨k3, k4⟩
end
set_option maxHeartbeats 4000000 in
set_option maxRecDepth 100000 in
theorem lp_feed (G : GT) (x : Nat → Nat) (K : Nat → Nat → Option Nat) (r : Nat → Nat) (S : Nat → Int32) (T : Nat → Nat → Int32) (tl : va_W) (I : Nat → Int32) (A : Nat → Nat → Int32) (m q : Nat) (bytes : Int64) (hmq : m + q ≤ 160) (hq8 : q ≤ 8) : ∀ (n : Nat) (i : Nat) (N : Nat → Int32) (R : Nat → Nat → Int32) (hx : XRel G (upd I 6 (nI (m + i))) (vf_upd A 5 (itL (fdF m bytes) (A 5) i)) N R K r tl) (hi : i ≤ q) (hm : q < i + n), Tr G mX11_feed (Rm 1 0 0) (OM G (XP G x (some (.int (nI (m + q)))) (upd I 6 (nI (m + q))) (vf_upd A 5 (itL (fdF m bytes) (A 5) q))) 0 0) 0 0 35 [(4, .int (nI i)), (0, .ref (x 0)), (1, .int (nI q)), (2, .long bytes)] [] (XW G x N R K r S T tl) := by
  intro n
  induction n with
  | zero =>
    intro i N R hx hi hm
    exact absurd hm (by omega)
  | succ n ih =>
    intro i N R hx hi hm
    refine z_iload d_X11_feed_35 0 rfl ?_
    refine z_iload_n d_X11_feed_37 2 rfl ?_
    refine z_icmp_ge d_X11_feed_38 (fun c_38 => ?_) (fun c_38 => ?_)
    · have e9 : i = q := by have := ge_nI (by omega) (by omega) c_38; omega
      refine z_aload_n d_X11_feed_63 1 rfl ?_
      refine z_get (v := .ref (x 1)) (0) f_X11_10_11 rfl rfl d_X11_feed_64 ?_
      refine z_get (v := .int (N 0)) (1) f_X11_155_6 rfl rfl d_X11_feed_67 ?_
      refine z_top ((hx.rd rfl (by omega)).1.trans (by rw [e9])) ?_
      exact z_iret _ d_X11_feed_70 rfl (XP.of rfl (by have := ge_nI (by omega) (by omega) c_38; rw [show i = q by omega] at hx; exact hx))
    · have h9 : i < q := lt_nI (by omega) (by omega) c_38
      refine z_aload_n d_X11_feed_41 1 rfl ?_
      refine z_get (v := .ref (x 1)) (0) f_X11_10_11 rfl rfl d_X11_feed_42 ?_
      refine z_lload_n d_X11_feed_45 3 rfl ?_
      refine z_bipush (v := 8) d_X11_feed_46 (by decide) ?_
      refine z_iload d_X11_feed_48 0 rfl ?_
      refine z_imul d_X11_feed_50 ?_
      refine z_lshr d_X11_feed_51 ?_
      refine z_l2i d_X11_feed_52 ?_
      refine z_i2b d_X11_feed_53 ?_
      refine z_callVv 1 c_X11_40 (t_X6_append G x N R K r S T tl (m + i) (((bytes >>> ((8 * (nI i)).toInt64 &&& 63)).toInt32).toInt8.toInt32) (by omega) (hx.rd rfl (by omega)).1) rfl rfl rfl rfl (Nat.le_of_ble_eq_true rfl) rfl d_X11_feed_54 ?_
      refine z_iinc (nI (i + 1)) [(4, .int (nI (i + 1))), (0, .ref (x 0)), (1, .int (nI q)), (2, .long bytes)] 0 d_X11_feed_57 rfl (nI_1 _) (by decide) rfl ?_
      refine z_goto d_X11_feed_60 ?_
      have h8 := hx.feed rfl (by omega) (v := (((bytes >>> ((8 * (nI i)).toInt64 &&& 63)).toInt32).toInt8.toInt32)) (c := fdB bytes i) (by rw [nar_b]; exact (fd_b bytes i).1) (fd_b bytes i).2
      rw [upd_upd, vf_upd_upd] at h8
      exact ih (i + 1) _ _ h8 (by omega) (by omega)
set_option maxHeartbeats 4000000 in
set_option maxRecDepth 100000 in
theorem t_X11_feed (G : GT) (x : Nat → Nat) (N : Nat → Int32) (R : Nat → Nat → Int32) (K : Nat → Nat → Option Nat) (r : Nat → Nat) (S : Nat → Int32) (T : Nat → Nat → Int32) (tl : va_W) (I : Nat → Int32) (A : Nat → Nat → Int32) (hx : XRel G I A N R K r tl) (n0 : Int32) (bytes : Int64)  : Ct G mX11_feed 1 0 0 [.ref (x 0), .int n0, .long bytes] (XW G x N R K r S T tl) (XP G x (some (.int (feeR I n0))) (feeI I n0) (feeA I A n0 bytes)) := by
  obtain ⟨m, hm6, h6⟩ : ∃ m : Nat, m ≤ 160 ∧ I 6 = nI m := by obtain ⟨-, -, -, -, ⟨k, k1, k2, -⟩, -⟩ := id hx; exact ⟨k, k1, k2⟩
  have k0 := (hx.rd h6 hm6).1
  refine Ct.intro [(0, .ref (x 0)), (1, .int n0), (2, .long bytes)] (by decide) rfl (Nat.le_of_ble_eq_true rfl) ?_
  refine z_iload_n d_X11_feed_0 1 rfl ?_
  refine z_iconst (v := 1) d_X11_feed_1 (by decide) ?_
  refine z_icmp_lt d_X11_feed_2 (fun c_2 => ?_) (fun c_2 => ?_)
  · refine z_bipush (v := -2) d_X11_feed_11 (by decide) ?_
    exact z_iret _ d_X11_feed_13 rfl (XP.of (by rw [feeR, feeX, if_neg (show ¬ inB n0 1 8 = true by rw [inB_iff]; simp only [lt_i, i_1, l_8] at c_2; omega)]) (by rw [feeI, feeA, feeX, feeX, if_neg (show ¬ inB n0 1 8 = true by rw [inB_iff]; simp only [lt_i, i_1, l_8] at c_2; omega), if_neg (show ¬ inB n0 1 8 = true by rw [inB_iff]; simp only [lt_i, i_1, l_8] at c_2; omega)]; exact hx))
  · refine z_iload_n d_X11_feed_5 1 rfl ?_
    refine z_bipush (v := 8) d_X11_feed_6 (by decide) ?_
    refine z_icmp_le d_X11_feed_8 (fun c_8 => ?_) (fun c_8 => ?_)
    · refine z_aload_n d_X11_feed_14 0 rfl ?_
      refine z_get (v := .ref (x 1)) (0) f_X11_10_11 rfl rfl d_X11_feed_15 ?_
      refine z_get (v := .int (N 0)) (1) f_X11_155_6 rfl rfl d_X11_feed_18 ?_
      refine z_top k0 ?_
      refine z_iload_n d_X11_feed_21 1 rfl ?_
      refine z_iadd d_X11_feed_22 ?_
      refine z_sipush (v := 160) d_X11_feed_23 (by decide) ?_
      refine z_icmp_le d_X11_feed_26 (fun c_26 => ?_) (fun c_26 => ?_)
      · have hin : inB n0 1 8 = true := by rw [inB_iff]; simp only [lt_i, i_1, l_8] at c_2 c_8; omega
        obtain ⟨q, hq1, hq8, rfl⟩ := inB_18 hin
        have hmq : m + q ≤ 160 := by rw [nI_add, show (160 : Int32) = nI 160 from rfl] at c_26; have := ge_nI (by decide) (by omega) c_26; omega
        refine z_iconst (v := 0) d_X11_feed_32 (by decide) ?_
        refine z_istore [(4, .int 0), (0, .ref (x 0)), (1, .int (nI q)), (2, .long bytes)] d_X11_feed_33 (by decide) rfl ?_
        have c8 := c_26
        rw [feeR, feeI, feeA, feeX, feeX, feeX, if_pos hin, if_pos hin, if_pos hin, h6, if_neg c8, if_neg c8, if_neg c8, nI_add, nI_tn (by omega), nI_tn (by omega)]
        exact lp_feed G x K r S T tl I A m q bytes hmq hq8 (q + 1) 0 N R (by show XRel G (upd I 6 (nI m)) (vf_upd A 5 (A 5)) N R K r tl; rw [vf_self, ← h6, upd_self]; exact hx) (by omega) (by omega)
      · refine z_bipush (v := -4) d_X11_feed_29 (by decide) ?_
        exact z_iret _ d_X11_feed_31 rfl (XP.of (by rw [feeR, feeX, if_pos (show inB n0 1 8 = true by rw [inB_iff]; simp only [lt_i, i_1, l_8] at c_2 c_8; omega), h6, if_pos c_26]) (by rw [feeI, feeA, feeX, feeX, if_pos (show inB n0 1 8 = true by rw [inB_iff]; simp only [lt_i, i_1, l_8] at c_2 c_8; omega), if_pos (show inB n0 1 8 = true by rw [inB_iff]; simp only [lt_i, i_1, l_8] at c_2 c_8; omega), h6, if_pos c_26, if_pos c_26]; exact hx))
    · refine z_bipush (v := -2) d_X11_feed_11 (by decide) ?_
      exact z_iret _ d_X11_feed_13 rfl (XP.of (by rw [feeR, feeX, if_neg (show ¬ inB n0 1 8 = true by rw [inB_iff]; simp only [lt_i, i_1, l_8] at c_2 c_8; omega)]) (by rw [feeI, feeA, feeX, feeX, if_neg (show ¬ inB n0 1 8 = true by rw [inB_iff]; simp only [lt_i, i_1, l_8] at c_2 c_8; omega), if_neg (show ¬ inB n0 1 8 = true by rw [inB_iff]; simp only [lt_i, i_1, l_8] at c_2 c_8; omega)]; exact hx))
