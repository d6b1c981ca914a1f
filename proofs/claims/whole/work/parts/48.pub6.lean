/-! THE PUBLIC METHODS of class X: text -/
theorem parP_z {B : Nat → Int32} {n p : Nat} {k : Int32} (hp : p ≤ n) {z : Nat} (h : parP B n k p = .inl z) : z ≤ n := by
  have hx := nx_le B hp
  unfold parP at h
  split at h
  · cases hr : eitP B n 5 (nxL B n p) with
    | inl f => rw [hr] at h; rw [← pr_ll h]; exact ((lv_gd B n 5).2.2 _ hx).2 f hr
    | inr cq =>
      obtain ⟨c1, q1⟩ := cq
      have g := ((lv_gd B n 5).2.2 _ hx).1 c1 q1 hr
      rw [hr] at h
      dsimp only at h
      split at h
      · exact (pr_rl h).elim
      · rw [← pr_ll h]; exact stL_le B g.2.1
  · rw [← pr_ll h]; exact stL_le B hp
theorem txP_z {B : Nat → Int32} {n : Nat} {z : Nat} (h : txP B n = .inl z) : z ≤ n := by
  unfold txP at h
  cases h0 : parP B n 4 0 with
  | inl f => rw [h0] at h; rw [← Sum.inl.inj h]; exact parP_z (Nat.zero_le _) h0
  | inr c0 =>
    obtain ⟨c0, q0⟩ := c0
    have g0 := (par_gd B n 4 (by decide) (by decide) 0 (Nat.zero_le _) c0 q0 h0).2.1
    rw [h0] at h
    dsimp only at h
    cases h1 : parP B n 5 q0 with
    | inl f => rw [h1] at h; rw [← Sum.inl.inj h]; exact parP_z g0 h1
    | inr c1 =>
      obtain ⟨c1, q1⟩ := c1
      have g1 := (par_gd B n 5 (by decide) (by decide) q0 g0 c1 q1 h1).2.1
      rw [h1] at h
      dsimp only at h
      cases h2 : parP B n 6 q1 with
      | inl f => rw [h2] at h; rw [← Sum.inl.inj h]; exact parP_z g1 h2
      | inr c2 =>
        obtain ⟨c2, q2⟩ := c2
        have g2 := (par_gd B n 6 (by decide) (by decide) q1 g1 c2 q2 h2).2.1
        rw [h2] at h
        dsimp only at h
        split at h
        · exact absurd h (by simp)
        · rw [← Sum.inl.inj h]; exact stL_le B g2
theorem tx_own (A : Nat → Nat → Int32) (t m : Nat) {i : Nat} (hi : i < m) : bM (txA A t m) t i = A 5 i := tcF_at t (A 5) (A 1) m i hi
theorem tx_oth (A : Nat → Nat → Int32) {t t' m : Nat} (ht : t' < t) {i : Nat} (hi : i < 160) : bM (txA A t m) t' i = bM A t' i := tcF_out t (A 5) (A 1) (160 * t' + i) m (fun j _ => by omega)
theorem tx_ok {A : Nat → Nat → Int32} {t t' m : Nat} {cd : CD} (ht : t' < t) (h : TxOk A t' cd) : TxOk (txA A t m) t' cd := by
  refine h.cong ?_ (fun i hi => tx_oth A ht hi) (fun n hn hP => ?_)
  · show upd (A 2) t (nI m) t' = A 2 t'
    unfold upd; rw [if_neg (by omega)]
  · rw [← txP_c (fun i hi => (tx_oth A ht (by omega)).symm)]; exact hP
section
variable {G : GT} {I : Nat → Int32} {A : Nat → Nat → Int32} {N : Nat → Int32} {R : Nat → Nat → Int32} {K : Nat → Nat → Option Nat} {r : Nat → Nat} {tl : va_W}
theorem XRel.m3 (hx : XRel G I A N R K r tl) {t : Nat} (h3 : I 3 = nI t) (ht : t ≤ 6) : N 1 = nI t ∧ 1 ≤ t := by
  obtain ⟨m, h1, ⟨t1, t2, t3, t4, t5⟩, -⟩ := hx
  have e : m = t := by rw [t3, nI_eq (by omega) (by omega)] at h3; exact h3
  subst e; exact ⟨t4, t1⟩
theorem XRel.txb (hx : XRel G I A N R K r tl) {t m : Nat} (h3 : I 3 = nI t) (ht : t < 6) : XRel G (upd I 6 0) (txA A t m) (upd N 0 0) R K r tl := by
  obtain ⟨m', h1, ⟨t1, t2, t3, t4, t5⟩, g3, h4, h5, h6⟩ := hx
  have e : m' = t := by rw [t3, nI_eq (by omega) (by omega)] at h3; exact h3
  subst e
  refine ⟨m', h1.cong rfl rfl rfl (fun _ _ => ⟨rfl, rfl, rfl, rfl, rfl⟩), ⟨t1, t2, t3, t4, fun t' ht' => ?_⟩, g3, ⟨0, by omega, rfl, rfl, fun i hi => absurd hi (by omega)⟩, ?_, ?_⟩
  · obtain ⟨a, cd, e1, e2, e3⟩ := t5 t' ht'
    exact ⟨a, cd, e1, tx_ok ht' e2, e3⟩
  · rcases h5 with q | ⟨q1, q2, q3, q4⟩
    · exact Or.inl q
    · exact Or.inr ⟨q1, q2, q3.cong rfl rfl rfl (fun _ _ => ⟨rfl, rfl, rfl, rfl, rfl⟩), q4⟩
  · intro j hj
    have := h6 j hj
    rcases (show j = 0 ∨ j = 1 ∨ j = 2 ∨ j = 3 by omega) with rfl | rfl | rfl | rfl <;> exact this
theorem RuS.more {i : Int32} {k2 : Nat → Option Nat} {r0 m a : Nat} (h : RuS i k2 r0 m) : RuS i (va_up k2 m (some a)) r0 (m + 1) := by
  obtain ⟨t, h1, h2, h3⟩ := h
  refine ⟨t, by omega, h2, ?_⟩
  unfold va_up
  rw [if_neg (by omega)]; exact h3
theorem XRel.txg (hx : XRel G I A N R K r tl) {t m : Nat} {cd : CD} {a : Nat} {u : va_W} (h3 : I 3 = nI t) (ht : t < 6) (h6 : I 6 = nI m) (hm : m ≤ 160) (hP : txP (bM (txA A t m) t) m = .inr cd) (hR : TxR G cd (nI t) a (tl ++ u)) : XRel G (upd (upd I 6 0) 3 (nI (t + 1))) (txA A t m) (upd (upd N 0 0) 1 (nI (t + 1))) R (vf_upd K 2 (va_up (K 2) t (some a))) r (tl ++ u) := by
  have hb := (hx.rd h6 hm).2
  obtain ⟨m', h1, ⟨t1, t2, t3, t4, t5⟩, g3, h4, h5, g6⟩ := hx
  have e : m' = t := by rw [t3, nI_eq (by omega) (by omega)] at h3; exact h3
  subst e
  refine ⟨m' + 1, (h1.more u).cong rfl rfl rfl (fun _ _ => ⟨rfl, rfl, rfl, rfl, rfl⟩), ⟨by omega, by omega, rfl, rfl, fun t' ht' => ?_⟩, g3.more, ⟨0, by omega, rfl, rfl, fun i hi => absurd hi (by omega)⟩, ?_, ?_⟩
  · by_cases et : t' = m'
    · subst et
      refine ⟨a, cd, by show va_up (K 2) t' (some a) t' = _; unfold va_up; rw [if_pos rfl], ⟨ht, m, hm, by show upd (A 2) t' (nI m) t' = _; unfold upd; rw [if_pos rfl], fun i hi => by rw [tx_own A t' m hi]; exact (hb i hi).2.1, hP⟩, hR⟩
    · obtain ⟨a', cd', e1, e2, e3⟩ := t5 t' (by omega)
      exact ⟨a', cd', by show va_up (K 2) m' (some a) t' = _; unfold va_up; rw [if_neg et]; exact e1, tx_ok (by omega) e2, e3.more u⟩
  · rcases h5 with q | ⟨q1, q2, q3, q4⟩
    · exact Or.inl q
    · exact Or.inr ⟨q1, q2, (q3.more u).cong rfl rfl rfl (fun _ _ => ⟨rfl, rfl, rfl, rfl, rfl⟩), q4.more⟩
  · intro j hj
    have := g6 j hj
    rcases (show j = 0 ∨ j = 1 ∨ j = 2 ∨ j = 3 by omega) with rfl | rfl | rfl | rfl <;> exact this
end
set_option maxHeartbeats 4000000 in
set_option maxRecDepth 100000 in
theorem t_X11_text (G : GT) (x : Nat → Nat) (N : Nat → Int32) (R : Nat → Nat → Int32) (K : Nat → Nat → Option Nat) (r : Nat → Nat) (S : Nat → Int32) (T : Nat → Nat → Int32) (tl : va_W) (I : Nat → Int32) (A : Nat → Nat → Int32) (hx : XRel G I A N R K r tl) (t m : Nat) (ht6 : t ≤ 6) (hm6 : m ≤ 160) (h3 : I 3 = nI t) (h6 : I 6 = nI m)  : Ct G mX11_text 47 3 166 [.ref (x 0)] (XW G x N R K r S T tl) (XP G x (some (.int (txtR I A t m))) (txtI I A t m) (txtA I A t m)) := by
  obtain ⟨n1, ht1⟩ := hx.m3 h3 ht6
  refine Ct.intro [(0, .ref (x 0))] (by decide) rfl (Nat.le_of_ble_eq_true rfl) ?_
  refine z_aload_n d_X11_text_0 0 rfl ?_
  refine z_get (v := .int (N 1)) (0) f_X11_51_11 rfl rfl d_X11_text_1 ?_
  refine z_top n1 ?_
  refine z_bipush (v := 6) d_X11_text_4 (by decide) ?_
  refine z_icmp_lt d_X11_text_6 (fun c_6 => ?_) (fun c_6 => ?_)
  · refine z_aload_n d_X11_text_12 0 rfl ?_
    refine z_get (v := .ref (x 1)) (0) f_X11_10_11 rfl rfl d_X11_text_13 ?_
    have ht : t < 6 := lt_nI (by omega) (by decide) c_6
    have hrd := hx.rd h6 hm6
    refine z_callV 1 c_X11_44 rfl rfl (t_X6_readTape G x N R K r S T tl (bM (txA A t m) t) m hm6 hrd.1 (fun i hi => by rw [tx_own A t m hi]; exact hrd.2 i hi)) rfl rfl (Nat.le_of_ble_eq_true rfl) rfl d_X11_text_16 ?_
    rintro v16 w16 ⟨S16, T16, rfl, hRd⟩
    have h3n : ¬ I 3 = 6 := by rw [h3, show (6 : Int32) = nI 6 from rfl, nI_eq (by omega) (by decide)]; omega
    rcases hr : txP (bM (txA A t m) t) m with f | cd
    · rw [hr] at hRd
      have hf := txP_z hr
      replace hRd : v16 = some (.int (nI f)) := hRd
      subst hRd
      refine z_istore_n [(1, .int (nI f)), (0, .ref (x 0))] d_X11_text_19 (by decide) rfl ?_
      refine z_iload_n d_X11_text_20 0 rfl ?_
      refine z_iconst (v := -1) d_X11_text_21 (by decide) ?_
      refine z_icmp_eq d_X11_text_22 (fun c_22 => ?_) (fun c_22 => ?_)
      · exact absurd c_22 (by intro hh; have h9 := congrArg Int32.toInt hh; rw [nI_i (by omega), show (-1 : Int32).toInt = -1 by decide] at h9; omega)
      refine z_bipush (v := -100) d_X11_text_25 (by decide) ?_
      refine z_iload_n d_X11_text_27 0 rfl ?_
      refine z_isub d_X11_text_28 ?_
      refine z_widen (pc' := 0) 3 166 (by omega) (by omega) ?_
      exact z_iret _ d_X11_text_29 rfl (XP.of (by rw [txtR, txtX_bad h3n hr]) (by rw [txtI, txtA, txtX_bad h3n hr, txtX_bad h3n hr]; exact hx.txb h3 ht))
    · rw [hr] at hRd
      obtain ⟨rfl, hRd⟩ := hRd
      refine z_istore_n [(1, .int (-1)), (0, .ref (x 0))] d_X11_text_19 (by decide) rfl ?_
      refine z_iload_n d_X11_text_20 0 rfl ?_
      refine z_iconst (v := -1) d_X11_text_21 (by decide) ?_
      refine z_icmp_eq d_X11_text_22 (fun c_22 => ?_) (fun c_22 => ?_)
      rotate_left
      · exact absurd c_22 (by decide)
      refine z_aload_n d_X11_text_30 1 rfl ?_
      refine z_get (v := .ref (x 5)) (0) f_X11_18_11 rfl rfl d_X11_text_31 ?_
      refine z_aload_n d_X11_text_34 1 rfl ?_
      refine z_get (v := .int (N 1)) (0) f_X11_51_11 rfl rfl d_X11_text_35 ?_
      refine z_top n1 ?_
      refine z_aload_n d_X11_text_38 1 rfl ?_
      refine z_get (v := .ref (x 1)) (0) f_X11_10_11 rfl rfl d_X11_text_39 ?_
      refine z_aload_n d_X11_text_42 1 rfl ?_
      refine z_get (v := .int (N 1)) (0) f_X11_51_11 rfl rfl d_X11_text_43 ?_
      refine z_top n1 ?_
      refine z_callV 1 c_X11_47 rfl rfl (t_X6_made G x (upd N 0 0) R K r S16 T16 tl cd (nI t) hRd) rfl rfl (Nat.le_of_ble_eq_true rfl) rfl d_X11_text_46 ?_
      rintro v46 w46 ⟨a9, u9, rfl, rfl, hTx⟩
      obtain ⟨q9, q91, q92, c9, e9, f9, g9, hq9, -⟩ := id hTx
      refine z_astR (E0 := RX9) 5 4 (q9 + 31) t (XW G x (upd N 0 0) R (vf_upd K 2 (va_up (K 2) t (some a9))) r S16 T16 (tl ++ u9)) rfl rfl hq9 rfl (Or.inl rfl) (nI_toInt (by omega)) (by omega) (xa_5 G x (upd N 0 0) R K r S16 T16 (tl ++ u9) _) d_X11_text_49 ?_
      refine z_aload_n d_X11_text_50 1 rfl ?_
      refine z_dup d_X11_text_51 rfl ?_
      refine z_get (v := .int (N 1)) (0) f_X11_51_11 rfl rfl d_X11_text_52 ?_
      refine z_top n1 ?_
      refine z_iconst (v := 1) d_X11_text_55 (by decide) ?_
      refine z_iadd d_X11_text_56 ?_
      refine z_put 0 (XW G x (upd (upd N 0 0) 1 ((nI t) + 1)) R (vf_upd K 2 (va_up (K 2) t (some a9))) r S16 T16 (tl ++ u9)) p_X11_51_11 rfl rfl rfl (Nat.le_of_ble_eq_true rfl) (xf_0_2 G x (upd N 0 0) R (vf_upd K 2 (va_up (K 2) t (some a9))) r S16 T16 (tl ++ u9) _) d_X11_text_57 ?_
      refine z_aload_n d_X11_text_60 1 rfl ?_
      refine z_get (v := .int ((nI t) + 1)) (0) f_X11_51_11 rfl rfl d_X11_text_61 ?_
      refine z_iconst (v := 1) d_X11_text_64 (by decide) ?_
      refine z_isub d_X11_text_65 ?_
      exact z_iret _ d_X11_text_66 rfl (XP.of (by rw [txtR, txtX_fine h3n hr]; exact Int32.add_sub_cancel _ _) (by rw [txtI, txtA, txtX_fine h3n hr, txtX_fine h3n hr, nI_1]; exact hx.txg h3 ht h6 hm6 hr hTx))
  · refine z_bipush (v := -4) d_X11_text_9 (by decide) ?_
    refine z_widen (pc' := 0) 3 166 (by omega) (by omega) ?_
    exact z_iret _ d_X11_text_11 rfl (by have h36 : I 3 = 6 := (by rw [h3, show t = 6 from by have := ge_nI (N := 6) (by omega) (by decide) c_6; omega]; rfl); exact XP.of (by rw [txtR, txtX_full h36]) (by rw [txtI, txtA, txtX_full h36, txtX_full h36]; exact hx))
