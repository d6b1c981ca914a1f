/-! THE PUBLIC METHODS of class X: the host -/
section
variable {G : GT} {I : Nat → Int32} {A A' : Nat → Nat → Int32} {N N' : Nat → Int32} {R R' : Nat → Nat → Int32} {K : Nat → Nat → Option Nat} {r : Nat → Nat} {tl : va_W}
theorem XRel.sh (hx : XRel G I A N R K r tl) (hA : ∀ k, ¬ (36 ≤ k ∧ k ≤ 39) → A' k = A k) (hN : ∀ i, ¬ 10 ≤ i → N' i = N i) (hR : ∀ i, ¬ 7 ≤ i → R' i = R i) (hs : ShS A' N' R') : XRel G I A' N' R' K r tl := by
  obtain ⟨m, h1, ⟨t1, t2, t3, t4, t5⟩, h3, ⟨k, k1, k2, k3, k4⟩, h5, h6⟩ := hx
  refine ⟨m, ?_, ⟨t1, t2, t3, by rw [hN 1 (by omega)]; exact t4, fun t ht => ?_⟩, h3, ⟨k, k1, k2, by rw [hN 0 (by omega)]; exact k3, by rw [hA 5 (by omega), hR 0 (by omega)]; exact k4⟩, ?_, hs⟩
  · rw [hN 2 (by omega), hN 3 (by omega), hN 4 (by omega), hR 1 (by omega), hR 2 (by omega), hR 3 (by omega)]
    exact h1.cong rfl rfl rfl (fun s _ => ⟨by rw [hA 7 (by omega)], by rw [hA 8 (by omega)], by rw [hA 9 (by omega)], by rw [hA 10 (by omega)], by rw [hA 11 (by omega)]⟩)
  · obtain ⟨a, cd, e1, e2, e3⟩ := t5 t ht
    have eb : bM A' t = bM A t := by funext i; unfold bM; rw [hA 1 (by omega)]
    exact ⟨a, cd, e1, e2.cong (by rw [hA 2 (by omega)]) (fun i _ => by rw [eb]) (fun n _ hP => by rw [eb]; exact hP), e3⟩
  · rcases h5 with ⟨g1, g2⟩ | ⟨g1, g2, g3, g4⟩
    · exact Or.inl ⟨g1, by rw [hN 5 (by omega)]; exact g2⟩
    · refine Or.inr ⟨g1, by rw [hN 5 (by omega)]; exact g2, ?_, g4⟩
      rw [hN 6 (by omega), hN 7 (by omega), hN 8 (by omega), hR 4 (by omega), hR 5 (by omega), hR 6 (by omega)]
      have ek : kpA A' = kpA A := by funext j s; unfold kpA; rw [hA 30 (by omega)]
      rw [ek]; exact g3
theorem XRel.ss (hx : XRel G I A N R K r tl) : ShS A N R := hx.choose_spec.2.2.2.2.2
theorem XRel.shok (hx : XRel G I A N R K r tl) : ShOk A := fun j hj h => by
  rcases hx.ss j hj with g | ⟨-, -, -, -, -, g1, g2, -⟩
  · exact absurd g.1 h
  · exact ⟨g1, g2⟩
/-- one sheet alone has changed -/
theorem ShS.one (h : ShS A N R) {j : Nat} (hj : j < 4) (hA : ∀ k, k < 4 → ¬ k = j → A' 36 k = A 36 k ∧ A' 37 k = A 37 k ∧ A' 38 k = A 38 k ∧ ∀ i, i < 40 → A' 39 (40 * k + i) = A 39 (40 * k + i)) (hN : ∀ k, k < 4 → ¬ k = j → N' (10 + 2 * k) = N (10 + 2 * k) ∧ N' (11 + 2 * k) = N (11 + 2 * k) ∧ R' (7 + k) = R (7 + k)) (hs : (A' 36 j = 0 ∧ N' (10 + 2 * j) = -1) ∨ (¬ A' 36 j = 0 ∧ N' (10 + 2 * j) = A' 37 j ∧ 0 ≤ (A' 37 j).toInt ∧ (A' 37 j).toInt ≤ 2 ∧ N' (11 + 2 * j) = A' 38 j ∧ 0 ≤ (A' 38 j).toInt ∧ (A' 38 j).toInt ≤ 40 ∧ ∀ i, i < (A' 38 j).toInt.toNat → R' (7 + j) i = A' 39 (40 * j + i))) : ShS A' N' R' := fun k hk => by
  by_cases e : k = j
  · subst e; exact hs
  · obtain ⟨a1, a2, a3, a4⟩ := hA k hk e
    obtain ⟨b1, b2, b3⟩ := hN k hk e
    rw [a1, a2, a3, b1, b2, b3]
    rcases h k hk with g | ⟨g1, g2, g3, g4, g5, g6, g7, g8⟩
    · exact Or.inl g
    · exact Or.inr ⟨g1, g2, g3, g4, g5, g6, g7, fun i hi => by rw [a4 i (by omega)]; exact g8 i hi⟩
end
set_option maxHeartbeats 4000000 in
set_option maxRecDepth 100000 in
theorem t_becomes0 (G : GT) (x : Nat → Nat) (N : Nat → Int32) (R : Nat → Nat → Int32) (K : Nat → Nat → Option Nat) (r : Nat → Nat) (S : Nat → Int32) (T : Nat → Nat → Int32) (tl : va_W) (so n0 : Int32)  : Ct G mX7_becomes 1 0 0 [.ref (x 23), .int so, .int n0] (XW G x N R K r S T tl) (Pv (XW G x (upd (upd N 10 so) 11 n0) (vf_upd R 7 (flRow (R 7) 0 40)) K r S T tl)) := by
  refine Ct.intro [(0, .ref (x 23)), (1, .int so), (2, .int n0)] (by decide) rfl (Nat.le_of_ble_eq_true rfl) ?_
  refine z_aload_n d_X7_becomes_0 0 rfl ?_
  refine z_iload_n d_X7_becomes_1 1 rfl ?_
  refine z_put 23 (XW G x (upd N 10 so) R K r S T tl) p_X7_9_7 rfl rfl rfl (Nat.le_of_ble_eq_true rfl) (xf_23_0 G x N R K r S T tl _) d_X7_becomes_2 ?_
  refine z_aload_n d_X7_becomes_5 0 rfl ?_
  refine z_iload_n d_X7_becomes_6 2 rfl ?_
  refine z_put 23 (XW G x (upd (upd N 10 so) 11 n0) R K r S T tl) p_X7_19_7 rfl rfl rfl (Nat.le_of_ble_eq_true rfl) (xf_23_1 G x (upd N 10 so) R K r S T tl _) d_X7_becomes_7 ?_
  refine z_aload_n d_X7_becomes_10 0 rfl ?_
  refine z_get (v := .ref (x 24)) (23) f_X7_15_7 rfl rfl d_X7_becomes_11 ?_
  refine z_iconst (v := 0) d_X7_becomes_14 (by decide) ?_
  refine z_callS c_X7_22 (t_J7_fill_53178 G 24 (x 24) 40 (R 7) 0 (by decide) (XW G x (upd (upd N 10 so) 11 n0) R K r S T tl) rfl) rfl rfl (Nat.le_of_ble_eq_true rfl) rfl d_X7_becomes_15 ?_
  rintro v15 w15 ⟨rfl, rfl⟩
  rw [xa_24 G x (upd (upd N 10 so) 11 n0) R K r S T tl _]
  exact z_vret _ d_X7_becomes_18 rfl (Pv.of rfl)
set_option maxHeartbeats 4000000 in
set_option maxRecDepth 100000 in
theorem t_write0 (G : GT) (x : Nat → Nat) (N : Nat → Int32) (R : Nat → Nat → Int32) (K : Nat → Nat → Option Nat) (r : Nat → Nat) (S : Nat → Int32) (T : Nat → Nat → Int32) (tl : va_W) (i : Nat) (v : Int32) (hi : i < 40)  : Ct G mX7_write 0 0 0 [.ref (x 23), .int (nI i), .int v] (XW G x N R K r S T tl) (Pv (XW G x N (vf_upd R 7 (upd (R 7) i (ceV (N 10) v))) K r S T tl)) := by
  refine Ct.intro [(0, .ref (x 23)), (1, .int (nI i)), (2, .int v)] (by decide) rfl (Nat.le_of_ble_eq_true rfl) ?_
  refine z_aload_n d_X7_write_0 0 rfl ?_
  refine z_get (v := .ref (x 24)) (23) f_X7_15_7 rfl rfl d_X7_write_1 ?_
  refine z_iload_n d_X7_write_4 1 rfl ?_
  refine z_aload_n d_X7_write_5 0 rfl ?_
  refine z_get (v := .int (N 10)) (23) f_X7_9_7 rfl rfl d_X7_write_6 ?_
  refine z_if_ne d_X7_write_9 (fun c_9 => ?_) (fun c_9 => ?_)
  · refine z_aload_n d_X7_write_17 0 rfl ?_
    refine z_get (v := .int (N 10)) (23) f_X7_9_7 rfl rfl d_X7_write_18 ?_
    refine z_iconst (v := 1) d_X7_write_21 (by decide) ?_
    refine z_icmp_ne d_X7_write_22 (fun c_22 => ?_) (fun c_22 => ?_)
    · refine z_iload_n d_X7_write_30 2 rfl ?_
      refine z_iastN 24 i (XW G x N (vf_upd R 7 (upd (R 7) i v)) K r S T tl) rfl (nI_toInt (by omega)) (by omega) (xa_24 G x N R K r S T tl _) d_X7_write_31 ?_
      exact z_vret _ d_X7_write_32 rfl (Pv.of (by rw [ceV, if_neg c_9, if_neg c_22]))
    · refine z_iload_n d_X7_write_25 2 rfl ?_
      refine z_i2s d_X7_write_26 ?_
      refine z_goto d_X7_write_27 ?_
      refine z_iastN 24 i (XW G x N (vf_upd R 7 (upd (R 7) i v.toInt16.toInt32)) K r S T tl) rfl (nI_toInt (by omega)) (by omega) (xa_24 G x N R K r S T tl _) d_X7_write_31 ?_
      exact z_vret _ d_X7_write_32 rfl (Pv.of (by rw [ceV, if_neg c_9, if_pos c_22]))
  · refine z_iload_n d_X7_write_12 2 rfl ?_
    refine z_i2b d_X7_write_13 ?_
    refine z_goto d_X7_write_14 ?_
    refine z_iastN 24 i (XW G x N (vf_upd R 7 (upd (R 7) i v.toInt8.toInt32)) K r S T tl) rfl (nI_toInt (by omega)) (by omega) (xa_24 G x N R K r S T tl _) d_X7_write_31 ?_
    exact z_vret _ d_X7_write_32 rfl (Pv.of (by rw [ceV, if_pos c_9]))
def hoQ (sz i n0 : Int32) : Bool := (decide (¬ i < 0) && decide (¬ n0 < 0)) && decide (¬ sz - i < n0)
set_option maxHeartbeats 4000000 in
set_option maxRecDepth 100000 in
theorem t_holds0 (G : GT) (x : Nat → Nat) (N : Nat → Int32) (R : Nat → Nat → Int32) (K : Nat → Nat → Option Nat) (r : Nat → Nat) (S : Nat → Int32) (T : Nat → Nat → Int32) (tl : va_W) (i n0 : Int32)  : Ct G mX7_holds 0 0 0 [.ref (x 23), .int i, .int n0] (XW G x N R K r S T tl) (Pi (b01 (hoQ (N 11) i n0)) (XW G x N R K r S T tl)) := by
  refine Ct.intro [(0, .ref (x 23)), (1, .int i), (2, .int n0)] (by decide) rfl (Nat.le_of_ble_eq_true rfl) ?_
  refine z_iload_n d_X7_holds_0 1 rfl ?_
  refine z_if_lt d_X7_holds_1 (fun c_1 => ?_) (fun c_1 => ?_)
  · refine z_iconst (v := 0) d_X7_holds_22 (by decide) ?_
    exact z_zret _ d_X7_holds_23 rfl (by first | rfl | decide) (Pi.of (b01_f (by rw [hoQ, Bool.and_eq_true, Bool.and_eq_true, decide_eq_true_eq, decide_eq_true_eq, decide_eq_true_eq]; rintro ⟨⟨h1, h2⟩, h3⟩; contradiction)))
  · refine z_iload_n d_X7_holds_4 2 rfl ?_
    refine z_if_lt d_X7_holds_5 (fun c_5 => ?_) (fun c_5 => ?_)
    · refine z_iconst (v := 0) d_X7_holds_22 (by decide) ?_
      exact z_zret _ d_X7_holds_23 rfl (by first | rfl | decide) (Pi.of (b01_f (by rw [hoQ, Bool.and_eq_true, Bool.and_eq_true, decide_eq_true_eq, decide_eq_true_eq, decide_eq_true_eq]; rintro ⟨⟨h1, h2⟩, h3⟩; contradiction)))
    · refine z_iload_n d_X7_holds_8 2 rfl ?_
      refine z_aload_n d_X7_holds_9 0 rfl ?_
      refine z_get (v := .int (N 11)) (23) f_X7_19_7 rfl rfl d_X7_holds_10 ?_
      refine z_iload_n d_X7_holds_13 1 rfl ?_
      refine z_isub d_X7_holds_14 ?_
      refine z_icmp_gt d_X7_holds_15 (fun c_15 => ?_) (fun c_15 => ?_)
      · refine z_iconst (v := 0) d_X7_holds_22 (by decide) ?_
        exact z_zret _ d_X7_holds_23 rfl (by first | rfl | decide) (Pi.of (b01_f (by rw [hoQ, Bool.and_eq_true, Bool.and_eq_true, decide_eq_true_eq, decide_eq_true_eq, decide_eq_true_eq]; rintro ⟨⟨h1, h2⟩, h3⟩; contradiction)))
      · refine z_iconst (v := 1) d_X7_holds_18 (by decide) ?_
        refine z_goto d_X7_holds_19 ?_
        exact z_zret _ d_X7_holds_23 rfl (by first | rfl | decide) (Pi.of (b01_t (by rw [hoQ, Bool.and_eq_true, Bool.and_eq_true, decide_eq_true_eq, decide_eq_true_eq, decide_eq_true_eq]; exact ⟨⟨c_1, c_5⟩, c_15⟩)))
set_option maxHeartbeats 4000000 in
set_option maxRecDepth 100000 in
theorem t_becomes1 (G : GT) (x : Nat → Nat) (N : Nat → Int32) (R : Nat → Nat → Int32) (K : Nat → Nat → Option Nat) (r : Nat → Nat) (S : Nat → Int32) (T : Nat → Nat → Int32) (tl : va_W) (so n0 : Int32)  : Ct G mX7_becomes 1 0 0 [.ref (x 25), .int so, .int n0] (XW G x N R K r S T tl) (Pv (XW G x (upd (upd N 12 so) 13 n0) (vf_upd R 8 (flRow (R 8) 0 40)) K r S T tl)) := by
  refine Ct.intro [(0, .ref (x 25)), (1, .int so), (2, .int n0)] (by decide) rfl (Nat.le_of_ble_eq_true rfl) ?_
  refine z_aload_n d_X7_becomes_0 0 rfl ?_
  refine z_iload_n d_X7_becomes_1 1 rfl ?_
  refine z_put 25 (XW G x (upd N 12 so) R K r S T tl) p_X7_9_7 rfl rfl rfl (Nat.le_of_ble_eq_true rfl) (xf_25_0 G x N R K r S T tl _) d_X7_becomes_2 ?_
  refine z_aload_n d_X7_becomes_5 0 rfl ?_
  refine z_iload_n d_X7_becomes_6 2 rfl ?_
  refine z_put 25 (XW G x (upd (upd N 12 so) 13 n0) R K r S T tl) p_X7_19_7 rfl rfl rfl (Nat.le_of_ble_eq_true rfl) (xf_25_1 G x (upd N 12 so) R K r S T tl _) d_X7_becomes_7 ?_
  refine z_aload_n d_X7_becomes_10 0 rfl ?_
  refine z_get (v := .ref (x 26)) (25) f_X7_15_7 rfl rfl d_X7_becomes_11 ?_
  refine z_iconst (v := 0) d_X7_becomes_14 (by decide) ?_
  refine z_callS c_X7_22 (t_J7_fill_53178 G 26 (x 26) 40 (R 8) 0 (by decide) (XW G x (upd (upd N 12 so) 13 n0) R K r S T tl) rfl) rfl rfl (Nat.le_of_ble_eq_true rfl) rfl d_X7_becomes_15 ?_
  rintro v15 w15 ⟨rfl, rfl⟩
  rw [xa_26 G x (upd (upd N 12 so) 13 n0) R K r S T tl _]
  exact z_vret _ d_X7_becomes_18 rfl (Pv.of rfl)
set_option maxHeartbeats 4000000 in
set_option maxRecDepth 100000 in
theorem t_write1 (G : GT) (x : Nat → Nat) (N : Nat → Int32) (R : Nat → Nat → Int32) (K : Nat → Nat → Option Nat) (r : Nat → Nat) (S : Nat → Int32) (T : Nat → Nat → Int32) (tl : va_W) (i : Nat) (v : Int32) (hi : i < 40)  : Ct G mX7_write 0 0 0 [.ref (x 25), .int (nI i), .int v] (XW G x N R K r S T tl) (Pv (XW G x N (vf_upd R 8 (upd (R 8) i (ceV (N 12) v))) K r S T tl)) := by
  refine Ct.intro [(0, .ref (x 25)), (1, .int (nI i)), (2, .int v)] (by decide) rfl (Nat.le_of_ble_eq_true rfl) ?_
  refine z_aload_n d_X7_write_0 0 rfl ?_
  refine z_get (v := .ref (x 26)) (25) f_X7_15_7 rfl rfl d_X7_write_1 ?_
  refine z_iload_n d_X7_write_4 1 rfl ?_
  refine z_aload_n d_X7_write_5 0 rfl ?_
  refine z_get (v := .int (N 12)) (25) f_X7_9_7 rfl rfl d_X7_write_6 ?_
  refine z_if_ne d_X7_write_9 (fun c_9 => ?_) (fun c_9 => ?_)
  · refine z_aload_n d_X7_write_17 0 rfl ?_
    refine z_get (v := .int (N 12)) (25) f_X7_9_7 rfl rfl d_X7_write_18 ?_
    refine z_iconst (v := 1) d_X7_write_21 (by decide) ?_
    refine z_icmp_ne d_X7_write_22 (fun c_22 => ?_) (fun c_22 => ?_)
    · refine z_iload_n d_X7_write_30 2 rfl ?_
      refine z_iastN 26 i (XW G x N (vf_upd R 8 (upd (R 8) i v)) K r S T tl) rfl (nI_toInt (by omega)) (by omega) (xa_26 G x N R K r S T tl _) d_X7_write_31 ?_
      exact z_vret _ d_X7_write_32 rfl (Pv.of (by rw [ceV, if_neg c_9, if_neg c_22]))
    · refine z_iload_n d_X7_write_25 2 rfl ?_
      refine z_i2s d_X7_write_26 ?_
      refine z_goto d_X7_write_27 ?_
      refine z_iastN 26 i (XW G x N (vf_upd R 8 (upd (R 8) i v.toInt16.toInt32)) K r S T tl) rfl (nI_toInt (by omega)) (by omega) (xa_26 G x N R K r S T tl _) d_X7_write_31 ?_
      exact z_vret _ d_X7_write_32 rfl (Pv.of (by rw [ceV, if_neg c_9, if_pos c_22]))
  · refine z_iload_n d_X7_write_12 2 rfl ?_
    refine z_i2b d_X7_write_13 ?_
    refine z_goto d_X7_write_14 ?_
    refine z_iastN 26 i (XW G x N (vf_upd R 8 (upd (R 8) i v.toInt8.toInt32)) K r S T tl) rfl (nI_toInt (by omega)) (by omega) (xa_26 G x N R K r S T tl _) d_X7_write_31 ?_
    exact z_vret _ d_X7_write_32 rfl (Pv.of (by rw [ceV, if_pos c_9]))
set_option maxHeartbeats 4000000 in
set_option maxRecDepth 100000 in
theorem t_holds1 (G : GT) (x : Nat → Nat) (N : Nat → Int32) (R : Nat → Nat → Int32) (K : Nat → Nat → Option Nat) (r : Nat → Nat) (S : Nat → Int32) (T : Nat → Nat → Int32) (tl : va_W) (i n0 : Int32)  : Ct G mX7_holds 0 0 0 [.ref (x 25), .int i, .int n0] (XW G x N R K r S T tl) (Pi (b01 (hoQ (N 13) i n0)) (XW G x N R K r S T tl)) := by
  refine Ct.intro [(0, .ref (x 25)), (1, .int i), (2, .int n0)] (by decide) rfl (Nat.le_of_ble_eq_true rfl) ?_
  refine z_iload_n d_X7_holds_0 1 rfl ?_
  refine z_if_lt d_X7_holds_1 (fun c_1 => ?_) (fun c_1 => ?_)
  · refine z_iconst (v := 0) d_X7_holds_22 (by decide) ?_
    exact z_zret _ d_X7_holds_23 rfl (by first | rfl | decide) (Pi.of (b01_f (by rw [hoQ, Bool.and_eq_true, Bool.and_eq_true, decide_eq_true_eq, decide_eq_true_eq, decide_eq_true_eq]; rintro ⟨⟨h1, h2⟩, h3⟩; contradiction)))
  · refine z_iload_n d_X7_holds_4 2 rfl ?_
    refine z_if_lt d_X7_holds_5 (fun c_5 => ?_) (fun c_5 => ?_)
    · refine z_iconst (v := 0) d_X7_holds_22 (by decide) ?_
      exact z_zret _ d_X7_holds_23 rfl (by first | rfl | decide) (Pi.of (b01_f (by rw [hoQ, Bool.and_eq_true, Bool.and_eq_true, decide_eq_true_eq, decide_eq_true_eq, decide_eq_true_eq]; rintro ⟨⟨h1, h2⟩, h3⟩; contradiction)))
    · refine z_iload_n d_X7_holds_8 2 rfl ?_
      refine z_aload_n d_X7_holds_9 0 rfl ?_
      refine z_get (v := .int (N 13)) (25) f_X7_19_7 rfl rfl d_X7_holds_10 ?_
      refine z_iload_n d_X7_holds_13 1 rfl ?_
      refine z_isub d_X7_holds_14 ?_
      refine z_icmp_gt d_X7_holds_15 (fun c_15 => ?_) (fun c_15 => ?_)
      · refine z_iconst (v := 0) d_X7_holds_22 (by decide) ?_
        exact z_zret _ d_X7_holds_23 rfl (by first | rfl | decide) (Pi.of (b01_f (by rw [hoQ, Bool.and_eq_true, Bool.and_eq_true, decide_eq_true_eq, decide_eq_true_eq, decide_eq_true_eq]; rintro ⟨⟨h1, h2⟩, h3⟩; contradiction)))
      · refine z_iconst (v := 1) d_X7_holds_18 (by decide) ?_
        refine z_goto d_X7_holds_19 ?_
        exact z_zret _ d_X7_holds_23 rfl (by first | rfl | decide) (Pi.of (b01_t (by rw [hoQ, Bool.and_eq_true, Bool.and_eq_true, decide_eq_true_eq, decide_eq_true_eq, decide_eq_true_eq]; exact ⟨⟨c_1, c_5⟩, c_15⟩)))
set_option maxHeartbeats 4000000 in
set_option maxRecDepth 100000 in
theorem t_becomes2 (G : GT) (x : Nat → Nat) (N : Nat → Int32) (R : Nat → Nat → Int32) (K : Nat → Nat → Option Nat) (r : Nat → Nat) (S : Nat → Int32) (T : Nat → Nat → Int32) (tl : va_W) (so n0 : Int32)  : Ct G mX7_becomes 1 0 0 [.ref (x 27), .int so, .int n0] (XW G x N R K r S T tl) (Pv (XW G x (upd (upd N 14 so) 15 n0) (vf_upd R 9 (flRow (R 9) 0 40)) K r S T tl)) := by
  refine Ct.intro [(0, .ref (x 27)), (1, .int so), (2, .int n0)] (by decide) rfl (Nat.le_of_ble_eq_true rfl) ?_
  refine z_aload_n d_X7_becomes_0 0 rfl ?_
  refine z_iload_n d_X7_becomes_1 1 rfl ?_
  refine z_put 27 (XW G x (upd N 14 so) R K r S T tl) p_X7_9_7 rfl rfl rfl (Nat.le_of_ble_eq_true rfl) (xf_27_0 G x N R K r S T tl _) d_X7_becomes_2 ?_
  refine z_aload_n d_X7_becomes_5 0 rfl ?_
  refine z_iload_n d_X7_becomes_6 2 rfl ?_
  refine z_put 27 (XW G x (upd (upd N 14 so) 15 n0) R K r S T tl) p_X7_19_7 rfl rfl rfl (Nat.le_of_ble_eq_true rfl) (xf_27_1 G x (upd N 14 so) R K r S T tl _) d_X7_becomes_7 ?_
  refine z_aload_n d_X7_becomes_10 0 rfl ?_
  refine z_get (v := .ref (x 28)) (27) f_X7_15_7 rfl rfl d_X7_becomes_11 ?_
  refine z_iconst (v := 0) d_X7_becomes_14 (by decide) ?_
  refine z_callS c_X7_22 (t_J7_fill_53178 G 28 (x 28) 40 (R 9) 0 (by decide) (XW G x (upd (upd N 14 so) 15 n0) R K r S T tl) rfl) rfl rfl (Nat.le_of_ble_eq_true rfl) rfl d_X7_becomes_15 ?_
  rintro v15 w15 ⟨rfl, rfl⟩
  rw [xa_28 G x (upd (upd N 14 so) 15 n0) R K r S T tl _]
  exact z_vret _ d_X7_becomes_18 rfl (Pv.of rfl)
set_option maxHeartbeats 4000000 in
set_option maxRecDepth 100000 in
theorem t_write2 (G : GT) (x : Nat → Nat) (N : Nat → Int32) (R : Nat → Nat → Int32) (K : Nat → Nat → Option Nat) (r : Nat → Nat) (S : Nat → Int32) (T : Nat → Nat → Int32) (tl : va_W) (i : Nat) (v : Int32) (hi : i < 40)  : Ct G mX7_write 0 0 0 [.ref (x 27), .int (nI i), .int v] (XW G x N R K r S T tl) (Pv (XW G x N (vf_upd R 9 (upd (R 9) i (ceV (N 14) v))) K r S T tl)) := by
  refine Ct.intro [(0, .ref (x 27)), (1, .int (nI i)), (2, .int v)] (by decide) rfl (Nat.le_of_ble_eq_true rfl) ?_
  refine z_aload_n d_X7_write_0 0 rfl ?_
  refine z_get (v := .ref (x 28)) (27) f_X7_15_7 rfl rfl d_X7_write_1 ?_
  refine z_iload_n d_X7_write_4 1 rfl ?_
  refine z_aload_n d_X7_write_5 0 rfl ?_
  refine z_get (v := .int (N 14)) (27) f_X7_9_7 rfl rfl d_X7_write_6 ?_
  refine z_if_ne d_X7_write_9 (fun c_9 => ?_) (fun c_9 => ?_)
  · refine z_aload_n d_X7_write_17 0 rfl ?_
    refine z_get (v := .int (N 14)) (27) f_X7_9_7 rfl rfl d_X7_write_18 ?_
    refine z_iconst (v := 1) d_X7_write_21 (by decide) ?_
    refine z_icmp_ne d_X7_write_22 (fun c_22 => ?_) (fun c_22 => ?_)
    · refine z_iload_n d_X7_write_30 2 rfl ?_
      refine z_iastN 28 i (XW G x N (vf_upd R 9 (upd (R 9) i v)) K r S T tl) rfl (nI_toInt (by omega)) (by omega) (xa_28 G x N R K r S T tl _) d_X7_write_31 ?_
      exact z_vret _ d_X7_write_32 rfl (Pv.of (by rw [ceV, if_neg c_9, if_neg c_22]))
    · refine z_iload_n d_X7_write_25 2 rfl ?_
      refine z_i2s d_X7_write_26 ?_
      refine z_goto d_X7_write_27 ?_
      refine z_iastN 28 i (XW G x N (vf_upd R 9 (upd (R 9) i v.toInt16.toInt32)) K r S T tl) rfl (nI_toInt (by omega)) (by omega) (xa_28 G x N R K r S T tl _) d_X7_write_31 ?_
      exact z_vret _ d_X7_write_32 rfl (Pv.of (by rw [ceV, if_neg c_9, if_pos c_22]))
  · refine z_iload_n d_X7_write_12 2 rfl ?_
    refine z_i2b d_X7_write_13 ?_
    refine z_goto d_X7_write_14 ?_
    refine z_iastN 28 i (XW G x N (vf_upd R 9 (upd (R 9) i v.toInt8.toInt32)) K r S T tl) rfl (nI_toInt (by omega)) (by omega) (xa_28 G x N R K r S T tl _) d_X7_write_31 ?_
    exact z_vret _ d_X7_write_32 rfl (Pv.of (by rw [ceV, if_pos c_9]))
set_option maxHeartbeats 4000000 in
set_option maxRecDepth 100000 in
theorem t_holds2 (G : GT) (x : Nat → Nat) (N : Nat → Int32) (R : Nat → Nat → Int32) (K : Nat → Nat → Option Nat) (r : Nat → Nat) (S : Nat → Int32) (T : Nat → Nat → Int32) (tl : va_W) (i n0 : Int32)  : Ct G mX7_holds 0 0 0 [.ref (x 27), .int i, .int n0] (XW G x N R K r S T tl) (Pi (b01 (hoQ (N 15) i n0)) (XW G x N R K r S T tl)) := by
  refine Ct.intro [(0, .ref (x 27)), (1, .int i), (2, .int n0)] (by decide) rfl (Nat.le_of_ble_eq_true rfl) ?_
  refine z_iload_n d_X7_holds_0 1 rfl ?_
  refine z_if_lt d_X7_holds_1 (fun c_1 => ?_) (fun c_1 => ?_)
  · refine z_iconst (v := 0) d_X7_holds_22 (by decide) ?_
    exact z_zret _ d_X7_holds_23 rfl (by first | rfl | decide) (Pi.of (b01_f (by rw [hoQ, Bool.and_eq_true, Bool.and_eq_true, decide_eq_true_eq, decide_eq_true_eq, decide_eq_true_eq]; rintro ⟨⟨h1, h2⟩, h3⟩; contradiction)))
  · refine z_iload_n d_X7_holds_4 2 rfl ?_
    refine z_if_lt d_X7_holds_5 (fun c_5 => ?_) (fun c_5 => ?_)
    · refine z_iconst (v := 0) d_X7_holds_22 (by decide) ?_
      exact z_zret _ d_X7_holds_23 rfl (by first | rfl | decide) (Pi.of (b01_f (by rw [hoQ, Bool.and_eq_true, Bool.and_eq_true, decide_eq_true_eq, decide_eq_true_eq, decide_eq_true_eq]; rintro ⟨⟨h1, h2⟩, h3⟩; contradiction)))
    · refine z_iload_n d_X7_holds_8 2 rfl ?_
      refine z_aload_n d_X7_holds_9 0 rfl ?_
      refine z_get (v := .int (N 15)) (27) f_X7_19_7 rfl rfl d_X7_holds_10 ?_
      refine z_iload_n d_X7_holds_13 1 rfl ?_
      refine z_isub d_X7_holds_14 ?_
      refine z_icmp_gt d_X7_holds_15 (fun c_15 => ?_) (fun c_15 => ?_)
      · refine z_iconst (v := 0) d_X7_holds_22 (by decide) ?_
        exact z_zret _ d_X7_holds_23 rfl (by first | rfl | decide) (Pi.of (b01_f (by rw [hoQ, Bool.and_eq_true, Bool.and_eq_true, decide_eq_true_eq, decide_eq_true_eq, decide_eq_true_eq]; rintro ⟨⟨h1, h2⟩, h3⟩; contradiction)))
      · refine z_iconst (v := 1) d_X7_holds_18 (by decide) ?_
        refine z_goto d_X7_holds_19 ?_
        exact z_zret _ d_X7_holds_23 rfl (by first | rfl | decide) (Pi.of (b01_t (by rw [hoQ, Bool.and_eq_true, Bool.and_eq_true, decide_eq_true_eq, decide_eq_true_eq, decide_eq_true_eq]; exact ⟨⟨c_1, c_5⟩, c_15⟩)))
set_option maxHeartbeats 4000000 in
set_option maxRecDepth 100000 in
theorem t_becomes3 (G : GT) (x : Nat → Nat) (N : Nat → Int32) (R : Nat → Nat → Int32) (K : Nat → Nat → Option Nat) (r : Nat → Nat) (S : Nat → Int32) (T : Nat → Nat → Int32) (tl : va_W) (so n0 : Int32)  : Ct G mX7_becomes 1 0 0 [.ref (x 29), .int so, .int n0] (XW G x N R K r S T tl) (Pv (XW G x (upd (upd N 16 so) 17 n0) (vf_upd R 10 (flRow (R 10) 0 40)) K r S T tl)) := by
  refine Ct.intro [(0, .ref (x 29)), (1, .int so), (2, .int n0)] (by decide) rfl (Nat.le_of_ble_eq_true rfl) ?_
  refine z_aload_n d_X7_becomes_0 0 rfl ?_
  refine z_iload_n d_X7_becomes_1 1 rfl ?_
  refine z_put 29 (XW G x (upd N 16 so) R K r S T tl) p_X7_9_7 rfl rfl rfl (Nat.le_of_ble_eq_true rfl) (xf_29_0 G x N R K r S T tl _) d_X7_becomes_2 ?_
  refine z_aload_n d_X7_becomes_5 0 rfl ?_
  refine z_iload_n d_X7_becomes_6 2 rfl ?_
  refine z_put 29 (XW G x (upd (upd N 16 so) 17 n0) R K r S T tl) p_X7_19_7 rfl rfl rfl (Nat.le_of_ble_eq_true rfl) (xf_29_1 G x (upd N 16 so) R K r S T tl _) d_X7_becomes_7 ?_
  refine z_aload_n d_X7_becomes_10 0 rfl ?_
  refine z_get (v := .ref (x 30)) (29) f_X7_15_7 rfl rfl d_X7_becomes_11 ?_
  refine z_iconst (v := 0) d_X7_becomes_14 (by decide) ?_
  refine z_callS c_X7_22 (t_J7_fill_53178 G 30 (x 30) 40 (R 10) 0 (by decide) (XW G x (upd (upd N 16 so) 17 n0) R K r S T tl) rfl) rfl rfl (Nat.le_of_ble_eq_true rfl) rfl d_X7_becomes_15 ?_
  rintro v15 w15 ⟨rfl, rfl⟩
  rw [xa_30 G x (upd (upd N 16 so) 17 n0) R K r S T tl _]
  exact z_vret _ d_X7_becomes_18 rfl (Pv.of rfl)
set_option maxHeartbeats 4000000 in
set_option maxRecDepth 100000 in
theorem t_write3 (G : GT) (x : Nat → Nat) (N : Nat → Int32) (R : Nat → Nat → Int32) (K : Nat → Nat → Option Nat) (r : Nat → Nat) (S : Nat → Int32) (T : Nat → Nat → Int32) (tl : va_W) (i : Nat) (v : Int32) (hi : i < 40)  : Ct G mX7_write 0 0 0 [.ref (x 29), .int (nI i), .int v] (XW G x N R K r S T tl) (Pv (XW G x N (vf_upd R 10 (upd (R 10) i (ceV (N 16) v))) K r S T tl)) := by
  refine Ct.intro [(0, .ref (x 29)), (1, .int (nI i)), (2, .int v)] (by decide) rfl (Nat.le_of_ble_eq_true rfl) ?_
  refine z_aload_n d_X7_write_0 0 rfl ?_
  refine z_get (v := .ref (x 30)) (29) f_X7_15_7 rfl rfl d_X7_write_1 ?_
  refine z_iload_n d_X7_write_4 1 rfl ?_
  refine z_aload_n d_X7_write_5 0 rfl ?_
  refine z_get (v := .int (N 16)) (29) f_X7_9_7 rfl rfl d_X7_write_6 ?_
  refine z_if_ne d_X7_write_9 (fun c_9 => ?_) (fun c_9 => ?_)
  · refine z_aload_n d_X7_write_17 0 rfl ?_
    refine z_get (v := .int (N 16)) (29) f_X7_9_7 rfl rfl d_X7_write_18 ?_
    refine z_iconst (v := 1) d_X7_write_21 (by decide) ?_
    refine z_icmp_ne d_X7_write_22 (fun c_22 => ?_) (fun c_22 => ?_)
    · refine z_iload_n d_X7_write_30 2 rfl ?_
      refine z_iastN 30 i (XW G x N (vf_upd R 10 (upd (R 10) i v)) K r S T tl) rfl (nI_toInt (by omega)) (by omega) (xa_30 G x N R K r S T tl _) d_X7_write_31 ?_
      exact z_vret _ d_X7_write_32 rfl (Pv.of (by rw [ceV, if_neg c_9, if_neg c_22]))
    · refine z_iload_n d_X7_write_25 2 rfl ?_
      refine z_i2s d_X7_write_26 ?_
      refine z_goto d_X7_write_27 ?_
      refine z_iastN 30 i (XW G x N (vf_upd R 10 (upd (R 10) i v.toInt16.toInt32)) K r S T tl) rfl (nI_toInt (by omega)) (by omega) (xa_30 G x N R K r S T tl _) d_X7_write_31 ?_
      exact z_vret _ d_X7_write_32 rfl (Pv.of (by rw [ceV, if_neg c_9, if_pos c_22]))
  · refine z_iload_n d_X7_write_12 2 rfl ?_
    refine z_i2b d_X7_write_13 ?_
    refine z_goto d_X7_write_14 ?_
    refine z_iastN 30 i (XW G x N (vf_upd R 10 (upd (R 10) i v.toInt8.toInt32)) K r S T tl) rfl (nI_toInt (by omega)) (by omega) (xa_30 G x N R K r S T tl _) d_X7_write_31 ?_
    exact z_vret _ d_X7_write_32 rfl (Pv.of (by rw [ceV, if_pos c_9]))
set_option maxHeartbeats 4000000 in
set_option maxRecDepth 100000 in
theorem t_holds3 (G : GT) (x : Nat → Nat) (N : Nat → Int32) (R : Nat → Nat → Int32) (K : Nat → Nat → Option Nat) (r : Nat → Nat) (S : Nat → Int32) (T : Nat → Nat → Int32) (tl : va_W) (i n0 : Int32)  : Ct G mX7_holds 0 0 0 [.ref (x 29), .int i, .int n0] (XW G x N R K r S T tl) (Pi (b01 (hoQ (N 17) i n0)) (XW G x N R K r S T tl)) := by
  refine Ct.intro [(0, .ref (x 29)), (1, .int i), (2, .int n0)] (by decide) rfl (Nat.le_of_ble_eq_true rfl) ?_
  refine z_iload_n d_X7_holds_0 1 rfl ?_
  refine z_if_lt d_X7_holds_1 (fun c_1 => ?_) (fun c_1 => ?_)
  · refine z_iconst (v := 0) d_X7_holds_22 (by decide) ?_
    exact z_zret _ d_X7_holds_23 rfl (by first | rfl | decide) (Pi.of (b01_f (by rw [hoQ, Bool.and_eq_true, Bool.and_eq_true, decide_eq_true_eq, decide_eq_true_eq, decide_eq_true_eq]; rintro ⟨⟨h1, h2⟩, h3⟩; contradiction)))
  · refine z_iload_n d_X7_holds_4 2 rfl ?_
    refine z_if_lt d_X7_holds_5 (fun c_5 => ?_) (fun c_5 => ?_)
    · refine z_iconst (v := 0) d_X7_holds_22 (by decide) ?_
      exact z_zret _ d_X7_holds_23 rfl (by first | rfl | decide) (Pi.of (b01_f (by rw [hoQ, Bool.and_eq_true, Bool.and_eq_true, decide_eq_true_eq, decide_eq_true_eq, decide_eq_true_eq]; rintro ⟨⟨h1, h2⟩, h3⟩; contradiction)))
    · refine z_iload_n d_X7_holds_8 2 rfl ?_
      refine z_aload_n d_X7_holds_9 0 rfl ?_
      refine z_get (v := .int (N 17)) (29) f_X7_19_7 rfl rfl d_X7_holds_10 ?_
      refine z_iload_n d_X7_holds_13 1 rfl ?_
      refine z_isub d_X7_holds_14 ?_
      refine z_icmp_gt d_X7_holds_15 (fun c_15 => ?_) (fun c_15 => ?_)
      · refine z_iconst (v := 0) d_X7_holds_22 (by decide) ?_
        exact z_zret _ d_X7_holds_23 rfl (by first | rfl | decide) (Pi.of (b01_f (by rw [hoQ, Bool.and_eq_true, Bool.and_eq_true, decide_eq_true_eq, decide_eq_true_eq, decide_eq_true_eq]; rintro ⟨⟨h1, h2⟩, h3⟩; contradiction)))
      · refine z_iconst (v := 1) d_X7_holds_18 (by decide) ?_
        refine z_goto d_X7_holds_19 ?_
        exact z_zret _ d_X7_holds_23 rfl (by first | rfl | decide) (Pi.of (b01_t (by rw [hoQ, Bool.and_eq_true, Bool.and_eq_true, decide_eq_true_eq, decide_eq_true_eq, decide_eq_true_eq]; exact ⟨⟨c_1, c_5⟩, c_15⟩)))
theorem shP_iff {s so n0 : Int32} : shP s so n0 = true ↔ inB s 0 3 = true ∧ (so = -1 ∨ (inB so 0 2 = true ∧ ¬ 40 < n0)) := by
  have hm : so = -1 ↔ so.toInt = -1 := by rw [← Int32.toInt_inj, show (-1 : Int32).toInt = -1 by decide]
  unfold shP
  rw [Bool.and_eq_true, Bool.and_eq_true, Bool.or_eq_true, inB_iff, inB_iff, inB_iff, decide_eq_true_eq, Bool.not_eq_true', decide_eq_false_iff_not, hm]
  simp only [lt_i, i_0]
  omega
theorem sh_ne (A : Nat → Nat → Int32) {j : Nat} {so n0 t : Int32} {k : Nat} (h : ¬ (36 ≤ k ∧ k ≤ 39)) : shT A j so n0 t k = A k := by
  unfold shT vf_upd
  rw [if_neg (by omega), if_neg (by omega), if_neg (by omega)]
theorem zr_out (j : Nat) (row : Nat → Int32) (q : Nat) : ∀ (n : Nat), (∀ i, i < n → ¬ q = 40 * j + i) → itL (zrF j) row n q = row q
  | 0, _ => rfl
  | n + 1, h => by
    rw [itL, zrF, upd, if_neg (h n (by omega))]
    exact zr_out j row q n (fun i hi => h i (by omega))
theorem zr_in (j : Nat) (row : Nat → Int32) : ∀ (n i : Nat), i < n → itL (zrF j) row n (40 * j + i) = 0
  | 0, i, h => absurd h (by omega)
  | n + 1, i, h => by
    rw [itL, zrF, upd]
    by_cases e : i = n
    · rw [if_pos (by rw [e])]
    · rw [if_neg (by omega)]; exact zr_in j row n i (by omega)
theorem uq_s {f : Nat → Int32} {k : Nat} {v : Int32} : upd f k v k = v := if_pos rfl
theorem uq_n {f : Nat → Int32} {k i : Nat} {v : Int32} (h : ¬ i = k) : upd f k v i = f i := if_neg h
theorem ShS.off {A : Nat → Nat → Int32} {N : Nat → Int32} {R : Nat → Nat → Int32} (h : ShS A N R) {j : Nat} (hj : j < 4) {so n0 : Int32} {g : Nat → Int32} : ShS (shT A j so n0 0) (upd (upd N (10 + 2 * j) (-1)) (11 + 2 * j) 0) (vf_upd R (7 + j) g) := by
  refine h.one hj (fun k hk e => ⟨uq_n e, uq_n e, uq_n e, fun _ _ => rfl⟩) (fun k hk e => ⟨?_, ?_, ?_⟩) (Or.inl ⟨uq_s, ?_⟩)
  · rw [uq_n (by omega), uq_n (by omega)]
  · rw [uq_n (by omega), uq_n (by omega)]
  · unfold vf_upd; rw [if_neg (by omega)]
  · rw [uq_n (by omega), uq_s]
theorem ShS.on {A : Nat → Nat → Int32} {N : Nat → Int32} {R : Nat → Nat → Int32} (h : ShS A N R) {j : Nat} (hj : j < 4) {so n0 : Int32} (hs : inB so 0 2 = true) (h0 : 0 ≤ n0.toInt) (h40 : n0.toInt ≤ 40) : ShS (vf_upd (shT A j so n0 1) 39 (itL (zrF j) (A 39) n0.toInt.toNat)) (upd (upd N (10 + 2 * j) so) (11 + 2 * j) n0) (vf_upd R (7 + j) (flRow (R (7 + j)) 0 40)) := by
  rw [inB_iff] at hs
  refine h.one hj (fun k hk e => ⟨uq_n e, uq_n e, uq_n e, fun i hi => zr_out j (A 39) _ _ (fun q hq => by omega)⟩) (fun k hk e => ⟨?_, ?_, ?_⟩) (Or.inr ⟨by show ¬ upd (A 36) j 1 j = 0; rw [uq_s]; decide, ?_, by show 0 ≤ (upd (A 37) j so j).toInt; rw [uq_s]; exact hs.1, by show (upd (A 37) j so j).toInt ≤ 2; rw [uq_s]; exact hs.2, ?_, by show 0 ≤ (upd (A 38) j n0 j).toInt; rw [uq_s]; exact h0, by show (upd (A 38) j n0 j).toInt ≤ 40; rw [uq_s]; exact h40, fun i hi => ?_⟩)
  · rw [uq_n (by omega), uq_n (by omega)]
  · rw [uq_n (by omega), uq_n (by omega)]
  · unfold vf_upd; rw [if_neg (by omega)]
  · rw [uq_n (by omega), uq_s]; show so = upd (A 37) j so j; rw [uq_s]
  · rw [uq_s]; show n0 = upd (A 38) j n0 j; rw [uq_s]
  · replace hi : i < (upd (A 38) j n0 j).toInt.toNat := hi
    rw [uq_s] at hi
    show vf_upd R (7 + j) (flRow (R (7 + j)) 0 40) (7 + j) i = itL (zrF j) (A 39) n0.toInt.toNat (40 * j + i)
    rw [zr_in j (A 39) _ i hi]
    unfold vf_upd flRow
    rw [if_pos rfl, if_pos (by omega)]
set_option maxHeartbeats 4000000 in
set_option maxRecDepth 100000 in
theorem t_X11_sheet (G : GT) (x : Nat → Nat) (N : Nat → Int32) (R : Nat → Nat → Int32) (K : Nat → Nat → Option Nat) (r : Nat → Nat) (S : Nat → Int32) (T : Nat → Nat → Int32) (tl : va_W) (I : Nat → Int32) (A : Nat → Nat → Int32) (hx : XRel G I A N R K r tl) (s : Int32) (so : Int32) (n0 : Int32)  : Ct G mX11_sheet 2 0 0 [.ref (x 0), .int s, .int so, .int n0] (XW G x N R K r S T tl) (XP G x (some (.int (sheR s so n0))) I (sheA A s so n0)) := by
  have h := hx.nt
  refine Ct.intro [(0, .ref (x 0)), (1, .int s), (2, .int so), (3, .int n0)] (by decide) rfl (Nat.le_of_ble_eq_true rfl) ?_
  refine z_iload_n d_X11_sheet_0 1 rfl ?_
  refine z_callSp c_X11_247 (t_X11_isSheet G s (XW G x N R K r S T tl)) rfl rfl (Nat.le_of_ble_eq_true rfl) rfl d_X11_sheet_1 ?_
  refine z_if_eq d_X11_sheet_4 (fun c_4 => ?_) (fun c_4 => ?_)
  · refine z_bipush (v := -2) d_X11_sheet_19 (by decide) ?_
    exact z_iret _ d_X11_sheet_21 rfl (XP.of (by rw [sheR, sheX, if_neg (fun hh => by have g := (shP_iff.mp hh).1; rw [b01_z c_4] at g; exact absurd g (by decide))]) (by rw [sheA, sheX, if_neg (fun hh => by have g := (shP_iff.mp hh).1; rw [b01_z c_4] at g; exact absurd g (by decide))]; exact hx))
  · refine z_iload_n d_X11_sheet_7 2 rfl ?_
    refine z_iconst (v := -1) d_X11_sheet_8 (by decide) ?_
    refine z_icmp_eq d_X11_sheet_9 (fun c_9 => ?_) (fun c_9 => ?_)
    · have hin := b01_o c_4
      obtain ⟨j_s, hj_s, ej_s⟩ := inB_nI hin
      replace hj_s : j_s < 4 := hj_s
      subst ej_s
      rcases (show j_s = 0 ∨ j_s = 1 ∨ j_s = 2 ∨ j_s = 3 by omega) with rfl | rfl | rfl | rfl
      · refine z_iload_n d_X11_sheet_22 2 rfl ?_
        refine z_iconst (v := -1) d_X11_sheet_23 (by decide) ?_
        refine z_icmp_ne d_X11_sheet_24 (fun c_24 => ?_) (fun c_24 => ?_)
        · have hso : inB so 0 2 = true := by first | exact absurd c_9 c_24 | exact b01_o c_16
          have hnl : ¬ so < 0 := by rw [inB_iff] at hso; rw [lt_i, i_0]; omega
          refine z_iload_n d_X11_sheet_40 3 rfl ?_
          refine z_bipush (v := 40) d_X11_sheet_41 (by decide) ?_
          refine z_icmp_le d_X11_sheet_43 (fun c_43 => ?_) (fun c_43 => ?_)
          · refine z_iload_n d_X11_sheet_49 3 rfl ?_
            refine z_if_ge d_X11_sheet_50 (fun c_50 => ?_) (fun c_50 => ?_)
            · refine z_aload_n d_X11_sheet_56 0 rfl ?_
              refine z_get (v := .ref (x 22)) (0) f_X11_24_11 rfl rfl d_X11_sheet_57 ?_
              refine z_iload_n d_X11_sheet_60 1 rfl ?_
              refine z_aldq (C0 := RX7) 22 5 0 rfl rfl (nI_toInt (by omega)) (by omega) d_X11_sheet_61 ?_
              refine z_topv (v := .ref (x 23)) rfl ?_
              refine z_iload_n d_X11_sheet_62 2 rfl ?_
              refine z_iload_n d_X11_sheet_63 3 rfl ?_
              refine z_callVv 23 c_X11_253 (t_becomes0 G x N R K r S T tl so n0) rfl rfl rfl rfl (Nat.le_of_ble_eq_true rfl) rfl d_X11_sheet_64 ?_
              refine z_iconst (v := 1) d_X11_sheet_67 (by decide) ?_
              exact z_iret _ d_X11_sheet_68 rfl (XP.of (by rw [sheR, sheX, if_pos (shP_iff.mpr ⟨hin, Or.inr ⟨hso, c_43⟩⟩), if_neg hnl, if_neg c_50]) (by rw [sheA, sheX, if_pos (shP_iff.mpr ⟨hin, Or.inr ⟨hso, c_43⟩⟩), if_neg hnl, if_neg c_50]; exact hx.sh (fun k hk => by unfold vf_upd; rw [if_neg (by omega)]; exact sh_ne A hk) (fun i hi => by rw [uq_n (by omega), uq_n (by omega)]) (fun i hi => if_neg (by omega)) (hx.ss.on (j := 0) (by decide) hso (by rw [lt_i, i_0] at c_50; omega) (by rw [lt_i, l_40] at c_43; omega))))
            · refine z_bipush (v := -14) d_X11_sheet_53 (by decide) ?_
              exact z_iret _ d_X11_sheet_55 rfl (XP.of (by rw [sheR, sheX, if_pos (shP_iff.mpr ⟨hin, Or.inr ⟨hso, c_43⟩⟩), if_neg hnl, if_pos c_50]) (by rw [sheA, sheX, if_pos (shP_iff.mpr ⟨hin, Or.inr ⟨hso, c_43⟩⟩), if_neg hnl, if_pos c_50]; exact hx))
          · refine z_bipush (v := -2) d_X11_sheet_46 (by decide) ?_
            exact z_iret _ d_X11_sheet_48 rfl (XP.of (by rw [sheR, sheX, if_neg (fun hh => by rcases (shP_iff.mp hh).2 with g | g; exact c_24 g; exact g.2 c_43)]) (by rw [sheA, sheX, if_neg (fun hh => by rcases (shP_iff.mp hh).2 with g | g; exact c_24 g; exact g.2 c_43)]; exact hx))
        · have hlt : so < 0 := by rw [c_24]; decide
          refine z_aload_n d_X11_sheet_27 0 rfl ?_
          refine z_get (v := .ref (x 22)) (0) f_X11_24_11 rfl rfl d_X11_sheet_28 ?_
          refine z_iload_n d_X11_sheet_31 1 rfl ?_
          refine z_aldq (C0 := RX7) 22 5 0 rfl rfl (nI_toInt (by omega)) (by omega) d_X11_sheet_32 ?_
          refine z_topv (v := .ref (x 23)) rfl ?_
          refine z_iconst (v := -1) d_X11_sheet_33 (by decide) ?_
          refine z_iconst (v := 0) d_X11_sheet_34 (by decide) ?_
          refine z_callVv 23 c_X11_253 (t_becomes0 G x N R K r S T tl (-1) 0) rfl rfl rfl rfl (Nat.le_of_ble_eq_true rfl) rfl d_X11_sheet_35 ?_
          refine z_iconst (v := 1) d_X11_sheet_38 (by decide) ?_
          exact z_iret _ d_X11_sheet_39 rfl (XP.of (by rw [sheR, sheX, if_pos (shP_iff.mpr ⟨hin, Or.inl c_24⟩), if_pos hlt]) (by rw [sheA, sheX, if_pos (shP_iff.mpr ⟨hin, Or.inl c_24⟩), if_pos hlt]; exact hx.sh (fun k hk => sh_ne A hk) (fun i hi => by rw [uq_n (by omega), uq_n (by omega)]) (fun i hi => if_neg (by omega)) (hx.ss.off (j := 0) (by decide))))
      · refine z_iload_n d_X11_sheet_22 2 rfl ?_
        refine z_iconst (v := -1) d_X11_sheet_23 (by decide) ?_
        refine z_icmp_ne d_X11_sheet_24 (fun c_24 => ?_) (fun c_24 => ?_)
        · have hso : inB so 0 2 = true := by first | exact absurd c_9 c_24 | exact b01_o c_16
          have hnl : ¬ so < 0 := by rw [inB_iff] at hso; rw [lt_i, i_0]; omega
          refine z_iload_n d_X11_sheet_40 3 rfl ?_
          refine z_bipush (v := 40) d_X11_sheet_41 (by decide) ?_
          refine z_icmp_le d_X11_sheet_43 (fun c_43 => ?_) (fun c_43 => ?_)
          · refine z_iload_n d_X11_sheet_49 3 rfl ?_
            refine z_if_ge d_X11_sheet_50 (fun c_50 => ?_) (fun c_50 => ?_)
            · refine z_aload_n d_X11_sheet_56 0 rfl ?_
              refine z_get (v := .ref (x 22)) (0) f_X11_24_11 rfl rfl d_X11_sheet_57 ?_
              refine z_iload_n d_X11_sheet_60 1 rfl ?_
              refine z_aldq (C0 := RX7) 22 5 1 rfl rfl (nI_toInt (by omega)) (by omega) d_X11_sheet_61 ?_
              refine z_topv (v := .ref (x 25)) rfl ?_
              refine z_iload_n d_X11_sheet_62 2 rfl ?_
              refine z_iload_n d_X11_sheet_63 3 rfl ?_
              refine z_callVv 25 c_X11_253 (t_becomes1 G x N R K r S T tl so n0) rfl rfl rfl rfl (Nat.le_of_ble_eq_true rfl) rfl d_X11_sheet_64 ?_
              refine z_iconst (v := 1) d_X11_sheet_67 (by decide) ?_
              exact z_iret _ d_X11_sheet_68 rfl (XP.of (by rw [sheR, sheX, if_pos (shP_iff.mpr ⟨hin, Or.inr ⟨hso, c_43⟩⟩), if_neg hnl, if_neg c_50]) (by rw [sheA, sheX, if_pos (shP_iff.mpr ⟨hin, Or.inr ⟨hso, c_43⟩⟩), if_neg hnl, if_neg c_50]; exact hx.sh (fun k hk => by unfold vf_upd; rw [if_neg (by omega)]; exact sh_ne A hk) (fun i hi => by rw [uq_n (by omega), uq_n (by omega)]) (fun i hi => if_neg (by omega)) (hx.ss.on (j := 1) (by decide) hso (by rw [lt_i, i_0] at c_50; omega) (by rw [lt_i, l_40] at c_43; omega))))
            · refine z_bipush (v := -14) d_X11_sheet_53 (by decide) ?_
              exact z_iret _ d_X11_sheet_55 rfl (XP.of (by rw [sheR, sheX, if_pos (shP_iff.mpr ⟨hin, Or.inr ⟨hso, c_43⟩⟩), if_neg hnl, if_pos c_50]) (by rw [sheA, sheX, if_pos (shP_iff.mpr ⟨hin, Or.inr ⟨hso, c_43⟩⟩), if_neg hnl, if_pos c_50]; exact hx))
          · refine z_bipush (v := -2) d_X11_sheet_46 (by decide) ?_
            exact z_iret _ d_X11_sheet_48 rfl (XP.of (by rw [sheR, sheX, if_neg (fun hh => by rcases (shP_iff.mp hh).2 with g | g; exact c_24 g; exact g.2 c_43)]) (by rw [sheA, sheX, if_neg (fun hh => by rcases (shP_iff.mp hh).2 with g | g; exact c_24 g; exact g.2 c_43)]; exact hx))
        · have hlt : so < 0 := by rw [c_24]; decide
          refine z_aload_n d_X11_sheet_27 0 rfl ?_
          refine z_get (v := .ref (x 22)) (0) f_X11_24_11 rfl rfl d_X11_sheet_28 ?_
          refine z_iload_n d_X11_sheet_31 1 rfl ?_
          refine z_aldq (C0 := RX7) 22 5 1 rfl rfl (nI_toInt (by omega)) (by omega) d_X11_sheet_32 ?_
          refine z_topv (v := .ref (x 25)) rfl ?_
          refine z_iconst (v := -1) d_X11_sheet_33 (by decide) ?_
          refine z_iconst (v := 0) d_X11_sheet_34 (by decide) ?_
          refine z_callVv 25 c_X11_253 (t_becomes1 G x N R K r S T tl (-1) 0) rfl rfl rfl rfl (Nat.le_of_ble_eq_true rfl) rfl d_X11_sheet_35 ?_
          refine z_iconst (v := 1) d_X11_sheet_38 (by decide) ?_
          exact z_iret _ d_X11_sheet_39 rfl (XP.of (by rw [sheR, sheX, if_pos (shP_iff.mpr ⟨hin, Or.inl c_24⟩), if_pos hlt]) (by rw [sheA, sheX, if_pos (shP_iff.mpr ⟨hin, Or.inl c_24⟩), if_pos hlt]; exact hx.sh (fun k hk => sh_ne A hk) (fun i hi => by rw [uq_n (by omega), uq_n (by omega)]) (fun i hi => if_neg (by omega)) (hx.ss.off (j := 1) (by decide))))
      · refine z_iload_n d_X11_sheet_22 2 rfl ?_
        refine z_iconst (v := -1) d_X11_sheet_23 (by decide) ?_
        refine z_icmp_ne d_X11_sheet_24 (fun c_24 => ?_) (fun c_24 => ?_)
        · have hso : inB so 0 2 = true := by first | exact absurd c_9 c_24 | exact b01_o c_16
          have hnl : ¬ so < 0 := by rw [inB_iff] at hso; rw [lt_i, i_0]; omega
          refine z_iload_n d_X11_sheet_40 3 rfl ?_
          refine z_bipush (v := 40) d_X11_sheet_41 (by decide) ?_
          refine z_icmp_le d_X11_sheet_43 (fun c_43 => ?_) (fun c_43 => ?_)
          · refine z_iload_n d_X11_sheet_49 3 rfl ?_
            refine z_if_ge d_X11_sheet_50 (fun c_50 => ?_) (fun c_50 => ?_)
            · refine z_aload_n d_X11_sheet_56 0 rfl ?_
              refine z_get (v := .ref (x 22)) (0) f_X11_24_11 rfl rfl d_X11_sheet_57 ?_
              refine z_iload_n d_X11_sheet_60 1 rfl ?_
              refine z_aldq (C0 := RX7) 22 5 2 rfl rfl (nI_toInt (by omega)) (by omega) d_X11_sheet_61 ?_
              refine z_topv (v := .ref (x 27)) rfl ?_
              refine z_iload_n d_X11_sheet_62 2 rfl ?_
              refine z_iload_n d_X11_sheet_63 3 rfl ?_
              refine z_callVv 27 c_X11_253 (t_becomes2 G x N R K r S T tl so n0) rfl rfl rfl rfl (Nat.le_of_ble_eq_true rfl) rfl d_X11_sheet_64 ?_
              refine z_iconst (v := 1) d_X11_sheet_67 (by decide) ?_
              exact z_iret _ d_X11_sheet_68 rfl (XP.of (by rw [sheR, sheX, if_pos (shP_iff.mpr ⟨hin, Or.inr ⟨hso, c_43⟩⟩), if_neg hnl, if_neg c_50]) (by rw [sheA, sheX, if_pos (shP_iff.mpr ⟨hin, Or.inr ⟨hso, c_43⟩⟩), if_neg hnl, if_neg c_50]; exact hx.sh (fun k hk => by unfold vf_upd; rw [if_neg (by omega)]; exact sh_ne A hk) (fun i hi => by rw [uq_n (by omega), uq_n (by omega)]) (fun i hi => if_neg (by omega)) (hx.ss.on (j := 2) (by decide) hso (by rw [lt_i, i_0] at c_50; omega) (by rw [lt_i, l_40] at c_43; omega))))
            · refine z_bipush (v := -14) d_X11_sheet_53 (by decide) ?_
              exact z_iret _ d_X11_sheet_55 rfl (XP.of (by rw [sheR, sheX, if_pos (shP_iff.mpr ⟨hin, Or.inr ⟨hso, c_43⟩⟩), if_neg hnl, if_pos c_50]) (by rw [sheA, sheX, if_pos (shP_iff.mpr ⟨hin, Or.inr ⟨hso, c_43⟩⟩), if_neg hnl, if_pos c_50]; exact hx))
          · refine z_bipush (v := -2) d_X11_sheet_46 (by decide) ?_
            exact z_iret _ d_X11_sheet_48 rfl (XP.of (by rw [sheR, sheX, if_neg (fun hh => by rcases (shP_iff.mp hh).2 with g | g; exact c_24 g; exact g.2 c_43)]) (by rw [sheA, sheX, if_neg (fun hh => by rcases (shP_iff.mp hh).2 with g | g; exact c_24 g; exact g.2 c_43)]; exact hx))
        · have hlt : so < 0 := by rw [c_24]; decide
          refine z_aload_n d_X11_sheet_27 0 rfl ?_
          refine z_get (v := .ref (x 22)) (0) f_X11_24_11 rfl rfl d_X11_sheet_28 ?_
          refine z_iload_n d_X11_sheet_31 1 rfl ?_
          refine z_aldq (C0 := RX7) 22 5 2 rfl rfl (nI_toInt (by omega)) (by omega) d_X11_sheet_32 ?_
          refine z_topv (v := .ref (x 27)) rfl ?_
          refine z_iconst (v := -1) d_X11_sheet_33 (by decide) ?_
          refine z_iconst (v := 0) d_X11_sheet_34 (by decide) ?_
          refine z_callVv 27 c_X11_253 (t_becomes2 G x N R K r S T tl (-1) 0) rfl rfl rfl rfl (Nat.le_of_ble_eq_true rfl) rfl d_X11_sheet_35 ?_
          refine z_iconst (v := 1) d_X11_sheet_38 (by decide) ?_
          exact z_iret _ d_X11_sheet_39 rfl (XP.of (by rw [sheR, sheX, if_pos (shP_iff.mpr ⟨hin, Or.inl c_24⟩), if_pos hlt]) (by rw [sheA, sheX, if_pos (shP_iff.mpr ⟨hin, Or.inl c_24⟩), if_pos hlt]; exact hx.sh (fun k hk => sh_ne A hk) (fun i hi => by rw [uq_n (by omega), uq_n (by omega)]) (fun i hi => if_neg (by omega)) (hx.ss.off (j := 2) (by decide))))
      · refine z_iload_n d_X11_sheet_22 2 rfl ?_
        refine z_iconst (v := -1) d_X11_sheet_23 (by decide) ?_
        refine z_icmp_ne d_X11_sheet_24 (fun c_24 => ?_) (fun c_24 => ?_)
        · have hso : inB so 0 2 = true := by first | exact absurd c_9 c_24 | exact b01_o c_16
          have hnl : ¬ so < 0 := by rw [inB_iff] at hso; rw [lt_i, i_0]; omega
          refine z_iload_n d_X11_sheet_40 3 rfl ?_
          refine z_bipush (v := 40) d_X11_sheet_41 (by decide) ?_
          refine z_icmp_le d_X11_sheet_43 (fun c_43 => ?_) (fun c_43 => ?_)
          · refine z_iload_n d_X11_sheet_49 3 rfl ?_
            refine z_if_ge d_X11_sheet_50 (fun c_50 => ?_) (fun c_50 => ?_)
            · refine z_aload_n d_X11_sheet_56 0 rfl ?_
              refine z_get (v := .ref (x 22)) (0) f_X11_24_11 rfl rfl d_X11_sheet_57 ?_
              refine z_iload_n d_X11_sheet_60 1 rfl ?_
              refine z_aldq (C0 := RX7) 22 5 3 rfl rfl (nI_toInt (by omega)) (by omega) d_X11_sheet_61 ?_
              refine z_topv (v := .ref (x 29)) rfl ?_
              refine z_iload_n d_X11_sheet_62 2 rfl ?_
              refine z_iload_n d_X11_sheet_63 3 rfl ?_
              refine z_callVv 29 c_X11_253 (t_becomes3 G x N R K r S T tl so n0) rfl rfl rfl rfl (Nat.le_of_ble_eq_true rfl) rfl d_X11_sheet_64 ?_
              refine z_iconst (v := 1) d_X11_sheet_67 (by decide) ?_
              exact z_iret _ d_X11_sheet_68 rfl (XP.of (by rw [sheR, sheX, if_pos (shP_iff.mpr ⟨hin, Or.inr ⟨hso, c_43⟩⟩), if_neg hnl, if_neg c_50]) (by rw [sheA, sheX, if_pos (shP_iff.mpr ⟨hin, Or.inr ⟨hso, c_43⟩⟩), if_neg hnl, if_neg c_50]; exact hx.sh (fun k hk => by unfold vf_upd; rw [if_neg (by omega)]; exact sh_ne A hk) (fun i hi => by rw [uq_n (by omega), uq_n (by omega)]) (fun i hi => if_neg (by omega)) (hx.ss.on (j := 3) (by decide) hso (by rw [lt_i, i_0] at c_50; omega) (by rw [lt_i, l_40] at c_43; omega))))
            · refine z_bipush (v := -14) d_X11_sheet_53 (by decide) ?_
              exact z_iret _ d_X11_sheet_55 rfl (XP.of (by rw [sheR, sheX, if_pos (shP_iff.mpr ⟨hin, Or.inr ⟨hso, c_43⟩⟩), if_neg hnl, if_pos c_50]) (by rw [sheA, sheX, if_pos (shP_iff.mpr ⟨hin, Or.inr ⟨hso, c_43⟩⟩), if_neg hnl, if_pos c_50]; exact hx))
          · refine z_bipush (v := -2) d_X11_sheet_46 (by decide) ?_
            exact z_iret _ d_X11_sheet_48 rfl (XP.of (by rw [sheR, sheX, if_neg (fun hh => by rcases (shP_iff.mp hh).2 with g | g; exact c_24 g; exact g.2 c_43)]) (by rw [sheA, sheX, if_neg (fun hh => by rcases (shP_iff.mp hh).2 with g | g; exact c_24 g; exact g.2 c_43)]; exact hx))
        · have hlt : so < 0 := by rw [c_24]; decide
          refine z_aload_n d_X11_sheet_27 0 rfl ?_
          refine z_get (v := .ref (x 22)) (0) f_X11_24_11 rfl rfl d_X11_sheet_28 ?_
          refine z_iload_n d_X11_sheet_31 1 rfl ?_
          refine z_aldq (C0 := RX7) 22 5 3 rfl rfl (nI_toInt (by omega)) (by omega) d_X11_sheet_32 ?_
          refine z_topv (v := .ref (x 29)) rfl ?_
          refine z_iconst (v := -1) d_X11_sheet_33 (by decide) ?_
          refine z_iconst (v := 0) d_X11_sheet_34 (by decide) ?_
          refine z_callVv 29 c_X11_253 (t_becomes3 G x N R K r S T tl (-1) 0) rfl rfl rfl rfl (Nat.le_of_ble_eq_true rfl) rfl d_X11_sheet_35 ?_
          refine z_iconst (v := 1) d_X11_sheet_38 (by decide) ?_
          exact z_iret _ d_X11_sheet_39 rfl (XP.of (by rw [sheR, sheX, if_pos (shP_iff.mpr ⟨hin, Or.inl c_24⟩), if_pos hlt]) (by rw [sheA, sheX, if_pos (shP_iff.mpr ⟨hin, Or.inl c_24⟩), if_pos hlt]; exact hx.sh (fun k hk => sh_ne A hk) (fun i hi => by rw [uq_n (by omega), uq_n (by omega)]) (fun i hi => if_neg (by omega)) (hx.ss.off (j := 3) (by decide))))
    · refine z_iload_n d_X11_sheet_12 2 rfl ?_
      refine z_callSp c_X11_250 (t_X11_isSort G so (XW G x N R K r S T tl)) rfl rfl (Nat.le_of_ble_eq_true rfl) rfl d_X11_sheet_13 ?_
      refine z_if_ne d_X11_sheet_16 (fun c_16 => ?_) (fun c_16 => ?_)
      · have hin := b01_o c_4
        obtain ⟨j_s, hj_s, ej_s⟩ := inB_nI hin
        replace hj_s : j_s < 4 := hj_s
        subst ej_s
        rcases (show j_s = 0 ∨ j_s = 1 ∨ j_s = 2 ∨ j_s = 3 by omega) with rfl | rfl | rfl | rfl
        · refine z_iload_n d_X11_sheet_22 2 rfl ?_
          refine z_iconst (v := -1) d_X11_sheet_23 (by decide) ?_
          refine z_icmp_ne d_X11_sheet_24 (fun c_24 => ?_) (fun c_24 => ?_)
          · have hso : inB so 0 2 = true := by first | exact absurd c_9 c_24 | exact b01_o c_16
            have hnl : ¬ so < 0 := by rw [inB_iff] at hso; rw [lt_i, i_0]; omega
            refine z_iload_n d_X11_sheet_40 3 rfl ?_
            refine z_bipush (v := 40) d_X11_sheet_41 (by decide) ?_
            refine z_icmp_le d_X11_sheet_43 (fun c_43 => ?_) (fun c_43 => ?_)
            · refine z_iload_n d_X11_sheet_49 3 rfl ?_
              refine z_if_ge d_X11_sheet_50 (fun c_50 => ?_) (fun c_50 => ?_)
              · refine z_aload_n d_X11_sheet_56 0 rfl ?_
                refine z_get (v := .ref (x 22)) (0) f_X11_24_11 rfl rfl d_X11_sheet_57 ?_
                refine z_iload_n d_X11_sheet_60 1 rfl ?_
                refine z_aldq (C0 := RX7) 22 5 0 rfl rfl (nI_toInt (by omega)) (by omega) d_X11_sheet_61 ?_
                refine z_topv (v := .ref (x 23)) rfl ?_
                refine z_iload_n d_X11_sheet_62 2 rfl ?_
                refine z_iload_n d_X11_sheet_63 3 rfl ?_
                refine z_callVv 23 c_X11_253 (t_becomes0 G x N R K r S T tl so n0) rfl rfl rfl rfl (Nat.le_of_ble_eq_true rfl) rfl d_X11_sheet_64 ?_
                refine z_iconst (v := 1) d_X11_sheet_67 (by decide) ?_
                exact z_iret _ d_X11_sheet_68 rfl (XP.of (by rw [sheR, sheX, if_pos (shP_iff.mpr ⟨hin, Or.inr ⟨hso, c_43⟩⟩), if_neg hnl, if_neg c_50]) (by rw [sheA, sheX, if_pos (shP_iff.mpr ⟨hin, Or.inr ⟨hso, c_43⟩⟩), if_neg hnl, if_neg c_50]; exact hx.sh (fun k hk => by unfold vf_upd; rw [if_neg (by omega)]; exact sh_ne A hk) (fun i hi => by rw [uq_n (by omega), uq_n (by omega)]) (fun i hi => if_neg (by omega)) (hx.ss.on (j := 0) (by decide) hso (by rw [lt_i, i_0] at c_50; omega) (by rw [lt_i, l_40] at c_43; omega))))
              · refine z_bipush (v := -14) d_X11_sheet_53 (by decide) ?_
                exact z_iret _ d_X11_sheet_55 rfl (XP.of (by rw [sheR, sheX, if_pos (shP_iff.mpr ⟨hin, Or.inr ⟨hso, c_43⟩⟩), if_neg hnl, if_pos c_50]) (by rw [sheA, sheX, if_pos (shP_iff.mpr ⟨hin, Or.inr ⟨hso, c_43⟩⟩), if_neg hnl, if_pos c_50]; exact hx))
            · refine z_bipush (v := -2) d_X11_sheet_46 (by decide) ?_
              exact z_iret _ d_X11_sheet_48 rfl (XP.of (by rw [sheR, sheX, if_neg (fun hh => by rcases (shP_iff.mp hh).2 with g | g; exact c_24 g; exact g.2 c_43)]) (by rw [sheA, sheX, if_neg (fun hh => by rcases (shP_iff.mp hh).2 with g | g; exact c_24 g; exact g.2 c_43)]; exact hx))
          · have hlt : so < 0 := by rw [c_24]; decide
            refine z_aload_n d_X11_sheet_27 0 rfl ?_
            refine z_get (v := .ref (x 22)) (0) f_X11_24_11 rfl rfl d_X11_sheet_28 ?_
            refine z_iload_n d_X11_sheet_31 1 rfl ?_
            refine z_aldq (C0 := RX7) 22 5 0 rfl rfl (nI_toInt (by omega)) (by omega) d_X11_sheet_32 ?_
            refine z_topv (v := .ref (x 23)) rfl ?_
            refine z_iconst (v := -1) d_X11_sheet_33 (by decide) ?_
            refine z_iconst (v := 0) d_X11_sheet_34 (by decide) ?_
            refine z_callVv 23 c_X11_253 (t_becomes0 G x N R K r S T tl (-1) 0) rfl rfl rfl rfl (Nat.le_of_ble_eq_true rfl) rfl d_X11_sheet_35 ?_
            refine z_iconst (v := 1) d_X11_sheet_38 (by decide) ?_
            exact z_iret _ d_X11_sheet_39 rfl (XP.of (by rw [sheR, sheX, if_pos (shP_iff.mpr ⟨hin, Or.inl c_24⟩), if_pos hlt]) (by rw [sheA, sheX, if_pos (shP_iff.mpr ⟨hin, Or.inl c_24⟩), if_pos hlt]; exact hx.sh (fun k hk => sh_ne A hk) (fun i hi => by rw [uq_n (by omega), uq_n (by omega)]) (fun i hi => if_neg (by omega)) (hx.ss.off (j := 0) (by decide))))
        · refine z_iload_n d_X11_sheet_22 2 rfl ?_
          refine z_iconst (v := -1) d_X11_sheet_23 (by decide) ?_
          refine z_icmp_ne d_X11_sheet_24 (fun c_24 => ?_) (fun c_24 => ?_)
          · have hso : inB so 0 2 = true := by first | exact absurd c_9 c_24 | exact b01_o c_16
            have hnl : ¬ so < 0 := by rw [inB_iff] at hso; rw [lt_i, i_0]; omega
            refine z_iload_n d_X11_sheet_40 3 rfl ?_
            refine z_bipush (v := 40) d_X11_sheet_41 (by decide) ?_
            refine z_icmp_le d_X11_sheet_43 (fun c_43 => ?_) (fun c_43 => ?_)
            · refine z_iload_n d_X11_sheet_49 3 rfl ?_
              refine z_if_ge d_X11_sheet_50 (fun c_50 => ?_) (fun c_50 => ?_)
              · refine z_aload_n d_X11_sheet_56 0 rfl ?_
                refine z_get (v := .ref (x 22)) (0) f_X11_24_11 rfl rfl d_X11_sheet_57 ?_
                refine z_iload_n d_X11_sheet_60 1 rfl ?_
                refine z_aldq (C0 := RX7) 22 5 1 rfl rfl (nI_toInt (by omega)) (by omega) d_X11_sheet_61 ?_
                refine z_topv (v := .ref (x 25)) rfl ?_
                refine z_iload_n d_X11_sheet_62 2 rfl ?_
                refine z_iload_n d_X11_sheet_63 3 rfl ?_
                refine z_callVv 25 c_X11_253 (t_becomes1 G x N R K r S T tl so n0) rfl rfl rfl rfl (Nat.le_of_ble_eq_true rfl) rfl d_X11_sheet_64 ?_
                refine z_iconst (v := 1) d_X11_sheet_67 (by decide) ?_
                exact z_iret _ d_X11_sheet_68 rfl (XP.of (by rw [sheR, sheX, if_pos (shP_iff.mpr ⟨hin, Or.inr ⟨hso, c_43⟩⟩), if_neg hnl, if_neg c_50]) (by rw [sheA, sheX, if_pos (shP_iff.mpr ⟨hin, Or.inr ⟨hso, c_43⟩⟩), if_neg hnl, if_neg c_50]; exact hx.sh (fun k hk => by unfold vf_upd; rw [if_neg (by omega)]; exact sh_ne A hk) (fun i hi => by rw [uq_n (by omega), uq_n (by omega)]) (fun i hi => if_neg (by omega)) (hx.ss.on (j := 1) (by decide) hso (by rw [lt_i, i_0] at c_50; omega) (by rw [lt_i, l_40] at c_43; omega))))
              · refine z_bipush (v := -14) d_X11_sheet_53 (by decide) ?_
                exact z_iret _ d_X11_sheet_55 rfl (XP.of (by rw [sheR, sheX, if_pos (shP_iff.mpr ⟨hin, Or.inr ⟨hso, c_43⟩⟩), if_neg hnl, if_pos c_50]) (by rw [sheA, sheX, if_pos (shP_iff.mpr ⟨hin, Or.inr ⟨hso, c_43⟩⟩), if_neg hnl, if_pos c_50]; exact hx))
            · refine z_bipush (v := -2) d_X11_sheet_46 (by decide) ?_
              exact z_iret _ d_X11_sheet_48 rfl (XP.of (by rw [sheR, sheX, if_neg (fun hh => by rcases (shP_iff.mp hh).2 with g | g; exact c_24 g; exact g.2 c_43)]) (by rw [sheA, sheX, if_neg (fun hh => by rcases (shP_iff.mp hh).2 with g | g; exact c_24 g; exact g.2 c_43)]; exact hx))
          · have hlt : so < 0 := by rw [c_24]; decide
            refine z_aload_n d_X11_sheet_27 0 rfl ?_
            refine z_get (v := .ref (x 22)) (0) f_X11_24_11 rfl rfl d_X11_sheet_28 ?_
            refine z_iload_n d_X11_sheet_31 1 rfl ?_
            refine z_aldq (C0 := RX7) 22 5 1 rfl rfl (nI_toInt (by omega)) (by omega) d_X11_sheet_32 ?_
            refine z_topv (v := .ref (x 25)) rfl ?_
            refine z_iconst (v := -1) d_X11_sheet_33 (by decide) ?_
            refine z_iconst (v := 0) d_X11_sheet_34 (by decide) ?_
            refine z_callVv 25 c_X11_253 (t_becomes1 G x N R K r S T tl (-1) 0) rfl rfl rfl rfl (Nat.le_of_ble_eq_true rfl) rfl d_X11_sheet_35 ?_
            refine z_iconst (v := 1) d_X11_sheet_38 (by decide) ?_
            exact z_iret _ d_X11_sheet_39 rfl (XP.of (by rw [sheR, sheX, if_pos (shP_iff.mpr ⟨hin, Or.inl c_24⟩), if_pos hlt]) (by rw [sheA, sheX, if_pos (shP_iff.mpr ⟨hin, Or.inl c_24⟩), if_pos hlt]; exact hx.sh (fun k hk => sh_ne A hk) (fun i hi => by rw [uq_n (by omega), uq_n (by omega)]) (fun i hi => if_neg (by omega)) (hx.ss.off (j := 1) (by decide))))
        · refine z_iload_n d_X11_sheet_22 2 rfl ?_
          refine z_iconst (v := -1) d_X11_sheet_23 (by decide) ?_
          refine z_icmp_ne d_X11_sheet_24 (fun c_24 => ?_) (fun c_24 => ?_)
          · have hso : inB so 0 2 = true := by first | exact absurd c_9 c_24 | exact b01_o c_16
            have hnl : ¬ so < 0 := by rw [inB_iff] at hso; rw [lt_i, i_0]; omega
            refine z_iload_n d_X11_sheet_40 3 rfl ?_
            refine z_bipush (v := 40) d_X11_sheet_41 (by decide) ?_
            refine z_icmp_le d_X11_sheet_43 (fun c_43 => ?_) (fun c_43 => ?_)
            · refine z_iload_n d_X11_sheet_49 3 rfl ?_
              refine z_if_ge d_X11_sheet_50 (fun c_50 => ?_) (fun c_50 => ?_)
              · refine z_aload_n d_X11_sheet_56 0 rfl ?_
                refine z_get (v := .ref (x 22)) (0) f_X11_24_11 rfl rfl d_X11_sheet_57 ?_
                refine z_iload_n d_X11_sheet_60 1 rfl ?_
                refine z_aldq (C0 := RX7) 22 5 2 rfl rfl (nI_toInt (by omega)) (by omega) d_X11_sheet_61 ?_
                refine z_topv (v := .ref (x 27)) rfl ?_
                refine z_iload_n d_X11_sheet_62 2 rfl ?_
                refine z_iload_n d_X11_sheet_63 3 rfl ?_
                refine z_callVv 27 c_X11_253 (t_becomes2 G x N R K r S T tl so n0) rfl rfl rfl rfl (Nat.le_of_ble_eq_true rfl) rfl d_X11_sheet_64 ?_
                refine z_iconst (v := 1) d_X11_sheet_67 (by decide) ?_
                exact z_iret _ d_X11_sheet_68 rfl (XP.of (by rw [sheR, sheX, if_pos (shP_iff.mpr ⟨hin, Or.inr ⟨hso, c_43⟩⟩), if_neg hnl, if_neg c_50]) (by rw [sheA, sheX, if_pos (shP_iff.mpr ⟨hin, Or.inr ⟨hso, c_43⟩⟩), if_neg hnl, if_neg c_50]; exact hx.sh (fun k hk => by unfold vf_upd; rw [if_neg (by omega)]; exact sh_ne A hk) (fun i hi => by rw [uq_n (by omega), uq_n (by omega)]) (fun i hi => if_neg (by omega)) (hx.ss.on (j := 2) (by decide) hso (by rw [lt_i, i_0] at c_50; omega) (by rw [lt_i, l_40] at c_43; omega))))
              · refine z_bipush (v := -14) d_X11_sheet_53 (by decide) ?_
                exact z_iret _ d_X11_sheet_55 rfl (XP.of (by rw [sheR, sheX, if_pos (shP_iff.mpr ⟨hin, Or.inr ⟨hso, c_43⟩⟩), if_neg hnl, if_pos c_50]) (by rw [sheA, sheX, if_pos (shP_iff.mpr ⟨hin, Or.inr ⟨hso, c_43⟩⟩), if_neg hnl, if_pos c_50]; exact hx))
            · refine z_bipush (v := -2) d_X11_sheet_46 (by decide) ?_
              exact z_iret _ d_X11_sheet_48 rfl (XP.of (by rw [sheR, sheX, if_neg (fun hh => by rcases (shP_iff.mp hh).2 with g | g; exact c_24 g; exact g.2 c_43)]) (by rw [sheA, sheX, if_neg (fun hh => by rcases (shP_iff.mp hh).2 with g | g; exact c_24 g; exact g.2 c_43)]; exact hx))
          · have hlt : so < 0 := by rw [c_24]; decide
            refine z_aload_n d_X11_sheet_27 0 rfl ?_
            refine z_get (v := .ref (x 22)) (0) f_X11_24_11 rfl rfl d_X11_sheet_28 ?_
            refine z_iload_n d_X11_sheet_31 1 rfl ?_
            refine z_aldq (C0 := RX7) 22 5 2 rfl rfl (nI_toInt (by omega)) (by omega) d_X11_sheet_32 ?_
            refine z_topv (v := .ref (x 27)) rfl ?_
            refine z_iconst (v := -1) d_X11_sheet_33 (by decide) ?_
            refine z_iconst (v := 0) d_X11_sheet_34 (by decide) ?_
            refine z_callVv 27 c_X11_253 (t_becomes2 G x N R K r S T tl (-1) 0) rfl rfl rfl rfl (Nat.le_of_ble_eq_true rfl) rfl d_X11_sheet_35 ?_
            refine z_iconst (v := 1) d_X11_sheet_38 (by decide) ?_
            exact z_iret _ d_X11_sheet_39 rfl (XP.of (by rw [sheR, sheX, if_pos (shP_iff.mpr ⟨hin, Or.inl c_24⟩), if_pos hlt]) (by rw [sheA, sheX, if_pos (shP_iff.mpr ⟨hin, Or.inl c_24⟩), if_pos hlt]; exact hx.sh (fun k hk => sh_ne A hk) (fun i hi => by rw [uq_n (by omega), uq_n (by omega)]) (fun i hi => if_neg (by omega)) (hx.ss.off (j := 2) (by decide))))
        · refine z_iload_n d_X11_sheet_22 2 rfl ?_
          refine z_iconst (v := -1) d_X11_sheet_23 (by decide) ?_
          refine z_icmp_ne d_X11_sheet_24 (fun c_24 => ?_) (fun c_24 => ?_)
          · have hso : inB so 0 2 = true := by first | exact absurd c_9 c_24 | exact b01_o c_16
            have hnl : ¬ so < 0 := by rw [inB_iff] at hso; rw [lt_i, i_0]; omega
            refine z_iload_n d_X11_sheet_40 3 rfl ?_
            refine z_bipush (v := 40) d_X11_sheet_41 (by decide) ?_
            refine z_icmp_le d_X11_sheet_43 (fun c_43 => ?_) (fun c_43 => ?_)
            · refine z_iload_n d_X11_sheet_49 3 rfl ?_
              refine z_if_ge d_X11_sheet_50 (fun c_50 => ?_) (fun c_50 => ?_)
              · refine z_aload_n d_X11_sheet_56 0 rfl ?_
                refine z_get (v := .ref (x 22)) (0) f_X11_24_11 rfl rfl d_X11_sheet_57 ?_
                refine z_iload_n d_X11_sheet_60 1 rfl ?_
                refine z_aldq (C0 := RX7) 22 5 3 rfl rfl (nI_toInt (by omega)) (by omega) d_X11_sheet_61 ?_
                refine z_topv (v := .ref (x 29)) rfl ?_
                refine z_iload_n d_X11_sheet_62 2 rfl ?_
                refine z_iload_n d_X11_sheet_63 3 rfl ?_
                refine z_callVv 29 c_X11_253 (t_becomes3 G x N R K r S T tl so n0) rfl rfl rfl rfl (Nat.le_of_ble_eq_true rfl) rfl d_X11_sheet_64 ?_
                refine z_iconst (v := 1) d_X11_sheet_67 (by decide) ?_
                exact z_iret _ d_X11_sheet_68 rfl (XP.of (by rw [sheR, sheX, if_pos (shP_iff.mpr ⟨hin, Or.inr ⟨hso, c_43⟩⟩), if_neg hnl, if_neg c_50]) (by rw [sheA, sheX, if_pos (shP_iff.mpr ⟨hin, Or.inr ⟨hso, c_43⟩⟩), if_neg hnl, if_neg c_50]; exact hx.sh (fun k hk => by unfold vf_upd; rw [if_neg (by omega)]; exact sh_ne A hk) (fun i hi => by rw [uq_n (by omega), uq_n (by omega)]) (fun i hi => if_neg (by omega)) (hx.ss.on (j := 3) (by decide) hso (by rw [lt_i, i_0] at c_50; omega) (by rw [lt_i, l_40] at c_43; omega))))
              · refine z_bipush (v := -14) d_X11_sheet_53 (by decide) ?_
                exact z_iret _ d_X11_sheet_55 rfl (XP.of (by rw [sheR, sheX, if_pos (shP_iff.mpr ⟨hin, Or.inr ⟨hso, c_43⟩⟩), if_neg hnl, if_pos c_50]) (by rw [sheA, sheX, if_pos (shP_iff.mpr ⟨hin, Or.inr ⟨hso, c_43⟩⟩), if_neg hnl, if_pos c_50]; exact hx))
            · refine z_bipush (v := -2) d_X11_sheet_46 (by decide) ?_
              exact z_iret _ d_X11_sheet_48 rfl (XP.of (by rw [sheR, sheX, if_neg (fun hh => by rcases (shP_iff.mp hh).2 with g | g; exact c_24 g; exact g.2 c_43)]) (by rw [sheA, sheX, if_neg (fun hh => by rcases (shP_iff.mp hh).2 with g | g; exact c_24 g; exact g.2 c_43)]; exact hx))
          · have hlt : so < 0 := by rw [c_24]; decide
            refine z_aload_n d_X11_sheet_27 0 rfl ?_
            refine z_get (v := .ref (x 22)) (0) f_X11_24_11 rfl rfl d_X11_sheet_28 ?_
            refine z_iload_n d_X11_sheet_31 1 rfl ?_
            refine z_aldq (C0 := RX7) 22 5 3 rfl rfl (nI_toInt (by omega)) (by omega) d_X11_sheet_32 ?_
            refine z_topv (v := .ref (x 29)) rfl ?_
            refine z_iconst (v := -1) d_X11_sheet_33 (by decide) ?_
            refine z_iconst (v := 0) d_X11_sheet_34 (by decide) ?_
            refine z_callVv 29 c_X11_253 (t_becomes3 G x N R K r S T tl (-1) 0) rfl rfl rfl rfl (Nat.le_of_ble_eq_true rfl) rfl d_X11_sheet_35 ?_
            refine z_iconst (v := 1) d_X11_sheet_38 (by decide) ?_
            exact z_iret _ d_X11_sheet_39 rfl (XP.of (by rw [sheR, sheX, if_pos (shP_iff.mpr ⟨hin, Or.inl c_24⟩), if_pos hlt]) (by rw [sheA, sheX, if_pos (shP_iff.mpr ⟨hin, Or.inl c_24⟩), if_pos hlt]; exact hx.sh (fun k hk => sh_ne A hk) (fun i hi => by rw [uq_n (by omega), uq_n (by omega)]) (fun i hi => if_neg (by omega)) (hx.ss.off (j := 3) (by decide))))
      · refine z_bipush (v := -2) d_X11_sheet_19 (by decide) ?_
        exact z_iret _ d_X11_sheet_21 rfl (XP.of (by rw [sheR, sheX, if_neg (fun hh => by rcases (shP_iff.mp hh).2 with g | g; exact c_9 g; have g2 := g.1; rw [b01_z c_16] at g2; exact absurd g2 (by decide))]) (by rw [sheA, sheX, if_neg (fun hh => by rcases (shP_iff.mp hh).2 with g | g; exact c_9 g; have g2 := g.1; rw [b01_z c_16] at g2; exact absurd g2 (by decide))]; exact hx))
