theorem set_last {ws : va_W} {u v : Nat × va_E} : (ws ++ [u]).set ws.length v = ws ++ [v] := by
  rw [List.set_append_right _ _ (Nat.le_refl _), Nat.sub_self]; rfl
theorem get_last {ws : va_W} {u : Nat × va_E} : (ws ++ [u])[ws.length]? = some u := by
  rw [List.getElem?_append_right (Nat.le_refl _), Nat.sub_self]; rfl
set_option maxHeartbeats 4000000 in
theorem t_J7_copyOf (G : GT) (q0 a N L : Nat) (f : Nat → Int32) (hN : N ≤ 160) (hL : L ≤ N) (ws : va_W) (he : ws[q0]? = some (a, .inl (G.2.1 0, N, .inl f))) : Ct G mJ7_copyOf_59c91 1 1 160 [.ref a, .int (nI L)] ws (fun v w => ∃ (q : Nat) (g : Nat → Int32), v = some (.ref q) ∧ w = ws ++ [(q, .inl (G.2.1 0, L, .inl g))] ∧ ∀ i, i < L → g i = f i) := by
  refine Ct.intro [(0, .ref a), (1, .int (nI L))] (by decide) rfl (Nat.le_of_ble_eq_true rfl) ?_
  refine z_iload_n d_J7_copyOf_59c91_0 1 rfl ?_
  refine z_aload_n d_J7_copyOf_59c91_1 0 rfl ?_
  refine z_alen (ty := .int) q0 0 (nI N) he rfl rfl d_J7_copyOf_59c91_2 ?_
  refine z_icmp_ne d_J7_copyOf_59c91_3 (fun c3 => ?_) (fun c3 => ?_)
  · refine z_iload_n d_J7_copyOf_59c91_14 1 rfl ?_
    refine z_newa (ty := .int) (a0 := (L, .inl (fun _ => 0))) 0 L rfl rfl w_0126 (fun _ => rfl) (nI_i (by omega)) (by show L * 4 ≤ _; omega) (by rw [Bool.and_eq_true]; exact ⟨rfl, Nat.ble_eq_true_of_le (by show 0 + L ≤ 160; omega)⟩) d_J7_copyOf_59c91_15 (fun q => ?_)
    refine z_astore_n [(2, .ref q), (0, .ref a), (1, .int (nI L))] d_J7_copyOf_59c91_17 (by decide) rfl ?_
    refine z_aload_n d_J7_copyOf_59c91_18 1 rfl ?_
    refine z_iconst (v := 0) d_J7_copyOf_59c91_19 (by decide) ?_
    refine z_aload_n d_J7_copyOf_59c91_20 0 rfl ?_
    refine z_iconst (v := 0) d_J7_copyOf_59c91_21 (by decide) ?_
    refine z_aload_n d_J7_copyOf_59c91_22 1 rfl ?_
    refine z_alen (ty := .int) q0 0 (nI N) (z_appL q0 _ he) rfl rfl d_J7_copyOf_59c91_23 ?_
    refine z_iload_n d_J7_copyOf_59c91_24 2 rfl ?_
    refine z_widen (pc' := 0) 1 160 (by omega) (by omega) ?_
    refine z_mmin c_J7_304 (Nat.le_of_ble_eq_true rfl) rfl d_J7_copyOf_59c91_25 ?_
    rw [show mnS (nI N) (nI L) = nI L from by unfold mnS; rw [if_neg (by rw [nI_ltI (by omega) (by omega)]; omega)]]
    refine z_copyi q0 ws.length 0 0 L _ (z_appL q0 _ he) get_last rfl rfl (nI_i (by omega)) (by omega) (by omega) w_0352 rfl (by decide +kernel) set_last d_J7_copyOf_59c91_28 ?_
    refine z_aload_n d_J7_copyOf_59c91_31 0 rfl ?_
    exact z_aret _ d_J7_copyOf_59c91_32 rfl (Or.inr ⟨_, rfl⟩) (Or.inr ⟨_, rfl⟩) ⟨q, _, rfl, rfl, fun i hi => by unfold va_cpy; rw [if_pos ⟨by omega, by omega⟩, Nat.zero_add, Nat.sub_zero]⟩
  · refine z_aload_n d_J7_copyOf_59c91_6 0 rfl ?_
    have e : L = N := by rw [nI_eq (by omega) (by omega)] at c3; exact c3
    subst e
    refine z_clone q0 he w_0344 rfl rfl (by rw [Bool.and_eq_true]; exact ⟨rfl, Nat.ble_eq_true_of_le (by show 0 + L ≤ 160; omega)⟩) d_J7_copyOf_59c91_7 (fun q => ?_)
    refine z_castI ws.length get_last w_0350 d_J7_copyOf_59c91_10 ?_
    refine z_widen (pc' := 0) 1 160 (by omega) (by omega) ?_
    exact z_aret _ d_J7_copyOf_59c91_13 rfl (Or.inr ⟨_, rfl⟩) (Or.inr ⟨_, rfl⟩) ⟨q, f, rfl, rfl, fun _ _ => rfl⟩
