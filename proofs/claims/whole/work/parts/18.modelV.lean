/-! THE REFERENCE: what falls, pulls -/
abbrev T3 : Type := Int32 × Int32 × Int32
def flF (A : Nat → Nat → Int32) (set : Int32) (k : Nat) (a : T3) : T3 := if set >>> (nI k &&& 31) &&& 1 = 0 then a else if a.1 >>> (nI k &&& 31) &&& 1 = 1 then a else if A 11 k &&& a.2.1 = 0 then a else (a.1 ||| 1 <<< (nI k &&& 31), a.2.1 ||| A 11 k, 1)
def flP (A : Nat → Nat → Int32) (set h net : Int32) (k : Nat) : T3 := itL (flF A set) (h, net, 0) k
def flR (A : Nat → Nat → Int32) (set : Int32) : Nat → Int32 → Int32 → Int32
  | 0, h, _ => h
  | f + 1, h, net => if (flP A set h net 16).2.2 = 0 then (flP A set h net 16).1 else flR A set f (flP A set h net 16).1 (flP A set h net 16).2.1
def hgM (A : Nat → Nat → Int32) (set : Int32) : Int32 := flR A set 18 0 31
def faS (A : Nat → Nat → Int32) (set : Int32) : Int32 := set &&& (hgM A set ^^^ (-1))
/-- a pass leaves 16 bits, and where it found more, more -/
theorem flP_inv (A : Nat → Nat → Int32) (set h net : Int32) (hh : S16 h) : ∀ k, k ≤ 16 → S16 (flP A set h net k).1 ∧ pcn h ≤ pcn (flP A set h net k).1 ∧ ((flP A set h net k).2.2 = 0 ∧ (flP A set h net k).1 = h ∨ (flP A set h net k).2.2 = 1 ∧ pcn h < pcn (flP A set h net k).1)
  | 0, _ => ⟨hh, Nat.le_refl _, Or.inl ⟨rfl, rfl⟩⟩
  | k + 1, hk => by
    obtain ⟨h1, h2, h3⟩ := flP_inv A set h net hh k (by omega)
    have e : flP A set h net (k + 1) = flF A set k (flP A set h net k) := rfl
    rw [e]
    generalize flP A set h net k = a at h1 h2 h3
    unfold flF
    split
    · exact ⟨h1, h2, h3⟩
    · split
      · exact ⟨h1, h2, h3⟩
      · rename_i hb
        split
        · exact ⟨h1, h2, h3⟩
        · have hb0 : bt a.1 k = false := by
            cases hc : bt a.1 k with
            | false => rfl
            | true => exact absurd ((sb1 (by omega)).mpr hc) hb
          have hp := pcn_add (x := a.1) (k := k) (by omega) hb0
          exact ⟨h1.or (S16.bit (by omega)), by dsimp only; omega, Or.inr ⟨rfl, by dsimp only; omega⟩⟩
set_option maxHeartbeats 4000000 in
set_option maxRecDepth 100000 in
theorem l_X12_fallsOf_19 (G : GT) (b : Nat → Nat) (I : Nat → Int32) (A : Nat → Nat → Int32) (J : Nat → Int32) (tw : Int64) (set h net : Int32) (E : Option Value → va_W → Prop) (hK : Tr G mX12_fallsOf (Rm 0 0 0) (OM G E 0 0) 0 0 8 [(4, .int (flP A set h net 16).2.2), (3, .int (flP A set h net 16).2.1), (2, .int (flP A set h net 16).1), (1, .int set), (0, .ref (b 0))] [] (MW G b I A J tw)) : ∀ (n : Nat)  (k : Nat) (x1 x2 x3 : Int32) (hk : k ≤ 16) (hm : 16 < k + n) (ha : (x1, x2, x3) = flP A set h net k), Tr G mX12_fallsOf (Rm 0 0 0) (OM G E 0 0) 0 0 19 [(5, .int (nI k)), (4, .int x3), (3, .int x2), (2, .int x1), (1, .int set), (0, .ref (b 0))] [] (MW G b I A J tw) := by
  intro n
  induction n with
  | zero =>
    intro k x1 x2 x3 hk hm ha
    exact absurd hm (by omega)
  | succ n ih =>
    intro k x1 x2 x3 hk hm ha
    refine z_iload d_X12_fallsOf_19 0 rfl ?_
    refine z_bipush (v := 16) d_X12_fallsOf_21 (by decide) ?_
    refine z_icmp_ge d_X12_fallsOf_23 (fun c_23 => ?_) (fun c_23 => ?_)
    · refine z_goto d_X12_fallsOf_86 ?_
      refine z_perm [1, 2, 3, 4, 5] rfl ?_
      have h9 := ge_nI (N := 16) (by omega) (by decide) c_23
      rw [← show k = 16 by omega, ← ha] at hK
      exact hK
    · have h9 := lt_nI (N := 16) (by omega) (by decide) c_23
      refine z_iload_n d_X12_fallsOf_26 4 rfl ?_
      refine z_iload d_X12_fallsOf_27 0 rfl ?_
      refine z_ishr d_X12_fallsOf_29 ?_
      refine z_iconst (v := 1) d_X12_fallsOf_30 (by decide) ?_
      refine z_iand d_X12_fallsOf_31 ?_
      refine z_if_eq d_X12_fallsOf_32 (fun c_32 => ?_) (fun c_32 => ?_)
      · refine z_iinc (nI (k + 1)) [(5, .int (nI (k + 1))), (4, .int x3), (3, .int x2), (2, .int x1), (1, .int set), (0, .ref (b 0))] 0 d_X12_fallsOf_80 rfl (nI_1 _) (by decide) rfl ?_
        refine z_goto d_X12_fallsOf_83 ?_
        exact ih (k + 1) x1 x2 x3 (by omega) (by omega) (by show _ = flF A set k (flP A set h net k); rw [← ha]; clear ha ih; unfold flF; dsimp only; simp only [*, ↓reduceIte])
      · refine z_iload_n d_X12_fallsOf_35 3 rfl ?_
        refine z_iload d_X12_fallsOf_36 0 rfl ?_
        refine z_ishr d_X12_fallsOf_38 ?_
        refine z_iconst (v := 1) d_X12_fallsOf_39 (by decide) ?_
        refine z_iand d_X12_fallsOf_40 ?_
        refine z_iconst (v := 1) d_X12_fallsOf_41 (by decide) ?_
        refine z_icmp_eq d_X12_fallsOf_42 (fun c_42 => ?_) (fun c_42 => ?_)
        · refine z_iinc (nI (k + 1)) [(5, .int (nI (k + 1))), (4, .int x3), (3, .int x2), (2, .int x1), (1, .int set), (0, .ref (b 0))] 0 d_X12_fallsOf_80 rfl (nI_1 _) (by decide) rfl ?_
          refine z_goto d_X12_fallsOf_83 ?_
          exact ih (k + 1) x1 x2 x3 (by omega) (by omega) (by show _ = flF A set k (flP A set h net k); rw [← ha]; clear ha ih; unfold flF; dsimp only; simp only [*, ↓reduceIte])
        · refine z_aload_n d_X12_fallsOf_45 5 rfl ?_
          refine z_get (v := .ref (b 11)) 0 f_X12_35_12 rfl rfl d_X12_fallsOf_46 ?_
          refine z_iload d_X12_fallsOf_49 0 rfl ?_
          refine z_ialdN 8 k rfl (nI_toInt (by omega)) (by omega) d_X12_fallsOf_51 ?_
          refine z_iload_n d_X12_fallsOf_52 2 rfl ?_
          refine z_iand d_X12_fallsOf_53 ?_
          refine z_if_ne d_X12_fallsOf_54 (fun c_54 => ?_) (fun c_54 => ?_)
          · refine z_iload_n d_X12_fallsOf_60 3 rfl ?_
            refine z_iconst (v := 1) d_X12_fallsOf_61 (by decide) ?_
            refine z_iload d_X12_fallsOf_62 0 rfl ?_
            refine z_ishl d_X12_fallsOf_64 ?_
            refine z_ior d_X12_fallsOf_65 ?_
            refine z_istore_n [(2, .int (x1 ||| (1 <<< ((nI k) &&& 31)))), (5, .int (nI k)), (4, .int x3), (3, .int x2), (1, .int set), (0, .ref (b 0))] d_X12_fallsOf_66 (by decide) rfl ?_
            refine z_iload_n d_X12_fallsOf_67 3 rfl ?_
            refine z_aload_n d_X12_fallsOf_68 5 rfl ?_
            refine z_get (v := .ref (b 11)) 0 f_X12_35_12 rfl rfl d_X12_fallsOf_69 ?_
            refine z_iload d_X12_fallsOf_72 1 rfl ?_
            refine z_ialdN 8 k rfl (nI_toInt (by omega)) (by omega) d_X12_fallsOf_74 ?_
            refine z_ior d_X12_fallsOf_75 ?_
            refine z_istore_n [(3, .int (x2 ||| ((A 11) k))), (2, .int (x1 ||| (1 <<< ((nI k) &&& 31)))), (5, .int (nI k)), (4, .int x3), (1, .int set), (0, .ref (b 0))] d_X12_fallsOf_76 (by decide) rfl ?_
            refine z_iconst (v := 1) d_X12_fallsOf_77 (by decide) ?_
            refine z_istore [(4, .int 1), (3, .int (x2 ||| ((A 11) k))), (2, .int (x1 ||| (1 <<< ((nI k) &&& 31)))), (5, .int (nI k)), (1, .int set), (0, .ref (b 0))] d_X12_fallsOf_78 (by decide) rfl ?_
            refine z_iinc (nI (k + 1)) [(5, .int (nI (k + 1))), (4, .int 1), (3, .int (x2 ||| ((A 11) k))), (2, .int (x1 ||| (1 <<< ((nI k) &&& 31)))), (1, .int set), (0, .ref (b 0))] 3 d_X12_fallsOf_80 rfl (nI_1 _) (by decide) rfl ?_
            refine z_goto d_X12_fallsOf_83 ?_
            exact ih (k + 1) (x1 ||| (1 <<< ((nI k) &&& 31))) (x2 ||| ((A 11) k)) 1 (by omega) (by omega) (by show _ = flF A set k (flP A set h net k); rw [← ha]; clear ha ih; unfold flF; dsimp only; simp only [*, ↓reduceIte])
          · refine z_goto d_X12_fallsOf_57 ?_
            refine z_iinc (nI (k + 1)) [(5, .int (nI (k + 1))), (4, .int x3), (3, .int x2), (2, .int x1), (1, .int set), (0, .ref (b 0))] 0 d_X12_fallsOf_80 rfl (nI_1 _) (by decide) rfl ?_
            refine z_goto d_X12_fallsOf_83 ?_
            exact ih (k + 1) x1 x2 x3 (by omega) (by omega) (by show _ = flF A set k (flP A set h net k); rw [← ha]; clear ha ih; unfold flF; dsimp only; simp only [*, ↓reduceIte])
set_option maxHeartbeats 4000000 in
set_option maxRecDepth 100000 in
theorem l_X12_fallsOf_8 (G : GT) (b : Nat → Nat) (I : Nat → Int32) (A : Nat → Nat → Int32) (J : Nat → Int32) (tw : Int64) (set : Int32) : ∀ (f : Nat)  (h net more : Int32) (hS : S16 h) (h0 : 0 < f) (h1 : ¬ more = 0 → 17 < f + pcn h), Tr G mX12_fallsOf (Rm 0 0 0) (OM G (Pi (set &&& ((if more = 0 then h else flR A set f h net) ^^^ (-1))) (MW G b I A J tw)) 0 0) 0 0 8 [(4, .int more), (3, .int net), (2, .int h), (1, .int set), (0, .ref (b 0))] [] (MW G b I A J tw) := by
  intro f
  induction f with
  | zero =>
    intro h net more hS h0 h1
    exact absurd h0 (by omega)
  | succ f ih =>
    intro h net more hS h0 h1
    refine z_iload d_X12_fallsOf_8 0 rfl ?_
    refine z_if_eq d_X12_fallsOf_10 (fun c_10 => ?_) (fun c_10 => ?_)
    · refine z_iload_n d_X12_fallsOf_89 3 rfl ?_
      refine z_iload_n d_X12_fallsOf_90 2 rfl ?_
      refine z_iconst (v := -1) d_X12_fallsOf_91 (by decide) ?_
      refine z_ixor d_X12_fallsOf_92 ?_
      refine z_iand d_X12_fallsOf_93 ?_
      exact z_iret _ d_X12_fallsOf_94 rfl (Pi.of (by rw [if_pos c_10]))
    · refine z_iconst (v := 0) d_X12_fallsOf_13 (by decide) ?_
      refine z_istore [(4, .int 0), (3, .int net), (2, .int h), (1, .int set), (0, .ref (b 0))] d_X12_fallsOf_14 (by decide) rfl ?_
      refine z_iconst (v := 0) d_X12_fallsOf_16 (by decide) ?_
      refine z_istore [(5, .int 0), (4, .int 0), (3, .int net), (2, .int h), (1, .int set), (0, .ref (b 0))] d_X12_fallsOf_17 (by decide) rfl ?_
      refine l_X12_fallsOf_19 G b I A J tw set h net _ ?_ 17 0 h net 0 (by omega) (by omega) rfl
      have hv := flP_inv A set h net hS 16 (Nat.le_refl _)
      have e9 : (if more = 0 then h else flR A set (f + 1) h net) = (if (flP A set h net 16).2.2 = 0 then (flP A set h net 16).1 else flR A set f (flP A set h net 16).1 (flP A set h net 16).2.1) := by rw [if_neg c_10, flR]
      rw [e9]
      exact ih _ _ _ hv.1 (by have := pcn_16 hS; have := h1 c_10; omega) (fun q => by have := h1 c_10; rcases hv.2.2 with e | e; exact absurd e.1 q; omega)
set_option maxHeartbeats 4000000 in
set_option maxRecDepth 100000 in
theorem t_X12_fallsOf (G : GT) (b : Nat → Nat) (I : Nat → Int32) (A : Nat → Nat → Int32) (J : Nat → Int32) (tw : Int64) (set : Int32)  : Ct G mX12_fallsOf 0 0 0 [.ref (b 0), .int set] (MW G b I A J tw) (Pi (faS A set) (MW G b I A J tw)) := by
  refine Ct.intro [(0, .ref (b 0)), (1, .int set)] (by decide) rfl (Nat.le_of_ble_eq_true rfl) ?_
  refine z_iconst (v := 0) d_X12_fallsOf_0 (by decide) ?_
  refine z_istore_n [(2, .int 0), (0, .ref (b 0)), (1, .int set)] d_X12_fallsOf_1 (by decide) rfl ?_
  refine z_bipush (v := 31) d_X12_fallsOf_2 (by decide) ?_
  refine z_istore_n [(3, .int 31), (2, .int 0), (0, .ref (b 0)), (1, .int set)] d_X12_fallsOf_4 (by decide) rfl ?_
  refine z_iconst (v := 1) d_X12_fallsOf_5 (by decide) ?_
  refine z_istore [(4, .int 1), (3, .int 31), (2, .int 0), (0, .ref (b 0)), (1, .int set)] d_X12_fallsOf_6 (by decide) rfl ?_
  refine z_perm [0, 1, 2, 4, 3] rfl ?_
  have h9 := l_X12_fallsOf_8 G b I A J tw set 18 0 31 1 S16_0 (by omega) (fun _ => by rw [pcn_0]; omega)
  rw [if_neg (by decide)] at h9
  exact h9
set_option maxHeartbeats 4000000 in
set_option maxRecDepth 100000 in
theorem t_X12_falls (G : GT) (b : Nat → Nat) (I : Nat → Int32) (A : Nat → Nat → Int32) (J : Nat → Int32) (tw : Int64)  : Ct G mX12_falls 1 0 0 [.ref (b 0)] (MW G b I A J tw) (Pi (faS A (I 12)) (MW G b I A J tw)) := by
  refine Ct.intro [(0, .ref (b 0))] (by decide) rfl (Nat.le_of_ble_eq_true rfl) ?_
  refine z_aload_n d_X12_falls_0 0 rfl ?_
  refine z_aload_n d_X12_falls_1 0 rfl ?_
  refine z_get (v := .int (I 12)) 0 f_X12_90_12 rfl rfl d_X12_falls_2 ?_
  refine z_callVp 0 c_X12_299 (t_X12_fallsOf G b I A J tw (I 12)) rfl rfl rfl rfl (Nat.le_of_ble_eq_true rfl) rfl d_X12_falls_5 ?_
  exact z_iret _ d_X12_falls_8 rfl (Pi.of rfl)
def spP (I : Nat → Int32) (A : Nat → Nat → Int32) (k : Nat) : Bool := isS I (nI k) && decide (faS A (I 12 &&& (1 <<< (nI k &&& 31) ^^^ (-1))) &&& (faS A (I 12) ^^^ (-1)) = 0)
set_option maxHeartbeats 4000000 in
set_option maxRecDepth 100000 in
theorem l_X12_spare (G : GT) (b : Nat → Nat) (I : Nat → Int32) (A : Nat → Nat → Int32) (J : Nat → Int32) (tw : Int64) : ∀ (n : Nat)  (k : Nat) (a : Int32) (hk : k ≤ 16) (hm : 16 < k + n) (ha : a = itL (orF (spP I A)) 0 k), Tr G mX12_spare (Rm 2 0 0) (OM G (Pi (orS (spP I A) 16) (MW G b I A J tw)) 0 0) 0 0 13 [(3, .int (nI k)), (2, .int a), (1, .int (faS A (I 12))), (0, .ref (b 0))] [] (MW G b I A J tw) := by
  intro n
  induction n with
  | zero =>
    intro k a hk hm ha
    exact absurd hm (by omega)
  | succ n ih =>
    intro k a hk hm ha
    refine z_iload_n d_X12_spare_13 0 rfl ?_
    refine z_bipush (v := 16) d_X12_spare_14 (by decide) ?_
    refine z_icmp_ge d_X12_spare_16 (fun c_16 => ?_) (fun c_16 => ?_)
    · refine z_iload_n d_X12_spare_64 1 rfl ?_
      exact z_iret _ d_X12_spare_65 rfl (Pi.of (by have h9 := ge_nI (N := 16) (by omega) (by decide) c_16; rw [ha, show k = 16 by omega]; rfl))
    · have h9 := lt_nI (N := 16) (by omega) (by decide) c_16
      refine z_iload_n d_X12_spare_19 1 rfl ?_
      refine z_aload_n d_X12_spare_20 3 rfl ?_
      refine z_iload_n d_X12_spare_21 0 rfl ?_
      refine z_callVp 0 c_X12_116 (t_X12_isStrip G b I A J tw (nI k)) rfl rfl rfl rfl (Nat.le_of_ble_eq_true rfl) rfl d_X12_spare_22 ?_
      refine z_if_eq d_X12_spare_25 (fun c_25 => ?_) (fun c_25 => ?_)
      · refine z_iconst (v := 0) d_X12_spare_55 (by decide) ?_
        refine z_ior d_X12_spare_56 ?_
        refine z_istore_n [(2, .int (a ||| 0)), (3, .int (nI k)), (1, .int (faS A (I 12))), (0, .ref (b 0))] d_X12_spare_57 (by decide) rfl ?_
        refine z_iinc (nI (k + 1)) [(3, .int (nI (k + 1))), (2, .int (a ||| 0)), (1, .int (faS A (I 12))), (0, .ref (b 0))] 1 d_X12_spare_58 rfl (nI_1 _) (by decide) rfl ?_
        refine z_goto d_X12_spare_61 ?_
        exact ih (k + 1) _ (by omega) (by omega) (by rw [itL, orF, ← ha]; first | rw [if_pos (by rw [spP, Bool.and_eq_true, decide_eq_true_eq]; exact ⟨b01_n0.mp c_25, c_46⟩)] | rw [if_neg (fun e => by rw [spP, Bool.and_eq_true, decide_eq_true_eq] at e; first | exact c_46 e.2 | (rw [b01_0.mp c_25] at e; exact absurd e.1 (by decide)))])
      · refine z_aload_n d_X12_spare_28 3 rfl ?_
        refine z_aload_n d_X12_spare_29 3 rfl ?_
        refine z_get (v := .int (I 12)) 0 f_X12_90_12 rfl rfl d_X12_spare_30 ?_
        refine z_iconst (v := 1) d_X12_spare_33 (by decide) ?_
        refine z_iload_n d_X12_spare_34 0 rfl ?_
        refine z_ishl d_X12_spare_35 ?_
        refine z_iconst (v := -1) d_X12_spare_36 (by decide) ?_
        refine z_ixor d_X12_spare_37 ?_
        refine z_iand d_X12_spare_38 ?_
        refine z_callVp 0 c_X12_299 (t_X12_fallsOf G b I A J tw ((I 12) &&& ((1 <<< ((nI k) &&& 31)) ^^^ (-1)))) rfl rfl rfl rfl (Nat.le_of_ble_eq_true rfl) rfl d_X12_spare_39 ?_
        refine z_iload_n d_X12_spare_42 2 rfl ?_
        refine z_iconst (v := -1) d_X12_spare_43 (by decide) ?_
        refine z_ixor d_X12_spare_44 ?_
        refine z_iand d_X12_spare_45 ?_
        refine z_if_ne d_X12_spare_46 (fun c_46 => ?_) (fun c_46 => ?_)
        · refine z_iconst (v := 0) d_X12_spare_55 (by decide) ?_
          refine z_ior d_X12_spare_56 ?_
          refine z_istore_n [(2, .int (a ||| 0)), (3, .int (nI k)), (1, .int (faS A (I 12))), (0, .ref (b 0))] d_X12_spare_57 (by decide) rfl ?_
          refine z_iinc (nI (k + 1)) [(3, .int (nI (k + 1))), (2, .int (a ||| 0)), (1, .int (faS A (I 12))), (0, .ref (b 0))] 1 d_X12_spare_58 rfl (nI_1 _) (by decide) rfl ?_
          refine z_goto d_X12_spare_61 ?_
          exact ih (k + 1) _ (by omega) (by omega) (by rw [itL, orF, ← ha]; first | rw [if_pos (by rw [spP, Bool.and_eq_true, decide_eq_true_eq]; exact ⟨b01_n0.mp c_25, c_46⟩)] | rw [if_neg (fun e => by rw [spP, Bool.and_eq_true, decide_eq_true_eq] at e; first | exact c_46 e.2 | (rw [b01_0.mp c_25] at e; exact absurd e.1 (by decide)))])
        · refine z_iconst (v := 1) d_X12_spare_49 (by decide) ?_
          refine z_iload_n d_X12_spare_50 0 rfl ?_
          refine z_ishl d_X12_spare_51 ?_
          refine z_goto d_X12_spare_52 ?_
          refine z_ior d_X12_spare_56 ?_
          refine z_istore_n [(2, .int (a ||| (1 <<< ((nI k) &&& 31)))), (3, .int (nI k)), (1, .int (faS A (I 12))), (0, .ref (b 0))] d_X12_spare_57 (by decide) rfl ?_
          refine z_iinc (nI (k + 1)) [(3, .int (nI (k + 1))), (2, .int (a ||| (1 <<< ((nI k) &&& 31)))), (1, .int (faS A (I 12))), (0, .ref (b 0))] 1 d_X12_spare_58 rfl (nI_1 _) (by decide) rfl ?_
          refine z_goto d_X12_spare_61 ?_
          exact ih (k + 1) _ (by omega) (by omega) (by rw [itL, orF, ← ha]; first | rw [if_pos (by rw [spP, Bool.and_eq_true, decide_eq_true_eq]; exact ⟨b01_n0.mp c_25, c_46⟩)] | rw [if_neg (fun e => by rw [spP, Bool.and_eq_true, decide_eq_true_eq] at e; first | exact c_46 e.2 | (rw [b01_0.mp c_25] at e; exact absurd e.1 (by decide)))])
set_option maxHeartbeats 4000000 in
set_option maxRecDepth 100000 in
theorem t_X12_spare (G : GT) (b : Nat → Nat) (I : Nat → Int32) (A : Nat → Nat → Int32) (J : Nat → Int32) (tw : Int64)  : Ct G mX12_spare 2 0 0 [.ref (b 0)] (MW G b I A J tw) (Pi (orS (spP I A) 16) (MW G b I A J tw)) := by
  refine Ct.intro [(0, .ref (b 0))] (by decide) rfl (Nat.le_of_ble_eq_true rfl) ?_
  refine z_aload_n d_X12_spare_0 0 rfl ?_
  refine z_aload_n d_X12_spare_1 0 rfl ?_
  refine z_get (v := .int (I 12)) 0 f_X12_90_12 rfl rfl d_X12_spare_2 ?_
  refine z_callVp 0 c_X12_299 (t_X12_fallsOf G b I A J tw (I 12)) rfl rfl rfl rfl (Nat.le_of_ble_eq_true rfl) rfl d_X12_spare_5 ?_
  refine z_istore_n [(1, .int (faS A (I 12))), (0, .ref (b 0))] d_X12_spare_8 (by decide) rfl ?_
  refine z_iconst (v := 0) d_X12_spare_9 (by decide) ?_
  refine z_istore_n [(2, .int 0), (1, .int (faS A (I 12))), (0, .ref (b 0))] d_X12_spare_10 (by decide) rfl ?_
  refine z_iconst (v := 0) d_X12_spare_11 (by decide) ?_
  refine z_istore_n [(3, .int 0), (2, .int 0), (1, .int (faS A (I 12))), (0, .ref (b 0))] d_X12_spare_12 (by decide) rfl ?_
  exact l_X12_spare G b I A J tw 17 0 0 (by omega) (by omega) rfl
def slF (I : Nat → Int32) (A : Nat → Nat → Int32) (k : Nat) (a : Int32) : Int32 := a &&& (if (isS I (nI k) && slS I A k) = true then 1 <<< (nI k &&& 31) ^^^ (-1) else -1)
def slM (I : Nat → Int32) (A : Nat → Nat → Int32) : Int32 := itL (slF I A) (I 12) 16
def lvA (A : Nat → Nat → Int32) (set : Int32) : Int32 := set &&& (faS A set ^^^ (-1))
def slI (I : Nat → Int32) (A : Nat → Nat → Int32) : Nat → Int32 := upd I 12 (lvA A (slM I A))
def slR (I : Nat → Int32) (A : Nat → Nat → Int32) : Int32 := pcI (I 12) - pcI (lvA A (slM I A))
set_option maxHeartbeats 4000000 in
set_option maxRecDepth 100000 in
theorem l_X12_slipped (G : GT) (b : Nat → Nat) (I : Nat → Int32) (A : Nat → Nat → Int32) (J : Nat → Int32) (tw : Int64) : ∀ (n : Nat)  (k : Nat) (a : Int32) (hk : k ≤ 16) (hm : 16 < k + n) (ha : a = itL (slF I A) (I 12) k), Tr G mX12_slipped (Rm 2 0 0) (OM G (Pi (slR I A) (MW G b (slI I A) A J tw)) 0 0) 0 0 15 [(3, .int (nI k)), (2, .int a), (1, .int (pcI (I 12))), (0, .ref (b 0))] [] (MW G b I A J tw) := by
  intro n
  induction n with
  | zero =>
    intro k a hk hm ha
    exact absurd hm (by omega)
  | succ n ih =>
    intro k a hk hm ha
    refine z_iload_n d_X12_slipped_15 0 rfl ?_
    refine z_bipush (v := 16) d_X12_slipped_16 (by decide) ?_
    refine z_icmp_ge d_X12_slipped_18 (fun c_18 => ?_) (fun c_18 => ?_)
    · refine z_aload_n d_X12_slipped_55 3 rfl ?_
      refine z_iload_n d_X12_slipped_56 1 rfl ?_
      refine z_aload_n d_X12_slipped_57 3 rfl ?_
      refine z_iload_n d_X12_slipped_58 1 rfl ?_
      refine z_callVp 0 c_X12_299 (t_X12_fallsOf G b I A J tw a) rfl rfl rfl rfl (Nat.le_of_ble_eq_true rfl) rfl d_X12_slipped_59 ?_
      refine z_iconst (v := -1) d_X12_slipped_62 (by decide) ?_
      refine z_ixor d_X12_slipped_63 ?_
      refine z_iand d_X12_slipped_64 ?_
      refine z_put 0 (MW G b (upd I 12 (a &&& ((faS A a) ^^^ (-1)))) A J tw) p_X12_90_12 rfl rfl rfl (Nat.le_of_ble_eq_true rfl) (mw_12 G b I A J tw _) d_X12_slipped_65 ?_
      refine z_iload_n d_X12_slipped_68 2 rfl ?_
      refine z_aload_n d_X12_slipped_69 3 rfl ?_
      refine z_get (v := .int (a &&& ((faS A a) ^^^ (-1)))) 0 f_X12_90_12 rfl rfl d_X12_slipped_70 ?_
      refine z_callSp c_X12_119 (t_X12_bitsOf G (a &&& ((faS A a) ^^^ (-1))) (MW G b (upd I 12 (a &&& ((faS A a) ^^^ (-1)))) A J tw)) rfl rfl (Nat.le_of_ble_eq_true rfl) rfl d_X12_slipped_73 ?_
      refine z_isub d_X12_slipped_76 ?_
      exact z_iret _ d_X12_slipped_77 rfl (by have e9 : a = slM I A := (by have h9 := ge_nI (N := 16) (by omega) (by decide) c_18; rw [ha, show k = 16 by omega]; rfl); subst e9; exact Pi.ofw rfl rfl)
    · have h9 := lt_nI (N := 16) (by omega) (by decide) c_18
      refine z_iload_n d_X12_slipped_21 1 rfl ?_
      refine z_aload_n d_X12_slipped_22 3 rfl ?_
      refine z_iload_n d_X12_slipped_23 0 rfl ?_
      refine z_callVp 0 c_X12_116 (t_X12_isStrip G b I A J tw (nI k)) rfl rfl rfl rfl (Nat.le_of_ble_eq_true rfl) rfl d_X12_slipped_24 ?_
      refine z_if_eq d_X12_slipped_27 (fun c_27 => ?_) (fun c_27 => ?_)
      · refine z_iconst (v := -1) d_X12_slipped_46 (by decide) ?_
        refine z_iand d_X12_slipped_47 ?_
        refine z_istore_n [(2, .int (a &&& (-1))), (3, .int (nI k)), (1, .int (pcI (I 12))), (0, .ref (b 0))] d_X12_slipped_48 (by decide) rfl ?_
        refine z_iinc (nI (k + 1)) [(3, .int (nI (k + 1))), (2, .int (a &&& (-1))), (1, .int (pcI (I 12))), (0, .ref (b 0))] 1 d_X12_slipped_49 rfl (nI_1 _) (by decide) rfl ?_
        refine z_goto d_X12_slipped_52 ?_
        exact ih (k + 1) _ (by omega) (by omega) (by rw [itL, slF, ← ha]; clear ha ih; simp only [b01_0, b01_n0] at *; simp [*])
      · refine z_aload_n d_X12_slipped_30 3 rfl ?_
        refine z_iload_n d_X12_slipped_31 0 rfl ?_
        refine z_callVp 0 c_X12_151 (t_X12_slips G b I A J tw k (by omega)) rfl rfl rfl rfl (Nat.le_of_ble_eq_true rfl) rfl d_X12_slipped_32 ?_
        refine z_if_eq d_X12_slipped_35 (fun c_35 => ?_) (fun c_35 => ?_)
        · refine z_iconst (v := -1) d_X12_slipped_46 (by decide) ?_
          refine z_iand d_X12_slipped_47 ?_
          refine z_istore_n [(2, .int (a &&& (-1))), (3, .int (nI k)), (1, .int (pcI (I 12))), (0, .ref (b 0))] d_X12_slipped_48 (by decide) rfl ?_
          refine z_iinc (nI (k + 1)) [(3, .int (nI (k + 1))), (2, .int (a &&& (-1))), (1, .int (pcI (I 12))), (0, .ref (b 0))] 1 d_X12_slipped_49 rfl (nI_1 _) (by decide) rfl ?_
          refine z_goto d_X12_slipped_52 ?_
          exact ih (k + 1) _ (by omega) (by omega) (by rw [itL, slF, ← ha]; clear ha ih; simp only [b01_0, b01_n0] at *; simp [*])
        · refine z_iconst (v := 1) d_X12_slipped_38 (by decide) ?_
          refine z_iload_n d_X12_slipped_39 0 rfl ?_
          refine z_ishl d_X12_slipped_40 ?_
          refine z_iconst (v := -1) d_X12_slipped_41 (by decide) ?_
          refine z_ixor d_X12_slipped_42 ?_
          refine z_goto d_X12_slipped_43 ?_
          refine z_iand d_X12_slipped_47 ?_
          refine z_istore_n [(2, .int (a &&& ((1 <<< ((nI k) &&& 31)) ^^^ (-1)))), (3, .int (nI k)), (1, .int (pcI (I 12))), (0, .ref (b 0))] d_X12_slipped_48 (by decide) rfl ?_
          refine z_iinc (nI (k + 1)) [(3, .int (nI (k + 1))), (2, .int (a &&& ((1 <<< ((nI k) &&& 31)) ^^^ (-1)))), (1, .int (pcI (I 12))), (0, .ref (b 0))] 1 d_X12_slipped_49 rfl (nI_1 _) (by decide) rfl ?_
          refine z_goto d_X12_slipped_52 ?_
          exact ih (k + 1) _ (by omega) (by omega) (by rw [itL, slF, ← ha]; clear ha ih; simp only [b01_0, b01_n0] at *; simp [*])
set_option maxHeartbeats 4000000 in
set_option maxRecDepth 100000 in
theorem t_X12_slipped (G : GT) (b : Nat → Nat) (I : Nat → Int32) (A : Nat → Nat → Int32) (J : Nat → Int32) (tw : Int64)  : Ct G mX12_slipped 2 0 0 [.ref (b 0)] (MW G b I A J tw) (Pi (slR I A) (MW G b (slI I A) A J tw)) := by
  refine Ct.intro [(0, .ref (b 0))] (by decide) rfl (Nat.le_of_ble_eq_true rfl) ?_
  refine z_aload_n d_X12_slipped_0 0 rfl ?_
  refine z_get (v := .int (I 12)) 0 f_X12_90_12 rfl rfl d_X12_slipped_1 ?_
  refine z_callSp c_X12_119 (t_X12_bitsOf G (I 12) (MW G b I A J tw)) rfl rfl (Nat.le_of_ble_eq_true rfl) rfl d_X12_slipped_4 ?_
  refine z_istore_n [(1, .int (pcI (I 12))), (0, .ref (b 0))] d_X12_slipped_7 (by decide) rfl ?_
  refine z_aload_n d_X12_slipped_8 1 rfl ?_
  refine z_get (v := .int (I 12)) 0 f_X12_90_12 rfl rfl d_X12_slipped_9 ?_
  refine z_istore_n [(2, .int (I 12)), (1, .int (pcI (I 12))), (0, .ref (b 0))] d_X12_slipped_12 (by decide) rfl ?_
  refine z_iconst (v := 0) d_X12_slipped_13 (by decide) ?_
  refine z_istore_n [(3, .int 0), (2, .int (I 12)), (1, .int (pcI (I 12))), (0, .ref (b 0))] d_X12_slipped_14 (by decide) rfl ?_
  exact l_X12_slipped G b I A J tw 17 0 (I 12) (by omega) (by omega) rfl
def ctS (I : Nat → Int32) (A : Nat → Nat → Int32) (what : Int32) : Int32 := if what.toInt = 0 then pcI (I 12) else if what.toInt = 1 then I 13 else if what.toInt = 2 then I 14 else if what.toInt = 3 then I 3 else if what.toInt = 4 then I 6 else if what.toInt = 5 then I 4 else if what.toInt = 6 then grS I A else if what.toInt = 7 then pcI (coS I A) else -2
set_option maxHeartbeats 4000000 in
set_option maxRecDepth 100000 in
theorem t_X12_count (G : GT) (b : Nat → Nat) (I : Nat → Int32) (A : Nat → Nat → Int32) (J : Nat → Int32) (tw : Int64) (what : Int32)  : Ct G mX12_count 3 0 0 [.ref (b 0), .int what] (MW G b I A J tw) (Pi (ctS I A what) (MW G b I A J tw)) := by
  refine Ct.intro [(0, .ref (b 0)), (1, .int what)] (by decide) rfl (Nat.le_of_ble_eq_true rfl) ?_
  refine z_iload_n d_X12_count_0 1 rfl ?_
  by_cases s_1_0 : what.toInt = 0
  · refine z_swIn (tgt := 48) (off := 47) d_X12_count_1 s_1_0 (by decide) (by decide) (by decide) (by decide) ?_
    refine z_aload_n d_X12_count_48 0 rfl ?_
    refine z_get (v := .int (I 12)) 0 f_X12_90_12 rfl rfl d_X12_count_49 ?_
    refine z_callSp c_X12_119 (t_X12_bitsOf G (I 12) (MW G b I A J tw)) rfl rfl (Nat.le_of_ble_eq_true rfl) rfl d_X12_count_52 ?_
    exact z_iret _ d_X12_count_55 rfl (Pi.of (by simp [ctS, *]))
  by_cases s_1_1 : what.toInt = 1
  · refine z_swIn (tgt := 56) (off := 55) d_X12_count_1 s_1_1 (by decide) (by decide) (by decide) (by decide) ?_
    refine z_aload_n d_X12_count_56 0 rfl ?_
    refine z_get (v := .int (I 13)) 0 f_X12_95_12 rfl rfl d_X12_count_57 ?_
    exact z_iret _ d_X12_count_60 rfl (Pi.of (by simp [ctS, *]))
  by_cases s_1_2 : what.toInt = 2
  · refine z_swIn (tgt := 61) (off := 60) d_X12_count_1 s_1_2 (by decide) (by decide) (by decide) (by decide) ?_
    refine z_aload_n d_X12_count_61 0 rfl ?_
    refine z_get (v := .int (I 14)) 0 f_X12_38_12 rfl rfl d_X12_count_62 ?_
    exact z_iret _ d_X12_count_65 rfl (Pi.of (by simp [ctS, *]))
  by_cases s_1_3 : what.toInt = 3
  · refine z_swIn (tgt := 66) (off := 65) d_X12_count_1 s_1_3 (by decide) (by decide) (by decide) (by decide) ?_
    refine z_aload_n d_X12_count_66 0 rfl ?_
    refine z_get (v := .int (I 3)) 0 f_X12_75_12 rfl rfl d_X12_count_67 ?_
    exact z_iret _ d_X12_count_70 rfl (Pi.of (by simp [ctS, *]))
  by_cases s_1_4 : what.toInt = 4
  · refine z_swIn (tgt := 71) (off := 70) d_X12_count_1 s_1_4 (by decide) (by decide) (by decide) (by decide) ?_
    refine z_aload_n d_X12_count_71 0 rfl ?_
    refine z_get (v := .int (I 6)) 0 f_X12_162_12 rfl rfl d_X12_count_72 ?_
    exact z_iret _ d_X12_count_75 rfl (Pi.of (by simp [ctS, *]))
  by_cases s_1_5 : what.toInt = 5
  · refine z_swIn (tgt := 76) (off := 75) d_X12_count_1 s_1_5 (by decide) (by decide) (by decide) (by decide) ?_
    refine z_aload_n d_X12_count_76 0 rfl ?_
    refine z_get (v := .int (I 4)) 0 f_X12_131_12 rfl rfl d_X12_count_77 ?_
    exact z_iret _ d_X12_count_80 rfl (Pi.of (by simp [ctS, *]))
  by_cases s_1_6 : what.toInt = 6
  · refine z_swIn (tgt := 81) (off := 80) d_X12_count_1 s_1_6 (by decide) (by decide) (by decide) (by decide) ?_
    refine z_aload_n d_X12_count_81 0 rfl ?_
    refine z_callVp 0 c_X12_324 (t_X12_greens G b I A J tw) rfl rfl rfl rfl (Nat.le_of_ble_eq_true rfl) rfl d_X12_count_82 ?_
    exact z_iret _ d_X12_count_85 rfl (Pi.of (by simp [ctS, *]))
  by_cases s_1_7 : what.toInt = 7
  · refine z_swIn (tgt := 86) (off := 85) d_X12_count_1 s_1_7 (by decide) (by decide) (by decide) (by decide) ?_
    refine z_aload_n d_X12_count_86 0 rfl ?_
    refine z_callVp 0 c_X12_321 (t_X12_covered G b I A J tw) rfl rfl rfl rfl (Nat.le_of_ble_eq_true rfl) rfl d_X12_count_87 ?_
    refine z_callSp c_X12_119 (t_X12_bitsOf G (coS I A) (MW G b I A J tw)) rfl rfl (Nat.le_of_ble_eq_true rfl) rfl d_X12_count_90 ?_
    exact z_iret _ d_X12_count_93 rfl (Pi.of (by simp [ctS, *]))
  refine z_swOut (tgt := 94) d_X12_count_1 (by omega) (by decide) ?_
  refine z_bipush (v := -2) d_X12_count_94 (by decide) ?_
  exact z_iret _ d_X12_count_96 rfl (Pi.of (by simp [ctS, *]))
def foP (I : Nat → Int32) (v : Int32) : Bool := decide (0 ≤ v.toInt) && decide (v.toInt ≤ (I 3 - 1).toInt)
def foI (I : Nat → Int32) (v : Int32) : Nat → Int32 := if foP I v = true then upd I 4 v else I
def foR (I : Nat → Int32) (v : Int32) : Int32 := if foP I v = true then I 4 else -2
set_option maxHeartbeats 4000000 in
set_option maxRecDepth 100000 in
theorem t_X12_force (G : GT) (b : Nat → Nat) (I : Nat → Int32) (A : Nat → Nat → Int32) (J : Nat → Int32) (tw : Int64) (v : Int32)  : Ct G mX12_force 1 0 0 [.ref (b 0), .int v] (MW G b I A J tw) (Pi (foR I v) (MW G b (foI I v) A J tw)) := by
  refine Ct.intro [(0, .ref (b 0)), (1, .int v)] (by decide) rfl (Nat.le_of_ble_eq_true rfl) ?_
  refine z_iload_n d_X12_force_0 1 rfl ?_
  refine z_i2l d_X12_force_1 ?_
  refine z_lconst (v := 0) d_X12_force_2 (by decide) ?_
  refine z_aload_n d_X12_force_3 0 rfl ?_
  refine z_get (v := .int (I 3)) 0 f_X12_75_12 rfl rfl d_X12_force_4 ?_
  refine z_iconst (v := 1) d_X12_force_7 (by decide) ?_
  refine z_isub d_X12_force_8 ?_
  refine z_i2l d_X12_force_9 ?_
  refine z_callSp c_X12_82 (t_X12_in G v.toInt64 0 (((I 3) - 1).toInt64) (MW G b I A J tw)) rfl rfl (Nat.le_of_ble_eq_true rfl) rfl d_X12_force_10 ?_
  refine z_if_ne d_X12_force_13 (fun c_13 => ?_) (fun c_13 => ?_)
  · have h9 : foP I v = true := by rw [in_b, b01_n0, L_0, Int32.toInt_toInt64] at c_13; exact c_13
    refine z_aload_n d_X12_force_19 0 rfl ?_
    refine z_get (v := .int (I 4)) 0 f_X12_131_12 rfl rfl d_X12_force_20 ?_
    refine z_istore_n [(2, .int (I 4)), (0, .ref (b 0)), (1, .int v)] d_X12_force_23 (by decide) rfl ?_
    refine z_aload_n d_X12_force_24 1 rfl ?_
    refine z_iload_n d_X12_force_25 2 rfl ?_
    refine z_put 0 (MW G b (upd I 4 v) A J tw) p_X12_131_12 rfl rfl rfl (Nat.le_of_ble_eq_true rfl) (mw_4 G b I A J tw _) d_X12_force_26 ?_
    refine z_iload_n d_X12_force_29 0 rfl ?_
    exact z_iret _ d_X12_force_30 rfl (Pi.ofw (by rw [foR, if_pos h9]) (by rw [foI, if_pos h9]))
  · have h9 : ¬ foP I v = true := fun e => by rw [in_b, b01_0, L_0, Int32.toInt_toInt64] at c_13; exact absurd (c_13.symm.trans e) (by decide)
    refine z_bipush (v := -2) d_X12_force_16 (by decide) ?_
    exact z_iret _ d_X12_force_18 rfl (Pi.ofw (by rw [foR, if_neg h9]) (by rw [foI, if_neg h9]))
def bydI (a c : Int32) : Bool := decide (0 ≤ a.toInt ∧ a.toInt ≤ 4 ∧ 0 ≤ c.toInt ∧ c.toInt ≤ 4)
def byR (set dx dy : Int32) : Nat → Int32 → Int32 → Int32 → Int32
  | 0, _, _, r => r
  | f + 1, a, c, r => if bydI a c = true then byR set dx dy f (a + dx) (c + dy) (if ¬ r = 0 then 1 else if set >>> ((5 * c + a) &&& 31) &&& 1 = 1 then 1 else 0) else r
def byS (set x y dx dy : Int32) : Int32 := byR set dx dy 12 (x + dx) (y + dy) 0
def Dir (dx dy : Int32) : Prop := (dx = 1 ∧ dy = 0) ∨ (dx = -1 ∧ dy = 0) ∨ (dx = 0 ∧ dy = 1) ∨ (dx = 0 ∧ dy = -1)
def mBy (dx dy a c : Int32) : Nat := if dx = 1 then (5 - a.toInt).toNat else if dx = -1 then (a.toInt + 1).toNat else if dy = 1 then (5 - c.toInt).toNat else (c.toInt + 1).toNat
theorem i_m1 : (-1 : Int32).toInt = -1 := by decide
theorem i_4 : (4 : Int32).toInt = 4 := by decide
theorem mBy_dec {dx dy a c : Int32} (hd : Dir dx dy) (h : bydI a c = true) : mBy dx dy (a + dx) (c + dy) < mBy dx dy a c := by
  have h9 : 0 ≤ a.toInt ∧ a.toInt ≤ 4 ∧ 0 ≤ c.toInt ∧ c.toInt ≤ 4 := of_decide_eq_true h
  obtain ⟨h1, h2, h3, h4⟩ := h9
  unfold mBy
  rcases hd with ⟨rfl, rfl⟩ | ⟨rfl, rfl⟩ | ⟨rfl, rfl⟩ | ⟨rfl, rfl⟩
  · rw [if_pos rfl, if_pos rfl, add_i (by rw [i_1]; omega) (by rw [i_1]; omega), i_1]; omega
  · rw [if_neg (by decide), if_pos rfl, if_neg (by decide), if_pos rfl, add_i (by rw [i_m1]; omega) (by rw [i_m1]; omega), i_m1]; omega
  · rw [if_neg (by decide), if_neg (by decide), if_pos rfl, if_neg (by decide), if_neg (by decide), if_pos rfl, add_i (by rw [i_1]; omega) (by rw [i_1]; omega), i_1]; omega
  · rw [if_neg (by decide), if_neg (by decide), if_neg (by decide), if_neg (by decide), if_neg (by decide), if_neg (by decide), add_i (by rw [i_m1]; omega) (by rw [i_m1]; omega), i_m1]; omega
theorem mBy_0 {dx dy x y : Int32} (hd : Dir dx dy) (hx : 0 ≤ x.toInt ∧ x.toInt ≤ 4) (hy : 0 ≤ y.toInt ∧ y.toInt ≤ 4) : mBy dx dy (x + dx) (y + dy) < 12 := by
  unfold mBy
  rcases hd with ⟨rfl, rfl⟩ | ⟨rfl, rfl⟩ | ⟨rfl, rfl⟩ | ⟨rfl, rfl⟩
  · rw [if_pos rfl, add_i (by rw [i_1]; omega) (by rw [i_1]; omega), i_1]; omega
  · rw [if_neg (by decide), if_pos rfl, add_i (by rw [i_m1]; omega) (by rw [i_m1]; omega), i_m1]; omega
  · rw [if_neg (by decide), if_neg (by decide), if_pos rfl, add_i (by rw [i_1]; omega) (by rw [i_1]; omega), i_1]; omega
  · rw [if_neg (by decide), if_neg (by decide), if_neg (by decide), add_i (by rw [i_m1]; omega) (by rw [i_m1]; omega), i_m1]; omega
set_option maxHeartbeats 4000000 in
set_option maxRecDepth 100000 in
theorem l_X12_isBeyond (G : GT) (set x y dx dy : Int32) (hd : Dir dx dy) (ws : va_W) : ∀ (f : Nat)  (a c r : Int32) (hr : r = 0 ∨ r = 1) (hm : mBy dx dy a c < f), Tr G mX12_isBeyond (Rm 1 0 0) (OM G (Pi (byR set dx dy f a c r) ws) 0 0) 0 0 14 [(7, .int r), (6, .int c), (5, .int a), (4, .int dy), (3, .int dx), (2, .int y), (1, .int x), (0, .int set)] [] ws := by
  intro f
  induction f with
  | zero =>
    intro a c r hr hm
    exact absurd hm (by omega)
  | succ f ih =>
    intro a c r hr hm
    refine z_iload d_X12_isBeyond_14 2 rfl ?_
    refine z_i2l d_X12_isBeyond_16 ?_
    refine z_lconst (v := 0) d_X12_isBeyond_17 (by decide) ?_
    refine z_ldc2 d_X12_isBeyond_18 w_1397 ?_
    refine z_callSp c_X12_82 (t_X12_in G a.toInt64 0 4 ws) rfl rfl (Nat.le_of_ble_eq_true rfl) rfl d_X12_isBeyond_21 ?_
    refine z_if_eq d_X12_isBeyond_24 (fun c_24 => ?_) (fun c_24 => ?_)
    · refine z_iload d_X12_isBeyond_83 0 rfl ?_
      exact z_zret _ d_X12_isBeyond_85 rfl (by rcases hr with rfl | rfl <;> decide) (Pi.of (by rw [byR, if_neg (fun h => by have h9 := of_decide_eq_true (p := 0 ≤ a.toInt ∧ a.toInt ≤ 4 ∧ 0 ≤ c.toInt ∧ c.toInt ≤ 4) h; first | exact (in_0 c_24) ⟨by rw [L_0]; exact h9.1, by rw [L_4]; exact h9.2.1⟩ | exact (in_0 c_37) ⟨by rw [L_0]; exact h9.2.2.1, by rw [L_4]; exact h9.2.2.2⟩)]))
    · refine z_iload d_X12_isBeyond_27 1 rfl ?_
      refine z_i2l d_X12_isBeyond_29 ?_
      refine z_lconst (v := 0) d_X12_isBeyond_30 (by decide) ?_
      refine z_ldc2 d_X12_isBeyond_31 w_1397 ?_
      refine z_callSp c_X12_82 (t_X12_in G c.toInt64 0 4 ws) rfl rfl (Nat.le_of_ble_eq_true rfl) rfl d_X12_isBeyond_34 ?_
      refine z_if_eq d_X12_isBeyond_37 (fun c_37 => ?_) (fun c_37 => ?_)
      · refine z_iload d_X12_isBeyond_83 0 rfl ?_
        exact z_zret _ d_X12_isBeyond_85 rfl (by rcases hr with rfl | rfl <;> decide) (Pi.of (by rw [byR, if_neg (fun h => by have h9 := of_decide_eq_true (p := 0 ≤ a.toInt ∧ a.toInt ≤ 4 ∧ 0 ≤ c.toInt ∧ c.toInt ≤ 4) h; first | exact (in_0 c_24) ⟨by rw [L_0]; exact h9.1, by rw [L_4]; exact h9.2.1⟩ | exact (in_0 c_37) ⟨by rw [L_0]; exact h9.2.2.1, by rw [L_4]; exact h9.2.2.2⟩)]))
      · refine z_iload d_X12_isBeyond_40 0 rfl ?_
        refine z_if_ne d_X12_isBeyond_42 (fun c_42 => ?_) (fun c_42 => ?_)
        · refine z_iconst (v := 1) d_X12_isBeyond_60 (by decide) ?_
          refine z_goto d_X12_isBeyond_61 ?_
          refine z_istore [(7, .int 1), (6, .int c), (5, .int a), (4, .int dy), (3, .int dx), (2, .int y), (1, .int x), (0, .int set)] d_X12_isBeyond_65 (by decide) rfl ?_
          refine z_iload d_X12_isBeyond_67 2 rfl ?_
          refine z_iload_n d_X12_isBeyond_69 4 rfl ?_
          refine z_iadd d_X12_isBeyond_70 ?_
          refine z_istore [(5, .int (a + dx)), (7, .int 1), (6, .int c), (4, .int dy), (3, .int dx), (2, .int y), (1, .int x), (0, .int set)] d_X12_isBeyond_71 (by decide) rfl ?_
          refine z_iload d_X12_isBeyond_73 2 rfl ?_
          refine z_iload d_X12_isBeyond_75 3 rfl ?_
          refine z_iadd d_X12_isBeyond_77 ?_
          refine z_istore [(6, .int (c + dy)), (5, .int (a + dx)), (7, .int 1), (4, .int dy), (3, .int dx), (2, .int y), (1, .int x), (0, .int set)] d_X12_isBeyond_78 (by decide) rfl ?_
          refine z_goto d_X12_isBeyond_80 ?_
          refine z_perm [2, 0, 1, 3, 4, 5, 6, 7] rfl ?_
          have hin : bydI a c = true := decide_eq_true (by have p1 := in_1 c_24; have p2 := in_1 c_37; rw [L_0, L_4] at p1 p2; exact ⟨p1.1, p1.2, p2.1, p2.2⟩)
          have e9 : byR set dx dy (f + 1) a c r = byR set dx dy f (a + dx) (c + dy) 1 := by rw [byR, if_pos hin]; simp only [*, ↓reduceIte, not_true_eq_false, not_false_eq_true]
          rw [e9]
          exact ih _ _ _ (by first | exact Or.inl rfl | exact Or.inr rfl) (by have := mBy_dec hd hin; omega)
        · refine z_iload_n d_X12_isBeyond_45 7 rfl ?_
          refine z_iconst (v := 5) d_X12_isBeyond_46 (by decide) ?_
          refine z_iload d_X12_isBeyond_47 1 rfl ?_
          refine z_imul d_X12_isBeyond_49 ?_
          refine z_iload d_X12_isBeyond_50 2 rfl ?_
          refine z_iadd d_X12_isBeyond_52 ?_
          refine z_ishr d_X12_isBeyond_53 ?_
          refine z_iconst (v := 1) d_X12_isBeyond_54 (by decide) ?_
          refine z_iand d_X12_isBeyond_55 ?_
          refine z_iconst (v := 1) d_X12_isBeyond_56 (by decide) ?_
          refine z_icmp_ne d_X12_isBeyond_57 (fun c_57 => ?_) (fun c_57 => ?_)
          · refine z_iconst (v := 0) d_X12_isBeyond_64 (by decide) ?_
            refine z_istore [(7, .int 0), (6, .int c), (5, .int a), (4, .int dy), (3, .int dx), (2, .int y), (1, .int x), (0, .int set)] d_X12_isBeyond_65 (by decide) rfl ?_
            refine z_iload d_X12_isBeyond_67 2 rfl ?_
            refine z_iload_n d_X12_isBeyond_69 4 rfl ?_
            refine z_iadd d_X12_isBeyond_70 ?_
            refine z_istore [(5, .int (a + dx)), (7, .int 0), (6, .int c), (4, .int dy), (3, .int dx), (2, .int y), (1, .int x), (0, .int set)] d_X12_isBeyond_71 (by decide) rfl ?_
            refine z_iload d_X12_isBeyond_73 2 rfl ?_
            refine z_iload d_X12_isBeyond_75 3 rfl ?_
            refine z_iadd d_X12_isBeyond_77 ?_
            refine z_istore [(6, .int (c + dy)), (5, .int (a + dx)), (7, .int 0), (4, .int dy), (3, .int dx), (2, .int y), (1, .int x), (0, .int set)] d_X12_isBeyond_78 (by decide) rfl ?_
            refine z_goto d_X12_isBeyond_80 ?_
            refine z_perm [2, 0, 1, 3, 4, 5, 6, 7] rfl ?_
            have hin : bydI a c = true := decide_eq_true (by have p1 := in_1 c_24; have p2 := in_1 c_37; rw [L_0, L_4] at p1 p2; exact ⟨p1.1, p1.2, p2.1, p2.2⟩)
            have e9 : byR set dx dy (f + 1) a c r = byR set dx dy f (a + dx) (c + dy) 0 := by rw [byR, if_pos hin]; simp only [*, ↓reduceIte, not_true_eq_false, not_false_eq_true]
            rw [e9]
            exact ih _ _ _ (by first | exact Or.inl rfl | exact Or.inr rfl) (by have := mBy_dec hd hin; omega)
          · refine z_iconst (v := 1) d_X12_isBeyond_60 (by decide) ?_
            refine z_goto d_X12_isBeyond_61 ?_
            refine z_istore [(7, .int 1), (6, .int c), (5, .int a), (4, .int dy), (3, .int dx), (2, .int y), (1, .int x), (0, .int set)] d_X12_isBeyond_65 (by decide) rfl ?_
            refine z_iload d_X12_isBeyond_67 2 rfl ?_
            refine z_iload_n d_X12_isBeyond_69 4 rfl ?_
            refine z_iadd d_X12_isBeyond_70 ?_
            refine z_istore [(5, .int (a + dx)), (7, .int 1), (6, .int c), (4, .int dy), (3, .int dx), (2, .int y), (1, .int x), (0, .int set)] d_X12_isBeyond_71 (by decide) rfl ?_
            refine z_iload d_X12_isBeyond_73 2 rfl ?_
            refine z_iload d_X12_isBeyond_75 3 rfl ?_
            refine z_iadd d_X12_isBeyond_77 ?_
            refine z_istore [(6, .int (c + dy)), (5, .int (a + dx)), (7, .int 1), (4, .int dy), (3, .int dx), (2, .int y), (1, .int x), (0, .int set)] d_X12_isBeyond_78 (by decide) rfl ?_
            refine z_goto d_X12_isBeyond_80 ?_
            refine z_perm [2, 0, 1, 3, 4, 5, 6, 7] rfl ?_
            have hin : bydI a c = true := decide_eq_true (by have p1 := in_1 c_24; have p2 := in_1 c_37; rw [L_0, L_4] at p1 p2; exact ⟨p1.1, p1.2, p2.1, p2.2⟩)
            have e9 : byR set dx dy (f + 1) a c r = byR set dx dy f (a + dx) (c + dy) 1 := by rw [byR, if_pos hin]; simp only [*, ↓reduceIte, not_true_eq_false, not_false_eq_true]
            rw [e9]
            exact ih _ _ _ (by first | exact Or.inl rfl | exact Or.inr rfl) (by have := mBy_dec hd hin; omega)
set_option maxHeartbeats 4000000 in
set_option maxRecDepth 100000 in
theorem t_X12_isBeyond (G : GT) (set x y dx dy : Int32) (hd : Dir dx dy) (hx : 0 ≤ x.toInt ∧ x.toInt ≤ 4) (hy : 0 ≤ y.toInt ∧ y.toInt ≤ 4) (ws : va_W)  : Ct G mX12_isBeyond 1 0 0 [.int set, .int x, .int y, .int dx, .int dy] ws (Pi (byS set x y dx dy) ws) := by
  refine Ct.intro [(0, .int set), (1, .int x), (2, .int y), (3, .int dx), (4, .int dy)] (by decide) rfl (Nat.le_of_ble_eq_true rfl) ?_
  refine z_iload_n d_X12_isBeyond_0 1 rfl ?_
  refine z_iload_n d_X12_isBeyond_1 3 rfl ?_
  refine z_iadd d_X12_isBeyond_2 ?_
  refine z_istore [(5, .int (x + dx)), (0, .int set), (1, .int x), (2, .int y), (3, .int dx), (4, .int dy)] d_X12_isBeyond_3 (by decide) rfl ?_
  refine z_iload_n d_X12_isBeyond_5 3 rfl ?_
  refine z_iload d_X12_isBeyond_6 5 rfl ?_
  refine z_iadd d_X12_isBeyond_8 ?_
  refine z_istore [(6, .int (y + dy)), (5, .int (x + dx)), (0, .int set), (1, .int x), (2, .int y), (3, .int dx), (4, .int dy)] d_X12_isBeyond_9 (by decide) rfl ?_
  refine z_iconst (v := 0) d_X12_isBeyond_11 (by decide) ?_
  refine z_istore [(7, .int 0), (6, .int (y + dy)), (5, .int (x + dx)), (0, .int set), (1, .int x), (2, .int y), (3, .int dx), (4, .int dy)] d_X12_isBeyond_12 (by decide) rfl ?_
  refine z_perm [0, 1, 2, 7, 6, 5, 4, 3] rfl ?_
  exact l_X12_isBeyond G set x y dx dy hd ws 12 (x + dx) (y + dy) 0 (Or.inl rfl) (mBy_0 hd hx hy)
