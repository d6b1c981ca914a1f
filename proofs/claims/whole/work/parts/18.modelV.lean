/-! THE REFERENCE: what falls, pulls -/
abbrev T3 : Type := Int32 × Int32 × Int32
def flF (A : Nat → Nat → Int32) (set : Int32) (k : Nat) (a : T3) : T3 := if set >>> (nI k &&& 31) &&& 1 = 0 then a else if a.1 >>> (nI k &&& 31) &&& 1 = 1 then a else if A 11 k &&& a.2.1 = 0 then a else (a.1 ||| 1 <<< (nI k &&& 31), a.2.1 ||| A 11 k, 1)
def flP (A : Nat → Nat → Int32) (set h net : Int32) (k : Nat) : T3 := itL (flF A set) (h, net, 0) k
def flR (A : Nat → Nat → Int32) (set : Int32) : Nat → Int32 → Int32 → Int32
  | 0, h, _ => h
  | f + 1, h, net => if (flP A set h net 16).2.2 = 0 then (flP A set h net 16).1 else flR A set f (flP A set h net 16).1 (flP A set h net 16).2.1
def hgM (A : Nat → Nat → Int32) (set : Int32) : Int32 := flR A set 18 0 31
def faS (A : Nat → Nat → Int32) (set : Int32) : Int32 := set &&& (hgM A set ^^^ (-1))
/-- a pass leaves 16 bits, and where it found more, more -/
theorem flP_inv (A : Nat → Nat → Int32) (set h net : Int32) (hh : S16 h) : ∀ k, k ≤ 16 → S16 (flP A set h net k).1 ∧ pcn h ≤ pcn (flP A set h net k).1 ∧ ((flP A set h net k).2.2 = 0 ∧ (flP A set h net k).1 = h ∨ (flP A set h net k).2.2 = 1 ∧ pcn h < pcn (flP A set h net k).1)
  | 0, _ => ⟨hh, Nat.le_refl _, Or.inl ⟨rfl, rfl⟩⟩
  | k + 1, hk => by
    obtain ⟨h1, h2, h3⟩ := flP_inv A set h net hh k (by omega)
    have e : flP A set h net (k + 1) = flF A set k (flP A set h net k) := rfl
    rw [e]
    generalize flP A set h net k = a at h1 h2 h3
    unfold flF
    split
    · exact ⟨h1, h2, h3⟩
    · split
      · exact ⟨h1, h2, h3⟩
      · rename_i hb
        split
        · exact ⟨h1, h2, h3⟩
        · have hb0 : bt a.1 k = false := by
            cases hc : bt a.1 k with
            | false => rfl
            | true => exact absurd ((sb1 (by omega)).mpr hc) hb
          have hp := pcn_add (x := a.1) (k := k) (by omega) hb0
          exact ⟨h1.or (S16.bit (by omega)), by dsimp only; omega, Or.inr ⟨rfl, by dsimp only; omega⟩⟩
set_option maxHeartbeats 4000000 in
set_option maxRecDepth 100000 in
theorem l_X12_fallsOf_19 (G : GT) (b : Nat → Nat) (I : Nat → Int32) (A : Nat → Nat → Int32) (J : Nat → Int32) (tw : Int64) (set h net : Int32) (E : Option Value → va_W → Prop) (hK : Tr G mX12_fallsOf (Rm 0 0 0) (OM G E 0 0) 0 0 8 [(4, .int (flP A set h net 16).2.2), (3, .int (flP A set h net 16).2.1), (2, .int (flP A set h net 16).1), (1, .int set), (0, .ref (b 0))] [] (MW G b I A J tw)) : ∀ (n : Nat)  (k : Nat) (x1 x2 x3 : Int32) (hk : k ≤ 16) (hm : 16 < k + n) (ha : (x1, x2, x3) = flP A set h net k), Tr G mX12_fallsOf (Rm 0 0 0) (OM G E 0 0) 0 0 19 [(5, .int (nI k)), (4, .int x3), (3, .int x2), (2, .int x1), (1, .int set), (0, .ref (b 0))] [] (MW G b I A J tw) := by
  intro n
  induction n with
  | zero =>
    intro k x1 x2 x3 hk hm ha
    exact absurd hm (by omega)
  | succ n ih =>
    intro k x1 x2 x3 hk hm ha
    refine z_iload d_X12_fallsOf_19 0 rfl ?_
    refine z_bipush (v := 16) d_X12_fallsOf_21 (by decide) ?_
    refine z_icmp_ge d_X12_fallsOf_23 (fun c_23 => ?_) (fun c_23 => ?_)
    · refine z_goto d_X12_fallsOf_86 ?_
      refine z_perm [1, 2, 3, 4, 5] rfl ?_
      have h9 := ge_nI (N := 16) (by omega) (by decide) c_23
      rw [← show k = 16 by omega, ← ha] at hK
      exact hK
    · have h9 := lt_nI (N := 16) (by omega) (by decide) c_23
      refine z_iload_n d_X12_fallsOf_26 4 rfl ?_
      refine z_iload d_X12_fallsOf_27 0 rfl ?_
      refine z_ishr d_X12_fallsOf_29 ?_
      refine z_iconst (v := 1) d_X12_fallsOf_30 (by decide) ?_
      refine z_iand d_X12_fallsOf_31 ?_
      refine z_if_eq d_X12_fallsOf_32 (fun c_32 => ?_) (fun c_32 => ?_)
      · refine z_iinc (nI (k + 1)) [(5, .int (nI (k + 1))), (4, .int x3), (3, .int x2), (2, .int x1), (1, .int set), (0, .ref (b 0))] 0 d_X12_fallsOf_80 rfl (nI_1 _) (by decide) rfl ?_
        refine z_goto d_X12_fallsOf_83 ?_
        exact ih (k + 1) x1 x2 x3 (by omega) (by omega) (by show _ = flF A set k (flP A set h net k); rw [← ha]; clear ha ih; unfold flF; dsimp only; simp only [*, ↓reduceIte])
      · refine z_iload_n d_X12_fallsOf_35 3 rfl ?_
        refine z_iload d_X12_fallsOf_36 0 rfl ?_
        refine z_ishr d_X12_fallsOf_38 ?_
        refine z_iconst (v := 1) d_X12_fallsOf_39 (by decide) ?_
        refine z_iand d_X12_fallsOf_40 ?_
        refine z_iconst (v := 1) d_X12_fallsOf_41 (by decide) ?_
        refine z_icmp_eq d_X12_fallsOf_42 (fun c_42 => ?_) (fun c_42 => ?_)
        · refine z_iinc (nI (k + 1)) [(5, .int (nI (k + 1))), (4, .int x3), (3, .int x2), (2, .int x1), (1, .int set), (0, .ref (b 0))] 0 d_X12_fallsOf_80 rfl (nI_1 _) (by decide) rfl ?_
          refine z_goto d_X12_fallsOf_83 ?_
          exact ih (k + 1) x1 x2 x3 (by omega) (by omega) (by show _ = flF A set k (flP A set h net k); rw [← ha]; clear ha ih; unfold flF; dsimp only; simp only [*, ↓reduceIte])
        · refine z_aload_n d_X12_fallsOf_45 5 rfl ?_
          refine z_get (v := .ref (b 11)) 0 f_X12_35_12 rfl rfl d_X12_fallsOf_46 ?_
          refine z_iload d_X12_fallsOf_49 0 rfl ?_
          refine z_ialdN 8 k rfl (nI_toInt (by omega)) (by omega) d_X12_fallsOf_51 ?_
          refine z_iload_n d_X12_fallsOf_52 2 rfl ?_
          refine z_iand d_X12_fallsOf_53 ?_
          refine z_if_ne d_X12_fallsOf_54 (fun c_54 => ?_) (fun c_54 => ?_)
          · refine z_iload_n d_X12_fallsOf_60 3 rfl ?_
            refine z_iconst (v := 1) d_X12_fallsOf_61 (by decide) ?_
            refine z_iload d_X12_fallsOf_62 0 rfl ?_
            refine z_ishl d_X12_fallsOf_64 ?_
            refine z_ior d_X12_fallsOf_65 ?_
            refine z_istore_n [(2, .int (x1 ||| (1 <<< ((nI k) &&& 31)))), (5, .int (nI k)), (4, .int x3), (3, .int x2), (1, .int set), (0, .ref (b 0))] d_X12_fallsOf_66 (by decide) rfl ?_
            refine z_iload_n d_X12_fallsOf_67 3 rfl ?_
            refine z_aload_n d_X12_fallsOf_68 5 rfl ?_
            refine z_get (v := .ref (b 11)) 0 f_X12_35_12 rfl rfl d_X12_fallsOf_69 ?_
            refine z_iload d_X12_fallsOf_72 1 rfl ?_
            refine z_ialdN 8 k rfl (nI_toInt (by omega)) (by omega) d_X12_fallsOf_74 ?_
            refine z_ior d_X12_fallsOf_75 ?_
            refine z_istore_n [(3, .int (x2 ||| ((A 11) k))), (2, .int (x1 ||| (1 <<< ((nI k) &&& 31)))), (5, .int (nI k)), (4, .int x3), (1, .int set), (0, .ref (b 0))] d_X12_fallsOf_76 (by decide) rfl ?_
            refine z_iconst (v := 1) d_X12_fallsOf_77 (by decide) ?_
            refine z_istore [(4, .int 1), (3, .int (x2 ||| ((A 11) k))), (2, .int (x1 ||| (1 <<< ((nI k) &&& 31)))), (5, .int (nI k)), (1, .int set), (0, .ref (b 0))] d_X12_fallsOf_78 (by decide) rfl ?_
            refine z_iinc (nI (k + 1)) [(5, .int (nI (k + 1))), (4, .int 1), (3, .int (x2 ||| ((A 11) k))), (2, .int (x1 ||| (1 <<< ((nI k) &&& 31)))), (1, .int set), (0, .ref (b 0))] 3 d_X12_fallsOf_80 rfl (nI_1 _) (by decide) rfl ?_
            refine z_goto d_X12_fallsOf_83 ?_
            exact ih (k + 1) (x1 ||| (1 <<< ((nI k) &&& 31))) (x2 ||| ((A 11) k)) 1 (by omega) (by omega) (by show _ = flF A set k (flP A set h net k); rw [← ha]; clear ha ih; unfold flF; dsimp only; simp only [*, ↓reduceIte])
          · refine z_goto d_X12_fallsOf_57 ?_
            refine z_iinc (nI (k + 1)) [(5, .int (nI (k + 1))), (4, .int x3), (3, .int x2), (2, .int x1), (1, .int set), (0, .ref (b 0))] 0 d_X12_fallsOf_80 rfl (nI_1 _) (by decide) rfl ?_
            refine z_goto d_X12_fallsOf_83 ?_
            exact ih (k + 1) x1 x2 x3 (by omega) (by omega) (by show _ = flF A set k (flP A set h net k); rw [← ha]; clear ha ih; unfold flF; dsimp only; simp only [*, ↓reduceIte])
set_option maxHeartbeats 4000000 in
set_option maxRecDepth 100000 in
theorem l_X12_fallsOf_8 (G : GT) (b : Nat → Nat) (I : Nat → Int32) (A : Nat → Nat → Int32) (J : Nat → Int32) (tw : Int64) (set : Int32) : ∀ (f : Nat)  (h net more : Int32) (hS : S16 h) (h0 : 0 < f) (h1 : ¬ more = 0 → 17 < f + pcn h), Tr G mX12_fallsOf (Rm 0 0 0) (OM G (Pi (set &&& ((if more = 0 then h else flR A set f h net) ^^^ (-1))) (MW G b I A J tw)) 0 0) 0 0 8 [(4, .int more), (3, .int net), (2, .int h), (1, .int set), (0, .ref (b 0))] [] (MW G b I A J tw) := by
  intro f
  induction f with
  | zero =>
    intro h net more hS h0 h1
    exact absurd h0 (by omega)
  | succ f ih =>
    intro h net more hS h0 h1
    refine z_iload d_X12_fallsOf_8 0 rfl ?_
    refine z_if_eq d_X12_fallsOf_10 (fun c_10 => ?_) (fun c_10 => ?_)
    · refine z_iload_n d_X12_fallsOf_89 3 rfl ?_
      refine z_iload_n d_X12_fallsOf_90 2 rfl ?_
      refine z_iconst (v := -1) d_X12_fallsOf_91 (by decide) ?_
      refine z_ixor d_X12_fallsOf_92 ?_
      refine z_iand d_X12_fallsOf_93 ?_
      exact z_iret _ d_X12_fallsOf_94 rfl (Pi.of (by rw [if_pos c_10]))
    · refine z_iconst (v := 0) d_X12_fallsOf_13 (by decide) ?_
      refine z_istore [(4, .int 0), (3, .int net), (2, .int h), (1, .int set), (0, .ref (b 0))] d_X12_fallsOf_14 (by decide) rfl ?_
      refine z_iconst (v := 0) d_X12_fallsOf_16 (by decide) ?_
      refine z_istore [(5, .int 0), (4, .int 0), (3, .int net), (2, .int h), (1, .int set), (0, .ref (b 0))] d_X12_fallsOf_17 (by decide) rfl ?_
      refine l_X12_fallsOf_19 G b I A J tw set h net _ ?_ 17 0 h net 0 (by omega) (by omega) rfl
      have hv := flP_inv A set h net hS 16 (Nat.le_refl _)
      have e9 : (if more = 0 then h else flR A set (f + 1) h net) = (if (flP A set h net 16).2.2 = 0 then (flP A set h net 16).1 else flR A set f (flP A set h net 16).1 (flP A set h net 16).2.1) := by rw [if_neg c_10, flR]
      rw [e9]
      exact ih _ _ _ hv.1 (by have := pcn_16 hS; have := h1 c_10; omega) (fun q => by have := h1 c_10; rcases hv.2.2 with e | e; exact absurd e.1 q; omega)
set_option maxHeartbeats 4000000 in
set_option maxRecDepth 100000 in
theorem t_X12_fallsOf (G : GT) (b : Nat → Nat) (I : Nat → Int32) (A : Nat → Nat → Int32) (J : Nat → Int32) (tw : Int64) (set : Int32)  : Ct G mX12_fallsOf 0 0 0 [.ref (b 0), .int set] (MW G b I A J tw) (Pi (faS A set) (MW G b I A J tw)) := by
  refine Ct.intro [(0, .ref (b 0)), (1, .int set)] (by decide) rfl (Nat.le_of_ble_eq_true rfl) ?_
  refine z_iconst (v := 0) d_X12_fallsOf_0 (by decide) ?_
  refine z_istore_n [(2, .int 0), (0, .ref (b 0)), (1, .int set)] d_X12_fallsOf_1 (by decide) rfl ?_
  refine z_bipush (v := 31) d_X12_fallsOf_2 (by decide) ?_
  refine z_istore_n [(3, .int 31), (2, .int 0), (0, .ref (b 0)), (1, .int set)] d_X12_fallsOf_4 (by decide) rfl ?_
  refine z_iconst (v := 1) d_X12_fallsOf_5 (by decide) ?_
  refine z_istore [(4, .int 1), (3, .int 31), (2, .int 0), (0, .ref (b 0)), (1, .int set)] d_X12_fallsOf_6 (by decide) rfl ?_
  refine z_perm [0, 1, 2, 4, 3] rfl ?_
  have h9 := l_X12_fallsOf_8 G b I A J tw set 18 0 31 1 S16_0 (by omega) (fun _ => by rw [pcn_0]; omega)
  rw [if_neg (by decide)] at h9
  exact h9
set_option maxHeartbeats 4000000 in
set_option maxRecDepth 100000 in
theorem t_X12_falls (G : GT) (b : Nat → Nat) (I : Nat → Int32) (A : Nat → Nat → Int32) (J : Nat → Int32) (tw : Int64)  : Ct G mX12_falls 1 0 0 [.ref (b 0)] (MW G b I A J tw) (Pi (faS A (I 12)) (MW G b I A J tw)) := by
  refine Ct.intro [(0, .ref (b 0))] (by decide) rfl (Nat.le_of_ble_eq_true rfl) ?_
  refine z_aload_n d_X12_falls_0 0 rfl ?_
  refine z_aload_n d_X12_falls_1 0 rfl ?_
  refine z_get (v := .int (I 12)) 0 f_X12_90_12 rfl rfl d_X12_falls_2 ?_
  refine z_callVp 0 c_X12_299 (t_X12_fallsOf G b I A J tw (I 12)) rfl rfl rfl rfl (Nat.le_of_ble_eq_true rfl) rfl d_X12_falls_5 ?_
  exact z_iret _ d_X12_falls_8 rfl (Pi.of rfl)
def spP (I : Nat → Int32) (A : Nat → Nat → Int32) (k : Nat) : Bool := isS I (nI k) && decide (faS A (I 12 &&& (1 <<< (nI k &&& 31) ^^^ (-1))) &&& (faS A (I 12) ^^^ (-1)) = 0)
