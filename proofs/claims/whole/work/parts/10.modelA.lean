/-! THE REFERENCE'S WORLD: an object and its rows; I: its numbers that last, J, tw: those that a call leaves behind, A: its rows (all by the slots of the class) -/
def MF (b : Nat → Nat) (I J : Nat → Int32) (tw : Int64) : List Value := [.int (J 0), .ref (b 1), .ref (b 2), .int (I 3), .int (I 4), .ref (b 5), .int (I 6), .ref (b 7), .ref (b 8), .ref (b 9), .ref (b 10), .ref (b 11), .int (I 12), .int (I 13), .int (I 14), .int (J 15), .int (J 16), .int (J 17), .int (J 18), .long tw, .int (J 20), .int (J 21), .int (J 22), .int (J 23), .int (J 24), .int (J 25), .int (J 26), .int (J 27), .int (J 28), .int (J 29), .ref (b 30), .int (I 31), .int (I 32), .int (I 33), .int (I 34), .int (I 35), .ref (b 36), .ref (b 37), .ref (b 38), .ref (b 39)]
def MR (G : GT) (b : Nat → Nat) (A : Nat → Nat → Int32) : va_W := [(b 1, .inl (G.2.1 0, 960, .inl (A 1))), (b 2, .inl (G.2.1 0, 6, .inl (A 2))), (b 5, .inl (G.2.1 0, 160, .inl (A 5))), (b 7, .inl (G.2.1 0, 16, .inl (A 7))), (b 8, .inl (G.2.1 0, 16, .inl (A 8))), (b 9, .inl (G.2.1 0, 16, .inl (A 9))), (b 10, .inl (G.2.1 0, 16, .inl (A 10))), (b 11, .inl (G.2.1 0, 16, .inl (A 11))), (b 30, .inl (G.2.1 0, 80, .inl (A 30))), (b 36, .inl (G.2.1 2, 4, .inl (A 36))), (b 37, .inl (G.2.1 0, 4, .inl (A 37))), (b 38, .inl (G.2.1 0, 4, .inl (A 38))), (b 39, .inl (G.2.1 0, 160, .inl (A 39)))]
def MW (G : GT) (b : Nat → Nat) (I : Nat → Int32) (A : Nat → Nat → Int32) (J : Nat → Int32) (tw : Int64) : va_W := (b 0, .inr (12, MF b I J tw)) :: MR G b A
theorem mw_3 (G : GT) (b : Nat → Nat) (I : Nat → Int32) (A : Nat → Nat → Int32) (J : Nat → Int32) (tw : Int64) (v : Int32) : (MW G b I A J tw).set 0 (b 0, .inr (12, (MF b I J tw).set 3 (.int v))) = MW G b (upd I 3 v) A J tw := rfl
theorem mw_4 (G : GT) (b : Nat → Nat) (I : Nat → Int32) (A : Nat → Nat → Int32) (J : Nat → Int32) (tw : Int64) (v : Int32) : (MW G b I A J tw).set 0 (b 0, .inr (12, (MF b I J tw).set 4 (.int v))) = MW G b (upd I 4 v) A J tw := rfl
theorem mw_6 (G : GT) (b : Nat → Nat) (I : Nat → Int32) (A : Nat → Nat → Int32) (J : Nat → Int32) (tw : Int64) (v : Int32) : (MW G b I A J tw).set 0 (b 0, .inr (12, (MF b I J tw).set 6 (.int v))) = MW G b (upd I 6 v) A J tw := rfl
theorem mw_12 (G : GT) (b : Nat → Nat) (I : Nat → Int32) (A : Nat → Nat → Int32) (J : Nat → Int32) (tw : Int64) (v : Int32) : (MW G b I A J tw).set 0 (b 0, .inr (12, (MF b I J tw).set 12 (.int v))) = MW G b (upd I 12 v) A J tw := rfl
theorem mw_13 (G : GT) (b : Nat → Nat) (I : Nat → Int32) (A : Nat → Nat → Int32) (J : Nat → Int32) (tw : Int64) (v : Int32) : (MW G b I A J tw).set 0 (b 0, .inr (12, (MF b I J tw).set 13 (.int v))) = MW G b (upd I 13 v) A J tw := rfl
theorem mw_14 (G : GT) (b : Nat → Nat) (I : Nat → Int32) (A : Nat → Nat → Int32) (J : Nat → Int32) (tw : Int64) (v : Int32) : (MW G b I A J tw).set 0 (b 0, .inr (12, (MF b I J tw).set 14 (.int v))) = MW G b (upd I 14 v) A J tw := rfl
theorem mw_31 (G : GT) (b : Nat → Nat) (I : Nat → Int32) (A : Nat → Nat → Int32) (J : Nat → Int32) (tw : Int64) (v : Int32) : (MW G b I A J tw).set 0 (b 0, .inr (12, (MF b I J tw).set 31 (.int v))) = MW G b (upd I 31 v) A J tw := rfl
theorem mw_32 (G : GT) (b : Nat → Nat) (I : Nat → Int32) (A : Nat → Nat → Int32) (J : Nat → Int32) (tw : Int64) (v : Int32) : (MW G b I A J tw).set 0 (b 0, .inr (12, (MF b I J tw).set 32 (.int v))) = MW G b (upd I 32 v) A J tw := rfl
theorem mw_33 (G : GT) (b : Nat → Nat) (I : Nat → Int32) (A : Nat → Nat → Int32) (J : Nat → Int32) (tw : Int64) (v : Int32) : (MW G b I A J tw).set 0 (b 0, .inr (12, (MF b I J tw).set 33 (.int v))) = MW G b (upd I 33 v) A J tw := rfl
theorem mw_34 (G : GT) (b : Nat → Nat) (I : Nat → Int32) (A : Nat → Nat → Int32) (J : Nat → Int32) (tw : Int64) (v : Int32) : (MW G b I A J tw).set 0 (b 0, .inr (12, (MF b I J tw).set 34 (.int v))) = MW G b (upd I 34 v) A J tw := rfl
theorem mw_35 (G : GT) (b : Nat → Nat) (I : Nat → Int32) (A : Nat → Nat → Int32) (J : Nat → Int32) (tw : Int64) (v : Int32) : (MW G b I A J tw).set 0 (b 0, .inr (12, (MF b I J tw).set 35 (.int v))) = MW G b (upd I 35 v) A J tw := rfl
theorem mw_0 (G : GT) (b : Nat → Nat) (I : Nat → Int32) (A : Nat → Nat → Int32) (J : Nat → Int32) (tw : Int64) (v : Int32) : (MW G b I A J tw).set 0 (b 0, .inr (12, (MF b I J tw).set 0 (.int v))) = MW G b I A (upd J 0 v) tw := rfl
theorem mw_15 (G : GT) (b : Nat → Nat) (I : Nat → Int32) (A : Nat → Nat → Int32) (J : Nat → Int32) (tw : Int64) (v : Int32) : (MW G b I A J tw).set 0 (b 0, .inr (12, (MF b I J tw).set 15 (.int v))) = MW G b I A (upd J 15 v) tw := rfl
theorem mw_16 (G : GT) (b : Nat → Nat) (I : Nat → Int32) (A : Nat → Nat → Int32) (J : Nat → Int32) (tw : Int64) (v : Int32) : (MW G b I A J tw).set 0 (b 0, .inr (12, (MF b I J tw).set 16 (.int v))) = MW G b I A (upd J 16 v) tw := rfl
theorem mw_17 (G : GT) (b : Nat → Nat) (I : Nat → Int32) (A : Nat → Nat → Int32) (J : Nat → Int32) (tw : Int64) (v : Int32) : (MW G b I A J tw).set 0 (b 0, .inr (12, (MF b I J tw).set 17 (.int v))) = MW G b I A (upd J 17 v) tw := rfl
theorem mw_18 (G : GT) (b : Nat → Nat) (I : Nat → Int32) (A : Nat → Nat → Int32) (J : Nat → Int32) (tw : Int64) (v : Int32) : (MW G b I A J tw).set 0 (b 0, .inr (12, (MF b I J tw).set 18 (.int v))) = MW G b I A (upd J 18 v) tw := rfl
theorem mw_20 (G : GT) (b : Nat → Nat) (I : Nat → Int32) (A : Nat → Nat → Int32) (J : Nat → Int32) (tw : Int64) (v : Int32) : (MW G b I A J tw).set 0 (b 0, .inr (12, (MF b I J tw).set 20 (.int v))) = MW G b I A (upd J 20 v) tw := rfl
theorem mw_21 (G : GT) (b : Nat → Nat) (I : Nat → Int32) (A : Nat → Nat → Int32) (J : Nat → Int32) (tw : Int64) (v : Int32) : (MW G b I A J tw).set 0 (b 0, .inr (12, (MF b I J tw).set 21 (.int v))) = MW G b I A (upd J 21 v) tw := rfl
theorem mw_22 (G : GT) (b : Nat → Nat) (I : Nat → Int32) (A : Nat → Nat → Int32) (J : Nat → Int32) (tw : Int64) (v : Int32) : (MW G b I A J tw).set 0 (b 0, .inr (12, (MF b I J tw).set 22 (.int v))) = MW G b I A (upd J 22 v) tw := rfl
theorem mw_23 (G : GT) (b : Nat → Nat) (I : Nat → Int32) (A : Nat → Nat → Int32) (J : Nat → Int32) (tw : Int64) (v : Int32) : (MW G b I A J tw).set 0 (b 0, .inr (12, (MF b I J tw).set 23 (.int v))) = MW G b I A (upd J 23 v) tw := rfl
theorem mw_24 (G : GT) (b : Nat → Nat) (I : Nat → Int32) (A : Nat → Nat → Int32) (J : Nat → Int32) (tw : Int64) (v : Int32) : (MW G b I A J tw).set 0 (b 0, .inr (12, (MF b I J tw).set 24 (.int v))) = MW G b I A (upd J 24 v) tw := rfl
theorem mw_25 (G : GT) (b : Nat → Nat) (I : Nat → Int32) (A : Nat → Nat → Int32) (J : Nat → Int32) (tw : Int64) (v : Int32) : (MW G b I A J tw).set 0 (b 0, .inr (12, (MF b I J tw).set 25 (.int v))) = MW G b I A (upd J 25 v) tw := rfl
theorem mw_26 (G : GT) (b : Nat → Nat) (I : Nat → Int32) (A : Nat → Nat → Int32) (J : Nat → Int32) (tw : Int64) (v : Int32) : (MW G b I A J tw).set 0 (b 0, .inr (12, (MF b I J tw).set 26 (.int v))) = MW G b I A (upd J 26 v) tw := rfl
theorem mw_27 (G : GT) (b : Nat → Nat) (I : Nat → Int32) (A : Nat → Nat → Int32) (J : Nat → Int32) (tw : Int64) (v : Int32) : (MW G b I A J tw).set 0 (b 0, .inr (12, (MF b I J tw).set 27 (.int v))) = MW G b I A (upd J 27 v) tw := rfl
theorem mw_28 (G : GT) (b : Nat → Nat) (I : Nat → Int32) (A : Nat → Nat → Int32) (J : Nat → Int32) (tw : Int64) (v : Int32) : (MW G b I A J tw).set 0 (b 0, .inr (12, (MF b I J tw).set 28 (.int v))) = MW G b I A (upd J 28 v) tw := rfl
theorem mw_29 (G : GT) (b : Nat → Nat) (I : Nat → Int32) (A : Nat → Nat → Int32) (J : Nat → Int32) (tw : Int64) (v : Int32) : (MW G b I A J tw).set 0 (b 0, .inr (12, (MF b I J tw).set 29 (.int v))) = MW G b I A (upd J 29 v) tw := rfl
theorem mw_19 (G : GT) (b : Nat → Nat) (I : Nat → Int32) (A : Nat → Nat → Int32) (J : Nat → Int32) (tw : Int64) (v : Int64) : (MW G b I A J tw).set 0 (b 0, .inr (12, (MF b I J tw).set 19 (.long v))) = MW G b I A J v := rfl
theorem mw_1 (G : GT) (b : Nat → Nat) (I : Nat → Int32) (A : Nat → Nat → Int32) (J : Nat → Int32) (tw : Int64) (g : Nat → Int32) : (MW G b I A J tw).set 1 (b 1, .inl (G.2.1 0, 960, .inl g)) = MW G b I (vf_upd A 1 g) J tw := rfl
theorem mw_2 (G : GT) (b : Nat → Nat) (I : Nat → Int32) (A : Nat → Nat → Int32) (J : Nat → Int32) (tw : Int64) (g : Nat → Int32) : (MW G b I A J tw).set 2 (b 2, .inl (G.2.1 0, 6, .inl g)) = MW G b I (vf_upd A 2 g) J tw := rfl
theorem mw_5 (G : GT) (b : Nat → Nat) (I : Nat → Int32) (A : Nat → Nat → Int32) (J : Nat → Int32) (tw : Int64) (g : Nat → Int32) : (MW G b I A J tw).set 3 (b 5, .inl (G.2.1 0, 160, .inl g)) = MW G b I (vf_upd A 5 g) J tw := rfl
theorem mw_7 (G : GT) (b : Nat → Nat) (I : Nat → Int32) (A : Nat → Nat → Int32) (J : Nat → Int32) (tw : Int64) (g : Nat → Int32) : (MW G b I A J tw).set 4 (b 7, .inl (G.2.1 0, 16, .inl g)) = MW G b I (vf_upd A 7 g) J tw := rfl
theorem mw_8 (G : GT) (b : Nat → Nat) (I : Nat → Int32) (A : Nat → Nat → Int32) (J : Nat → Int32) (tw : Int64) (g : Nat → Int32) : (MW G b I A J tw).set 5 (b 8, .inl (G.2.1 0, 16, .inl g)) = MW G b I (vf_upd A 8 g) J tw := rfl
theorem mw_9 (G : GT) (b : Nat → Nat) (I : Nat → Int32) (A : Nat → Nat → Int32) (J : Nat → Int32) (tw : Int64) (g : Nat → Int32) : (MW G b I A J tw).set 6 (b 9, .inl (G.2.1 0, 16, .inl g)) = MW G b I (vf_upd A 9 g) J tw := rfl
theorem mw_10 (G : GT) (b : Nat → Nat) (I : Nat → Int32) (A : Nat → Nat → Int32) (J : Nat → Int32) (tw : Int64) (g : Nat → Int32) : (MW G b I A J tw).set 7 (b 10, .inl (G.2.1 0, 16, .inl g)) = MW G b I (vf_upd A 10 g) J tw := rfl
theorem mw_11 (G : GT) (b : Nat → Nat) (I : Nat → Int32) (A : Nat → Nat → Int32) (J : Nat → Int32) (tw : Int64) (g : Nat → Int32) : (MW G b I A J tw).set 8 (b 11, .inl (G.2.1 0, 16, .inl g)) = MW G b I (vf_upd A 11 g) J tw := rfl
theorem mw_30 (G : GT) (b : Nat → Nat) (I : Nat → Int32) (A : Nat → Nat → Int32) (J : Nat → Int32) (tw : Int64) (g : Nat → Int32) : (MW G b I A J tw).set 9 (b 30, .inl (G.2.1 0, 80, .inl g)) = MW G b I (vf_upd A 30 g) J tw := rfl
theorem mw_36 (G : GT) (b : Nat → Nat) (I : Nat → Int32) (A : Nat → Nat → Int32) (J : Nat → Int32) (tw : Int64) (g : Nat → Int32) : (MW G b I A J tw).set 10 (b 36, .inl (G.2.1 2, 4, .inl g)) = MW G b I (vf_upd A 36 g) J tw := rfl
theorem mw_37 (G : GT) (b : Nat → Nat) (I : Nat → Int32) (A : Nat → Nat → Int32) (J : Nat → Int32) (tw : Int64) (g : Nat → Int32) : (MW G b I A J tw).set 11 (b 37, .inl (G.2.1 0, 4, .inl g)) = MW G b I (vf_upd A 37 g) J tw := rfl
theorem mw_38 (G : GT) (b : Nat → Nat) (I : Nat → Int32) (A : Nat → Nat → Int32) (J : Nat → Int32) (tw : Int64) (g : Nat → Int32) : (MW G b I A J tw).set 12 (b 38, .inl (G.2.1 0, 4, .inl g)) = MW G b I (vf_upd A 38 g) J tw := rfl
theorem mw_39 (G : GT) (b : Nat → Nat) (I : Nat → Int32) (A : Nat → Nat → Int32) (J : Nat → Int32) (tw : Int64) (g : Nat → Int32) : (MW G b I A J tw).set 13 (b 39, .inl (G.2.1 0, 160, .inl g)) = MW G b I (vf_upd A 39 g) J tw := rfl
def inS (v lo hi : Int64) : Int32 := if lo ≤ v ∧ v ≤ hi then 1 else 0
set_option maxHeartbeats 4000000 in
set_option maxRecDepth 100000 in
theorem t_X12_in (G : GT) (v lo hi : Int64) (ws : va_W)  : Ct G mX12_in 0 0 0 [.long v, .long lo, .long hi] ws (Pi (inS v lo hi) ws) := by
  refine Ct.intro [(0, .long v), (2, .long lo), (4, .long hi)] (by decide) rfl (Nat.le_of_ble_eq_true rfl) ?_
  refine z_lload_n d_X12_in_0 0 rfl ?_
  refine z_lload_n d_X12_in_1 1 rfl ?_
  refine z_lcmp d_X12_in_2 ?_
  refine z_if_lt d_X12_in_3 (fun c_3 => ?_) (fun c_3 => ?_)
  · refine z_iconst (v := 0) d_X12_in_17 (by decide) ?_
    exact z_zret _ d_X12_in_18 rfl (by decide) (Pi.of (by simp only [lg_cmp_lt, lg_cmp_gt, Int64.not_lt] at *; first | (simp [inS, *]; done) | (rw [inS, if_neg]; rintro ⟨h1, h2⟩; first | exact absurd h1 (Int64.not_le.mpr (by assumption)) | exact absurd h2 (Int64.not_le.mpr (by assumption)))))
  · refine z_lload_n d_X12_in_6 0 rfl ?_
    refine z_lload d_X12_in_7 2 rfl ?_
    refine z_lcmp d_X12_in_9 ?_
    refine z_if_gt d_X12_in_10 (fun c_10 => ?_) (fun c_10 => ?_)
    · refine z_iconst (v := 0) d_X12_in_17 (by decide) ?_
      exact z_zret _ d_X12_in_18 rfl (by decide) (Pi.of (by simp only [lg_cmp_lt, lg_cmp_gt, Int64.not_lt] at *; first | (simp [inS, *]; done) | (rw [inS, if_neg]; rintro ⟨h1, h2⟩; first | exact absurd h1 (Int64.not_le.mpr (by assumption)) | exact absurd h2 (Int64.not_le.mpr (by assumption)))))
    · refine z_iconst (v := 1) d_X12_in_13 (by decide) ?_
      refine z_goto d_X12_in_14 ?_
      exact z_zret _ d_X12_in_18 rfl (by decide) (Pi.of (by simp only [lg_cmp_lt, lg_cmp_gt, Int64.not_lt] at *; first | (simp [inS, *]; done) | (rw [inS, if_neg]; rintro ⟨h1, h2⟩; first | exact absurd h1 (Int64.not_le.mpr (by assumption)) | exact absurd h2 (Int64.not_le.mpr (by assumption)))))
theorem inS_int (x : Int32) (lo hi : Int64) : inS x.toInt64 lo hi = if lo.toInt ≤ x.toInt ∧ x.toInt ≤ hi.toInt then 1 else 0 := by
  simp only [inS, Int64.le_iff_toInt_le, Int32.toInt_toInt64]
theorem in_0 {x : Int32} {lo hi : Int64} (h : inS x.toInt64 lo hi = 0) : ¬ (lo.toInt ≤ x.toInt ∧ x.toInt ≤ hi.toInt) := by
  intro hh
  rw [inS_int, if_pos hh] at h
  exact absurd h (by decide)
theorem in_1 {x : Int32} {lo hi : Int64} (h : ¬ inS x.toInt64 lo hi = 0) : lo.toInt ≤ x.toInt ∧ x.toInt ≤ hi.toInt := by
  refine Decidable.byContradiction fun hh => h ?_
  rw [inS_int, if_neg hh]
set_option maxHeartbeats 4000000 in
set_option maxRecDepth 100000 in
theorem l_X12_bitsOf (G : GT) (v : Int32) (ws : va_W) : ∀ (n : Nat) (k : Nat) (x : Int32) (hk : k + pcn x = pcn v) (hm : pcn x < n), Tr G mX12_bitsOf (Rm 0 0 0) (OM G (Pi (pcI v) ws) 0 0) 0 0 4 [(2, .int x), (1, .int (nI k)), (0, .int v)] [] ws := by
  intro n
  induction n with
  | zero =>
    intro k x hk hm
    exact absurd hm (by omega)
  | succ n ih =>
    intro k x hk hm
    refine z_iload_n d_X12_bitsOf_4 0 rfl ?_
    refine z_if_eq d_X12_bitsOf_5 (fun c_5 => ?_) (fun c_5 => ?_)
    · refine z_iload_n d_X12_bitsOf_20 1 rfl ?_
      exact z_iret _ d_X12_bitsOf_21 rfl (Pi.of (by rw [c_5, pcn_0] at hk; unfold pcI; rw [← hk]; rfl))
    · refine z_iinc (nI (k + 1)) [(1, .int (nI (k + 1))), (2, .int x), (0, .int v)] 1 d_X12_bitsOf_8 rfl (nI_1 _) (by decide) rfl ?_
      refine z_iload_n d_X12_bitsOf_11 1 rfl ?_
      refine z_iload_n d_X12_bitsOf_12 1 rfl ?_
      refine z_iconst (v := 1) d_X12_bitsOf_13 (by decide) ?_
      refine z_isub d_X12_bitsOf_14 ?_
      refine z_iand d_X12_bitsOf_15 ?_
      refine z_istore_n [(2, .int (x &&& (x - 1))), (1, .int (nI (k + 1))), (0, .int v)] d_X12_bitsOf_16 (by decide) rfl ?_
      refine z_goto d_X12_bitsOf_17 ?_
      exact ih (k + 1) _ (by have := pcn_kern c_5; omega) (by have := pcn_kern c_5; omega)
set_option maxHeartbeats 4000000 in
set_option maxRecDepth 100000 in
theorem t_X12_bitsOf (G : GT) (v : Int32) (ws : va_W)  : Ct G mX12_bitsOf 0 0 0 [.int v] ws (Pi (pcI v) ws) := by
  refine Ct.intro [(0, .int v)] (by decide) rfl (Nat.le_of_ble_eq_true rfl) ?_
  refine z_iconst (v := 0) d_X12_bitsOf_0 (by decide) ?_
  refine z_istore_n [(1, .int 0), (0, .int v)] d_X12_bitsOf_1 (by decide) rfl ?_
  refine z_iload_n d_X12_bitsOf_2 1 rfl ?_
  refine z_istore_n [(2, .int v), (1, .int 0), (0, .int v)] d_X12_bitsOf_3 (by decide) rfl ?_
  exact l_X12_bitsOf G v ws (pcn v + 1) 0 v (by omega) (by omega)
def okW (w : Int32) : Bool := decide (0 ≤ w.toInt) && (decide (w.toInt < 2500) && (decide (w.toInt % 100 / 10 ≤ 1) && (decide (1 ≤ w.toInt % 10) && (decide (w.toInt % 10 ≤ 5) && decide ((if w.toInt % 100 / 10 = 0 then w.toInt / 100 % 5 else w.toInt / 100 / 5) + w.toInt % 10 ≤ 5)))))
theorem okW_iff {w : Int32} : okW w = true ↔ 0 ≤ w.toInt ∧ w.toInt < 2500 ∧ w.toInt % 100 / 10 ≤ 1 ∧ 1 ≤ w.toInt % 10 ∧ w.toInt % 10 ≤ 5 ∧ (if w.toInt % 100 / 10 = 0 then w.toInt / 100 % 5 else w.toInt / 100 / 5) + w.toInt % 10 ≤ 5 := by
  simp only [okW, Bool.and_eq_true, decide_eq_true_eq]
theorem L_0 : (0 : Int64).toInt = 0 := by decide
theorem i_100 : (100 : Int32).toInt = 100 := by decide
theorem i_10 : (10 : Int32).toInt = 10 := by decide
theorem i_5 : (5 : Int32).toInt = 5 := by decide
theorem i_2 : (2 : Int32).toInt = 2 := by decide
theorem i_1 : (1 : Int32).toInt = 1 := by decide
theorem i_0 : (0 : Int32).toInt = 0 := by decide
theorem b01_t {p : Bool} (h : p = true) : (1 : Int32) = b01 p := by rw [h]; rfl
theorem b01_f {p : Bool} (h : ¬ p = true) : (0 : Int32) = b01 p := by rw [b01, if_neg h]
theorem W_i {w : Int32} (h0 : 0 ≤ w.toInt) (h1 : w.toInt < 2500) : (irm w 100 / 10).toInt = w.toInt % 100 / 10 ∧ (irm w 10).toInt = w.toInt % 10 ∧ (w / 100).toInt = w.toInt / 100 ∧ (irm (w / 100) 5).toInt = w.toInt / 100 % 5 ∧ (w / 100 / 5).toInt = w.toInt / 100 / 5 ∧ (irm (w / 100) 5 + irm w 10).toInt = w.toInt / 100 % 5 + w.toInt % 10 ∧ (w / 100 / 5 + irm w 10).toInt = w.toInt / 100 / 5 + w.toInt % 10 := by
  have e1 : (irm w 100).toInt = w.toInt % 100 := by rw [irm_i h0 (by decide)]; rfl
  have e2 : (irm w 10).toInt = w.toInt % 10 := by rw [irm_i h0 (by decide)]; rfl
  have e3 : (w / 100).toInt = w.toInt / 100 := by rw [div_i h0 (by decide)]; rfl
  have e4 : (irm (w / 100) 5).toInt = w.toInt / 100 % 5 := by rw [irm_i (by rw [e3]; omega) (by decide), e3]; rfl
  have e5 : (w / 100 / 5).toInt = w.toInt / 100 / 5 := by rw [div_i (by rw [e3]; omega) (by decide), e3]; rfl
  refine ⟨?_, e2, e3, e4, e5, ?_, ?_⟩
  · rw [div_i (by rw [e1]; omega) (by decide), e1]; rfl
  · rw [add_i (by rw [e4, e2]; omega) (by rw [e4, e2]; omega), e4, e2]
  · rw [add_i (by rw [e5, e2]; omega) (by rw [e5, e2]; omega), e5, e2]
theorem in_W (w : Int32) (lo hi : Int64) : inS w.toInt64 lo hi = 0 ↔ ¬ (lo.toInt ≤ w.toInt ∧ w.toInt ≤ hi.toInt) := ⟨in_0, fun h => by rw [inS_int, if_neg h]⟩
theorem L_1 : (1 : Int64).toInt = 1 := by decide
theorem L_5 : (5 : Int64).toInt = 5 := by decide
theorem L_2499 : (2499 : Int64).toInt = 2499 := by decide
set_option maxHeartbeats 4000000 in
set_option maxRecDepth 100000 in
theorem t_X12_isWhere (G : GT) (w : Int32) (ws : va_W)  : Ct G mX12_isWhere 1 0 0 [.int w] ws (Pi (b01 (okW w)) ws) := by
  refine Ct.intro [(0, .int w)] (by decide) rfl (Nat.le_of_ble_eq_true rfl) ?_
  refine z_iload_n d_X12_isWhere_0 0 rfl ?_
  refine z_i2l d_X12_isWhere_1 ?_
  refine z_lconst (v := 0) d_X12_isWhere_2 (by decide) ?_
  refine z_ldc2 d_X12_isWhere_3 w_1134 ?_
  refine z_callSp c_X12_82 (t_X12_in G w.toInt64 0 2499 ws) rfl rfl (Nat.le_of_ble_eq_true rfl) rfl d_X12_isWhere_6 ?_
  refine z_if_eq d_X12_isWhere_9 (fun c_9 => ?_) (fun c_9 => ?_)
  · refine z_iconst (v := 0) d_X12_isWhere_23 (by decide) ?_
    exact z_zret _ d_X12_isWhere_24 rfl (by decide) (Pi.of (b01_f (fun hh => by
      obtain ⟨g1, g2, g3, g4, g5, g6⟩ := okW_iff.mp hh
      obtain ⟨e1, e2, e3, e4, e5, e6, e7⟩ := W_i (w := w) g1 g2
      simp only [in_W, L_0, L_1, L_5, L_2499] at *
      simp only [eq_i, le_i, lt_i, i_0, i_1, i_5, e1, e2, e3, e4, e5, e6, e7] at *
      omega)))
  · refine z_iload_n d_X12_isWhere_12 0 rfl ?_
    refine z_bipush (v := 100) d_X12_isWhere_13 (by decide) ?_
    refine z_irm d_X12_isWhere_15 (by decide) ?_
    refine z_bipush (v := 10) d_X12_isWhere_16 (by decide) ?_
    refine z_idiv d_X12_isWhere_18 (by decide) ?_
    refine z_iconst (v := 1) d_X12_isWhere_19 (by decide) ?_
    refine z_icmp_le d_X12_isWhere_20 (fun c_20 => ?_) (fun c_20 => ?_)
    · refine z_iload_n d_X12_isWhere_25 0 rfl ?_
      refine z_bipush (v := 100) d_X12_isWhere_26 (by decide) ?_
      refine z_irm d_X12_isWhere_28 (by decide) ?_
      refine z_bipush (v := 10) d_X12_isWhere_29 (by decide) ?_
      refine z_idiv d_X12_isWhere_31 (by decide) ?_
      refine z_if_ne d_X12_isWhere_32 (fun c_32 => ?_) (fun c_32 => ?_)
      · refine z_iload_n d_X12_isWhere_44 0 rfl ?_
        refine z_bipush (v := 100) d_X12_isWhere_45 (by decide) ?_
        refine z_idiv d_X12_isWhere_47 (by decide) ?_
        refine z_iconst (v := 5) d_X12_isWhere_48 (by decide) ?_
        refine z_idiv d_X12_isWhere_49 (by decide) ?_
        refine z_istore_n [(1, .int ((w / 100) / 5)), (0, .int w)] d_X12_isWhere_50 (by decide) rfl ?_
        refine z_iload_n d_X12_isWhere_51 1 rfl ?_
        refine z_bipush (v := 10) d_X12_isWhere_52 (by decide) ?_
        refine z_irm d_X12_isWhere_54 (by decide) ?_
        refine z_i2l d_X12_isWhere_55 ?_
        refine z_lconst (v := 1) d_X12_isWhere_56 (by decide) ?_
        refine z_ldc2 d_X12_isWhere_57 w_1127 ?_
        refine z_callSp c_X12_82 (t_X12_in G ((irm w 10).toInt64) 1 5 ws) rfl rfl (Nat.le_of_ble_eq_true rfl) rfl d_X12_isWhere_60 ?_
        refine z_if_eq d_X12_isWhere_63 (fun c_63 => ?_) (fun c_63 => ?_)
        · refine z_iconst (v := 0) d_X12_isWhere_80 (by decide) ?_
          exact z_zret _ d_X12_isWhere_81 rfl (by decide) (Pi.of (b01_f (fun hh => by
      obtain ⟨g1, g2, g3, g4, g5, g6⟩ := okW_iff.mp hh
      obtain ⟨e1, e2, e3, e4, e5, e6, e7⟩ := W_i (w := w) g1 g2
      simp only [in_W, L_0, L_1, L_5, L_2499] at *
      simp only [eq_i, le_i, lt_i, i_0, i_1, i_5, e1, e2, e3, e4, e5, e6, e7] at *
      omega)))
        · refine z_iload_n d_X12_isWhere_66 0 rfl ?_
          refine z_iload_n d_X12_isWhere_67 1 rfl ?_
          refine z_bipush (v := 10) d_X12_isWhere_68 (by decide) ?_
          refine z_irm d_X12_isWhere_70 (by decide) ?_
          refine z_iadd d_X12_isWhere_71 ?_
          refine z_iconst (v := 5) d_X12_isWhere_72 (by decide) ?_
          refine z_icmp_gt d_X12_isWhere_73 (fun c_73 => ?_) (fun c_73 => ?_)
          · refine z_iconst (v := 0) d_X12_isWhere_80 (by decide) ?_
            exact z_zret _ d_X12_isWhere_81 rfl (by decide) (Pi.of (b01_f (fun hh => by
      obtain ⟨g1, g2, g3, g4, g5, g6⟩ := okW_iff.mp hh
      obtain ⟨e1, e2, e3, e4, e5, e6, e7⟩ := W_i (w := w) g1 g2
      simp only [in_W, L_0, L_1, L_5, L_2499] at *
      simp only [eq_i, le_i, lt_i, i_0, i_1, i_5, e1, e2, e3, e4, e5, e6, e7] at *
      omega)))
          · refine z_iconst (v := 1) d_X12_isWhere_76 (by decide) ?_
            refine z_goto d_X12_isWhere_77 ?_
            exact z_zret _ d_X12_isWhere_81 rfl (by decide) (Pi.of (b01_t (okW_iff.mpr (by
      simp only [in_W, L_0, L_1, L_5, L_2499] at *
      obtain ⟨e1, e2, e3, e4, e5, e6, e7⟩ := W_i (w := w) (by omega) (by omega)
      simp only [eq_i, le_i, lt_i, i_0, i_1, i_5, e1, e2, e3, e4, e5, e6, e7] at *
      omega))))
      · refine z_iload_n d_X12_isWhere_35 0 rfl ?_
        refine z_bipush (v := 100) d_X12_isWhere_36 (by decide) ?_
        refine z_idiv d_X12_isWhere_38 (by decide) ?_
        refine z_iconst (v := 5) d_X12_isWhere_39 (by decide) ?_
        refine z_irm d_X12_isWhere_40 (by decide) ?_
        refine z_goto d_X12_isWhere_41 ?_
        refine z_istore_n [(1, .int (irm (w / 100) 5)), (0, .int w)] d_X12_isWhere_50 (by decide) rfl ?_
        refine z_iload_n d_X12_isWhere_51 1 rfl ?_
        refine z_bipush (v := 10) d_X12_isWhere_52 (by decide) ?_
        refine z_irm d_X12_isWhere_54 (by decide) ?_
        refine z_i2l d_X12_isWhere_55 ?_
        refine z_lconst (v := 1) d_X12_isWhere_56 (by decide) ?_
        refine z_ldc2 d_X12_isWhere_57 w_1127 ?_
        refine z_callSp c_X12_82 (t_X12_in G ((irm w 10).toInt64) 1 5 ws) rfl rfl (Nat.le_of_ble_eq_true rfl) rfl d_X12_isWhere_60 ?_
        refine z_if_eq d_X12_isWhere_63 (fun c_63 => ?_) (fun c_63 => ?_)
        · refine z_iconst (v := 0) d_X12_isWhere_80 (by decide) ?_
          exact z_zret _ d_X12_isWhere_81 rfl (by decide) (Pi.of (b01_f (fun hh => by
      obtain ⟨g1, g2, g3, g4, g5, g6⟩ := okW_iff.mp hh
      obtain ⟨e1, e2, e3, e4, e5, e6, e7⟩ := W_i (w := w) g1 g2
      simp only [in_W, L_0, L_1, L_5, L_2499] at *
      simp only [eq_i, le_i, lt_i, i_0, i_1, i_5, e1, e2, e3, e4, e5, e6, e7] at *
      omega)))
        · refine z_iload_n d_X12_isWhere_66 0 rfl ?_
          refine z_iload_n d_X12_isWhere_67 1 rfl ?_
          refine z_bipush (v := 10) d_X12_isWhere_68 (by decide) ?_
          refine z_irm d_X12_isWhere_70 (by decide) ?_
          refine z_iadd d_X12_isWhere_71 ?_
          refine z_iconst (v := 5) d_X12_isWhere_72 (by decide) ?_
          refine z_icmp_gt d_X12_isWhere_73 (fun c_73 => ?_) (fun c_73 => ?_)
          · refine z_iconst (v := 0) d_X12_isWhere_80 (by decide) ?_
            exact z_zret _ d_X12_isWhere_81 rfl (by decide) (Pi.of (b01_f (fun hh => by
      obtain ⟨g1, g2, g3, g4, g5, g6⟩ := okW_iff.mp hh
      obtain ⟨e1, e2, e3, e4, e5, e6, e7⟩ := W_i (w := w) g1 g2
      simp only [in_W, L_0, L_1, L_5, L_2499] at *
      simp only [eq_i, le_i, lt_i, i_0, i_1, i_5, e1, e2, e3, e4, e5, e6, e7] at *
      omega)))
          · refine z_iconst (v := 1) d_X12_isWhere_76 (by decide) ?_
            refine z_goto d_X12_isWhere_77 ?_
            exact z_zret _ d_X12_isWhere_81 rfl (by decide) (Pi.of (b01_t (okW_iff.mpr (by
      simp only [in_W, L_0, L_1, L_5, L_2499] at *
      obtain ⟨e1, e2, e3, e4, e5, e6, e7⟩ := W_i (w := w) (by omega) (by omega)
      simp only [eq_i, le_i, lt_i, i_0, i_1, i_5, e1, e2, e3, e4, e5, e6, e7] at *
      omega))))
    · refine z_iconst (v := 0) d_X12_isWhere_23 (by decide) ?_
      exact z_zret _ d_X12_isWhere_24 rfl (by decide) (Pi.of (b01_f (fun hh => by
      obtain ⟨g1, g2, g3, g4, g5, g6⟩ := okW_iff.mp hh
      obtain ⟨e1, e2, e3, e4, e5, e6, e7⟩ := W_i (w := w) g1 g2
      simp only [in_W, L_0, L_1, L_5, L_2499] at *
      simp only [eq_i, le_i, lt_i, i_0, i_1, i_5, e1, e2, e3, e4, e5, e6, e7] at *
      omega)))
def okC (c : Int32) : Bool := decide (0 ≤ c.toInt) && decide (c.toInt ≤ 24)
theorem L_24 : (24 : Int64).toInt = 24 := by decide
theorem L_15 : (15 : Int64).toInt = 15 := by decide
theorem L_9 : (9 : Int64).toInt = 9 := by decide
theorem L_99 : (99 : Int64).toInt = 99 := by decide
theorem in_b (x : Int32) (lo hi : Int64) : inS x.toInt64 lo hi = b01 (decide (lo.toInt ≤ x.toInt) && decide (x.toInt ≤ hi.toInt)) := by
  rw [inS_int, b01]; simp only [Bool.and_eq_true, decide_eq_true_eq]
def isS (I : Nat → Int32) (s : Int32) : Bool := decide (0 ≤ s.toInt) && (decide (s.toInt ≤ 15) && decide (I 12 >>> (s &&& 31) &&& 1 = 1))
theorem isS_nI {I : Nat → Int32} {k : Nat} (h : k < 16) : isS I (nI k) = decide (I 12 >>> (nI k &&& 31) &&& 1 = 1) := by
  simp only [isS, nI_i (show k < 2147483648 by omega)]
  rw [decide_eq_true (show (0 : Int) ≤ (k : Int) by omega), decide_eq_true (show (k : Int) ≤ 15 by omega)]; rfl
theorem isS_of {I : Nat → Int32} {s : Int32} (h : isS I s = true) : ∃ k, k < 16 ∧ s = nI k ∧ I 12 >>> (nI k &&& 31) &&& 1 = 1 := by
  simp only [isS, Bool.and_eq_true, decide_eq_true_eq] at h
  obtain ⟨h1, h2, h3⟩ := h
  refine ⟨s.toInt.toNat, by omega, eq_nI (by omega), ?_⟩
  rw [← eq_nI (x := s) (j := s.toInt.toNat) (by omega)]; exact h3
set_option maxHeartbeats 4000000 in
set_option maxRecDepth 100000 in
theorem t_X12_isCrossing (G : GT) (c : Int32) (ws : va_W)  : Ct G mX12_isCrossing 1 0 0 [.int c] ws (Pi (b01 (okC c)) ws) := by
  refine Ct.intro [(0, .int c)] (by decide) rfl (Nat.le_of_ble_eq_true rfl) ?_
  refine z_iload_n d_X12_isCrossing_0 0 rfl ?_
  refine z_i2l d_X12_isCrossing_1 ?_
  refine z_lconst (v := 0) d_X12_isCrossing_2 (by decide) ?_
  refine z_ldc2 d_X12_isCrossing_3 w_1270 ?_
  refine z_callSp c_X12_82 (t_X12_in G c.toInt64 0 24 ws) rfl rfl (Nat.le_of_ble_eq_true rfl) rfl d_X12_isCrossing_6 ?_
  exact z_zret _ d_X12_isCrossing_9 rfl (by rw [in_b]; exact b01_n) (Pi.of (by rw [in_b]; rfl))
set_option maxHeartbeats 4000000 in
set_option maxRecDepth 100000 in
theorem t_X12_isStrip (G : GT) (b : Nat → Nat) (I : Nat → Int32) (A : Nat → Nat → Int32) (J : Nat → Int32) (tw : Int64) (s : Int32)  : Ct G mX12_isStrip 1 0 0 [.ref (b 0), .int s] (MW G b I A J tw) (Pi (b01 (isS I s)) (MW G b I A J tw)) := by
  refine Ct.intro [(0, .ref (b 0)), (1, .int s)] (by decide) rfl (Nat.le_of_ble_eq_true rfl) ?_
  refine z_iload_n d_X12_isStrip_0 1 rfl ?_
  refine z_i2l d_X12_isStrip_1 ?_
  refine z_lconst (v := 0) d_X12_isStrip_2 (by decide) ?_
  refine z_ldc2 d_X12_isStrip_3 w_1155 ?_
  refine z_callSp c_X12_82 (t_X12_in G s.toInt64 0 15 (MW G b I A J tw)) rfl rfl (Nat.le_of_ble_eq_true rfl) rfl d_X12_isStrip_6 ?_
  refine z_if_eq d_X12_isStrip_9 (fun c_9 => ?_) (fun c_9 => ?_)
  · refine z_iconst (v := 0) d_X12_isStrip_28 (by decide) ?_
    exact z_zret _ d_X12_isStrip_29 rfl (by decide) (Pi.of (b01_f (fun hh => by simp only [isS, Bool.and_eq_true, decide_eq_true_eq] at hh; simp only [in_b, b01_0, L_0, L_15] at c_9; first | (simp [hh] at c_9; done) | exact c_21 hh.2.2)))
  · refine z_aload_n d_X12_isStrip_12 0 rfl ?_
    refine z_get (v := .int (I 12)) 0 f_X12_90_12 rfl rfl d_X12_isStrip_13 ?_
    refine z_iload_n d_X12_isStrip_16 1 rfl ?_
    refine z_ishr d_X12_isStrip_17 ?_
    refine z_iconst (v := 1) d_X12_isStrip_18 (by decide) ?_
    refine z_iand d_X12_isStrip_19 ?_
    refine z_iconst (v := 1) d_X12_isStrip_20 (by decide) ?_
    refine z_icmp_ne d_X12_isStrip_21 (fun c_21 => ?_) (fun c_21 => ?_)
    · refine z_iconst (v := 0) d_X12_isStrip_28 (by decide) ?_
      exact z_zret _ d_X12_isStrip_29 rfl (by decide) (Pi.of (b01_f (fun hh => by simp only [isS, Bool.and_eq_true, decide_eq_true_eq] at hh; simp only [in_b, b01_0, L_0, L_15] at c_9; first | (simp [hh] at c_9; done) | exact c_21 hh.2.2)))
    · refine z_iconst (v := 1) d_X12_isStrip_24 (by decide) ?_
      refine z_goto d_X12_isStrip_25 ?_
      exact z_zret _ d_X12_isStrip_29 rfl (by decide) (Pi.of (b01_t (by simp only [in_b, b01_n0, Bool.and_eq_true, decide_eq_true_eq, L_0, L_15] at c_9; simp [isS, c_9, c_21])))
set_option maxHeartbeats 4000000 in
set_option maxRecDepth 100000 in
theorem t_X12_ageOf (G : GT) (b : Nat → Nat) (I : Nat → Int32) (A : Nat → Nat → Int32) (J : Nat → Int32) (tw : Int64) (s : Nat) (hs : s < 16) : Ct G mX12_ageOf 0 0 0 [.ref (b 0), .int (nI s)] (MW G b I A J tw) (Pi (I 13 - A 10 s) (MW G b I A J tw)) := by
  refine Ct.intro [(0, .ref (b 0)), (1, .int (nI s))] (by decide) rfl (Nat.le_of_ble_eq_true rfl) ?_
  refine z_aload_n d_X12_ageOf_0 0 rfl ?_
  refine z_get (v := .int (I 13)) 0 f_X12_95_12 rfl rfl d_X12_ageOf_1 ?_
  refine z_aload_n d_X12_ageOf_4 0 rfl ?_
  refine z_get (v := .ref (b 10)) 0 f_X12_32_12 rfl rfl d_X12_ageOf_5 ?_
  refine z_iload_n d_X12_ageOf_8 1 rfl ?_
  refine z_ialdN 7 s rfl (nI_toInt (by omega)) (by omega) d_X12_ageOf_9 ?_
  refine z_isub d_X12_ageOf_10 ?_
  exact z_iret _ d_X12_ageOf_11 rfl (Pi.of rfl)
def knK (k n age : Int32) : Int32 := if k.toInt = 1 then n + 3 else if k.toInt = 2 then 2 * (n + 3) else if k.toInt = 3 then n + 3 - age / 10 else if k.toInt = 4 then n + 2 * (n + 3) else if k.toInt = 5 then (n + 1) / 2 else n + 1
def kn0 (x : Int32) : Int32 := if x < 0 then 0 else x
def knS (I : Nat → Int32) (A : Nat → Nat → Int32) (s : Nat) : Int32 := kn0 (knK (A 7 s) (A 9 s) (I 13 - A 10 s))
set_option maxHeartbeats 4000000 in
set_option maxRecDepth 100000 in
theorem t_X12_knotOf (G : GT) (b : Nat → Nat) (I : Nat → Int32) (A : Nat → Nat → Int32) (J : Nat → Int32) (tw : Int64) (s : Nat) (hs : s < 16) : Ct G mX12_knotOf 1 0 0 [.ref (b 0), .int (nI s)] (MW G b I A J tw) (Pi (knS I A s) (MW G b I A J tw)) := by
  refine Ct.intro [(0, .ref (b 0)), (1, .int (nI s))] (by decide) rfl (Nat.le_of_ble_eq_true rfl) ?_
  refine z_aload_n d_X12_knotOf_0 0 rfl ?_
  refine z_get (v := .ref (b 9)) 0 f_X12_29_12 rfl rfl d_X12_knotOf_1 ?_
  refine z_iload_n d_X12_knotOf_4 1 rfl ?_
  refine z_ialdN 6 s rfl (nI_toInt (by omega)) (by omega) d_X12_knotOf_5 ?_
  refine z_istore_n [(2, .int ((A 9) s)), (0, .ref (b 0)), (1, .int (nI s))] d_X12_knotOf_6 (by decide) rfl ?_
  refine z_iload_n d_X12_knotOf_7 0 rfl ?_
  refine z_iconst (v := 1) d_X12_knotOf_8 (by decide) ?_
  refine z_iadd d_X12_knotOf_9 ?_
  refine z_istore_n [(3, .int (((A 9) s) + 1)), (2, .int ((A 9) s)), (0, .ref (b 0)), (1, .int (nI s))] d_X12_knotOf_10 (by decide) rfl ?_
  refine z_aload_n d_X12_knotOf_11 2 rfl ?_
  refine z_get (v := .ref (b 7)) 0 f_X12_23_12 rfl rfl d_X12_knotOf_12 ?_
  refine z_iload_n d_X12_knotOf_15 3 rfl ?_
  refine z_ialdN 4 s rfl (nI_toInt (by omega)) (by omega) d_X12_knotOf_16 ?_
  by_cases s_17_0 : ((A 7) s).toInt = 1
  · refine z_swIn (tgt := 52) (off := 35) d_X12_knotOf_17 s_17_0 (by decide) (by decide) (by decide) (by decide) ?_
    refine z_iload_n d_X12_knotOf_52 1 rfl ?_
    refine z_iconst (v := 3) d_X12_knotOf_53 (by decide) ?_
    refine z_iadd d_X12_knotOf_54 ?_
    refine z_istore_n [(3, .int (((A 9) s) + 3)), (2, .int ((A 9) s)), (0, .ref (b 0)), (1, .int (nI s))] d_X12_knotOf_55 (by decide) rfl ?_
    refine z_goto d_X12_knotOf_56 ?_
    refine z_iload_n d_X12_knotOf_104 0 rfl ?_
    refine z_if_ge d_X12_knotOf_105 (fun c_105 => ?_) (fun c_105 => ?_)
    · refine z_iload_n d_X12_knotOf_112 0 rfl ?_
      exact z_iret _ d_X12_knotOf_113 rfl (Pi.of (by simp [knS, knK, kn0, *]))
    · refine z_iconst (v := 0) d_X12_knotOf_108 (by decide) ?_
      refine z_goto d_X12_knotOf_109 ?_
      exact z_iret _ d_X12_knotOf_113 rfl (Pi.of (by simp [knS, knK, kn0, *]))
  by_cases s_17_1 : ((A 7) s).toInt = 2
  · refine z_swIn (tgt := 59) (off := 42) d_X12_knotOf_17 s_17_1 (by decide) (by decide) (by decide) (by decide) ?_
    refine z_iconst (v := 2) d_X12_knotOf_59 (by decide) ?_
    refine z_iload_n d_X12_knotOf_60 1 rfl ?_
    refine z_iconst (v := 3) d_X12_knotOf_61 (by decide) ?_
    refine z_iadd d_X12_knotOf_62 ?_
    refine z_imul d_X12_knotOf_63 ?_
    refine z_istore_n [(3, .int (2 * (((A 9) s) + 3))), (2, .int ((A 9) s)), (0, .ref (b 0)), (1, .int (nI s))] d_X12_knotOf_64 (by decide) rfl ?_
    refine z_goto d_X12_knotOf_65 ?_
    refine z_iload_n d_X12_knotOf_104 0 rfl ?_
    refine z_if_ge d_X12_knotOf_105 (fun c_105 => ?_) (fun c_105 => ?_)
    · refine z_iload_n d_X12_knotOf_112 0 rfl ?_
      exact z_iret _ d_X12_knotOf_113 rfl (Pi.of (by simp [knS, knK, kn0, *]))
    · refine z_iconst (v := 0) d_X12_knotOf_108 (by decide) ?_
      refine z_goto d_X12_knotOf_109 ?_
      exact z_iret _ d_X12_knotOf_113 rfl (Pi.of (by simp [knS, knK, kn0, *]))
  by_cases s_17_2 : ((A 7) s).toInt = 3
  · refine z_swIn (tgt := 68) (off := 51) d_X12_knotOf_17 s_17_2 (by decide) (by decide) (by decide) (by decide) ?_
    refine z_iload_n d_X12_knotOf_68 1 rfl ?_
    refine z_iconst (v := 3) d_X12_knotOf_69 (by decide) ?_
    refine z_iadd d_X12_knotOf_70 ?_
    refine z_aload_n d_X12_knotOf_71 2 rfl ?_
    refine z_iload_n d_X12_knotOf_72 3 rfl ?_
    refine z_callVp 0 c_X12_124 (t_X12_ageOf G b I A J tw s (by omega)) rfl rfl rfl rfl (Nat.le_of_ble_eq_true rfl) rfl d_X12_knotOf_73 ?_
    refine z_bipush (v := 10) d_X12_knotOf_76 (by decide) ?_
    refine z_idiv d_X12_knotOf_78 (by decide) ?_
    refine z_isub d_X12_knotOf_79 ?_
    refine z_istore_n [(3, .int ((((A 9) s) + 3) - ((I 13 - A 10 s) / 10))), (2, .int ((A 9) s)), (0, .ref (b 0)), (1, .int (nI s))] d_X12_knotOf_80 (by decide) rfl ?_
    refine z_goto d_X12_knotOf_81 ?_
    refine z_iload_n d_X12_knotOf_104 0 rfl ?_
    refine z_if_ge d_X12_knotOf_105 (fun c_105 => ?_) (fun c_105 => ?_)
    · refine z_iload_n d_X12_knotOf_112 0 rfl ?_
      exact z_iret _ d_X12_knotOf_113 rfl (Pi.of (by simp [knS, knK, kn0, *]))
    · refine z_iconst (v := 0) d_X12_knotOf_108 (by decide) ?_
      refine z_goto d_X12_knotOf_109 ?_
      exact z_iret _ d_X12_knotOf_113 rfl (Pi.of (by simp [knS, knK, kn0, *]))
  by_cases s_17_3 : ((A 7) s).toInt = 4
  · refine z_swIn (tgt := 84) (off := 67) d_X12_knotOf_17 s_17_3 (by decide) (by decide) (by decide) (by decide) ?_
    refine z_iload_n d_X12_knotOf_84 1 rfl ?_
    refine z_iconst (v := 2) d_X12_knotOf_85 (by decide) ?_
    refine z_iload_n d_X12_knotOf_86 1 rfl ?_
    refine z_iconst (v := 3) d_X12_knotOf_87 (by decide) ?_
    refine z_iadd d_X12_knotOf_88 ?_
    refine z_imul d_X12_knotOf_89 ?_
    refine z_iadd d_X12_knotOf_90 ?_
    refine z_istore_n [(3, .int (((A 9) s) + (2 * (((A 9) s) + 3)))), (2, .int ((A 9) s)), (0, .ref (b 0)), (1, .int (nI s))] d_X12_knotOf_91 (by decide) rfl ?_
    refine z_goto d_X12_knotOf_92 ?_
    refine z_iload_n d_X12_knotOf_104 0 rfl ?_
    refine z_if_ge d_X12_knotOf_105 (fun c_105 => ?_) (fun c_105 => ?_)
    · refine z_iload_n d_X12_knotOf_112 0 rfl ?_
      exact z_iret _ d_X12_knotOf_113 rfl (Pi.of (by simp [knS, knK, kn0, *]))
    · refine z_iconst (v := 0) d_X12_knotOf_108 (by decide) ?_
      refine z_goto d_X12_knotOf_109 ?_
      exact z_iret _ d_X12_knotOf_113 rfl (Pi.of (by simp [knS, knK, kn0, *]))
  by_cases s_17_4 : ((A 7) s).toInt = 5
  · refine z_swIn (tgt := 95) (off := 78) d_X12_knotOf_17 s_17_4 (by decide) (by decide) (by decide) (by decide) ?_
    refine z_iload_n d_X12_knotOf_95 1 rfl ?_
    refine z_iconst (v := 1) d_X12_knotOf_96 (by decide) ?_
    refine z_iadd d_X12_knotOf_97 ?_
    refine z_iconst (v := 2) d_X12_knotOf_98 (by decide) ?_
    refine z_idiv d_X12_knotOf_99 (by decide) ?_
    refine z_istore_n [(3, .int ((((A 9) s) + 1) / 2)), (2, .int ((A 9) s)), (0, .ref (b 0)), (1, .int (nI s))] d_X12_knotOf_100 (by decide) rfl ?_
    refine z_goto d_X12_knotOf_101 ?_
    refine z_iload_n d_X12_knotOf_104 0 rfl ?_
    refine z_if_ge d_X12_knotOf_105 (fun c_105 => ?_) (fun c_105 => ?_)
    · refine z_iload_n d_X12_knotOf_112 0 rfl ?_
      exact z_iret _ d_X12_knotOf_113 rfl (Pi.of (by simp [knS, knK, kn0, *]))
    · refine z_iconst (v := 0) d_X12_knotOf_108 (by decide) ?_
      refine z_goto d_X12_knotOf_109 ?_
      exact z_iret _ d_X12_knotOf_113 rfl (Pi.of (by simp [knS, knK, kn0, *]))
  refine z_swOut (tgt := 104) d_X12_knotOf_17 (by omega) (by decide) ?_
  refine z_iload_n d_X12_knotOf_104 0 rfl ?_
  refine z_if_ge d_X12_knotOf_105 (fun c_105 => ?_) (fun c_105 => ?_)
  · refine z_iload_n d_X12_knotOf_112 0 rfl ?_
    exact z_iret _ d_X12_knotOf_113 rfl (Pi.of (by simp [knS, knK, kn0, *]))
  · refine z_iconst (v := 0) d_X12_knotOf_108 (by decide) ?_
    refine z_goto d_X12_knotOf_109 ?_
    exact z_iret _ d_X12_knotOf_113 rfl (Pi.of (by simp [knS, knK, kn0, *]))
def slS (I : Nat → Int32) (A : Nat → Nat → Int32) (s : Nat) : Bool := (decide (A 7 s = 3) && !decide (I 13 - A 10 s < 100)) || (decide (A 7 s = 5) && !decide (I 13 - A 10 s < 10 + A 9 s))
set_option maxHeartbeats 4000000 in
set_option maxRecDepth 100000 in
theorem t_X12_slips (G : GT) (b : Nat → Nat) (I : Nat → Int32) (A : Nat → Nat → Int32) (J : Nat → Int32) (tw : Int64) (s : Nat) (hs : s < 16) : Ct G mX12_slips 1 0 0 [.ref (b 0), .int (nI s)] (MW G b I A J tw) (Pi (b01 (slS I A s)) (MW G b I A J tw)) := by
  refine Ct.intro [(0, .ref (b 0)), (1, .int (nI s))] (by decide) rfl (Nat.le_of_ble_eq_true rfl) ?_
  refine z_aload_n d_X12_slips_0 0 rfl ?_
  refine z_get (v := .ref (b 7)) 0 f_X12_23_12 rfl rfl d_X12_slips_1 ?_
  refine z_iload_n d_X12_slips_4 1 rfl ?_
  refine z_ialdN 4 s rfl (nI_toInt (by omega)) (by omega) d_X12_slips_5 ?_
  refine z_iconst (v := 3) d_X12_slips_6 (by decide) ?_
  refine z_icmp_ne d_X12_slips_7 (fun c_7 => ?_) (fun c_7 => ?_)
  · refine z_aload_n d_X12_slips_20 0 rfl ?_
    refine z_get (v := .ref (b 7)) 0 f_X12_23_12 rfl rfl d_X12_slips_21 ?_
    refine z_iload_n d_X12_slips_24 1 rfl ?_
    refine z_ialdN 4 s rfl (nI_toInt (by omega)) (by omega) d_X12_slips_25 ?_
    refine z_iconst (v := 5) d_X12_slips_26 (by decide) ?_
    refine z_icmp_ne d_X12_slips_27 (fun c_27 => ?_) (fun c_27 => ?_)
    · refine z_iconst (v := 0) d_X12_slips_51 (by decide) ?_
      exact z_zret _ d_X12_slips_52 rfl (by decide) (Pi.of (by first | (refine b01_f ?_; simp [slS, *]; done) | exact absurd (c_7.symm.trans c_27) (by decide)))
    · refine z_aload_n d_X12_slips_30 0 rfl ?_
      refine z_iload_n d_X12_slips_31 1 rfl ?_
      refine z_callVp 0 c_X12_124 (t_X12_ageOf G b I A J tw s (by omega)) rfl rfl rfl rfl (Nat.le_of_ble_eq_true rfl) rfl d_X12_slips_32 ?_
      refine z_bipush (v := 10) d_X12_slips_35 (by decide) ?_
      refine z_aload_n d_X12_slips_37 0 rfl ?_
      refine z_get (v := .ref (b 9)) 0 f_X12_29_12 rfl rfl d_X12_slips_38 ?_
      refine z_iload_n d_X12_slips_41 1 rfl ?_
      refine z_ialdN 6 s rfl (nI_toInt (by omega)) (by omega) d_X12_slips_42 ?_
      refine z_iadd d_X12_slips_43 ?_
      refine z_icmp_lt d_X12_slips_44 (fun c_44 => ?_) (fun c_44 => ?_)
      · refine z_iconst (v := 0) d_X12_slips_51 (by decide) ?_
        exact z_zret _ d_X12_slips_52 rfl (by decide) (Pi.of (by first | (refine b01_f ?_; simp [slS, *]; done) | exact absurd (c_7.symm.trans c_27) (by decide)))
      · refine z_iconst (v := 1) d_X12_slips_47 (by decide) ?_
        refine z_goto d_X12_slips_48 ?_
        exact z_zret _ d_X12_slips_52 rfl (by decide) (Pi.of (by first | (refine b01_t ?_; simp [slS, *]; done) | exact absurd (c_7.symm.trans c_27) (by decide)))
  · refine z_aload_n d_X12_slips_10 0 rfl ?_
    refine z_iload_n d_X12_slips_11 1 rfl ?_
    refine z_callVp 0 c_X12_124 (t_X12_ageOf G b I A J tw s (by omega)) rfl rfl rfl rfl (Nat.le_of_ble_eq_true rfl) rfl d_X12_slips_12 ?_
    refine z_bipush (v := 100) d_X12_slips_15 (by decide) ?_
    refine z_icmp_ge d_X12_slips_17 (fun c_17 => ?_) (fun c_17 => ?_)
    · refine z_iconst (v := 1) d_X12_slips_47 (by decide) ?_
      refine z_goto d_X12_slips_48 ?_
      exact z_zret _ d_X12_slips_52 rfl (by decide) (Pi.of (by first | (refine b01_t ?_; simp [slS, *]; done) | exact absurd (c_7.symm.trans c_27) (by decide)))
    · refine z_aload_n d_X12_slips_20 0 rfl ?_
      refine z_get (v := .ref (b 7)) 0 f_X12_23_12 rfl rfl d_X12_slips_21 ?_
      refine z_iload_n d_X12_slips_24 1 rfl ?_
      refine z_ialdN 4 s rfl (nI_toInt (by omega)) (by omega) d_X12_slips_25 ?_
      refine z_iconst (v := 5) d_X12_slips_26 (by decide) ?_
      refine z_icmp_ne d_X12_slips_27 (fun c_27 => ?_) (fun c_27 => ?_)
      · refine z_iconst (v := 0) d_X12_slips_51 (by decide) ?_
        exact z_zret _ d_X12_slips_52 rfl (by decide) (Pi.of (by first | (refine b01_f ?_; simp [slS, *]; done) | exact absurd (c_7.symm.trans c_27) (by decide)))
      · refine z_aload_n d_X12_slips_30 0 rfl ?_
        refine z_iload_n d_X12_slips_31 1 rfl ?_
        refine z_callVp 0 c_X12_124 (t_X12_ageOf G b I A J tw s (by omega)) rfl rfl rfl rfl (Nat.le_of_ble_eq_true rfl) rfl d_X12_slips_32 ?_
        refine z_bipush (v := 10) d_X12_slips_35 (by decide) ?_
        refine z_aload_n d_X12_slips_37 0 rfl ?_
        refine z_get (v := .ref (b 9)) 0 f_X12_29_12 rfl rfl d_X12_slips_38 ?_
        refine z_iload_n d_X12_slips_41 1 rfl ?_
        refine z_ialdN 6 s rfl (nI_toInt (by omega)) (by omega) d_X12_slips_42 ?_
        refine z_iadd d_X12_slips_43 ?_
        refine z_icmp_lt d_X12_slips_44 (fun c_44 => ?_) (fun c_44 => ?_)
        · refine z_iconst (v := 0) d_X12_slips_51 (by decide) ?_
          exact z_zret _ d_X12_slips_52 rfl (by decide) (Pi.of (by first | (refine b01_f ?_; simp [slS, *]; done) | exact absurd (c_7.symm.trans c_27) (by decide)))
        · refine z_iconst (v := 1) d_X12_slips_47 (by decide) ?_
          refine z_goto d_X12_slips_48 ?_
          exact z_zret _ d_X12_slips_52 rfl (by decide) (Pi.of (by first | (refine b01_t ?_; simp [slS, *]; done) | exact absurd (c_7.symm.trans c_27) (by decide)))
def tiS (A : Nat → Nat → Int32) (s : Nat) : Int32 := if A 7 s = 0 then 1 else if A 7 s = 5 then 1 else if A 7 s = 4 then 4 else 2
set_option maxHeartbeats 4000000 in
set_option maxRecDepth 100000 in
theorem t_X12_tiesOf (G : GT) (b : Nat → Nat) (I : Nat → Int32) (A : Nat → Nat → Int32) (J : Nat → Int32) (tw : Int64) (s : Nat) (hs : s < 16) : Ct G mX12_tiesOf 0 0 0 [.ref (b 0), .int (nI s)] (MW G b I A J tw) (Pi (tiS A s) (MW G b I A J tw)) := by
  refine Ct.intro [(0, .ref (b 0)), (1, .int (nI s))] (by decide) rfl (Nat.le_of_ble_eq_true rfl) ?_
  refine z_aload_n d_X12_tiesOf_0 0 rfl ?_
  refine z_get (v := .ref (b 7)) 0 f_X12_23_12 rfl rfl d_X12_tiesOf_1 ?_
  refine z_iload_n d_X12_tiesOf_4 1 rfl ?_
  refine z_ialdN 4 s rfl (nI_toInt (by omega)) (by omega) d_X12_tiesOf_5 ?_
  refine z_if_eq d_X12_tiesOf_6 (fun c_6 => ?_) (fun c_6 => ?_)
  · refine z_iconst (v := 1) d_X12_tiesOf_19 (by decide) ?_
    refine z_goto d_X12_tiesOf_20 ?_
    exact z_iret _ d_X12_tiesOf_38 rfl (Pi.of (by simp [tiS, *]))
  · refine z_aload_n d_X12_tiesOf_9 0 rfl ?_
    refine z_get (v := .ref (b 7)) 0 f_X12_23_12 rfl rfl d_X12_tiesOf_10 ?_
    refine z_iload_n d_X12_tiesOf_13 1 rfl ?_
    refine z_ialdN 4 s rfl (nI_toInt (by omega)) (by omega) d_X12_tiesOf_14 ?_
    refine z_iconst (v := 5) d_X12_tiesOf_15 (by decide) ?_
    refine z_icmp_ne d_X12_tiesOf_16 (fun c_16 => ?_) (fun c_16 => ?_)
    · refine z_aload_n d_X12_tiesOf_23 0 rfl ?_
      refine z_get (v := .ref (b 7)) 0 f_X12_23_12 rfl rfl d_X12_tiesOf_24 ?_
      refine z_iload_n d_X12_tiesOf_27 1 rfl ?_
      refine z_ialdN 4 s rfl (nI_toInt (by omega)) (by omega) d_X12_tiesOf_28 ?_
      refine z_iconst (v := 4) d_X12_tiesOf_29 (by decide) ?_
      refine z_icmp_ne d_X12_tiesOf_30 (fun c_30 => ?_) (fun c_30 => ?_)
      · refine z_iconst (v := 2) d_X12_tiesOf_37 (by decide) ?_
        exact z_iret _ d_X12_tiesOf_38 rfl (Pi.of (by simp [tiS, *]))
      · refine z_iconst (v := 4) d_X12_tiesOf_33 (by decide) ?_
        refine z_goto d_X12_tiesOf_34 ?_
        exact z_iret _ d_X12_tiesOf_38 rfl (Pi.of (by simp [tiS, *]))
    · refine z_iconst (v := 1) d_X12_tiesOf_19 (by decide) ?_
      refine z_goto d_X12_tiesOf_20 ?_
      exact z_iret _ d_X12_tiesOf_38 rfl (Pi.of (by simp [tiS, *]))
def wiS (v a z : Int32) : Int32 := if v < a then a else if z < v then z else v
set_option maxHeartbeats 4000000 in
set_option maxRecDepth 100000 in
theorem t_X12_within (G : GT) (v a z : Int32) (ws : va_W)  : Ct G mX12_within 0 0 0 [.int v, .int a, .int z] ws (Pi (wiS v a z) ws) := by
  refine Ct.intro [(0, .int v), (1, .int a), (2, .int z)] (by decide) rfl (Nat.le_of_ble_eq_true rfl) ?_
  refine z_iload_n d_X12_within_0 0 rfl ?_
  refine z_iload_n d_X12_within_1 1 rfl ?_
  refine z_icmp_ge d_X12_within_2 (fun c_2 => ?_) (fun c_2 => ?_)
  · refine z_iload_n d_X12_within_9 0 rfl ?_
    refine z_iload_n d_X12_within_10 2 rfl ?_
    refine z_icmp_le d_X12_within_11 (fun c_11 => ?_) (fun c_11 => ?_)
    · refine z_iload_n d_X12_within_18 0 rfl ?_
      exact z_iret _ d_X12_within_19 rfl (Pi.of (by simp [wiS, *]))
    · refine z_iload_n d_X12_within_14 2 rfl ?_
      refine z_goto d_X12_within_15 ?_
      exact z_iret _ d_X12_within_19 rfl (Pi.of (by simp [wiS, *]))
  · refine z_iload_n d_X12_within_5 1 rfl ?_
    refine z_goto d_X12_within_6 ?_
    exact z_iret _ d_X12_within_19 rfl (Pi.of (by simp [wiS, *]))
def frR (th : Int32) : Nat → Nat → Nat
  | 0, k => k
  | n + 1, k => if th >>> (nI k &&& 31) &&& 1 = 1 then frR th n (k + 1) else k
def frN (th : Int32) : Nat := frR th 16 0
theorem frR_le (th : Int32) : ∀ n k, k ≤ frR th n k ∧ frR th n k ≤ k + n
  | 0, k => ⟨Nat.le_refl _, Nat.le_refl _⟩
  | n + 1, k => by
    have h := frR_le th n (k + 1)
    unfold frR
    split <;> constructor <;> omega
theorem frN_le (th : Int32) : frN th ≤ 16 := by have := (frR_le th 16 0).2; unfold frN; omega
theorem frN_lt {th : Int32} (h : ¬ nI (frN th) = 16) : frN th < 16 := by
  have h1 := frN_le th
  rcases Nat.lt_or_ge (frN th) 16 with h2 | h2
  · exact h2
  · exact absurd (by rw [show frN th = 16 by omega]; decide) h
theorem lt_nI {k N : Nat} (hk : k < 2147483648) (hN : N < 2147483648) (h : nI k < nI N) : k < N := by rw [lt_i, nI_i hk, nI_i hN] at h; omega
theorem ge_nI {k N : Nat} (hk : k < 2147483648) (hN : N < 2147483648) (h : ¬ nI k < nI N) : N ≤ k := by rw [lt_i, nI_i hk, nI_i hN] at h; omega
set_option maxHeartbeats 4000000 in
set_option maxRecDepth 100000 in
theorem l_X12_free (G : GT) (b : Nat → Nat) (I : Nat → Int32) (A : Nat → Nat → Int32) (J : Nat → Int32) (tw : Int64) (r : Nat) : ∀ (n : Nat) (k : Nat) (hk : k ≤ 16) (hm : 16 < k + n) (hr : frR (I 12) (16 - k) k = r), Tr G mX12_free (Rm 0 0 0) (OM G (Pi (nI r) (MW G b I A J tw)) 0 0) 0 0 2 [(1, .int (nI k)), (0, .ref (b 0))] [] (MW G b I A J tw) := by
  intro n
  induction n with
  | zero =>
    intro k hk hm hr
    exact absurd hm (by omega)
  | succ n ih =>
    intro k hk hm hr
    refine z_iload_n d_X12_free_2 0 rfl ?_
    refine z_bipush (v := 16) d_X12_free_3 (by decide) ?_
    refine z_icmp_ge d_X12_free_5 (fun c_5 => ?_) (fun c_5 => ?_)
    · refine z_iload_n d_X12_free_26 0 rfl ?_
      exact z_iret _ d_X12_free_27 rfl (Pi.of (congrArg nI (by first | (have h9 := ge_nI (N := 16) (by omega) (by decide) c_5; rw [show 16 - k = 0 by omega] at hr; exact hr) | (have h9 := lt_nI (N := 16) (by omega) (by decide) c_5; rw [show 16 - k = (15 - k) + 1 by omega, frR, if_neg c_17] at hr; exact hr))))
    · refine z_aload_n d_X12_free_8 1 rfl ?_
      refine z_get (v := .int (I 12)) 0 f_X12_90_12 rfl rfl d_X12_free_9 ?_
      refine z_iload_n d_X12_free_12 0 rfl ?_
      refine z_ishr d_X12_free_13 ?_
      refine z_iconst (v := 1) d_X12_free_14 (by decide) ?_
      refine z_iand d_X12_free_15 ?_
      refine z_iconst (v := 1) d_X12_free_16 (by decide) ?_
      refine z_icmp_ne d_X12_free_17 (fun c_17 => ?_) (fun c_17 => ?_)
      · refine z_iload_n d_X12_free_26 0 rfl ?_
        exact z_iret _ d_X12_free_27 rfl (Pi.of (congrArg nI (by first | (have h9 := ge_nI (N := 16) (by omega) (by decide) c_5; rw [show 16 - k = 0 by omega] at hr; exact hr) | (have h9 := lt_nI (N := 16) (by omega) (by decide) c_5; rw [show 16 - k = (15 - k) + 1 by omega, frR, if_neg c_17] at hr; exact hr))))
      · refine z_iinc (nI (k + 1)) [(1, .int (nI (k + 1))), (0, .ref (b 0))] 0 d_X12_free_20 rfl (nI_1 _) (by decide) rfl ?_
        refine z_goto d_X12_free_23 ?_
        exact ih (k + 1) (by have h9 := lt_nI (N := 16) (by omega) (by decide) c_5; omega) (by omega) (by have h9 := lt_nI (N := 16) (by omega) (by decide) c_5; rw [show 16 - k = (15 - k) + 1 by omega, frR, if_pos c_17] at hr; rw [show 16 - (k + 1) = 15 - k by omega]; exact hr)
set_option maxHeartbeats 4000000 in
set_option maxRecDepth 100000 in
theorem t_X12_free (G : GT) (b : Nat → Nat) (I : Nat → Int32) (A : Nat → Nat → Int32) (J : Nat → Int32) (tw : Int64)  : Ct G mX12_free 0 0 0 [.ref (b 0)] (MW G b I A J tw) (Pi (nI (frN (I 12))) (MW G b I A J tw)) := by
  refine Ct.intro [(0, .ref (b 0))] (by decide) rfl (Nat.le_of_ble_eq_true rfl) ?_
  refine z_iconst (v := 0) d_X12_free_0 (by decide) ?_
  refine z_istore_n [(1, .int 0), (0, .ref (b 0))] d_X12_free_1 (by decide) rfl ?_
  exact l_X12_free G b I A J tw _ 17 0 (by omega) (by omega) rfl
def stW (w : Int32) : Int32 := if irm w 100 / 10 = 0 then 1 else 5
def cvF (w : Int32) (k : Nat) (a : Int32) : Int32 := a ||| (1 <<< ((w / 100 + stW w * nI k) &&& 31))
def cvS (w : Int32) : Int32 := itL (cvF w) 0 (irm w 10).toInt.toNat
set_option maxHeartbeats 4000000 in
set_option maxRecDepth 100000 in
theorem l_X12_coversOf (G : GT) (w sp : Int32) (ws : va_W) (hsp : sp = stW w) : ∀ (n : Nat) (k : Nat) (a : Int32) (hk : k ≤ (irm w 10).toInt.toNat) (hm : (irm w 10).toInt.toNat < k + n) (ha : a = itL (cvF w) 0 k), Tr G mX12_coversOf (Rm 0 0 0) (OM G (Pi (cvS w) ws) 0 0) 0 0 20 [(3, .int (nI k)), (2, .int a), (1, .int sp), (0, .int w)] [] ws := by
  intro n
  induction n with
  | zero =>
    intro k a hk hm ha
    exact absurd hm (by omega)
  | succ n ih =>
    intro k a hk hm ha
    refine z_iload_n d_X12_coversOf_20 0 rfl ?_
    refine z_iload_n d_X12_coversOf_21 3 rfl ?_
    refine z_bipush (v := 10) d_X12_coversOf_22 (by decide) ?_
    refine z_irm d_X12_coversOf_24 (by decide) ?_
    refine z_icmp_ge d_X12_coversOf_25 (fun c_25 => ?_) (fun c_25 => ?_)
    · refine z_iload_n d_X12_coversOf_47 1 rfl ?_
      exact z_iret _ d_X12_coversOf_48 rfl (Pi.of (by have h9 := i_rng (irm w 10); rw [nI_ltN (by omega)] at c_25; rw [ha, cvS, show k = (irm w 10).toInt.toNat by omega]))
    · refine z_iload_n d_X12_coversOf_28 1 rfl ?_
      refine z_iconst (v := 1) d_X12_coversOf_29 (by decide) ?_
      refine z_iload_n d_X12_coversOf_30 3 rfl ?_
      refine z_bipush (v := 100) d_X12_coversOf_31 (by decide) ?_
      refine z_idiv d_X12_coversOf_33 (by decide) ?_
      refine z_iload_n d_X12_coversOf_34 2 rfl ?_
      refine z_iload_n d_X12_coversOf_35 0 rfl ?_
      refine z_imul d_X12_coversOf_36 ?_
      refine z_iadd d_X12_coversOf_37 ?_
      refine z_ishl d_X12_coversOf_38 ?_
      refine z_ior d_X12_coversOf_39 ?_
      refine z_istore_n [(2, .int (a ||| (1 <<< (((w / 100) + (sp * (nI k))) &&& 31)))), (3, .int (nI k)), (1, .int sp), (0, .int w)] d_X12_coversOf_40 (by decide) rfl ?_
      refine z_iinc (nI (k + 1)) [(3, .int (nI (k + 1))), (2, .int (a ||| (1 <<< (((w / 100) + (sp * (nI k))) &&& 31)))), (1, .int sp), (0, .int w)] 1 d_X12_coversOf_41 rfl (nI_1 _) (by decide) rfl ?_
      refine z_goto d_X12_coversOf_44 ?_
      exact ih (k + 1) _ (by have h9 := i_rng (irm w 10); rw [nI_ltN (by omega)] at c_25; omega) (by omega) (by rw [ha, hsp]; rfl)
set_option maxHeartbeats 4000000 in
set_option maxRecDepth 100000 in
theorem t_X12_coversOf (G : GT) (w : Int32) (ws : va_W)  : Ct G mX12_coversOf 0 0 0 [.int w] ws (Pi (cvS w) ws) := by
  refine Ct.intro [(0, .int w)] (by decide) rfl (Nat.le_of_ble_eq_true rfl) ?_
  refine z_iload_n d_X12_coversOf_0 0 rfl ?_
  refine z_bipush (v := 100) d_X12_coversOf_1 (by decide) ?_
  refine z_irm d_X12_coversOf_3 (by decide) ?_
  refine z_bipush (v := 10) d_X12_coversOf_4 (by decide) ?_
  refine z_idiv d_X12_coversOf_6 (by decide) ?_
  refine z_if_ne d_X12_coversOf_7 (fun c_7 => ?_) (fun c_7 => ?_)
  · refine z_iconst (v := 5) d_X12_coversOf_14 (by decide) ?_
    refine z_istore_n [(1, .int 5), (0, .int w)] d_X12_coversOf_15 (by decide) rfl ?_
    refine z_iconst (v := 0) d_X12_coversOf_16 (by decide) ?_
    refine z_istore_n [(2, .int 0), (1, .int 5), (0, .int w)] d_X12_coversOf_17 (by decide) rfl ?_
    refine z_iconst (v := 0) d_X12_coversOf_18 (by decide) ?_
    refine z_istore_n [(3, .int 0), (2, .int 0), (1, .int 5), (0, .int w)] d_X12_coversOf_19 (by decide) rfl ?_
    exact l_X12_coversOf G w 5 ws (by simp [stW, *]) ((irm w 10).toInt.toNat + 1) 0 0 (by omega) (by omega) rfl
  · refine z_iconst (v := 1) d_X12_coversOf_10 (by decide) ?_
    refine z_goto d_X12_coversOf_11 ?_
    refine z_istore_n [(1, .int 1), (0, .int w)] d_X12_coversOf_15 (by decide) rfl ?_
    refine z_iconst (v := 0) d_X12_coversOf_16 (by decide) ?_
    refine z_istore_n [(2, .int 0), (1, .int 1), (0, .int w)] d_X12_coversOf_17 (by decide) rfl ?_
    refine z_iconst (v := 0) d_X12_coversOf_18 (by decide) ?_
    refine z_istore_n [(3, .int 0), (2, .int 0), (1, .int 1), (0, .int w)] d_X12_coversOf_19 (by decide) rfl ?_
    exact l_X12_coversOf G w 1 ws (by simp [stW, *]) ((irm w 10).toInt.toNat + 1) 0 0 (by omega) (by omega) rfl
def laA (I : Nat → Int32) (A : Nat → Nat → Int32) (s : Nat) (k w v : Int32) : Nat → Nat → Int32 := vf_upd (vf_upd (vf_upd (vf_upd (vf_upd A 7 (upd (A 7) s k)) 8 (upd (A 8) s w)) 9 (upd (A 9) s v)) 10 (upd (A 10) s (I 13))) 11 (upd (A 11) s (cvS w))
def laI (I : Nat → Int32) (s : Nat) : Nat → Int32 := upd I 12 (I 12 ||| 1 <<< (nI s &&& 31))
set_option maxHeartbeats 4000000 in
set_option maxRecDepth 100000 in
theorem t_X12_lays (G : GT) (b : Nat → Nat) (I : Nat → Int32) (A : Nat → Nat → Int32) (J : Nat → Int32) (tw : Int64) (s : Nat) (k : Int32) (w : Int32) (v : Int32) (hs : s < 16) : Ct G mX12_lays 1 0 0 [.ref (b 0), .int (nI s), .int k, .int w, .int v] (MW G b I A J tw) (Pv (MW G b (laI I s) (laA I A s k w v) J tw)) := by
  refine Ct.intro [(0, .ref (b 0)), (1, .int (nI s)), (2, .int k), (3, .int w), (4, .int v)] (by decide) rfl (Nat.le_of_ble_eq_true rfl) ?_
  refine z_aload_n d_X12_lays_0 0 rfl ?_
  refine z_get (v := .ref (b 7)) 0 f_X12_23_12 rfl rfl d_X12_lays_1 ?_
  refine z_iload_n d_X12_lays_4 1 rfl ?_
  refine z_iload_n d_X12_lays_5 2 rfl ?_
  refine z_iastN 4 s (MW G b I (vf_upd A 7 (upd (A 7) s k)) J tw) rfl (nI_toInt (by omega)) (by omega) (mw_7 G b I A J tw _) d_X12_lays_6 ?_
  refine z_aload_n d_X12_lays_7 0 rfl ?_
  refine z_get (v := .ref (b 8)) 0 f_X12_26_12 rfl rfl d_X12_lays_8 ?_
  refine z_iload_n d_X12_lays_11 1 rfl ?_
  refine z_iload_n d_X12_lays_12 3 rfl ?_
  refine z_iastN 5 s (MW G b I (vf_upd (vf_upd A 7 (upd (A 7) s k)) 8 (upd (A 8) s w)) J tw) rfl (nI_toInt (by omega)) (by omega) (mw_8 G b I (vf_upd A 7 (upd (A 7) s k)) J tw _) d_X12_lays_13 ?_
  refine z_aload_n d_X12_lays_14 0 rfl ?_
  refine z_get (v := .ref (b 9)) 0 f_X12_29_12 rfl rfl d_X12_lays_15 ?_
  refine z_iload_n d_X12_lays_18 1 rfl ?_
  refine z_iload d_X12_lays_19 4 rfl ?_
  refine z_iastN 6 s (MW G b I (vf_upd (vf_upd (vf_upd A 7 (upd (A 7) s k)) 8 (upd (A 8) s w)) 9 (upd (A 9) s v)) J tw) rfl (nI_toInt (by omega)) (by omega) (mw_9 G b I (vf_upd (vf_upd A 7 (upd (A 7) s k)) 8 (upd (A 8) s w)) J tw _) d_X12_lays_21 ?_
  refine z_aload_n d_X12_lays_22 0 rfl ?_
  refine z_get (v := .ref (b 10)) 0 f_X12_32_12 rfl rfl d_X12_lays_23 ?_
  refine z_iload_n d_X12_lays_26 1 rfl ?_
  refine z_aload_n d_X12_lays_27 0 rfl ?_
  refine z_get (v := .int (I 13)) 0 f_X12_95_12 rfl rfl d_X12_lays_28 ?_
  refine z_iastN 7 s (MW G b I (vf_upd (vf_upd (vf_upd (vf_upd A 7 (upd (A 7) s k)) 8 (upd (A 8) s w)) 9 (upd (A 9) s v)) 10 (upd (A 10) s (I 13))) J tw) rfl (nI_toInt (by omega)) (by omega) (mw_10 G b I (vf_upd (vf_upd (vf_upd A 7 (upd (A 7) s k)) 8 (upd (A 8) s w)) 9 (upd (A 9) s v)) J tw _) d_X12_lays_31 ?_
  refine z_aload_n d_X12_lays_32 0 rfl ?_
  refine z_get (v := .ref (b 11)) 0 f_X12_35_12 rfl rfl d_X12_lays_33 ?_
  refine z_iload_n d_X12_lays_36 1 rfl ?_
  refine z_iload_n d_X12_lays_37 3 rfl ?_
  refine z_callSp c_X12_98 (t_X12_coversOf G w (MW G b I (vf_upd (vf_upd (vf_upd (vf_upd A 7 (upd (A 7) s k)) 8 (upd (A 8) s w)) 9 (upd (A 9) s v)) 10 (upd (A 10) s (I 13))) J tw)) rfl rfl (Nat.le_of_ble_eq_true rfl) rfl d_X12_lays_38 ?_
  refine z_iastN 8 s (MW G b I (vf_upd (vf_upd (vf_upd (vf_upd (vf_upd A 7 (upd (A 7) s k)) 8 (upd (A 8) s w)) 9 (upd (A 9) s v)) 10 (upd (A 10) s (I 13))) 11 (upd (A 11) s (cvS w))) J tw) rfl (nI_toInt (by omega)) (by omega) (mw_11 G b I (vf_upd (vf_upd (vf_upd (vf_upd A 7 (upd (A 7) s k)) 8 (upd (A 8) s w)) 9 (upd (A 9) s v)) 10 (upd (A 10) s (I 13))) J tw _) d_X12_lays_41 ?_
  refine z_aload_n d_X12_lays_42 0 rfl ?_
  refine z_dup d_X12_lays_43 rfl ?_
  refine z_get (v := .int (I 12)) 0 f_X12_90_12 rfl rfl d_X12_lays_44 ?_
  refine z_iconst (v := 1) d_X12_lays_47 (by decide) ?_
  refine z_iload_n d_X12_lays_48 1 rfl ?_
  refine z_ishl d_X12_lays_49 ?_
  refine z_ior d_X12_lays_50 ?_
  refine z_put 0 (MW G b (upd I 12 ((I 12) ||| (1 <<< ((nI s) &&& 31)))) (vf_upd (vf_upd (vf_upd (vf_upd (vf_upd A 7 (upd (A 7) s k)) 8 (upd (A 8) s w)) 9 (upd (A 9) s v)) 10 (upd (A 10) s (I 13))) 11 (upd (A 11) s (cvS w))) J tw) p_X12_90_12 rfl rfl rfl (Nat.le_of_ble_eq_true rfl) (mw_12 G b I (vf_upd (vf_upd (vf_upd (vf_upd (vf_upd A 7 (upd (A 7) s k)) 8 (upd (A 8) s w)) 9 (upd (A 9) s v)) 10 (upd (A 10) s (I 13))) 11 (upd (A 11) s (cvS w))) J tw _) d_X12_lays_51 ?_
  exact z_vret _ d_X12_lays_54 rfl (Pv.of rfl)
def okL (k w v : Int32) : Bool := (decide (0 ≤ k.toInt) && decide (k.toInt ≤ 5)) && (okW w && (decide (0 ≤ v.toInt) && decide (v.toInt ≤ 9)))
def layR (I : Nat → Int32) (k w v : Int32) : Int32 := if okL k w v = true then (if nI (frN (I 12)) = 16 then -4 else nI (frN (I 12))) else -2
def layP (I : Nat → Int32) (k w v : Int32) : Bool := okL k w v && !decide (nI (frN (I 12)) = 16)
def layI (I : Nat → Int32) (k w v : Int32) : Nat → Int32 := if layP I k w v = true then laI I (frN (I 12)) else I
def layA (I : Nat → Int32) (A : Nat → Nat → Int32) (k w v : Int32) : Nat → Nat → Int32 := if layP I k w v = true then laA I A (frN (I 12)) k w v else A
set_option maxHeartbeats 4000000 in
set_option maxRecDepth 100000 in
theorem t_X12_lay (G : GT) (b : Nat → Nat) (I : Nat → Int32) (A : Nat → Nat → Int32) (J : Nat → Int32) (tw : Int64) (k : Int32) (w : Int32) (v : Int32)  : Ct G mX12_lay 2 0 0 [.ref (b 0), .int k, .int w, .int v] (MW G b I A J tw) (Pi (layR I k w v) (MW G b (layI I k w v) (layA I A k w v) J tw)) := by
  refine Ct.intro [(0, .ref (b 0)), (1, .int k), (2, .int w), (3, .int v)] (by decide) rfl (Nat.le_of_ble_eq_true rfl) ?_
  refine z_iload_n d_X12_lay_0 1 rfl ?_
  refine z_i2l d_X12_lay_1 ?_
  refine z_lconst (v := 0) d_X12_lay_2 (by decide) ?_
  refine z_ldc2 d_X12_lay_3 w_1127 ?_
  refine z_callSp c_X12_82 (t_X12_in G k.toInt64 0 5 (MW G b I A J tw)) rfl rfl (Nat.le_of_ble_eq_true rfl) rfl d_X12_lay_6 ?_
  refine z_if_eq d_X12_lay_9 (fun c_9 => ?_) (fun c_9 => ?_)
  · refine z_bipush (v := -2) d_X12_lay_31 (by decide) ?_
    exact z_iret _ d_X12_lay_33 rfl (Pi.ofw (by simp only [in_b, b01_0, b01_n0, L_0, L_5, L_9] at *; simp [layR, okL, *]) (by simp only [in_b, b01_0, b01_n0, L_0, L_5, L_9] at *; simp [layI, layA, layP, okL, *]))
  · refine z_iload_n d_X12_lay_12 2 rfl ?_
    refine z_callSp c_X12_102 (t_X12_isWhere G w (MW G b I A J tw)) rfl rfl (Nat.le_of_ble_eq_true rfl) rfl d_X12_lay_13 ?_
    refine z_if_eq d_X12_lay_16 (fun c_16 => ?_) (fun c_16 => ?_)
    · refine z_bipush (v := -2) d_X12_lay_31 (by decide) ?_
      exact z_iret _ d_X12_lay_33 rfl (Pi.ofw (by simp only [in_b, b01_0, b01_n0, L_0, L_5, L_9] at *; simp [layR, okL, *]) (by simp only [in_b, b01_0, b01_n0, L_0, L_5, L_9] at *; simp [layI, layA, layP, okL, *]))
    · refine z_iload_n d_X12_lay_19 3 rfl ?_
      refine z_i2l d_X12_lay_20 ?_
      refine z_lconst (v := 0) d_X12_lay_21 (by decide) ?_
      refine z_ldc2 d_X12_lay_22 w_1135 ?_
      refine z_callSp c_X12_82 (t_X12_in G v.toInt64 0 9 (MW G b I A J tw)) rfl rfl (Nat.le_of_ble_eq_true rfl) rfl d_X12_lay_25 ?_
      refine z_if_ne d_X12_lay_28 (fun c_28 => ?_) (fun c_28 => ?_)
      · refine z_aload_n d_X12_lay_34 0 rfl ?_
        refine z_callVp 0 c_X12_108 (t_X12_free G b I A J tw) rfl rfl rfl rfl (Nat.le_of_ble_eq_true rfl) rfl d_X12_lay_35 ?_
        refine z_istore [(4, .int (nI (frN (I 12)))), (0, .ref (b 0)), (1, .int k), (2, .int w), (3, .int v)] d_X12_lay_38 (by decide) rfl ?_
        refine z_iload d_X12_lay_40 0 rfl ?_
        refine z_bipush (v := 16) d_X12_lay_42 (by decide) ?_
        refine z_icmp_ne d_X12_lay_44 (fun c_44 => ?_) (fun c_44 => ?_)
        · refine z_aload_n d_X12_lay_50 1 rfl ?_
          refine z_iload d_X12_lay_51 0 rfl ?_
          refine z_iload_n d_X12_lay_53 2 rfl ?_
          refine z_iload_n d_X12_lay_54 3 rfl ?_
          refine z_iload_n d_X12_lay_55 4 rfl ?_
          refine z_callVv 0 c_X12_112 (t_X12_lays G b I A J tw (frN (I 12)) k w v (frN_lt c_44)) rfl rfl rfl rfl (Nat.le_of_ble_eq_true rfl) rfl d_X12_lay_56 ?_
          refine z_iload d_X12_lay_59 0 rfl ?_
          exact z_iret _ d_X12_lay_61 rfl (Pi.ofw (by simp only [in_b, b01_0, b01_n0, L_0, L_5, L_9] at *; simp [layR, okL, *]) (by simp only [in_b, b01_0, b01_n0, L_0, L_5, L_9] at *; simp [layI, layA, layP, okL, *]))
        · refine z_bipush (v := -4) d_X12_lay_47 (by decide) ?_
          exact z_iret _ d_X12_lay_49 rfl (Pi.ofw (by simp only [in_b, b01_0, b01_n0, L_0, L_5, L_9] at *; simp [layR, okL, *]) (by simp only [in_b, b01_0, b01_n0, L_0, L_5, L_9] at *; simp [layI, layA, layP, okL, *]))
      · refine z_bipush (v := -2) d_X12_lay_31 (by decide) ?_
        exact z_iret _ d_X12_lay_33 rfl (Pi.ofw (by simp only [in_b, b01_0, b01_n0, L_0, L_5, L_9] at *; simp [layR, okL, *]) (by simp only [in_b, b01_0, b01_n0, L_0, L_5, L_9] at *; simp [layI, layA, layP, okL, *]))
def outI (I : Nat → Int32) (s : Int32) : Nat → Int32 := if isS I s = true then upd I 12 (I 12 &&& (1 <<< (s &&& 31) ^^^ (-1))) else I
def outR (I : Nat → Int32) (s : Int32) : Int32 := if isS I s = true then pcI (I 12 &&& (1 <<< (s &&& 31) ^^^ (-1))) else -2
def inB (x : Int32) (lo hi : Int) : Bool := decide (lo ≤ x.toInt) && decide (x.toInt ≤ hi)
def houI (I : Nat → Int32) (n : Int32) : Nat → Int32 := if inB n 1 99 = true then (if 9999 < I 13 + n then I else upd I 13 (I 13 + n)) else I
def houR (I : Nat → Int32) (n : Int32) : Int32 := if inB n 1 99 = true then (if 9999 < I 13 + n then -4 else I 13 + n) else -2
def greI (I : Nat → Int32) (n : Int32) : Nat → Int32 := if inB n 1 99 = true then upd I 14 n else I
def greR (I : Nat → Int32) (n : Int32) : Int32 := if inB n 1 99 = true then I 14 else -2
set_option maxHeartbeats 4000000 in
set_option maxRecDepth 100000 in
theorem t_X12_out (G : GT) (b : Nat → Nat) (I : Nat → Int32) (A : Nat → Nat → Int32) (J : Nat → Int32) (tw : Int64) (s : Int32)  : Ct G mX12_out 2 0 0 [.ref (b 0), .int s] (MW G b I A J tw) (Pi (outR I s) (MW G b (outI I s) A J tw)) := by
  refine Ct.intro [(0, .ref (b 0)), (1, .int s)] (by decide) rfl (Nat.le_of_ble_eq_true rfl) ?_
  refine z_aload_n d_X12_out_0 0 rfl ?_
  refine z_iload_n d_X12_out_1 1 rfl ?_
  refine z_callVp 0 c_X12_116 (t_X12_isStrip G b I A J tw s) rfl rfl rfl rfl (Nat.le_of_ble_eq_true rfl) rfl d_X12_out_2 ?_
  refine z_if_ne d_X12_out_5 (fun c_5 => ?_) (fun c_5 => ?_)
  · refine z_aload_n d_X12_out_11 0 rfl ?_
    refine z_dup d_X12_out_12 rfl ?_
    refine z_get (v := .int (I 12)) 0 f_X12_90_12 rfl rfl d_X12_out_13 ?_
    refine z_iconst (v := 1) d_X12_out_16 (by decide) ?_
    refine z_iload_n d_X12_out_17 1 rfl ?_
    refine z_ishl d_X12_out_18 ?_
    refine z_iconst (v := -1) d_X12_out_19 (by decide) ?_
    refine z_ixor d_X12_out_20 ?_
    refine z_iand d_X12_out_21 ?_
    refine z_put 0 (MW G b (upd I 12 ((I 12) &&& ((1 <<< (s &&& 31)) ^^^ (-1)))) A J tw) p_X12_90_12 rfl rfl rfl (Nat.le_of_ble_eq_true rfl) (mw_12 G b I A J tw _) d_X12_out_22 ?_
    refine z_aload_n d_X12_out_25 0 rfl ?_
    refine z_get (v := .int ((I 12) &&& ((1 <<< (s &&& 31)) ^^^ (-1)))) 0 f_X12_90_12 rfl rfl d_X12_out_26 ?_
    refine z_callSp c_X12_119 (t_X12_bitsOf G ((I 12) &&& ((1 <<< (s &&& 31)) ^^^ (-1))) (MW G b (upd I 12 ((I 12) &&& ((1 <<< (s &&& 31)) ^^^ (-1)))) A J tw)) rfl rfl (Nat.le_of_ble_eq_true rfl) rfl d_X12_out_29 ?_
    exact z_iret _ d_X12_out_32 rfl (Pi.ofw (by simp only [in_b, b01_0, b01_n0, L_0, L_1, L_99] at *; simp [inB, outR, outI, *]) (by simp only [in_b, b01_0, b01_n0, L_0, L_1, L_99] at *; simp [inB, outR, outI, *]))
  · refine z_bipush (v := -2) d_X12_out_8 (by decide) ?_
    exact z_iret _ d_X12_out_10 rfl (Pi.ofw (by simp only [in_b, b01_0, b01_n0, L_0, L_1, L_99] at *; simp [inB, outR, outI, *]) (by simp only [in_b, b01_0, b01_n0, L_0, L_1, L_99] at *; simp [inB, outR, outI, *]))
set_option maxHeartbeats 4000000 in
set_option maxRecDepth 100000 in
theorem t_X12_hours (G : GT) (b : Nat → Nat) (I : Nat → Int32) (A : Nat → Nat → Int32) (J : Nat → Int32) (tw : Int64) (n0 : Int32)  : Ct G mX12_hours 1 0 0 [.ref (b 0), .int n0] (MW G b I A J tw) (Pi (houR I n0) (MW G b (houI I n0) A J tw)) := by
  refine Ct.intro [(0, .ref (b 0)), (1, .int n0)] (by decide) rfl (Nat.le_of_ble_eq_true rfl) ?_
  refine z_iload_n d_X12_hours_0 1 rfl ?_
  refine z_i2l d_X12_hours_1 ?_
  refine z_lconst (v := 1) d_X12_hours_2 (by decide) ?_
  refine z_ldc2 d_X12_hours_3 w_1163 ?_
  refine z_callSp c_X12_82 (t_X12_in G n0.toInt64 1 99 (MW G b I A J tw)) rfl rfl (Nat.le_of_ble_eq_true rfl) rfl d_X12_hours_6 ?_
  refine z_if_ne d_X12_hours_9 (fun c_9 => ?_) (fun c_9 => ?_)
  · refine z_aload_n d_X12_hours_15 0 rfl ?_
    refine z_get (v := .int (I 13)) 0 f_X12_95_12 rfl rfl d_X12_hours_16 ?_
    refine z_iload_n d_X12_hours_19 1 rfl ?_
    refine z_iadd d_X12_hours_20 ?_
    refine z_sipush (v := 9999) d_X12_hours_21 (by decide) ?_
    refine z_icmp_le d_X12_hours_24 (fun c_24 => ?_) (fun c_24 => ?_)
    · refine z_aload_n d_X12_hours_30 0 rfl ?_
      refine z_dup d_X12_hours_31 rfl ?_
      refine z_get (v := .int (I 13)) 0 f_X12_95_12 rfl rfl d_X12_hours_32 ?_
      refine z_iload_n d_X12_hours_35 1 rfl ?_
      refine z_iadd d_X12_hours_36 ?_
      refine z_put 0 (MW G b (upd I 13 ((I 13) + n0)) A J tw) p_X12_95_12 rfl rfl rfl (Nat.le_of_ble_eq_true rfl) (mw_13 G b I A J tw _) d_X12_hours_37 ?_
      refine z_aload_n d_X12_hours_40 0 rfl ?_
      refine z_get (v := .int ((I 13) + n0)) 0 f_X12_95_12 rfl rfl d_X12_hours_41 ?_
      exact z_iret _ d_X12_hours_44 rfl (Pi.ofw (by simp only [in_b, b01_0, b01_n0, L_0, L_1, L_99] at *; simp [inB, houR, houI, *]) (by simp only [in_b, b01_0, b01_n0, L_0, L_1, L_99] at *; simp [inB, houR, houI, *]))
    · refine z_bipush (v := -4) d_X12_hours_27 (by decide) ?_
      exact z_iret _ d_X12_hours_29 rfl (Pi.ofw (by simp only [in_b, b01_0, b01_n0, L_0, L_1, L_99] at *; simp [inB, houR, houI, *]) (by simp only [in_b, b01_0, b01_n0, L_0, L_1, L_99] at *; simp [inB, houR, houI, *]))
  · refine z_bipush (v := -2) d_X12_hours_12 (by decide) ?_
    exact z_iret _ d_X12_hours_14 rfl (Pi.ofw (by simp only [in_b, b01_0, b01_n0, L_0, L_1, L_99] at *; simp [inB, houR, houI, *]) (by simp only [in_b, b01_0, b01_n0, L_0, L_1, L_99] at *; simp [inB, houR, houI, *]))
set_option maxHeartbeats 4000000 in
set_option maxRecDepth 100000 in
theorem t_X12_green (G : GT) (b : Nat → Nat) (I : Nat → Int32) (A : Nat → Nat → Int32) (J : Nat → Int32) (tw : Int64) (n0 : Int32)  : Ct G mX12_green 1 0 0 [.ref (b 0), .int n0] (MW G b I A J tw) (Pi (greR I n0) (MW G b (greI I n0) A J tw)) := by
  refine Ct.intro [(0, .ref (b 0)), (1, .int n0)] (by decide) rfl (Nat.le_of_ble_eq_true rfl) ?_
  refine z_iload_n d_X12_green_0 1 rfl ?_
  refine z_i2l d_X12_green_1 ?_
  refine z_lconst (v := 1) d_X12_green_2 (by decide) ?_
  refine z_ldc2 d_X12_green_3 w_1163 ?_
  refine z_callSp c_X12_82 (t_X12_in G n0.toInt64 1 99 (MW G b I A J tw)) rfl rfl (Nat.le_of_ble_eq_true rfl) rfl d_X12_green_6 ?_
  refine z_if_ne d_X12_green_9 (fun c_9 => ?_) (fun c_9 => ?_)
  · refine z_aload_n d_X12_green_15 0 rfl ?_
    refine z_get (v := .int (I 14)) 0 f_X12_38_12 rfl rfl d_X12_green_16 ?_
    refine z_istore_n [(2, .int (I 14)), (0, .ref (b 0)), (1, .int n0)] d_X12_green_19 (by decide) rfl ?_
    refine z_aload_n d_X12_green_20 1 rfl ?_
    refine z_iload_n d_X12_green_21 2 rfl ?_
    refine z_put 0 (MW G b (upd I 14 n0) A J tw) p_X12_38_12 rfl rfl rfl (Nat.le_of_ble_eq_true rfl) (mw_14 G b I A J tw _) d_X12_green_22 ?_
    refine z_iload_n d_X12_green_25 0 rfl ?_
    exact z_iret _ d_X12_green_26 rfl (Pi.ofw (by simp only [in_b, b01_0, b01_n0, L_0, L_1, L_99] at *; simp [inB, greR, greI, *]) (by simp only [in_b, b01_0, b01_n0, L_0, L_1, L_99] at *; simp [inB, greR, greI, *]))
  · refine z_bipush (v := -2) d_X12_green_12 (by decide) ?_
    exact z_iret _ d_X12_green_14 rfl (Pi.ofw (by simp only [in_b, b01_0, b01_n0, L_0, L_1, L_99] at *; simp [inB, greR, greI, *]) (by simp only [in_b, b01_0, b01_n0, L_0, L_1, L_99] at *; simp [inB, greR, greI, *]))
def onF (A : Nat → Nat → Int32) (c set : Int32) (k : Nat) : Bool := decide (set >>> (nI k &&& 31) &&& 1 = 1) && decide (A 11 k >>> (c &&& 31) &&& 1 = 1)
def atF (A : Nat → Nat → Int32) (c set : Int32) (k : Nat) (a : Int32) : Int32 := a ||| (if onF A c set k = true then 1 <<< (nI k &&& 31) else 0)
def atS (A : Nat → Nat → Int32) (c set : Int32) : Int32 := itL (atF A c set) 0 16
set_option maxHeartbeats 4000000 in
set_option maxRecDepth 100000 in
theorem l_X12_at1 (G : GT) (b : Nat → Nat) (I : Nat → Int32) (A : Nat → Nat → Int32) (J : Nat → Int32) (tw : Int64) (c set : Int32) : ∀ (n : Nat) (k : Nat) (a : Int32) (hk : k ≤ 16) (hm : 16 < k + n) (ha : a = itL (atF A c set) 0 k), Tr G mX12_at1 (Rm 0 0 0) (OM G (Pi (atS A c set) (MW G b I A J tw)) 0 0) 0 0 5 [(4, .int (nI k)), (3, .int a), (2, .int set), (1, .int c), (0, .ref (b 0))] [] (MW G b I A J tw) := by
  intro n
  induction n with
  | zero =>
    intro k a hk hm ha
    exact absurd hm (by omega)
  | succ n ih =>
    intro k a hk hm ha
    refine z_iload d_X12_at1_5 0 rfl ?_
    refine z_bipush (v := 16) d_X12_at1_7 (by decide) ?_
    refine z_icmp_ge d_X12_at1_9 (fun c_9 => ?_) (fun c_9 => ?_)
    · refine z_iload_n d_X12_at1_54 1 rfl ?_
      exact z_iret _ d_X12_at1_55 rfl (Pi.of (by have h9 := ge_nI (N := 16) (by omega) (by decide) c_9; rw [ha, atS, show k = 16 by omega]))
    · have h9 := lt_nI (N := 16) (by omega) (by decide) c_9
      refine z_iload_n d_X12_at1_12 1 rfl ?_
      refine z_iload_n d_X12_at1_13 2 rfl ?_
      refine z_iload d_X12_at1_14 0 rfl ?_
      refine z_ishr d_X12_at1_16 ?_
      refine z_iconst (v := 1) d_X12_at1_17 (by decide) ?_
      refine z_iand d_X12_at1_18 ?_
      refine z_iconst (v := 1) d_X12_at1_19 (by decide) ?_
      refine z_icmp_ne d_X12_at1_20 (fun c_20 => ?_) (fun c_20 => ?_)
      · refine z_iconst (v := 0) d_X12_at1_45 (by decide) ?_
        refine z_ior d_X12_at1_46 ?_
        refine z_istore_n [(3, .int (a ||| 0)), (4, .int (nI k)), (2, .int set), (1, .int c), (0, .ref (b 0))] d_X12_at1_47 (by decide) rfl ?_
        refine z_iinc (nI (k + 1)) [(4, .int (nI (k + 1))), (3, .int (a ||| 0)), (2, .int set), (1, .int c), (0, .ref (b 0))] 1 d_X12_at1_48 rfl (nI_1 _) (by decide) rfl ?_
        refine z_goto d_X12_at1_51 ?_
        exact ih (k + 1) _ (by omega) (by omega) (by rw [ha, itL, atF]; simp [onF, *])
      · refine z_aload_n d_X12_at1_23 4 rfl ?_
        refine z_get (v := .ref (b 11)) 0 f_X12_35_12 rfl rfl d_X12_at1_24 ?_
        refine z_iload d_X12_at1_27 0 rfl ?_
        refine z_ialdN 8 k rfl (nI_toInt (by omega)) (by omega) d_X12_at1_29 ?_
        refine z_iload_n d_X12_at1_30 3 rfl ?_
        refine z_ishr d_X12_at1_31 ?_
        refine z_iconst (v := 1) d_X12_at1_32 (by decide) ?_
        refine z_iand d_X12_at1_33 ?_
        refine z_iconst (v := 1) d_X12_at1_34 (by decide) ?_
        refine z_icmp_ne d_X12_at1_35 (fun c_35 => ?_) (fun c_35 => ?_)
        · refine z_iconst (v := 0) d_X12_at1_45 (by decide) ?_
          refine z_ior d_X12_at1_46 ?_
          refine z_istore_n [(3, .int (a ||| 0)), (4, .int (nI k)), (2, .int set), (1, .int c), (0, .ref (b 0))] d_X12_at1_47 (by decide) rfl ?_
          refine z_iinc (nI (k + 1)) [(4, .int (nI (k + 1))), (3, .int (a ||| 0)), (2, .int set), (1, .int c), (0, .ref (b 0))] 1 d_X12_at1_48 rfl (nI_1 _) (by decide) rfl ?_
          refine z_goto d_X12_at1_51 ?_
          exact ih (k + 1) _ (by omega) (by omega) (by rw [ha, itL, atF]; simp [onF, *])
        · refine z_iconst (v := 1) d_X12_at1_38 (by decide) ?_
          refine z_iload d_X12_at1_39 0 rfl ?_
          refine z_ishl d_X12_at1_41 ?_
          refine z_goto d_X12_at1_42 ?_
          refine z_ior d_X12_at1_46 ?_
          refine z_istore_n [(3, .int (a ||| (1 <<< ((nI k) &&& 31)))), (4, .int (nI k)), (2, .int set), (1, .int c), (0, .ref (b 0))] d_X12_at1_47 (by decide) rfl ?_
          refine z_iinc (nI (k + 1)) [(4, .int (nI (k + 1))), (3, .int (a ||| (1 <<< ((nI k) &&& 31)))), (2, .int set), (1, .int c), (0, .ref (b 0))] 1 d_X12_at1_48 rfl (nI_1 _) (by decide) rfl ?_
          refine z_goto d_X12_at1_51 ?_
          exact ih (k + 1) _ (by omega) (by omega) (by rw [ha, itL, atF]; simp [onF, *])
set_option maxHeartbeats 4000000 in
set_option maxRecDepth 100000 in
theorem t_X12_at1 (G : GT) (b : Nat → Nat) (I : Nat → Int32) (A : Nat → Nat → Int32) (J : Nat → Int32) (tw : Int64) (c : Int32) (set : Int32)  : Ct G mX12_at1 0 0 0 [.ref (b 0), .int c, .int set] (MW G b I A J tw) (Pi (atS A c set) (MW G b I A J tw)) := by
  refine Ct.intro [(0, .ref (b 0)), (1, .int c), (2, .int set)] (by decide) rfl (Nat.le_of_ble_eq_true rfl) ?_
  refine z_iconst (v := 0) d_X12_at1_0 (by decide) ?_
  refine z_istore_n [(3, .int 0), (0, .ref (b 0)), (1, .int c), (2, .int set)] d_X12_at1_1 (by decide) rfl ?_
  refine z_iconst (v := 0) d_X12_at1_2 (by decide) ?_
  refine z_istore [(4, .int 0), (3, .int 0), (0, .ref (b 0)), (1, .int c), (2, .int set)] d_X12_at1_3 (by decide) rfl ?_
  refine z_perm [0, 1, 4, 3, 2] rfl ?_
  exact l_X12_at1 G b I A J tw c set 17 0 0 (by omega) (by omega) rfl
def bit1 (s : Int32) : Int32 := 1 <<< (s &&& 31)
def mnS (x y : Int32) : Int32 := if x < y then x else y
def crF (A : Nat → Nat → Int32) (s : Nat) (set most : Int32) (k : Nat) (a : Int32) : Int32 := a + mnS (if A 11 s >>> (nI k &&& 31) &&& 1 = 1 then pcI (atS A (nI k) (set &&& (1 <<< (nI s &&& 31) ^^^ (-1)))) else 0) most
def crS (A : Nat → Nat → Int32) (s : Nat) (set most : Int32) : Int32 := itL (crF A s set most) 0 25
set_option maxHeartbeats 4000000 in
set_option maxRecDepth 100000 in
theorem l_X12_crosses (G : GT) (b : Nat → Nat) (I : Nat → Int32) (A : Nat → Nat → Int32) (J : Nat → Int32) (tw : Int64) (s : Nat) (set most : Int32) (hs : s < 16) : ∀ (n : Nat) (k : Nat) (a : Int32) (hk : k ≤ 25) (hm : 25 < k + n) (ha : a = itL (crF A s set most) 0 k), Tr G mX12_crosses (Rm 1 0 0) (OM G (Pi (crS A s set most) (MW G b I A J tw)) 0 0) 0 0 6 [(5, .int (nI k)), (4, .int a), (3, .int most), (2, .int set), (1, .int (nI s)), (0, .ref (b 0))] [] (MW G b I A J tw) := by
  intro n
  induction n with
  | zero =>
    intro k a hk hm ha
    exact absurd hm (by omega)
  | succ n ih =>
    intro k a hk hm ha
    refine z_iload d_X12_crosses_6 0 rfl ?_
    refine z_bipush (v := 25) d_X12_crosses_8 (by decide) ?_
    refine z_icmp_ge d_X12_crosses_10 (fun c_10 => ?_) (fun c_10 => ?_)
    · refine z_iload d_X12_crosses_73 1 rfl ?_
      exact z_iret _ d_X12_crosses_75 rfl (Pi.of (by have h9 := ge_nI (N := 25) (by omega) (by decide) c_10; rw [ha, crS, show k = 25 by omega]))
    · have h9 := lt_nI (N := 25) (by omega) (by decide) c_10
      refine z_aload_n d_X12_crosses_13 5 rfl ?_
      refine z_get (v := .ref (b 11)) 0 f_X12_35_12 rfl rfl d_X12_crosses_14 ?_
      refine z_iload_n d_X12_crosses_17 4 rfl ?_
      refine z_ialdN 8 s rfl (nI_toInt (by omega)) (by omega) d_X12_crosses_18 ?_
      refine z_iload d_X12_crosses_19 0 rfl ?_
      refine z_ishr d_X12_crosses_21 ?_
      refine z_iconst (v := 1) d_X12_crosses_22 (by decide) ?_
      refine z_iand d_X12_crosses_23 ?_
      refine z_iconst (v := 1) d_X12_crosses_24 (by decide) ?_
      refine z_icmp_ne d_X12_crosses_25 (fun c_25 => ?_) (fun c_25 => ?_)
      · refine z_iconst (v := 0) d_X12_crosses_47 (by decide) ?_
        refine z_istore [(6, .int 0), (5, .int (nI k)), (4, .int a), (3, .int most), (2, .int set), (1, .int (nI s)), (0, .ref (b 0))] d_X12_crosses_48 (by decide) rfl ?_
        refine z_iload d_X12_crosses_50 2 rfl ?_
        refine z_iload d_X12_crosses_52 0 rfl ?_
        refine z_iload_n d_X12_crosses_54 3 rfl ?_
        refine z_icmp_ge d_X12_crosses_55 (fun c_55 => ?_) (fun c_55 => ?_)
        · refine z_iload_n d_X12_crosses_63 3 rfl ?_
          refine z_iadd d_X12_crosses_64 ?_
          refine z_istore [(4, .int (a + most)), (6, .int 0), (5, .int (nI k)), (3, .int most), (2, .int set), (1, .int (nI s)), (0, .ref (b 0))] d_X12_crosses_65 (by decide) rfl ?_
          refine z_iinc (nI (k + 1)) [(5, .int (nI (k + 1))), (4, .int (a + most)), (6, .int 0), (3, .int most), (2, .int set), (1, .int (nI s)), (0, .ref (b 0))] 2 d_X12_crosses_67 rfl (nI_1 _) (by decide) rfl ?_
          refine z_goto d_X12_crosses_70 ?_
          refine z_perm [0, 1, 3, 4, 5, 6] rfl ?_
          exact ih (k + 1) _ (by omega) (by omega) (by rw [ha, itL, crF, mnS]; simp only [c_25, c_55, ↓reduceIte])
        · refine z_iload d_X12_crosses_58 0 rfl ?_
          refine z_goto d_X12_crosses_60 ?_
          refine z_iadd d_X12_crosses_64 ?_
          refine z_istore [(4, .int (a + 0)), (6, .int 0), (5, .int (nI k)), (3, .int most), (2, .int set), (1, .int (nI s)), (0, .ref (b 0))] d_X12_crosses_65 (by decide) rfl ?_
          refine z_iinc (nI (k + 1)) [(5, .int (nI (k + 1))), (4, .int (a + 0)), (6, .int 0), (3, .int most), (2, .int set), (1, .int (nI s)), (0, .ref (b 0))] 2 d_X12_crosses_67 rfl (nI_1 _) (by decide) rfl ?_
          refine z_goto d_X12_crosses_70 ?_
          refine z_perm [0, 1, 3, 4, 5, 6] rfl ?_
          exact ih (k + 1) _ (by omega) (by omega) (by rw [ha, itL, crF, mnS]; simp only [c_25, c_55, ↓reduceIte])
      · refine z_aload_n d_X12_crosses_28 5 rfl ?_
        refine z_iload d_X12_crosses_29 0 rfl ?_
        refine z_iload_n d_X12_crosses_31 3 rfl ?_
        refine z_iconst (v := 1) d_X12_crosses_32 (by decide) ?_
        refine z_iload_n d_X12_crosses_33 4 rfl ?_
        refine z_ishl d_X12_crosses_34 ?_
        refine z_iconst (v := -1) d_X12_crosses_35 (by decide) ?_
        refine z_ixor d_X12_crosses_36 ?_
        refine z_iand d_X12_crosses_37 ?_
        refine z_callVp 0 c_X12_127 (t_X12_at1 G b I A J tw (nI k) (set &&& ((1 <<< ((nI s) &&& 31)) ^^^ (-1)))) rfl rfl rfl rfl (Nat.le_of_ble_eq_true rfl) rfl d_X12_crosses_38 ?_
        refine z_callSp c_X12_119 (t_X12_bitsOf G (atS A (nI k) (set &&& ((1 <<< ((nI s) &&& 31)) ^^^ (-1)))) (MW G b I A J tw)) rfl rfl (Nat.le_of_ble_eq_true rfl) rfl d_X12_crosses_41 ?_
        refine z_goto d_X12_crosses_44 ?_
        refine z_istore [(6, .int (pcI (atS A (nI k) (set &&& ((1 <<< ((nI s) &&& 31)) ^^^ (-1)))))), (5, .int (nI k)), (4, .int a), (3, .int most), (2, .int set), (1, .int (nI s)), (0, .ref (b 0))] d_X12_crosses_48 (by decide) rfl ?_
        refine z_iload d_X12_crosses_50 2 rfl ?_
        refine z_iload d_X12_crosses_52 0 rfl ?_
        refine z_iload_n d_X12_crosses_54 3 rfl ?_
        refine z_icmp_ge d_X12_crosses_55 (fun c_55 => ?_) (fun c_55 => ?_)
        · refine z_iload_n d_X12_crosses_63 3 rfl ?_
          refine z_iadd d_X12_crosses_64 ?_
          refine z_istore [(4, .int (a + most)), (6, .int (pcI (atS A (nI k) (set &&& ((1 <<< ((nI s) &&& 31)) ^^^ (-1)))))), (5, .int (nI k)), (3, .int most), (2, .int set), (1, .int (nI s)), (0, .ref (b 0))] d_X12_crosses_65 (by decide) rfl ?_
          refine z_iinc (nI (k + 1)) [(5, .int (nI (k + 1))), (4, .int (a + most)), (6, .int (pcI (atS A (nI k) (set &&& ((1 <<< ((nI s) &&& 31)) ^^^ (-1)))))), (3, .int most), (2, .int set), (1, .int (nI s)), (0, .ref (b 0))] 2 d_X12_crosses_67 rfl (nI_1 _) (by decide) rfl ?_
          refine z_goto d_X12_crosses_70 ?_
          refine z_perm [0, 1, 3, 4, 5, 6] rfl ?_
          exact ih (k + 1) _ (by omega) (by omega) (by rw [ha, itL, crF, mnS]; simp only [c_25, c_55, ↓reduceIte])
        · refine z_iload d_X12_crosses_58 0 rfl ?_
          refine z_goto d_X12_crosses_60 ?_
          refine z_iadd d_X12_crosses_64 ?_
          refine z_istore [(4, .int (a + (pcI (atS A (nI k) (set &&& ((1 <<< ((nI s) &&& 31)) ^^^ (-1))))))), (6, .int (pcI (atS A (nI k) (set &&& ((1 <<< ((nI s) &&& 31)) ^^^ (-1)))))), (5, .int (nI k)), (3, .int most), (2, .int set), (1, .int (nI s)), (0, .ref (b 0))] d_X12_crosses_65 (by decide) rfl ?_
          refine z_iinc (nI (k + 1)) [(5, .int (nI (k + 1))), (4, .int (a + (pcI (atS A (nI k) (set &&& ((1 <<< ((nI s) &&& 31)) ^^^ (-1))))))), (6, .int (pcI (atS A (nI k) (set &&& ((1 <<< ((nI s) &&& 31)) ^^^ (-1)))))), (3, .int most), (2, .int set), (1, .int (nI s)), (0, .ref (b 0))] 2 d_X12_crosses_67 rfl (nI_1 _) (by decide) rfl ?_
          refine z_goto d_X12_crosses_70 ?_
          refine z_perm [0, 1, 3, 4, 5, 6] rfl ?_
          exact ih (k + 1) _ (by omega) (by omega) (by rw [ha, itL, crF, mnS]; simp only [c_25, c_55, ↓reduceIte])
set_option maxHeartbeats 4000000 in
set_option maxRecDepth 100000 in
theorem t_X12_crosses (G : GT) (b : Nat → Nat) (I : Nat → Int32) (A : Nat → Nat → Int32) (J : Nat → Int32) (tw : Int64) (s : Nat) (set : Int32) (most : Int32) (hs : s < 16) : Ct G mX12_crosses 1 0 0 [.ref (b 0), .int (nI s), .int set, .int most] (MW G b I A J tw) (Pi (crS A s set most) (MW G b I A J tw)) := by
  refine Ct.intro [(0, .ref (b 0)), (1, .int (nI s)), (2, .int set), (3, .int most)] (by decide) rfl (Nat.le_of_ble_eq_true rfl) ?_
  refine z_iconst (v := 0) d_X12_crosses_0 (by decide) ?_
  refine z_istore [(4, .int 0), (0, .ref (b 0)), (1, .int (nI s)), (2, .int set), (3, .int most)] d_X12_crosses_1 (by decide) rfl ?_
  refine z_iconst (v := 0) d_X12_crosses_3 (by decide) ?_
  refine z_istore [(5, .int 0), (4, .int 0), (0, .ref (b 0)), (1, .int (nI s)), (2, .int set), (3, .int most)] d_X12_crosses_4 (by decide) rfl ?_
  refine z_perm [0, 1, 5, 4, 3, 2] rfl ?_
  exact l_X12_crosses G b I A J tw s set most hs 26 0 0 (by omega) (by omega) rfl
def atR (I : Nat → Int32) (A : Nat → Nat → Int32) (c : Int32) : Int32 := if okC c = true then atS A c (I 12) else -2
set_option maxHeartbeats 4000000 in
set_option maxRecDepth 100000 in
theorem t_X12_at (G : GT) (b : Nat → Nat) (I : Nat → Int32) (A : Nat → Nat → Int32) (J : Nat → Int32) (tw : Int64) (c : Int32)  : Ct G mX12_at 2 0 0 [.ref (b 0), .int c] (MW G b I A J tw) (Pi (atR I A c) (MW G b I A J tw)) := by
  refine Ct.intro [(0, .ref (b 0)), (1, .int c)] (by decide) rfl (Nat.le_of_ble_eq_true rfl) ?_
  refine z_iload_n d_X12_at_0 1 rfl ?_
  refine z_callSp c_X12_157 (t_X12_isCrossing G c (MW G b I A J tw)) rfl rfl (Nat.le_of_ble_eq_true rfl) rfl d_X12_at_1 ?_
  refine z_if_eq d_X12_at_4 (fun c_4 => ?_) (fun c_4 => ?_)
  · refine z_bipush (v := -2) d_X12_at_19 (by decide) ?_
    exact z_iret _ d_X12_at_21 rfl (Pi.of (by simp only [b01_0, b01_n0] at *; simp [atR, *]))
  · refine z_aload_n d_X12_at_7 0 rfl ?_
    refine z_iload_n d_X12_at_8 1 rfl ?_
    refine z_aload_n d_X12_at_9 0 rfl ?_
    refine z_get (v := .int (I 12)) 0 f_X12_90_12 rfl rfl d_X12_at_10 ?_
    refine z_callVp 0 c_X12_127 (t_X12_at1 G b I A J tw c (I 12)) rfl rfl rfl rfl (Nat.le_of_ble_eq_true rfl) rfl d_X12_at_13 ?_
    refine z_goto d_X12_at_16 ?_
    exact z_iret _ d_X12_at_21 rfl (Pi.of (by simp only [b01_0, b01_n0] at *; simp [atR, *]))
