/-! THE REFERENCE'S WORLD: an object and its rows; I: its numbers that last, J, tw: those that a call leaves behind, A: its rows (all by the slots of the class) -/
def MF (b : Nat → Nat) (I J : Nat → Int32) (tw : Int64) : List Value := [.int (J 0), .ref (b 1), .ref (b 2), .int (I 3), .int (I 4), .ref (b 5), .int (I 6), .ref (b 7), .ref (b 8), .ref (b 9), .ref (b 10), .ref (b 11), .int (I 12), .int (I 13), .int (I 14), .int (J 15), .int (J 16), .int (J 17), .int (J 18), .long tw, .int (J 20), .int (J 21), .int (J 22), .int (J 23), .int (J 24), .int (J 25), .int (J 26), .int (J 27), .int (J 28), .int (J 29), .ref (b 30), .int (I 31), .int (I 32), .int (I 33), .int (I 34), .int (I 35), .ref (b 36), .ref (b 37), .ref (b 38), .ref (b 39)]
def MR (G : GT) (b : Nat → Nat) (A : Nat → Nat → Int32) : va_W := [(b 1, .inl (G.2.1 0, 960, .inl (A 1))), (b 2, .inl (G.2.1 0, 6, .inl (A 2))), (b 5, .inl (G.2.1 0, 160, .inl (A 5))), (b 7, .inl (G.2.1 0, 16, .inl (A 7))), (b 8, .inl (G.2.1 0, 16, .inl (A 8))), (b 9, .inl (G.2.1 0, 16, .inl (A 9))), (b 10, .inl (G.2.1 0, 16, .inl (A 10))), (b 11, .inl (G.2.1 0, 16, .inl (A 11))), (b 30, .inl (G.2.1 0, 80, .inl (A 30))), (b 36, .inl (G.2.1 2, 4, .inl (A 36))), (b 37, .inl (G.2.1 0, 4, .inl (A 37))), (b 38, .inl (G.2.1 0, 4, .inl (A 38))), (b 39, .inl (G.2.1 0, 160, .inl (A 39)))]
def MW (G : GT) (b : Nat → Nat) (I : Nat → Int32) (A : Nat → Nat → Int32) (J : Nat → Int32) (tw : Int64) : va_W := (b 0, .inr (12, MF b I J tw)) :: MR G b A
theorem mw_3 (G : GT) (b : Nat → Nat) (I : Nat → Int32) (A : Nat → Nat → Int32) (J : Nat → Int32) (tw : Int64) (v : Int32) : (MW G b I A J tw).set 0 (b 0, .inr (12, (MF b I J tw).set 3 (.int v))) = MW G b (upd I 3 v) A J tw := rfl
theorem mw_4 (G : GT) (b : Nat → Nat) (I : Nat → Int32) (A : Nat → Nat → Int32) (J : Nat → Int32) (tw : Int64) (v : Int32) : (MW G b I A J tw).set 0 (b 0, .inr (12, (MF b I J tw).set 4 (.int v))) = MW G b (upd I 4 v) A J tw := rfl
theorem mw_6 (G : GT) (b : Nat → Nat) (I : Nat → Int32) (A : Nat → Nat → Int32) (J : Nat → Int32) (tw : Int64) (v : Int32) : (MW G b I A J tw).set 0 (b 0, .inr (12, (MF b I J tw).set 6 (.int v))) = MW G b (upd I 6 v) A J tw := rfl
theorem mw_12 (G : GT) (b : Nat → Nat) (I : Nat → Int32) (A : Nat → Nat → Int32) (J : Nat → Int32) (tw : Int64) (v : Int32) : (MW G b I A J tw).set 0 (b 0, .inr (12, (MF b I J tw).set 12 (.int v))) = MW G b (upd I 12 v) A J tw := rfl
theorem mw_13 (G : GT) (b : Nat → Nat) (I : Nat → Int32) (A : Nat → Nat → Int32) (J : Nat → Int32) (tw : Int64) (v : Int32) : (MW G b I A J tw).set 0 (b 0, .inr (12, (MF b I J tw).set 13 (.int v))) = MW G b (upd I 13 v) A J tw := rfl
theorem mw_14 (G : GT) (b : Nat → Nat) (I : Nat → Int32) (A : Nat → Nat → Int32) (J : Nat → Int32) (tw : Int64) (v : Int32) : (MW G b I A J tw).set 0 (b 0, .inr (12, (MF b I J tw).set 14 (.int v))) = MW G b (upd I 14 v) A J tw := rfl
theorem mw_31 (G : GT) (b : Nat → Nat) (I : Nat → Int32) (A : Nat → Nat → Int32) (J : Nat → Int32) (tw : Int64) (v : Int32) : (MW G b I A J tw).set 0 (b 0, .inr (12, (MF b I J tw).set 31 (.int v))) = MW G b (upd I 31 v) A J tw := rfl
theorem mw_32 (G : GT) (b : Nat → Nat) (I : Nat → Int32) (A : Nat → Nat → Int32) (J : Nat → Int32) (tw : Int64) (v : Int32) : (MW G b I A J tw).set 0 (b 0, .inr (12, (MF b I J tw).set 32 (.int v))) = MW G b (upd I 32 v) A J tw := rfl
theorem mw_33 (G : GT) (b : Nat → Nat) (I : Nat → Int32) (A : Nat → Nat → Int32) (J : Nat → Int32) (tw : Int64) (v : Int32) : (MW G b I A J tw).set 0 (b 0, .inr (12, (MF b I J tw).set 33 (.int v))) = MW G b (upd I 33 v) A J tw := rfl
theorem mw_34 (G : GT) (b : Nat → Nat) (I : Nat → Int32) (A : Nat → Nat → Int32) (J : Nat → Int32) (tw : Int64) (v : Int32) : (MW G b I A J tw).set 0 (b 0, .inr (12, (MF b I J tw).set 34 (.int v))) = MW G b (upd I 34 v) A J tw := rfl
theorem mw_35 (G : GT) (b : Nat → Nat) (I : Nat → Int32) (A : Nat → Nat → Int32) (J : Nat → Int32) (tw : Int64) (v : Int32) : (MW G b I A J tw).set 0 (b 0, .inr (12, (MF b I J tw).set 35 (.int v))) = MW G b (upd I 35 v) A J tw := rfl
theorem mw_0 (G : GT) (b : Nat → Nat) (I : Nat → Int32) (A : Nat → Nat → Int32) (J : Nat → Int32) (tw : Int64) (v : Int32) : (MW G b I A J tw).set 0 (b 0, .inr (12, (MF b I J tw).set 0 (.int v))) = MW G b I A (upd J 0 v) tw := rfl
theorem mw_15 (G : GT) (b : Nat → Nat) (I : Nat → Int32) (A : Nat → Nat → Int32) (J : Nat → Int32) (tw : Int64) (v : Int32) : (MW G b I A J tw).set 0 (b 0, .inr (12, (MF b I J tw).set 15 (.int v))) = MW G b I A (upd J 15 v) tw := rfl
theorem mw_16 (G : GT) (b : Nat → Nat) (I : Nat → Int32) (A : Nat → Nat → Int32) (J : Nat → Int32) (tw : Int64) (v : Int32) : (MW G b I A J tw).set 0 (b 0, .inr (12, (MF b I J tw).set 16 (.int v))) = MW G b I A (upd J 16 v) tw := rfl
theorem mw_17 (G : GT) (b : Nat → Nat) (I : Nat → Int32) (A : Nat → Nat → Int32) (J : Nat → Int32) (tw : Int64) (v : Int32) : (MW G b I A J tw).set 0 (b 0, .inr (12, (MF b I J tw).set 17 (.int v))) = MW G b I A (upd J 17 v) tw := rfl
theorem mw_18 (G : GT) (b : Nat → Nat) (I : Nat → Int32) (A : Nat → Nat → Int32) (J : Nat → Int32) (tw : Int64) (v : Int32) : (MW G b I A J tw).set 0 (b 0, .inr (12, (MF b I J tw).set 18 (.int v))) = MW G b I A (upd J 18 v) tw := rfl
theorem mw_20 (G : GT) (b : Nat → Nat) (I : Nat → Int32) (A : Nat → Nat → Int32) (J : Nat → Int32) (tw : Int64) (v : Int32) : (MW G b I A J tw).set 0 (b 0, .inr (12, (MF b I J tw).set 20 (.int v))) = MW G b I A (upd J 20 v) tw := rfl
theorem mw_21 (G : GT) (b : Nat → Nat) (I : Nat → Int32) (A : Nat → Nat → Int32) (J : Nat → Int32) (tw : Int64) (v : Int32) : (MW G b I A J tw).set 0 (b 0, .inr (12, (MF b I J tw).set 21 (.int v))) = MW G b I A (upd J 21 v) tw := rfl
theorem mw_22 (G : GT) (b : Nat → Nat) (I : Nat → Int32) (A : Nat → Nat → Int32) (J : Nat → Int32) (tw : Int64) (v : Int32) : (MW G b I A J tw).set 0 (b 0, .inr (12, (MF b I J tw).set 22 (.int v))) = MW G b I A (upd J 22 v) tw := rfl
theorem mw_23 (G : GT) (b : Nat → Nat) (I : Nat → Int32) (A : Nat → Nat → Int32) (J : Nat → Int32) (tw : Int64) (v : Int32) : (MW G b I A J tw).set 0 (b 0, .inr (12, (MF b I J tw).set 23 (.int v))) = MW G b I A (upd J 23 v) tw := rfl
theorem mw_24 (G : GT) (b : Nat → Nat) (I : Nat → Int32) (A : Nat → Nat → Int32) (J : Nat → Int32) (tw : Int64) (v : Int32) : (MW G b I A J tw).set 0 (b 0, .inr (12, (MF b I J tw).set 24 (.int v))) = MW G b I A (upd J 24 v) tw := rfl
theorem mw_25 (G : GT) (b : Nat → Nat) (I : Nat → Int32) (A : Nat → Nat → Int32) (J : Nat → Int32) (tw : Int64) (v : Int32) : (MW G b I A J tw).set 0 (b 0, .inr (12, (MF b I J tw).set 25 (.int v))) = MW G b I A (upd J 25 v) tw := rfl
theorem mw_26 (G : GT) (b : Nat → Nat) (I : Nat → Int32) (A : Nat → Nat → Int32) (J : Nat → Int32) (tw : Int64) (v : Int32) : (MW G b I A J tw).set 0 (b 0, .inr (12, (MF b I J tw).set 26 (.int v))) = MW G b I A (upd J 26 v) tw := rfl
theorem mw_27 (G : GT) (b : Nat → Nat) (I : Nat → Int32) (A : Nat → Nat → Int32) (J : Nat → Int32) (tw : Int64) (v : Int32) : (MW G b I A J tw).set 0 (b 0, .inr (12, (MF b I J tw).set 27 (.int v))) = MW G b I A (upd J 27 v) tw := rfl
theorem mw_28 (G : GT) (b : Nat → Nat) (I : Nat → Int32) (A : Nat → Nat → Int32) (J : Nat → Int32) (tw : Int64) (v : Int32) : (MW G b I A J tw).set 0 (b 0, .inr (12, (MF b I J tw).set 28 (.int v))) = MW G b I A (upd J 28 v) tw := rfl
theorem mw_29 (G : GT) (b : Nat → Nat) (I : Nat → Int32) (A : Nat → Nat → Int32) (J : Nat → Int32) (tw : Int64) (v : Int32) : (MW G b I A J tw).set 0 (b 0, .inr (12, (MF b I J tw).set 29 (.int v))) = MW G b I A (upd J 29 v) tw := rfl
theorem mw_19 (G : GT) (b : Nat → Nat) (I : Nat → Int32) (A : Nat → Nat → Int32) (J : Nat → Int32) (tw : Int64) (v : Int64) : (MW G b I A J tw).set 0 (b 0, .inr (12, (MF b I J tw).set 19 (.long v))) = MW G b I A J v := rfl
theorem mw_1 (G : GT) (b : Nat → Nat) (I : Nat → Int32) (A : Nat → Nat → Int32) (J : Nat → Int32) (tw : Int64) (g : Nat → Int32) : (MW G b I A J tw).set 1 (b 1, .inl (G.2.1 0, 960, .inl g)) = MW G b I (vf_upd A 1 g) J tw := rfl
theorem mw_2 (G : GT) (b : Nat → Nat) (I : Nat → Int32) (A : Nat → Nat → Int32) (J : Nat → Int32) (tw : Int64) (g : Nat → Int32) : (MW G b I A J tw).set 2 (b 2, .inl (G.2.1 0, 6, .inl g)) = MW G b I (vf_upd A 2 g) J tw := rfl
theorem mw_5 (G : GT) (b : Nat → Nat) (I : Nat → Int32) (A : Nat → Nat → Int32) (J : Nat → Int32) (tw : Int64) (g : Nat → Int32) : (MW G b I A J tw).set 3 (b 5, .inl (G.2.1 0, 160, .inl g)) = MW G b I (vf_upd A 5 g) J tw := rfl
theorem mw_7 (G : GT) (b : Nat → Nat) (I : Nat → Int32) (A : Nat → Nat → Int32) (J : Nat → Int32) (tw : Int64) (g : Nat → Int32) : (MW G b I A J tw).set 4 (b 7, .inl (G.2.1 0, 16, .inl g)) = MW G b I (vf_upd A 7 g) J tw := rfl
theorem mw_8 (G : GT) (b : Nat → Nat) (I : Nat → Int32) (A : Nat → Nat → Int32) (J : Nat → Int32) (tw : Int64) (g : Nat → Int32) : (MW G b I A J tw).set 5 (b 8, .inl (G.2.1 0, 16, .inl g)) = MW G b I (vf_upd A 8 g) J tw := rfl
theorem mw_9 (G : GT) (b : Nat → Nat) (I : Nat → Int32) (A : Nat → Nat → Int32) (J : Nat → Int32) (tw : Int64) (g : Nat → Int32) : (MW G b I A J tw).set 6 (b 9, .inl (G.2.1 0, 16, .inl g)) = MW G b I (vf_upd A 9 g) J tw := rfl
theorem mw_10 (G : GT) (b : Nat → Nat) (I : Nat → Int32) (A : Nat → Nat → Int32) (J : Nat → Int32) (tw : Int64) (g : Nat → Int32) : (MW G b I A J tw).set 7 (b 10, .inl (G.2.1 0, 16, .inl g)) = MW G b I (vf_upd A 10 g) J tw := rfl
theorem mw_11 (G : GT) (b : Nat → Nat) (I : Nat → Int32) (A : Nat → Nat → Int32) (J : Nat → Int32) (tw : Int64) (g : Nat → Int32) : (MW G b I A J tw).set 8 (b 11, .inl (G.2.1 0, 16, .inl g)) = MW G b I (vf_upd A 11 g) J tw := rfl
theorem mw_30 (G : GT) (b : Nat → Nat) (I : Nat → Int32) (A : Nat → Nat → Int32) (J : Nat → Int32) (tw : Int64) (g : Nat → Int32) : (MW G b I A J tw).set 9 (b 30, .inl (G.2.1 0, 80, .inl g)) = MW G b I (vf_upd A 30 g) J tw := rfl
theorem mw_36 (G : GT) (b : Nat → Nat) (I : Nat → Int32) (A : Nat → Nat → Int32) (J : Nat → Int32) (tw : Int64) (g : Nat → Int32) : (MW G b I A J tw).set 10 (b 36, .inl (G.2.1 2, 4, .inl g)) = MW G b I (vf_upd A 36 g) J tw := rfl
theorem mw_37 (G : GT) (b : Nat → Nat) (I : Nat → Int32) (A : Nat → Nat → Int32) (J : Nat → Int32) (tw : Int64) (g : Nat → Int32) : (MW G b I A J tw).set 11 (b 37, .inl (G.2.1 0, 4, .inl g)) = MW G b I (vf_upd A 37 g) J tw := rfl
theorem mw_38 (G : GT) (b : Nat → Nat) (I : Nat → Int32) (A : Nat → Nat → Int32) (J : Nat → Int32) (tw : Int64) (g : Nat → Int32) : (MW G b I A J tw).set 12 (b 38, .inl (G.2.1 0, 4, .inl g)) = MW G b I (vf_upd A 38 g) J tw := rfl
theorem mw_39 (G : GT) (b : Nat → Nat) (I : Nat → Int32) (A : Nat → Nat → Int32) (J : Nat → Int32) (tw : Int64) (g : Nat → Int32) : (MW G b I A J tw).set 13 (b 39, .inl (G.2.1 0, 160, .inl g)) = MW G b I (vf_upd A 39 g) J tw := rfl
def inS (v lo hi : Int64) : Int32 := if lo ≤ v ∧ v ≤ hi then 1 else 0
set_option maxHeartbeats 4000000 in
set_option maxRecDepth 100000 in
theorem t_X12_in (G : GT) (v lo hi : Int64) (ws : va_W)  : Ct G mX12_in 0 0 0 [.long v, .long lo, .long hi] ws (Pi (inS v lo hi) ws) := by
  refine Ct.intro [(0, .long v), (2, .long lo), (4, .long hi)] (by decide) rfl (Nat.le_of_ble_eq_true rfl) ?_
  refine z_lload_n d_X12_in_0 0 rfl ?_
  refine z_lload_n d_X12_in_1 1 rfl ?_
  refine z_lcmp d_X12_in_2 ?_
  refine z_if_lt d_X12_in_3 (fun c_3 => ?_) (fun c_3 => ?_)
  · refine z_iconst (v := 0) d_X12_in_17 (by decide) ?_
    exact z_zret _ d_X12_in_18 rfl (by decide) (Pi.of (by simp only [lg_cmp_lt, lg_cmp_gt, Int64.not_lt] at *; first | (simp [inS, *]; done) | (rw [inS, if_neg]; rintro ⟨h1, h2⟩; first | exact absurd h1 (Int64.not_le.mpr (by assumption)) | exact absurd h2 (Int64.not_le.mpr (by assumption)))))
  · refine z_lload_n d_X12_in_6 0 rfl ?_
    refine z_lload d_X12_in_7 2 rfl ?_
    refine z_lcmp d_X12_in_9 ?_
    refine z_if_gt d_X12_in_10 (fun c_10 => ?_) (fun c_10 => ?_)
    · refine z_iconst (v := 0) d_X12_in_17 (by decide) ?_
      exact z_zret _ d_X12_in_18 rfl (by decide) (Pi.of (by simp only [lg_cmp_lt, lg_cmp_gt, Int64.not_lt] at *; first | (simp [inS, *]; done) | (rw [inS, if_neg]; rintro ⟨h1, h2⟩; first | exact absurd h1 (Int64.not_le.mpr (by assumption)) | exact absurd h2 (Int64.not_le.mpr (by assumption)))))
    · refine z_iconst (v := 1) d_X12_in_13 (by decide) ?_
      refine z_goto d_X12_in_14 ?_
      exact z_zret _ d_X12_in_18 rfl (by decide) (Pi.of (by simp only [lg_cmp_lt, lg_cmp_gt, Int64.not_lt] at *; first | (simp [inS, *]; done) | (rw [inS, if_neg]; rintro ⟨h1, h2⟩; first | exact absurd h1 (Int64.not_le.mpr (by assumption)) | exact absurd h2 (Int64.not_le.mpr (by assumption)))))
theorem inS_int (x : Int32) (lo hi : Int64) : inS x.toInt64 lo hi = if lo.toInt ≤ x.toInt ∧ x.toInt ≤ hi.toInt then 1 else 0 := by
  simp only [inS, Int64.le_iff_toInt_le, Int32.toInt_toInt64]
theorem in_0 {x : Int32} {lo hi : Int64} (h : inS x.toInt64 lo hi = 0) : ¬ (lo.toInt ≤ x.toInt ∧ x.toInt ≤ hi.toInt) := by
  intro hh
  rw [inS_int, if_pos hh] at h
  exact absurd h (by decide)
theorem in_1 {x : Int32} {lo hi : Int64} (h : ¬ inS x.toInt64 lo hi = 0) : lo.toInt ≤ x.toInt ∧ x.toInt ≤ hi.toInt := by
  refine Decidable.byContradiction fun hh => h ?_
  rw [inS_int, if_neg hh]
