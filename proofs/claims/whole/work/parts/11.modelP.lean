/-! THE REFERENCE READS: its world while it reads; B: the bytes of TEXT t -/
def JQ (z fr sz tok tat here opn bad flt : Int32) (nm : Nat → Int32) : Nat → Int32 := fun k => match k with
  | 15 => fr
  | 16 => sz
  | 17 => tok
  | 18 => tat
  | 20 => here
  | 21 => opn
  | 22 => bad
  | 23 => flt
  | 24 => nm 0
  | 25 => nm 1
  | 26 => nm 2
  | 27 => nm 3
  | 28 => nm 4
  | 29 => nm 5
  | _ => z
def PW (G : GT) (b : Nat → Nat) (I : Nat → Int32) (A : Nat → Nat → Int32) (z : Int32) (t n : Nat) (nm : Nat → Int32) (tok tat here opn bad flt : Int32) (tw : Int64) : va_W := MW G b I A (JQ z (nI (160 * t)) (nI n) tok tat here opn bad flt nm) tw
theorem JQ_eta (G : GT) (b : Nat → Nat) (I : Nat → Int32) (A : Nat → Nat → Int32) (J : Nat → Int32) (tw : Int64) : MW G b I A J tw = MW G b I A (JQ (J 0) (J 15) (J 16) (J 17) (J 18) (J 20) (J 21) (J 22) (J 23) (fun i => J (24 + i))) tw := rfl
def bM (A : Nat → Nat → Int32) (t : Nat) (i : Nat) : Int32 := A 1 (160 * t + i)
theorem pw_17 (G : GT) (b : Nat → Nat) (I : Nat → Int32) (A : Nat → Nat → Int32) (z : Int32) (t n : Nat) (nm : Nat → Int32) (tok tat here opn bad flt : Int32) (tw : Int64) (v : Int32) : (PW G b I A z t n nm tok tat here opn bad flt tw).set 0 (b 0, .inr (12, (MF b I (JQ z (nI (160 * t)) (nI n) tok tat here opn bad flt nm) tw).set 17 (.int v))) = PW G b I A z t n nm v tat here opn bad flt tw := rfl
theorem pw_18 (G : GT) (b : Nat → Nat) (I : Nat → Int32) (A : Nat → Nat → Int32) (z : Int32) (t n : Nat) (nm : Nat → Int32) (tok tat here opn bad flt : Int32) (tw : Int64) (v : Int32) : (PW G b I A z t n nm tok tat here opn bad flt tw).set 0 (b 0, .inr (12, (MF b I (JQ z (nI (160 * t)) (nI n) tok tat here opn bad flt nm) tw).set 18 (.int v))) = PW G b I A z t n nm tok v here opn bad flt tw := rfl
theorem pw_20 (G : GT) (b : Nat → Nat) (I : Nat → Int32) (A : Nat → Nat → Int32) (z : Int32) (t n : Nat) (nm : Nat → Int32) (tok tat here opn bad flt : Int32) (tw : Int64) (v : Int32) : (PW G b I A z t n nm tok tat here opn bad flt tw).set 0 (b 0, .inr (12, (MF b I (JQ z (nI (160 * t)) (nI n) tok tat here opn bad flt nm) tw).set 20 (.int v))) = PW G b I A z t n nm tok tat v opn bad flt tw := rfl
theorem pw_21 (G : GT) (b : Nat → Nat) (I : Nat → Int32) (A : Nat → Nat → Int32) (z : Int32) (t n : Nat) (nm : Nat → Int32) (tok tat here opn bad flt : Int32) (tw : Int64) (v : Int32) : (PW G b I A z t n nm tok tat here opn bad flt tw).set 0 (b 0, .inr (12, (MF b I (JQ z (nI (160 * t)) (nI n) tok tat here opn bad flt nm) tw).set 21 (.int v))) = PW G b I A z t n nm tok tat here v bad flt tw := rfl
theorem pw_22 (G : GT) (b : Nat → Nat) (I : Nat → Int32) (A : Nat → Nat → Int32) (z : Int32) (t n : Nat) (nm : Nat → Int32) (tok tat here opn bad flt : Int32) (tw : Int64) (v : Int32) : (PW G b I A z t n nm tok tat here opn bad flt tw).set 0 (b 0, .inr (12, (MF b I (JQ z (nI (160 * t)) (nI n) tok tat here opn bad flt nm) tw).set 22 (.int v))) = PW G b I A z t n nm tok tat here opn v flt tw := rfl
theorem pw_23 (G : GT) (b : Nat → Nat) (I : Nat → Int32) (A : Nat → Nat → Int32) (z : Int32) (t n : Nat) (nm : Nat → Int32) (tok tat here opn bad flt : Int32) (tw : Int64) (v : Int32) : (PW G b I A z t n nm tok tat here opn bad flt tw).set 0 (b 0, .inr (12, (MF b I (JQ z (nI (160 * t)) (nI n) tok tat here opn bad flt nm) tw).set 23 (.int v))) = PW G b I A z t n nm tok tat here opn bad v tw := rfl
theorem pw_19 (G : GT) (b : Nat → Nat) (I : Nat → Int32) (A : Nat → Nat → Int32) (z : Int32) (t n : Nat) (nm : Nat → Int32) (tok tat here opn bad flt : Int32) (tw : Int64) (v : Int64) : (PW G b I A z t n nm tok tat here opn bad flt tw).set 0 (b 0, .inr (12, (MF b I (JQ z (nI (160 * t)) (nI n) tok tat here opn bad flt nm) tw).set 19 (.long v))) = PW G b I A z t n nm tok tat here opn bad flt v := rfl
def byM (B : Nat → Int32) (n j : Nat) : Int32 := if j < n then B j else -1
set_option maxHeartbeats 4000000 in
set_option maxRecDepth 100000 in
theorem t_X12_byteAt (G : GT) (b : Nat → Nat) (I : Nat → Int32) (A : Nat → Nat → Int32) (z : Int32) (t n : Nat) (nm : Nat → Int32) (tok tat here opn bad flt : Int32) (tw : Int64) (j : Nat) (ht : t < 6) (hn : n ≤ 160) (hj : j ≤ n) : Ct G mX12_byteAt 0 0 0 [.ref (b 0), .int (nI j)] (PW G b I A z t n nm tok tat here opn bad flt tw) (Pi (byM (bM A t) n j) (PW G b I A z t n nm tok tat here opn bad flt tw)) := by
  refine Ct.intro [(0, .ref (b 0)), (1, .int (nI j))] (by decide) rfl (Nat.le_of_ble_eq_true rfl) ?_
  refine z_iload_n d_X12_byteAt_0 1 rfl ?_
  refine z_aload_n d_X12_byteAt_1 0 rfl ?_
  refine z_get (v := .int (nI n)) 0 f_X12_165_12 rfl rfl d_X12_byteAt_2 ?_
  refine z_icmp_ge d_X12_byteAt_5 (fun c_5 => ?_) (fun c_5 => ?_)
  · refine z_iconst (v := -1) d_X12_byteAt_22 (by decide) ?_
    exact z_iret _ d_X12_byteAt_23 rfl (Pi.of (by first | (have h9 := lt_nI (by omega) (by omega) c_5; rw [byM, if_pos h9]; rfl) | (have h9 := ge_nI (by omega) (by omega) c_5; rw [byM, if_neg (by omega)])))
  · have h9 := lt_nI (by omega) (by omega) c_5
    refine z_aload_n d_X12_byteAt_8 0 rfl ?_
    refine z_get (v := .ref (b 1)) 0 f_X12_13_12 rfl rfl d_X12_byteAt_9 ?_
    refine z_aload_n d_X12_byteAt_12 0 rfl ?_
    refine z_get (v := .int (nI (160 * t))) 0 f_X12_168_12 rfl rfl d_X12_byteAt_13 ?_
    refine z_iload_n d_X12_byteAt_16 1 rfl ?_
    refine z_iadd d_X12_byteAt_17 ?_
    refine z_ialdN 1 (160 * t + j) rfl (by rw [nI_add, nI_i (by omega)]) (by omega) d_X12_byteAt_18 ?_
    refine z_goto d_X12_byteAt_19 ?_
    exact z_iret _ d_X12_byteAt_23 rfl (Pi.of (by first | (have h9 := lt_nI (by omega) (by omega) c_5; rw [byM, if_pos h9]; rfl) | (have h9 := ge_nI (by omega) (by omega) c_5; rw [byM, if_neg (by omega)])))
set_option maxHeartbeats 4000000 in
set_option maxRecDepth 100000 in
theorem t_X12_fail0 (G : GT) (b : Nat → Nat) (I : Nat → Int32) (A : Nat → Nat → Int32) (z : Int32) (t n : Nat) (nm : Nat → Int32) (tok tat here opn flt : Int32) (tw : Int64)  : Ct G mX12_fail 0 0 0 [.ref (b 0)] (PW G b I A z t n nm tok tat here opn 0 flt tw) (Pv (PW G b I A z t n nm tok tat here opn 1 tat tw)) := by
  refine Ct.intro [(0, .ref (b 0))] (by decide) rfl (Nat.le_of_ble_eq_true rfl) ?_
  refine z_aload_n d_X12_fail_0 0 rfl ?_
  refine z_get (v := .int 0) 0 f_X12_203_12 rfl rfl d_X12_fail_1 ?_
  refine z_if_ne d_X12_fail_4 (fun c_4 => ?_) (fun c_4 => ?_)
  · exact absurd rfl c_4
  refine z_aload_n d_X12_fail_7 0 rfl ?_
  refine z_iconst (v := 1) d_X12_fail_8 (by decide) ?_
  refine z_put 0 (PW G b I A z t n nm tok tat here opn 1 flt tw) p_X12_203_12 rfl rfl rfl (Nat.le_of_ble_eq_true rfl) (pw_22 G b I A z t n nm tok tat here opn 0 flt tw _) d_X12_fail_9 ?_
  refine z_aload_n d_X12_fail_12 0 rfl ?_
  refine z_aload_n d_X12_fail_13 0 rfl ?_
  refine z_get (v := .int tat) 0 f_X12_177_12 rfl rfl d_X12_fail_14 ?_
  refine z_put 0 (PW G b I A z t n nm tok tat here opn 1 tat tw) p_X12_207_12 rfl rfl rfl (Nat.le_of_ble_eq_true rfl) (pw_23 G b I A z t n nm tok tat here opn 1 flt tw _) d_X12_fail_17 ?_
  exact z_vret _ d_X12_fail_20 rfl (Pv.of rfl)
set_option maxHeartbeats 4000000 in
set_option maxRecDepth 100000 in
theorem t_X12_fail1 (G : GT) (b : Nat → Nat) (I : Nat → Int32) (A : Nat → Nat → Int32) (z : Int32) (t n : Nat) (nm : Nat → Int32) (tok tat here opn flt : Int32) (tw : Int64)  : Ct G mX12_fail 0 0 0 [.ref (b 0)] (PW G b I A z t n nm tok tat here opn 1 flt tw) (Pv (PW G b I A z t n nm tok tat here opn 1 flt tw)) := by
  refine Ct.intro [(0, .ref (b 0))] (by decide) rfl (Nat.le_of_ble_eq_true rfl) ?_
  refine z_aload_n d_X12_fail_0 0 rfl ?_
  refine z_get (v := .int 1) 0 f_X12_203_12 rfl rfl d_X12_fail_1 ?_
  refine z_if_ne d_X12_fail_4 (fun c_4 => ?_) (fun c_4 => ?_)
  rotate_left
  · exact absurd c_4 (by decide)
  exact z_vret _ d_X12_fail_20 rfl (Pv.of rfl)
def isKy (bad tok k : Int32) (tw w : Int64) : Bool := decide (bad = 0) && (decide (tok = k) && decide (tw = w))
set_option maxHeartbeats 4000000 in
set_option maxRecDepth 100000 in
theorem t_X12_isWord (G : GT) (b : Nat → Nat) (I : Nat → Int32) (A : Nat → Nat → Int32) (z : Int32) (t n : Nat) (nm : Nat → Int32) (tok tat here opn bad flt : Int32) (tw : Int64) (w : Int64)  : Ct G mX12_isWord 0 0 0 [.ref (b 0), .long w] (PW G b I A z t n nm tok tat here opn bad flt tw) (Pi (b01 (isKy bad tok 1 tw w)) (PW G b I A z t n nm tok tat here opn bad flt tw)) := by
  refine Ct.intro [(0, .ref (b 0)), (1, .long w)] (by decide) rfl (Nat.le_of_ble_eq_true rfl) ?_
  refine z_aload_n d_X12_isWord_0 0 rfl ?_
  refine z_get (v := .int bad) 0 f_X12_203_12 rfl rfl d_X12_isWord_1 ?_
  refine z_if_ne d_X12_isWord_4 (fun c_4 => ?_) (fun c_4 => ?_)
  · refine z_iconst (v := 0) d_X12_isWord_28 (by decide) ?_
    exact z_zret _ d_X12_isWord_29 rfl (by decide) (Pi.of (b01_f (by (try simp only [lg_cmp_eq] at *); simp [isKy, *])))
  · refine z_aload_n d_X12_isWord_7 0 rfl ?_
    refine z_get (v := .int tok) 0 f_X12_180_12 rfl rfl d_X12_isWord_8 ?_
    refine z_iconst (v := 1) d_X12_isWord_11 (by decide) ?_
    refine z_icmp_ne d_X12_isWord_12 (fun c_12 => ?_) (fun c_12 => ?_)
    · refine z_iconst (v := 0) d_X12_isWord_28 (by decide) ?_
      exact z_zret _ d_X12_isWord_29 rfl (by decide) (Pi.of (b01_f (by (try simp only [lg_cmp_eq] at *); simp [isKy, *])))
    · refine z_aload_n d_X12_isWord_15 0 rfl ?_
      refine z_get (v := .long tw) 0 f_X12_187_12 rfl rfl d_X12_isWord_16 ?_
      refine z_lload_n d_X12_isWord_19 1 rfl ?_
      refine z_lcmp d_X12_isWord_20 ?_
      refine z_if_ne d_X12_isWord_21 (fun c_21 => ?_) (fun c_21 => ?_)
      · refine z_iconst (v := 0) d_X12_isWord_28 (by decide) ?_
        exact z_zret _ d_X12_isWord_29 rfl (by decide) (Pi.of (b01_f (by (try simp only [lg_cmp_eq] at *); simp [isKy, *])))
      · refine z_iconst (v := 1) d_X12_isWord_24 (by decide) ?_
        refine z_goto d_X12_isWord_25 ?_
        exact z_zret _ d_X12_isWord_29 rfl (by decide) (Pi.of (b01_t (by (try simp only [lg_cmp_eq] at *); simp [isKy, *])))
set_option maxHeartbeats 4000000 in
set_option maxRecDepth 100000 in
theorem t_X12_isSign (G : GT) (b : Nat → Nat) (I : Nat → Int32) (A : Nat → Nat → Int32) (z : Int32) (t n : Nat) (nm : Nat → Int32) (tok tat here opn bad flt : Int32) (tw : Int64) (c : Int32)  : Ct G mX12_isSign 0 0 0 [.ref (b 0), .int c] (PW G b I A z t n nm tok tat here opn bad flt tw) (Pi (b01 (isKy bad tok 3 tw c.toInt64)) (PW G b I A z t n nm tok tat here opn bad flt tw)) := by
  refine Ct.intro [(0, .ref (b 0)), (1, .int c)] (by decide) rfl (Nat.le_of_ble_eq_true rfl) ?_
  refine z_aload_n d_X12_isSign_0 0 rfl ?_
  refine z_get (v := .int bad) 0 f_X12_203_12 rfl rfl d_X12_isSign_1 ?_
  refine z_if_ne d_X12_isSign_4 (fun c_4 => ?_) (fun c_4 => ?_)
  · refine z_iconst (v := 0) d_X12_isSign_29 (by decide) ?_
    exact z_zret _ d_X12_isSign_30 rfl (by decide) (Pi.of (b01_f (by (try simp only [lg_cmp_eq] at *); simp [isKy, *])))
  · refine z_aload_n d_X12_isSign_7 0 rfl ?_
    refine z_get (v := .int tok) 0 f_X12_180_12 rfl rfl d_X12_isSign_8 ?_
    refine z_iconst (v := 3) d_X12_isSign_11 (by decide) ?_
    refine z_icmp_ne d_X12_isSign_12 (fun c_12 => ?_) (fun c_12 => ?_)
    · refine z_iconst (v := 0) d_X12_isSign_29 (by decide) ?_
      exact z_zret _ d_X12_isSign_30 rfl (by decide) (Pi.of (b01_f (by (try simp only [lg_cmp_eq] at *); simp [isKy, *])))
    · refine z_aload_n d_X12_isSign_15 0 rfl ?_
      refine z_get (v := .long tw) 0 f_X12_187_12 rfl rfl d_X12_isSign_16 ?_
      refine z_iload_n d_X12_isSign_19 1 rfl ?_
      refine z_i2l d_X12_isSign_20 ?_
      refine z_lcmp d_X12_isSign_21 ?_
      refine z_if_ne d_X12_isSign_22 (fun c_22 => ?_) (fun c_22 => ?_)
      · refine z_iconst (v := 0) d_X12_isSign_29 (by decide) ?_
        exact z_zret _ d_X12_isSign_30 rfl (by decide) (Pi.of (b01_f (by (try simp only [lg_cmp_eq] at *); simp [isKy, *])))
      · refine z_iconst (v := 1) d_X12_isSign_25 (by decide) ?_
        refine z_goto d_X12_isSign_26 ?_
        exact z_zret _ d_X12_isSign_30 rfl (by decide) (Pi.of (b01_t (by (try simp only [lg_cmp_eq] at *); simp [isKy, *])))
def tokM (B : Nat → Int32) (n p : Nat) : Int32 := if kdL B n p = 0 then 0 else if kdL B n p = 1 then 1 else if kdL B n p = 2 then (if 4 < nxL B n p - stL B n p then 4 else 2) else if kdL B n p = 3 then 3 else 4
def wvS (B : Nat → Int32) (s : Nat) : Nat → Int64
  | 0 => 0
  | k + 1 => if nI k < 8 then 27 * wvS B s k + (B (s + k)).toInt64 - 96 else -1
def nvM (B : Nat → Int32) (s : Nat) : Nat → Int64
  | 0 => 0
  | k + 1 => if nI k < 4 then 10 * nvM B s k + (B (s + k)).toInt64 - 48 else nvM B s k
def twM (B : Nat → Int32) (n p : Nat) (tw : Int64) : Int64 := if kdL B n p = 1 then wvS B (stL B n p) (nxL B n p - stL B n p) else if kdL B n p = 2 then nvM B (stL B n p) (nxL B n p - stL B n p) else if kdL B n p = 3 then (B (stL B n p)).toInt64 else tw
def LW (G : GT) (b : Nat → Nat) (I : Nat → Int32) (A : Nat → Nat → Int32) (z : Int32) (t n : Nat) (nm : Nat → Int32) (p : Nat) (opn bad flt : Int32) (tw : Int64) : va_W := PW G b I A z t n nm (tokM (bM A t) n p) (nI (stL (bM A t) n p)) (nI (nxL (bM A t) n p)) opn bad flt (twM (bM A t) n p tw)
theorem lw_eq {G : GT} {b : Nat → Nat} {I : Nat → Int32} {A : Nat → Nat → Int32} {z : Int32} {t n : Nat} {nm : Nat → Int32} {tok tat here : Int32} {p : Nat} {opn bad flt : Int32} {tw tw0 : Int64} (h1 : tok = tokM (bM A t) n p) (h2 : tat = nI (stL (bM A t) n p)) (h3 : here = nI (nxL (bM A t) n p)) (h4 : tw = twM (bM A t) n p tw0) : PW G b I A z t n nm tok tat here opn bad flt tw = LW G b I A z t n nm p opn bad flt tw0 := by rw [h1, h2, h3, h4]; rfl
theorem byM_in {B : Nat → Int32} {n q : Nat} (h : q < n) : byM B n q = B q := if_pos h
theorem byM_out {B : Nat → Int32} {n q : Nat} (h : ¬ q < n) : byM B n q = -1 := if_neg h
theorem byM_bl {B : Nat → Int32} {n q : Nat} {x : Int32} (h : byM B n q = x) (hx : ¬ x = -1) : q < n ∧ B q = x := by
  by_cases hq : q < n
  · exact ⟨hq, (byM_in hq).symm.trans h⟩
  · rw [byM_out hq] at h; exact absurd h.symm hx
theorem st_blank {B : Nat → Int32} {n q : Nat} (h : q < n) (hb : B q = 32 ∨ B q = 10) : stL B n (q + 1) = stL B n q := by
  unfold stL
  rw [enS_step (p := q), if_pos ⟨h, by rcases hb with e | e <;> rw [e] <;> decide⟩]
theorem st_here {B : Nat → Int32} {n q : Nat} (h1 : ¬ byM B n q = 32) (h2 : ¬ byM B n q = 10) : stL B n q = q := by
  unfold stL
  rw [enS_step, if_neg]
  rintro ⟨ha, hb⟩
  rw [byM_in ha] at h1 h2
  simp only [isBl, Bool.or_eq_true, decide_eq_true_eq] at hb
  rcases hb with hb | hb
  · exact h1 hb
  · exact h2 hb
theorem in_lt {B : Nat → Int32} {n q : Nat} (h : ¬ inS (byM B n q).toInt64 97 122 = 0) : q < n ∧ isLt (B q) = true := by
  have h2 := in_1 h
  by_cases hq : q < n
  · rw [byM_in hq] at h2
    refine ⟨hq, ?_⟩
    simp only [isLt, Bool.and_eq_true, decide_eq_true_eq]; exact h2
  · rw [byM_out hq] at h2; exact absurd h2 (by decide)
theorem in_dg {B : Nat → Int32} {n q : Nat} (h : ¬ inS (byM B n q).toInt64 48 57 = 0) : q < n ∧ isDg (B q) = true := by
  have h2 := in_1 h
  by_cases hq : q < n
  · rw [byM_in hq] at h2
    refine ⟨hq, ?_⟩
    simp only [isDg, Bool.and_eq_true, decide_eq_true_eq]; exact h2
  · rw [byM_out hq] at h2; exact absurd h2 (by decide)
theorem out_lt {B : Nat → Int32} {n q : Nat} (h : inS (byM B n q).toInt64 97 122 = 0) : ¬ (q < n ∧ isLt (B q) = true) := by
  rintro ⟨hq, h2⟩
  have h3 := in_0 h
  rw [byM_in hq] at h3
  simp only [isLt, Bool.and_eq_true, decide_eq_true_eq] at h2
  exact h3 h2
theorem out_dg {B : Nat → Int32} {n q : Nat} (h : inS (byM B n q).toInt64 48 57 = 0) : ¬ (q < n ∧ isDg (B q) = true) := by
  rintro ⟨hq, h2⟩
  have h3 := in_0 h
  rw [byM_in hq] at h3
  simp only [isDg, Bool.and_eq_true, decide_eq_true_eq] at h2
  exact h3 h2
theorem en_stop {P : Int32 → Bool} {B : Nat → Int32} {n q : Nat} (h : ¬ (q < n ∧ P (B q) = true)) : enS P B n q = q := by rw [enS_step, if_neg h]
theorem en_go {P : Int32 → Bool} {B : Nat → Int32} {n q : Nat} (h : q < n ∧ P (B q) = true) : enS P B n (q + 1) = enS P B n q := by rw [enS_step (p := q), if_pos h]
theorem kd_1 {B : Nat → Int32} {n p : Nat} (h : stL B n p < n) (h2 : isLt (B (stL B n p)) = true) : kdL B n p = 1 := by unfold kdL kdB; rw [if_neg (by omega), if_pos h2]
theorem kd_2 {B : Nat → Int32} {n p : Nat} (h : stL B n p < n) (h1 : ¬ isLt (B (stL B n p)) = true) (h2 : isDg (B (stL B n p)) = true) : kdL B n p = 2 := by unfold kdL kdB; rw [if_neg (by omega), if_neg h1, if_pos h2]
theorem kd_0 {B : Nat → Int32} {n p : Nat} (h : ¬ stL B n p < n) : kdL B n p = 0 := by unfold kdL kdB; rw [if_pos (by omega)]
theorem kd_s {B : Nat → Int32} {n p : Nat} (h : stL B n p < n) (h1 : ¬ isLt (B (stL B n p)) = true) (h2 : ¬ isDg (B (stL B n p)) = true) : kdL B n p = if isSg (B (stL B n p)) = true then 3 else 4 := by unfold kdL kdB; rw [if_neg (by omega), if_neg h1, if_neg h2]
theorem nx_1 {B : Nat → Int32} {n p : Nat} (h : kdL B n p = 1) : nxL B n p = enS isLt B n (stL B n p) := by unfold nxL; rw [if_pos h]
theorem nx_2 {B : Nat → Int32} {n p : Nat} (h : kdL B n p = 2) : nxL B n p = enS isDg B n (stL B n p) := by unfold nxL; rw [if_neg (by omega), if_pos h]
theorem nx_3 {B : Nat → Int32} {n p : Nat} (h : kdL B n p = 3) : nxL B n p = stL B n p + 1 := by unfold nxL; rw [if_neg (by omega), if_neg (by omega), if_pos h]
theorem nx_0 {B : Nat → Int32} {n p : Nat} (h : ¬ kdL B n p = 1) (h2 : ¬ kdL B n p = 2) (h3 : ¬ kdL B n p = 3) : nxL B n p = stL B n p := by unfold nxL; rw [if_neg h, if_neg h2, if_neg h3]
set_option maxHeartbeats 4000000 in
set_option maxRecDepth 100000 in
theorem l_X12_next1_107 (G : GT) (b : Nat → Nat) (I : Nat → Int32) (A : Nat → Nat → Int32) (z : Int32) (t n : Nat) (nm : Nat → Int32) (opn bad flt : Int32) (tw0 : Int64) (p : Nat) (ht : t < 6) (hn : n ≤ 160) (hp : p ≤ n) (hB : ∀ i, i < n → 0 ≤ (bM A t i).toInt) (s : Nat) (bb : Int32) (hs : s = stL (bM A t) n p) (hkd : kdL (bM A t) n p = 1) : ∀ (f : Nat)  (k : Nat) (hk : s + k ≤ n) (hm : n < s + k + f) (he : enS isLt (bM A t) n (s + k) = enS isLt (bM A t) n s), Tr G mX12_next1 (Rm 2 0 0) (OM G (Pv (LW G b I A z t n nm p opn bad flt tw0)) 0 0) 0 0 107 [(2, .int (nI k)), (1, .int bb), (0, .ref (b 0))] [] (PW G b I A z t n nm 1 (nI s) (nI (s + k)) opn bad flt (wvS (bM A t) s k)) := by
  intro f
  induction f with
  | zero =>
    intro k hk hm he
    exact absurd hm (by omega)
  | succ f ih =>
    intro k hk hm he
    refine z_aload_n d_X12_next1_107 2 rfl ?_
    refine z_aload_n d_X12_next1_108 2 rfl ?_
    refine z_get (v := .int (nI (s + k))) 0 f_X12_171_12 rfl rfl d_X12_next1_109 ?_
    refine z_callVp 0 c_X12_174 (t_X12_byteAt G b I A z t n nm 1 (nI s) (nI (s + k)) opn bad flt (wvS (bM A t) s k) (s + k) ht hn (by omega)) rfl rfl rfl rfl (Nat.le_of_ble_eq_true rfl) rfl d_X12_next1_112 ?_
    refine z_i2l d_X12_next1_115 ?_
    refine z_ldc2 d_X12_next1_116 w_1212 ?_
    refine z_ldc2 d_X12_next1_119 w_1213 ?_
    refine z_callSp c_X12_82 (t_X12_in G ((byM (bM A t) n (s + k)).toInt64) 97 122 (PW G b I A z t n nm 1 (nI s) (nI (s + k)) opn bad flt (wvS (bM A t) s k))) rfl rfl (Nat.le_of_ble_eq_true rfl) rfl d_X12_next1_122 ?_
    refine z_if_eq d_X12_next1_125 (fun c_125 => ?_) (fun c_125 => ?_)
    · refine z_goto d_X12_next1_182 ?_
      exact z_vret _ d_X12_next1_372 rfl (Pv.of (by have h8 := out_lt c_125; have h7 := en_stop h8; have h6 : nxL (bM A t) n p = s + k := (by rw [nx_1 hkd, ← hs, ← he, h7]); exact lw_eq (by rw [tokM, if_neg (by omega), if_pos hkd]) (by rw [hs]) (by rw [h6]) (by rw [twM, if_pos hkd, h6, ← hs, show s + k - s = k by omega])))
    · refine z_aload_n d_X12_next1_128 2 rfl ?_
      refine z_iload_n d_X12_next1_129 0 rfl ?_
      refine z_bipush (v := 8) d_X12_next1_130 (by decide) ?_
      refine z_icmp_ge d_X12_next1_132 (fun c_132 => ?_) (fun c_132 => ?_)
      · refine z_ldc2 d_X12_next1_160 w_1216 ?_
        refine z_put 0 (PW G b I A z t n nm 1 (nI s) (nI (s + k)) opn bad flt (-1)) p_X12_187_12 rfl rfl rfl (Nat.le_of_ble_eq_true rfl) (pw_19 G b I A z t n nm 1 (nI s) (nI (s + k)) opn bad flt (wvS (bM A t) s k) _) d_X12_next1_163 ?_
        refine z_iinc (nI (k + 1)) [(2, .int (nI (k + 1))), (1, .int bb), (0, .ref (b 0))] 0 d_X12_next1_166 rfl (nI_1 _) (by decide) rfl ?_
        refine z_aload_n d_X12_next1_169 2 rfl ?_
        refine z_dup d_X12_next1_170 rfl ?_
        refine z_get (v := .int (nI (s + k))) 0 f_X12_171_12 rfl rfl d_X12_next1_171 ?_
        refine z_iconst (v := 1) d_X12_next1_174 (by decide) ?_
        refine z_iadd d_X12_next1_175 ?_
        refine z_put 0 (PW G b I A z t n nm 1 (nI s) ((nI (s + k)) + 1) opn bad flt (-1)) p_X12_171_12 rfl rfl rfl (Nat.le_of_ble_eq_true rfl) (pw_20 G b I A z t n nm 1 (nI s) (nI (s + k)) opn bad flt (-1) _) d_X12_next1_176 ?_
        refine z_goto d_X12_next1_179 ?_
        have h8 := in_lt c_125
        have e8 : bM A t (s + k) = byM (bM A t) n (s + k) := (byM_in h8.1).symm
        have e9 : (-1) = wvS (bM A t) s (k + 1) := by rw [wvS, e8]; simp only [c_132, ↓reduceIte]
        rw [e9, nI_1, Nat.add_assoc]
        exact ih (k + 1) (by omega) (by omega) (by rw [← he, ← en_go h8, Nat.add_assoc])
      · refine z_ldc2 d_X12_next1_135 w_1214 ?_
        refine z_aload_n d_X12_next1_138 2 rfl ?_
        refine z_get (v := .long (wvS (bM A t) s k)) 0 f_X12_187_12 rfl rfl d_X12_next1_139 ?_
        refine z_lmul d_X12_next1_142 ?_
        refine z_aload_n d_X12_next1_143 2 rfl ?_
        refine z_aload_n d_X12_next1_144 2 rfl ?_
        refine z_get (v := .int (nI (s + k))) 0 f_X12_171_12 rfl rfl d_X12_next1_145 ?_
        refine z_callVp 0 c_X12_174 (t_X12_byteAt G b I A z t n nm 1 (nI s) (nI (s + k)) opn bad flt (wvS (bM A t) s k) (s + k) ht hn (by omega)) rfl rfl rfl rfl (Nat.le_of_ble_eq_true rfl) rfl d_X12_next1_148 ?_
        refine z_i2l d_X12_next1_151 ?_
        refine z_ladd d_X12_next1_152 ?_
        refine z_ldc2 d_X12_next1_153 w_1215 ?_
        refine z_lsub d_X12_next1_156 ?_
        refine z_goto d_X12_next1_157 ?_
        refine z_put 0 (PW G b I A z t n nm 1 (nI s) (nI (s + k)) opn bad flt (((27 * (wvS (bM A t) s k)) + ((byM (bM A t) n (s + k)).toInt64)) - 96)) p_X12_187_12 rfl rfl rfl (Nat.le_of_ble_eq_true rfl) (pw_19 G b I A z t n nm 1 (nI s) (nI (s + k)) opn bad flt (wvS (bM A t) s k) _) d_X12_next1_163 ?_
        refine z_iinc (nI (k + 1)) [(2, .int (nI (k + 1))), (1, .int bb), (0, .ref (b 0))] 0 d_X12_next1_166 rfl (nI_1 _) (by decide) rfl ?_
        refine z_aload_n d_X12_next1_169 2 rfl ?_
        refine z_dup d_X12_next1_170 rfl ?_
        refine z_get (v := .int (nI (s + k))) 0 f_X12_171_12 rfl rfl d_X12_next1_171 ?_
        refine z_iconst (v := 1) d_X12_next1_174 (by decide) ?_
        refine z_iadd d_X12_next1_175 ?_
        refine z_put 0 (PW G b I A z t n nm 1 (nI s) ((nI (s + k)) + 1) opn bad flt (((27 * (wvS (bM A t) s k)) + ((byM (bM A t) n (s + k)).toInt64)) - 96)) p_X12_171_12 rfl rfl rfl (Nat.le_of_ble_eq_true rfl) (pw_20 G b I A z t n nm 1 (nI s) (nI (s + k)) opn bad flt (((27 * (wvS (bM A t) s k)) + ((byM (bM A t) n (s + k)).toInt64)) - 96) _) d_X12_next1_176 ?_
        refine z_goto d_X12_next1_179 ?_
        have h8 := in_lt c_125
        have e8 : bM A t (s + k) = byM (bM A t) n (s + k) := (byM_in h8.1).symm
        have e9 : ((27 * (wvS (bM A t) s k)) + ((byM (bM A t) n (s + k)).toInt64)) - 96 = wvS (bM A t) s (k + 1) := by rw [wvS, e8]; simp only [c_132, ↓reduceIte]
        rw [e9, nI_1, Nat.add_assoc]
        exact ih (k + 1) (by omega) (by omega) (by rw [← he, ← en_go h8, Nat.add_assoc])
set_option maxHeartbeats 4000000 in
set_option maxRecDepth 100000 in
theorem l_X12_next1_211 (G : GT) (b : Nat → Nat) (I : Nat → Int32) (A : Nat → Nat → Int32) (z : Int32) (t n : Nat) (nm : Nat → Int32) (opn bad flt : Int32) (tw0 : Int64) (p : Nat) (ht : t < 6) (hn : n ≤ 160) (hp : p ≤ n) (hB : ∀ i, i < n → 0 ≤ (bM A t i).toInt) (s : Nat) (bb : Int32) (hs : s = stL (bM A t) n p) (hkd : kdL (bM A t) n p = 2) : ∀ (f : Nat)  (k : Nat) (hk : s + k ≤ n) (hm : n < s + k + f) (he : enS isDg (bM A t) n (s + k) = enS isDg (bM A t) n s), Tr G mX12_next1 (Rm 2 0 0) (OM G (Pv (LW G b I A z t n nm p opn bad flt tw0)) 0 0) 0 0 211 [(2, .int (nI k)), (1, .int bb), (0, .ref (b 0))] [] (PW G b I A z t n nm 2 (nI s) (nI (s + k)) opn bad flt (nvM (bM A t) s k)) := by
  intro f
  induction f with
  | zero =>
    intro k hk hm he
    exact absurd hm (by omega)
  | succ f ih =>
    intro k hk hm he
    refine z_aload_n d_X12_next1_211 2 rfl ?_
    refine z_aload_n d_X12_next1_212 2 rfl ?_
    refine z_get (v := .int (nI (s + k))) 0 f_X12_171_12 rfl rfl d_X12_next1_213 ?_
    refine z_callVp 0 c_X12_174 (t_X12_byteAt G b I A z t n nm 2 (nI s) (nI (s + k)) opn bad flt (nvM (bM A t) s k) (s + k) ht hn (by omega)) rfl rfl rfl rfl (Nat.le_of_ble_eq_true rfl) rfl d_X12_next1_216 ?_
    refine z_i2l d_X12_next1_219 ?_
    refine z_ldc2 d_X12_next1_220 w_1217 ?_
    refine z_ldc2 d_X12_next1_223 w_1218 ?_
    refine z_callSp c_X12_82 (t_X12_in G ((byM (bM A t) n (s + k)).toInt64) 48 57 (PW G b I A z t n nm 2 (nI s) (nI (s + k)) opn bad flt (nvM (bM A t) s k))) rfl rfl (Nat.le_of_ble_eq_true rfl) rfl d_X12_next1_226 ?_
    refine z_if_eq d_X12_next1_229 (fun c_229 => ?_) (fun c_229 => ?_)
    · refine z_aload_n d_X12_next1_286 2 rfl ?_
      refine z_iload_n d_X12_next1_287 0 rfl ?_
      refine z_iconst (v := 4) d_X12_next1_288 (by decide) ?_
      refine z_icmp_le d_X12_next1_289 (fun c_289 => ?_) (fun c_289 => ?_)
      · refine z_iconst (v := 2) d_X12_next1_296 (by decide) ?_
        refine z_put 0 (PW G b I A z t n nm 2 (nI s) (nI (s + k)) opn bad flt (nvM (bM A t) s k)) p_X12_180_12 rfl rfl rfl (Nat.le_of_ble_eq_true rfl) (pw_17 G b I A z t n nm 2 (nI s) (nI (s + k)) opn bad flt (nvM (bM A t) s k) _) d_X12_next1_297 ?_
        refine z_goto d_X12_next1_300 ?_
        exact z_vret _ d_X12_next1_372 rfl (Pv.of (by have h8 := out_dg c_229; have h7 := en_stop h8; have h6 : nxL (bM A t) n p = s + k := (by rw [nx_2 hkd, ← hs, ← he, h7]); exact lw_eq (by rw [tokM, if_neg (by omega), if_neg (by omega), if_pos hkd, h6, ← hs, show s + k - s = k by omega]; rw [lt_i, nI_i (by omega), show (4 : Int32).toInt = 4 by decide] at c_289; first | rw [if_pos (by omega)] | rw [if_neg (by omega)]) (by rw [hs]) (by rw [h6]) (by rw [twM, if_neg (by omega), if_pos hkd, h6, ← hs, show s + k - s = k by omega])))
      · refine z_iconst (v := 4) d_X12_next1_292 (by decide) ?_
        refine z_goto d_X12_next1_293 ?_
        refine z_put 0 (PW G b I A z t n nm 4 (nI s) (nI (s + k)) opn bad flt (nvM (bM A t) s k)) p_X12_180_12 rfl rfl rfl (Nat.le_of_ble_eq_true rfl) (pw_17 G b I A z t n nm 2 (nI s) (nI (s + k)) opn bad flt (nvM (bM A t) s k) _) d_X12_next1_297 ?_
        refine z_goto d_X12_next1_300 ?_
        exact z_vret _ d_X12_next1_372 rfl (Pv.of (by have h8 := out_dg c_229; have h7 := en_stop h8; have h6 : nxL (bM A t) n p = s + k := (by rw [nx_2 hkd, ← hs, ← he, h7]); exact lw_eq (by rw [tokM, if_neg (by omega), if_neg (by omega), if_pos hkd, h6, ← hs, show s + k - s = k by omega]; rw [lt_i, nI_i (by omega), show (4 : Int32).toInt = 4 by decide] at c_289; first | rw [if_pos (by omega)] | rw [if_neg (by omega)]) (by rw [hs]) (by rw [h6]) (by rw [twM, if_neg (by omega), if_pos hkd, h6, ← hs, show s + k - s = k by omega])))
    · refine z_aload_n d_X12_next1_232 2 rfl ?_
      refine z_iload_n d_X12_next1_233 0 rfl ?_
      refine z_iconst (v := 4) d_X12_next1_234 (by decide) ?_
      refine z_icmp_ge d_X12_next1_235 (fun c_235 => ?_) (fun c_235 => ?_)
      · refine z_aload_n d_X12_next1_263 2 rfl ?_
        refine z_get (v := .long (nvM (bM A t) s k)) 0 f_X12_187_12 rfl rfl d_X12_next1_264 ?_
        refine z_put 0 (PW G b I A z t n nm 2 (nI s) (nI (s + k)) opn bad flt (nvM (bM A t) s k)) p_X12_187_12 rfl rfl rfl (Nat.le_of_ble_eq_true rfl) (pw_19 G b I A z t n nm 2 (nI s) (nI (s + k)) opn bad flt (nvM (bM A t) s k) _) d_X12_next1_267 ?_
        refine z_iinc (nI (k + 1)) [(2, .int (nI (k + 1))), (1, .int bb), (0, .ref (b 0))] 0 d_X12_next1_270 rfl (nI_1 _) (by decide) rfl ?_
        refine z_aload_n d_X12_next1_273 2 rfl ?_
        refine z_dup d_X12_next1_274 rfl ?_
        refine z_get (v := .int (nI (s + k))) 0 f_X12_171_12 rfl rfl d_X12_next1_275 ?_
        refine z_iconst (v := 1) d_X12_next1_278 (by decide) ?_
        refine z_iadd d_X12_next1_279 ?_
        refine z_put 0 (PW G b I A z t n nm 2 (nI s) ((nI (s + k)) + 1) opn bad flt (nvM (bM A t) s k)) p_X12_171_12 rfl rfl rfl (Nat.le_of_ble_eq_true rfl) (pw_20 G b I A z t n nm 2 (nI s) (nI (s + k)) opn bad flt (nvM (bM A t) s k) _) d_X12_next1_280 ?_
        refine z_goto d_X12_next1_283 ?_
        have h8 := in_dg c_229
        have e8 : bM A t (s + k) = byM (bM A t) n (s + k) := (byM_in h8.1).symm
        have e9 : nvM (bM A t) s k = nvM (bM A t) s (k + 1) := by rw [nvM, e8]; simp only [c_235, ↓reduceIte]
        rw [e9, nI_1, Nat.add_assoc]
        exact ih (k + 1) (by omega) (by omega) (by rw [← he, ← en_go h8, Nat.add_assoc])
      · refine z_ldc2 d_X12_next1_238 w_1219 ?_
        refine z_aload_n d_X12_next1_241 2 rfl ?_
        refine z_get (v := .long (nvM (bM A t) s k)) 0 f_X12_187_12 rfl rfl d_X12_next1_242 ?_
        refine z_lmul d_X12_next1_245 ?_
        refine z_aload_n d_X12_next1_246 2 rfl ?_
        refine z_aload_n d_X12_next1_247 2 rfl ?_
        refine z_get (v := .int (nI (s + k))) 0 f_X12_171_12 rfl rfl d_X12_next1_248 ?_
        refine z_callVp 0 c_X12_174 (t_X12_byteAt G b I A z t n nm 2 (nI s) (nI (s + k)) opn bad flt (nvM (bM A t) s k) (s + k) ht hn (by omega)) rfl rfl rfl rfl (Nat.le_of_ble_eq_true rfl) rfl d_X12_next1_251 ?_
        refine z_i2l d_X12_next1_254 ?_
        refine z_ladd d_X12_next1_255 ?_
        refine z_ldc2 d_X12_next1_256 w_1217 ?_
        refine z_lsub d_X12_next1_259 ?_
        refine z_goto d_X12_next1_260 ?_
        refine z_put 0 (PW G b I A z t n nm 2 (nI s) (nI (s + k)) opn bad flt (((10 * (nvM (bM A t) s k)) + ((byM (bM A t) n (s + k)).toInt64)) - 48)) p_X12_187_12 rfl rfl rfl (Nat.le_of_ble_eq_true rfl) (pw_19 G b I A z t n nm 2 (nI s) (nI (s + k)) opn bad flt (nvM (bM A t) s k) _) d_X12_next1_267 ?_
        refine z_iinc (nI (k + 1)) [(2, .int (nI (k + 1))), (1, .int bb), (0, .ref (b 0))] 0 d_X12_next1_270 rfl (nI_1 _) (by decide) rfl ?_
        refine z_aload_n d_X12_next1_273 2 rfl ?_
        refine z_dup d_X12_next1_274 rfl ?_
        refine z_get (v := .int (nI (s + k))) 0 f_X12_171_12 rfl rfl d_X12_next1_275 ?_
        refine z_iconst (v := 1) d_X12_next1_278 (by decide) ?_
        refine z_iadd d_X12_next1_279 ?_
        refine z_put 0 (PW G b I A z t n nm 2 (nI s) ((nI (s + k)) + 1) opn bad flt (((10 * (nvM (bM A t) s k)) + ((byM (bM A t) n (s + k)).toInt64)) - 48)) p_X12_171_12 rfl rfl rfl (Nat.le_of_ble_eq_true rfl) (pw_20 G b I A z t n nm 2 (nI s) (nI (s + k)) opn bad flt (((10 * (nvM (bM A t) s k)) + ((byM (bM A t) n (s + k)).toInt64)) - 48) _) d_X12_next1_280 ?_
        refine z_goto d_X12_next1_283 ?_
        have h8 := in_dg c_229
        have e8 : bM A t (s + k) = byM (bM A t) n (s + k) := (byM_in h8.1).symm
        have e9 : ((10 * (nvM (bM A t) s k)) + ((byM (bM A t) n (s + k)).toInt64)) - 48 = nvM (bM A t) s (k + 1) := by rw [nvM, e8]; simp only [c_235, ↓reduceIte]
        rw [e9, nI_1, Nat.add_assoc]
        exact ih (k + 1) (by omega) (by omega) (by rw [← he, ← en_go h8, Nat.add_assoc])
set_option maxHeartbeats 4000000 in
set_option maxRecDepth 100000 in
theorem s_X12_next1_39 (G : GT) (b : Nat → Nat) (I : Nat → Int32) (A : Nat → Nat → Int32) (z : Int32) (t n : Nat) (nm : Nat → Int32) (opn bad flt : Int32) (tw0 : Int64) (p : Nat) (ht : t < 6) (hn : n ≤ 160) (hp : p ≤ n) (hB : ∀ i, i < n → 0 ≤ (bM A t i).toInt) (q : Nat) (tok tat : Int32)  (hq : q ≤ n) (hs : q = stL (bM A t) n p) : Tr G mX12_next1 (Rm 2 0 0) (OM G (Pv (LW G b I A z t n nm p opn bad flt tw0)) 0 0) 0 0 39 [(0, .ref (b 0))] [] (PW G b I A z t n nm tok tat (nI q) opn bad flt tw0) := by
  refine z_aload_n d_X12_next1_39 0 rfl ?_
  refine z_aload_n d_X12_next1_40 0 rfl ?_
  refine z_get (v := .int (nI q)) 0 f_X12_171_12 rfl rfl d_X12_next1_41 ?_
  refine z_put 0 (PW G b I A z t n nm tok (nI q) (nI q) opn bad flt tw0) p_X12_177_12 rfl rfl rfl (Nat.le_of_ble_eq_true rfl) (pw_18 G b I A z t n nm tok tat (nI q) opn bad flt tw0 _) d_X12_next1_44 ?_
  refine z_aload_n d_X12_next1_47 0 rfl ?_
  refine z_aload_n d_X12_next1_48 0 rfl ?_
  refine z_get (v := .int (nI q)) 0 f_X12_171_12 rfl rfl d_X12_next1_49 ?_
  refine z_callVp 0 c_X12_174 (t_X12_byteAt G b I A z t n nm tok (nI q) (nI q) opn bad flt tw0 q ht hn (by omega)) rfl rfl rfl rfl (Nat.le_of_ble_eq_true rfl) rfl d_X12_next1_52 ?_
  refine z_istore_n [(1, .int (byM (bM A t) n q)), (0, .ref (b 0))] d_X12_next1_55 (by decide) rfl ?_
  refine z_aload_n d_X12_next1_56 1 rfl ?_
  refine z_iconst (v := 4) d_X12_next1_57 (by decide) ?_
  refine z_put 0 (PW G b I A z t n nm 4 (nI q) (nI q) opn bad flt tw0) p_X12_180_12 rfl rfl rfl (Nat.le_of_ble_eq_true rfl) (pw_17 G b I A z t n nm tok (nI q) (nI q) opn bad flt tw0 _) d_X12_next1_58 ?_
  refine z_iload_n d_X12_next1_61 0 rfl ?_
  refine z_if_ge d_X12_next1_62 (fun c_62 => ?_) (fun c_62 => ?_)
  · have h5 : q < n := Decidable.byContradiction fun hq => c_62 (by rw [byM_out hq]; decide)
    have h6 : byM (bM A t) n q = bM A t q := byM_in h5
    refine z_iload_n d_X12_next1_81 0 rfl ?_
    refine z_i2l d_X12_next1_82 ?_
    refine z_ldc2 d_X12_next1_83 w_1212 ?_
    refine z_ldc2 d_X12_next1_86 w_1213 ?_
    refine z_callSp c_X12_82 (t_X12_in G ((byM (bM A t) n q).toInt64) 97 122 (PW G b I A z t n nm 4 (nI q) (nI q) opn bad flt tw0)) rfl rfl (Nat.le_of_ble_eq_true rfl) rfl d_X12_next1_89 ?_
    refine z_if_eq d_X12_next1_92 (fun c_92 => ?_) (fun c_92 => ?_)
    · refine z_iload_n d_X12_next1_185 0 rfl ?_
      refine z_i2l d_X12_next1_186 ?_
      refine z_ldc2 d_X12_next1_187 w_1217 ?_
      refine z_ldc2 d_X12_next1_190 w_1218 ?_
      refine z_callSp c_X12_82 (t_X12_in G ((byM (bM A t) n q).toInt64) 48 57 (PW G b I A z t n nm 4 (nI q) (nI q) opn bad flt tw0)) rfl rfl (Nat.le_of_ble_eq_true rfl) rfl d_X12_next1_193 ?_
      refine z_if_eq d_X12_next1_196 (fun c_196 => ?_) (fun c_196 => ?_)
      · have hk0 := kd_s (B := bM A t) (n := n) (p := p) (by rw [← hs]; exact h5) (by rw [← hs]; exact fun e => out_lt c_92 ⟨h5, e⟩) (by rw [← hs]; exact fun e => out_dg c_196 ⟨h5, e⟩)
        rw [← hs, ← h6] at hk0
        refine z_iload_n d_X12_next1_303 0 rfl ?_
        refine z_bipush (v := 40) d_X12_next1_304 (by decide) ?_
        refine z_icmp_eq d_X12_next1_306 (fun c_306 => ?_) (fun c_306 => ?_)
        · have hk : kdL (bM A t) n p = 3 := by rw [hk0, if_pos]; clear hk0 hs h6; simp [isSg, *]
          refine z_aload_n d_X12_next1_351 1 rfl ?_
          refine z_iconst (v := 3) d_X12_next1_352 (by decide) ?_
          refine z_put 0 (PW G b I A z t n nm 3 (nI q) (nI q) opn bad flt tw0) p_X12_180_12 rfl rfl rfl (Nat.le_of_ble_eq_true rfl) (pw_17 G b I A z t n nm 4 (nI q) (nI q) opn bad flt tw0 _) d_X12_next1_353 ?_
          refine z_aload_n d_X12_next1_356 1 rfl ?_
          refine z_iload_n d_X12_next1_357 0 rfl ?_
          refine z_i2l d_X12_next1_358 ?_
          refine z_put 0 (PW G b I A z t n nm 3 (nI q) (nI q) opn bad flt ((byM (bM A t) n q).toInt64)) p_X12_187_12 rfl rfl rfl (Nat.le_of_ble_eq_true rfl) (pw_19 G b I A z t n nm 3 (nI q) (nI q) opn bad flt tw0 _) d_X12_next1_359 ?_
          refine z_aload_n d_X12_next1_362 1 rfl ?_
          refine z_dup d_X12_next1_363 rfl ?_
          refine z_get (v := .int (nI q)) 0 f_X12_171_12 rfl rfl d_X12_next1_364 ?_
          refine z_iconst (v := 1) d_X12_next1_367 (by decide) ?_
          refine z_iadd d_X12_next1_368 ?_
          refine z_put 0 (PW G b I A z t n nm 3 (nI q) ((nI q) + 1) opn bad flt ((byM (bM A t) n q).toInt64)) p_X12_171_12 rfl rfl rfl (Nat.le_of_ble_eq_true rfl) (pw_20 G b I A z t n nm 3 (nI q) (nI q) opn bad flt ((byM (bM A t) n q).toInt64) _) d_X12_next1_369 ?_
          exact z_vret _ d_X12_next1_372 rfl (Pv.of (lw_eq (by rw [tokM, if_neg (by omega), if_neg (by omega), if_neg (by omega), if_pos hk]) (by rw [← hs]) (by rw [nx_3 hk, ← hs, nI_1]) (by rw [twM, if_neg (by omega), if_neg (by omega), if_pos hk, ← hs, h6])))
        · refine z_iload_n d_X12_next1_309 0 rfl ?_
          refine z_bipush (v := 41) d_X12_next1_310 (by decide) ?_
          refine z_icmp_eq d_X12_next1_312 (fun c_312 => ?_) (fun c_312 => ?_)
          · have hk : kdL (bM A t) n p = 3 := by rw [hk0, if_pos]; clear hk0 hs h6; simp [isSg, *]
            refine z_aload_n d_X12_next1_351 1 rfl ?_
            refine z_iconst (v := 3) d_X12_next1_352 (by decide) ?_
            refine z_put 0 (PW G b I A z t n nm 3 (nI q) (nI q) opn bad flt tw0) p_X12_180_12 rfl rfl rfl (Nat.le_of_ble_eq_true rfl) (pw_17 G b I A z t n nm 4 (nI q) (nI q) opn bad flt tw0 _) d_X12_next1_353 ?_
            refine z_aload_n d_X12_next1_356 1 rfl ?_
            refine z_iload_n d_X12_next1_357 0 rfl ?_
            refine z_i2l d_X12_next1_358 ?_
            refine z_put 0 (PW G b I A z t n nm 3 (nI q) (nI q) opn bad flt ((byM (bM A t) n q).toInt64)) p_X12_187_12 rfl rfl rfl (Nat.le_of_ble_eq_true rfl) (pw_19 G b I A z t n nm 3 (nI q) (nI q) opn bad flt tw0 _) d_X12_next1_359 ?_
            refine z_aload_n d_X12_next1_362 1 rfl ?_
            refine z_dup d_X12_next1_363 rfl ?_
            refine z_get (v := .int (nI q)) 0 f_X12_171_12 rfl rfl d_X12_next1_364 ?_
            refine z_iconst (v := 1) d_X12_next1_367 (by decide) ?_
            refine z_iadd d_X12_next1_368 ?_
            refine z_put 0 (PW G b I A z t n nm 3 (nI q) ((nI q) + 1) opn bad flt ((byM (bM A t) n q).toInt64)) p_X12_171_12 rfl rfl rfl (Nat.le_of_ble_eq_true rfl) (pw_20 G b I A z t n nm 3 (nI q) (nI q) opn bad flt ((byM (bM A t) n q).toInt64) _) d_X12_next1_369 ?_
            exact z_vret _ d_X12_next1_372 rfl (Pv.of (lw_eq (by rw [tokM, if_neg (by omega), if_neg (by omega), if_neg (by omega), if_pos hk]) (by rw [← hs]) (by rw [nx_3 hk, ← hs, nI_1]) (by rw [twM, if_neg (by omega), if_neg (by omega), if_pos hk, ← hs, h6])))
          · refine z_iload_n d_X12_next1_315 0 rfl ?_
            refine z_bipush (v := 59) d_X12_next1_316 (by decide) ?_
            refine z_icmp_eq d_X12_next1_318 (fun c_318 => ?_) (fun c_318 => ?_)
            · have hk : kdL (bM A t) n p = 3 := by rw [hk0, if_pos]; clear hk0 hs h6; simp [isSg, *]
              refine z_aload_n d_X12_next1_351 1 rfl ?_
              refine z_iconst (v := 3) d_X12_next1_352 (by decide) ?_
              refine z_put 0 (PW G b I A z t n nm 3 (nI q) (nI q) opn bad flt tw0) p_X12_180_12 rfl rfl rfl (Nat.le_of_ble_eq_true rfl) (pw_17 G b I A z t n nm 4 (nI q) (nI q) opn bad flt tw0 _) d_X12_next1_353 ?_
              refine z_aload_n d_X12_next1_356 1 rfl ?_
              refine z_iload_n d_X12_next1_357 0 rfl ?_
              refine z_i2l d_X12_next1_358 ?_
              refine z_put 0 (PW G b I A z t n nm 3 (nI q) (nI q) opn bad flt ((byM (bM A t) n q).toInt64)) p_X12_187_12 rfl rfl rfl (Nat.le_of_ble_eq_true rfl) (pw_19 G b I A z t n nm 3 (nI q) (nI q) opn bad flt tw0 _) d_X12_next1_359 ?_
              refine z_aload_n d_X12_next1_362 1 rfl ?_
              refine z_dup d_X12_next1_363 rfl ?_
              refine z_get (v := .int (nI q)) 0 f_X12_171_12 rfl rfl d_X12_next1_364 ?_
              refine z_iconst (v := 1) d_X12_next1_367 (by decide) ?_
              refine z_iadd d_X12_next1_368 ?_
              refine z_put 0 (PW G b I A z t n nm 3 (nI q) ((nI q) + 1) opn bad flt ((byM (bM A t) n q).toInt64)) p_X12_171_12 rfl rfl rfl (Nat.le_of_ble_eq_true rfl) (pw_20 G b I A z t n nm 3 (nI q) (nI q) opn bad flt ((byM (bM A t) n q).toInt64) _) d_X12_next1_369 ?_
              exact z_vret _ d_X12_next1_372 rfl (Pv.of (lw_eq (by rw [tokM, if_neg (by omega), if_neg (by omega), if_neg (by omega), if_pos hk]) (by rw [← hs]) (by rw [nx_3 hk, ← hs, nI_1]) (by rw [twM, if_neg (by omega), if_neg (by omega), if_pos hk, ← hs, h6])))
            · refine z_iload_n d_X12_next1_321 0 rfl ?_
              refine z_bipush (v := 43) d_X12_next1_322 (by decide) ?_
              refine z_icmp_eq d_X12_next1_324 (fun c_324 => ?_) (fun c_324 => ?_)
              · have hk : kdL (bM A t) n p = 3 := by rw [hk0, if_pos]; clear hk0 hs h6; simp [isSg, *]
                refine z_aload_n d_X12_next1_351 1 rfl ?_
                refine z_iconst (v := 3) d_X12_next1_352 (by decide) ?_
                refine z_put 0 (PW G b I A z t n nm 3 (nI q) (nI q) opn bad flt tw0) p_X12_180_12 rfl rfl rfl (Nat.le_of_ble_eq_true rfl) (pw_17 G b I A z t n nm 4 (nI q) (nI q) opn bad flt tw0 _) d_X12_next1_353 ?_
                refine z_aload_n d_X12_next1_356 1 rfl ?_
                refine z_iload_n d_X12_next1_357 0 rfl ?_
                refine z_i2l d_X12_next1_358 ?_
                refine z_put 0 (PW G b I A z t n nm 3 (nI q) (nI q) opn bad flt ((byM (bM A t) n q).toInt64)) p_X12_187_12 rfl rfl rfl (Nat.le_of_ble_eq_true rfl) (pw_19 G b I A z t n nm 3 (nI q) (nI q) opn bad flt tw0 _) d_X12_next1_359 ?_
                refine z_aload_n d_X12_next1_362 1 rfl ?_
                refine z_dup d_X12_next1_363 rfl ?_
                refine z_get (v := .int (nI q)) 0 f_X12_171_12 rfl rfl d_X12_next1_364 ?_
                refine z_iconst (v := 1) d_X12_next1_367 (by decide) ?_
                refine z_iadd d_X12_next1_368 ?_
                refine z_put 0 (PW G b I A z t n nm 3 (nI q) ((nI q) + 1) opn bad flt ((byM (bM A t) n q).toInt64)) p_X12_171_12 rfl rfl rfl (Nat.le_of_ble_eq_true rfl) (pw_20 G b I A z t n nm 3 (nI q) (nI q) opn bad flt ((byM (bM A t) n q).toInt64) _) d_X12_next1_369 ?_
                exact z_vret _ d_X12_next1_372 rfl (Pv.of (lw_eq (by rw [tokM, if_neg (by omega), if_neg (by omega), if_neg (by omega), if_pos hk]) (by rw [← hs]) (by rw [nx_3 hk, ← hs, nI_1]) (by rw [twM, if_neg (by omega), if_neg (by omega), if_pos hk, ← hs, h6])))
              · refine z_iload_n d_X12_next1_327 0 rfl ?_
                refine z_bipush (v := 45) d_X12_next1_328 (by decide) ?_
                refine z_icmp_eq d_X12_next1_330 (fun c_330 => ?_) (fun c_330 => ?_)
                · have hk : kdL (bM A t) n p = 3 := by rw [hk0, if_pos]; clear hk0 hs h6; simp [isSg, *]
                  refine z_aload_n d_X12_next1_351 1 rfl ?_
                  refine z_iconst (v := 3) d_X12_next1_352 (by decide) ?_
                  refine z_put 0 (PW G b I A z t n nm 3 (nI q) (nI q) opn bad flt tw0) p_X12_180_12 rfl rfl rfl (Nat.le_of_ble_eq_true rfl) (pw_17 G b I A z t n nm 4 (nI q) (nI q) opn bad flt tw0 _) d_X12_next1_353 ?_
                  refine z_aload_n d_X12_next1_356 1 rfl ?_
                  refine z_iload_n d_X12_next1_357 0 rfl ?_
                  refine z_i2l d_X12_next1_358 ?_
                  refine z_put 0 (PW G b I A z t n nm 3 (nI q) (nI q) opn bad flt ((byM (bM A t) n q).toInt64)) p_X12_187_12 rfl rfl rfl (Nat.le_of_ble_eq_true rfl) (pw_19 G b I A z t n nm 3 (nI q) (nI q) opn bad flt tw0 _) d_X12_next1_359 ?_
                  refine z_aload_n d_X12_next1_362 1 rfl ?_
                  refine z_dup d_X12_next1_363 rfl ?_
                  refine z_get (v := .int (nI q)) 0 f_X12_171_12 rfl rfl d_X12_next1_364 ?_
                  refine z_iconst (v := 1) d_X12_next1_367 (by decide) ?_
                  refine z_iadd d_X12_next1_368 ?_
                  refine z_put 0 (PW G b I A z t n nm 3 (nI q) ((nI q) + 1) opn bad flt ((byM (bM A t) n q).toInt64)) p_X12_171_12 rfl rfl rfl (Nat.le_of_ble_eq_true rfl) (pw_20 G b I A z t n nm 3 (nI q) (nI q) opn bad flt ((byM (bM A t) n q).toInt64) _) d_X12_next1_369 ?_
                  exact z_vret _ d_X12_next1_372 rfl (Pv.of (lw_eq (by rw [tokM, if_neg (by omega), if_neg (by omega), if_neg (by omega), if_pos hk]) (by rw [← hs]) (by rw [nx_3 hk, ← hs, nI_1]) (by rw [twM, if_neg (by omega), if_neg (by omega), if_pos hk, ← hs, h6])))
                · refine z_iload_n d_X12_next1_333 0 rfl ?_
                  refine z_bipush (v := 42) d_X12_next1_334 (by decide) ?_
                  refine z_icmp_eq d_X12_next1_336 (fun c_336 => ?_) (fun c_336 => ?_)
                  · have hk : kdL (bM A t) n p = 3 := by rw [hk0, if_pos]; clear hk0 hs h6; simp [isSg, *]
                    refine z_aload_n d_X12_next1_351 1 rfl ?_
                    refine z_iconst (v := 3) d_X12_next1_352 (by decide) ?_
                    refine z_put 0 (PW G b I A z t n nm 3 (nI q) (nI q) opn bad flt tw0) p_X12_180_12 rfl rfl rfl (Nat.le_of_ble_eq_true rfl) (pw_17 G b I A z t n nm 4 (nI q) (nI q) opn bad flt tw0 _) d_X12_next1_353 ?_
                    refine z_aload_n d_X12_next1_356 1 rfl ?_
                    refine z_iload_n d_X12_next1_357 0 rfl ?_
                    refine z_i2l d_X12_next1_358 ?_
                    refine z_put 0 (PW G b I A z t n nm 3 (nI q) (nI q) opn bad flt ((byM (bM A t) n q).toInt64)) p_X12_187_12 rfl rfl rfl (Nat.le_of_ble_eq_true rfl) (pw_19 G b I A z t n nm 3 (nI q) (nI q) opn bad flt tw0 _) d_X12_next1_359 ?_
                    refine z_aload_n d_X12_next1_362 1 rfl ?_
                    refine z_dup d_X12_next1_363 rfl ?_
                    refine z_get (v := .int (nI q)) 0 f_X12_171_12 rfl rfl d_X12_next1_364 ?_
                    refine z_iconst (v := 1) d_X12_next1_367 (by decide) ?_
                    refine z_iadd d_X12_next1_368 ?_
                    refine z_put 0 (PW G b I A z t n nm 3 (nI q) ((nI q) + 1) opn bad flt ((byM (bM A t) n q).toInt64)) p_X12_171_12 rfl rfl rfl (Nat.le_of_ble_eq_true rfl) (pw_20 G b I A z t n nm 3 (nI q) (nI q) opn bad flt ((byM (bM A t) n q).toInt64) _) d_X12_next1_369 ?_
                    exact z_vret _ d_X12_next1_372 rfl (Pv.of (lw_eq (by rw [tokM, if_neg (by omega), if_neg (by omega), if_neg (by omega), if_pos hk]) (by rw [← hs]) (by rw [nx_3 hk, ← hs, nI_1]) (by rw [twM, if_neg (by omega), if_neg (by omega), if_pos hk, ← hs, h6])))
                  · refine z_iload_n d_X12_next1_339 0 rfl ?_
                    refine z_bipush (v := 60) d_X12_next1_340 (by decide) ?_
                    refine z_icmp_eq d_X12_next1_342 (fun c_342 => ?_) (fun c_342 => ?_)
                    · have hk : kdL (bM A t) n p = 3 := by rw [hk0, if_pos]; clear hk0 hs h6; simp [isSg, *]
                      refine z_aload_n d_X12_next1_351 1 rfl ?_
                      refine z_iconst (v := 3) d_X12_next1_352 (by decide) ?_
                      refine z_put 0 (PW G b I A z t n nm 3 (nI q) (nI q) opn bad flt tw0) p_X12_180_12 rfl rfl rfl (Nat.le_of_ble_eq_true rfl) (pw_17 G b I A z t n nm 4 (nI q) (nI q) opn bad flt tw0 _) d_X12_next1_353 ?_
                      refine z_aload_n d_X12_next1_356 1 rfl ?_
                      refine z_iload_n d_X12_next1_357 0 rfl ?_
                      refine z_i2l d_X12_next1_358 ?_
                      refine z_put 0 (PW G b I A z t n nm 3 (nI q) (nI q) opn bad flt ((byM (bM A t) n q).toInt64)) p_X12_187_12 rfl rfl rfl (Nat.le_of_ble_eq_true rfl) (pw_19 G b I A z t n nm 3 (nI q) (nI q) opn bad flt tw0 _) d_X12_next1_359 ?_
                      refine z_aload_n d_X12_next1_362 1 rfl ?_
                      refine z_dup d_X12_next1_363 rfl ?_
                      refine z_get (v := .int (nI q)) 0 f_X12_171_12 rfl rfl d_X12_next1_364 ?_
                      refine z_iconst (v := 1) d_X12_next1_367 (by decide) ?_
                      refine z_iadd d_X12_next1_368 ?_
                      refine z_put 0 (PW G b I A z t n nm 3 (nI q) ((nI q) + 1) opn bad flt ((byM (bM A t) n q).toInt64)) p_X12_171_12 rfl rfl rfl (Nat.le_of_ble_eq_true rfl) (pw_20 G b I A z t n nm 3 (nI q) (nI q) opn bad flt ((byM (bM A t) n q).toInt64) _) d_X12_next1_369 ?_
                      exact z_vret _ d_X12_next1_372 rfl (Pv.of (lw_eq (by rw [tokM, if_neg (by omega), if_neg (by omega), if_neg (by omega), if_pos hk]) (by rw [← hs]) (by rw [nx_3 hk, ← hs, nI_1]) (by rw [twM, if_neg (by omega), if_neg (by omega), if_pos hk, ← hs, h6])))
                    · refine z_iload_n d_X12_next1_345 0 rfl ?_
                      refine z_bipush (v := 61) d_X12_next1_346 (by decide) ?_
                      refine z_icmp_ne d_X12_next1_348 (fun c_348 => ?_) (fun c_348 => ?_)
                      · have hk : kdL (bM A t) n p = 4 := by rw [hk0, if_neg]; clear hk0 hs h6; simp [isSg, *]
                        exact z_vret _ d_X12_next1_372 rfl (Pv.of (lw_eq (by rw [tokM, if_neg (by omega), if_neg (by omega), if_neg (by omega), if_neg (by omega)]) (by rw [← hs]) (by rw [nx_0 (by omega) (by omega) (by omega), ← hs]) (by rw [twM, if_neg (by omega), if_neg (by omega), if_neg (by omega)])))
                      · have hk : kdL (bM A t) n p = 3 := by rw [hk0, if_pos]; clear hk0 hs h6; simp [isSg, *]
                        refine z_aload_n d_X12_next1_351 1 rfl ?_
                        refine z_iconst (v := 3) d_X12_next1_352 (by decide) ?_
                        refine z_put 0 (PW G b I A z t n nm 3 (nI q) (nI q) opn bad flt tw0) p_X12_180_12 rfl rfl rfl (Nat.le_of_ble_eq_true rfl) (pw_17 G b I A z t n nm 4 (nI q) (nI q) opn bad flt tw0 _) d_X12_next1_353 ?_
                        refine z_aload_n d_X12_next1_356 1 rfl ?_
                        refine z_iload_n d_X12_next1_357 0 rfl ?_
                        refine z_i2l d_X12_next1_358 ?_
                        refine z_put 0 (PW G b I A z t n nm 3 (nI q) (nI q) opn bad flt ((byM (bM A t) n q).toInt64)) p_X12_187_12 rfl rfl rfl (Nat.le_of_ble_eq_true rfl) (pw_19 G b I A z t n nm 3 (nI q) (nI q) opn bad flt tw0 _) d_X12_next1_359 ?_
                        refine z_aload_n d_X12_next1_362 1 rfl ?_
                        refine z_dup d_X12_next1_363 rfl ?_
                        refine z_get (v := .int (nI q)) 0 f_X12_171_12 rfl rfl d_X12_next1_364 ?_
                        refine z_iconst (v := 1) d_X12_next1_367 (by decide) ?_
                        refine z_iadd d_X12_next1_368 ?_
                        refine z_put 0 (PW G b I A z t n nm 3 (nI q) ((nI q) + 1) opn bad flt ((byM (bM A t) n q).toInt64)) p_X12_171_12 rfl rfl rfl (Nat.le_of_ble_eq_true rfl) (pw_20 G b I A z t n nm 3 (nI q) (nI q) opn bad flt ((byM (bM A t) n q).toInt64) _) d_X12_next1_369 ?_
                        exact z_vret _ d_X12_next1_372 rfl (Pv.of (lw_eq (by rw [tokM, if_neg (by omega), if_neg (by omega), if_neg (by omega), if_pos hk]) (by rw [← hs]) (by rw [nx_3 hk, ← hs, nI_1]) (by rw [twM, if_neg (by omega), if_neg (by omega), if_pos hk, ← hs, h6])))
      · have hk : kdL (bM A t) n p = 2 := kd_2 (by rw [← hs]; exact h5) (by rw [← hs]; exact fun e => out_lt c_92 ⟨h5, e⟩) (by rw [← hs]; exact (in_dg c_196).2)
        refine z_aload_n d_X12_next1_199 1 rfl ?_
        refine z_iconst (v := 2) d_X12_next1_200 (by decide) ?_
        refine z_put 0 (PW G b I A z t n nm 2 (nI q) (nI q) opn bad flt tw0) p_X12_180_12 rfl rfl rfl (Nat.le_of_ble_eq_true rfl) (pw_17 G b I A z t n nm 4 (nI q) (nI q) opn bad flt tw0 _) d_X12_next1_201 ?_
        refine z_aload_n d_X12_next1_204 1 rfl ?_
        refine z_lconst (v := 0) d_X12_next1_205 (by decide) ?_
        refine z_put 0 (PW G b I A z t n nm 2 (nI q) (nI q) opn bad flt 0) p_X12_187_12 rfl rfl rfl (Nat.le_of_ble_eq_true rfl) (pw_19 G b I A z t n nm 2 (nI q) (nI q) opn bad flt tw0 _) d_X12_next1_206 ?_
        refine z_iconst (v := 0) d_X12_next1_209 (by decide) ?_
        refine z_istore_n [(2, .int 0), (1, .int (byM (bM A t) n q)), (0, .ref (b 0))] d_X12_next1_210 (by decide) rfl ?_
        exact l_X12_next1_211 G b I A z t n nm opn bad flt tw0 p ht hn hp hB q _ hs hk (n + 1) 0 (by omega) (by omega) rfl
    · have hk : kdL (bM A t) n p = 1 := kd_1 (by rw [← hs]; exact h5) (by rw [← hs]; exact (in_lt c_92).2)
      refine z_aload_n d_X12_next1_95 1 rfl ?_
      refine z_iconst (v := 1) d_X12_next1_96 (by decide) ?_
      refine z_put 0 (PW G b I A z t n nm 1 (nI q) (nI q) opn bad flt tw0) p_X12_180_12 rfl rfl rfl (Nat.le_of_ble_eq_true rfl) (pw_17 G b I A z t n nm 4 (nI q) (nI q) opn bad flt tw0 _) d_X12_next1_97 ?_
      refine z_aload_n d_X12_next1_100 1 rfl ?_
      refine z_lconst (v := 0) d_X12_next1_101 (by decide) ?_
      refine z_put 0 (PW G b I A z t n nm 1 (nI q) (nI q) opn bad flt 0) p_X12_187_12 rfl rfl rfl (Nat.le_of_ble_eq_true rfl) (pw_19 G b I A z t n nm 1 (nI q) (nI q) opn bad flt tw0 _) d_X12_next1_102 ?_
      refine z_iconst (v := 0) d_X12_next1_105 (by decide) ?_
      refine z_istore_n [(2, .int 0), (1, .int (byM (bM A t) n q)), (0, .ref (b 0))] d_X12_next1_106 (by decide) rfl ?_
      exact l_X12_next1_107 G b I A z t n nm opn bad flt tw0 p ht hn hp hB q _ hs hk (n + 1) 0 (by omega) (by omega) rfl
  · have h5 : ¬ q < n := fun hq => by
      have h4 := hB q hq
      rw [byM_in hq, lt_i, i_0] at c_62
      omega
    have h7 : q = n := (by omega)
    have hk : kdL (bM A t) n p = 0 := kd_0 (by rw [← hs]; exact h5)
    refine z_aload_n d_X12_next1_65 1 rfl ?_
    refine z_iconst (v := 0) d_X12_next1_66 (by decide) ?_
    refine z_put 0 (PW G b I A z t n nm 0 (nI q) (nI q) opn bad flt tw0) p_X12_180_12 rfl rfl rfl (Nat.le_of_ble_eq_true rfl) (pw_17 G b I A z t n nm 4 (nI q) (nI q) opn bad flt tw0 _) d_X12_next1_67 ?_
    refine z_aload_n d_X12_next1_70 1 rfl ?_
    refine z_aload_n d_X12_next1_71 1 rfl ?_
    refine z_get (v := .int (nI n)) 0 f_X12_165_12 rfl rfl d_X12_next1_72 ?_
    refine z_put 0 (PW G b I A z t n nm 0 (nI n) (nI q) opn bad flt tw0) p_X12_177_12 rfl rfl rfl (Nat.le_of_ble_eq_true rfl) (pw_18 G b I A z t n nm 0 (nI q) (nI q) opn bad flt tw0 _) d_X12_next1_75 ?_
    refine z_goto d_X12_next1_78 ?_
    exact z_vret _ d_X12_next1_372 rfl (Pv.of (lw_eq (by rw [tokM, if_pos hk]) (by rw [← hs, h7]) (by rw [nx_0 (by omega) (by omega) (by omega), ← hs]) (by rw [twM, if_neg (by omega), if_neg (by omega), if_neg (by omega)])))
set_option maxHeartbeats 4000000 in
set_option maxRecDepth 100000 in
theorem l_X12_next1_0 (G : GT) (b : Nat → Nat) (I : Nat → Int32) (A : Nat → Nat → Int32) (z : Int32) (t n : Nat) (nm : Nat → Int32) (opn bad flt : Int32) (tw0 : Int64) (p : Nat) (ht : t < 6) (hn : n ≤ 160) (hp : p ≤ n) (hB : ∀ i, i < n → 0 ≤ (bM A t i).toInt) (tok tat : Int32) : ∀ (f : Nat) (q : Nat) (hq : q ≤ n) (hm : n < q + f) (hs : stL (bM A t) n q = stL (bM A t) n p), Tr G mX12_next1 (Rm 2 0 0) (OM G (Pv (LW G b I A z t n nm p opn bad flt tw0)) 0 0) 0 0 0 [(0, .ref (b 0))] [] (PW G b I A z t n nm tok tat (nI q) opn bad flt tw0) := by
  intro f
  induction f with
  | zero =>
    intro q hq hm hs
    exact absurd hm (by omega)
  | succ f ih =>
    intro q hq hm hs
    refine z_aload_n d_X12_next1_0 0 rfl ?_
    refine z_aload_n d_X12_next1_1 0 rfl ?_
    refine z_get (v := .int (nI q)) 0 f_X12_171_12 rfl rfl d_X12_next1_2 ?_
    refine z_callVp 0 c_X12_174 (t_X12_byteAt G b I A z t n nm tok tat (nI q) opn bad flt tw0 q ht hn (by omega)) rfl rfl rfl rfl (Nat.le_of_ble_eq_true rfl) rfl d_X12_next1_5 ?_
    refine z_bipush (v := 32) d_X12_next1_8 (by decide) ?_
    refine z_icmp_eq d_X12_next1_10 (fun c_10 => ?_) (fun c_10 => ?_)
    · refine z_aload_n d_X12_next1_26 0 rfl ?_
      refine z_dup d_X12_next1_27 rfl ?_
      refine z_get (v := .int (nI q)) 0 f_X12_171_12 rfl rfl d_X12_next1_28 ?_
      refine z_iconst (v := 1) d_X12_next1_31 (by decide) ?_
      refine z_iadd d_X12_next1_32 ?_
      refine z_put 0 (PW G b I A z t n nm tok tat ((nI q) + 1) opn bad flt tw0) p_X12_171_12 rfl rfl rfl (Nat.le_of_ble_eq_true rfl) (pw_20 G b I A z t n nm tok tat (nI q) opn bad flt tw0 _) d_X12_next1_33 ?_
      refine z_goto d_X12_next1_36 ?_
      have h8 := byM_bl (by first | exact c_10 | exact c_23) (by decide)
      rw [nI_1]
      exact ih (q + 1) (by omega) (by omega) (by rw [st_blank h8.1 (by first | exact Or.inl h8.2 | exact Or.inr h8.2)]; exact hs)
    · refine z_aload_n d_X12_next1_13 0 rfl ?_
      refine z_aload_n d_X12_next1_14 0 rfl ?_
      refine z_get (v := .int (nI q)) 0 f_X12_171_12 rfl rfl d_X12_next1_15 ?_
      refine z_callVp 0 c_X12_174 (t_X12_byteAt G b I A z t n nm tok tat (nI q) opn bad flt tw0 q ht hn (by omega)) rfl rfl rfl rfl (Nat.le_of_ble_eq_true rfl) rfl d_X12_next1_18 ?_
      refine z_bipush (v := 10) d_X12_next1_21 (by decide) ?_
      refine z_icmp_ne d_X12_next1_23 (fun c_23 => ?_) (fun c_23 => ?_)
      · exact s_X12_next1_39 G b I A z t n nm opn bad flt tw0 p ht hn hp hB q tok tat hq (by rw [← hs, st_here c_10 c_23])
      · refine z_aload_n d_X12_next1_26 0 rfl ?_
        refine z_dup d_X12_next1_27 rfl ?_
        refine z_get (v := .int (nI q)) 0 f_X12_171_12 rfl rfl d_X12_next1_28 ?_
        refine z_iconst (v := 1) d_X12_next1_31 (by decide) ?_
        refine z_iadd d_X12_next1_32 ?_
        refine z_put 0 (PW G b I A z t n nm tok tat ((nI q) + 1) opn bad flt tw0) p_X12_171_12 rfl rfl rfl (Nat.le_of_ble_eq_true rfl) (pw_20 G b I A z t n nm tok tat (nI q) opn bad flt tw0 _) d_X12_next1_33 ?_
        refine z_goto d_X12_next1_36 ?_
        have h8 := byM_bl (by first | exact c_10 | exact c_23) (by decide)
        rw [nI_1]
        exact ih (q + 1) (by omega) (by omega) (by rw [st_blank h8.1 (by first | exact Or.inl h8.2 | exact Or.inr h8.2)]; exact hs)
theorem t_X12_next1 (G : GT) (b : Nat → Nat) (I : Nat → Int32) (A : Nat → Nat → Int32) (z : Int32) (t n : Nat) (nm : Nat → Int32) (opn bad flt : Int32) (tw0 : Int64) (p : Nat) (ht : t < 6) (hn : n ≤ 160) (hp : p ≤ n) (hB : ∀ i, i < n → 0 ≤ (bM A t i).toInt) (tok tat : Int32) : Ct G mX12_next1 2 0 0 [.ref (b 0)] (PW G b I A z t n nm tok tat (nI p) opn bad flt tw0) (Pv (LW G b I A z t n nm p opn bad flt tw0)) := by
  refine Ct.intro [(0, .ref (b 0))] (by decide) rfl (Nat.le_of_ble_eq_true rfl) ?_
  exact l_X12_next1_0 G b I A z t n nm opn bad flt tw0 p ht hn hp hB tok tat (n + 1) p hp (by omega) rfl
