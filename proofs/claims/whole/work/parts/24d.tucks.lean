theorem rm_3 {d cs ss : Nat} {R : Room} (h : rmok 3 0 0 cs ss R = true) (hd : d ≤ 3) : rmok d 0 0 cs ss R = true := by
  obtain ⟨h1, h2, h3, h4⟩ := rmok_spec h
  simp only [rmok, Bool.and_eq_true]
  exact ⟨Nat.ble_eq_true_of_le (by omega), Nat.ble_eq_true_of_le (by omega), Nat.ble_eq_true_of_le h3, Nat.ble_eq_true_of_le h4⟩
/-- the classes of strips -/
def tC (ci : Nat) : Prop := ci = 10 ∨ ci = 3 ∨ ci = 2 ∨ ci = 8 ∨ ci = 1 ∨ ci = 5
theorem tC_cl {ci : Nat} (h : tC ci) : ∃ r, vwCl[ci]? = some r := by
  rcases h with rfl | rfl | rfl | rfl | rfl | rfl <;> exact ⟨_, rfl⟩
def kdC (k : Int32) : Nat := if k = 0 then 10 else if k = 1 then 3 else if k = 2 then 2 else if k = 3 then 8 else if k = 4 then 1 else 5
def kOk (k : Int32) : Prop := k = 0 ∨ k = 1 ∨ k = 2 ∨ k = 3 ∨ k = 4 ∨ k = 5
theorem kdC_t (k : Int32) : tC (kdC k) := by
  unfold kdC tC
  (repeat' split) <;> simp
theorem kOk_of {k : Int32} (h : 0 ≤ k.toInt) (h2 : k.toInt ≤ 5) : kOk k := by
  have e : ∀ n : Int32, k.toInt = n.toInt → k = n := fun n h => Int32.toInt_inj.mp h
  have : k.toInt = 0 ∨ k.toInt = 1 ∨ k.toInt = 2 ∨ k.toInt = 3 ∨ k.toInt = 4 ∨ k.toInt = 5 := by omega
  rcases this with h | h | h | h | h | h
  · exact Or.inl (e 0 h)
  · exact Or.inr (Or.inl (e 1 h))
  · exact Or.inr (Or.inr (Or.inl (e 2 h)))
  · exact Or.inr (Or.inr (Or.inr (Or.inl (e 3 h))))
  · exact Or.inr (Or.inr (Or.inr (Or.inr (Or.inl (e 4 h)))))
  · exact Or.inr (Or.inr (Or.inr (Or.inr (Or.inr (e 5 h)))))
def slK (k n age : Int32) : Bool := (decide (k = 3) && !decide (age < 100)) || (decide (k = 5) && !decide (age < 10 + n))
def tiK (k : Int32) : Int32 := if k = 0 then 1 else if k = 5 then 1 else if k = 4 then 4 else 2
theorem kn_3 (n : Int32) : n + 1 + 2 = n + 3 := by rw [Int32.add_assoc]; rfl
theorem fT_X10_7 {ci : Nat} (h : tC ci) : FA RX10 7 ci 0 := by
  rcases h with rfl | rfl | rfl | rfl | rfl | rfl
  · exact f_X10_7_10
  · exact f_X10_7_3
  · exact f_X10_7_2
  · exact f_X10_7_8
  · exact f_X10_7_1
  · exact f_X10_7_5
theorem fT_X11_282 {ci : Nat} (h : tC ci) : FA RX11 282 ci 0 := by
  rcases h with rfl | rfl | rfl | rfl | rfl | rfl
  · exact f_X11_282_10
  · exact f_X11_282_3
  · exact f_X11_282_2
  · exact f_X11_282_8
  · exact f_X11_282_1
  · exact f_X11_282_5
theorem cp_X3_7 : CaP RX3 7 RX10 mX10_knot 1 := ⟨k_X10_knot, w_0634, w_0646, w_0636, w_0528, Or.inl rfl, by decide⟩
theorem cp_X3_11 : CaP RX3 11 RX10 mX10_ties 0 := ⟨k_X10_ties, w_0674, w_0685, w_0676, w_0528, Or.inl rfl, by decide⟩
theorem cp_X2_7 : CaP RX2 7 RX3 mX3_knot 1 := ⟨k_X3_knot, w_0644, w_0643, w_1451, w_0536, Or.inl rfl, by decide⟩
theorem cp_X8_7 : CaP RX8 7 RX3 mX3_knot 1 := ⟨k_X3_knot, w_0644, w_0656, w_1451, w_0544, Or.inl rfl, by decide⟩
theorem cp_X1_7 : CaP RX1 7 RX2 mX2_knot 1 := ⟨k_X2_knot, w_0641, w_0640, w_1450, w_0552, Or.inl rfl, by decide⟩
theorem cp_X1_17 : CaP RX1 17 RX2 mX3_ties 0 := ⟨k_X3_ties, w_0683, w_0680, w_0681, w_0552, Or.inr w_0536, by decide⟩
theorem cp_X5_7 : CaP RX5 7 RX10 mX10_knot 1 := ⟨k_X10_knot, w_0634, w_0652, w_0636, w_0560, Or.inl rfl, by decide⟩
set_option maxHeartbeats 4000000 in
set_option maxRecDepth 100000 in
theorem t_X10_kind (G : GT) (q0 a ci : Nat) (n : Int32) (hci : tC ci) (ws : va_W) (he : ws[q0]? = some (a, .inr (ci, [.int n])))  : Ct G mX10_kind 0 0 0 [.ref a] ws (Pi (0) ws) := by
  refine Ct.intro [(0, .ref a)] (by decide) rfl (Nat.le_of_ble_eq_true rfl) ?_
  refine z_iconst (v := 0) d_X10_kind_0 (by decide) ?_
  exact z_iret _ d_X10_kind_1 rfl (Pi.of rfl)
set_option maxHeartbeats 4000000 in
set_option maxRecDepth 100000 in
theorem t_X10_knot (G : GT) (q0 a ci : Nat) (n : Int32) (hci : tC ci) (ws : va_W) (he : ws[q0]? = some (a, .inr (ci, [.int n]))) (age : Int32)  : Ct G mX10_knot 0 0 0 [.ref a, .int age] ws (Pi (n + 1) ws) := by
  refine Ct.intro [(0, .ref a), (1, .int age)] (by decide) rfl (Nat.le_of_ble_eq_true rfl) ?_
  refine z_aload_n d_X10_knot_0 0 rfl ?_
  refine z_get (v := .int n) q0 (fT_X10_7 hci) he rfl d_X10_knot_1 ?_
  refine z_iconst (v := 1) d_X10_knot_4 (by decide) ?_
  refine z_iadd d_X10_knot_5 ?_
  exact z_iret _ d_X10_knot_6 rfl (Pi.of rfl)
set_option maxHeartbeats 4000000 in
set_option maxRecDepth 100000 in
theorem t_X10_slips (G : GT) (q0 a ci : Nat) (n : Int32) (hci : tC ci) (ws : va_W) (he : ws[q0]? = some (a, .inr (ci, [.int n]))) (age : Int32)  : Ct G mX10_slips 0 0 0 [.ref a, .int age] ws (Pi (0) ws) := by
  refine Ct.intro [(0, .ref a), (1, .int age)] (by decide) rfl (Nat.le_of_ble_eq_true rfl) ?_
  refine z_iconst (v := 0) d_X10_slips_0 (by decide) ?_
  exact z_zret _ d_X10_slips_1 rfl (by rfl) (Pi.of rfl)
set_option maxHeartbeats 4000000 in
set_option maxRecDepth 100000 in
theorem t_X10_ties (G : GT) (q0 a ci : Nat) (n : Int32) (hci : tC ci) (ws : va_W) (he : ws[q0]? = some (a, .inr (ci, [.int n])))  : Ct G mX10_ties 0 0 0 [.ref a] ws (Pi (1) ws) := by
  refine Ct.intro [(0, .ref a)] (by decide) rfl (Nat.le_of_ble_eq_true rfl) ?_
  refine z_iconst (v := 1) d_X10_ties_0 (by decide) ?_
  exact z_iret _ d_X10_ties_1 rfl (Pi.of rfl)
set_option maxHeartbeats 4000000 in
set_option maxRecDepth 100000 in
theorem t_X3_kind (G : GT) (q0 a ci : Nat) (n : Int32) (hci : tC ci) (ws : va_W) (he : ws[q0]? = some (a, .inr (ci, [.int n])))  : Ct G mX3_kind 0 0 0 [.ref a] ws (Pi (1) ws) := by
  refine Ct.intro [(0, .ref a)] (by decide) rfl (Nat.le_of_ble_eq_true rfl) ?_
  refine z_iconst (v := 1) d_X3_kind_0 (by decide) ?_
  exact z_iret _ d_X3_kind_1 rfl (Pi.of rfl)
set_option maxHeartbeats 4000000 in
set_option maxRecDepth 100000 in
theorem t_X3_knot (G : GT) (q0 a ci : Nat) (n : Int32) (hci : tC ci) (ws : va_W) (he : ws[q0]? = some (a, .inr (ci, [.int n]))) (age : Int32)  : Ct G mX3_knot 1 0 0 [.ref a, .int age] ws (Pi (n + 1 + 2) ws) := by
  refine Ct.intro [(0, .ref a), (1, .int age)] (by decide) rfl (Nat.le_of_ble_eq_true rfl) ?_
  refine z_aload_n d_X3_knot_0 0 rfl ?_
  refine z_iload_n d_X3_knot_1 1 rfl ?_
  obtain ⟨r9, hr9⟩ := tC_cl hci
  refine z_callPp q0 cp_X3_7 he hr9 (t_X10_knot G q0 a ci n hci ws he age) rfl rfl (Nat.le_of_ble_eq_true rfl) rfl d_X3_knot_2 ?_
  refine z_iconst (v := 2) d_X3_knot_5 (by decide) ?_
  refine z_iadd d_X3_knot_6 ?_
  exact z_iret _ d_X3_knot_7 rfl (Pi.of rfl)
set_option maxHeartbeats 4000000 in
set_option maxRecDepth 100000 in
theorem t_X3_ties (G : GT) (q0 a ci : Nat) (n : Int32) (hci : tC ci) (ws : va_W) (he : ws[q0]? = some (a, .inr (ci, [.int n])))  : Ct G mX3_ties 1 0 0 [.ref a] ws (Pi (2) ws) := by
  refine Ct.intro [(0, .ref a)] (by decide) rfl (Nat.le_of_ble_eq_true rfl) ?_
  refine z_aload_n d_X3_ties_0 0 rfl ?_
  obtain ⟨r9, hr9⟩ := tC_cl hci
  refine z_callPp q0 cp_X3_11 he hr9 (t_X10_ties G q0 a ci n hci ws he) rfl rfl (Nat.le_of_ble_eq_true rfl) rfl d_X3_ties_1 ?_
  refine z_iconst (v := 1) d_X3_ties_4 (by decide) ?_
  refine z_iadd d_X3_ties_5 ?_
  exact z_iret _ d_X3_ties_6 rfl (Pi.of rfl)
set_option maxHeartbeats 4000000 in
set_option maxRecDepth 100000 in
theorem t_X2_kind (G : GT) (q0 a ci : Nat) (n : Int32) (hci : tC ci) (ws : va_W) (he : ws[q0]? = some (a, .inr (ci, [.int n])))  : Ct G mX2_kind 0 0 0 [.ref a] ws (Pi (2) ws) := by
  refine Ct.intro [(0, .ref a)] (by decide) rfl (Nat.le_of_ble_eq_true rfl) ?_
  refine z_iconst (v := 2) d_X2_kind_0 (by decide) ?_
  exact z_iret _ d_X2_kind_1 rfl (Pi.of rfl)
set_option maxHeartbeats 4000000 in
set_option maxRecDepth 100000 in
theorem t_X2_knot (G : GT) (q0 a ci : Nat) (n : Int32) (hci : tC ci) (ws : va_W) (he : ws[q0]? = some (a, .inr (ci, [.int n]))) (age : Int32)  : Ct G mX2_knot 2 0 0 [.ref a, .int age] ws (Pi (2 * (n + 1 + 2)) ws) := by
  refine Ct.intro [(0, .ref a), (1, .int age)] (by decide) rfl (Nat.le_of_ble_eq_true rfl) ?_
  refine z_iconst (v := 2) d_X2_knot_0 (by decide) ?_
  refine z_aload_n d_X2_knot_1 0 rfl ?_
  refine z_iload_n d_X2_knot_2 1 rfl ?_
  obtain ⟨r9, hr9⟩ := tC_cl hci
  refine z_callPp q0 cp_X2_7 he hr9 (t_X3_knot G q0 a ci n hci ws he age) rfl rfl (Nat.le_of_ble_eq_true rfl) rfl d_X2_knot_3 ?_
  refine z_imul d_X2_knot_6 ?_
  exact z_iret _ d_X2_knot_7 rfl (Pi.of rfl)
set_option maxHeartbeats 4000000 in
set_option maxRecDepth 100000 in
theorem t_X8_kind (G : GT) (q0 a ci : Nat) (n : Int32) (hci : tC ci) (ws : va_W) (he : ws[q0]? = some (a, .inr (ci, [.int n])))  : Ct G mX8_kind 0 0 0 [.ref a] ws (Pi (3) ws) := by
  refine Ct.intro [(0, .ref a)] (by decide) rfl (Nat.le_of_ble_eq_true rfl) ?_
  refine z_iconst (v := 3) d_X8_kind_0 (by decide) ?_
  exact z_iret _ d_X8_kind_1 rfl (Pi.of rfl)
set_option maxHeartbeats 4000000 in
set_option maxRecDepth 100000 in
theorem t_X8_knot (G : GT) (q0 a ci : Nat) (n : Int32) (hci : tC ci) (ws : va_W) (he : ws[q0]? = some (a, .inr (ci, [.int n]))) (age : Int32)  : Ct G mX8_knot 2 0 0 [.ref a, .int age] ws (Pi (n + 1 + 2 - age / 10) ws) := by
  refine Ct.intro [(0, .ref a), (1, .int age)] (by decide) rfl (Nat.le_of_ble_eq_true rfl) ?_
  refine z_aload_n d_X8_knot_0 0 rfl ?_
  refine z_iload_n d_X8_knot_1 1 rfl ?_
  obtain ⟨r9, hr9⟩ := tC_cl hci
  refine z_callPp q0 cp_X8_7 he hr9 (t_X3_knot G q0 a ci n hci ws he age) rfl rfl (Nat.le_of_ble_eq_true rfl) rfl d_X8_knot_2 ?_
  refine z_iload_n d_X8_knot_5 1 rfl ?_
  refine z_bipush (v := 10) d_X8_knot_6 (by decide) ?_
  refine z_idiv d_X8_knot_8 (by decide) ?_
  refine z_isub d_X8_knot_9 ?_
  exact z_iret _ d_X8_knot_10 rfl (Pi.of rfl)
set_option maxHeartbeats 4000000 in
set_option maxRecDepth 100000 in
theorem t_X8_slips (G : GT) (q0 a ci : Nat) (n : Int32) (hci : tC ci) (ws : va_W) (he : ws[q0]? = some (a, .inr (ci, [.int n]))) (age : Int32)  : Ct G mX8_slips 0 0 0 [.ref a, .int age] ws (Pi (b01 (!decide (age < 100))) ws) := by
  refine Ct.intro [(0, .ref a), (1, .int age)] (by decide) rfl (Nat.le_of_ble_eq_true rfl) ?_
  refine z_iload_n d_X8_slips_0 1 rfl ?_
  refine z_bipush (v := 100) d_X8_slips_1 (by decide) ?_
  refine z_icmp_lt d_X8_slips_3 (fun c_3 => ?_) (fun c_3 => ?_)
  · refine z_iconst (v := 0) d_X8_slips_10 (by decide) ?_
    exact z_zret _ d_X8_slips_11 rfl (by first | rfl | decide) (Pi.of (by simp [b01, *]))
  · refine z_iconst (v := 1) d_X8_slips_6 (by decide) ?_
    refine z_goto d_X8_slips_7 ?_
    exact z_zret _ d_X8_slips_11 rfl (by first | rfl | decide) (Pi.of (by simp [b01, *]))
set_option maxHeartbeats 4000000 in
set_option maxRecDepth 100000 in
theorem t_X1_kind (G : GT) (q0 a ci : Nat) (n : Int32) (hci : tC ci) (ws : va_W) (he : ws[q0]? = some (a, .inr (ci, [.int n])))  : Ct G mX1_kind 0 0 0 [.ref a] ws (Pi (4) ws) := by
  refine Ct.intro [(0, .ref a)] (by decide) rfl (Nat.le_of_ble_eq_true rfl) ?_
  refine z_iconst (v := 4) d_X1_kind_0 (by decide) ?_
  exact z_iret _ d_X1_kind_1 rfl (Pi.of rfl)
set_option maxHeartbeats 4000000 in
set_option maxRecDepth 100000 in
theorem t_X1_knot (G : GT) (q0 a : Nat) (n : Int32) (hci : tC 1) (ws : va_W) (he : ws[q0]? = some (a, .inr (1, [.int n]))) (age : Int32)  : Ct G mX1_knot 3 0 0 [.ref a, .int age] ws (Pi (2 * (n + 1 + 2) + n) ws) := by
  refine Ct.intro [(0, .ref a), (1, .int age)] (by decide) rfl (Nat.le_of_ble_eq_true rfl) ?_
  refine z_aload_n d_X1_knot_0 0 rfl ?_
  refine z_iload_n d_X1_knot_1 1 rfl ?_
  obtain ⟨r9, hr9⟩ := tC_cl hci
  refine z_callPp q0 cp_X1_7 he hr9 (t_X2_knot G q0 a 1 n hci ws he age) rfl rfl (Nat.le_of_ble_eq_true rfl) rfl d_X1_knot_2 ?_
  refine z_aload_n d_X1_knot_5 0 rfl ?_
  refine z_get (v := .int n) q0 f_X1_11_1 he rfl d_X1_knot_6 ?_
  refine z_iadd d_X1_knot_9 ?_
  exact z_iret _ d_X1_knot_10 rfl (Pi.of rfl)
set_option maxHeartbeats 4000000 in
set_option maxRecDepth 100000 in
theorem t_X1_ties (G : GT) (q0 a ci : Nat) (n : Int32) (hci : tC ci) (ws : va_W) (he : ws[q0]? = some (a, .inr (ci, [.int n])))  : Ct G mX1_ties 2 0 0 [.ref a] ws (Pi (4) ws) := by
  refine Ct.intro [(0, .ref a)] (by decide) rfl (Nat.le_of_ble_eq_true rfl) ?_
  refine z_iconst (v := 2) d_X1_ties_0 (by decide) ?_
  refine z_aload_n d_X1_ties_1 0 rfl ?_
  obtain ⟨r9, hr9⟩ := tC_cl hci
  refine z_callPp q0 cp_X1_17 he hr9 (t_X3_ties G q0 a ci n hci ws he) rfl rfl (Nat.le_of_ble_eq_true rfl) rfl d_X1_ties_2 ?_
  refine z_imul d_X1_ties_5 ?_
  exact z_iret _ d_X1_ties_6 rfl (Pi.of rfl)
set_option maxHeartbeats 4000000 in
set_option maxRecDepth 100000 in
theorem t_X5_kind (G : GT) (q0 a ci : Nat) (n : Int32) (hci : tC ci) (ws : va_W) (he : ws[q0]? = some (a, .inr (ci, [.int n])))  : Ct G mX5_kind 0 0 0 [.ref a] ws (Pi (5) ws) := by
  refine Ct.intro [(0, .ref a)] (by decide) rfl (Nat.le_of_ble_eq_true rfl) ?_
  refine z_iconst (v := 5) d_X5_kind_0 (by decide) ?_
  exact z_iret _ d_X5_kind_1 rfl (Pi.of rfl)
set_option maxHeartbeats 4000000 in
set_option maxRecDepth 100000 in
theorem t_X5_knot (G : GT) (q0 a ci : Nat) (n : Int32) (hci : tC ci) (ws : va_W) (he : ws[q0]? = some (a, .inr (ci, [.int n]))) (age : Int32)  : Ct G mX5_knot 1 0 0 [.ref a, .int age] ws (Pi ((n + 1) / 2) ws) := by
  refine Ct.intro [(0, .ref a), (1, .int age)] (by decide) rfl (Nat.le_of_ble_eq_true rfl) ?_
  refine z_aload_n d_X5_knot_0 0 rfl ?_
  refine z_iload_n d_X5_knot_1 1 rfl ?_
  obtain ⟨r9, hr9⟩ := tC_cl hci
  refine z_callPp q0 cp_X5_7 he hr9 (t_X10_knot G q0 a ci n hci ws he age) rfl rfl (Nat.le_of_ble_eq_true rfl) rfl d_X5_knot_2 ?_
  refine z_iconst (v := 2) d_X5_knot_5 (by decide) ?_
  refine z_idiv d_X5_knot_6 (by decide) ?_
  exact z_iret _ d_X5_knot_7 rfl (Pi.of rfl)
set_option maxHeartbeats 4000000 in
set_option maxRecDepth 100000 in
theorem t_X5_slips (G : GT) (q0 a : Nat) (n : Int32) (hci : tC 5) (ws : va_W) (he : ws[q0]? = some (a, .inr (5, [.int n]))) (age : Int32)  : Ct G mX5_slips 0 0 0 [.ref a, .int age] ws (Pi (b01 (!decide (age < 10 + n))) ws) := by
  refine Ct.intro [(0, .ref a), (1, .int age)] (by decide) rfl (Nat.le_of_ble_eq_true rfl) ?_
  refine z_iload_n d_X5_slips_0 1 rfl ?_
  refine z_bipush (v := 10) d_X5_slips_1 (by decide) ?_
  refine z_aload_n d_X5_slips_3 0 rfl ?_
  refine z_get (v := .int n) q0 f_X5_11_5 he rfl d_X5_slips_4 ?_
  refine z_iadd d_X5_slips_7 ?_
  refine z_icmp_lt d_X5_slips_8 (fun c_8 => ?_) (fun c_8 => ?_)
  · refine z_iconst (v := 0) d_X5_slips_15 (by decide) ?_
    exact z_zret _ d_X5_slips_16 rfl (by first | rfl | decide) (Pi.of (by simp [b01, *]))
  · refine z_iconst (v := 1) d_X5_slips_11 (by decide) ?_
    refine z_goto d_X5_slips_12 ?_
    exact z_zret _ d_X5_slips_16 rfl (by first | rfl | decide) (Pi.of (by simp [b01, *]))
theorem z_vkind {G : GT} {μ : Mu} {R : Room} {O : OT} {cs ss pc pc' : Nat} {lv : List (Nat × Value)} {st : List Value} {ws : va_W} {j a : Nat} {k n : Int32} (q0 : Nat) (hk : kOk k) (he : ws[q0]? = some (a, .inr (kdC k, [.int n]))) (hw : Wd (.methodLink μ.1.cls j yX10_kind)) (h8 : (st.map fun v => v.category).sum ≤ 8) (hR : rmok 3 0 0 cs ss R = true) (hd : Dc μ pc (.invokevirtual j) 3 pc') (kk : Tr G μ R O cs ss pc' lv (.int (k) :: st) ws) : Tr G μ R O cs ss pc lv (.ref a :: st) ws := by
  rcases hk with rfl | rfl | rfl | rfl | rfl | rfl
  · refine z_callU (C1 := RX10) q0 ⟨k_X10_kind, w_0614, w_0615, hw, w_0616, ⟨by decide +kernel, by decide +kernel⟩, by decide +kernel, w_0614, _, _, _, w_0632⟩ he rfl (t_X10_kind G q0 a _ n (kdC_t 0) ws he) rfl rfl h8 (rm_3 hR (by decide)) hd ?_
    rintro v9 w9 ⟨rfl, rfl⟩
    have e9 : (0 : Int32) = 0 := by rfl
    rw [e9] at kk
    exact kk
  · refine z_callU (C1 := RX3) q0 ⟨k_X3_kind, w_0624, w_0623, hw, w_0616, ⟨by decide +kernel, by decide +kernel⟩, by decide +kernel, w_0614, _, _, _, w_0632⟩ he rfl (t_X3_kind G q0 a _ n (kdC_t 1) ws he) rfl rfl h8 (rm_3 hR (by decide)) hd ?_
    rintro v9 w9 ⟨rfl, rfl⟩
    have e9 : (1 : Int32) = 1 := by rfl
    rw [e9] at kk
    exact kk
  · refine z_callU (C1 := RX2) q0 ⟨k_X2_kind, w_0621, w_0620, hw, w_0616, ⟨by decide +kernel, by decide +kernel⟩, by decide +kernel, w_0614, _, _, _, w_0632⟩ he rfl (t_X2_kind G q0 a _ n (kdC_t 2) ws he) rfl rfl h8 (rm_3 hR (by decide)) hd ?_
    rintro v9 w9 ⟨rfl, rfl⟩
    have e9 : (2 : Int32) = 2 := by rfl
    rw [e9] at kk
    exact kk
  · refine z_callU (C1 := RX8) q0 ⟨k_X8_kind, w_0630, w_0629, hw, w_0616, ⟨by decide +kernel, by decide +kernel⟩, by decide +kernel, w_0614, _, _, _, w_0632⟩ he rfl (t_X8_kind G q0 a _ n (kdC_t 3) ws he) rfl rfl h8 (rm_3 hR (by decide)) hd ?_
    rintro v9 w9 ⟨rfl, rfl⟩
    have e9 : (3 : Int32) = 3 := by rfl
    rw [e9] at kk
    exact kk
  · refine z_callU (C1 := RX1) q0 ⟨k_X1_kind, w_0618, w_0617, hw, w_0616, ⟨by decide +kernel, by decide +kernel⟩, by decide +kernel, w_0614, _, _, _, w_0632⟩ he rfl (t_X1_kind G q0 a _ n (kdC_t 4) ws he) rfl rfl h8 (rm_3 hR (by decide)) hd ?_
    rintro v9 w9 ⟨rfl, rfl⟩
    have e9 : (4 : Int32) = 4 := by rfl
    rw [e9] at kk
    exact kk
  · refine z_callU (C1 := RX5) q0 ⟨k_X5_kind, w_0627, w_0626, hw, w_0616, ⟨by decide +kernel, by decide +kernel⟩, by decide +kernel, w_0614, _, _, _, w_0632⟩ he rfl (t_X5_kind G q0 a _ n (kdC_t 5) ws he) rfl rfl h8 (rm_3 hR (by decide)) hd ?_
    rintro v9 w9 ⟨rfl, rfl⟩
    have e9 : (5 : Int32) = 5 := by rfl
    rw [e9] at kk
    exact kk
theorem z_vknot {G : GT} {μ : Mu} {R : Room} {O : OT} {cs ss pc pc' : Nat} {lv : List (Nat × Value)} {st : List Value} {ws : va_W} {j a : Nat} {k n : Int32} {age : Int32} (q0 : Nat) (hk : kOk k) (he : ws[q0]? = some (a, .inr (kdC k, [.int n]))) (hw : Wd (.methodLink μ.1.cls j yX10_knot)) (h8 : (st.map fun v => v.category).sum ≤ 8) (hR : rmok 3 0 0 cs ss R = true) (hd : Dc μ pc (.invokevirtual j) 3 pc') (kk : Tr G μ R O cs ss pc' lv (.int (knK k n age) :: st) ws) : Tr G μ R O cs ss pc lv (.int age :: .ref a :: st) ws := by
  rcases hk with rfl | rfl | rfl | rfl | rfl | rfl
  · refine z_callU (C1 := RX10) q0 ⟨k_X10_knot, w_0634, w_0635, hw, w_0636, ⟨by decide +kernel, by decide +kernel⟩, by decide +kernel, w_0634, _, _, _, w_0657⟩ he rfl (t_X10_knot G q0 a _ n (kdC_t 0) ws he age) rfl rfl h8 (rm_3 hR (by decide)) hd ?_
    rintro v9 w9 ⟨rfl, rfl⟩
    have e9 : (knK 0 n age : Int32) = n + 1 := by first | rfl | (unfold knK; simp [kn_3]; done) | (unfold knK; rw [kn_3]; simp; exact Int32.add_comm _ _)
    rw [e9] at kk
    exact kk
  · refine z_callU (C1 := RX3) q0 ⟨k_X3_knot, w_0644, w_0648, hw, w_0636, ⟨by decide +kernel, by decide +kernel⟩, by decide +kernel, w_0634, _, _, _, w_0657⟩ he rfl (t_X3_knot G q0 a _ n (kdC_t 1) ws he age) rfl rfl h8 (rm_3 hR (by decide)) hd ?_
    rintro v9 w9 ⟨rfl, rfl⟩
    have e9 : (knK 1 n age : Int32) = n + 1 + 2 := by first | rfl | (unfold knK; simp [kn_3]; done) | (unfold knK; rw [kn_3]; simp; exact Int32.add_comm _ _)
    rw [e9] at kk
    exact kk
  · refine z_callU (C1 := RX2) q0 ⟨k_X2_knot, w_0641, w_0647, hw, w_0636, ⟨by decide +kernel, by decide +kernel⟩, by decide +kernel, w_0634, _, _, _, w_0657⟩ he rfl (t_X2_knot G q0 a _ n (kdC_t 2) ws he age) rfl rfl h8 (rm_3 hR (by decide)) hd ?_
    rintro v9 w9 ⟨rfl, rfl⟩
    have e9 : (knK 2 n age : Int32) = 2 * (n + 1 + 2) := by first | rfl | (unfold knK; simp [kn_3]; done) | (unfold knK; rw [kn_3]; simp; exact Int32.add_comm _ _)
    rw [e9] at kk
    exact kk
  · refine z_callU (C1 := RX8) q0 ⟨k_X8_knot, w_0654, w_0653, hw, w_0636, ⟨by decide +kernel, by decide +kernel⟩, by decide +kernel, w_0634, _, _, _, w_0657⟩ he rfl (t_X8_knot G q0 a _ n (kdC_t 3) ws he age) rfl rfl h8 (rm_3 hR (by decide)) hd ?_
    rintro v9 w9 ⟨rfl, rfl⟩
    have e9 : (knK 3 n age : Int32) = n + 1 + 2 - age / 10 := by first | rfl | (unfold knK; simp [kn_3]; done) | (unfold knK; rw [kn_3]; simp; exact Int32.add_comm _ _)
    rw [e9] at kk
    exact kk
  · refine z_callU (C1 := RX1) q0 ⟨k_X1_knot, w_0638, w_0637, hw, w_0636, ⟨by decide +kernel, by decide +kernel⟩, by decide +kernel, w_0634, _, _, _, w_0657⟩ he rfl (t_X1_knot G q0 a n (kdC_t 4) ws he age) rfl rfl h8 (rm_3 hR (by decide)) hd ?_
    rintro v9 w9 ⟨rfl, rfl⟩
    have e9 : (knK 4 n age : Int32) = 2 * (n + 1 + 2) + n := by first | rfl | (unfold knK; simp [kn_3]; done) | (unfold knK; rw [kn_3]; simp; exact Int32.add_comm _ _)
    rw [e9] at kk
    exact kk
  · refine z_callU (C1 := RX5) q0 ⟨k_X5_knot, w_0650, w_0649, hw, w_0636, ⟨by decide +kernel, by decide +kernel⟩, by decide +kernel, w_0634, _, _, _, w_0657⟩ he rfl (t_X5_knot G q0 a _ n (kdC_t 5) ws he age) rfl rfl h8 (rm_3 hR (by decide)) hd ?_
    rintro v9 w9 ⟨rfl, rfl⟩
    have e9 : (knK 5 n age : Int32) = (n + 1) / 2 := by first | rfl | (unfold knK; simp [kn_3]; done) | (unfold knK; rw [kn_3]; simp; exact Int32.add_comm _ _)
    rw [e9] at kk
    exact kk
theorem z_vslips {G : GT} {μ : Mu} {R : Room} {O : OT} {cs ss pc pc' : Nat} {lv : List (Nat × Value)} {st : List Value} {ws : va_W} {j a : Nat} {k n : Int32} {age : Int32} (q0 : Nat) (hk : kOk k) (he : ws[q0]? = some (a, .inr (kdC k, [.int n]))) (hw : Wd (.methodLink μ.1.cls j yX10_slips)) (h8 : (st.map fun v => v.category).sum ≤ 8) (hR : rmok 3 0 0 cs ss R = true) (hd : Dc μ pc (.invokevirtual j) 3 pc') (kk : Tr G μ R O cs ss pc' lv (.int (b01 (slK k n age)) :: st) ws) : Tr G μ R O cs ss pc lv (.int age :: .ref a :: st) ws := by
  rcases hk with rfl | rfl | rfl | rfl | rfl | rfl
  · refine z_callU (C1 := RX10) q0 ⟨k_X10_slips, w_0660, w_0661, hw, w_0662, ⟨by decide +kernel, by decide +kernel⟩, by decide +kernel, w_0660, _, _, _, w_0672⟩ he rfl (t_X10_slips G q0 a _ n (kdC_t 0) ws he age) rfl rfl h8 (rm_3 hR (by decide)) hd ?_
    rintro v9 w9 ⟨rfl, rfl⟩
    have e9 : (b01 (slK 0 n age) : Int32) = 0 := by first | rfl | (unfold slK; simp; done)
    rw [e9] at kk
    exact kk
  · refine z_callU (C1 := RX3) q0 ⟨k_X10_slips, w_0660, w_0665, hw, w_0662, ⟨by decide +kernel, by decide +kernel⟩, by decide +kernel, w_0660, _, _, _, w_0672⟩ he rfl (t_X10_slips G q0 a _ n (kdC_t 1) ws he age) rfl rfl h8 (rm_3 hR (by decide)) hd ?_
    rintro v9 w9 ⟨rfl, rfl⟩
    have e9 : (b01 (slK 1 n age) : Int32) = 0 := by first | rfl | (unfold slK; simp; done)
    rw [e9] at kk
    exact kk
  · refine z_callU (C1 := RX2) q0 ⟨k_X10_slips, w_0660, w_0664, hw, w_0662, ⟨by decide +kernel, by decide +kernel⟩, by decide +kernel, w_0660, _, _, _, w_0672⟩ he rfl (t_X10_slips G q0 a _ n (kdC_t 2) ws he age) rfl rfl h8 (rm_3 hR (by decide)) hd ?_
    rintro v9 w9 ⟨rfl, rfl⟩
    have e9 : (b01 (slK 2 n age) : Int32) = 0 := by first | rfl | (unfold slK; simp; done)
    rw [e9] at kk
    exact kk
  · refine z_callU (C1 := RX8) q0 ⟨k_X8_slips, w_0670, w_0669, hw, w_0662, ⟨by decide +kernel, by decide +kernel⟩, by decide +kernel, w_0660, _, _, _, w_0672⟩ he rfl (t_X8_slips G q0 a _ n (kdC_t 3) ws he age) rfl rfl h8 (rm_3 hR (by decide)) hd ?_
    rintro v9 w9 ⟨rfl, rfl⟩
    have e9 : (b01 (slK 3 n age) : Int32) = b01 (!decide (age < 100)) := by first | rfl | (unfold slK; simp; done)
    rw [e9] at kk
    exact kk
  · refine z_callU (C1 := RX1) q0 ⟨k_X10_slips, w_0660, w_0663, hw, w_0662, ⟨by decide +kernel, by decide +kernel⟩, by decide +kernel, w_0660, _, _, _, w_0672⟩ he rfl (t_X10_slips G q0 a _ n (kdC_t 4) ws he age) rfl rfl h8 (rm_3 hR (by decide)) hd ?_
    rintro v9 w9 ⟨rfl, rfl⟩
    have e9 : (b01 (slK 4 n age) : Int32) = 0 := by first | rfl | (unfold slK; simp; done)
    rw [e9] at kk
    exact kk
  · refine z_callU (C1 := RX5) q0 ⟨k_X5_slips, w_0667, w_0666, hw, w_0662, ⟨by decide +kernel, by decide +kernel⟩, by decide +kernel, w_0660, _, _, _, w_0672⟩ he rfl (t_X5_slips G q0 a n (kdC_t 5) ws he age) rfl rfl h8 (rm_3 hR (by decide)) hd ?_
    rintro v9 w9 ⟨rfl, rfl⟩
    have e9 : (b01 (slK 5 n age) : Int32) = b01 (!decide (age < 10 + n)) := by first | rfl | (unfold slK; simp; done)
    rw [e9] at kk
    exact kk
theorem z_vties {G : GT} {μ : Mu} {R : Room} {O : OT} {cs ss pc pc' : Nat} {lv : List (Nat × Value)} {st : List Value} {ws : va_W} {j a : Nat} {k n : Int32} (q0 : Nat) (hk : kOk k) (he : ws[q0]? = some (a, .inr (kdC k, [.int n]))) (hw : Wd (.methodLink μ.1.cls j yX10_ties)) (h8 : (st.map fun v => v.category).sum ≤ 8) (hR : rmok 3 0 0 cs ss R = true) (hd : Dc μ pc (.invokevirtual j) 3 pc') (kk : Tr G μ R O cs ss pc' lv (.int (tiK k) :: st) ws) : Tr G μ R O cs ss pc lv (.ref a :: st) ws := by
  rcases hk with rfl | rfl | rfl | rfl | rfl | rfl
  · refine z_callU (C1 := RX10) q0 ⟨k_X10_ties, w_0674, w_0675, hw, w_0676, ⟨by decide +kernel, by decide +kernel⟩, by decide +kernel, w_0674, _, _, _, w_0690⟩ he rfl (t_X10_ties G q0 a _ n (kdC_t 0) ws he) rfl rfl h8 (rm_3 hR (by decide)) hd ?_
    rintro v9 w9 ⟨rfl, rfl⟩
    have e9 : (tiK 0 : Int32) = 1 := by rfl
    rw [e9] at kk
    exact kk
  · refine z_callU (C1 := RX3) q0 ⟨k_X3_ties, w_0683, w_0687, hw, w_0676, ⟨by decide +kernel, by decide +kernel⟩, by decide +kernel, w_0674, _, _, _, w_0690⟩ he rfl (t_X3_ties G q0 a _ n (kdC_t 1) ws he) rfl rfl h8 (rm_3 hR (by decide)) hd ?_
    rintro v9 w9 ⟨rfl, rfl⟩
    have e9 : (tiK 1 : Int32) = 2 := by rfl
    rw [e9] at kk
    exact kk
  · refine z_callU (C1 := RX2) q0 ⟨k_X3_ties, w_0683, w_0686, hw, w_0676, ⟨by decide +kernel, by decide +kernel⟩, by decide +kernel, w_0674, _, _, _, w_0690⟩ he rfl (t_X3_ties G q0 a _ n (kdC_t 2) ws he) rfl rfl h8 (rm_3 hR (by decide)) hd ?_
    rintro v9 w9 ⟨rfl, rfl⟩
    have e9 : (tiK 2 : Int32) = 2 := by rfl
    rw [e9] at kk
    exact kk
  · refine z_callU (C1 := RX8) q0 ⟨k_X3_ties, w_0683, w_0689, hw, w_0676, ⟨by decide +kernel, by decide +kernel⟩, by decide +kernel, w_0674, _, _, _, w_0690⟩ he rfl (t_X3_ties G q0 a _ n (kdC_t 3) ws he) rfl rfl h8 (rm_3 hR (by decide)) hd ?_
    rintro v9 w9 ⟨rfl, rfl⟩
    have e9 : (tiK 3 : Int32) = 2 := by rfl
    rw [e9] at kk
    exact kk
  · refine z_callU (C1 := RX1) q0 ⟨k_X1_ties, w_0678, w_0677, hw, w_0676, ⟨by decide +kernel, by decide +kernel⟩, by decide +kernel, w_0674, _, _, _, w_0690⟩ he rfl (t_X1_ties G q0 a _ n (kdC_t 4) ws he) rfl rfl h8 (rm_3 hR (by decide)) hd ?_
    rintro v9 w9 ⟨rfl, rfl⟩
    have e9 : (tiK 4 : Int32) = 4 := by rfl
    rw [e9] at kk
    exact kk
  · refine z_callU (C1 := RX5) q0 ⟨k_X10_ties, w_0674, w_0688, hw, w_0676, ⟨by decide +kernel, by decide +kernel⟩, by decide +kernel, w_0674, _, _, _, w_0690⟩ he rfl (t_X10_ties G q0 a _ n (kdC_t 5) ws he) rfl rfl h8 (rm_3 hR (by decide)) hd ?_
    rintro v9 w9 ⟨rfl, rfl⟩
    have e9 : (tiK 5 : Int32) = 1 := by rfl
    rw [e9] at kk
    exact kk
