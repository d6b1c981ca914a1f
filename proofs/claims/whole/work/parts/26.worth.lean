theorem z_top {G : GT} {μ : Mu} {R : Room} {O : OT} {cs ss pc : Nat} {lv : List (Nat × Value)} {st : List Value} {ws : va_W} {u v : Int32} (h : u = v) (k : Tr G μ R O cs ss pc lv (.int v :: st) ws) : Tr G μ R O cs ss pc lv (.int u :: st) ws := by rw [h]; exact k
/-! a TEXT of class X: its code in three parts, and what one comes to -/
def pt (cd : CD) (p : Nat) : List Int32 := if p = 0 then cd.1 else if p = 1 then cd.2.1 else cd.2.2
def lo (cd : CD) (p : Nat) : Nat := if p = 0 then 0 else if p = 1 then cd.1.length else cd.1.length + cd.2.1.length
def cdL (cd : CD) : Nat := cd.1.length + cd.2.1.length + cd.2.2.length
def TxR (G : GT) (cd : CD) (num : Int32) (a : Nat) (tl : va_W) : Prop := ∃ (q q1 q2 c e : Nat) (f g : Nat → Int32), tl[q]? = some (a, .inr (9, [.int num, .ref c, .ref e])) ∧ tl[q1]? = some (c, .inl (G.2.1 0, cdL cd, .inl f)) ∧ tl[q2]? = some (e, .inl (G.2.1 0, 3, .inl g)) ∧ cdL cd ≤ 160 ∧ (∀ p, p < 3 → g p = nI (lo cd p + (pt cd p).length) ∧ (∀ j, j < (pt cd p).length → f (lo cd p + j) = (pt cd p).getD j 0) ∧ ∀ nm, ∃ x, Vl nm (pt cd p) x)
theorem lo_le (cd : CD) {p : Nat} (hp : p < 3) : lo cd p + (pt cd p).length ≤ cdL cd := by
  unfold lo pt cdL
  rcases (show p = 0 ∨ p = 1 ∨ p = 2 by omega) with rfl | rfl | rfl <;> simp <;> omega
theorem lo_s (cd : CD) {p : Nat} (hp : p < 2) : lo cd p + (pt cd p).length = lo cd (p + 1) := by
  unfold lo pt
  rcases (show p = 0 ∨ p = 1 by omega) with rfl | rfl <;> simp
/-- a row as a stack: its top first -/
def StR (st : Nat → Int32) : List Int32 → Prop
  | [] => True
  | v :: r => st r.length = v ∧ StR st r
theorem StR_upd {st : Nat → Int32} {v : Int32} : ∀ {r : List Int32} {t : Nat}, r.length ≤ t → StR st r → StR (upd st t v) r
  | [], _, _, _ => trivial
  | a :: r, t, ht, h => by
    have h1 : r.length + 1 ≤ t := ht
    refine ⟨?_, StR_upd (by omega) h.2⟩
    show (fun j => if j = t then v else st j) r.length = a
    show (if r.length = t then v else st r.length) = a
    rw [if_neg (by omega)]; exact h.1
theorem vOf_cong {nm nm' : Nat → Int32} (h : ∀ k, k < 6 → nm k = nm' k) : ∀ (c : List Int32) (stk : List Int32), exL nm c stk = exL nm' c stk
  | [], _ => rfl
  | s :: c, stk => by
    show exL nm c (exI nm stk s) = exL nm' c (exI nm' stk s)
    have e : exI nm stk s = exI nm' stk s := by
      unfold exI
      by_cases h1 : -6 ≤ s.toInt
      · rw [if_pos h1, if_pos h1]
        by_cases h2 : 0 ≤ s.toInt
        · rw [if_pos h2, if_pos h2]
        · rw [if_neg h2, if_neg h2, h _ (by omega)]
      · rw [if_neg h1, if_neg h1]
    rw [e]; exact vOf_cong h c _
theorem vO_c {nm nm' : Nat → Int32} (h : ∀ k, k < 6 → nm k = nm' k) (c : List Int32) : vOf nm c = vOf nm' c := by unfold vOf; rw [vOf_cong h]
theorem exL_s {nm : Nat → Int32} {c : List Int32} {j : Nat} {stk : List Int32} (hj : j < c.length) (h : exL nm (c.take j) [] = stk) : exL nm (c.take (j + 1)) [] = exI nm stk (c.getD j 0) := by
  rw [List.take_succ, List.getElem?_eq_getElem hj, exL_app, h]
  show exL nm [c[j]] stk = _
  rw [exL_1, List.getD_eq_getElem?_getD, List.getElem?_eq_getElem hj]; rfl
theorem exI_p {nm : Nat → Int32} {stk : List Int32} {s : Int32} (h : ¬ s < -6) : exI nm stk s = (if 0 ≤ s.toInt then s else nm (-1 - s.toInt).toNat) :: stk := by
  unfold exI; rw [if_pos]; rw [lt_i, show (-6 : Int32).toInt = -6 by decide] at h; omega
theorem exI_1 {nm : Nat → Int32} {r : List Int32} {s a : Int32} (h : s < -6) (h2 : s = -9 ∨ s = -15) : exI nm (a :: r) s = ex1 s a :: r := by
  unfold exI; rw [if_neg (by rw [lt_i, show (-6 : Int32).toInt = -6 by decide] at h; omega), if_pos h2]
theorem exI_10 {nm : Nat → Int32} {s : Int32} (h : s < -6) (h2 : s = -9 ∨ s = -15) : exI nm [] s = [] := by
  unfold exI; rw [if_neg (by rw [lt_i, show (-6 : Int32).toInt = -6 by decide] at h; omega), if_pos h2]
theorem exI_2 {nm : Nat → Int32} {r : List Int32} {s a z : Int32} (h : s < -6) (h2 : ¬ s = -9) (h3 : ¬ s = -15) : exI nm (z :: a :: r) s = ex2 s a z :: r := by
  unfold exI; rw [if_neg (by rw [lt_i, show (-6 : Int32).toInt = -6 by decide] at h; omega), if_neg (by rintro (e | e) <;> contradiction)]
theorem exI_20 {nm : Nat → Int32} {s : Int32} (h : s < -6) (h2 : ¬ s = -9) (h3 : ¬ s = -15) : exI nm [] s = [] := by
  unfold exI; rw [if_neg (by rw [lt_i, show (-6 : Int32).toInt = -6 by decide] at h; omega), if_neg (by rintro (e | e) <;> contradiction)]
theorem exI_21 {nm : Nat → Int32} {s z : Int32} (h : s < -6) (h2 : ¬ s = -9) (h3 : ¬ s = -15) : exI nm [z] s = [z] := by
  unfold exI; rw [if_neg (by rw [lt_i, show (-6 : Int32).toInt = -6 by decide] at h; omega), if_neg (by rintro (e | e) <;> contradiction)]
def bitS (z : Int32) : Int32 := if z = 0 then 0 else 1
set_option maxHeartbeats 4000000 in
set_option maxRecDepth 100000 in
theorem t_X9_bit (G : GT) (z : Int32) (ws : va_W)  : Ct G mX9_bit 0 0 0 [.int z] ws (Pi (bitS z) ws) := by
  refine Ct.intro [(0, .int z)] (by decide) rfl (Nat.le_of_ble_eq_true rfl) ?_
  refine z_iload_n d_X9_bit_0 0 rfl ?_
  refine z_if_eq d_X9_bit_1 (fun c_1 => ?_) (fun c_1 => ?_)
  · refine z_iconst (v := 0) d_X9_bit_8 (by decide) ?_
    exact z_iret _ d_X9_bit_9 rfl (Pi.of (by simp [bitS, *]))
  · refine z_iconst (v := 1) d_X9_bit_4 (by decide) ?_
    refine z_goto d_X9_bit_5 ?_
    exact z_iret _ d_X9_bit_9 rfl (Pi.of (by simp [bitS, *]))
set_option maxHeartbeats 4000000 in
set_option maxRecDepth 100000 in
theorem t_X9_ofOne (G : GT) (s a : Int32) (ws : va_W)  : Ct G mX9_ofOne 1 0 0 [.int s, .int a] ws (Pi (ex1 s a) ws) := by
  refine Ct.intro [(0, .int s), (1, .int a)] (by decide) rfl (Nat.le_of_ble_eq_true rfl) ?_
  refine z_iload_n d_X9_ofOne_0 0 rfl ?_
  refine z_bipush (v := -9) d_X9_ofOne_1 (by decide) ?_
  refine z_icmp_ne d_X9_ofOne_3 (fun c_3 => ?_) (fun c_3 => ?_)
  · refine z_iload_n d_X9_ofOne_21 1 rfl ?_
    refine z_ineg d_X9_ofOne_22 ?_
    exact z_iret _ d_X9_ofOne_23 rfl (Pi.of (by simp [ex1, b01, bitS, *]))
  · refine z_iload_n d_X9_ofOne_6 1 rfl ?_
    refine z_if_ne d_X9_ofOne_7 (fun c_7 => ?_) (fun c_7 => ?_)
    · refine z_iconst (v := 0) d_X9_ofOne_14 (by decide) ?_
      refine z_callSp c_X9_30 (t_X9_bit G 0 ws) rfl rfl (Nat.le_of_ble_eq_true rfl) rfl d_X9_ofOne_15 ?_
      refine z_goto d_X9_ofOne_18 ?_
      exact z_iret _ d_X9_ofOne_23 rfl (Pi.of (by simp [ex1, b01, bitS, *]))
    · refine z_iconst (v := 1) d_X9_ofOne_10 (by decide) ?_
      refine z_goto d_X9_ofOne_11 ?_
      refine z_callSp c_X9_30 (t_X9_bit G 1 ws) rfl rfl (Nat.le_of_ble_eq_true rfl) rfl d_X9_ofOne_15 ?_
      refine z_goto d_X9_ofOne_18 ?_
      exact z_iret _ d_X9_ofOne_23 rfl (Pi.of (by simp [ex1, b01, bitS, *]))
theorem sne {s t : Int32} (h : s.toInt ≠ t.toInt) : ¬ s = t := fun e => h (by rw [e])
theorem sv_7 : (-7 : Int32).toInt = -7 := by decide
theorem sv_8 : (-8 : Int32).toInt = -8 := by decide
theorem sv_10 : (-10 : Int32).toInt = -10 := by decide
theorem sv_11 : (-11 : Int32).toInt = -11 := by decide
theorem sv_12 : (-12 : Int32).toInt = -12 := by decide
theorem sv_13 : (-13 : Int32).toInt = -13 := by decide
theorem sv_9 : (-9 : Int32).toInt = -9 := by decide
set_option maxHeartbeats 4000000 in
set_option maxRecDepth 100000 in
theorem t_X9_ofTwo (G : GT) (s a z : Int32) (ws : va_W)  : Ct G mX9_ofTwo 1 0 0 [.int s, .int a, .int z] ws (Pi (ex2 s a z) ws) := by
  refine Ct.intro [(0, .int s), (1, .int a), (2, .int z)] (by decide) rfl (Nat.le_of_ble_eq_true rfl) ?_
  refine z_iload_n d_X9_ofTwo_0 0 rfl ?_
  by_cases s_1_0 : s.toInt = -13
  · refine z_swIn (tgt := 110) (off := 109) d_X9_ofTwo_1 s_1_0 (by decide) (by decide) (by decide) (by decide) ?_
    refine z_iload_n d_X9_ofTwo_110 1 rfl ?_
    refine z_iload_n d_X9_ofTwo_111 2 rfl ?_
    refine z_isub d_X9_ofTwo_112 ?_
    exact z_iret _ d_X9_ofTwo_113 rfl (Pi.of (by have e : s = (-13 : Int32) := Int32.toInt_inj.mp (by rw [s_1_0]; decide); subst e; simp [ex2, b01, bitS, *]))
  by_cases s_1_1 : s.toInt = -12
  · refine z_swIn (tgt := 106) (off := 105) d_X9_ofTwo_1 s_1_1 (by decide) (by decide) (by decide) (by decide) ?_
    refine z_iload_n d_X9_ofTwo_106 1 rfl ?_
    refine z_iload_n d_X9_ofTwo_107 2 rfl ?_
    refine z_iadd d_X9_ofTwo_108 ?_
    exact z_iret _ d_X9_ofTwo_109 rfl (Pi.of (by have e : s = (-12 : Int32) := Int32.toInt_inj.mp (by rw [s_1_1]; decide); subst e; simp [ex2, b01, bitS, *]))
  by_cases s_1_2 : s.toInt = -11
  · refine z_swIn (tgt := 92) (off := 91) d_X9_ofTwo_1 s_1_2 (by decide) (by decide) (by decide) (by decide) ?_
    refine z_iload_n d_X9_ofTwo_92 1 rfl ?_
    refine z_iload_n d_X9_ofTwo_93 2 rfl ?_
    refine z_icmp_ne d_X9_ofTwo_94 (fun c_94 => ?_) (fun c_94 => ?_)
    · refine z_iconst (v := 0) d_X9_ofTwo_101 (by decide) ?_
      refine z_callSp c_X9_30 (t_X9_bit G 0 ws) rfl rfl (Nat.le_of_ble_eq_true rfl) rfl d_X9_ofTwo_102 ?_
      exact z_iret _ d_X9_ofTwo_105 rfl (Pi.of (by have e : s = (-11 : Int32) := Int32.toInt_inj.mp (by rw [s_1_2]; decide); subst e; simp [ex2, b01, bitS, *]))
    · refine z_iconst (v := 1) d_X9_ofTwo_97 (by decide) ?_
      refine z_goto d_X9_ofTwo_98 ?_
      refine z_callSp c_X9_30 (t_X9_bit G 1 ws) rfl rfl (Nat.le_of_ble_eq_true rfl) rfl d_X9_ofTwo_102 ?_
      exact z_iret _ d_X9_ofTwo_105 rfl (Pi.of (by have e : s = (-11 : Int32) := Int32.toInt_inj.mp (by rw [s_1_2]; decide); subst e; simp [ex2, b01, bitS, *]))
  by_cases s_1_3 : s.toInt = -10
  · refine z_swIn (tgt := 78) (off := 77) d_X9_ofTwo_1 s_1_3 (by decide) (by decide) (by decide) (by decide) ?_
    refine z_iload_n d_X9_ofTwo_78 1 rfl ?_
    refine z_iload_n d_X9_ofTwo_79 2 rfl ?_
    refine z_icmp_ge d_X9_ofTwo_80 (fun c_80 => ?_) (fun c_80 => ?_)
    · refine z_iconst (v := 0) d_X9_ofTwo_87 (by decide) ?_
      refine z_callSp c_X9_30 (t_X9_bit G 0 ws) rfl rfl (Nat.le_of_ble_eq_true rfl) rfl d_X9_ofTwo_88 ?_
      exact z_iret _ d_X9_ofTwo_91 rfl (Pi.of (by have e : s = (-10 : Int32) := Int32.toInt_inj.mp (by rw [s_1_3]; decide); subst e; simp [ex2, b01, bitS, *]))
    · refine z_iconst (v := 1) d_X9_ofTwo_83 (by decide) ?_
      refine z_goto d_X9_ofTwo_84 ?_
      refine z_callSp c_X9_30 (t_X9_bit G 1 ws) rfl rfl (Nat.le_of_ble_eq_true rfl) rfl d_X9_ofTwo_88 ?_
      exact z_iret _ d_X9_ofTwo_91 rfl (Pi.of (by have e : s = (-10 : Int32) := Int32.toInt_inj.mp (by rw [s_1_3]; decide); subst e; simp [ex2, b01, bitS, *]))
  by_cases s_1_4 : s.toInt = -9
  · refine z_swIn (tgt := 114) (off := 113) d_X9_ofTwo_1 s_1_4 (by decide) (by decide) (by decide) (by decide) ?_
    refine z_iload_n d_X9_ofTwo_114 1 rfl ?_
    refine z_iload_n d_X9_ofTwo_115 2 rfl ?_
    refine z_imul d_X9_ofTwo_116 ?_
    exact z_iret _ d_X9_ofTwo_117 rfl (Pi.of (by unfold ex2; rw [if_neg (sne (by rw [sv_7]; omega)), if_neg (sne (by rw [sv_8]; omega)), if_neg (sne (by rw [sv_10]; omega)), if_neg (sne (by rw [sv_11]; omega)), if_neg (sne (by rw [sv_12]; omega)), if_neg (sne (by rw [sv_13]; omega))]))
  by_cases s_1_5 : s.toInt = -8
  · refine z_swIn (tgt := 61) (off := 60) d_X9_ofTwo_1 s_1_5 (by decide) (by decide) (by decide) (by decide) ?_
    refine z_iload_n d_X9_ofTwo_61 1 rfl ?_
    refine z_if_eq d_X9_ofTwo_62 (fun c_62 => ?_) (fun c_62 => ?_)
    · refine z_iconst (v := 0) d_X9_ofTwo_73 (by decide) ?_
      refine z_callSp c_X9_30 (t_X9_bit G 0 ws) rfl rfl (Nat.le_of_ble_eq_true rfl) rfl d_X9_ofTwo_74 ?_
      exact z_iret _ d_X9_ofTwo_77 rfl (Pi.of (by have e : s = (-8 : Int32) := Int32.toInt_inj.mp (by rw [s_1_5]; decide); subst e; simp [ex2, b01, bitS, *]))
    · refine z_iload_n d_X9_ofTwo_65 2 rfl ?_
      refine z_if_eq d_X9_ofTwo_66 (fun c_66 => ?_) (fun c_66 => ?_)
      · refine z_iconst (v := 0) d_X9_ofTwo_73 (by decide) ?_
        refine z_callSp c_X9_30 (t_X9_bit G 0 ws) rfl rfl (Nat.le_of_ble_eq_true rfl) rfl d_X9_ofTwo_74 ?_
        exact z_iret _ d_X9_ofTwo_77 rfl (Pi.of (by have e : s = (-8 : Int32) := Int32.toInt_inj.mp (by rw [s_1_5]; decide); subst e; simp [ex2, b01, bitS, *]))
      · refine z_iconst (v := 1) d_X9_ofTwo_69 (by decide) ?_
        refine z_goto d_X9_ofTwo_70 ?_
        refine z_callSp c_X9_30 (t_X9_bit G 1 ws) rfl rfl (Nat.le_of_ble_eq_true rfl) rfl d_X9_ofTwo_74 ?_
        exact z_iret _ d_X9_ofTwo_77 rfl (Pi.of (by have e : s = (-8 : Int32) := Int32.toInt_inj.mp (by rw [s_1_5]; decide); subst e; simp [ex2, b01, bitS, *]))
  by_cases s_1_6 : s.toInt = -7
  · refine z_swIn (tgt := 44) (off := 43) d_X9_ofTwo_1 s_1_6 (by decide) (by decide) (by decide) (by decide) ?_
    refine z_iload_n d_X9_ofTwo_44 1 rfl ?_
    refine z_if_ne d_X9_ofTwo_45 (fun c_45 => ?_) (fun c_45 => ?_)
    · refine z_iconst (v := 1) d_X9_ofTwo_52 (by decide) ?_
      refine z_goto d_X9_ofTwo_53 ?_
      refine z_callSp c_X9_30 (t_X9_bit G 1 ws) rfl rfl (Nat.le_of_ble_eq_true rfl) rfl d_X9_ofTwo_57 ?_
      exact z_iret _ d_X9_ofTwo_60 rfl (Pi.of (by have e : s = (-7 : Int32) := Int32.toInt_inj.mp (by rw [s_1_6]; decide); subst e; simp [ex2, b01, bitS, *]))
    · refine z_iload_n d_X9_ofTwo_48 2 rfl ?_
      refine z_if_eq d_X9_ofTwo_49 (fun c_49 => ?_) (fun c_49 => ?_)
      · refine z_iconst (v := 0) d_X9_ofTwo_56 (by decide) ?_
        refine z_callSp c_X9_30 (t_X9_bit G 0 ws) rfl rfl (Nat.le_of_ble_eq_true rfl) rfl d_X9_ofTwo_57 ?_
        exact z_iret _ d_X9_ofTwo_60 rfl (Pi.of (by have e : s = (-7 : Int32) := Int32.toInt_inj.mp (by rw [s_1_6]; decide); subst e; simp [ex2, b01, bitS, *]))
      · refine z_iconst (v := 1) d_X9_ofTwo_52 (by decide) ?_
        refine z_goto d_X9_ofTwo_53 ?_
        refine z_callSp c_X9_30 (t_X9_bit G 1 ws) rfl rfl (Nat.le_of_ble_eq_true rfl) rfl d_X9_ofTwo_57 ?_
        exact z_iret _ d_X9_ofTwo_60 rfl (Pi.of (by have e : s = (-7 : Int32) := Int32.toInt_inj.mp (by rw [s_1_6]; decide); subst e; simp [ex2, b01, bitS, *]))
  refine z_swOut (tgt := 114) d_X9_ofTwo_1 (by omega) (by decide) ?_
  refine z_iload_n d_X9_ofTwo_114 1 rfl ?_
  refine z_iload_n d_X9_ofTwo_115 2 rfl ?_
  refine z_imul d_X9_ofTwo_116 ?_
  exact z_iret _ d_X9_ofTwo_117 rfl (Pi.of (by unfold ex2; rw [if_neg (sne (by rw [sv_7]; omega)), if_neg (sne (by rw [sv_8]; omega)), if_neg (sne (by rw [sv_10]; omega)), if_neg (sne (by rw [sv_11]; omega)), if_neg (sne (by rw [sv_12]; omega)), if_neg (sne (by rw [sv_13]; omega))]))
/-- an answer, and what it leaves behind of scratch -/
def Px (G : GT) (x : Nat → Nat) (N : Nat → Int32) (R : Nat → Nat → Int32) (K : Nat → Nat → Option Nat) (r : Nat → Nat) (S : Nat → Int32) (tl : va_W) (v0 : Option Value) : Option Value → va_W → Prop := fun v w => v = v0 ∧ ∃ (T : Nat → Nat → Int32), w = XW G x N R K r S T tl
theorem px_i {a b : Int32} (h : a = b) : some (Value.int a) = some (Value.int b) := by rw [h]
theorem name_ix {s : Int32} (h : ¬ s < -6) (h2 : s < 0) : (-1 - s).toInt = ((-1 - s.toInt).toNat : Int) ∧ (-1 - s.toInt).toNat < 6 := by
  rw [lt_i, show (-6 : Int32).toInt = -6 by decide] at h
  rw [lt_i, i_0] at h2
  rw [sub_i (by rw [show (-1 : Int32).toInt = -1 by decide]; omega) (by rw [show (-1 : Int32).toInt = -1 by decide]; omega), show (-1 : Int32).toInt = -1 by decide]
  omega
set_option maxHeartbeats 4000000 in
set_option maxRecDepth 100000 in
theorem l_X9_worth (G : GT) (x : Nat → Nat) (N : Nat → Int32) (R : Nat → Nat → Int32) (K : Nat → Nat → Option Nat) (r : Nat → Nat) (S : Nat → Int32) (T : Nat → Nat → Int32) (tl : va_W) (q q1 q2 a c e : Nat) (num : Int32) (L : Nat) (f g : Nat → Int32) (hq : tl[q]? = some (a, .inr (9, [.int num, .ref c, .ref e]))) (hq1 : tl[q1]? = some (c, .inl (G.2.1 0, L, .inl f))) (hq2 : tl[q2]? = some (e, .inl (G.2.1 0, 3, .inl g))) (hL : L ≤ 160) (p l0 : Nat) (cl : List Int32) (hp : p < 3) (hg : g p = nI (l0 + cl.length)) (hl0 : l0 + cl.length ≤ L) (hf : ∀ j, j < cl.length → f (l0 + j) = cl.getD j 0) (hV : ∀ nm, ∃ xv, Vl nm cl xv) : ∀ (n : Nat) (j : Nat) (stk : List Int32) (st : Nat → Int32) (hm : cl.length < j + n) (hstk : exL (T 2) (cl.take j) [] = stk) (ht : stk.length ≤ j ∧ j ≤ cl.length) (hS : StR st stk), Tr G mX9_worth (Rm 2 0 0) (OM G (fun v w => v = some (.int (vOf (T 2) cl)) ∧ ∃ st', w = XW G x N R K r S (vf_upd T 3 st') tl) 0 0) 0 0 21 [(5, .int (nI (l0 + j))), (4, .int (nI stk.length)), (3, .ref (x 12)), (2, .ref (x 11)), (1, .int (nI p)), (0, .ref a)] [] (XW G x N R K r S (vf_upd T 3 st) tl) := by
  intro n
  induction n with
  | zero =>
    intro j stk st hm hstk ht hS
    exact absurd hm (by omega)
  | succ n ih =>
    intro j stk st hm hstk ht hS
    refine z_iload d_X9_worth_21 0 rfl ?_
    refine z_aload_n d_X9_worth_23 5 rfl ?_
    refine z_get (v := .ref e) (q + 31) f_X9_19_9 hq rfl d_X9_worth_24 ?_
    refine z_iload_n d_X9_worth_27 4 rfl ?_
    refine z_ialdN (q2 + 31) p hq2 (nI_i (by omega)) hp d_X9_worth_28 ?_
    refine z_icmp_ge d_X9_worth_29 (fun c_29 => ?_) (fun c_29 => ?_)
    · refine z_aload_n d_X9_worth_157 2 rfl ?_
      refine z_iconst (v := 0) d_X9_worth_158 (by decide) ?_
      refine z_ialdN (12) 0 rfl rfl (by decide) d_X9_worth_159 ?_
      exact z_iret _ d_X9_worth_160 rfl ⟨px_i (by have h9 : j = cl.length := by { rw [hg, nI_ltI (by omega) (by omega)] at c_29; omega }; rw [h9, List.take_length] at hstk; obtain ⟨xv, hx⟩ := hV (T 2); rw [hx.of]; rw [hx []] at hstk; subst hstk; exact hS.1), _, rfl⟩
    · have h9 : j < cl.length := by rw [hg, nI_ltI (by omega) (by omega)] at c_29; omega
      refine z_aload_n d_X9_worth_32 5 rfl ?_
      refine z_get (v := .ref c) (q + 31) f_X9_15_9 hq rfl d_X9_worth_33 ?_
      refine z_iload d_X9_worth_36 0 rfl ?_
      refine z_ialdN (q1 + 31) (l0 + j) hq1 (nI_i (by omega)) (by omega) d_X9_worth_38 ?_
      rw [hf j h9]
      have hs := exL_s h9 hstk
      generalize hv : cl.getD j 0 = s at hs ⊢
      rcases stk with _ | ⟨z, _ | ⟨y, rr⟩⟩
      · refine z_istore [(6, .int s), (5, .int (nI (l0 + j))), (4, .int (nI 0)), (3, .ref (x 12)), (2, .ref (x 11)), (1, .int (nI p)), (0, .ref a)] d_X9_worth_39 (by decide) rfl ?_
        refine z_iload d_X9_worth_41 0 rfl ?_
        refine z_bipush (v := -6) d_X9_worth_43 (by decide) ?_
        refine z_icmp_lt d_X9_worth_45 (fun c_45 => ?_) (fun c_45 => ?_)
        · refine z_iload d_X9_worth_81 0 rfl ?_
          refine z_bipush (v := -9) d_X9_worth_83 (by decide) ?_
          refine z_icmp_eq d_X9_worth_85 (fun c_85 => ?_) (fun c_85 => ?_)
          · refine z_iload d_X9_worth_95 2 rfl ?_
            refine z_iconst (v := 1) d_X9_worth_97 (by decide) ?_
            refine z_icmp_lt d_X9_worth_98 (fun c_98 => ?_) (fun c_98 => ?_)
            rotate_left
            · exact absurd (show nI 0 < 1 by decide) c_98
            refine z_iload d_X9_worth_121 2 rfl ?_
            refine z_iconst (v := 2) d_X9_worth_123 (by decide) ?_
            refine z_icmp_lt d_X9_worth_124 (fun c_124 => ?_) (fun c_124 => ?_)
            rotate_left
            · exact absurd (show nI 0 < 2 by decide) c_124
            refine z_iinc ((nI (l0 + j)) + 1) [(5, .int ((nI (l0 + j)) + 1)), (6, .int s), (4, .int (nI 0)), (3, .ref (x 12)), (2, .ref (x 11)), (1, .int (nI p)), (0, .ref a)] 1 d_X9_worth_151 rfl rfl (by decide) rfl ?_
            refine z_goto d_X9_worth_154 ?_
            refine z_perm [0, 2, 3, 4, 5, 6] rfl ?_
            rw [exI_10 c_45 (Or.inl c_85)] at hs
            rw [nI_1]
            exact ih (j + 1) [] _ (by omega) hs (by simp only [List.length] at ht ⊢; omega) trivial
          · refine z_iload d_X9_worth_88 0 rfl ?_
            refine z_bipush (v := -15) d_X9_worth_90 (by decide) ?_
            refine z_icmp_ne d_X9_worth_92 (fun c_92 => ?_) (fun c_92 => ?_)
            · refine z_iload d_X9_worth_121 2 rfl ?_
              refine z_iconst (v := 2) d_X9_worth_123 (by decide) ?_
              refine z_icmp_lt d_X9_worth_124 (fun c_124 => ?_) (fun c_124 => ?_)
              rotate_left
              · exact absurd (show nI 0 < 2 by decide) c_124
              refine z_iinc ((nI (l0 + j)) + 1) [(5, .int ((nI (l0 + j)) + 1)), (6, .int s), (4, .int (nI 0)), (3, .ref (x 12)), (2, .ref (x 11)), (1, .int (nI p)), (0, .ref a)] 1 d_X9_worth_151 rfl rfl (by decide) rfl ?_
              refine z_goto d_X9_worth_154 ?_
              refine z_perm [0, 2, 3, 4, 5, 6] rfl ?_
              rw [exI_20 c_45 c_85 c_92] at hs
              rw [nI_1]
              exact ih (j + 1) [] _ (by omega) hs (by simp only [List.length] at ht ⊢; omega) trivial
            · refine z_iload d_X9_worth_95 2 rfl ?_
              refine z_iconst (v := 1) d_X9_worth_97 (by decide) ?_
              refine z_icmp_lt d_X9_worth_98 (fun c_98 => ?_) (fun c_98 => ?_)
              rotate_left
              · exact absurd (show nI 0 < 1 by decide) c_98
              refine z_iload d_X9_worth_121 2 rfl ?_
              refine z_iconst (v := 2) d_X9_worth_123 (by decide) ?_
              refine z_icmp_lt d_X9_worth_124 (fun c_124 => ?_) (fun c_124 => ?_)
              rotate_left
              · exact absurd (show nI 0 < 2 by decide) c_124
              refine z_iinc ((nI (l0 + j)) + 1) [(5, .int ((nI (l0 + j)) + 1)), (6, .int s), (4, .int (nI 0)), (3, .ref (x 12)), (2, .ref (x 11)), (1, .int (nI p)), (0, .ref a)] 1 d_X9_worth_151 rfl rfl (by decide) rfl ?_
              refine z_goto d_X9_worth_154 ?_
              refine z_perm [0, 2, 3, 4, 5, 6] rfl ?_
              rw [exI_10 c_45 (Or.inr c_92)] at hs
              rw [nI_1]
              exact ih (j + 1) [] _ (by omega) hs (by simp only [List.length] at ht ⊢; omega) trivial
        · refine z_iload d_X9_worth_48 2 rfl ?_
          refine z_aload_n d_X9_worth_50 3 rfl ?_
          refine z_alen (ty := .int) (12) 0 (160) rfl rfl rfl d_X9_worth_51 ?_
          refine z_icmp_ge d_X9_worth_52 (fun c_52 => ?_) (fun c_52 => ?_)
          · exact absurd (show nI (0) < 160 from (nI_ltI (b := 160) (by simp only [List.length] at ht; omega) (by decide)).mpr (by simp only [List.length] at ht; omega)) c_52
          refine z_aload_n d_X9_worth_55 3 rfl ?_
          refine z_iload d_X9_worth_56 2 rfl ?_
          refine z_iload d_X9_worth_58 0 rfl ?_
          refine z_if_lt d_X9_worth_60 (fun c_60 => ?_) (fun c_60 => ?_)
          · refine z_aload_n d_X9_worth_68 4 rfl ?_
            refine z_iconst (v := -1) d_X9_worth_69 (by decide) ?_
            refine z_iload d_X9_worth_70 0 rfl ?_
            refine z_isub d_X9_worth_72 ?_
            refine z_ialdN (11) ((-1 - s.toInt).toNat) rfl (name_ix c_45 c_60).1 (name_ix c_45 c_60).2 d_X9_worth_73 ?_
            refine z_iastN 12 0 (XW G x N R K r S (vf_upd T 3 (upd st 0 ((T 2) ((-1 - s.toInt).toNat)))) tl) rfl rfl (by simp only [List.length] at ht; omega) rfl d_X9_worth_74 ?_
            refine z_iinc (nI (0 + 1)) [(4, .int (nI (0 + 1))), (6, .int s), (5, .int (nI (l0 + j))), (3, .ref (x 12)), (2, .ref (x 11)), (1, .int (nI p)), (0, .ref a)] 2 d_X9_worth_75 rfl (nI_1 _) (by decide) rfl ?_
            refine z_goto d_X9_worth_78 ?_
            refine z_iinc ((nI (l0 + j)) + 1) [(5, .int ((nI (l0 + j)) + 1)), (4, .int (nI (0 + 1))), (6, .int s), (3, .ref (x 12)), (2, .ref (x 11)), (1, .int (nI p)), (0, .ref a)] 2 d_X9_worth_151 rfl rfl (by decide) rfl ?_
            refine z_goto d_X9_worth_154 ?_
            refine z_perm [0, 1, 3, 4, 5, 6] rfl ?_
            rw [exI_p c_45, if_neg (by rw [lt_i, i_0] at c_60; omega)] at hs
            rw [nI_1]
            exact ih (j + 1) ((T 2 (-1 - s.toInt).toNat) :: []) _ (by omega) hs (by simp only [List.length] at ht ⊢; omega) ⟨pk_us, StR_upd (Nat.le_refl _) hS⟩
          · refine z_iload d_X9_worth_63 0 rfl ?_
            refine z_goto d_X9_worth_65 ?_
            refine z_iastN 12 0 (XW G x N R K r S (vf_upd T 3 (upd st 0 s)) tl) rfl rfl (by simp only [List.length] at ht; omega) rfl d_X9_worth_74 ?_
            refine z_iinc (nI (0 + 1)) [(4, .int (nI (0 + 1))), (6, .int s), (5, .int (nI (l0 + j))), (3, .ref (x 12)), (2, .ref (x 11)), (1, .int (nI p)), (0, .ref a)] 2 d_X9_worth_75 rfl (nI_1 _) (by decide) rfl ?_
            refine z_goto d_X9_worth_78 ?_
            refine z_iinc ((nI (l0 + j)) + 1) [(5, .int ((nI (l0 + j)) + 1)), (4, .int (nI (0 + 1))), (6, .int s), (3, .ref (x 12)), (2, .ref (x 11)), (1, .int (nI p)), (0, .ref a)] 2 d_X9_worth_151 rfl rfl (by decide) rfl ?_
            refine z_goto d_X9_worth_154 ?_
            refine z_perm [0, 1, 3, 4, 5, 6] rfl ?_
            rw [exI_p c_45, if_pos (by rw [lt_i, i_0] at c_60; omega)] at hs
            rw [nI_1]
            exact ih (j + 1) (s :: []) _ (by omega) hs (by simp only [List.length] at ht ⊢; omega) ⟨pk_us, StR_upd (Nat.le_refl _) hS⟩
      · refine z_istore [(6, .int s), (5, .int (nI (l0 + j))), (4, .int (nI 1)), (3, .ref (x 12)), (2, .ref (x 11)), (1, .int (nI p)), (0, .ref a)] d_X9_worth_39 (by decide) rfl ?_
        refine z_iload d_X9_worth_41 0 rfl ?_
        refine z_bipush (v := -6) d_X9_worth_43 (by decide) ?_
        refine z_icmp_lt d_X9_worth_45 (fun c_45 => ?_) (fun c_45 => ?_)
        · refine z_iload d_X9_worth_81 0 rfl ?_
          refine z_bipush (v := -9) d_X9_worth_83 (by decide) ?_
          refine z_icmp_eq d_X9_worth_85 (fun c_85 => ?_) (fun c_85 => ?_)
          · refine z_iload d_X9_worth_95 2 rfl ?_
            refine z_iconst (v := 1) d_X9_worth_97 (by decide) ?_
            refine z_icmp_lt d_X9_worth_98 (fun c_98 => ?_) (fun c_98 => ?_)
            · exact absurd c_98 (by rw [lt_i, nI_i (by simp only [List.length] at ht; omega), i_1]; omega)
            refine z_aload_n d_X9_worth_101 3 rfl ?_
            refine z_iload d_X9_worth_102 2 rfl ?_
            refine z_iconst (v := 1) d_X9_worth_104 (by decide) ?_
            refine z_isub d_X9_worth_105 ?_
            refine z_iload d_X9_worth_106 0 rfl ?_
            refine z_aload_n d_X9_worth_108 3 rfl ?_
            refine z_iload d_X9_worth_109 2 rfl ?_
            refine z_iconst (v := 1) d_X9_worth_111 (by decide) ?_
            refine z_isub d_X9_worth_112 ?_
            refine z_ialdN (12) 0 rfl rfl (by decide) d_X9_worth_113 ?_
            refine z_callSp c_X9_22 (t_X9_ofOne G s (st 0) (XW G x N R K r S (vf_upd T 3 st) tl)) rfl rfl (Nat.le_of_ble_eq_true rfl) rfl d_X9_worth_114 ?_
            refine z_iastN 12 0 (XW G x N R K r S (vf_upd T 3 (upd st 0 (ex1 s (st 0)))) tl) rfl rfl (by decide) rfl d_X9_worth_117 ?_
            refine z_goto d_X9_worth_118 ?_
            refine z_iinc ((nI (l0 + j)) + 1) [(5, .int ((nI (l0 + j)) + 1)), (6, .int s), (4, .int (nI 1)), (3, .ref (x 12)), (2, .ref (x 11)), (1, .int (nI p)), (0, .ref a)] 1 d_X9_worth_151 rfl rfl (by decide) rfl ?_
            refine z_goto d_X9_worth_154 ?_
            refine z_perm [0, 2, 3, 4, 5, 6] rfl ?_
            rw [exI_1 c_45 (Or.inl c_85)] at hs
            rw [nI_1, show st 0 = z from hS.1]
            exact ih (j + 1) (ex1 s z :: []) _ (by omega) hs (by simp only [List.length] at ht ⊢; omega) ⟨pk_us, StR_upd (Nat.le_refl _) hS.2⟩
          · refine z_iload d_X9_worth_88 0 rfl ?_
            refine z_bipush (v := -15) d_X9_worth_90 (by decide) ?_
            refine z_icmp_ne d_X9_worth_92 (fun c_92 => ?_) (fun c_92 => ?_)
            · refine z_iload d_X9_worth_121 2 rfl ?_
              refine z_iconst (v := 2) d_X9_worth_123 (by decide) ?_
              refine z_icmp_lt d_X9_worth_124 (fun c_124 => ?_) (fun c_124 => ?_)
              rotate_left
              · exact absurd (show nI 1 < 2 by decide) c_124
              refine z_iinc ((nI (l0 + j)) + 1) [(5, .int ((nI (l0 + j)) + 1)), (6, .int s), (4, .int (nI 1)), (3, .ref (x 12)), (2, .ref (x 11)), (1, .int (nI p)), (0, .ref a)] 1 d_X9_worth_151 rfl rfl (by decide) rfl ?_
              refine z_goto d_X9_worth_154 ?_
              refine z_perm [0, 2, 3, 4, 5, 6] rfl ?_
              rw [exI_21 c_45 c_85 c_92] at hs
              rw [nI_1]
              exact ih (j + 1) [z] _ (by omega) hs (by simp only [List.length] at ht ⊢; omega) hS
            · refine z_iload d_X9_worth_95 2 rfl ?_
              refine z_iconst (v := 1) d_X9_worth_97 (by decide) ?_
              refine z_icmp_lt d_X9_worth_98 (fun c_98 => ?_) (fun c_98 => ?_)
              · exact absurd c_98 (by rw [lt_i, nI_i (by simp only [List.length] at ht; omega), i_1]; omega)
              refine z_aload_n d_X9_worth_101 3 rfl ?_
              refine z_iload d_X9_worth_102 2 rfl ?_
              refine z_iconst (v := 1) d_X9_worth_104 (by decide) ?_
              refine z_isub d_X9_worth_105 ?_
              refine z_iload d_X9_worth_106 0 rfl ?_
              refine z_aload_n d_X9_worth_108 3 rfl ?_
              refine z_iload d_X9_worth_109 2 rfl ?_
              refine z_iconst (v := 1) d_X9_worth_111 (by decide) ?_
              refine z_isub d_X9_worth_112 ?_
              refine z_ialdN (12) 0 rfl rfl (by decide) d_X9_worth_113 ?_
              refine z_callSp c_X9_22 (t_X9_ofOne G s (st 0) (XW G x N R K r S (vf_upd T 3 st) tl)) rfl rfl (Nat.le_of_ble_eq_true rfl) rfl d_X9_worth_114 ?_
              refine z_iastN 12 0 (XW G x N R K r S (vf_upd T 3 (upd st 0 (ex1 s (st 0)))) tl) rfl rfl (by decide) rfl d_X9_worth_117 ?_
              refine z_goto d_X9_worth_118 ?_
              refine z_iinc ((nI (l0 + j)) + 1) [(5, .int ((nI (l0 + j)) + 1)), (6, .int s), (4, .int (nI 1)), (3, .ref (x 12)), (2, .ref (x 11)), (1, .int (nI p)), (0, .ref a)] 1 d_X9_worth_151 rfl rfl (by decide) rfl ?_
              refine z_goto d_X9_worth_154 ?_
              refine z_perm [0, 2, 3, 4, 5, 6] rfl ?_
              rw [exI_1 c_45 (Or.inr c_92)] at hs
              rw [nI_1, show st 0 = z from hS.1]
              exact ih (j + 1) (ex1 s z :: []) _ (by omega) hs (by simp only [List.length] at ht ⊢; omega) ⟨pk_us, StR_upd (Nat.le_refl _) hS.2⟩
        · refine z_iload d_X9_worth_48 2 rfl ?_
          refine z_aload_n d_X9_worth_50 3 rfl ?_
          refine z_alen (ty := .int) (12) 0 (160) rfl rfl rfl d_X9_worth_51 ?_
          refine z_icmp_ge d_X9_worth_52 (fun c_52 => ?_) (fun c_52 => ?_)
          · exact absurd (show nI (1) < 160 from (nI_ltI (b := 160) (by simp only [List.length] at ht; omega) (by decide)).mpr (by simp only [List.length] at ht; omega)) c_52
          refine z_aload_n d_X9_worth_55 3 rfl ?_
          refine z_iload d_X9_worth_56 2 rfl ?_
          refine z_iload d_X9_worth_58 0 rfl ?_
          refine z_if_lt d_X9_worth_60 (fun c_60 => ?_) (fun c_60 => ?_)
          · refine z_aload_n d_X9_worth_68 4 rfl ?_
            refine z_iconst (v := -1) d_X9_worth_69 (by decide) ?_
            refine z_iload d_X9_worth_70 0 rfl ?_
            refine z_isub d_X9_worth_72 ?_
            refine z_ialdN (11) ((-1 - s.toInt).toNat) rfl (name_ix c_45 c_60).1 (name_ix c_45 c_60).2 d_X9_worth_73 ?_
            refine z_iastN 12 1 (XW G x N R K r S (vf_upd T 3 (upd st 1 ((T 2) ((-1 - s.toInt).toNat)))) tl) rfl rfl (by simp only [List.length] at ht; omega) rfl d_X9_worth_74 ?_
            refine z_iinc (nI (1 + 1)) [(4, .int (nI (1 + 1))), (6, .int s), (5, .int (nI (l0 + j))), (3, .ref (x 12)), (2, .ref (x 11)), (1, .int (nI p)), (0, .ref a)] 2 d_X9_worth_75 rfl (nI_1 _) (by decide) rfl ?_
            refine z_goto d_X9_worth_78 ?_
            refine z_iinc ((nI (l0 + j)) + 1) [(5, .int ((nI (l0 + j)) + 1)), (4, .int (nI (1 + 1))), (6, .int s), (3, .ref (x 12)), (2, .ref (x 11)), (1, .int (nI p)), (0, .ref a)] 2 d_X9_worth_151 rfl rfl (by decide) rfl ?_
            refine z_goto d_X9_worth_154 ?_
            refine z_perm [0, 1, 3, 4, 5, 6] rfl ?_
            rw [exI_p c_45, if_neg (by rw [lt_i, i_0] at c_60; omega)] at hs
            rw [nI_1]
            exact ih (j + 1) ((T 2 (-1 - s.toInt).toNat) :: [z]) _ (by omega) hs (by simp only [List.length] at ht ⊢; omega) ⟨pk_us, StR_upd (Nat.le_refl _) hS⟩
          · refine z_iload d_X9_worth_63 0 rfl ?_
            refine z_goto d_X9_worth_65 ?_
            refine z_iastN 12 1 (XW G x N R K r S (vf_upd T 3 (upd st 1 s)) tl) rfl rfl (by simp only [List.length] at ht; omega) rfl d_X9_worth_74 ?_
            refine z_iinc (nI (1 + 1)) [(4, .int (nI (1 + 1))), (6, .int s), (5, .int (nI (l0 + j))), (3, .ref (x 12)), (2, .ref (x 11)), (1, .int (nI p)), (0, .ref a)] 2 d_X9_worth_75 rfl (nI_1 _) (by decide) rfl ?_
            refine z_goto d_X9_worth_78 ?_
            refine z_iinc ((nI (l0 + j)) + 1) [(5, .int ((nI (l0 + j)) + 1)), (4, .int (nI (1 + 1))), (6, .int s), (3, .ref (x 12)), (2, .ref (x 11)), (1, .int (nI p)), (0, .ref a)] 2 d_X9_worth_151 rfl rfl (by decide) rfl ?_
            refine z_goto d_X9_worth_154 ?_
            refine z_perm [0, 1, 3, 4, 5, 6] rfl ?_
            rw [exI_p c_45, if_pos (by rw [lt_i, i_0] at c_60; omega)] at hs
            rw [nI_1]
            exact ih (j + 1) (s :: [z]) _ (by omega) hs (by simp only [List.length] at ht ⊢; omega) ⟨pk_us, StR_upd (Nat.le_refl _) hS⟩
      · refine z_istore [(6, .int s), (5, .int (nI (l0 + j))), (4, .int (nI (rr.length + 2))), (3, .ref (x 12)), (2, .ref (x 11)), (1, .int (nI p)), (0, .ref a)] d_X9_worth_39 (by decide) rfl ?_
        refine z_iload d_X9_worth_41 0 rfl ?_
        refine z_bipush (v := -6) d_X9_worth_43 (by decide) ?_
        refine z_icmp_lt d_X9_worth_45 (fun c_45 => ?_) (fun c_45 => ?_)
        · refine z_iload d_X9_worth_81 0 rfl ?_
          refine z_bipush (v := -9) d_X9_worth_83 (by decide) ?_
          refine z_icmp_eq d_X9_worth_85 (fun c_85 => ?_) (fun c_85 => ?_)
          · refine z_iload d_X9_worth_95 2 rfl ?_
            refine z_iconst (v := 1) d_X9_worth_97 (by decide) ?_
            refine z_icmp_lt d_X9_worth_98 (fun c_98 => ?_) (fun c_98 => ?_)
            · exact absurd c_98 (by rw [lt_i, nI_i (by simp only [List.length] at ht; omega), i_1]; omega)
            refine z_aload_n d_X9_worth_101 3 rfl ?_
            refine z_iload d_X9_worth_102 2 rfl ?_
            refine z_iconst (v := 1) d_X9_worth_104 (by decide) ?_
            refine z_isub d_X9_worth_105 ?_
            refine z_iload d_X9_worth_106 0 rfl ?_
            refine z_aload_n d_X9_worth_108 3 rfl ?_
            refine z_iload d_X9_worth_109 2 rfl ?_
            refine z_iconst (v := 1) d_X9_worth_111 (by decide) ?_
            refine z_isub d_X9_worth_112 ?_
            refine z_ialdN (12) (rr.length + 1) rfl (by rw [nI_pred, nI_i (by simp only [List.length] at ht; omega)]) (by simp only [List.length] at ht; omega) d_X9_worth_113 ?_
            refine z_callSp c_X9_22 (t_X9_ofOne G s (st (rr.length + 1)) (XW G x N R K r S (vf_upd T 3 st) tl)) rfl rfl (Nat.le_of_ble_eq_true rfl) rfl d_X9_worth_114 ?_
            refine z_iastN 12 (rr.length + 1) (XW G x N R K r S (vf_upd T 3 (upd st (rr.length + 1) (ex1 s (st (rr.length + 1))))) tl) rfl (by rw [nI_pred, nI_i (by simp only [List.length] at ht; omega)]) (by simp only [List.length] at ht; omega) rfl d_X9_worth_117 ?_
            refine z_goto d_X9_worth_118 ?_
            refine z_iinc ((nI (l0 + j)) + 1) [(5, .int ((nI (l0 + j)) + 1)), (6, .int s), (4, .int (nI (rr.length + 2))), (3, .ref (x 12)), (2, .ref (x 11)), (1, .int (nI p)), (0, .ref a)] 1 d_X9_worth_151 rfl rfl (by decide) rfl ?_
            refine z_goto d_X9_worth_154 ?_
            refine z_perm [0, 2, 3, 4, 5, 6] rfl ?_
            rw [exI_1 c_45 (Or.inl c_85)] at hs
            rw [nI_1, show st (rr.length + 1) = z from hS.1]
            exact ih (j + 1) (ex1 s z :: y :: rr) _ (by omega) hs (by simp only [List.length] at ht ⊢; omega) ⟨pk_us, StR_upd (Nat.le_refl _) hS.2⟩
          · refine z_iload d_X9_worth_88 0 rfl ?_
            refine z_bipush (v := -15) d_X9_worth_90 (by decide) ?_
            refine z_icmp_ne d_X9_worth_92 (fun c_92 => ?_) (fun c_92 => ?_)
            · refine z_iload d_X9_worth_121 2 rfl ?_
              refine z_iconst (v := 2) d_X9_worth_123 (by decide) ?_
              refine z_icmp_lt d_X9_worth_124 (fun c_124 => ?_) (fun c_124 => ?_)
              · exact absurd c_124 (by rw [lt_i, nI_i (by simp only [List.length] at ht; omega), i_2]; omega)
              refine z_iinc ((nI (rr.length + 2)) - 1) [(4, .int ((nI (rr.length + 2)) - 1)), (6, .int s), (5, .int (nI (l0 + j))), (3, .ref (x 12)), (2, .ref (x 11)), (1, .int (nI p)), (0, .ref a)] 2 d_X9_worth_127 rfl (z_subc _) (by decide) rfl ?_
              refine z_aload_n d_X9_worth_130 3 rfl ?_
              refine z_iload d_X9_worth_131 0 rfl ?_
              refine z_iconst (v := 1) d_X9_worth_133 (by decide) ?_
              refine z_isub d_X9_worth_134 ?_
              refine z_iload d_X9_worth_135 1 rfl ?_
              refine z_aload_n d_X9_worth_137 3 rfl ?_
              refine z_iload d_X9_worth_138 0 rfl ?_
              refine z_iconst (v := 1) d_X9_worth_140 (by decide) ?_
              refine z_isub d_X9_worth_141 ?_
              refine z_ialdN (12) rr.length rfl (by rw [nI_pred, nI_pred, nI_i (by simp only [List.length] at ht; omega)]) (by simp only [List.length] at ht; omega) d_X9_worth_142 ?_
              refine z_aload_n d_X9_worth_143 3 rfl ?_
              refine z_iload d_X9_worth_144 0 rfl ?_
              refine z_ialdN (12) (rr.length + 1) rfl (by rw [nI_pred, nI_i (by simp only [List.length] at ht; omega)]) (by simp only [List.length] at ht; omega) d_X9_worth_146 ?_
              refine z_callSp c_X9_26 (t_X9_ofTwo G s (st rr.length) (st (rr.length + 1)) (XW G x N R K r S (vf_upd T 3 st) tl)) rfl rfl (Nat.le_of_ble_eq_true rfl) rfl d_X9_worth_147 ?_
              refine z_iastN 12 rr.length (XW G x N R K r S (vf_upd T 3 (upd st rr.length (ex2 s (st rr.length) (st (rr.length + 1))))) tl) rfl (by rw [nI_pred, nI_pred, nI_i (by simp only [List.length] at ht; omega)]) (by simp only [List.length] at ht; omega) rfl d_X9_worth_150 ?_
              refine z_iinc ((nI (l0 + j)) + 1) [(5, .int ((nI (l0 + j)) + 1)), (4, .int ((nI (rr.length + 2)) - 1)), (6, .int s), (3, .ref (x 12)), (2, .ref (x 11)), (1, .int (nI p)), (0, .ref a)] 2 d_X9_worth_151 rfl rfl (by decide) rfl ?_
              refine z_goto d_X9_worth_154 ?_
              refine z_perm [0, 1, 3, 4, 5, 6] rfl ?_
              rw [exI_2 c_45 c_85 c_92] at hs
              rw [nI_1, nI_pred, show st rr.length = y from hS.2.1, show st (rr.length + 1) = z from hS.1]
              exact ih (j + 1) (ex2 s y z :: rr) _ (by omega) hs (by simp only [List.length] at ht ⊢; omega) ⟨pk_us, StR_upd (Nat.le_refl _) hS.2.2⟩
            · refine z_iload d_X9_worth_95 2 rfl ?_
              refine z_iconst (v := 1) d_X9_worth_97 (by decide) ?_
              refine z_icmp_lt d_X9_worth_98 (fun c_98 => ?_) (fun c_98 => ?_)
              · exact absurd c_98 (by rw [lt_i, nI_i (by simp only [List.length] at ht; omega), i_1]; omega)
              refine z_aload_n d_X9_worth_101 3 rfl ?_
              refine z_iload d_X9_worth_102 2 rfl ?_
              refine z_iconst (v := 1) d_X9_worth_104 (by decide) ?_
              refine z_isub d_X9_worth_105 ?_
              refine z_iload d_X9_worth_106 0 rfl ?_
              refine z_aload_n d_X9_worth_108 3 rfl ?_
              refine z_iload d_X9_worth_109 2 rfl ?_
              refine z_iconst (v := 1) d_X9_worth_111 (by decide) ?_
              refine z_isub d_X9_worth_112 ?_
              refine z_ialdN (12) (rr.length + 1) rfl (by rw [nI_pred, nI_i (by simp only [List.length] at ht; omega)]) (by simp only [List.length] at ht; omega) d_X9_worth_113 ?_
              refine z_callSp c_X9_22 (t_X9_ofOne G s (st (rr.length + 1)) (XW G x N R K r S (vf_upd T 3 st) tl)) rfl rfl (Nat.le_of_ble_eq_true rfl) rfl d_X9_worth_114 ?_
              refine z_iastN 12 (rr.length + 1) (XW G x N R K r S (vf_upd T 3 (upd st (rr.length + 1) (ex1 s (st (rr.length + 1))))) tl) rfl (by rw [nI_pred, nI_i (by simp only [List.length] at ht; omega)]) (by simp only [List.length] at ht; omega) rfl d_X9_worth_117 ?_
              refine z_goto d_X9_worth_118 ?_
              refine z_iinc ((nI (l0 + j)) + 1) [(5, .int ((nI (l0 + j)) + 1)), (6, .int s), (4, .int (nI (rr.length + 2))), (3, .ref (x 12)), (2, .ref (x 11)), (1, .int (nI p)), (0, .ref a)] 1 d_X9_worth_151 rfl rfl (by decide) rfl ?_
              refine z_goto d_X9_worth_154 ?_
              refine z_perm [0, 2, 3, 4, 5, 6] rfl ?_
              rw [exI_1 c_45 (Or.inr c_92)] at hs
              rw [nI_1, show st (rr.length + 1) = z from hS.1]
              exact ih (j + 1) (ex1 s z :: y :: rr) _ (by omega) hs (by simp only [List.length] at ht ⊢; omega) ⟨pk_us, StR_upd (Nat.le_refl _) hS.2⟩
        · refine z_iload d_X9_worth_48 2 rfl ?_
          refine z_aload_n d_X9_worth_50 3 rfl ?_
          refine z_alen (ty := .int) (12) 0 (160) rfl rfl rfl d_X9_worth_51 ?_
          refine z_icmp_ge d_X9_worth_52 (fun c_52 => ?_) (fun c_52 => ?_)
          · exact absurd (show nI (rr.length + 2) < 160 from (nI_ltI (b := 160) (by simp only [List.length] at ht; omega) (by decide)).mpr (by simp only [List.length] at ht; omega)) c_52
          refine z_aload_n d_X9_worth_55 3 rfl ?_
          refine z_iload d_X9_worth_56 2 rfl ?_
          refine z_iload d_X9_worth_58 0 rfl ?_
          refine z_if_lt d_X9_worth_60 (fun c_60 => ?_) (fun c_60 => ?_)
          · refine z_aload_n d_X9_worth_68 4 rfl ?_
            refine z_iconst (v := -1) d_X9_worth_69 (by decide) ?_
            refine z_iload d_X9_worth_70 0 rfl ?_
            refine z_isub d_X9_worth_72 ?_
            refine z_ialdN (11) ((-1 - s.toInt).toNat) rfl (name_ix c_45 c_60).1 (name_ix c_45 c_60).2 d_X9_worth_73 ?_
            refine z_iastN 12 (rr.length + 2) (XW G x N R K r S (vf_upd T 3 (upd st (rr.length + 2) ((T 2) ((-1 - s.toInt).toNat)))) tl) rfl (by rw [nI_i (by simp only [List.length] at ht; omega)]) (by simp only [List.length] at ht; omega) rfl d_X9_worth_74 ?_
            refine z_iinc ((nI (rr.length + 2)) + 1) [(4, .int ((nI (rr.length + 2)) + 1)), (6, .int s), (5, .int (nI (l0 + j))), (3, .ref (x 12)), (2, .ref (x 11)), (1, .int (nI p)), (0, .ref a)] 2 d_X9_worth_75 rfl rfl (by decide) rfl ?_
            refine z_goto d_X9_worth_78 ?_
            refine z_iinc ((nI (l0 + j)) + 1) [(5, .int ((nI (l0 + j)) + 1)), (4, .int ((nI (rr.length + 2)) + 1)), (6, .int s), (3, .ref (x 12)), (2, .ref (x 11)), (1, .int (nI p)), (0, .ref a)] 2 d_X9_worth_151 rfl rfl (by decide) rfl ?_
            refine z_goto d_X9_worth_154 ?_
            refine z_perm [0, 1, 3, 4, 5, 6] rfl ?_
            rw [exI_p c_45, if_neg (by rw [lt_i, i_0] at c_60; omega)] at hs
            rw [nI_1, nI_1]
            exact ih (j + 1) ((T 2 (-1 - s.toInt).toNat) :: z :: y :: rr) _ (by omega) hs (by simp only [List.length] at ht ⊢; omega) ⟨pk_us, StR_upd (Nat.le_refl _) hS⟩
          · refine z_iload d_X9_worth_63 0 rfl ?_
            refine z_goto d_X9_worth_65 ?_
            refine z_iastN 12 (rr.length + 2) (XW G x N R K r S (vf_upd T 3 (upd st (rr.length + 2) s)) tl) rfl (by rw [nI_i (by simp only [List.length] at ht; omega)]) (by simp only [List.length] at ht; omega) rfl d_X9_worth_74 ?_
            refine z_iinc ((nI (rr.length + 2)) + 1) [(4, .int ((nI (rr.length + 2)) + 1)), (6, .int s), (5, .int (nI (l0 + j))), (3, .ref (x 12)), (2, .ref (x 11)), (1, .int (nI p)), (0, .ref a)] 2 d_X9_worth_75 rfl rfl (by decide) rfl ?_
            refine z_goto d_X9_worth_78 ?_
            refine z_iinc ((nI (l0 + j)) + 1) [(5, .int ((nI (l0 + j)) + 1)), (4, .int ((nI (rr.length + 2)) + 1)), (6, .int s), (3, .ref (x 12)), (2, .ref (x 11)), (1, .int (nI p)), (0, .ref a)] 2 d_X9_worth_151 rfl rfl (by decide) rfl ?_
            refine z_goto d_X9_worth_154 ?_
            refine z_perm [0, 1, 3, 4, 5, 6] rfl ?_
            rw [exI_p c_45, if_pos (by rw [lt_i, i_0] at c_60; omega)] at hs
            rw [nI_1, nI_1]
            exact ih (j + 1) (s :: z :: y :: rr) _ (by omega) hs (by simp only [List.length] at ht ⊢; omega) ⟨pk_us, StR_upd (Nat.le_refl _) hS⟩
theorem vf_id (T : Nat → Nat → Int32) : vf_upd T 3 (T 3) = T := vf_self T 3
set_option maxHeartbeats 4000000 in
theorem t_X9_worth (G : GT) (x : Nat → Nat) (N : Nat → Int32) (R : Nat → Nat → Int32) (K : Nat → Nat → Option Nat) (r : Nat → Nat) (S : Nat → Int32) (T : Nat → Nat → Int32) (tl : va_W) (cd : CD) (num : Int32) (a : Nat) (hR : TxR G cd num a tl) (p : Nat) (hp : p < 3) : Ct G mX9_worth 2 0 0 [.ref a, .int (nI p), .ref (x 11), .ref (x 12)] (XW G x N R K r S T tl) (Px G x N R K r S tl (some (.int (vOf (T 2) (pt cd p))))) := by
  obtain ⟨q, q1, q2, c, e, f, g, hq, hq1, hq2, hL, hpp⟩ := hR
  have hE : ∀ v w, (v = some (.int (vOf (T 2) (pt cd p))) ∧ ∃ st', w = XW G x N R K r S (vf_upd T 3 st') tl) → Px G x N R K r S tl (some (.int (vOf (T 2) (pt cd p)))) v w := fun v w h => ⟨h.1, _, h.2.choose_spec⟩
  refine Ct.mono ?_ hE
  refine Ct.intro [(0, .ref a), (1, .int (nI p)), (2, .ref (x 11)), (3, .ref (x 12))] (by decide) rfl (Nat.le_of_ble_eq_true rfl) ?_
  refine z_iconst (v := 0) d_X9_worth_0 (by decide) ?_
  refine z_istore [(4, .int 0), (0, .ref a), (1, .int (nI p)), (2, .ref (x 11)), (3, .ref (x 12))] d_X9_worth_1 (by decide) rfl ?_
  refine z_iload_n d_X9_worth_3 2 rfl ?_
  refine z_if_ne d_X9_worth_4 (fun c_4 => ?_) (fun c_4 => ?_)
  · have hp0 : ¬ p = 0 := fun e9 => c_4 (by rw [e9]; rfl)
    have hp1 : (nI p - 1).toInt = ((p - 1 : Nat) : Int) := by rw [sub_i (by rw [nI_i (by omega), i_1]; omega) (by rw [nI_i (by omega), i_1]; omega), nI_i (by omega), i_1]; omega
    refine z_aload_n d_X9_worth_11 1 rfl ?_
    refine z_get (v := .ref e) (q + 31) f_X9_19_9 hq rfl d_X9_worth_12 ?_
    refine z_iload_n d_X9_worth_15 2 rfl ?_
    refine z_iconst (v := 1) d_X9_worth_16 (by decide) ?_
    refine z_isub d_X9_worth_17 ?_
    refine z_ialdN (q2 + 31) (p - 1) hq2 hp1 (by omega) d_X9_worth_18 ?_
    have e8 : g (p - 1) = nI (lo cd p + 0) := by rw [(hpp (p - 1) (by omega)).1, lo_s cd (by omega), show p - 1 + 1 = p by omega]; rfl
    refine z_top e8 ?_
    refine z_istore [(5, .int (nI (lo cd p + 0))), (4, .int 0), (0, .ref a), (1, .int (nI p)), (2, .ref (x 11)), (3, .ref (x 12))] d_X9_worth_19 (by decide) rfl ?_
    refine z_perm [0, 1, 5, 4, 3, 2] rfl ?_
    rw [show XW G x N R K r S T tl = XW G x N R K r S (vf_upd T 3 (T 3)) tl from by rw [vf_id]]
    exact l_X9_worth G x N R K r S T tl q q1 q2 a c e num (cdL cd) f g hq hq1 hq2 hL p (lo cd p) (pt cd p) hp (hpp p hp).1 (lo_le cd hp) (hpp p hp).2.1 (hpp p hp).2.2 ((pt cd p).length + 1) 0 [] (T 3) (by omega) rfl ⟨by simp, by omega⟩ trivial
  · refine z_iconst (v := 0) d_X9_worth_7 (by decide) ?_
    have hp0 : p = 0 := by rw [show (0 : Int32) = nI 0 from rfl, nI_eq (by omega) (by decide)] at c_4; exact c_4
    have e9 : lo cd p = 0 := by rw [hp0]; rfl
    refine z_goto d_X9_worth_8 ?_
    have e8 : (0 : Int32) = nI (lo cd p + 0) := by rw [e9]; rfl
    refine z_top e8 ?_
    refine z_istore [(5, .int (nI (lo cd p + 0))), (4, .int 0), (0, .ref a), (1, .int (nI p)), (2, .ref (x 11)), (3, .ref (x 12))] d_X9_worth_19 (by decide) rfl ?_
    refine z_perm [0, 1, 5, 4, 3, 2] rfl ?_
    rw [show XW G x N R K r S T tl = XW G x N R K r S (vf_upd T 3 (T 3)) tl from by rw [vf_id]]
    exact l_X9_worth G x N R K r S T tl q q1 q2 a c e num (cdL cd) f g hq hq1 hq2 hL p (lo cd p) (pt cd p) hp (hpp p hp).1 (lo_le cd hp) (hpp p hp).2.1 (hpp p hp).2.2 ((pt cd p).length + 1) 0 [] (T 3) (by omega) rfl ⟨by simp, by omega⟩ trivial
