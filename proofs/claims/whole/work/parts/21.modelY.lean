/-! THE REFERENCE: best, build, taken -/
theorem TxOk.la {I : Nat → Int32} {A : Nat → Nat → Int32} {s : Nat} {k w v : Int32} {t : Nat} {cd : CD} (h : TxOk A t cd) : TxOk (laA I A s k w v) t cd := h
theorem frR_clear (th : Int32) : ∀ n k, frR th n k < k + n → ¬ th >>> (nI (frR th n k) &&& 31) &&& 1 = 1
  | 0, k, h => by unfold frR at h; omega
  | n + 1, k, h => by
    unfold frR at h ⊢
    by_cases hb : th >>> (nI k &&& 31) &&& 1 = 1
    · rw [if_pos hb] at h ⊢
      exact frR_clear th n (k + 1) (by omega)
    · rw [if_neg hb]; exact hb
theorem frN_clear {th : Int32} (h : frN th < 16) : bt th (frN th) = false := by
  have h1 := frR_clear th 16 0 (by unfold frN at h; omega)
  cases hc : bt th (frN th) with
  | false => rfl
  | true => exact absurd ((sb1 (by omega)).mpr hc) h1
theorem la_back {I : Nat → Int32} {s : Nat} (hs : s < 16) (h : bt (I 12) s = false) : upd (laI I s) 12 (laI I s 12 &&& (1 <<< (nI s &&& 31) ^^^ (-1))) = I := by
  have e : laI I s 12 &&& (1 <<< (nI s &&& 31) ^^^ (-1)) = I 12 := by
    show (I 12 ||| 1 <<< (nI s &&& 31)) &&& (1 <<< (nI s &&& 31) ^^^ (-1)) = I 12
    apply b_ext
    intro i hi
    rw [b_and, b_or, b_not _ hi, b_bit (by omega) hi]
    by_cases h1 : i = s
    · rw [h1, h, decide_eq_true rfl]; rfl
    · rw [decide_eq_false h1]; simp
  rw [e]
  exact upd_back I 12 _
def beA (I : Nat → Int32) (A : Nat → Nat → Int32) (s : Nat) (kd v many : Int32) (q : Nat) : Nat → Nat → Int32 := itL (fun j B => if okW (whS j many) = true then laA I B s kd (whS j many) v else B) A q
def beP (cd : CD) (I : Nat → Int32) (A : Nat → Nat → Int32) (s : Nat) (kd v many : Int32) (q : Nat) : Int32 × Int32 := itL (bsF (fun j => okW (whS j many)) (fun j => whS j many) (fun j => lhS cd (laI I s) (laA I (beA I A s kd v many j) s kd (whS j many) v))) (-1, 0) q
theorem beP_s (cd : CD) (I : Nat → Int32) (A : Nat → Nat → Int32) (s : Nat) (kd v many : Int32) (q : Nat) : beP cd I A s kd v many (q + 1) = bsF (fun j => okW (whS j many)) (fun j => whS j many) (fun j => lhS cd (laI I s) (laA I (beA I A s kd v many j) s kd (whS j many) v)) q (beP cd I A s kd v many q) := rfl
theorem bsF_t {ok : Nat → Bool} {wh v : Nat → Int32} {k : Nat} {a : Int32 × Int32} (h : ok k = true) : bsF ok wh v k a = if a.1 = -1 then (wh k, v k) else if a.2 < v k then (wh k, v k) else a := if_pos h
theorem bsF_f {ok : Nat → Bool} {wh v : Nat → Int32} {k : Nat} {a : Int32 × Int32} (h : ¬ ok k = true) : bsF ok wh v k a = a := if_neg h
theorem beP_new {cd : CD} {I : Nat → Int32} {A Aq : Nat → Nat → Int32} {s : Nat} {kd v many : Int32} {q : Nat} {a1 a2 x : Int32} (hA : Aq = beA I A s kd v many q) (ha : (a1, a2) = beP cd I A s kd v many q) (ho : okW (whS q many) = true) (hx : lhS cd (laI I s) (laA I Aq s kd (whS q many) v) = x) : beP cd I A s kd v many (q + 1) = if a1 = -1 then (whS q many, x) else if a2 < x then (whS q many, x) else (a1, a2) := by
  subst hA
  subst hx
  rw [beP_s, ← ha]
  exact bsF_t ho
theorem beP_old {cd : CD} {I : Nat → Int32} {A : Nat → Nat → Int32} {s : Nat} {kd v many : Int32} {q : Nat} {a1 a2 : Int32} (ha : (a1, a2) = beP cd I A s kd v many q) (ho : ¬ okW (whS q many) = true) : (a1, a2) = beP cd I A s kd v many (q + 1) := by
  rw [beP_s, ← ha]
  exact (bsF_f ho).symm
theorem beA_new {I : Nat → Int32} {A Aq : Nat → Nat → Int32} {s : Nat} {kd v many : Int32} {q : Nat} (hA : Aq = beA I A s kd v many q) (ho : okW (whS q many) = true) : laA I Aq s kd (whS q many) v = beA I A s kd v many (q + 1) := by
  subst hA
  exact (if_pos ho).symm
theorem beA_old {I : Nat → Int32} {A Aq : Nat → Nat → Int32} {s : Nat} {kd v many : Int32} {q : Nat} (hA : Aq = beA I A s kd v many q) (ho : ¬ okW (whS q many) = true) : Aq = beA I A s kd v many (q + 1) := by
  subst hA
  exact (if_neg ho).symm
def beO (kd v many what : Int32) : Bool := inB kd 0 5 && (inB v 0 9 && (inB many 1 5 && inB what 0 1))
def besR (cd : CD) (I : Nat → Int32) (A : Nat → Nat → Int32) (kd v many what : Int32) : Int32 := if beO kd v many what = true then (if nI (frN (I 12)) = 16 then -4 else sel2 what (beP cd I A (frN (I 12)) kd v many 50)) else -2
def besA (I : Nat → Int32) (A : Nat → Nat → Int32) (kd v many what : Int32) : Nat → Nat → Int32 := if (beO kd v many what && !decide (nI (frN (I 12)) = 16)) = true then beA I A (frN (I 12)) kd v many 50 else A
set_option maxHeartbeats 4000000 in
set_option maxRecDepth 100000 in
theorem l_X12_best (G : GT) (b : Nat → Nat) (I : Nat → Int32) (A : Nat → Nat → Int32) (t : Nat) (cd : CD) (hT : TxOk A t cd) (h4 : I 4 = nI t) (s : Nat) (kd v many what : Int32) (hs : s < 16) (hfree : bt (I 12) s = false) : ∀ (n : Nat)  (q : Nat) (Aq : Nat → Nat → Int32) (J : Nat → Int32) (tw : Int64) (a1 a2 : Int32) (hk : q ≤ 50) (hm : 50 < q + n) (hTq : TxOk Aq t cd) (hA : Aq = beA I A s kd v many q) (ha : (a1, a2) = beP cd I A s kd v many q), Tr G mX12_best (Rm 44 0 0) (OM G (Pj G b (sel2 what (beP cd I A s kd v many 50)) I (beA I A s kd v many 50)) 0 0) 0 0 75 [(8, .int (nI q)), (7, .int a2), (6, .int a1), (5, .int (nI s)), (4, .int what), (3, .int many), (2, .int v), (1, .int kd), (0, .ref (b 0))] [] (MW G b I Aq J tw) := by
  intro n
  induction n with
  | zero =>
    intro q Aq J tw a1 a2 hk hm hTq hA ha
    exact absurd hm (by omega)
  | succ n ih =>
    intro q Aq J tw a1 a2 hk hm hTq hA ha
    refine z_iload d_X12_best_75 0 rfl ?_
    refine z_bipush (v := 50) d_X12_best_77 (by decide) ?_
    refine z_icmp_ge d_X12_best_79 (fun c_79 => ?_) (fun c_79 => ?_)
    · refine z_iload d_X12_best_162 4 rfl ?_
      refine z_if_ne d_X12_best_164 (fun c_164 => ?_) (fun c_164 => ?_)
      · refine z_iload d_X12_best_172 1 rfl ?_
        exact z_iret _ d_X12_best_174 rfl (Pj.ofw (by have h9 := ge_nI (N := 50) (by omega) (by decide) c_79; rw [← show q = 50 by omega, ← ha, sel2]; simp only [c_164, ↓reduceIte]) rfl (by have h9 := ge_nI (N := 50) (by omega) (by decide) c_79; rw [hA, show q = 50 by omega]))
      · refine z_iload d_X12_best_167 2 rfl ?_
        refine z_goto d_X12_best_169 ?_
        exact z_iret _ d_X12_best_174 rfl (Pj.ofw (by have h9 := ge_nI (N := 50) (by omega) (by decide) c_79; rw [← show q = 50 by omega, ← ha, sel2]; simp only [c_164, ↓reduceIte]) rfl (by have h9 := ge_nI (N := 50) (by omega) (by decide) c_79; rw [hA, show q = 50 by omega]))
    · have h9 := lt_nI (N := 50) (by omega) (by decide) c_79
      refine z_iload d_X12_best_82 0 rfl ?_
      refine z_iload_n d_X12_best_84 5 rfl ?_
      refine z_callSp c_X12_312 (t_X12_where G q many (MW G b I Aq J tw)) rfl rfl (Nat.le_of_ble_eq_true rfl) rfl d_X12_best_85 ?_
      refine z_istore [(9, .int (whS q many)), (8, .int (nI q)), (7, .int a2), (6, .int a1), (5, .int (nI s)), (4, .int what), (3, .int many), (2, .int v), (1, .int kd), (0, .ref (b 0))] d_X12_best_88 (by decide) rfl ?_
      refine z_iload d_X12_best_90 0 rfl ?_
      refine z_callSp c_X12_102 (t_X12_isWhere G (whS q many) (MW G b I Aq J tw)) rfl rfl (Nat.le_of_ble_eq_true rfl) rfl d_X12_best_92 ?_
      refine z_if_ne d_X12_best_95 (fun c_95 => ?_) (fun c_95 => ?_)
      · refine z_aload_n d_X12_best_101 9 rfl ?_
        refine z_iload d_X12_best_102 4 rfl ?_
        refine z_iload_n d_X12_best_104 8 rfl ?_
        refine z_iload d_X12_best_105 0 rfl ?_
        refine z_iload_n d_X12_best_107 7 rfl ?_
        refine z_callVv 0 c_X12_112 (t_X12_lays G b I Aq J tw s kd (whS q many) v (by omega)) rfl rfl rfl rfl (Nat.le_of_ble_eq_true rfl) rfl d_X12_best_108 ?_
        refine z_aload_n d_X12_best_111 9 rfl ?_
        refine z_callV 0 c_X12_318 rfl rfl (t_X12_leastHold G b (laI I s) (laA I Aq s kd (whS q many) v) J tw t cd hTq.la h4) rfl rfl (Nat.le_of_ble_eq_true rfl) rfl d_X12_best_112 ?_
        rintro v112 w112 ⟨rfl, J112, tw112, rfl⟩
        generalize hx112 : lhS cd (laI I s) (laA I Aq s kd (whS q many) v) = x112
        refine z_istore [(10, .int x112), (9, .int (whS q many)), (8, .int (nI q)), (7, .int a2), (6, .int a1), (5, .int (nI s)), (4, .int what), (3, .int many), (2, .int v), (1, .int kd), (0, .ref (b 0))] d_X12_best_115 (by decide) rfl ?_
        refine z_aload_n d_X12_best_117 10 rfl ?_
        refine z_dup d_X12_best_118 rfl ?_
        refine z_get (v := .int ((laI I s) 12)) 0 f_X12_90_12 rfl rfl d_X12_best_119 ?_
        refine z_iconst (v := 1) d_X12_best_122 (by decide) ?_
        refine z_iload d_X12_best_123 5 rfl ?_
        refine z_ishl d_X12_best_125 ?_
        refine z_iconst (v := -1) d_X12_best_126 (by decide) ?_
        refine z_ixor d_X12_best_127 ?_
        refine z_iand d_X12_best_128 ?_
        refine z_put 0 (MW G b (upd (laI I s) 12 (((laI I s) 12) &&& ((1 <<< ((nI s) &&& 31)) ^^^ (-1)))) (laA I Aq s kd (whS q many) v) J112 tw112) p_X12_90_12 rfl rfl rfl (Nat.le_of_ble_eq_true rfl) (mw_12 G b (laI I s) (laA I Aq s kd (whS q many) v) J112 tw112 _) d_X12_best_129 ?_
        refine z_iload d_X12_best_132 4 rfl ?_
        refine z_iconst (v := -1) d_X12_best_134 (by decide) ?_
        refine z_icmp_eq d_X12_best_135 (fun c_135 => ?_) (fun c_135 => ?_)
        · refine z_iload d_X12_best_148 1 rfl ?_
          refine z_istore [(6, .int (whS q many)), (10, .int x112), (9, .int (whS q many)), (8, .int (nI q)), (7, .int a2), (5, .int (nI s)), (4, .int what), (3, .int many), (2, .int v), (1, .int kd), (0, .ref (b 0))] d_X12_best_150 (by decide) rfl ?_
          refine z_iload d_X12_best_152 1 rfl ?_
          refine z_istore [(7, .int x112), (6, .int (whS q many)), (10, .int x112), (9, .int (whS q many)), (8, .int (nI q)), (5, .int (nI s)), (4, .int what), (3, .int many), (2, .int v), (1, .int kd), (0, .ref (b 0))] d_X12_best_154 (by decide) rfl ?_
          refine z_iinc (nI (q + 1)) [(8, .int (nI (q + 1))), (7, .int x112), (6, .int (whS q many)), (10, .int x112), (9, .int (whS q many)), (5, .int (nI s)), (4, .int what), (3, .int many), (2, .int v), (1, .int kd), (0, .ref (b 0))] 4 d_X12_best_156 rfl (nI_1 _) (by decide) rfl ?_
          refine z_goto d_X12_best_159 ?_
          refine z_perm [0, 1, 2, 5, 6, 7, 8, 9, 10] rfl ?_
          rw [la_back hs hfree]
          exact ih (q + 1) (laA I Aq s kd (whS q many) v) J112 tw112 (whS q many) x112 (by omega) (by omega) hTq.la (beA_new hA (b01_n0.mp c_95)) (by rw [beP_new hA ha (b01_n0.mp c_95) hx112, if_pos c_135])
        · refine z_iload d_X12_best_138 0 rfl ?_
          refine z_iload d_X12_best_140 3 rfl ?_
          refine z_icmp_gt d_X12_best_142 (fun c_142 => ?_) (fun c_142 => ?_)
          · refine z_iload d_X12_best_148 1 rfl ?_
            refine z_istore [(6, .int (whS q many)), (10, .int x112), (9, .int (whS q many)), (8, .int (nI q)), (7, .int a2), (5, .int (nI s)), (4, .int what), (3, .int many), (2, .int v), (1, .int kd), (0, .ref (b 0))] d_X12_best_150 (by decide) rfl ?_
            refine z_iload d_X12_best_152 1 rfl ?_
            refine z_istore [(7, .int x112), (6, .int (whS q many)), (10, .int x112), (9, .int (whS q many)), (8, .int (nI q)), (5, .int (nI s)), (4, .int what), (3, .int many), (2, .int v), (1, .int kd), (0, .ref (b 0))] d_X12_best_154 (by decide) rfl ?_
            refine z_iinc (nI (q + 1)) [(8, .int (nI (q + 1))), (7, .int x112), (6, .int (whS q many)), (10, .int x112), (9, .int (whS q many)), (5, .int (nI s)), (4, .int what), (3, .int many), (2, .int v), (1, .int kd), (0, .ref (b 0))] 4 d_X12_best_156 rfl (nI_1 _) (by decide) rfl ?_
            refine z_goto d_X12_best_159 ?_
            refine z_perm [0, 1, 2, 5, 6, 7, 8, 9, 10] rfl ?_
            rw [la_back hs hfree]
            exact ih (q + 1) (laA I Aq s kd (whS q many) v) J112 tw112 (whS q many) x112 (by omega) (by omega) hTq.la (beA_new hA (b01_n0.mp c_95)) (by rw [beP_new hA ha (b01_n0.mp c_95) hx112, if_neg c_135, if_pos c_142])
          · refine z_goto d_X12_best_145 ?_
            refine z_iinc (nI (q + 1)) [(8, .int (nI (q + 1))), (10, .int x112), (9, .int (whS q many)), (7, .int a2), (6, .int a1), (5, .int (nI s)), (4, .int what), (3, .int many), (2, .int v), (1, .int kd), (0, .ref (b 0))] 2 d_X12_best_156 rfl (nI_1 _) (by decide) rfl ?_
            refine z_goto d_X12_best_159 ?_
            refine z_perm [0, 3, 4, 5, 6, 7, 8, 9, 10] rfl ?_
            rw [la_back hs hfree]
            exact ih (q + 1) (laA I Aq s kd (whS q many) v) J112 tw112 a1 a2 (by omega) (by omega) hTq.la (beA_new hA (b01_n0.mp c_95)) (by rw [beP_new hA ha (b01_n0.mp c_95) hx112, if_neg c_135, if_neg c_142])
      · refine z_goto d_X12_best_98 ?_
        refine z_iinc (nI (q + 1)) [(8, .int (nI (q + 1))), (9, .int (whS q many)), (7, .int a2), (6, .int a1), (5, .int (nI s)), (4, .int what), (3, .int many), (2, .int v), (1, .int kd), (0, .ref (b 0))] 1 d_X12_best_156 rfl (nI_1 _) (by decide) rfl ?_
        refine z_goto d_X12_best_159 ?_
        refine z_perm [0, 2, 3, 4, 5, 6, 7, 8, 9] rfl ?_
        exact ih (q + 1) Aq J tw a1 a2 (by omega) (by omega) hTq (beA_old hA (by rw [b01_0.mp c_95]; decide)) (beP_old ha (by rw [b01_0.mp c_95]; decide))
set_option maxHeartbeats 4000000 in
set_option maxRecDepth 100000 in
theorem t_X12_best (G : GT) (b : Nat → Nat) (I : Nat → Int32) (A : Nat → Nat → Int32) (J : Nat → Int32) (tw : Int64) (t : Nat) (cd : CD) (hT : TxOk A t cd) (h4 : I 4 = nI t) (kd : Int32) (v : Int32) (many : Int32) (what : Int32)  : Ct G mX12_best 44 0 0 [.ref (b 0), .int kd, .int v, .int many, .int what] (MW G b I A J tw) (Pj G b (besR cd I A kd v many what) (I) (besA I A kd v many what)) := by
  refine Ct.intro [(0, .ref (b 0)), (1, .int kd), (2, .int v), (3, .int many), (4, .int what)] (by decide) rfl (Nat.le_of_ble_eq_true rfl) ?_
  refine z_iload_n d_X12_best_0 1 rfl ?_
  refine z_i2l d_X12_best_1 ?_
  refine z_lconst (v := 0) d_X12_best_2 (by decide) ?_
  refine z_ldc2 d_X12_best_3 w_1127 ?_
  refine z_callSp c_X12_82 (t_X12_in G kd.toInt64 0 5 (MW G b I A J tw)) rfl rfl (Nat.le_of_ble_eq_true rfl) rfl d_X12_best_6 ?_
  refine z_if_eq d_X12_best_9 (fun c_9 => ?_) (fun c_9 => ?_)
  · have h9 : ¬ beO kd v many what = true := by simp only [in_b, b01_0, b01_n0, L_0, L_1, L_5, L_9] at *; simp [beO, inB, *]
    refine z_bipush (v := -2) d_X12_best_47 (by decide) ?_
    exact z_iret _ d_X12_best_49 rfl (Pj.ofw (by rw [besR, if_neg h9]) rfl (by rw [besA, if_neg (fun e => h9 (Bool.and_eq_true_iff.mp e).1)]))
  · refine z_iload_n d_X12_best_12 2 rfl ?_
    refine z_i2l d_X12_best_13 ?_
    refine z_lconst (v := 0) d_X12_best_14 (by decide) ?_
    refine z_ldc2 d_X12_best_15 w_1135 ?_
    refine z_callSp c_X12_82 (t_X12_in G v.toInt64 0 9 (MW G b I A J tw)) rfl rfl (Nat.le_of_ble_eq_true rfl) rfl d_X12_best_18 ?_
    refine z_if_eq d_X12_best_21 (fun c_21 => ?_) (fun c_21 => ?_)
    · have h9 : ¬ beO kd v many what = true := by simp only [in_b, b01_0, b01_n0, L_0, L_1, L_5, L_9] at *; simp [beO, inB, *]
      refine z_bipush (v := -2) d_X12_best_47 (by decide) ?_
      exact z_iret _ d_X12_best_49 rfl (Pj.ofw (by rw [besR, if_neg h9]) rfl (by rw [besA, if_neg (fun e => h9 (Bool.and_eq_true_iff.mp e).1)]))
    · refine z_iload_n d_X12_best_24 3 rfl ?_
      refine z_i2l d_X12_best_25 ?_
      refine z_lconst (v := 1) d_X12_best_26 (by decide) ?_
      refine z_ldc2 d_X12_best_27 w_1127 ?_
      refine z_callSp c_X12_82 (t_X12_in G many.toInt64 1 5 (MW G b I A J tw)) rfl rfl (Nat.le_of_ble_eq_true rfl) rfl d_X12_best_30 ?_
      refine z_if_eq d_X12_best_33 (fun c_33 => ?_) (fun c_33 => ?_)
      · have h9 : ¬ beO kd v many what = true := by simp only [in_b, b01_0, b01_n0, L_0, L_1, L_5, L_9] at *; simp [beO, inB, *]
        refine z_bipush (v := -2) d_X12_best_47 (by decide) ?_
        exact z_iret _ d_X12_best_49 rfl (Pj.ofw (by rw [besR, if_neg h9]) rfl (by rw [besA, if_neg (fun e => h9 (Bool.and_eq_true_iff.mp e).1)]))
      · refine z_iload d_X12_best_36 4 rfl ?_
        refine z_i2l d_X12_best_38 ?_
        refine z_lconst (v := 0) d_X12_best_39 (by decide) ?_
        refine z_lconst (v := 1) d_X12_best_40 (by decide) ?_
        refine z_callSp c_X12_82 (t_X12_in G what.toInt64 0 1 (MW G b I A J tw)) rfl rfl (Nat.le_of_ble_eq_true rfl) rfl d_X12_best_41 ?_
        refine z_if_ne d_X12_best_44 (fun c_44 => ?_) (fun c_44 => ?_)
        · have h9 : beO kd v many what = true := by simp only [in_b, b01_0, b01_n0, L_0, L_1, L_5, L_9] at * <;> simp only [beO, inB, *] <;> rfl
          refine z_aload_n d_X12_best_50 0 rfl ?_
          refine z_callVp 0 c_X12_108 (t_X12_free G b I A J tw) rfl rfl rfl rfl (Nat.le_of_ble_eq_true rfl) rfl d_X12_best_51 ?_
          refine z_istore [(5, .int (nI (frN (I 12)))), (0, .ref (b 0)), (1, .int kd), (2, .int v), (3, .int many), (4, .int what)] d_X12_best_54 (by decide) rfl ?_
          refine z_iload d_X12_best_56 0 rfl ?_
          refine z_bipush (v := 16) d_X12_best_58 (by decide) ?_
          refine z_icmp_ne d_X12_best_60 (fun c_60 => ?_) (fun c_60 => ?_)
          · refine z_iconst (v := -1) d_X12_best_66 (by decide) ?_
            refine z_istore [(6, .int (-1)), (5, .int (nI (frN (I 12)))), (0, .ref (b 0)), (1, .int kd), (2, .int v), (3, .int many), (4, .int what)] d_X12_best_67 (by decide) rfl ?_
            refine z_iconst (v := 0) d_X12_best_69 (by decide) ?_
            refine z_istore [(7, .int 0), (6, .int (-1)), (5, .int (nI (frN (I 12)))), (0, .ref (b 0)), (1, .int kd), (2, .int v), (3, .int many), (4, .int what)] d_X12_best_70 (by decide) rfl ?_
            refine z_iconst (v := 0) d_X12_best_72 (by decide) ?_
            refine z_istore [(8, .int 0), (7, .int 0), (6, .int (-1)), (5, .int (nI (frN (I 12)))), (0, .ref (b 0)), (1, .int kd), (2, .int v), (3, .int many), (4, .int what)] d_X12_best_73 (by decide) rfl ?_
            refine z_perm [0, 1, 2, 3, 8, 7, 6, 5, 4] rfl ?_
            have hs9 := frN_lt c_60
            rw [besR, if_pos h9, if_neg c_60, besA, if_pos (by rw [h9, decide_eq_false c_60]; rfl)]
            exact l_X12_best G b I A t cd hT h4 (frN (I 12)) kd v many what hs9 (frN_clear hs9) 51 0 A J tw (-1) 0 (by omega) (by omega) hT rfl rfl
          · refine z_bipush (v := -4) d_X12_best_63 (by decide) ?_
            exact z_iret _ d_X12_best_65 rfl (Pj.ofw (by rw [besR, if_pos h9, if_pos c_60]) rfl (by rw [besA, if_neg (fun e => by have e1 := (Bool.and_eq_true_iff.mp e).2; rw [decide_eq_true c_60] at e1; exact absurd e1 (by decide))]))
        · have h9 : ¬ beO kd v many what = true := by simp only [in_b, b01_0, b01_n0, L_0, L_1, L_5, L_9] at *; simp [beO, inB, *]
          refine z_bipush (v := -2) d_X12_best_47 (by decide) ?_
          exact z_iret _ d_X12_best_49 rfl (Pj.ofw (by rw [besR, if_neg h9]) rfl (by rw [besA, if_neg (fun e => h9 (Bool.and_eq_true_iff.mp e).1)]))
def bdR (cd : CD) (many : Int32) : Nat → (Nat → Int32) → (Nat → Nat → Int32) → Nat × (Nat → Int32) × (Nat → Nat → Int32)
  | 0, I, A => (0, I, A)
  | f + 1, I, A => if frN (I 12) < 16 then ((bdR cd many f (laI I (frN (I 12))) (laA I A (frN (I 12)) 0 (nxS cd I A many).1 0)).1 + 1, (bdR cd many f (laI I (frN (I 12))) (laA I A (frN (I 12)) 0 (nxS cd I A many).1 0)).2) else (0, I, A)
def buO (many n0 : Int32) : Bool := inB many 1 5 && inB n0 0 8
def buiR (cd : CD) (I : Nat → Int32) (A : Nat → Nat → Int32) (many n0 : Int32) : Int32 := if buO many n0 = true then nI (bdR cd many n0.toInt.toNat I A).1 else -2
def buiI (cd : CD) (I : Nat → Int32) (A : Nat → Nat → Int32) (many n0 : Int32) : Nat → Int32 := if buO many n0 = true then (bdR cd many n0.toInt.toNat I A).2.1 else I
def buiA (cd : CD) (I : Nat → Int32) (A : Nat → Nat → Int32) (many n0 : Int32) : Nat → Nat → Int32 := if buO many n0 = true then (bdR cd many n0.toInt.toNat I A).2.2 else A
set_option maxHeartbeats 4000000 in
set_option maxRecDepth 100000 in
theorem l_X12_build (G : GT) (b : Nat → Nat) (t : Nat) (cd : CD) (many n0 : Int32) (r : Nat) (I2 : Nat → Int32) (A2 : Nat → Nat → Int32) : ∀ (n : Nat)  (k m : Nat) (I : Nat → Int32) (A : Nat → Nat → Int32) (J : Nat → Int32) (tw : Int64) (hT : TxOk A t cd) (h4 : I 4 = nI t) (hr : bdR cd many (n0.toInt.toNat - k) I A = (m, I2, A2)) (hkm : k + m = r) (hk : k ≤ n0.toInt.toNat) (hm : n0.toInt.toNat < k + n), Tr G mX12_build (Rm 44 0 0) (OM G (Pj G b (nI r) I2 A2) 0 0) 0 0 29 [(3, .int (nI k)), (2, .int n0), (1, .int many), (0, .ref (b 0))] [] (MW G b I A J tw) := by
  intro n
  induction n with
  | zero =>
    intro k m I A J tw hT h4 hr hkm hk hm
    exact absurd hm (by omega)
  | succ n ih =>
    intro k m I A J tw hT h4 hr hkm hk hm
    refine z_iload_n d_X12_build_29 0 rfl ?_
    refine z_iload_n d_X12_build_30 1 rfl ?_
    refine z_icmp_ge d_X12_build_31 (fun c_31 => ?_) (fun c_31 => ?_)
    · refine z_iload_n d_X12_build_64 0 rfl ?_
      exact z_iret _ d_X12_build_65 rfl (by have hi := i_rng n0; rw [nI_ltN (by omega)] at c_31; rw [show n0.toInt.toNat - k = 0 by omega] at hr; cases hr; exact Pj.ofw (by rw [← hkm]; rfl) rfl rfl)
    · have hi := i_rng n0; have hlt : k < n0.toInt.toNat := (nI_ltN (by omega)).mp c_31
      refine z_aload_n d_X12_build_34 3 rfl ?_
      refine z_callVp 0 c_X12_108 (t_X12_free G b I A J tw) rfl rfl rfl rfl (Nat.le_of_ble_eq_true rfl) rfl d_X12_build_35 ?_
      refine z_bipush (v := 16) d_X12_build_38 (by decide) ?_
      refine z_icmp_ge d_X12_build_40 (fun c_40 => ?_) (fun c_40 => ?_)
      · have hfr : ¬ frN (I 12) < 16 := by have h9 := ge_nI (N := 16) (by have := frN_le (I 12); omega) (by decide) c_40; omega
        refine z_iload_n d_X12_build_64 0 rfl ?_
        exact z_iret _ d_X12_build_65 rfl (by rw [show n0.toInt.toNat - k = (n0.toInt.toNat - (k + 1)) + 1 by omega, bdR, if_neg hfr] at hr; cases hr; exact Pj.ofw (by rw [← hkm]; rfl) rfl rfl)
      · have hfr : frN (I 12) < 16 := lt_nI (by have := frN_le (I 12); omega) (by decide) c_40
        refine z_aload_n d_X12_build_43 3 rfl ?_
        refine z_aload_n d_X12_build_44 3 rfl ?_
        refine z_callVp 0 c_X12_108 (t_X12_free G b I A J tw) rfl rfl rfl rfl (Nat.le_of_ble_eq_true rfl) rfl d_X12_build_45 ?_
        refine z_iconst (v := 0) d_X12_build_48 (by decide) ?_
        refine z_aload_n d_X12_build_49 3 rfl ?_
        refine z_iload_n d_X12_build_50 2 rfl ?_
        refine z_callV 0 c_X12_315 rfl rfl (t_X12_nextOf G b I A J tw t cd hT h4 many) rfl rfl (Nat.le_of_ble_eq_true rfl) rfl d_X12_build_51 ?_
        rintro v51 w51 ⟨rfl, J51, tw51, rfl⟩
        refine z_iconst (v := 0) d_X12_build_54 (by decide) ?_
        refine z_callVv 0 c_X12_112 (t_X12_lays G b I A J51 tw51 (frN (I 12)) 0 ((nxS cd I A many).1) 0 hfr) rfl rfl rfl rfl (Nat.le_of_ble_eq_true rfl) rfl d_X12_build_55 ?_
        refine z_iinc (nI (k + 1)) [(3, .int (nI (k + 1))), (2, .int n0), (1, .int many), (0, .ref (b 0))] 0 d_X12_build_58 rfl (nI_1 _) (by decide) rfl ?_
        refine z_goto d_X12_build_61 ?_
        rw [show n0.toInt.toNat - k = (n0.toInt.toNat - (k + 1)) + 1 by omega, bdR, if_pos hfr] at hr
        obtain ⟨e1, e2⟩ := Prod.mk.inj hr
        exact ih (k + 1) (m - 1) _ _ _ _ hT.la h4 (by rw [← e2, ← e1, Nat.add_sub_cancel]) (by omega) (by omega) (by omega)
set_option maxHeartbeats 4000000 in
set_option maxRecDepth 100000 in
theorem t_X12_build (G : GT) (b : Nat → Nat) (I : Nat → Int32) (A : Nat → Nat → Int32) (J : Nat → Int32) (tw : Int64) (t : Nat) (cd : CD) (hT : TxOk A t cd) (h4 : I 4 = nI t) (many : Int32) (n0 : Int32)  : Ct G mX12_build 44 0 0 [.ref (b 0), .int many, .int n0] (MW G b I A J tw) (Pj G b (buiR cd I A many n0) (buiI cd I A many n0) (buiA cd I A many n0)) := by
  refine Ct.intro [(0, .ref (b 0)), (1, .int many), (2, .int n0)] (by decide) rfl (Nat.le_of_ble_eq_true rfl) ?_
  refine z_iload_n d_X12_build_0 1 rfl ?_
  refine z_i2l d_X12_build_1 ?_
  refine z_lconst (v := 1) d_X12_build_2 (by decide) ?_
  refine z_ldc2 d_X12_build_3 w_1127 ?_
  refine z_callSp c_X12_82 (t_X12_in G many.toInt64 1 5 (MW G b I A J tw)) rfl rfl (Nat.le_of_ble_eq_true rfl) rfl d_X12_build_6 ?_
  refine z_if_eq d_X12_build_9 (fun c_9 => ?_) (fun c_9 => ?_)
  · have h9 : ¬ buO many n0 = true := by simp only [in_b, b01_0, b01_n0, L_0, L_1, L_5, L_8] at *; simp [buO, inB, *]
    refine z_bipush (v := -2) d_X12_build_24 (by decide) ?_
    exact z_iret _ d_X12_build_26 rfl (Pj.ofw (by rw [buiR, if_neg h9]) (by rw [buiI, if_neg h9]) (by rw [buiA, if_neg h9]))
  · refine z_iload_n d_X12_build_12 2 rfl ?_
    refine z_i2l d_X12_build_13 ?_
    refine z_lconst (v := 0) d_X12_build_14 (by decide) ?_
    refine z_ldc2 d_X12_build_15 w_1296 ?_
    refine z_callSp c_X12_82 (t_X12_in G n0.toInt64 0 8 (MW G b I A J tw)) rfl rfl (Nat.le_of_ble_eq_true rfl) rfl d_X12_build_18 ?_
    refine z_if_ne d_X12_build_21 (fun c_21 => ?_) (fun c_21 => ?_)
    · have h9 : buO many n0 = true := by simp only [in_b, b01_0, b01_n0, L_0, L_1, L_5, L_8] at * <;> simp only [buO, inB, *] <;> rfl
      refine z_iconst (v := 0) d_X12_build_27 (by decide) ?_
      refine z_istore_n [(3, .int 0), (0, .ref (b 0)), (1, .int many), (2, .int n0)] d_X12_build_28 (by decide) rfl ?_
      refine z_perm [0, 3, 2, 1] rfl ?_
      rw [buiR, if_pos h9, buiI, if_pos h9, buiA, if_pos h9]
      exact l_X12_build G b t cd many n0 (bdR cd many n0.toInt.toNat I A).1 (bdR cd many n0.toInt.toNat I A).2.1 (bdR cd many n0.toInt.toNat I A).2.2 (n0.toInt.toNat + 1) 0 (bdR cd many n0.toInt.toNat I A).1 I A J tw hT h4 (by rw [Nat.sub_zero]) (Nat.zero_add _) (by omega) (by omega)
    · have h9 : ¬ buO many n0 = true := by simp only [in_b, b01_0, b01_n0, L_0, L_1, L_5, L_8] at *; simp [buO, inB, *]
      refine z_bipush (v := -2) d_X12_build_24 (by decide) ?_
      exact z_iret _ d_X12_build_26 rfl (Pj.ofw (by rw [buiR, if_neg h9]) (by rw [buiI, if_neg h9]) (by rw [buiA, if_neg h9]))
def ovS (k : Int32) : Int32 := if k = 0 then -1 else if k = 1 then 0 else if k = 5 then 0 else if k = 4 then 2 else 1
def tkW (k : Int32) : Nat → Int32 → Int32
  | 0, x => x
  | f + 1, x => if x = -1 then x else if x = k then x else tkW k f (ovS x)
def mOv (x : Int32) : Nat := if x = -1 then 0 else if x = 0 then 1 else if x = 1 then 2 else if x = 5 then 2 else if x = 4 then 4 else 3
theorem mOv_dec {x : Int32} (h : ¬ x = -1) : mOv (ovS x) < mOv x := by
  unfold ovS
  by_cases h0 : x = 0
  · rw [h0]; decide
  · by_cases h1 : x = 1
    · rw [h1]; decide
    · by_cases h5 : x = 5
      · rw [h5]; decide
      · by_cases h4 : x = 4
        · rw [h4]; decide
        · rw [if_neg h0, if_neg h1, if_neg h5, if_neg h4]
          unfold mOv
          rw [if_neg h, if_neg h0, if_neg h1, if_neg h5, if_neg h4]
          decide
def takS (I : Nat → Int32) (A : Nat → Nat → Int32) (s k : Int32) : Int32 := if inB k 0 5 = true then (if isS I s = true then (if tkW k 5 (A 7 s.toInt.toNat) = k then A 9 s.toInt.toNat else -13) else -11) else -2
set_option maxHeartbeats 4000000 in
set_option maxRecDepth 100000 in
theorem t_X12_over (G : GT) (k : Int32) (ws : va_W)  : Ct G mX12_over 0 0 0 [.int k] ws (Pi (ovS k) ws) := by
  refine Ct.intro [(0, .int k)] (by decide) rfl (Nat.le_of_ble_eq_true rfl) ?_
  refine z_iload_n d_X12_over_0 0 rfl ?_
  refine z_if_ne d_X12_over_1 (fun c_1 => ?_) (fun c_1 => ?_)
  · refine z_iload_n d_X12_over_8 0 rfl ?_
    refine z_iconst (v := 1) d_X12_over_9 (by decide) ?_
    refine z_icmp_eq d_X12_over_10 (fun c_10 => ?_) (fun c_10 => ?_)
    · refine z_iconst (v := 0) d_X12_over_18 (by decide) ?_
      refine z_goto d_X12_over_19 ?_
      exact z_iret _ d_X12_over_32 rfl (Pi.of (by simp [ovS, *]))
    · refine z_iload_n d_X12_over_13 0 rfl ?_
      refine z_iconst (v := 5) d_X12_over_14 (by decide) ?_
      refine z_icmp_ne d_X12_over_15 (fun c_15 => ?_) (fun c_15 => ?_)
      · refine z_iload_n d_X12_over_22 0 rfl ?_
        refine z_iconst (v := 4) d_X12_over_23 (by decide) ?_
        refine z_icmp_ne d_X12_over_24 (fun c_24 => ?_) (fun c_24 => ?_)
        · refine z_iconst (v := 1) d_X12_over_31 (by decide) ?_
          exact z_iret _ d_X12_over_32 rfl (Pi.of (by simp [ovS, *]))
        · refine z_iconst (v := 2) d_X12_over_27 (by decide) ?_
          refine z_goto d_X12_over_28 ?_
          exact z_iret _ d_X12_over_32 rfl (Pi.of (by simp [ovS, *]))
      · refine z_iconst (v := 0) d_X12_over_18 (by decide) ?_
        refine z_goto d_X12_over_19 ?_
        exact z_iret _ d_X12_over_32 rfl (Pi.of (by simp [ovS, *]))
  · refine z_iconst (v := -1) d_X12_over_4 (by decide) ?_
    refine z_goto d_X12_over_5 ?_
    exact z_iret _ d_X12_over_32 rfl (Pi.of (by simp [ovS, *]))
set_option maxHeartbeats 4000000 in
set_option maxRecDepth 100000 in
theorem l_X12_taken (G : GT) (b : Nat → Nat) (I : Nat → Int32) (A : Nat → Nat → Int32) (J : Nat → Int32) (tw : Int64) (j : Nat) (k : Int32) (hj : j < 16) : ∀ (f : Nat)  (x : Int32) (hm : mOv x < f), Tr G mX12_taken (Rm 2 0 0) (OM G (Pi (if tkW k f x = k then A 9 j else -13) (MW G b I A J tw)) 0 0) 0 0 33 [(3, .int x), (2, .int k), (1, .int (nI j)), (0, .ref (b 0))] [] (MW G b I A J tw) := by
  intro f
  induction f with
  | zero =>
    intro x hm
    exact absurd hm (by omega)
  | succ f ih =>
    intro x hm
    refine z_iload_n d_X12_taken_33 0 rfl ?_
    refine z_iconst (v := -1) d_X12_taken_34 (by decide) ?_
    refine z_icmp_eq d_X12_taken_35 (fun c_35 => ?_) (fun c_35 => ?_)
    · refine z_iload_n d_X12_taken_51 0 rfl ?_
      refine z_iload_n d_X12_taken_52 1 rfl ?_
      refine z_icmp_ne d_X12_taken_53 (fun c_53 => ?_) (fun c_53 => ?_)
      · refine z_bipush (v := -13) d_X12_taken_65 (by decide) ?_
        exact z_iret _ d_X12_taken_67 rfl (Pi.of (by rw [show tkW k (f + 1) x = x from (by rw [tkW]; first | rw [if_pos c_35] | rw [if_neg c_35, if_pos c_40]), if_neg c_53]))
      · refine z_aload_n d_X12_taken_56 3 rfl ?_
        refine z_get (v := .ref (b 9)) 0 f_X12_29_12 rfl rfl d_X12_taken_57 ?_
        refine z_iload_n d_X12_taken_60 2 rfl ?_
        refine z_ialdN 6 j rfl (nI_toInt (by omega)) (by omega) d_X12_taken_61 ?_
        refine z_goto d_X12_taken_62 ?_
        exact z_iret _ d_X12_taken_67 rfl (Pi.of (by rw [show tkW k (f + 1) x = x from (by rw [tkW]; first | rw [if_pos c_35] | rw [if_neg c_35, if_pos c_40]), if_pos c_53]))
    · refine z_iload_n d_X12_taken_38 0 rfl ?_
      refine z_iload_n d_X12_taken_39 1 rfl ?_
      refine z_icmp_eq d_X12_taken_40 (fun c_40 => ?_) (fun c_40 => ?_)
      · refine z_iload_n d_X12_taken_51 0 rfl ?_
        refine z_iload_n d_X12_taken_52 1 rfl ?_
        refine z_icmp_ne d_X12_taken_53 (fun c_53 => ?_) (fun c_53 => ?_)
        · refine z_bipush (v := -13) d_X12_taken_65 (by decide) ?_
          exact z_iret _ d_X12_taken_67 rfl (Pi.of (by rw [show tkW k (f + 1) x = x from (by rw [tkW]; first | rw [if_pos c_35] | rw [if_neg c_35, if_pos c_40]), if_neg c_53]))
        · refine z_aload_n d_X12_taken_56 3 rfl ?_
          refine z_get (v := .ref (b 9)) 0 f_X12_29_12 rfl rfl d_X12_taken_57 ?_
          refine z_iload_n d_X12_taken_60 2 rfl ?_
          refine z_ialdN 6 j rfl (nI_toInt (by omega)) (by omega) d_X12_taken_61 ?_
          refine z_goto d_X12_taken_62 ?_
          exact z_iret _ d_X12_taken_67 rfl (Pi.of (by rw [show tkW k (f + 1) x = x from (by rw [tkW]; first | rw [if_pos c_35] | rw [if_neg c_35, if_pos c_40]), if_pos c_53]))
      · refine z_iload_n d_X12_taken_43 0 rfl ?_
        refine z_callSp c_X12_366 (t_X12_over G x (MW G b I A J tw)) rfl rfl (Nat.le_of_ble_eq_true rfl) rfl d_X12_taken_44 ?_
        refine z_istore_n [(3, .int (ovS x)), (2, .int k), (1, .int (nI j)), (0, .ref (b 0))] d_X12_taken_47 (by decide) rfl ?_
        refine z_goto d_X12_taken_48 ?_
        rw [show tkW k (f + 1) x = tkW k f (ovS x) by rw [tkW, if_neg c_35, if_neg c_40]]
        exact ih _ (by have := mOv_dec c_35; omega)
set_option maxHeartbeats 4000000 in
set_option maxRecDepth 100000 in
theorem t_X12_taken (G : GT) (b : Nat → Nat) (I : Nat → Int32) (A : Nat → Nat → Int32) (J : Nat → Int32) (tw : Int64) (s : Int32) (k : Int32)  : Ct G mX12_taken 2 0 0 [.ref (b 0), .int s, .int k] (MW G b I A J tw) (Pi (takS I A s k) (MW G b I A J tw)) := by
  refine Ct.intro [(0, .ref (b 0)), (1, .int s), (2, .int k)] (by decide) rfl (Nat.le_of_ble_eq_true rfl) ?_
  refine z_iload_n d_X12_taken_0 2 rfl ?_
  refine z_i2l d_X12_taken_1 ?_
  refine z_lconst (v := 0) d_X12_taken_2 (by decide) ?_
  refine z_ldc2 d_X12_taken_3 w_1127 ?_
  refine z_callSp c_X12_82 (t_X12_in G k.toInt64 0 5 (MW G b I A J tw)) rfl rfl (Nat.le_of_ble_eq_true rfl) rfl d_X12_taken_6 ?_
  refine z_if_ne d_X12_taken_9 (fun c_9 => ?_) (fun c_9 => ?_)
  · have h9 : inB k 0 5 = true := by simp only [in_b, b01_0, b01_n0, L_0, L_5] at * <;> simp only [inB, *] <;> rfl
    refine z_aload_n d_X12_taken_15 0 rfl ?_
    refine z_iload_n d_X12_taken_16 1 rfl ?_
    refine z_callVp 0 c_X12_116 (t_X12_isStrip G b I A J tw s) rfl rfl rfl rfl (Nat.le_of_ble_eq_true rfl) rfl d_X12_taken_17 ?_
    refine z_if_ne d_X12_taken_20 (fun c_20 => ?_) (fun c_20 => ?_)
    · obtain ⟨j, hj, rfl, hbit⟩ := isS_of (b01_n0.mp c_20)
      refine z_aload_n d_X12_taken_26 0 rfl ?_
      refine z_get (v := .ref (b 7)) 0 f_X12_23_12 rfl rfl d_X12_taken_27 ?_
      refine z_iload_n d_X12_taken_30 1 rfl ?_
      refine z_ialdN 4 j rfl (nI_toInt (by omega)) (by omega) d_X12_taken_31 ?_
      refine z_istore_n [(3, .int ((A 7) j)), (0, .ref (b 0)), (1, .int (nI j)), (2, .int k)] d_X12_taken_32 (by decide) rfl ?_
      refine z_perm [0, 3, 2, 1] rfl ?_
      rw [takS, if_pos h9, if_pos (b01_n0.mp c_20), nI_tn (by omega)]
      exact l_X12_taken G b I A J tw j k hj 5 (A 7 j) (by unfold mOv; (repeat' split) <;> omega)
    · refine z_bipush (v := -11) d_X12_taken_23 (by decide) ?_
      exact z_iret _ d_X12_taken_25 rfl (Pi.of (by rw [takS, if_pos h9, if_neg (by rw [b01_0.mp c_20]; decide)]))
  · have h9 : ¬ inB k 0 5 = true := by simp only [in_b, b01_0, b01_n0, L_0, L_5] at *; simp [inB, *]
    refine z_bipush (v := -2) d_X12_taken_12 (by decide) ?_
    exact z_iret _ d_X12_taken_14 rfl (Pi.of (by rw [takS, if_neg h9]))
def imR (A : Nat → Nat → Int32) (k : Nat) (row : Nat → Int32) : Nat → Int32 := upd (upd (upd (upd (upd row k (A 7 k)) (16 + k) (A 8 k)) (32 + k) (A 9 k)) (48 + k) (A 10 k)) (64 + k) (A 11 k)
def imA (A : Nat → Nat → Int32) : Nat → Nat → Int32 := vf_upd A 30 (itL (imR A) (A 30) 16)
def imI (I : Nat → Int32) : Nat → Int32 := upd (upd (upd (upd (upd I 31 1) 32 (I 12)) 33 (I 13)) 34 (I 14)) 35 (I 4)
def bkF (k : Nat) (A : Nat → Nat → Int32) : Nat → Nat → Int32 := vf_upd (vf_upd (vf_upd (vf_upd (vf_upd A 7 (upd (A 7) k (A 30 k))) 8 (upd (A 8) k (A 30 (16 + k)))) 9 (upd (A 9) k (A 30 (32 + k)))) 10 (upd (A 10) k (A 30 (48 + k)))) 11 (upd (A 11) k (A 30 (64 + k)))
def bkI (I : Nat → Int32) : Nat → Int32 := upd (upd (upd (upd I 12 (I 32)) 13 (I 33)) 14 (I 34)) 4 (I 35)
def bacI (I : Nat → Int32) : Nat → Int32 := if I 31 = 0 then I else bkI I
def bacA (I : Nat → Int32) (A : Nat → Nat → Int32) : Nat → Nat → Int32 := if I 31 = 0 then A else itL bkF A 16
def bacR (I : Nat → Int32) : Int32 := if I 31 = 0 then -3 else pcI (I 32)
set_option maxHeartbeats 4000000 in
set_option maxRecDepth 100000 in
theorem l_X12_image (G : GT) (b : Nat → Nat) (I : Nat → Int32) (A : Nat → Nat → Int32) (J : Nat → Int32) (tw : Int64) : ∀ (n : Nat)  (k : Nat) (row : Nat → Int32) (hk : k ≤ 16) (hm : 16 < k + n) (hrow : row = itL (imR A) (A 30) k), Tr G mX12_image (Rm 1 0 0) (OM G (Pi (pcI (I 12)) (MW G b I (imA A) J tw)) 0 0) 0 0 39 [(1, .int (nI k)), (0, .ref (b 0))] [] (MW G b I (vf_upd A 30 row) J tw) := by
  intro n
  induction n with
  | zero =>
    intro k row hk hm hrow
    exact absurd hm (by omega)
  | succ n ih =>
    intro k row hk hm hrow
    refine z_iload_n d_X12_image_39 0 rfl ?_
    refine z_bipush (v := 16) d_X12_image_40 (by decide) ?_
    refine z_icmp_ge d_X12_image_42 (fun c_42 => ?_) (fun c_42 => ?_)
    · refine z_aload_n d_X12_image_123 1 rfl ?_
      refine z_get (v := .int (I 12)) 0 f_X12_90_12 rfl rfl d_X12_image_124 ?_
      refine z_callSp c_X12_119 (t_X12_bitsOf G (I 12) (MW G b I (vf_upd A 30 row) J tw)) rfl rfl (Nat.le_of_ble_eq_true rfl) rfl d_X12_image_127 ?_
      exact z_iret _ d_X12_image_130 rfl (by have e9 : row = itL (imR A) (A 30) 16 := (by have h9 := ge_nI (N := 16) (by omega) (by decide) c_42; rw [hrow, show k = 16 by omega]); subst e9; exact Pi.ofw rfl rfl)
    · have h9 := lt_nI (N := 16) (by omega) (by decide) c_42
      refine z_aload_n d_X12_image_45 1 rfl ?_
      refine z_get (v := .ref (b 30)) 0 f_X12_41_12 rfl rfl d_X12_image_46 ?_
      refine z_iload_n d_X12_image_49 0 rfl ?_
      refine z_aload_n d_X12_image_50 1 rfl ?_
      refine z_get (v := .ref (b 7)) 0 f_X12_23_12 rfl rfl d_X12_image_51 ?_
      refine z_iload_n d_X12_image_54 0 rfl ?_
      refine z_ialdN 4 k rfl (nI_toInt (by omega)) (by omega) d_X12_image_55 ?_
      refine z_iastN 9 k (MW G b I (vf_upd A 30 (upd row k ((A 7) k))) J tw) rfl (nI_toInt (by omega)) (by omega) rfl d_X12_image_56 ?_
      refine z_aload_n d_X12_image_57 1 rfl ?_
      refine z_get (v := .ref (b 30)) 0 f_X12_41_12 rfl rfl d_X12_image_58 ?_
      refine z_bipush (v := 16) d_X12_image_61 (by decide) ?_
      refine z_iload_n d_X12_image_63 0 rfl ?_
      refine z_iadd d_X12_image_64 ?_
      refine z_aload_n d_X12_image_65 1 rfl ?_
      refine z_get (v := .ref (b 8)) 0 f_X12_26_12 rfl rfl d_X12_image_66 ?_
      refine z_iload_n d_X12_image_69 0 rfl ?_
      refine z_ialdN 5 k rfl (nI_toInt (by omega)) (by omega) d_X12_image_70 ?_
      refine z_iastN 9 (16 + k) (MW G b I (vf_upd A 30 (upd (upd row k ((A 7) k)) (16 + k) ((A 8) k))) J tw) rfl (by rw [show (16 : Int32) = nI 16 from rfl, nI_add, nI_i (by omega)]) (by omega) rfl d_X12_image_71 ?_
      refine z_aload_n d_X12_image_72 1 rfl ?_
      refine z_get (v := .ref (b 30)) 0 f_X12_41_12 rfl rfl d_X12_image_73 ?_
      refine z_bipush (v := 32) d_X12_image_76 (by decide) ?_
      refine z_iload_n d_X12_image_78 0 rfl ?_
      refine z_iadd d_X12_image_79 ?_
      refine z_aload_n d_X12_image_80 1 rfl ?_
      refine z_get (v := .ref (b 9)) 0 f_X12_29_12 rfl rfl d_X12_image_81 ?_
      refine z_iload_n d_X12_image_84 0 rfl ?_
      refine z_ialdN 6 k rfl (nI_toInt (by omega)) (by omega) d_X12_image_85 ?_
      refine z_iastN 9 (32 + k) (MW G b I (vf_upd A 30 (upd (upd (upd row k ((A 7) k)) (16 + k) ((A 8) k)) (32 + k) ((A 9) k))) J tw) rfl (by rw [show (32 : Int32) = nI 32 from rfl, nI_add, nI_i (by omega)]) (by omega) rfl d_X12_image_86 ?_
      refine z_aload_n d_X12_image_87 1 rfl ?_
      refine z_get (v := .ref (b 30)) 0 f_X12_41_12 rfl rfl d_X12_image_88 ?_
      refine z_bipush (v := 48) d_X12_image_91 (by decide) ?_
      refine z_iload_n d_X12_image_93 0 rfl ?_
      refine z_iadd d_X12_image_94 ?_
      refine z_aload_n d_X12_image_95 1 rfl ?_
      refine z_get (v := .ref (b 10)) 0 f_X12_32_12 rfl rfl d_X12_image_96 ?_
      refine z_iload_n d_X12_image_99 0 rfl ?_
      refine z_ialdN 7 k rfl (nI_toInt (by omega)) (by omega) d_X12_image_100 ?_
      refine z_iastN 9 (48 + k) (MW G b I (vf_upd A 30 (upd (upd (upd (upd row k ((A 7) k)) (16 + k) ((A 8) k)) (32 + k) ((A 9) k)) (48 + k) ((A 10) k))) J tw) rfl (by rw [show (48 : Int32) = nI 48 from rfl, nI_add, nI_i (by omega)]) (by omega) rfl d_X12_image_101 ?_
      refine z_aload_n d_X12_image_102 1 rfl ?_
      refine z_get (v := .ref (b 30)) 0 f_X12_41_12 rfl rfl d_X12_image_103 ?_
      refine z_bipush (v := 64) d_X12_image_106 (by decide) ?_
      refine z_iload_n d_X12_image_108 0 rfl ?_
      refine z_iadd d_X12_image_109 ?_
      refine z_aload_n d_X12_image_110 1 rfl ?_
      refine z_get (v := .ref (b 11)) 0 f_X12_35_12 rfl rfl d_X12_image_111 ?_
      refine z_iload_n d_X12_image_114 0 rfl ?_
      refine z_ialdN 8 k rfl (nI_toInt (by omega)) (by omega) d_X12_image_115 ?_
      refine z_iastN 9 (64 + k) (MW G b I (vf_upd A 30 (upd (upd (upd (upd (upd row k ((A 7) k)) (16 + k) ((A 8) k)) (32 + k) ((A 9) k)) (48 + k) ((A 10) k)) (64 + k) ((A 11) k))) J tw) rfl (by rw [show (64 : Int32) = nI 64 from rfl, nI_add, nI_i (by omega)]) (by omega) rfl d_X12_image_116 ?_
      refine z_iinc (nI (k + 1)) [(1, .int (nI (k + 1))), (0, .ref (b 0))] 0 d_X12_image_117 rfl (nI_1 _) (by decide) rfl ?_
      refine z_goto d_X12_image_120 ?_
      exact ih (k + 1) _ (by omega) (by omega) (by rw [itL, ← hrow]; rfl)
set_option maxHeartbeats 4000000 in
set_option maxRecDepth 100000 in
theorem t_X12_image (G : GT) (b : Nat → Nat) (I : Nat → Int32) (A : Nat → Nat → Int32) (J : Nat → Int32) (tw : Int64)  : Ct G mX12_image 1 0 0 [.ref (b 0)] (MW G b I A J tw) (Pi (pcI (I 12)) (MW G b (imI I) (imA A) J tw)) := by
  refine Ct.intro [(0, .ref (b 0))] (by decide) rfl (Nat.le_of_ble_eq_true rfl) ?_
  refine z_aload_n d_X12_image_0 0 rfl ?_
  refine z_iconst (v := 1) d_X12_image_1 (by decide) ?_
  refine z_put 0 (MW G b (upd I 31 1) A J tw) p_X12_339_12 rfl rfl rfl (Nat.le_of_ble_eq_true rfl) (mw_31 G b I A J tw _) d_X12_image_2 ?_
  refine z_aload_n d_X12_image_5 0 rfl ?_
  refine z_aload_n d_X12_image_6 0 rfl ?_
  refine z_get (v := .int (I 12)) 0 f_X12_90_12 rfl rfl d_X12_image_7 ?_
  refine z_put 0 (MW G b (upd (upd I 31 1) 32 (I 12)) A J tw) p_X12_342_12 rfl rfl rfl (Nat.le_of_ble_eq_true rfl) (mw_32 G b (upd I 31 1) A J tw _) d_X12_image_10 ?_
  refine z_aload_n d_X12_image_13 0 rfl ?_
  refine z_aload_n d_X12_image_14 0 rfl ?_
  refine z_get (v := .int (I 13)) 0 f_X12_95_12 rfl rfl d_X12_image_15 ?_
  refine z_put 0 (MW G b (upd (upd (upd I 31 1) 32 (I 12)) 33 (I 13)) A J tw) p_X12_345_12 rfl rfl rfl (Nat.le_of_ble_eq_true rfl) (mw_33 G b (upd (upd I 31 1) 32 (I 12)) A J tw _) d_X12_image_18 ?_
  refine z_aload_n d_X12_image_21 0 rfl ?_
  refine z_aload_n d_X12_image_22 0 rfl ?_
  refine z_get (v := .int (I 14)) 0 f_X12_38_12 rfl rfl d_X12_image_23 ?_
  refine z_put 0 (MW G b (upd (upd (upd (upd I 31 1) 32 (I 12)) 33 (I 13)) 34 (I 14)) A J tw) p_X12_348_12 rfl rfl rfl (Nat.le_of_ble_eq_true rfl) (mw_34 G b (upd (upd (upd I 31 1) 32 (I 12)) 33 (I 13)) A J tw _) d_X12_image_26 ?_
  refine z_aload_n d_X12_image_29 0 rfl ?_
  refine z_aload_n d_X12_image_30 0 rfl ?_
  refine z_get (v := .int (I 4)) 0 f_X12_131_12 rfl rfl d_X12_image_31 ?_
  refine z_put 0 (MW G b (upd (upd (upd (upd (upd I 31 1) 32 (I 12)) 33 (I 13)) 34 (I 14)) 35 (I 4)) A J tw) p_X12_351_12 rfl rfl rfl (Nat.le_of_ble_eq_true rfl) (mw_35 G b (upd (upd (upd (upd I 31 1) 32 (I 12)) 33 (I 13)) 34 (I 14)) A J tw _) d_X12_image_34 ?_
  refine z_iconst (v := 0) d_X12_image_37 (by decide) ?_
  refine z_istore_n [(1, .int 0), (0, .ref (b 0))] d_X12_image_38 (by decide) rfl ?_
  have e9 : vf_upd A 30 (A 30) = A := by funext j; unfold vf_upd; by_cases h : j = 30; (rw [if_pos h, h]); rw [if_neg h]
  have h9 := l_X12_image G b (imI I) A J tw 17 0 (A 30) (by omega) (by omega) rfl
  rw [e9] at h9
  exact h9
set_option maxHeartbeats 4000000 in
set_option maxRecDepth 100000 in
theorem l_X12_back (G : GT) (b : Nat → Nat) (I : Nat → Int32) (A : Nat → Nat → Int32) (J : Nat → Int32) (tw : Int64) (r : Int32) (hr : I 12 = r) : ∀ (n : Nat)  (k : Nat) (Ak : Nat → Nat → Int32) (hk : k ≤ 16) (hm : 16 < k + n) (hA : Ak = itL bkF A k), Tr G mX12_back (Rm 1 0 0) (OM G (Pi (pcI r) (MW G b I (itL bkF A 16) J tw)) 0 0) 0 0 44 [(1, .int (nI k)), (0, .ref (b 0))] [] (MW G b I Ak J tw) := by
  intro n
  induction n with
  | zero =>
    intro k Ak hk hm hA
    exact absurd hm (by omega)
  | succ n ih =>
    intro k Ak hk hm hA
    refine z_iload_n d_X12_back_44 0 rfl ?_
    refine z_bipush (v := 16) d_X12_back_45 (by decide) ?_
    refine z_icmp_ge d_X12_back_47 (fun c_47 => ?_) (fun c_47 => ?_)
    · refine z_aload_n d_X12_back_128 1 rfl ?_
      refine z_get (v := .int (I 12)) 0 f_X12_90_12 rfl rfl d_X12_back_129 ?_
      refine z_callSp c_X12_119 (t_X12_bitsOf G (I 12) (MW G b I Ak J tw)) rfl rfl (Nat.le_of_ble_eq_true rfl) rfl d_X12_back_132 ?_
      exact z_iret _ d_X12_back_135 rfl (by have e9 : Ak = itL bkF A 16 := (by have h9 := ge_nI (N := 16) (by omega) (by decide) c_47; rw [hA, show k = 16 by omega]); subst e9; exact Pi.ofw (by rw [hr]) rfl)
    · have h9 := lt_nI (N := 16) (by omega) (by decide) c_47
      refine z_aload_n d_X12_back_50 1 rfl ?_
      refine z_get (v := .ref (b 7)) 0 f_X12_23_12 rfl rfl d_X12_back_51 ?_
      refine z_iload_n d_X12_back_54 0 rfl ?_
      refine z_aload_n d_X12_back_55 1 rfl ?_
      refine z_get (v := .ref (b 30)) 0 f_X12_41_12 rfl rfl d_X12_back_56 ?_
      refine z_iload_n d_X12_back_59 0 rfl ?_
      refine z_ialdN 9 k rfl (nI_toInt (by omega)) (by omega) d_X12_back_60 ?_
      refine z_iastN 4 k (MW G b I (vf_upd Ak 7 (upd (Ak 7) k ((Ak 30) k))) J tw) rfl (nI_toInt (by omega)) (by omega) (mw_7 G b I Ak J tw _) d_X12_back_61 ?_
      refine z_aload_n d_X12_back_62 1 rfl ?_
      refine z_get (v := .ref (b 8)) 0 f_X12_26_12 rfl rfl d_X12_back_63 ?_
      refine z_iload_n d_X12_back_66 0 rfl ?_
      refine z_aload_n d_X12_back_67 1 rfl ?_
      refine z_get (v := .ref (b 30)) 0 f_X12_41_12 rfl rfl d_X12_back_68 ?_
      refine z_bipush (v := 16) d_X12_back_71 (by decide) ?_
      refine z_iload_n d_X12_back_73 0 rfl ?_
      refine z_iadd d_X12_back_74 ?_
      refine z_ialdN 9 (16 + k) rfl (by rw [show (16 : Int32) = nI 16 from rfl, nI_add, nI_i (by omega)]) (by omega) d_X12_back_75 ?_
      refine z_iastN 5 k (MW G b I (vf_upd (vf_upd Ak 7 (upd (Ak 7) k ((Ak 30) k))) 8 (upd (Ak 8) k ((Ak 30) (16 + k)))) J tw) rfl (nI_toInt (by omega)) (by omega) (mw_8 G b I (vf_upd Ak 7 (upd (Ak 7) k ((Ak 30) k))) J tw _) d_X12_back_76 ?_
      refine z_aload_n d_X12_back_77 1 rfl ?_
      refine z_get (v := .ref (b 9)) 0 f_X12_29_12 rfl rfl d_X12_back_78 ?_
      refine z_iload_n d_X12_back_81 0 rfl ?_
      refine z_aload_n d_X12_back_82 1 rfl ?_
      refine z_get (v := .ref (b 30)) 0 f_X12_41_12 rfl rfl d_X12_back_83 ?_
      refine z_bipush (v := 32) d_X12_back_86 (by decide) ?_
      refine z_iload_n d_X12_back_88 0 rfl ?_
      refine z_iadd d_X12_back_89 ?_
      refine z_ialdN 9 (32 + k) rfl (by rw [show (32 : Int32) = nI 32 from rfl, nI_add, nI_i (by omega)]) (by omega) d_X12_back_90 ?_
      refine z_iastN 6 k (MW G b I (vf_upd (vf_upd (vf_upd Ak 7 (upd (Ak 7) k ((Ak 30) k))) 8 (upd (Ak 8) k ((Ak 30) (16 + k)))) 9 (upd (Ak 9) k ((Ak 30) (32 + k)))) J tw) rfl (nI_toInt (by omega)) (by omega) (mw_9 G b I (vf_upd (vf_upd Ak 7 (upd (Ak 7) k ((Ak 30) k))) 8 (upd (Ak 8) k ((Ak 30) (16 + k)))) J tw _) d_X12_back_91 ?_
      refine z_aload_n d_X12_back_92 1 rfl ?_
      refine z_get (v := .ref (b 10)) 0 f_X12_32_12 rfl rfl d_X12_back_93 ?_
      refine z_iload_n d_X12_back_96 0 rfl ?_
      refine z_aload_n d_X12_back_97 1 rfl ?_
      refine z_get (v := .ref (b 30)) 0 f_X12_41_12 rfl rfl d_X12_back_98 ?_
      refine z_bipush (v := 48) d_X12_back_101 (by decide) ?_
      refine z_iload_n d_X12_back_103 0 rfl ?_
      refine z_iadd d_X12_back_104 ?_
      refine z_ialdN 9 (48 + k) rfl (by rw [show (48 : Int32) = nI 48 from rfl, nI_add, nI_i (by omega)]) (by omega) d_X12_back_105 ?_
      refine z_iastN 7 k (MW G b I (vf_upd (vf_upd (vf_upd (vf_upd Ak 7 (upd (Ak 7) k ((Ak 30) k))) 8 (upd (Ak 8) k ((Ak 30) (16 + k)))) 9 (upd (Ak 9) k ((Ak 30) (32 + k)))) 10 (upd (Ak 10) k ((Ak 30) (48 + k)))) J tw) rfl (nI_toInt (by omega)) (by omega) (mw_10 G b I (vf_upd (vf_upd (vf_upd Ak 7 (upd (Ak 7) k ((Ak 30) k))) 8 (upd (Ak 8) k ((Ak 30) (16 + k)))) 9 (upd (Ak 9) k ((Ak 30) (32 + k)))) J tw _) d_X12_back_106 ?_
      refine z_aload_n d_X12_back_107 1 rfl ?_
      refine z_get (v := .ref (b 11)) 0 f_X12_35_12 rfl rfl d_X12_back_108 ?_
      refine z_iload_n d_X12_back_111 0 rfl ?_
      refine z_aload_n d_X12_back_112 1 rfl ?_
      refine z_get (v := .ref (b 30)) 0 f_X12_41_12 rfl rfl d_X12_back_113 ?_
      refine z_bipush (v := 64) d_X12_back_116 (by decide) ?_
      refine z_iload_n d_X12_back_118 0 rfl ?_
      refine z_iadd d_X12_back_119 ?_
      refine z_ialdN 9 (64 + k) rfl (by rw [show (64 : Int32) = nI 64 from rfl, nI_add, nI_i (by omega)]) (by omega) d_X12_back_120 ?_
      refine z_iastN 8 k (MW G b I (vf_upd (vf_upd (vf_upd (vf_upd (vf_upd Ak 7 (upd (Ak 7) k ((Ak 30) k))) 8 (upd (Ak 8) k ((Ak 30) (16 + k)))) 9 (upd (Ak 9) k ((Ak 30) (32 + k)))) 10 (upd (Ak 10) k ((Ak 30) (48 + k)))) 11 (upd (Ak 11) k ((Ak 30) (64 + k)))) J tw) rfl (nI_toInt (by omega)) (by omega) (mw_11 G b I (vf_upd (vf_upd (vf_upd (vf_upd Ak 7 (upd (Ak 7) k ((Ak 30) k))) 8 (upd (Ak 8) k ((Ak 30) (16 + k)))) 9 (upd (Ak 9) k ((Ak 30) (32 + k)))) 10 (upd (Ak 10) k ((Ak 30) (48 + k)))) J tw _) d_X12_back_121 ?_
      refine z_iinc (nI (k + 1)) [(1, .int (nI (k + 1))), (0, .ref (b 0))] 0 d_X12_back_122 rfl (nI_1 _) (by decide) rfl ?_
      refine z_goto d_X12_back_125 ?_
      exact ih (k + 1) _ (by omega) (by omega) (by rw [itL, ← hA]; rfl)
set_option maxHeartbeats 4000000 in
set_option maxRecDepth 100000 in
theorem t_X12_back (G : GT) (b : Nat → Nat) (I : Nat → Int32) (A : Nat → Nat → Int32) (J : Nat → Int32) (tw : Int64)  : Ct G mX12_back 1 0 0 [.ref (b 0)] (MW G b I A J tw) (Pi (bacR I) (MW G b (bacI I) (bacA I A) J tw)) := by
  refine Ct.intro [(0, .ref (b 0))] (by decide) rfl (Nat.le_of_ble_eq_true rfl) ?_
  refine z_aload_n d_X12_back_0 0 rfl ?_
  refine z_get (v := .int (I 31)) 0 f_X12_339_12 rfl rfl d_X12_back_1 ?_
  refine z_if_ne d_X12_back_4 (fun c_4 => ?_) (fun c_4 => ?_)
  · refine z_aload_n d_X12_back_10 0 rfl ?_
    refine z_aload_n d_X12_back_11 0 rfl ?_
    refine z_get (v := .int (I 32)) 0 f_X12_342_12 rfl rfl d_X12_back_12 ?_
    refine z_put 0 (MW G b (upd I 12 (I 32)) A J tw) p_X12_90_12 rfl rfl rfl (Nat.le_of_ble_eq_true rfl) (mw_12 G b I A J tw _) d_X12_back_15 ?_
    refine z_aload_n d_X12_back_18 0 rfl ?_
    refine z_aload_n d_X12_back_19 0 rfl ?_
    refine z_get (v := .int (I 33)) 0 f_X12_345_12 rfl rfl d_X12_back_20 ?_
    refine z_put 0 (MW G b (upd (upd I 12 (I 32)) 13 (I 33)) A J tw) p_X12_95_12 rfl rfl rfl (Nat.le_of_ble_eq_true rfl) (mw_13 G b (upd I 12 (I 32)) A J tw _) d_X12_back_23 ?_
    refine z_aload_n d_X12_back_26 0 rfl ?_
    refine z_aload_n d_X12_back_27 0 rfl ?_
    refine z_get (v := .int (I 34)) 0 f_X12_348_12 rfl rfl d_X12_back_28 ?_
    refine z_put 0 (MW G b (upd (upd (upd I 12 (I 32)) 13 (I 33)) 14 (I 34)) A J tw) p_X12_38_12 rfl rfl rfl (Nat.le_of_ble_eq_true rfl) (mw_14 G b (upd (upd I 12 (I 32)) 13 (I 33)) A J tw _) d_X12_back_31 ?_
    refine z_aload_n d_X12_back_34 0 rfl ?_
    refine z_aload_n d_X12_back_35 0 rfl ?_
    refine z_get (v := .int (I 35)) 0 f_X12_351_12 rfl rfl d_X12_back_36 ?_
    refine z_put 0 (MW G b (upd (upd (upd (upd I 12 (I 32)) 13 (I 33)) 14 (I 34)) 4 (I 35)) A J tw) p_X12_131_12 rfl rfl rfl (Nat.le_of_ble_eq_true rfl) (mw_4 G b (upd (upd (upd I 12 (I 32)) 13 (I 33)) 14 (I 34)) A J tw _) d_X12_back_39 ?_
    refine z_iconst (v := 0) d_X12_back_42 (by decide) ?_
    refine z_istore_n [(1, .int 0), (0, .ref (b 0))] d_X12_back_43 (by decide) rfl ?_
    rw [bacR, if_neg c_4, bacI, if_neg c_4, bacA, if_neg c_4]
    exact l_X12_back G b (bkI I) A J tw _ rfl 17 0 A (by omega) (by omega) rfl
  · refine z_bipush (v := -3) d_X12_back_7 (by decide) ?_
    exact z_iret _ d_X12_back_9 rfl (Pi.ofw (by rw [bacR, if_pos c_4]) (by rw [bacI, if_pos c_4, bacA, if_pos c_4]))
