/-! THE REFERENCE: least pull, best, build -/
theorem sb_01 {x : Int32} {k : Nat} (hk : k < 32) : x >>> (nI k &&& 31) &&& 1 = 0 ∨ x >>> (nI k &&& 31) &&& 1 = 1 := by
  rw [sb_eq hk]; split
  · exact Or.inr rfl
  · exact Or.inl rfl
def lsF (cd : CD) (I : Nat → Int32) (A : Nat → Nat → Int32) (set on : Int32) (k : Nat) (a : Int32 × Int32) : Int32 × Int32 := if on >>> (nI k &&& 31) &&& 1 = 1 then (if a.1 = -1 then (nI k, hoS cd I A k set) else if hoS cd I A k set < a.2 then (nI k, hoS cd I A k set) else a) else a
def lsP (cd : CD) (I : Nat → Int32) (A : Nat → Nat → Int32) (set on : Int32) (n : Nat) : Int32 × Int32 := itL (lsF cd I A set on) (-1, 0) n
def ltR (cd : CD) (I : Nat → Int32) (A : Nat → Nat → Int32) : Nat → Int32 → Int32 → Int32 → Int32 × Int32
  | 0, set, _, most => (set, most)
  | f + 1, set, on, most => if on = 0 then (set, most) else ltR cd I A f (set &&& (1 <<< ((lsP cd I A set on 16).1 &&& 31) ^^^ (-1))) (on &&& (1 <<< ((lsP cd I A set on 16).1 &&& 31) ^^^ (-1))) (if most < (lsP cd I A set on 16).2 then (lsP cd I A set on 16).2 else most)
def ltE (A : Nat → Nat → Int32) (what : Int32) (p : Int32 × Int32) : Int32 := if what = 0 then p.2 + 1 else pcI (lvA A p.1)
def leaS (cd : CD) (I : Nat → Int32) (A : Nat → Nat → Int32) (c what : Int32) : Int32 := if (okC c && inB what 0 1) = true then (if atS A c (I 12) = 0 then -1 else ltE A what (ltR cd I A 33 (I 12) (atS A c (I 12)) 0)) else -2
theorem ls_inv (cd : CD) (I : Nat → Int32) (A : Nat → Nat → Int32) (set on : Int32) : ∀ n, n ≤ 16 → ((∀ k, k < n → bt on k = false) ∧ (lsP cd I A set on n).1 = -1) ∨ ∃ k, k < n ∧ bt on k = true ∧ (lsP cd I A set on n).1 = nI k
  | 0, _ => Or.inl ⟨fun k hk => by omega, rfl⟩
  | n + 1, hn => by
    have ih := ls_inv cd I A set on n (by omega)
    have e : lsP cd I A set on (n + 1) = lsF cd I A set on n (lsP cd I A set on n) := rfl
    rw [e]
    generalize lsP cd I A set on n = a at ih
    unfold lsF
    by_cases hb : bt on n = true
    · rw [if_pos ((sb1 (by omega)).mpr hb)]
      rcases ih with ⟨h1, h2⟩ | ⟨k, h1, h2, h3⟩
      · rw [if_pos h2]; exact Or.inr ⟨n, by omega, hb, rfl⟩
      · split
        · exact Or.inr ⟨n, by omega, hb, rfl⟩
        · split
          · exact Or.inr ⟨n, by omega, hb, rfl⟩
          · exact Or.inr ⟨k, by omega, h2, h3⟩
    · rw [if_neg (fun h => hb ((sb1 (by omega)).mp h))]
      rcases ih with ⟨h1, h2⟩ | ⟨k, h1, h2, h3⟩
      · refine Or.inl ⟨fun k hk => ?_, h2⟩
        by_cases hkn : k = n
        · rw [hkn]; cases hc : bt on n with
          | false => rfl
          | true => exact absurd hc hb
        · exact h1 k (by omega)
      · exact Or.inr ⟨k, by omega, h2, h3⟩
theorem ls_bit {cd : CD} {I : Nat → Int32} {A : Nat → Nat → Int32} {set on : Int32} (hS : S16 on) (h : ¬ on = 0) : ∃ k, k < 16 ∧ bt on k = true ∧ (lsP cd I A set on 16).1 = nI k := by
  rcases ls_inv cd I A set on 16 (Nat.le_refl _) with ⟨h1, -⟩ | h1
  · obtain ⟨k, hk, hb⟩ := bt_ne h
    rcases Nat.lt_or_ge k 16 with h2 | h2
    · rw [h1 k h2] at hb; exact absurd hb (by decide)
    · rw [hS k h2 hk] at hb; exact absurd hb (by decide)
  · exact h1
theorem ls_lt {cd : CD} {I : Nat → Int32} {A : Nat → Nat → Int32} {set on : Int32} (hS : S16 on) (h : ¬ on = 0) : pcn (on &&& (1 <<< ((lsP cd I A set on 16).1 &&& 31) ^^^ (-1))) + 1 = pcn on := by
  obtain ⟨k, hk, hb, e⟩ := ls_bit (cd := cd) (I := I) (A := A) (set := set) hS h
  rw [e]; exact pcn_del (by omega) hb
theorem atS_16 (A : Nat → Nat → Int32) (c set : Int32) : S16 (atS A c set) := orS_16 (onF A c set)
set_option maxHeartbeats 4000000 in
set_option maxRecDepth 100000 in
theorem l_X12_least_64 (G : GT) (b : Nat → Nat) (I : Nat → Int32) (A : Nat → Nat → Int32) (t : Nat) (cd : CD) (hT : TxOk A t cd) (h4 : I 4 = nI t) (c what set most on : Int32) (E : Option Value → va_W → Prop) (hK : ∀ (J : Nat → Int32) (tw : Int64), Tr G mX12_least (Rm 43 0 0) (OM G E 0 0) 0 0 50 [(5, .int (on &&& (1 <<< ((lsP cd I A set on 16).1 &&& 31) ^^^ (-1)))), (4, .int (if most < (lsP cd I A set on 16).2 then (lsP cd I A set on 16).2 else most)), (3, .int (set &&& (1 <<< ((lsP cd I A set on 16).1 &&& 31) ^^^ (-1)))), (2, .int what), (1, .int c), (0, .ref (b 0))] [] (MW G b I A J tw)) : ∀ (n : Nat)  (k : Nat) (J : Nat → Int32) (tw : Int64) (a1 a2 : Int32) (hk : k ≤ 16) (hm : 16 < k + n) (ha : (a1, a2) = lsP cd I A set on k), Tr G mX12_least (Rm 43 0 0) (OM G E 0 0) 0 0 64 [(8, .int (nI k)), (7, .int a2), (6, .int a1), (5, .int on), (4, .int most), (3, .int set), (2, .int what), (1, .int c), (0, .ref (b 0))] [] (MW G b I A J tw) := by
  intro n
  induction n with
  | zero =>
    intro k J tw a1 a2 hk hm ha
    exact absurd hm (by omega)
  | succ n ih =>
    intro k J tw a1 a2 hk hm ha
    refine z_iload d_X12_least_64 0 rfl ?_
    refine z_bipush (v := 16) d_X12_least_66 (by decide) ?_
    refine z_icmp_ge d_X12_least_68 (fun c_68 => ?_) (fun c_68 => ?_)
    · have h9 := ge_nI (N := 16) (by omega) (by decide) c_68
      rw [← show k = 16 by omega, ← ha] at hK
      refine z_iload d_X12_least_135 1 rfl ?_
      refine z_iload d_X12_least_137 4 rfl ?_
      refine z_icmp_le d_X12_least_139 (fun c_139 => ?_) (fun c_139 => ?_)
      · refine z_iload d_X12_least_147 4 rfl ?_
        refine z_istore [(4, .int most), (8, .int (nI k)), (7, .int a2), (6, .int a1), (5, .int on), (3, .int set), (2, .int what), (1, .int c), (0, .ref (b 0))] d_X12_least_149 (by decide) rfl ?_
        refine z_iload_n d_X12_least_151 5 rfl ?_
        refine z_iconst (v := 1) d_X12_least_152 (by decide) ?_
        refine z_iload d_X12_least_153 3 rfl ?_
        refine z_ishl d_X12_least_155 ?_
        refine z_iconst (v := -1) d_X12_least_156 (by decide) ?_
        refine z_ixor d_X12_least_157 ?_
        refine z_iand d_X12_least_158 ?_
        refine z_istore_n [(3, .int (set &&& ((1 <<< (a1 &&& 31)) ^^^ (-1)))), (4, .int most), (8, .int (nI k)), (7, .int a2), (6, .int a1), (5, .int on), (2, .int what), (1, .int c), (0, .ref (b 0))] d_X12_least_159 (by decide) rfl ?_
        refine z_iload d_X12_least_160 5 rfl ?_
        refine z_iconst (v := 1) d_X12_least_162 (by decide) ?_
        refine z_iload d_X12_least_163 4 rfl ?_
        refine z_ishl d_X12_least_165 ?_
        refine z_iconst (v := -1) d_X12_least_166 (by decide) ?_
        refine z_ixor d_X12_least_167 ?_
        refine z_iand d_X12_least_168 ?_
        refine z_istore [(5, .int (on &&& ((1 <<< (a1 &&& 31)) ^^^ (-1)))), (3, .int (set &&& ((1 <<< (a1 &&& 31)) ^^^ (-1)))), (4, .int most), (8, .int (nI k)), (7, .int a2), (6, .int a1), (2, .int what), (1, .int c), (0, .ref (b 0))] d_X12_least_169 (by decide) rfl ?_
        refine z_goto d_X12_least_171 ?_
        refine z_perm [0, 2, 1, 6, 7, 8] rfl ?_
        have h8 := hK J tw
        simp only [c_139, ↓reduceIte] at h8
        exact h8
      · refine z_iload d_X12_least_142 1 rfl ?_
        refine z_goto d_X12_least_144 ?_
        refine z_istore [(4, .int a2), (8, .int (nI k)), (7, .int a2), (6, .int a1), (5, .int on), (3, .int set), (2, .int what), (1, .int c), (0, .ref (b 0))] d_X12_least_149 (by decide) rfl ?_
        refine z_iload_n d_X12_least_151 5 rfl ?_
        refine z_iconst (v := 1) d_X12_least_152 (by decide) ?_
        refine z_iload d_X12_least_153 3 rfl ?_
        refine z_ishl d_X12_least_155 ?_
        refine z_iconst (v := -1) d_X12_least_156 (by decide) ?_
        refine z_ixor d_X12_least_157 ?_
        refine z_iand d_X12_least_158 ?_
        refine z_istore_n [(3, .int (set &&& ((1 <<< (a1 &&& 31)) ^^^ (-1)))), (4, .int a2), (8, .int (nI k)), (7, .int a2), (6, .int a1), (5, .int on), (2, .int what), (1, .int c), (0, .ref (b 0))] d_X12_least_159 (by decide) rfl ?_
        refine z_iload d_X12_least_160 5 rfl ?_
        refine z_iconst (v := 1) d_X12_least_162 (by decide) ?_
        refine z_iload d_X12_least_163 4 rfl ?_
        refine z_ishl d_X12_least_165 ?_
        refine z_iconst (v := -1) d_X12_least_166 (by decide) ?_
        refine z_ixor d_X12_least_167 ?_
        refine z_iand d_X12_least_168 ?_
        refine z_istore [(5, .int (on &&& ((1 <<< (a1 &&& 31)) ^^^ (-1)))), (3, .int (set &&& ((1 <<< (a1 &&& 31)) ^^^ (-1)))), (4, .int a2), (8, .int (nI k)), (7, .int a2), (6, .int a1), (2, .int what), (1, .int c), (0, .ref (b 0))] d_X12_least_169 (by decide) rfl ?_
        refine z_goto d_X12_least_171 ?_
        refine z_perm [0, 2, 1, 6, 7, 8] rfl ?_
        have h8 := hK J tw
        simp only [c_139, ↓reduceIte] at h8
        exact h8
    · have h9 := lt_nI (N := 16) (by omega) (by decide) c_68
      refine z_iload d_X12_least_71 3 rfl ?_
      refine z_iload d_X12_least_73 0 rfl ?_
      refine z_ishr d_X12_least_75 ?_
      refine z_iconst (v := 1) d_X12_least_76 (by decide) ?_
      refine z_iand d_X12_least_77 ?_
      refine z_iconst (v := 1) d_X12_least_78 (by decide) ?_
      refine z_icmp_ne d_X12_least_79 (fun c_79 => ?_) (fun c_79 => ?_)
      · refine z_iconst (v := 0) d_X12_least_92 (by decide) ?_
        refine z_istore [(9, .int 0), (8, .int (nI k)), (7, .int a2), (6, .int a1), (5, .int on), (4, .int most), (3, .int set), (2, .int what), (1, .int c), (0, .ref (b 0))] d_X12_least_93 (by decide) rfl ?_
        refine z_iload d_X12_least_95 4 rfl ?_
        refine z_iload d_X12_least_97 1 rfl ?_
        refine z_ishr d_X12_least_99 ?_
        refine z_iconst (v := 1) d_X12_least_100 (by decide) ?_
        refine z_iand d_X12_least_101 ?_
        refine z_if_eq d_X12_least_102 (fun c_102 => ?_) (fun c_102 => ?_)
        rotate_left
        · exact absurd ((sb_01 (by omega)).resolve_left c_102) c_79
        refine z_iinc (nI (k + 1)) [(8, .int (nI (k + 1))), (9, .int 0), (7, .int a2), (6, .int a1), (5, .int on), (4, .int most), (3, .int set), (2, .int what), (1, .int c), (0, .ref (b 0))] 1 d_X12_least_129 rfl (nI_1 _) (by decide) rfl ?_
        refine z_goto d_X12_least_132 ?_
        refine z_perm [0, 2, 3, 4, 5, 6, 7, 8, 9] rfl ?_
        exact ih (k + 1) _ _ a1 a2 (by omega) (by omega) (by show _ = lsF cd I A set on k (lsP cd I A set on k); rw [← ha]; clear ha ih hK; unfold lsF; simp [*])
      · refine z_aload_n d_X12_least_82 8 rfl ?_
        refine z_iload d_X12_least_83 0 rfl ?_
        refine z_iload_n d_X12_least_85 5 rfl ?_
        refine z_callV 0 c_X12_154 rfl rfl (t_X12_holdOf G b I A J tw t cd hT h4 k set (by omega)) rfl rfl (Nat.le_of_ble_eq_true rfl) rfl d_X12_least_86 ?_
        rintro v86 w86 ⟨rfl, J86, tw86, rfl⟩
        refine z_goto d_X12_least_89 ?_
        refine z_istore [(9, .int (hoS cd I A k set)), (8, .int (nI k)), (7, .int a2), (6, .int a1), (5, .int on), (4, .int most), (3, .int set), (2, .int what), (1, .int c), (0, .ref (b 0))] d_X12_least_93 (by decide) rfl ?_
        refine z_iload d_X12_least_95 4 rfl ?_
        refine z_iload d_X12_least_97 1 rfl ?_
        refine z_ishr d_X12_least_99 ?_
        refine z_iconst (v := 1) d_X12_least_100 (by decide) ?_
        refine z_iand d_X12_least_101 ?_
        refine z_if_eq d_X12_least_102 (fun c_102 => ?_) (fun c_102 => ?_)
        · exact absurd c_102 (by rw [c_79]; decide)
        refine z_iload d_X12_least_105 3 rfl ?_
        refine z_iconst (v := -1) d_X12_least_107 (by decide) ?_
        refine z_icmp_eq d_X12_least_108 (fun c_108 => ?_) (fun c_108 => ?_)
        · refine z_iload d_X12_least_121 1 rfl ?_
          refine z_istore [(6, .int (nI k)), (9, .int (hoS cd I A k set)), (8, .int (nI k)), (7, .int a2), (5, .int on), (4, .int most), (3, .int set), (2, .int what), (1, .int c), (0, .ref (b 0))] d_X12_least_123 (by decide) rfl ?_
          refine z_iload d_X12_least_125 1 rfl ?_
          refine z_istore [(7, .int (hoS cd I A k set)), (6, .int (nI k)), (9, .int (hoS cd I A k set)), (8, .int (nI k)), (5, .int on), (4, .int most), (3, .int set), (2, .int what), (1, .int c), (0, .ref (b 0))] d_X12_least_127 (by decide) rfl ?_
          refine z_iinc (nI (k + 1)) [(8, .int (nI (k + 1))), (7, .int (hoS cd I A k set)), (6, .int (nI k)), (9, .int (hoS cd I A k set)), (5, .int on), (4, .int most), (3, .int set), (2, .int what), (1, .int c), (0, .ref (b 0))] 3 d_X12_least_129 rfl (nI_1 _) (by decide) rfl ?_
          refine z_goto d_X12_least_132 ?_
          refine z_perm [0, 1, 2, 4, 5, 6, 7, 8, 9] rfl ?_
          exact ih (k + 1) _ _ (nI k) (hoS cd I A k set) (by omega) (by omega) (by show _ = lsF cd I A set on k (lsP cd I A set on k); rw [← ha]; clear ha ih hK; unfold lsF; simp [*])
        · refine z_iload d_X12_least_111 0 rfl ?_
          refine z_iload d_X12_least_113 2 rfl ?_
          refine z_icmp_lt d_X12_least_115 (fun c_115 => ?_) (fun c_115 => ?_)
          · refine z_iload d_X12_least_121 1 rfl ?_
            refine z_istore [(6, .int (nI k)), (9, .int (hoS cd I A k set)), (8, .int (nI k)), (7, .int a2), (5, .int on), (4, .int most), (3, .int set), (2, .int what), (1, .int c), (0, .ref (b 0))] d_X12_least_123 (by decide) rfl ?_
            refine z_iload d_X12_least_125 1 rfl ?_
            refine z_istore [(7, .int (hoS cd I A k set)), (6, .int (nI k)), (9, .int (hoS cd I A k set)), (8, .int (nI k)), (5, .int on), (4, .int most), (3, .int set), (2, .int what), (1, .int c), (0, .ref (b 0))] d_X12_least_127 (by decide) rfl ?_
            refine z_iinc (nI (k + 1)) [(8, .int (nI (k + 1))), (7, .int (hoS cd I A k set)), (6, .int (nI k)), (9, .int (hoS cd I A k set)), (5, .int on), (4, .int most), (3, .int set), (2, .int what), (1, .int c), (0, .ref (b 0))] 3 d_X12_least_129 rfl (nI_1 _) (by decide) rfl ?_
            refine z_goto d_X12_least_132 ?_
            refine z_perm [0, 1, 2, 4, 5, 6, 7, 8, 9] rfl ?_
            exact ih (k + 1) _ _ (nI k) (hoS cd I A k set) (by omega) (by omega) (by show _ = lsF cd I A set on k (lsP cd I A set on k); rw [← ha]; clear ha ih hK; unfold lsF; simp [*])
          · refine z_goto d_X12_least_118 ?_
            refine z_iinc (nI (k + 1)) [(8, .int (nI (k + 1))), (9, .int (hoS cd I A k set)), (7, .int a2), (6, .int a1), (5, .int on), (4, .int most), (3, .int set), (2, .int what), (1, .int c), (0, .ref (b 0))] 1 d_X12_least_129 rfl (nI_1 _) (by decide) rfl ?_
            refine z_goto d_X12_least_132 ?_
            refine z_perm [0, 2, 3, 4, 5, 6, 7, 8, 9] rfl ?_
            exact ih (k + 1) _ _ a1 a2 (by omega) (by omega) (by show _ = lsF cd I A set on k (lsP cd I A set on k); rw [← ha]; clear ha ih hK; unfold lsF; simp [*])
set_option maxHeartbeats 4000000 in
set_option maxRecDepth 100000 in
theorem l_X12_least_50 (G : GT) (b : Nat → Nat) (I : Nat → Int32) (A : Nat → Nat → Int32) (t : Nat) (cd : CD) (hT : TxOk A t cd) (h4 : I 4 = nI t) (c what : Int32) : ∀ (f : Nat)  (J : Nat → Int32) (tw : Int64) (set on most : Int32) (hS : S16 on) (hm : pcn on < f), Tr G mX12_least (Rm 43 0 0) (OM G (Pj G b (ltE A what (ltR cd I A f set on most)) I A) 0 0) 0 0 50 [(5, .int on), (4, .int most), (3, .int set), (2, .int what), (1, .int c), (0, .ref (b 0))] [] (MW G b I A J tw) := by
  intro f
  induction f with
  | zero =>
    intro J tw set on most hS hm
    exact absurd hm (by omega)
  | succ f ih =>
    intro J tw set on most hS hm
    refine z_iload d_X12_least_50 0 rfl ?_
    refine z_if_eq d_X12_least_52 (fun c_52 => ?_) (fun c_52 => ?_)
    · refine z_iload_n d_X12_least_174 3 rfl ?_
      refine z_if_ne d_X12_least_175 (fun c_175 => ?_) (fun c_175 => ?_)
      · refine z_iload_n d_X12_least_185 2 rfl ?_
        refine z_aload_n d_X12_least_186 5 rfl ?_
        refine z_iload_n d_X12_least_187 2 rfl ?_
        refine z_callVp 0 c_X12_299 (t_X12_fallsOf G b I A J tw set) rfl rfl rfl rfl (Nat.le_of_ble_eq_true rfl) rfl d_X12_least_188 ?_
        refine z_iconst (v := -1) d_X12_least_191 (by decide) ?_
        refine z_ixor d_X12_least_192 ?_
        refine z_iand d_X12_least_193 ?_
        refine z_callSp c_X12_119 (t_X12_bitsOf G (set &&& ((faS A set) ^^^ (-1))) (MW G b I A J tw)) rfl rfl (Nat.le_of_ble_eq_true rfl) rfl d_X12_least_194 ?_
        exact z_iret _ d_X12_least_197 rfl (Pj.of (by rw [ltR, if_pos c_52, ltE]; simp only [c_175, ↓reduceIte] <;> rfl))
      · refine z_iload d_X12_least_178 1 rfl ?_
        refine z_iconst (v := 1) d_X12_least_180 (by decide) ?_
        refine z_iadd d_X12_least_181 ?_
        refine z_goto d_X12_least_182 ?_
        exact z_iret _ d_X12_least_197 rfl (Pj.of (by rw [ltR, if_pos c_52, ltE]; simp only [c_175, ↓reduceIte] <;> rfl))
    · refine z_iconst (v := -1) d_X12_least_55 (by decide) ?_
      refine z_istore [(6, .int (-1)), (5, .int on), (4, .int most), (3, .int set), (2, .int what), (1, .int c), (0, .ref (b 0))] d_X12_least_56 (by decide) rfl ?_
      refine z_iconst (v := 0) d_X12_least_58 (by decide) ?_
      refine z_istore [(7, .int 0), (6, .int (-1)), (5, .int on), (4, .int most), (3, .int set), (2, .int what), (1, .int c), (0, .ref (b 0))] d_X12_least_59 (by decide) rfl ?_
      refine z_iconst (v := 0) d_X12_least_61 (by decide) ?_
      refine z_istore [(8, .int 0), (7, .int 0), (6, .int (-1)), (5, .int on), (4, .int most), (3, .int set), (2, .int what), (1, .int c), (0, .ref (b 0))] d_X12_least_62 (by decide) rfl ?_
      refine l_X12_least_64 G b I A t cd hT h4 c what set most on _ (fun J9 tw9 => ?_) 17 0 _ _ (-1) 0 (by omega) (by omega) rfl
      rw [ltR, if_neg c_52]
      exact ih J9 tw9 _ _ _ hS.and (by have := ls_lt (cd := cd) (I := I) (A := A) (set := set) hS c_52; omega)
set_option maxHeartbeats 4000000 in
set_option maxRecDepth 100000 in
theorem t_X12_least (G : GT) (b : Nat → Nat) (I : Nat → Int32) (A : Nat → Nat → Int32) (J : Nat → Int32) (tw : Int64) (t : Nat) (cd : CD) (hT : TxOk A t cd) (h4 : I 4 = nI t) (c : Int32) (what : Int32)  : Ct G mX12_least 43 0 0 [.ref (b 0), .int c, .int what] (MW G b I A J tw) (Pj G b (leaS cd I A c what) (I) (A)) := by
  refine Ct.intro [(0, .ref (b 0)), (1, .int c), (2, .int what)] (by decide) rfl (Nat.le_of_ble_eq_true rfl) ?_
  refine z_iload_n d_X12_least_0 1 rfl ?_
  refine z_callSp c_X12_157 (t_X12_isCrossing G c (MW G b I A J tw)) rfl rfl (Nat.le_of_ble_eq_true rfl) rfl d_X12_least_1 ?_
  refine z_if_eq d_X12_least_4 (fun c_4 => ?_) (fun c_4 => ?_)
  · have h9 : ¬ (okC c && inB what 0 1) = true := by simp only [in_b, b01_0, b01_n0, L_0, L_1] at *; simp [inB, *]
    refine z_bipush (v := -2) d_X12_least_17 (by decide) ?_
    exact z_iret _ d_X12_least_19 rfl (Pj.of (by rw [leaS, if_neg h9]))
  · refine z_iload_n d_X12_least_7 2 rfl ?_
    refine z_i2l d_X12_least_8 ?_
    refine z_lconst (v := 0) d_X12_least_9 (by decide) ?_
    refine z_lconst (v := 1) d_X12_least_10 (by decide) ?_
    refine z_callSp c_X12_82 (t_X12_in G what.toInt64 0 1 (MW G b I A J tw)) rfl rfl (Nat.le_of_ble_eq_true rfl) rfl d_X12_least_11 ?_
    refine z_if_ne d_X12_least_14 (fun c_14 => ?_) (fun c_14 => ?_)
    · have h9 : (okC c && inB what 0 1) = true := by simp only [in_b, b01_0, b01_n0, L_0, L_1] at * <;> simp only [inB, *] <;> rfl
      refine z_aload_n d_X12_least_20 0 rfl ?_
      refine z_iload_n d_X12_least_21 1 rfl ?_
      refine z_aload_n d_X12_least_22 0 rfl ?_
      refine z_get (v := .int (I 12)) 0 f_X12_90_12 rfl rfl d_X12_least_23 ?_
      refine z_callVp 0 c_X12_127 (t_X12_at1 G b I A J tw c (I 12)) rfl rfl rfl rfl (Nat.le_of_ble_eq_true rfl) rfl d_X12_least_26 ?_
      refine z_if_ne d_X12_least_29 (fun c_29 => ?_) (fun c_29 => ?_)
      · refine z_aload_n d_X12_least_34 0 rfl ?_
        refine z_get (v := .int (I 12)) 0 f_X12_90_12 rfl rfl d_X12_least_35 ?_
        refine z_istore_n [(3, .int (I 12)), (0, .ref (b 0)), (1, .int c), (2, .int what)] d_X12_least_38 (by decide) rfl ?_
        refine z_iconst (v := 0) d_X12_least_39 (by decide) ?_
        refine z_istore [(4, .int 0), (3, .int (I 12)), (0, .ref (b 0)), (1, .int c), (2, .int what)] d_X12_least_40 (by decide) rfl ?_
        refine z_aload_n d_X12_least_42 2 rfl ?_
        refine z_iload_n d_X12_least_43 3 rfl ?_
        refine z_iload_n d_X12_least_44 1 rfl ?_
        refine z_callVp 0 c_X12_127 (t_X12_at1 G b I A J tw c (I 12)) rfl rfl rfl rfl (Nat.le_of_ble_eq_true rfl) rfl d_X12_least_45 ?_
        refine z_istore [(5, .int (atS A c (I 12))), (4, .int 0), (3, .int (I 12)), (0, .ref (b 0)), (1, .int c), (2, .int what)] d_X12_least_48 (by decide) rfl ?_
        refine z_perm [0, 1, 2, 5, 4, 3] rfl ?_
        rw [leaS, if_pos h9, if_neg c_29]
        exact l_X12_least_50 G b I A t cd hT h4 c what 33 _ _ (I 12) (atS A c (I 12)) 0 (atS_16 A c (I 12)) (by have := pcn_16 (atS_16 A c (I 12)); omega)
      · refine z_iconst (v := -1) d_X12_least_32 (by decide) ?_
        exact z_iret _ d_X12_least_33 rfl (Pj.of (by rw [leaS, if_pos h9, if_pos c_29]))
    · have h9 : ¬ (okC c && inB what 0 1) = true := by simp only [in_b, b01_0, b01_n0, L_0, L_1] at *; simp [inB, *]
      refine z_bipush (v := -2) d_X12_least_17 (by decide) ?_
      exact z_iret _ d_X12_least_19 rfl (Pj.of (by rw [leaS, if_neg h9]))
