/-! THE NET of class X: holes, what one becomes, BEST -/
theorem z_topv {G : GT} {μ : Mu} {R : Room} {O : OT} {cs ss pc : Nat} {lv : List (Nat × Value)} {st : List Value} {ws : va_W} {u v : Value} (h : u = v) (k : Tr G μ R O cs ss pc lv (v :: st) ws) : Tr G μ R O cs ss pc lv (u :: st) ws := by rw [h]; exact k
set_option maxHeartbeats 4000000 in
set_option maxRecDepth 100000 in
theorem l_X4_isEnclosed (G : GT) (set : Int32) (k : Nat) (hk : k < 25) (ws : va_W) : ∀ (n : Nat) (i : Nat) (l r9 a9 b9 : Bool) (hi : i ≤ 5) (hm : 5 < i + n) (hl : l = exB (eL set k) i) (hr : r9 = exB (eR set k) i) (hA : a9 = exB (eA set k) i) (hB : b9 = exB (eB set k) i), Tr G mX4_isEnclosed (Rm 0 0 0) (OM G (Pi (b01 (enQ set k)) ws) 0 0) 0 0 23 [(8, .int (nI i)), (7, .int (b01 b9)), (6, .int (b01 a9)), (5, .int (b01 r9)), (4, .int (b01 l)), (3, .int (nI (k / 5))), (2, .int (nI (k % 5))), (1, .int set), (0, .int (nI k))] [] ws := by
  intro n
  induction n with
  | zero =>
    intro i l r9 a9 b9 hi hm hl hr hA hB
    exact absurd hm (by omega)
  | succ n ih =>
    intro i l r9 a9 b9 hi hm hl hr hA hB
    refine z_iload d_X4_isEnclosed_23 0 rfl ?_
    refine z_iconst (v := 5) d_X4_isEnclosed_25 (by decide) ?_
    refine z_icmp_ge d_X4_isEnclosed_26 (fun c_26 => ?_) (fun c_26 => ?_)
    · refine z_iload d_X4_isEnclosed_159 4 rfl ?_
      refine z_if_eq d_X4_isEnclosed_161 (fun c_161 => ?_) (fun c_161 => ?_)
      · refine z_iconst (v := 0) d_X4_isEnclosed_183 (by decide) ?_
        exact z_zret _ d_X4_isEnclosed_184 rfl (by first | rfl | decide) (Pi.of (by have h9 := ge_nI (N := 5) (by omega) (by decide) c_26; have e5 : i = 5 := (by omega); subst e5; rw [enQ, ← hl, ← hr, ← hA, ← hB, b01_z c_161]; rfl))
      · refine z_iload d_X4_isEnclosed_164 3 rfl ?_
        refine z_if_eq d_X4_isEnclosed_166 (fun c_166 => ?_) (fun c_166 => ?_)
        · refine z_iconst (v := 0) d_X4_isEnclosed_183 (by decide) ?_
          exact z_zret _ d_X4_isEnclosed_184 rfl (by first | rfl | decide) (Pi.of (by have h9 := ge_nI (N := 5) (by omega) (by decide) c_26; have e5 : i = 5 := (by omega); subst e5; rw [enQ, ← hl, ← hr, ← hA, ← hB, b01_z c_166, Bool.false_and, Bool.and_false]; rfl))
        · refine z_iload d_X4_isEnclosed_169 2 rfl ?_
          refine z_if_eq d_X4_isEnclosed_171 (fun c_171 => ?_) (fun c_171 => ?_)
          · refine z_iconst (v := 0) d_X4_isEnclosed_183 (by decide) ?_
            exact z_zret _ d_X4_isEnclosed_184 rfl (by first | rfl | decide) (Pi.of (by have h9 := ge_nI (N := 5) (by omega) (by decide) c_26; have e5 : i = 5 := (by omega); subst e5; rw [enQ, ← hl, ← hr, ← hA, ← hB, b01_z c_171, Bool.false_and, Bool.and_false, Bool.and_false]; rfl))
          · refine z_iload d_X4_isEnclosed_174 1 rfl ?_
            refine z_if_eq d_X4_isEnclosed_176 (fun c_176 => ?_) (fun c_176 => ?_)
            · refine z_iconst (v := 0) d_X4_isEnclosed_183 (by decide) ?_
              exact z_zret _ d_X4_isEnclosed_184 rfl (by first | rfl | decide) (Pi.of (by have h9 := ge_nI (N := 5) (by omega) (by decide) c_26; have e5 : i = 5 := (by omega); subst e5; rw [enQ, ← hl, ← hr, ← hA, ← hB, b01_z c_176, Bool.and_false, Bool.and_false, Bool.and_false]; rfl))
            · refine z_iconst (v := 1) d_X4_isEnclosed_179 (by decide) ?_
              refine z_goto d_X4_isEnclosed_180 ?_
              exact z_zret _ d_X4_isEnclosed_184 rfl (by first | rfl | decide) (Pi.of (by have h9 := ge_nI (N := 5) (by omega) (by decide) c_26; have e5 : i = 5 := (by omega); subst e5; rw [enQ, ← hl, ← hr, ← hA, ← hB, b01_o c_161, b01_o c_166, b01_o c_171, b01_o c_176]; rfl))
    · have h9 : i < 5 := lt_nI (by omega) (by decide) c_26
      refine z_iload_n d_X4_isEnclosed_29 7 rfl ?_
      refine z_iconst (v := 5) d_X4_isEnclosed_30 (by decide) ?_
      refine z_iload_n d_X4_isEnclosed_31 5 rfl ?_
      refine z_imul d_X4_isEnclosed_32 ?_
      refine z_iload d_X4_isEnclosed_33 0 rfl ?_
      refine z_iadd d_X4_isEnclosed_35 ?_
      refine z_ishr d_X4_isEnclosed_36 ?_
      refine z_iconst (v := 1) d_X4_isEnclosed_37 (by decide) ?_
      refine z_iand d_X4_isEnclosed_38 ?_
      refine z_if_eq d_X4_isEnclosed_39 (fun c_39 => ?_) (fun c_39 => ?_)
      · refine z_iconst (v := 0) d_X4_isEnclosed_46 (by decide) ?_
        refine z_istore [(9, .int 0), (8, .int (nI i)), (7, .int (b01 b9)), (6, .int (b01 a9)), (5, .int (b01 r9)), (4, .int (b01 l)), (3, .int (nI (k / 5))), (2, .int (nI (k % 5))), (1, .int set), (0, .int (nI k))] d_X4_isEnclosed_47 (by decide) rfl ?_
        refine z_iload_n d_X4_isEnclosed_49 8 rfl ?_
        refine z_iconst (v := 5) d_X4_isEnclosed_50 (by decide) ?_
        refine z_iload d_X4_isEnclosed_51 1 rfl ?_
        refine z_imul d_X4_isEnclosed_53 ?_
        refine z_iload_n d_X4_isEnclosed_54 7 rfl ?_
        refine z_iadd d_X4_isEnclosed_55 ?_
        refine z_ishr d_X4_isEnclosed_56 ?_
        refine z_iconst (v := 1) d_X4_isEnclosed_57 (by decide) ?_
        refine z_iand d_X4_isEnclosed_58 ?_
        refine z_if_eq d_X4_isEnclosed_59 (fun c_59 => ?_) (fun c_59 => ?_)
        · refine z_iconst (v := 0) d_X4_isEnclosed_66 (by decide) ?_
          refine z_istore [(10, .int 0), (9, .int 0), (8, .int (nI i)), (7, .int (b01 b9)), (6, .int (b01 a9)), (5, .int (b01 r9)), (4, .int (b01 l)), (3, .int (nI (k / 5))), (2, .int (nI (k % 5))), (1, .int set), (0, .int (nI k))] d_X4_isEnclosed_67 (by decide) rfl ?_
          refine z_iload d_X4_isEnclosed_69 6 rfl ?_
          refine z_iload d_X4_isEnclosed_71 1 rfl ?_
          refine z_if_eq d_X4_isEnclosed_73 (fun c_73 => ?_) (fun c_73 => ?_)
          rotate_left
          · exact absurd c_73 (by decide)
          refine z_iconst (v := 0) d_X4_isEnclosed_86 (by decide) ?_
          refine z_ior d_X4_isEnclosed_87 ?_
          refine z_istore [(4, .int ((b01 l) ||| 0)), (10, .int 0), (9, .int 0), (8, .int (nI i)), (7, .int (b01 b9)), (6, .int (b01 a9)), (5, .int (b01 r9)), (3, .int (nI (k / 5))), (2, .int (nI (k % 5))), (1, .int set), (0, .int (nI k))] d_X4_isEnclosed_88 (by decide) rfl ?_
          refine z_iload d_X4_isEnclosed_90 6 rfl ?_
          refine z_iload d_X4_isEnclosed_92 2 rfl ?_
          refine z_if_eq d_X4_isEnclosed_94 (fun c_94 => ?_) (fun c_94 => ?_)
          rotate_left
          · exact absurd c_94 (by decide)
          refine z_iconst (v := 0) d_X4_isEnclosed_107 (by decide) ?_
          refine z_ior d_X4_isEnclosed_108 ?_
          refine z_istore [(5, .int ((b01 r9) ||| 0)), (4, .int ((b01 l) ||| 0)), (10, .int 0), (9, .int 0), (8, .int (nI i)), (7, .int (b01 b9)), (6, .int (b01 a9)), (3, .int (nI (k / 5))), (2, .int (nI (k % 5))), (1, .int set), (0, .int (nI k))] d_X4_isEnclosed_109 (by decide) rfl ?_
          refine z_iload d_X4_isEnclosed_111 6 rfl ?_
          refine z_iload d_X4_isEnclosed_113 2 rfl ?_
          refine z_if_eq d_X4_isEnclosed_115 (fun c_115 => ?_) (fun c_115 => ?_)
          rotate_left
          · exact absurd c_115 (by decide)
          refine z_iconst (v := 0) d_X4_isEnclosed_128 (by decide) ?_
          refine z_ior d_X4_isEnclosed_129 ?_
          refine z_istore [(6, .int ((b01 a9) ||| 0)), (5, .int ((b01 r9) ||| 0)), (4, .int ((b01 l) ||| 0)), (10, .int 0), (9, .int 0), (8, .int (nI i)), (7, .int (b01 b9)), (3, .int (nI (k / 5))), (2, .int (nI (k % 5))), (1, .int set), (0, .int (nI k))] d_X4_isEnclosed_130 (by decide) rfl ?_
          refine z_iload d_X4_isEnclosed_132 6 rfl ?_
          refine z_iload d_X4_isEnclosed_134 3 rfl ?_
          refine z_if_eq d_X4_isEnclosed_136 (fun c_136 => ?_) (fun c_136 => ?_)
          rotate_left
          · exact absurd c_136 (by decide)
          refine z_iconst (v := 0) d_X4_isEnclosed_149 (by decide) ?_
          refine z_ior d_X4_isEnclosed_150 ?_
          refine z_istore [(7, .int ((b01 b9) ||| 0)), (6, .int ((b01 a9) ||| 0)), (5, .int ((b01 r9) ||| 0)), (4, .int ((b01 l) ||| 0)), (10, .int 0), (9, .int 0), (8, .int (nI i)), (3, .int (nI (k / 5))), (2, .int (nI (k % 5))), (1, .int set), (0, .int (nI k))] d_X4_isEnclosed_151 (by decide) rfl ?_
          refine z_iinc (nI (i + 1)) [(8, .int (nI (i + 1))), (7, .int ((b01 b9) ||| 0)), (6, .int ((b01 a9) ||| 0)), (5, .int ((b01 r9) ||| 0)), (4, .int ((b01 l) ||| 0)), (10, .int 0), (9, .int 0), (3, .int (nI (k / 5))), (2, .int (nI (k % 5))), (1, .int set), (0, .int (nI k))] 6 d_X4_isEnclosed_153 rfl (nI_1 _) (by decide) rfl ?_
          refine z_goto d_X4_isEnclosed_156 ?_
          refine z_perm [0, 1, 2, 3, 4, 7, 8, 9, 10] rfl ?_
          have e1 := h9
          have e2 := h9
          simp only [b01_o1, b01_o0]
          exact ih (i + 1) (l || false) (r9 || false) (a9 || false) (b9 || false) (by omega) (by omega) (by rw [hl, exB, eL, (show bt set (5 * (k / 5) + i) = false from by exact (sb0 (by omega)).mp (by rw [← nI_add, ← nI_mul]; exact c_39))]; rfl) (by rw [hr, exB, eR, (show bt set (5 * (k / 5) + i) = false from by exact (sb0 (by omega)).mp (by rw [← nI_add, ← nI_mul]; exact c_39))]; rfl) (by rw [hA, exB, eA, (show bt set (5 * i + k % 5) = false from by exact (sb0 (by omega)).mp (by rw [← nI_add, ← nI_mul]; exact c_59))]; rfl) (by rw [hB, exB, eB, (show bt set (5 * i + k % 5) = false from by exact (sb0 (by omega)).mp (by rw [← nI_add, ← nI_mul]; exact c_59))]; rfl)
        · refine z_iconst (v := 1) d_X4_isEnclosed_62 (by decide) ?_
          refine z_goto d_X4_isEnclosed_63 ?_
          refine z_istore [(10, .int 1), (9, .int 0), (8, .int (nI i)), (7, .int (b01 b9)), (6, .int (b01 a9)), (5, .int (b01 r9)), (4, .int (b01 l)), (3, .int (nI (k / 5))), (2, .int (nI (k % 5))), (1, .int set), (0, .int (nI k))] d_X4_isEnclosed_67 (by decide) rfl ?_
          refine z_iload d_X4_isEnclosed_69 6 rfl ?_
          refine z_iload d_X4_isEnclosed_71 1 rfl ?_
          refine z_if_eq d_X4_isEnclosed_73 (fun c_73 => ?_) (fun c_73 => ?_)
          rotate_left
          · exact absurd c_73 (by decide)
          refine z_iconst (v := 0) d_X4_isEnclosed_86 (by decide) ?_
          refine z_ior d_X4_isEnclosed_87 ?_
          refine z_istore [(4, .int ((b01 l) ||| 0)), (10, .int 1), (9, .int 0), (8, .int (nI i)), (7, .int (b01 b9)), (6, .int (b01 a9)), (5, .int (b01 r9)), (3, .int (nI (k / 5))), (2, .int (nI (k % 5))), (1, .int set), (0, .int (nI k))] d_X4_isEnclosed_88 (by decide) rfl ?_
          refine z_iload d_X4_isEnclosed_90 6 rfl ?_
          refine z_iload d_X4_isEnclosed_92 2 rfl ?_
          refine z_if_eq d_X4_isEnclosed_94 (fun c_94 => ?_) (fun c_94 => ?_)
          rotate_left
          · exact absurd c_94 (by decide)
          refine z_iconst (v := 0) d_X4_isEnclosed_107 (by decide) ?_
          refine z_ior d_X4_isEnclosed_108 ?_
          refine z_istore [(5, .int ((b01 r9) ||| 0)), (4, .int ((b01 l) ||| 0)), (10, .int 1), (9, .int 0), (8, .int (nI i)), (7, .int (b01 b9)), (6, .int (b01 a9)), (3, .int (nI (k / 5))), (2, .int (nI (k % 5))), (1, .int set), (0, .int (nI k))] d_X4_isEnclosed_109 (by decide) rfl ?_
          refine z_iload d_X4_isEnclosed_111 6 rfl ?_
          refine z_iload d_X4_isEnclosed_113 2 rfl ?_
          refine z_if_eq d_X4_isEnclosed_115 (fun c_115 => ?_) (fun c_115 => ?_)
          · exact absurd c_115 (by decide)
          refine z_iload d_X4_isEnclosed_118 4 rfl ?_
          refine z_iload_n d_X4_isEnclosed_120 7 rfl ?_
          refine z_icmp_ge d_X4_isEnclosed_121 (fun c_121 => ?_) (fun c_121 => ?_)
          · refine z_iconst (v := 0) d_X4_isEnclosed_128 (by decide) ?_
            refine z_ior d_X4_isEnclosed_129 ?_
            refine z_istore [(6, .int ((b01 a9) ||| 0)), (5, .int ((b01 r9) ||| 0)), (4, .int ((b01 l) ||| 0)), (10, .int 1), (9, .int 0), (8, .int (nI i)), (7, .int (b01 b9)), (3, .int (nI (k / 5))), (2, .int (nI (k % 5))), (1, .int set), (0, .int (nI k))] d_X4_isEnclosed_130 (by decide) rfl ?_
            refine z_iload d_X4_isEnclosed_132 6 rfl ?_
            refine z_iload d_X4_isEnclosed_134 3 rfl ?_
            refine z_if_eq d_X4_isEnclosed_136 (fun c_136 => ?_) (fun c_136 => ?_)
            · exact absurd c_136 (by decide)
            refine z_iload d_X4_isEnclosed_139 5 rfl ?_
            refine z_iload_n d_X4_isEnclosed_141 7 rfl ?_
            refine z_icmp_le d_X4_isEnclosed_142 (fun c_142 => ?_) (fun c_142 => ?_)
            · refine z_iconst (v := 0) d_X4_isEnclosed_149 (by decide) ?_
              refine z_ior d_X4_isEnclosed_150 ?_
              refine z_istore [(7, .int ((b01 b9) ||| 0)), (6, .int ((b01 a9) ||| 0)), (5, .int ((b01 r9) ||| 0)), (4, .int ((b01 l) ||| 0)), (10, .int 1), (9, .int 0), (8, .int (nI i)), (3, .int (nI (k / 5))), (2, .int (nI (k % 5))), (1, .int set), (0, .int (nI k))] d_X4_isEnclosed_151 (by decide) rfl ?_
              refine z_iinc (nI (i + 1)) [(8, .int (nI (i + 1))), (7, .int ((b01 b9) ||| 0)), (6, .int ((b01 a9) ||| 0)), (5, .int ((b01 r9) ||| 0)), (4, .int ((b01 l) ||| 0)), (10, .int 1), (9, .int 0), (3, .int (nI (k / 5))), (2, .int (nI (k % 5))), (1, .int set), (0, .int (nI k))] 6 d_X4_isEnclosed_153 rfl (nI_1 _) (by decide) rfl ?_
              refine z_goto d_X4_isEnclosed_156 ?_
              refine z_perm [0, 1, 2, 3, 4, 7, 8, 9, 10] rfl ?_
              have e1 := h9
              have e2 := h9
              simp only [b01_o1, b01_o0]
              exact ih (i + 1) (l || false) (r9 || false) (a9 || false) (b9 || false) (by omega) (by omega) (by rw [hl, exB, eL, (show bt set (5 * (k / 5) + i) = false from by exact (sb0 (by omega)).mp (by rw [← nI_add, ← nI_mul]; exact c_39))]; rfl) (by rw [hr, exB, eR, (show bt set (5 * (k / 5) + i) = false from by exact (sb0 (by omega)).mp (by rw [← nI_add, ← nI_mul]; exact c_39))]; rfl) (by rw [hA, exB, eA, (show bt set (5 * i + k % 5) = true from by exact sb0n (by omega) (by rw [← nI_add, ← nI_mul]; exact c_59)), decide_eq_false (p := i < k / 5) (by rw [← nI_ltI (a := i) (b := k / 5) (by omega) (by omega)]; exact c_121)]; rfl) (by rw [hB, exB, eB, (show bt set (5 * i + k % 5) = true from by exact sb0n (by omega) (by rw [← nI_add, ← nI_mul]; exact c_59)), decide_eq_false (p := k / 5 < i) (by rw [← nI_ltI (a := k / 5) (b := i) (by omega) (by omega)]; exact c_142)]; rfl)
            · refine z_iconst (v := 1) d_X4_isEnclosed_145 (by decide) ?_
              refine z_goto d_X4_isEnclosed_146 ?_
              refine z_ior d_X4_isEnclosed_150 ?_
              refine z_istore [(7, .int ((b01 b9) ||| 1)), (6, .int ((b01 a9) ||| 0)), (5, .int ((b01 r9) ||| 0)), (4, .int ((b01 l) ||| 0)), (10, .int 1), (9, .int 0), (8, .int (nI i)), (3, .int (nI (k / 5))), (2, .int (nI (k % 5))), (1, .int set), (0, .int (nI k))] d_X4_isEnclosed_151 (by decide) rfl ?_
              refine z_iinc (nI (i + 1)) [(8, .int (nI (i + 1))), (7, .int ((b01 b9) ||| 1)), (6, .int ((b01 a9) ||| 0)), (5, .int ((b01 r9) ||| 0)), (4, .int ((b01 l) ||| 0)), (10, .int 1), (9, .int 0), (3, .int (nI (k / 5))), (2, .int (nI (k % 5))), (1, .int set), (0, .int (nI k))] 6 d_X4_isEnclosed_153 rfl (nI_1 _) (by decide) rfl ?_
              refine z_goto d_X4_isEnclosed_156 ?_
              refine z_perm [0, 1, 2, 3, 4, 7, 8, 9, 10] rfl ?_
              have e1 := h9
              have e2 := h9
              simp only [b01_o1, b01_o0]
              exact ih (i + 1) (l || false) (r9 || false) (a9 || false) (b9 || true) (by omega) (by omega) (by rw [hl, exB, eL, (show bt set (5 * (k / 5) + i) = false from by exact (sb0 (by omega)).mp (by rw [← nI_add, ← nI_mul]; exact c_39))]; rfl) (by rw [hr, exB, eR, (show bt set (5 * (k / 5) + i) = false from by exact (sb0 (by omega)).mp (by rw [← nI_add, ← nI_mul]; exact c_39))]; rfl) (by rw [hA, exB, eA, (show bt set (5 * i + k % 5) = true from by exact sb0n (by omega) (by rw [← nI_add, ← nI_mul]; exact c_59)), decide_eq_false (p := i < k / 5) (by rw [← nI_ltI (a := i) (b := k / 5) (by omega) (by omega)]; exact c_121)]; rfl) (by rw [hB, exB, eB, (show bt set (5 * i + k % 5) = true from by exact sb0n (by omega) (by rw [← nI_add, ← nI_mul]; exact c_59)), decide_eq_true (p := k / 5 < i) (by rw [← nI_ltI (a := k / 5) (b := i) (by omega) (by omega)]; exact c_142)]; rfl)
          · refine z_iconst (v := 1) d_X4_isEnclosed_124 (by decide) ?_
            refine z_goto d_X4_isEnclosed_125 ?_
            refine z_ior d_X4_isEnclosed_129 ?_
            refine z_istore [(6, .int ((b01 a9) ||| 1)), (5, .int ((b01 r9) ||| 0)), (4, .int ((b01 l) ||| 0)), (10, .int 1), (9, .int 0), (8, .int (nI i)), (7, .int (b01 b9)), (3, .int (nI (k / 5))), (2, .int (nI (k % 5))), (1, .int set), (0, .int (nI k))] d_X4_isEnclosed_130 (by decide) rfl ?_
            refine z_iload d_X4_isEnclosed_132 6 rfl ?_
            refine z_iload d_X4_isEnclosed_134 3 rfl ?_
            refine z_if_eq d_X4_isEnclosed_136 (fun c_136 => ?_) (fun c_136 => ?_)
            · exact absurd c_136 (by decide)
            refine z_iload d_X4_isEnclosed_139 5 rfl ?_
            refine z_iload_n d_X4_isEnclosed_141 7 rfl ?_
            refine z_icmp_le d_X4_isEnclosed_142 (fun c_142 => ?_) (fun c_142 => ?_)
            · refine z_iconst (v := 0) d_X4_isEnclosed_149 (by decide) ?_
              refine z_ior d_X4_isEnclosed_150 ?_
              refine z_istore [(7, .int ((b01 b9) ||| 0)), (6, .int ((b01 a9) ||| 1)), (5, .int ((b01 r9) ||| 0)), (4, .int ((b01 l) ||| 0)), (10, .int 1), (9, .int 0), (8, .int (nI i)), (3, .int (nI (k / 5))), (2, .int (nI (k % 5))), (1, .int set), (0, .int (nI k))] d_X4_isEnclosed_151 (by decide) rfl ?_
              refine z_iinc (nI (i + 1)) [(8, .int (nI (i + 1))), (7, .int ((b01 b9) ||| 0)), (6, .int ((b01 a9) ||| 1)), (5, .int ((b01 r9) ||| 0)), (4, .int ((b01 l) ||| 0)), (10, .int 1), (9, .int 0), (3, .int (nI (k / 5))), (2, .int (nI (k % 5))), (1, .int set), (0, .int (nI k))] 6 d_X4_isEnclosed_153 rfl (nI_1 _) (by decide) rfl ?_
              refine z_goto d_X4_isEnclosed_156 ?_
              refine z_perm [0, 1, 2, 3, 4, 7, 8, 9, 10] rfl ?_
              have e1 := h9
              have e2 := h9
              simp only [b01_o1, b01_o0]
              exact ih (i + 1) (l || false) (r9 || false) (a9 || true) (b9 || false) (by omega) (by omega) (by rw [hl, exB, eL, (show bt set (5 * (k / 5) + i) = false from by exact (sb0 (by omega)).mp (by rw [← nI_add, ← nI_mul]; exact c_39))]; rfl) (by rw [hr, exB, eR, (show bt set (5 * (k / 5) + i) = false from by exact (sb0 (by omega)).mp (by rw [← nI_add, ← nI_mul]; exact c_39))]; rfl) (by rw [hA, exB, eA, (show bt set (5 * i + k % 5) = true from by exact sb0n (by omega) (by rw [← nI_add, ← nI_mul]; exact c_59)), decide_eq_true (p := i < k / 5) (by rw [← nI_ltI (a := i) (b := k / 5) (by omega) (by omega)]; exact c_121)]; rfl) (by rw [hB, exB, eB, (show bt set (5 * i + k % 5) = true from by exact sb0n (by omega) (by rw [← nI_add, ← nI_mul]; exact c_59)), decide_eq_false (p := k / 5 < i) (by rw [← nI_ltI (a := k / 5) (b := i) (by omega) (by omega)]; exact c_142)]; rfl)
            · refine z_iconst (v := 1) d_X4_isEnclosed_145 (by decide) ?_
              refine z_goto d_X4_isEnclosed_146 ?_
              refine z_ior d_X4_isEnclosed_150 ?_
              refine z_istore [(7, .int ((b01 b9) ||| 1)), (6, .int ((b01 a9) ||| 1)), (5, .int ((b01 r9) ||| 0)), (4, .int ((b01 l) ||| 0)), (10, .int 1), (9, .int 0), (8, .int (nI i)), (3, .int (nI (k / 5))), (2, .int (nI (k % 5))), (1, .int set), (0, .int (nI k))] d_X4_isEnclosed_151 (by decide) rfl ?_
              refine z_iinc (nI (i + 1)) [(8, .int (nI (i + 1))), (7, .int ((b01 b9) ||| 1)), (6, .int ((b01 a9) ||| 1)), (5, .int ((b01 r9) ||| 0)), (4, .int ((b01 l) ||| 0)), (10, .int 1), (9, .int 0), (3, .int (nI (k / 5))), (2, .int (nI (k % 5))), (1, .int set), (0, .int (nI k))] 6 d_X4_isEnclosed_153 rfl (nI_1 _) (by decide) rfl ?_
              refine z_goto d_X4_isEnclosed_156 ?_
              refine z_perm [0, 1, 2, 3, 4, 7, 8, 9, 10] rfl ?_
              have e1 := h9
              have e2 := h9
              simp only [b01_o1, b01_o0]
              exact ih (i + 1) (l || false) (r9 || false) (a9 || true) (b9 || true) (by omega) (by omega) (by rw [hl, exB, eL, (show bt set (5 * (k / 5) + i) = false from by exact (sb0 (by omega)).mp (by rw [← nI_add, ← nI_mul]; exact c_39))]; rfl) (by rw [hr, exB, eR, (show bt set (5 * (k / 5) + i) = false from by exact (sb0 (by omega)).mp (by rw [← nI_add, ← nI_mul]; exact c_39))]; rfl) (by rw [hA, exB, eA, (show bt set (5 * i + k % 5) = true from by exact sb0n (by omega) (by rw [← nI_add, ← nI_mul]; exact c_59)), decide_eq_true (p := i < k / 5) (by rw [← nI_ltI (a := i) (b := k / 5) (by omega) (by omega)]; exact c_121)]; rfl) (by rw [hB, exB, eB, (show bt set (5 * i + k % 5) = true from by exact sb0n (by omega) (by rw [← nI_add, ← nI_mul]; exact c_59)), decide_eq_true (p := k / 5 < i) (by rw [← nI_ltI (a := k / 5) (b := i) (by omega) (by omega)]; exact c_142)]; rfl)
      · refine z_iconst (v := 1) d_X4_isEnclosed_42 (by decide) ?_
        refine z_goto d_X4_isEnclosed_43 ?_
        refine z_istore [(9, .int 1), (8, .int (nI i)), (7, .int (b01 b9)), (6, .int (b01 a9)), (5, .int (b01 r9)), (4, .int (b01 l)), (3, .int (nI (k / 5))), (2, .int (nI (k % 5))), (1, .int set), (0, .int (nI k))] d_X4_isEnclosed_47 (by decide) rfl ?_
        refine z_iload_n d_X4_isEnclosed_49 8 rfl ?_
        refine z_iconst (v := 5) d_X4_isEnclosed_50 (by decide) ?_
        refine z_iload d_X4_isEnclosed_51 1 rfl ?_
        refine z_imul d_X4_isEnclosed_53 ?_
        refine z_iload_n d_X4_isEnclosed_54 7 rfl ?_
        refine z_iadd d_X4_isEnclosed_55 ?_
        refine z_ishr d_X4_isEnclosed_56 ?_
        refine z_iconst (v := 1) d_X4_isEnclosed_57 (by decide) ?_
        refine z_iand d_X4_isEnclosed_58 ?_
        refine z_if_eq d_X4_isEnclosed_59 (fun c_59 => ?_) (fun c_59 => ?_)
        · refine z_iconst (v := 0) d_X4_isEnclosed_66 (by decide) ?_
          refine z_istore [(10, .int 0), (9, .int 1), (8, .int (nI i)), (7, .int (b01 b9)), (6, .int (b01 a9)), (5, .int (b01 r9)), (4, .int (b01 l)), (3, .int (nI (k / 5))), (2, .int (nI (k % 5))), (1, .int set), (0, .int (nI k))] d_X4_isEnclosed_67 (by decide) rfl ?_
          refine z_iload d_X4_isEnclosed_69 6 rfl ?_
          refine z_iload d_X4_isEnclosed_71 1 rfl ?_
          refine z_if_eq d_X4_isEnclosed_73 (fun c_73 => ?_) (fun c_73 => ?_)
          · exact absurd c_73 (by decide)
          refine z_iload d_X4_isEnclosed_76 2 rfl ?_
          refine z_iload_n d_X4_isEnclosed_78 8 rfl ?_
          refine z_icmp_ge d_X4_isEnclosed_79 (fun c_79 => ?_) (fun c_79 => ?_)
          · refine z_iconst (v := 0) d_X4_isEnclosed_86 (by decide) ?_
            refine z_ior d_X4_isEnclosed_87 ?_
            refine z_istore [(4, .int ((b01 l) ||| 0)), (10, .int 0), (9, .int 1), (8, .int (nI i)), (7, .int (b01 b9)), (6, .int (b01 a9)), (5, .int (b01 r9)), (3, .int (nI (k / 5))), (2, .int (nI (k % 5))), (1, .int set), (0, .int (nI k))] d_X4_isEnclosed_88 (by decide) rfl ?_
            refine z_iload d_X4_isEnclosed_90 6 rfl ?_
            refine z_iload d_X4_isEnclosed_92 2 rfl ?_
            refine z_if_eq d_X4_isEnclosed_94 (fun c_94 => ?_) (fun c_94 => ?_)
            · exact absurd c_94 (by decide)
            refine z_iload d_X4_isEnclosed_97 3 rfl ?_
            refine z_iload_n d_X4_isEnclosed_99 8 rfl ?_
            refine z_icmp_le d_X4_isEnclosed_100 (fun c_100 => ?_) (fun c_100 => ?_)
            · refine z_iconst (v := 0) d_X4_isEnclosed_107 (by decide) ?_
              refine z_ior d_X4_isEnclosed_108 ?_
              refine z_istore [(5, .int ((b01 r9) ||| 0)), (4, .int ((b01 l) ||| 0)), (10, .int 0), (9, .int 1), (8, .int (nI i)), (7, .int (b01 b9)), (6, .int (b01 a9)), (3, .int (nI (k / 5))), (2, .int (nI (k % 5))), (1, .int set), (0, .int (nI k))] d_X4_isEnclosed_109 (by decide) rfl ?_
              refine z_iload d_X4_isEnclosed_111 6 rfl ?_
              refine z_iload d_X4_isEnclosed_113 2 rfl ?_
              refine z_if_eq d_X4_isEnclosed_115 (fun c_115 => ?_) (fun c_115 => ?_)
              rotate_left
              · exact absurd c_115 (by decide)
              refine z_iconst (v := 0) d_X4_isEnclosed_128 (by decide) ?_
              refine z_ior d_X4_isEnclosed_129 ?_
              refine z_istore [(6, .int ((b01 a9) ||| 0)), (5, .int ((b01 r9) ||| 0)), (4, .int ((b01 l) ||| 0)), (10, .int 0), (9, .int 1), (8, .int (nI i)), (7, .int (b01 b9)), (3, .int (nI (k / 5))), (2, .int (nI (k % 5))), (1, .int set), (0, .int (nI k))] d_X4_isEnclosed_130 (by decide) rfl ?_
              refine z_iload d_X4_isEnclosed_132 6 rfl ?_
              refine z_iload d_X4_isEnclosed_134 3 rfl ?_
              refine z_if_eq d_X4_isEnclosed_136 (fun c_136 => ?_) (fun c_136 => ?_)
              rotate_left
              · exact absurd c_136 (by decide)
              refine z_iconst (v := 0) d_X4_isEnclosed_149 (by decide) ?_
              refine z_ior d_X4_isEnclosed_150 ?_
              refine z_istore [(7, .int ((b01 b9) ||| 0)), (6, .int ((b01 a9) ||| 0)), (5, .int ((b01 r9) ||| 0)), (4, .int ((b01 l) ||| 0)), (10, .int 0), (9, .int 1), (8, .int (nI i)), (3, .int (nI (k / 5))), (2, .int (nI (k % 5))), (1, .int set), (0, .int (nI k))] d_X4_isEnclosed_151 (by decide) rfl ?_
              refine z_iinc (nI (i + 1)) [(8, .int (nI (i + 1))), (7, .int ((b01 b9) ||| 0)), (6, .int ((b01 a9) ||| 0)), (5, .int ((b01 r9) ||| 0)), (4, .int ((b01 l) ||| 0)), (10, .int 0), (9, .int 1), (3, .int (nI (k / 5))), (2, .int (nI (k % 5))), (1, .int set), (0, .int (nI k))] 6 d_X4_isEnclosed_153 rfl (nI_1 _) (by decide) rfl ?_
              refine z_goto d_X4_isEnclosed_156 ?_
              refine z_perm [0, 1, 2, 3, 4, 7, 8, 9, 10] rfl ?_
              have e1 := h9
              have e2 := h9
              simp only [b01_o1, b01_o0]
              exact ih (i + 1) (l || false) (r9 || false) (a9 || false) (b9 || false) (by omega) (by omega) (by rw [hl, exB, eL, (show bt set (5 * (k / 5) + i) = true from by exact sb0n (by omega) (by rw [← nI_add, ← nI_mul]; exact c_39)), decide_eq_false (p := i < k % 5) (by rw [← nI_ltI (a := i) (b := k % 5) (by omega) (by omega)]; exact c_79)]; rfl) (by rw [hr, exB, eR, (show bt set (5 * (k / 5) + i) = true from by exact sb0n (by omega) (by rw [← nI_add, ← nI_mul]; exact c_39)), decide_eq_false (p := k % 5 < i) (by rw [← nI_ltI (a := k % 5) (b := i) (by omega) (by omega)]; exact c_100)]; rfl) (by rw [hA, exB, eA, (show bt set (5 * i + k % 5) = false from by exact (sb0 (by omega)).mp (by rw [← nI_add, ← nI_mul]; exact c_59))]; rfl) (by rw [hB, exB, eB, (show bt set (5 * i + k % 5) = false from by exact (sb0 (by omega)).mp (by rw [← nI_add, ← nI_mul]; exact c_59))]; rfl)
            · refine z_iconst (v := 1) d_X4_isEnclosed_103 (by decide) ?_
              refine z_goto d_X4_isEnclosed_104 ?_
              refine z_ior d_X4_isEnclosed_108 ?_
              refine z_istore [(5, .int ((b01 r9) ||| 1)), (4, .int ((b01 l) ||| 0)), (10, .int 0), (9, .int 1), (8, .int (nI i)), (7, .int (b01 b9)), (6, .int (b01 a9)), (3, .int (nI (k / 5))), (2, .int (nI (k % 5))), (1, .int set), (0, .int (nI k))] d_X4_isEnclosed_109 (by decide) rfl ?_
              refine z_iload d_X4_isEnclosed_111 6 rfl ?_
              refine z_iload d_X4_isEnclosed_113 2 rfl ?_
              refine z_if_eq d_X4_isEnclosed_115 (fun c_115 => ?_) (fun c_115 => ?_)
              rotate_left
              · exact absurd c_115 (by decide)
              refine z_iconst (v := 0) d_X4_isEnclosed_128 (by decide) ?_
              refine z_ior d_X4_isEnclosed_129 ?_
              refine z_istore [(6, .int ((b01 a9) ||| 0)), (5, .int ((b01 r9) ||| 1)), (4, .int ((b01 l) ||| 0)), (10, .int 0), (9, .int 1), (8, .int (nI i)), (7, .int (b01 b9)), (3, .int (nI (k / 5))), (2, .int (nI (k % 5))), (1, .int set), (0, .int (nI k))] d_X4_isEnclosed_130 (by decide) rfl ?_
              refine z_iload d_X4_isEnclosed_132 6 rfl ?_
              refine z_iload d_X4_isEnclosed_134 3 rfl ?_
              refine z_if_eq d_X4_isEnclosed_136 (fun c_136 => ?_) (fun c_136 => ?_)
              rotate_left
              · exact absurd c_136 (by decide)
              refine z_iconst (v := 0) d_X4_isEnclosed_149 (by decide) ?_
              refine z_ior d_X4_isEnclosed_150 ?_
              refine z_istore [(7, .int ((b01 b9) ||| 0)), (6, .int ((b01 a9) ||| 0)), (5, .int ((b01 r9) ||| 1)), (4, .int ((b01 l) ||| 0)), (10, .int 0), (9, .int 1), (8, .int (nI i)), (3, .int (nI (k / 5))), (2, .int (nI (k % 5))), (1, .int set), (0, .int (nI k))] d_X4_isEnclosed_151 (by decide) rfl ?_
              refine z_iinc (nI (i + 1)) [(8, .int (nI (i + 1))), (7, .int ((b01 b9) ||| 0)), (6, .int ((b01 a9) ||| 0)), (5, .int ((b01 r9) ||| 1)), (4, .int ((b01 l) ||| 0)), (10, .int 0), (9, .int 1), (3, .int (nI (k / 5))), (2, .int (nI (k % 5))), (1, .int set), (0, .int (nI k))] 6 d_X4_isEnclosed_153 rfl (nI_1 _) (by decide) rfl ?_
              refine z_goto d_X4_isEnclosed_156 ?_
              refine z_perm [0, 1, 2, 3, 4, 7, 8, 9, 10] rfl ?_
              have e1 := h9
              have e2 := h9
              simp only [b01_o1, b01_o0]
              exact ih (i + 1) (l || false) (r9 || true) (a9 || false) (b9 || false) (by omega) (by omega) (by rw [hl, exB, eL, (show bt set (5 * (k / 5) + i) = true from by exact sb0n (by omega) (by rw [← nI_add, ← nI_mul]; exact c_39)), decide_eq_false (p := i < k % 5) (by rw [← nI_ltI (a := i) (b := k % 5) (by omega) (by omega)]; exact c_79)]; rfl) (by rw [hr, exB, eR, (show bt set (5 * (k / 5) + i) = true from by exact sb0n (by omega) (by rw [← nI_add, ← nI_mul]; exact c_39)), decide_eq_true (p := k % 5 < i) (by rw [← nI_ltI (a := k % 5) (b := i) (by omega) (by omega)]; exact c_100)]; rfl) (by rw [hA, exB, eA, (show bt set (5 * i + k % 5) = false from by exact (sb0 (by omega)).mp (by rw [← nI_add, ← nI_mul]; exact c_59))]; rfl) (by rw [hB, exB, eB, (show bt set (5 * i + k % 5) = false from by exact (sb0 (by omega)).mp (by rw [← nI_add, ← nI_mul]; exact c_59))]; rfl)
          · refine z_iconst (v := 1) d_X4_isEnclosed_82 (by decide) ?_
            refine z_goto d_X4_isEnclosed_83 ?_
            refine z_ior d_X4_isEnclosed_87 ?_
            refine z_istore [(4, .int ((b01 l) ||| 1)), (10, .int 0), (9, .int 1), (8, .int (nI i)), (7, .int (b01 b9)), (6, .int (b01 a9)), (5, .int (b01 r9)), (3, .int (nI (k / 5))), (2, .int (nI (k % 5))), (1, .int set), (0, .int (nI k))] d_X4_isEnclosed_88 (by decide) rfl ?_
            refine z_iload d_X4_isEnclosed_90 6 rfl ?_
            refine z_iload d_X4_isEnclosed_92 2 rfl ?_
            refine z_if_eq d_X4_isEnclosed_94 (fun c_94 => ?_) (fun c_94 => ?_)
            · exact absurd c_94 (by decide)
            refine z_iload d_X4_isEnclosed_97 3 rfl ?_
            refine z_iload_n d_X4_isEnclosed_99 8 rfl ?_
            refine z_icmp_le d_X4_isEnclosed_100 (fun c_100 => ?_) (fun c_100 => ?_)
            · refine z_iconst (v := 0) d_X4_isEnclosed_107 (by decide) ?_
              refine z_ior d_X4_isEnclosed_108 ?_
              refine z_istore [(5, .int ((b01 r9) ||| 0)), (4, .int ((b01 l) ||| 1)), (10, .int 0), (9, .int 1), (8, .int (nI i)), (7, .int (b01 b9)), (6, .int (b01 a9)), (3, .int (nI (k / 5))), (2, .int (nI (k % 5))), (1, .int set), (0, .int (nI k))] d_X4_isEnclosed_109 (by decide) rfl ?_
              refine z_iload d_X4_isEnclosed_111 6 rfl ?_
              refine z_iload d_X4_isEnclosed_113 2 rfl ?_
              refine z_if_eq d_X4_isEnclosed_115 (fun c_115 => ?_) (fun c_115 => ?_)
              rotate_left
              · exact absurd c_115 (by decide)
              refine z_iconst (v := 0) d_X4_isEnclosed_128 (by decide) ?_
              refine z_ior d_X4_isEnclosed_129 ?_
              refine z_istore [(6, .int ((b01 a9) ||| 0)), (5, .int ((b01 r9) ||| 0)), (4, .int ((b01 l) ||| 1)), (10, .int 0), (9, .int 1), (8, .int (nI i)), (7, .int (b01 b9)), (3, .int (nI (k / 5))), (2, .int (nI (k % 5))), (1, .int set), (0, .int (nI k))] d_X4_isEnclosed_130 (by decide) rfl ?_
              refine z_iload d_X4_isEnclosed_132 6 rfl ?_
              refine z_iload d_X4_isEnclosed_134 3 rfl ?_
              refine z_if_eq d_X4_isEnclosed_136 (fun c_136 => ?_) (fun c_136 => ?_)
              rotate_left
              · exact absurd c_136 (by decide)
              refine z_iconst (v := 0) d_X4_isEnclosed_149 (by decide) ?_
              refine z_ior d_X4_isEnclosed_150 ?_
              refine z_istore [(7, .int ((b01 b9) ||| 0)), (6, .int ((b01 a9) ||| 0)), (5, .int ((b01 r9) ||| 0)), (4, .int ((b01 l) ||| 1)), (10, .int 0), (9, .int 1), (8, .int (nI i)), (3, .int (nI (k / 5))), (2, .int (nI (k % 5))), (1, .int set), (0, .int (nI k))] d_X4_isEnclosed_151 (by decide) rfl ?_
              refine z_iinc (nI (i + 1)) [(8, .int (nI (i + 1))), (7, .int ((b01 b9) ||| 0)), (6, .int ((b01 a9) ||| 0)), (5, .int ((b01 r9) ||| 0)), (4, .int ((b01 l) ||| 1)), (10, .int 0), (9, .int 1), (3, .int (nI (k / 5))), (2, .int (nI (k % 5))), (1, .int set), (0, .int (nI k))] 6 d_X4_isEnclosed_153 rfl (nI_1 _) (by decide) rfl ?_
              refine z_goto d_X4_isEnclosed_156 ?_
              refine z_perm [0, 1, 2, 3, 4, 7, 8, 9, 10] rfl ?_
              have e1 := h9
              have e2 := h9
              simp only [b01_o1, b01_o0]
              exact ih (i + 1) (l || true) (r9 || false) (a9 || false) (b9 || false) (by omega) (by omega) (by rw [hl, exB, eL, (show bt set (5 * (k / 5) + i) = true from by exact sb0n (by omega) (by rw [← nI_add, ← nI_mul]; exact c_39)), decide_eq_true (p := i < k % 5) (by rw [← nI_ltI (a := i) (b := k % 5) (by omega) (by omega)]; exact c_79)]; rfl) (by rw [hr, exB, eR, (show bt set (5 * (k / 5) + i) = true from by exact sb0n (by omega) (by rw [← nI_add, ← nI_mul]; exact c_39)), decide_eq_false (p := k % 5 < i) (by rw [← nI_ltI (a := k % 5) (b := i) (by omega) (by omega)]; exact c_100)]; rfl) (by rw [hA, exB, eA, (show bt set (5 * i + k % 5) = false from by exact (sb0 (by omega)).mp (by rw [← nI_add, ← nI_mul]; exact c_59))]; rfl) (by rw [hB, exB, eB, (show bt set (5 * i + k % 5) = false from by exact (sb0 (by omega)).mp (by rw [← nI_add, ← nI_mul]; exact c_59))]; rfl)
            · refine z_iconst (v := 1) d_X4_isEnclosed_103 (by decide) ?_
              refine z_goto d_X4_isEnclosed_104 ?_
              refine z_ior d_X4_isEnclosed_108 ?_
              refine z_istore [(5, .int ((b01 r9) ||| 1)), (4, .int ((b01 l) ||| 1)), (10, .int 0), (9, .int 1), (8, .int (nI i)), (7, .int (b01 b9)), (6, .int (b01 a9)), (3, .int (nI (k / 5))), (2, .int (nI (k % 5))), (1, .int set), (0, .int (nI k))] d_X4_isEnclosed_109 (by decide) rfl ?_
              refine z_iload d_X4_isEnclosed_111 6 rfl ?_
              refine z_iload d_X4_isEnclosed_113 2 rfl ?_
              refine z_if_eq d_X4_isEnclosed_115 (fun c_115 => ?_) (fun c_115 => ?_)
              rotate_left
              · exact absurd c_115 (by decide)
              refine z_iconst (v := 0) d_X4_isEnclosed_128 (by decide) ?_
              refine z_ior d_X4_isEnclosed_129 ?_
              refine z_istore [(6, .int ((b01 a9) ||| 0)), (5, .int ((b01 r9) ||| 1)), (4, .int ((b01 l) ||| 1)), (10, .int 0), (9, .int 1), (8, .int (nI i)), (7, .int (b01 b9)), (3, .int (nI (k / 5))), (2, .int (nI (k % 5))), (1, .int set), (0, .int (nI k))] d_X4_isEnclosed_130 (by decide) rfl ?_
              refine z_iload d_X4_isEnclosed_132 6 rfl ?_
              refine z_iload d_X4_isEnclosed_134 3 rfl ?_
              refine z_if_eq d_X4_isEnclosed_136 (fun c_136 => ?_) (fun c_136 => ?_)
              rotate_left
              · exact absurd c_136 (by decide)
              refine z_iconst (v := 0) d_X4_isEnclosed_149 (by decide) ?_
              refine z_ior d_X4_isEnclosed_150 ?_
              refine z_istore [(7, .int ((b01 b9) ||| 0)), (6, .int ((b01 a9) ||| 0)), (5, .int ((b01 r9) ||| 1)), (4, .int ((b01 l) ||| 1)), (10, .int 0), (9, .int 1), (8, .int (nI i)), (3, .int (nI (k / 5))), (2, .int (nI (k % 5))), (1, .int set), (0, .int (nI k))] d_X4_isEnclosed_151 (by decide) rfl ?_
              refine z_iinc (nI (i + 1)) [(8, .int (nI (i + 1))), (7, .int ((b01 b9) ||| 0)), (6, .int ((b01 a9) ||| 0)), (5, .int ((b01 r9) ||| 1)), (4, .int ((b01 l) ||| 1)), (10, .int 0), (9, .int 1), (3, .int (nI (k / 5))), (2, .int (nI (k % 5))), (1, .int set), (0, .int (nI k))] 6 d_X4_isEnclosed_153 rfl (nI_1 _) (by decide) rfl ?_
              refine z_goto d_X4_isEnclosed_156 ?_
              refine z_perm [0, 1, 2, 3, 4, 7, 8, 9, 10] rfl ?_
              have e1 := h9
              have e2 := h9
              simp only [b01_o1, b01_o0]
              exact ih (i + 1) (l || true) (r9 || true) (a9 || false) (b9 || false) (by omega) (by omega) (by rw [hl, exB, eL, (show bt set (5 * (k / 5) + i) = true from by exact sb0n (by omega) (by rw [← nI_add, ← nI_mul]; exact c_39)), decide_eq_true (p := i < k % 5) (by rw [← nI_ltI (a := i) (b := k % 5) (by omega) (by omega)]; exact c_79)]; rfl) (by rw [hr, exB, eR, (show bt set (5 * (k / 5) + i) = true from by exact sb0n (by omega) (by rw [← nI_add, ← nI_mul]; exact c_39)), decide_eq_true (p := k % 5 < i) (by rw [← nI_ltI (a := k % 5) (b := i) (by omega) (by omega)]; exact c_100)]; rfl) (by rw [hA, exB, eA, (show bt set (5 * i + k % 5) = false from by exact (sb0 (by omega)).mp (by rw [← nI_add, ← nI_mul]; exact c_59))]; rfl) (by rw [hB, exB, eB, (show bt set (5 * i + k % 5) = false from by exact (sb0 (by omega)).mp (by rw [← nI_add, ← nI_mul]; exact c_59))]; rfl)
        · refine z_iconst (v := 1) d_X4_isEnclosed_62 (by decide) ?_
          refine z_goto d_X4_isEnclosed_63 ?_
          refine z_istore [(10, .int 1), (9, .int 1), (8, .int (nI i)), (7, .int (b01 b9)), (6, .int (b01 a9)), (5, .int (b01 r9)), (4, .int (b01 l)), (3, .int (nI (k / 5))), (2, .int (nI (k % 5))), (1, .int set), (0, .int (nI k))] d_X4_isEnclosed_67 (by decide) rfl ?_
          refine z_iload d_X4_isEnclosed_69 6 rfl ?_
          refine z_iload d_X4_isEnclosed_71 1 rfl ?_
          refine z_if_eq d_X4_isEnclosed_73 (fun c_73 => ?_) (fun c_73 => ?_)
          · exact absurd c_73 (by decide)
          refine z_iload d_X4_isEnclosed_76 2 rfl ?_
          refine z_iload_n d_X4_isEnclosed_78 8 rfl ?_
          refine z_icmp_ge d_X4_isEnclosed_79 (fun c_79 => ?_) (fun c_79 => ?_)
          · refine z_iconst (v := 0) d_X4_isEnclosed_86 (by decide) ?_
            refine z_ior d_X4_isEnclosed_87 ?_
            refine z_istore [(4, .int ((b01 l) ||| 0)), (10, .int 1), (9, .int 1), (8, .int (nI i)), (7, .int (b01 b9)), (6, .int (b01 a9)), (5, .int (b01 r9)), (3, .int (nI (k / 5))), (2, .int (nI (k % 5))), (1, .int set), (0, .int (nI k))] d_X4_isEnclosed_88 (by decide) rfl ?_
            refine z_iload d_X4_isEnclosed_90 6 rfl ?_
            refine z_iload d_X4_isEnclosed_92 2 rfl ?_
            refine z_if_eq d_X4_isEnclosed_94 (fun c_94 => ?_) (fun c_94 => ?_)
            · exact absurd c_94 (by decide)
            refine z_iload d_X4_isEnclosed_97 3 rfl ?_
            refine z_iload_n d_X4_isEnclosed_99 8 rfl ?_
            refine z_icmp_le d_X4_isEnclosed_100 (fun c_100 => ?_) (fun c_100 => ?_)
            · refine z_iconst (v := 0) d_X4_isEnclosed_107 (by decide) ?_
              refine z_ior d_X4_isEnclosed_108 ?_
              refine z_istore [(5, .int ((b01 r9) ||| 0)), (4, .int ((b01 l) ||| 0)), (10, .int 1), (9, .int 1), (8, .int (nI i)), (7, .int (b01 b9)), (6, .int (b01 a9)), (3, .int (nI (k / 5))), (2, .int (nI (k % 5))), (1, .int set), (0, .int (nI k))] d_X4_isEnclosed_109 (by decide) rfl ?_
              refine z_iload d_X4_isEnclosed_111 6 rfl ?_
              refine z_iload d_X4_isEnclosed_113 2 rfl ?_
              refine z_if_eq d_X4_isEnclosed_115 (fun c_115 => ?_) (fun c_115 => ?_)
              · exact absurd c_115 (by decide)
              refine z_iload d_X4_isEnclosed_118 4 rfl ?_
              refine z_iload_n d_X4_isEnclosed_120 7 rfl ?_
              refine z_icmp_ge d_X4_isEnclosed_121 (fun c_121 => ?_) (fun c_121 => ?_)
              · refine z_iconst (v := 0) d_X4_isEnclosed_128 (by decide) ?_
                refine z_ior d_X4_isEnclosed_129 ?_
                refine z_istore [(6, .int ((b01 a9) ||| 0)), (5, .int ((b01 r9) ||| 0)), (4, .int ((b01 l) ||| 0)), (10, .int 1), (9, .int 1), (8, .int (nI i)), (7, .int (b01 b9)), (3, .int (nI (k / 5))), (2, .int (nI (k % 5))), (1, .int set), (0, .int (nI k))] d_X4_isEnclosed_130 (by decide) rfl ?_
                refine z_iload d_X4_isEnclosed_132 6 rfl ?_
                refine z_iload d_X4_isEnclosed_134 3 rfl ?_
                refine z_if_eq d_X4_isEnclosed_136 (fun c_136 => ?_) (fun c_136 => ?_)
                · exact absurd c_136 (by decide)
                refine z_iload d_X4_isEnclosed_139 5 rfl ?_
                refine z_iload_n d_X4_isEnclosed_141 7 rfl ?_
                refine z_icmp_le d_X4_isEnclosed_142 (fun c_142 => ?_) (fun c_142 => ?_)
                · refine z_iconst (v := 0) d_X4_isEnclosed_149 (by decide) ?_
                  refine z_ior d_X4_isEnclosed_150 ?_
                  refine z_istore [(7, .int ((b01 b9) ||| 0)), (6, .int ((b01 a9) ||| 0)), (5, .int ((b01 r9) ||| 0)), (4, .int ((b01 l) ||| 0)), (10, .int 1), (9, .int 1), (8, .int (nI i)), (3, .int (nI (k / 5))), (2, .int (nI (k % 5))), (1, .int set), (0, .int (nI k))] d_X4_isEnclosed_151 (by decide) rfl ?_
                  refine z_iinc (nI (i + 1)) [(8, .int (nI (i + 1))), (7, .int ((b01 b9) ||| 0)), (6, .int ((b01 a9) ||| 0)), (5, .int ((b01 r9) ||| 0)), (4, .int ((b01 l) ||| 0)), (10, .int 1), (9, .int 1), (3, .int (nI (k / 5))), (2, .int (nI (k % 5))), (1, .int set), (0, .int (nI k))] 6 d_X4_isEnclosed_153 rfl (nI_1 _) (by decide) rfl ?_
                  refine z_goto d_X4_isEnclosed_156 ?_
                  refine z_perm [0, 1, 2, 3, 4, 7, 8, 9, 10] rfl ?_
                  have e1 := h9
                  have e2 := h9
                  simp only [b01_o1, b01_o0]
                  exact ih (i + 1) (l || false) (r9 || false) (a9 || false) (b9 || false) (by omega) (by omega) (by rw [hl, exB, eL, (show bt set (5 * (k / 5) + i) = true from by exact sb0n (by omega) (by rw [← nI_add, ← nI_mul]; exact c_39)), decide_eq_false (p := i < k % 5) (by rw [← nI_ltI (a := i) (b := k % 5) (by omega) (by omega)]; exact c_79)]; rfl) (by rw [hr, exB, eR, (show bt set (5 * (k / 5) + i) = true from by exact sb0n (by omega) (by rw [← nI_add, ← nI_mul]; exact c_39)), decide_eq_false (p := k % 5 < i) (by rw [← nI_ltI (a := k % 5) (b := i) (by omega) (by omega)]; exact c_100)]; rfl) (by rw [hA, exB, eA, (show bt set (5 * i + k % 5) = true from by exact sb0n (by omega) (by rw [← nI_add, ← nI_mul]; exact c_59)), decide_eq_false (p := i < k / 5) (by rw [← nI_ltI (a := i) (b := k / 5) (by omega) (by omega)]; exact c_121)]; rfl) (by rw [hB, exB, eB, (show bt set (5 * i + k % 5) = true from by exact sb0n (by omega) (by rw [← nI_add, ← nI_mul]; exact c_59)), decide_eq_false (p := k / 5 < i) (by rw [← nI_ltI (a := k / 5) (b := i) (by omega) (by omega)]; exact c_142)]; rfl)
                · refine z_iconst (v := 1) d_X4_isEnclosed_145 (by decide) ?_
                  refine z_goto d_X4_isEnclosed_146 ?_
                  refine z_ior d_X4_isEnclosed_150 ?_
                  refine z_istore [(7, .int ((b01 b9) ||| 1)), (6, .int ((b01 a9) ||| 0)), (5, .int ((b01 r9) ||| 0)), (4, .int ((b01 l) ||| 0)), (10, .int 1), (9, .int 1), (8, .int (nI i)), (3, .int (nI (k / 5))), (2, .int (nI (k % 5))), (1, .int set), (0, .int (nI k))] d_X4_isEnclosed_151 (by decide) rfl ?_
                  refine z_iinc (nI (i + 1)) [(8, .int (nI (i + 1))), (7, .int ((b01 b9) ||| 1)), (6, .int ((b01 a9) ||| 0)), (5, .int ((b01 r9) ||| 0)), (4, .int ((b01 l) ||| 0)), (10, .int 1), (9, .int 1), (3, .int (nI (k / 5))), (2, .int (nI (k % 5))), (1, .int set), (0, .int (nI k))] 6 d_X4_isEnclosed_153 rfl (nI_1 _) (by decide) rfl ?_
                  refine z_goto d_X4_isEnclosed_156 ?_
                  refine z_perm [0, 1, 2, 3, 4, 7, 8, 9, 10] rfl ?_
                  have e1 := h9
                  have e2 := h9
                  simp only [b01_o1, b01_o0]
                  exact ih (i + 1) (l || false) (r9 || false) (a9 || false) (b9 || true) (by omega) (by omega) (by rw [hl, exB, eL, (show bt set (5 * (k / 5) + i) = true from by exact sb0n (by omega) (by rw [← nI_add, ← nI_mul]; exact c_39)), decide_eq_false (p := i < k % 5) (by rw [← nI_ltI (a := i) (b := k % 5) (by omega) (by omega)]; exact c_79)]; rfl) (by rw [hr, exB, eR, (show bt set (5 * (k / 5) + i) = true from by exact sb0n (by omega) (by rw [← nI_add, ← nI_mul]; exact c_39)), decide_eq_false (p := k % 5 < i) (by rw [← nI_ltI (a := k % 5) (b := i) (by omega) (by omega)]; exact c_100)]; rfl) (by rw [hA, exB, eA, (show bt set (5 * i + k % 5) = true from by exact sb0n (by omega) (by rw [← nI_add, ← nI_mul]; exact c_59)), decide_eq_false (p := i < k / 5) (by rw [← nI_ltI (a := i) (b := k / 5) (by omega) (by omega)]; exact c_121)]; rfl) (by rw [hB, exB, eB, (show bt set (5 * i + k % 5) = true from by exact sb0n (by omega) (by rw [← nI_add, ← nI_mul]; exact c_59)), decide_eq_true (p := k / 5 < i) (by rw [← nI_ltI (a := k / 5) (b := i) (by omega) (by omega)]; exact c_142)]; rfl)
              · refine z_iconst (v := 1) d_X4_isEnclosed_124 (by decide) ?_
                refine z_goto d_X4_isEnclosed_125 ?_
                refine z_ior d_X4_isEnclosed_129 ?_
                refine z_istore [(6, .int ((b01 a9) ||| 1)), (5, .int ((b01 r9) ||| 0)), (4, .int ((b01 l) ||| 0)), (10, .int 1), (9, .int 1), (8, .int (nI i)), (7, .int (b01 b9)), (3, .int (nI (k / 5))), (2, .int (nI (k % 5))), (1, .int set), (0, .int (nI k))] d_X4_isEnclosed_130 (by decide) rfl ?_
                refine z_iload d_X4_isEnclosed_132 6 rfl ?_
                refine z_iload d_X4_isEnclosed_134 3 rfl ?_
                refine z_if_eq d_X4_isEnclosed_136 (fun c_136 => ?_) (fun c_136 => ?_)
                · exact absurd c_136 (by decide)
                refine z_iload d_X4_isEnclosed_139 5 rfl ?_
                refine z_iload_n d_X4_isEnclosed_141 7 rfl ?_
                refine z_icmp_le d_X4_isEnclosed_142 (fun c_142 => ?_) (fun c_142 => ?_)
                · refine z_iconst (v := 0) d_X4_isEnclosed_149 (by decide) ?_
                  refine z_ior d_X4_isEnclosed_150 ?_
                  refine z_istore [(7, .int ((b01 b9) ||| 0)), (6, .int ((b01 a9) ||| 1)), (5, .int ((b01 r9) ||| 0)), (4, .int ((b01 l) ||| 0)), (10, .int 1), (9, .int 1), (8, .int (nI i)), (3, .int (nI (k / 5))), (2, .int (nI (k % 5))), (1, .int set), (0, .int (nI k))] d_X4_isEnclosed_151 (by decide) rfl ?_
                  refine z_iinc (nI (i + 1)) [(8, .int (nI (i + 1))), (7, .int ((b01 b9) ||| 0)), (6, .int ((b01 a9) ||| 1)), (5, .int ((b01 r9) ||| 0)), (4, .int ((b01 l) ||| 0)), (10, .int 1), (9, .int 1), (3, .int (nI (k / 5))), (2, .int (nI (k % 5))), (1, .int set), (0, .int (nI k))] 6 d_X4_isEnclosed_153 rfl (nI_1 _) (by decide) rfl ?_
                  refine z_goto d_X4_isEnclosed_156 ?_
                  refine z_perm [0, 1, 2, 3, 4, 7, 8, 9, 10] rfl ?_
                  have e1 := h9
                  have e2 := h9
                  simp only [b01_o1, b01_o0]
                  exact ih (i + 1) (l || false) (r9 || false) (a9 || true) (b9 || false) (by omega) (by omega) (by rw [hl, exB, eL, (show bt set (5 * (k / 5) + i) = true from by exact sb0n (by omega) (by rw [← nI_add, ← nI_mul]; exact c_39)), decide_eq_false (p := i < k % 5) (by rw [← nI_ltI (a := i) (b := k % 5) (by omega) (by omega)]; exact c_79)]; rfl) (by rw [hr, exB, eR, (show bt set (5 * (k / 5) + i) = true from by exact sb0n (by omega) (by rw [← nI_add, ← nI_mul]; exact c_39)), decide_eq_false (p := k % 5 < i) (by rw [← nI_ltI (a := k % 5) (b := i) (by omega) (by omega)]; exact c_100)]; rfl) (by rw [hA, exB, eA, (show bt set (5 * i + k % 5) = true from by exact sb0n (by omega) (by rw [← nI_add, ← nI_mul]; exact c_59)), decide_eq_true (p := i < k / 5) (by rw [← nI_ltI (a := i) (b := k / 5) (by omega) (by omega)]; exact c_121)]; rfl) (by rw [hB, exB, eB, (show bt set (5 * i + k % 5) = true from by exact sb0n (by omega) (by rw [← nI_add, ← nI_mul]; exact c_59)), decide_eq_false (p := k / 5 < i) (by rw [← nI_ltI (a := k / 5) (b := i) (by omega) (by omega)]; exact c_142)]; rfl)
                · refine z_iconst (v := 1) d_X4_isEnclosed_145 (by decide) ?_
                  refine z_goto d_X4_isEnclosed_146 ?_
                  refine z_ior d_X4_isEnclosed_150 ?_
                  refine z_istore [(7, .int ((b01 b9) ||| 1)), (6, .int ((b01 a9) ||| 1)), (5, .int ((b01 r9) ||| 0)), (4, .int ((b01 l) ||| 0)), (10, .int 1), (9, .int 1), (8, .int (nI i)), (3, .int (nI (k / 5))), (2, .int (nI (k % 5))), (1, .int set), (0, .int (nI k))] d_X4_isEnclosed_151 (by decide) rfl ?_
                  refine z_iinc (nI (i + 1)) [(8, .int (nI (i + 1))), (7, .int ((b01 b9) ||| 1)), (6, .int ((b01 a9) ||| 1)), (5, .int ((b01 r9) ||| 0)), (4, .int ((b01 l) ||| 0)), (10, .int 1), (9, .int 1), (3, .int (nI (k / 5))), (2, .int (nI (k % 5))), (1, .int set), (0, .int (nI k))] 6 d_X4_isEnclosed_153 rfl (nI_1 _) (by decide) rfl ?_
                  refine z_goto d_X4_isEnclosed_156 ?_
                  refine z_perm [0, 1, 2, 3, 4, 7, 8, 9, 10] rfl ?_
                  have e1 := h9
                  have e2 := h9
                  simp only [b01_o1, b01_o0]
                  exact ih (i + 1) (l || false) (r9 || false) (a9 || true) (b9 || true) (by omega) (by omega) (by rw [hl, exB, eL, (show bt set (5 * (k / 5) + i) = true from by exact sb0n (by omega) (by rw [← nI_add, ← nI_mul]; exact c_39)), decide_eq_false (p := i < k % 5) (by rw [← nI_ltI (a := i) (b := k % 5) (by omega) (by omega)]; exact c_79)]; rfl) (by rw [hr, exB, eR, (show bt set (5 * (k / 5) + i) = true from by exact sb0n (by omega) (by rw [← nI_add, ← nI_mul]; exact c_39)), decide_eq_false (p := k % 5 < i) (by rw [← nI_ltI (a := k % 5) (b := i) (by omega) (by omega)]; exact c_100)]; rfl) (by rw [hA, exB, eA, (show bt set (5 * i + k % 5) = true from by exact sb0n (by omega) (by rw [← nI_add, ← nI_mul]; exact c_59)), decide_eq_true (p := i < k / 5) (by rw [← nI_ltI (a := i) (b := k / 5) (by omega) (by omega)]; exact c_121)]; rfl) (by rw [hB, exB, eB, (show bt set (5 * i + k % 5) = true from by exact sb0n (by omega) (by rw [← nI_add, ← nI_mul]; exact c_59)), decide_eq_true (p := k / 5 < i) (by rw [← nI_ltI (a := k / 5) (b := i) (by omega) (by omega)]; exact c_142)]; rfl)
            · refine z_iconst (v := 1) d_X4_isEnclosed_103 (by decide) ?_
              refine z_goto d_X4_isEnclosed_104 ?_
              refine z_ior d_X4_isEnclosed_108 ?_
              refine z_istore [(5, .int ((b01 r9) ||| 1)), (4, .int ((b01 l) ||| 0)), (10, .int 1), (9, .int 1), (8, .int (nI i)), (7, .int (b01 b9)), (6, .int (b01 a9)), (3, .int (nI (k / 5))), (2, .int (nI (k % 5))), (1, .int set), (0, .int (nI k))] d_X4_isEnclosed_109 (by decide) rfl ?_
              refine z_iload d_X4_isEnclosed_111 6 rfl ?_
              refine z_iload d_X4_isEnclosed_113 2 rfl ?_
              refine z_if_eq d_X4_isEnclosed_115 (fun c_115 => ?_) (fun c_115 => ?_)
              · exact absurd c_115 (by decide)
              refine z_iload d_X4_isEnclosed_118 4 rfl ?_
              refine z_iload_n d_X4_isEnclosed_120 7 rfl ?_
              refine z_icmp_ge d_X4_isEnclosed_121 (fun c_121 => ?_) (fun c_121 => ?_)
              · refine z_iconst (v := 0) d_X4_isEnclosed_128 (by decide) ?_
                refine z_ior d_X4_isEnclosed_129 ?_
                refine z_istore [(6, .int ((b01 a9) ||| 0)), (5, .int ((b01 r9) ||| 1)), (4, .int ((b01 l) ||| 0)), (10, .int 1), (9, .int 1), (8, .int (nI i)), (7, .int (b01 b9)), (3, .int (nI (k / 5))), (2, .int (nI (k % 5))), (1, .int set), (0, .int (nI k))] d_X4_isEnclosed_130 (by decide) rfl ?_
                refine z_iload d_X4_isEnclosed_132 6 rfl ?_
                refine z_iload d_X4_isEnclosed_134 3 rfl ?_
                refine z_if_eq d_X4_isEnclosed_136 (fun c_136 => ?_) (fun c_136 => ?_)
                · exact absurd c_136 (by decide)
                refine z_iload d_X4_isEnclosed_139 5 rfl ?_
                refine z_iload_n d_X4_isEnclosed_141 7 rfl ?_
                refine z_icmp_le d_X4_isEnclosed_142 (fun c_142 => ?_) (fun c_142 => ?_)
                · refine z_iconst (v := 0) d_X4_isEnclosed_149 (by decide) ?_
                  refine z_ior d_X4_isEnclosed_150 ?_
                  refine z_istore [(7, .int ((b01 b9) ||| 0)), (6, .int ((b01 a9) ||| 0)), (5, .int ((b01 r9) ||| 1)), (4, .int ((b01 l) ||| 0)), (10, .int 1), (9, .int 1), (8, .int (nI i)), (3, .int (nI (k / 5))), (2, .int (nI (k % 5))), (1, .int set), (0, .int (nI k))] d_X4_isEnclosed_151 (by decide) rfl ?_
                  refine z_iinc (nI (i + 1)) [(8, .int (nI (i + 1))), (7, .int ((b01 b9) ||| 0)), (6, .int ((b01 a9) ||| 0)), (5, .int ((b01 r9) ||| 1)), (4, .int ((b01 l) ||| 0)), (10, .int 1), (9, .int 1), (3, .int (nI (k / 5))), (2, .int (nI (k % 5))), (1, .int set), (0, .int (nI k))] 6 d_X4_isEnclosed_153 rfl (nI_1 _) (by decide) rfl ?_
                  refine z_goto d_X4_isEnclosed_156 ?_
                  refine z_perm [0, 1, 2, 3, 4, 7, 8, 9, 10] rfl ?_
                  have e1 := h9
                  have e2 := h9
                  simp only [b01_o1, b01_o0]
                  exact ih (i + 1) (l || false) (r9 || true) (a9 || false) (b9 || false) (by omega) (by omega) (by rw [hl, exB, eL, (show bt set (5 * (k / 5) + i) = true from by exact sb0n (by omega) (by rw [← nI_add, ← nI_mul]; exact c_39)), decide_eq_false (p := i < k % 5) (by rw [← nI_ltI (a := i) (b := k % 5) (by omega) (by omega)]; exact c_79)]; rfl) (by rw [hr, exB, eR, (show bt set (5 * (k / 5) + i) = true from by exact sb0n (by omega) (by rw [← nI_add, ← nI_mul]; exact c_39)), decide_eq_true (p := k % 5 < i) (by rw [← nI_ltI (a := k % 5) (b := i) (by omega) (by omega)]; exact c_100)]; rfl) (by rw [hA, exB, eA, (show bt set (5 * i + k % 5) = true from by exact sb0n (by omega) (by rw [← nI_add, ← nI_mul]; exact c_59)), decide_eq_false (p := i < k / 5) (by rw [← nI_ltI (a := i) (b := k / 5) (by omega) (by omega)]; exact c_121)]; rfl) (by rw [hB, exB, eB, (show bt set (5 * i + k % 5) = true from by exact sb0n (by omega) (by rw [← nI_add, ← nI_mul]; exact c_59)), decide_eq_false (p := k / 5 < i) (by rw [← nI_ltI (a := k / 5) (b := i) (by omega) (by omega)]; exact c_142)]; rfl)
                · refine z_iconst (v := 1) d_X4_isEnclosed_145 (by decide) ?_
                  refine z_goto d_X4_isEnclosed_146 ?_
                  refine z_ior d_X4_isEnclosed_150 ?_
                  refine z_istore [(7, .int ((b01 b9) ||| 1)), (6, .int ((b01 a9) ||| 0)), (5, .int ((b01 r9) ||| 1)), (4, .int ((b01 l) ||| 0)), (10, .int 1), (9, .int 1), (8, .int (nI i)), (3, .int (nI (k / 5))), (2, .int (nI (k % 5))), (1, .int set), (0, .int (nI k))] d_X4_isEnclosed_151 (by decide) rfl ?_
                  refine z_iinc (nI (i + 1)) [(8, .int (nI (i + 1))), (7, .int ((b01 b9) ||| 1)), (6, .int ((b01 a9) ||| 0)), (5, .int ((b01 r9) ||| 1)), (4, .int ((b01 l) ||| 0)), (10, .int 1), (9, .int 1), (3, .int (nI (k / 5))), (2, .int (nI (k % 5))), (1, .int set), (0, .int (nI k))] 6 d_X4_isEnclosed_153 rfl (nI_1 _) (by decide) rfl ?_
                  refine z_goto d_X4_isEnclosed_156 ?_
                  refine z_perm [0, 1, 2, 3, 4, 7, 8, 9, 10] rfl ?_
                  have e1 := h9
                  have e2 := h9
                  simp only [b01_o1, b01_o0]
                  exact ih (i + 1) (l || false) (r9 || true) (a9 || false) (b9 || true) (by omega) (by omega) (by rw [hl, exB, eL, (show bt set (5 * (k / 5) + i) = true from by exact sb0n (by omega) (by rw [← nI_add, ← nI_mul]; exact c_39)), decide_eq_false (p := i < k % 5) (by rw [← nI_ltI (a := i) (b := k % 5) (by omega) (by omega)]; exact c_79)]; rfl) (by rw [hr, exB, eR, (show bt set (5 * (k / 5) + i) = true from by exact sb0n (by omega) (by rw [← nI_add, ← nI_mul]; exact c_39)), decide_eq_true (p := k % 5 < i) (by rw [← nI_ltI (a := k % 5) (b := i) (by omega) (by omega)]; exact c_100)]; rfl) (by rw [hA, exB, eA, (show bt set (5 * i + k % 5) = true from by exact sb0n (by omega) (by rw [← nI_add, ← nI_mul]; exact c_59)), decide_eq_false (p := i < k / 5) (by rw [← nI_ltI (a := i) (b := k / 5) (by omega) (by omega)]; exact c_121)]; rfl) (by rw [hB, exB, eB, (show bt set (5 * i + k % 5) = true from by exact sb0n (by omega) (by rw [← nI_add, ← nI_mul]; exact c_59)), decide_eq_true (p := k / 5 < i) (by rw [← nI_ltI (a := k / 5) (b := i) (by omega) (by omega)]; exact c_142)]; rfl)
              · refine z_iconst (v := 1) d_X4_isEnclosed_124 (by decide) ?_
                refine z_goto d_X4_isEnclosed_125 ?_
                refine z_ior d_X4_isEnclosed_129 ?_
                refine z_istore [(6, .int ((b01 a9) ||| 1)), (5, .int ((b01 r9) ||| 1)), (4, .int ((b01 l) ||| 0)), (10, .int 1), (9, .int 1), (8, .int (nI i)), (7, .int (b01 b9)), (3, .int (nI (k / 5))), (2, .int (nI (k % 5))), (1, .int set), (0, .int (nI k))] d_X4_isEnclosed_130 (by decide) rfl ?_
                refine z_iload d_X4_isEnclosed_132 6 rfl ?_
                refine z_iload d_X4_isEnclosed_134 3 rfl ?_
                refine z_if_eq d_X4_isEnclosed_136 (fun c_136 => ?_) (fun c_136 => ?_)
                · exact absurd c_136 (by decide)
                refine z_iload d_X4_isEnclosed_139 5 rfl ?_
                refine z_iload_n d_X4_isEnclosed_141 7 rfl ?_
                refine z_icmp_le d_X4_isEnclosed_142 (fun c_142 => ?_) (fun c_142 => ?_)
                · refine z_iconst (v := 0) d_X4_isEnclosed_149 (by decide) ?_
                  refine z_ior d_X4_isEnclosed_150 ?_
                  refine z_istore [(7, .int ((b01 b9) ||| 0)), (6, .int ((b01 a9) ||| 1)), (5, .int ((b01 r9) ||| 1)), (4, .int ((b01 l) ||| 0)), (10, .int 1), (9, .int 1), (8, .int (nI i)), (3, .int (nI (k / 5))), (2, .int (nI (k % 5))), (1, .int set), (0, .int (nI k))] d_X4_isEnclosed_151 (by decide) rfl ?_
                  refine z_iinc (nI (i + 1)) [(8, .int (nI (i + 1))), (7, .int ((b01 b9) ||| 0)), (6, .int ((b01 a9) ||| 1)), (5, .int ((b01 r9) ||| 1)), (4, .int ((b01 l) ||| 0)), (10, .int 1), (9, .int 1), (3, .int (nI (k / 5))), (2, .int (nI (k % 5))), (1, .int set), (0, .int (nI k))] 6 d_X4_isEnclosed_153 rfl (nI_1 _) (by decide) rfl ?_
                  refine z_goto d_X4_isEnclosed_156 ?_
                  refine z_perm [0, 1, 2, 3, 4, 7, 8, 9, 10] rfl ?_
                  have e1 := h9
                  have e2 := h9
                  simp only [b01_o1, b01_o0]
                  exact ih (i + 1) (l || false) (r9 || true) (a9 || true) (b9 || false) (by omega) (by omega) (by rw [hl, exB, eL, (show bt set (5 * (k / 5) + i) = true from by exact sb0n (by omega) (by rw [← nI_add, ← nI_mul]; exact c_39)), decide_eq_false (p := i < k % 5) (by rw [← nI_ltI (a := i) (b := k % 5) (by omega) (by omega)]; exact c_79)]; rfl) (by rw [hr, exB, eR, (show bt set (5 * (k / 5) + i) = true from by exact sb0n (by omega) (by rw [← nI_add, ← nI_mul]; exact c_39)), decide_eq_true (p := k % 5 < i) (by rw [← nI_ltI (a := k % 5) (b := i) (by omega) (by omega)]; exact c_100)]; rfl) (by rw [hA, exB, eA, (show bt set (5 * i + k % 5) = true from by exact sb0n (by omega) (by rw [← nI_add, ← nI_mul]; exact c_59)), decide_eq_true (p := i < k / 5) (by rw [← nI_ltI (a := i) (b := k / 5) (by omega) (by omega)]; exact c_121)]; rfl) (by rw [hB, exB, eB, (show bt set (5 * i + k % 5) = true from by exact sb0n (by omega) (by rw [← nI_add, ← nI_mul]; exact c_59)), decide_eq_false (p := k / 5 < i) (by rw [← nI_ltI (a := k / 5) (b := i) (by omega) (by omega)]; exact c_142)]; rfl)
                · refine z_iconst (v := 1) d_X4_isEnclosed_145 (by decide) ?_
                  refine z_goto d_X4_isEnclosed_146 ?_
                  refine z_ior d_X4_isEnclosed_150 ?_
                  refine z_istore [(7, .int ((b01 b9) ||| 1)), (6, .int ((b01 a9) ||| 1)), (5, .int ((b01 r9) ||| 1)), (4, .int ((b01 l) ||| 0)), (10, .int 1), (9, .int 1), (8, .int (nI i)), (3, .int (nI (k / 5))), (2, .int (nI (k % 5))), (1, .int set), (0, .int (nI k))] d_X4_isEnclosed_151 (by decide) rfl ?_
                  refine z_iinc (nI (i + 1)) [(8, .int (nI (i + 1))), (7, .int ((b01 b9) ||| 1)), (6, .int ((b01 a9) ||| 1)), (5, .int ((b01 r9) ||| 1)), (4, .int ((b01 l) ||| 0)), (10, .int 1), (9, .int 1), (3, .int (nI (k / 5))), (2, .int (nI (k % 5))), (1, .int set), (0, .int (nI k))] 6 d_X4_isEnclosed_153 rfl (nI_1 _) (by decide) rfl ?_
                  refine z_goto d_X4_isEnclosed_156 ?_
                  refine z_perm [0, 1, 2, 3, 4, 7, 8, 9, 10] rfl ?_
                  have e1 := h9
                  have e2 := h9
                  simp only [b01_o1, b01_o0]
                  exact ih (i + 1) (l || false) (r9 || true) (a9 || true) (b9 || true) (by omega) (by omega) (by rw [hl, exB, eL, (show bt set (5 * (k / 5) + i) = true from by exact sb0n (by omega) (by rw [← nI_add, ← nI_mul]; exact c_39)), decide_eq_false (p := i < k % 5) (by rw [← nI_ltI (a := i) (b := k % 5) (by omega) (by omega)]; exact c_79)]; rfl) (by rw [hr, exB, eR, (show bt set (5 * (k / 5) + i) = true from by exact sb0n (by omega) (by rw [← nI_add, ← nI_mul]; exact c_39)), decide_eq_true (p := k % 5 < i) (by rw [← nI_ltI (a := k % 5) (b := i) (by omega) (by omega)]; exact c_100)]; rfl) (by rw [hA, exB, eA, (show bt set (5 * i + k % 5) = true from by exact sb0n (by omega) (by rw [← nI_add, ← nI_mul]; exact c_59)), decide_eq_true (p := i < k / 5) (by rw [← nI_ltI (a := i) (b := k / 5) (by omega) (by omega)]; exact c_121)]; rfl) (by rw [hB, exB, eB, (show bt set (5 * i + k % 5) = true from by exact sb0n (by omega) (by rw [← nI_add, ← nI_mul]; exact c_59)), decide_eq_true (p := k / 5 < i) (by rw [← nI_ltI (a := k / 5) (b := i) (by omega) (by omega)]; exact c_142)]; rfl)
          · refine z_iconst (v := 1) d_X4_isEnclosed_82 (by decide) ?_
            refine z_goto d_X4_isEnclosed_83 ?_
            refine z_ior d_X4_isEnclosed_87 ?_
            refine z_istore [(4, .int ((b01 l) ||| 1)), (10, .int 1), (9, .int 1), (8, .int (nI i)), (7, .int (b01 b9)), (6, .int (b01 a9)), (5, .int (b01 r9)), (3, .int (nI (k / 5))), (2, .int (nI (k % 5))), (1, .int set), (0, .int (nI k))] d_X4_isEnclosed_88 (by decide) rfl ?_
            refine z_iload d_X4_isEnclosed_90 6 rfl ?_
            refine z_iload d_X4_isEnclosed_92 2 rfl ?_
            refine z_if_eq d_X4_isEnclosed_94 (fun c_94 => ?_) (fun c_94 => ?_)
            · exact absurd c_94 (by decide)
            refine z_iload d_X4_isEnclosed_97 3 rfl ?_
            refine z_iload_n d_X4_isEnclosed_99 8 rfl ?_
            refine z_icmp_le d_X4_isEnclosed_100 (fun c_100 => ?_) (fun c_100 => ?_)
            · refine z_iconst (v := 0) d_X4_isEnclosed_107 (by decide) ?_
              refine z_ior d_X4_isEnclosed_108 ?_
              refine z_istore [(5, .int ((b01 r9) ||| 0)), (4, .int ((b01 l) ||| 1)), (10, .int 1), (9, .int 1), (8, .int (nI i)), (7, .int (b01 b9)), (6, .int (b01 a9)), (3, .int (nI (k / 5))), (2, .int (nI (k % 5))), (1, .int set), (0, .int (nI k))] d_X4_isEnclosed_109 (by decide) rfl ?_
              refine z_iload d_X4_isEnclosed_111 6 rfl ?_
              refine z_iload d_X4_isEnclosed_113 2 rfl ?_
              refine z_if_eq d_X4_isEnclosed_115 (fun c_115 => ?_) (fun c_115 => ?_)
              · exact absurd c_115 (by decide)
              refine z_iload d_X4_isEnclosed_118 4 rfl ?_
              refine z_iload_n d_X4_isEnclosed_120 7 rfl ?_
              refine z_icmp_ge d_X4_isEnclosed_121 (fun c_121 => ?_) (fun c_121 => ?_)
              · refine z_iconst (v := 0) d_X4_isEnclosed_128 (by decide) ?_
                refine z_ior d_X4_isEnclosed_129 ?_
                refine z_istore [(6, .int ((b01 a9) ||| 0)), (5, .int ((b01 r9) ||| 0)), (4, .int ((b01 l) ||| 1)), (10, .int 1), (9, .int 1), (8, .int (nI i)), (7, .int (b01 b9)), (3, .int (nI (k / 5))), (2, .int (nI (k % 5))), (1, .int set), (0, .int (nI k))] d_X4_isEnclosed_130 (by decide) rfl ?_
                refine z_iload d_X4_isEnclosed_132 6 rfl ?_
                refine z_iload d_X4_isEnclosed_134 3 rfl ?_
                refine z_if_eq d_X4_isEnclosed_136 (fun c_136 => ?_) (fun c_136 => ?_)
                · exact absurd c_136 (by decide)
                refine z_iload d_X4_isEnclosed_139 5 rfl ?_
                refine z_iload_n d_X4_isEnclosed_141 7 rfl ?_
                refine z_icmp_le d_X4_isEnclosed_142 (fun c_142 => ?_) (fun c_142 => ?_)
                · refine z_iconst (v := 0) d_X4_isEnclosed_149 (by decide) ?_
                  refine z_ior d_X4_isEnclosed_150 ?_
                  refine z_istore [(7, .int ((b01 b9) ||| 0)), (6, .int ((b01 a9) ||| 0)), (5, .int ((b01 r9) ||| 0)), (4, .int ((b01 l) ||| 1)), (10, .int 1), (9, .int 1), (8, .int (nI i)), (3, .int (nI (k / 5))), (2, .int (nI (k % 5))), (1, .int set), (0, .int (nI k))] d_X4_isEnclosed_151 (by decide) rfl ?_
                  refine z_iinc (nI (i + 1)) [(8, .int (nI (i + 1))), (7, .int ((b01 b9) ||| 0)), (6, .int ((b01 a9) ||| 0)), (5, .int ((b01 r9) ||| 0)), (4, .int ((b01 l) ||| 1)), (10, .int 1), (9, .int 1), (3, .int (nI (k / 5))), (2, .int (nI (k % 5))), (1, .int set), (0, .int (nI k))] 6 d_X4_isEnclosed_153 rfl (nI_1 _) (by decide) rfl ?_
                  refine z_goto d_X4_isEnclosed_156 ?_
                  refine z_perm [0, 1, 2, 3, 4, 7, 8, 9, 10] rfl ?_
                  have e1 := h9
                  have e2 := h9
                  simp only [b01_o1, b01_o0]
                  exact ih (i + 1) (l || true) (r9 || false) (a9 || false) (b9 || false) (by omega) (by omega) (by rw [hl, exB, eL, (show bt set (5 * (k / 5) + i) = true from by exact sb0n (by omega) (by rw [← nI_add, ← nI_mul]; exact c_39)), decide_eq_true (p := i < k % 5) (by rw [← nI_ltI (a := i) (b := k % 5) (by omega) (by omega)]; exact c_79)]; rfl) (by rw [hr, exB, eR, (show bt set (5 * (k / 5) + i) = true from by exact sb0n (by omega) (by rw [← nI_add, ← nI_mul]; exact c_39)), decide_eq_false (p := k % 5 < i) (by rw [← nI_ltI (a := k % 5) (b := i) (by omega) (by omega)]; exact c_100)]; rfl) (by rw [hA, exB, eA, (show bt set (5 * i + k % 5) = true from by exact sb0n (by omega) (by rw [← nI_add, ← nI_mul]; exact c_59)), decide_eq_false (p := i < k / 5) (by rw [← nI_ltI (a := i) (b := k / 5) (by omega) (by omega)]; exact c_121)]; rfl) (by rw [hB, exB, eB, (show bt set (5 * i + k % 5) = true from by exact sb0n (by omega) (by rw [← nI_add, ← nI_mul]; exact c_59)), decide_eq_false (p := k / 5 < i) (by rw [← nI_ltI (a := k / 5) (b := i) (by omega) (by omega)]; exact c_142)]; rfl)
                · refine z_iconst (v := 1) d_X4_isEnclosed_145 (by decide) ?_
                  refine z_goto d_X4_isEnclosed_146 ?_
                  refine z_ior d_X4_isEnclosed_150 ?_
                  refine z_istore [(7, .int ((b01 b9) ||| 1)), (6, .int ((b01 a9) ||| 0)), (5, .int ((b01 r9) ||| 0)), (4, .int ((b01 l) ||| 1)), (10, .int 1), (9, .int 1), (8, .int (nI i)), (3, .int (nI (k / 5))), (2, .int (nI (k % 5))), (1, .int set), (0, .int (nI k))] d_X4_isEnclosed_151 (by decide) rfl ?_
                  refine z_iinc (nI (i + 1)) [(8, .int (nI (i + 1))), (7, .int ((b01 b9) ||| 1)), (6, .int ((b01 a9) ||| 0)), (5, .int ((b01 r9) ||| 0)), (4, .int ((b01 l) ||| 1)), (10, .int 1), (9, .int 1), (3, .int (nI (k / 5))), (2, .int (nI (k % 5))), (1, .int set), (0, .int (nI k))] 6 d_X4_isEnclosed_153 rfl (nI_1 _) (by decide) rfl ?_
                  refine z_goto d_X4_isEnclosed_156 ?_
                  refine z_perm [0, 1, 2, 3, 4, 7, 8, 9, 10] rfl ?_
                  have e1 := h9
                  have e2 := h9
                  simp only [b01_o1, b01_o0]
                  exact ih (i + 1) (l || true) (r9 || false) (a9 || false) (b9 || true) (by omega) (by omega) (by rw [hl, exB, eL, (show bt set (5 * (k / 5) + i) = true from by exact sb0n (by omega) (by rw [← nI_add, ← nI_mul]; exact c_39)), decide_eq_true (p := i < k % 5) (by rw [← nI_ltI (a := i) (b := k % 5) (by omega) (by omega)]; exact c_79)]; rfl) (by rw [hr, exB, eR, (show bt set (5 * (k / 5) + i) = true from by exact sb0n (by omega) (by rw [← nI_add, ← nI_mul]; exact c_39)), decide_eq_false (p := k % 5 < i) (by rw [← nI_ltI (a := k % 5) (b := i) (by omega) (by omega)]; exact c_100)]; rfl) (by rw [hA, exB, eA, (show bt set (5 * i + k % 5) = true from by exact sb0n (by omega) (by rw [← nI_add, ← nI_mul]; exact c_59)), decide_eq_false (p := i < k / 5) (by rw [← nI_ltI (a := i) (b := k / 5) (by omega) (by omega)]; exact c_121)]; rfl) (by rw [hB, exB, eB, (show bt set (5 * i + k % 5) = true from by exact sb0n (by omega) (by rw [← nI_add, ← nI_mul]; exact c_59)), decide_eq_true (p := k / 5 < i) (by rw [← nI_ltI (a := k / 5) (b := i) (by omega) (by omega)]; exact c_142)]; rfl)
              · refine z_iconst (v := 1) d_X4_isEnclosed_124 (by decide) ?_
                refine z_goto d_X4_isEnclosed_125 ?_
                refine z_ior d_X4_isEnclosed_129 ?_
                refine z_istore [(6, .int ((b01 a9) ||| 1)), (5, .int ((b01 r9) ||| 0)), (4, .int ((b01 l) ||| 1)), (10, .int 1), (9, .int 1), (8, .int (nI i)), (7, .int (b01 b9)), (3, .int (nI (k / 5))), (2, .int (nI (k % 5))), (1, .int set), (0, .int (nI k))] d_X4_isEnclosed_130 (by decide) rfl ?_
                refine z_iload d_X4_isEnclosed_132 6 rfl ?_
                refine z_iload d_X4_isEnclosed_134 3 rfl ?_
                refine z_if_eq d_X4_isEnclosed_136 (fun c_136 => ?_) (fun c_136 => ?_)
                · exact absurd c_136 (by decide)
                refine z_iload d_X4_isEnclosed_139 5 rfl ?_
                refine z_iload_n d_X4_isEnclosed_141 7 rfl ?_
                refine z_icmp_le d_X4_isEnclosed_142 (fun c_142 => ?_) (fun c_142 => ?_)
                · refine z_iconst (v := 0) d_X4_isEnclosed_149 (by decide) ?_
                  refine z_ior d_X4_isEnclosed_150 ?_
                  refine z_istore [(7, .int ((b01 b9) ||| 0)), (6, .int ((b01 a9) ||| 1)), (5, .int ((b01 r9) ||| 0)), (4, .int ((b01 l) ||| 1)), (10, .int 1), (9, .int 1), (8, .int (nI i)), (3, .int (nI (k / 5))), (2, .int (nI (k % 5))), (1, .int set), (0, .int (nI k))] d_X4_isEnclosed_151 (by decide) rfl ?_
                  refine z_iinc (nI (i + 1)) [(8, .int (nI (i + 1))), (7, .int ((b01 b9) ||| 0)), (6, .int ((b01 a9) ||| 1)), (5, .int ((b01 r9) ||| 0)), (4, .int ((b01 l) ||| 1)), (10, .int 1), (9, .int 1), (3, .int (nI (k / 5))), (2, .int (nI (k % 5))), (1, .int set), (0, .int (nI k))] 6 d_X4_isEnclosed_153 rfl (nI_1 _) (by decide) rfl ?_
                  refine z_goto d_X4_isEnclosed_156 ?_
                  refine z_perm [0, 1, 2, 3, 4, 7, 8, 9, 10] rfl ?_
                  have e1 := h9
                  have e2 := h9
                  simp only [b01_o1, b01_o0]
                  exact ih (i + 1) (l || true) (r9 || false) (a9 || true) (b9 || false) (by omega) (by omega) (by rw [hl, exB, eL, (show bt set (5 * (k / 5) + i) = true from by exact sb0n (by omega) (by rw [← nI_add, ← nI_mul]; exact c_39)), decide_eq_true (p := i < k % 5) (by rw [← nI_ltI (a := i) (b := k % 5) (by omega) (by omega)]; exact c_79)]; rfl) (by rw [hr, exB, eR, (show bt set (5 * (k / 5) + i) = true from by exact sb0n (by omega) (by rw [← nI_add, ← nI_mul]; exact c_39)), decide_eq_false (p := k % 5 < i) (by rw [← nI_ltI (a := k % 5) (b := i) (by omega) (by omega)]; exact c_100)]; rfl) (by rw [hA, exB, eA, (show bt set (5 * i + k % 5) = true from by exact sb0n (by omega) (by rw [← nI_add, ← nI_mul]; exact c_59)), decide_eq_true (p := i < k / 5) (by rw [← nI_ltI (a := i) (b := k / 5) (by omega) (by omega)]; exact c_121)]; rfl) (by rw [hB, exB, eB, (show bt set (5 * i + k % 5) = true from by exact sb0n (by omega) (by rw [← nI_add, ← nI_mul]; exact c_59)), decide_eq_false (p := k / 5 < i) (by rw [← nI_ltI (a := k / 5) (b := i) (by omega) (by omega)]; exact c_142)]; rfl)
                · refine z_iconst (v := 1) d_X4_isEnclosed_145 (by decide) ?_
                  refine z_goto d_X4_isEnclosed_146 ?_
                  refine z_ior d_X4_isEnclosed_150 ?_
                  refine z_istore [(7, .int ((b01 b9) ||| 1)), (6, .int ((b01 a9) ||| 1)), (5, .int ((b01 r9) ||| 0)), (4, .int ((b01 l) ||| 1)), (10, .int 1), (9, .int 1), (8, .int (nI i)), (3, .int (nI (k / 5))), (2, .int (nI (k % 5))), (1, .int set), (0, .int (nI k))] d_X4_isEnclosed_151 (by decide) rfl ?_
                  refine z_iinc (nI (i + 1)) [(8, .int (nI (i + 1))), (7, .int ((b01 b9) ||| 1)), (6, .int ((b01 a9) ||| 1)), (5, .int ((b01 r9) ||| 0)), (4, .int ((b01 l) ||| 1)), (10, .int 1), (9, .int 1), (3, .int (nI (k / 5))), (2, .int (nI (k % 5))), (1, .int set), (0, .int (nI k))] 6 d_X4_isEnclosed_153 rfl (nI_1 _) (by decide) rfl ?_
                  refine z_goto d_X4_isEnclosed_156 ?_
                  refine z_perm [0, 1, 2, 3, 4, 7, 8, 9, 10] rfl ?_
                  have e1 := h9
                  have e2 := h9
                  simp only [b01_o1, b01_o0]
                  exact ih (i + 1) (l || true) (r9 || false) (a9 || true) (b9 || true) (by omega) (by omega) (by rw [hl, exB, eL, (show bt set (5 * (k / 5) + i) = true from by exact sb0n (by omega) (by rw [← nI_add, ← nI_mul]; exact c_39)), decide_eq_true (p := i < k % 5) (by rw [← nI_ltI (a := i) (b := k % 5) (by omega) (by omega)]; exact c_79)]; rfl) (by rw [hr, exB, eR, (show bt set (5 * (k / 5) + i) = true from by exact sb0n (by omega) (by rw [← nI_add, ← nI_mul]; exact c_39)), decide_eq_false (p := k % 5 < i) (by rw [← nI_ltI (a := k % 5) (b := i) (by omega) (by omega)]; exact c_100)]; rfl) (by rw [hA, exB, eA, (show bt set (5 * i + k % 5) = true from by exact sb0n (by omega) (by rw [← nI_add, ← nI_mul]; exact c_59)), decide_eq_true (p := i < k / 5) (by rw [← nI_ltI (a := i) (b := k / 5) (by omega) (by omega)]; exact c_121)]; rfl) (by rw [hB, exB, eB, (show bt set (5 * i + k % 5) = true from by exact sb0n (by omega) (by rw [← nI_add, ← nI_mul]; exact c_59)), decide_eq_true (p := k / 5 < i) (by rw [← nI_ltI (a := k / 5) (b := i) (by omega) (by omega)]; exact c_142)]; rfl)
            · refine z_iconst (v := 1) d_X4_isEnclosed_103 (by decide) ?_
              refine z_goto d_X4_isEnclosed_104 ?_
              refine z_ior d_X4_isEnclosed_108 ?_
              refine z_istore [(5, .int ((b01 r9) ||| 1)), (4, .int ((b01 l) ||| 1)), (10, .int 1), (9, .int 1), (8, .int (nI i)), (7, .int (b01 b9)), (6, .int (b01 a9)), (3, .int (nI (k / 5))), (2, .int (nI (k % 5))), (1, .int set), (0, .int (nI k))] d_X4_isEnclosed_109 (by decide) rfl ?_
              refine z_iload d_X4_isEnclosed_111 6 rfl ?_
              refine z_iload d_X4_isEnclosed_113 2 rfl ?_
              refine z_if_eq d_X4_isEnclosed_115 (fun c_115 => ?_) (fun c_115 => ?_)
              · exact absurd c_115 (by decide)
              refine z_iload d_X4_isEnclosed_118 4 rfl ?_
              refine z_iload_n d_X4_isEnclosed_120 7 rfl ?_
              refine z_icmp_ge d_X4_isEnclosed_121 (fun c_121 => ?_) (fun c_121 => ?_)
              · refine z_iconst (v := 0) d_X4_isEnclosed_128 (by decide) ?_
                refine z_ior d_X4_isEnclosed_129 ?_
                refine z_istore [(6, .int ((b01 a9) ||| 0)), (5, .int ((b01 r9) ||| 1)), (4, .int ((b01 l) ||| 1)), (10, .int 1), (9, .int 1), (8, .int (nI i)), (7, .int (b01 b9)), (3, .int (nI (k / 5))), (2, .int (nI (k % 5))), (1, .int set), (0, .int (nI k))] d_X4_isEnclosed_130 (by decide) rfl ?_
                refine z_iload d_X4_isEnclosed_132 6 rfl ?_
                refine z_iload d_X4_isEnclosed_134 3 rfl ?_
                refine z_if_eq d_X4_isEnclosed_136 (fun c_136 => ?_) (fun c_136 => ?_)
                · exact absurd c_136 (by decide)
                refine z_iload d_X4_isEnclosed_139 5 rfl ?_
                refine z_iload_n d_X4_isEnclosed_141 7 rfl ?_
                refine z_icmp_le d_X4_isEnclosed_142 (fun c_142 => ?_) (fun c_142 => ?_)
                · refine z_iconst (v := 0) d_X4_isEnclosed_149 (by decide) ?_
                  refine z_ior d_X4_isEnclosed_150 ?_
                  refine z_istore [(7, .int ((b01 b9) ||| 0)), (6, .int ((b01 a9) ||| 0)), (5, .int ((b01 r9) ||| 1)), (4, .int ((b01 l) ||| 1)), (10, .int 1), (9, .int 1), (8, .int (nI i)), (3, .int (nI (k / 5))), (2, .int (nI (k % 5))), (1, .int set), (0, .int (nI k))] d_X4_isEnclosed_151 (by decide) rfl ?_
                  refine z_iinc (nI (i + 1)) [(8, .int (nI (i + 1))), (7, .int ((b01 b9) ||| 0)), (6, .int ((b01 a9) ||| 0)), (5, .int ((b01 r9) ||| 1)), (4, .int ((b01 l) ||| 1)), (10, .int 1), (9, .int 1), (3, .int (nI (k / 5))), (2, .int (nI (k % 5))), (1, .int set), (0, .int (nI k))] 6 d_X4_isEnclosed_153 rfl (nI_1 _) (by decide) rfl ?_
                  refine z_goto d_X4_isEnclosed_156 ?_
                  refine z_perm [0, 1, 2, 3, 4, 7, 8, 9, 10] rfl ?_
                  have e1 := h9
                  have e2 := h9
                  simp only [b01_o1, b01_o0]
                  exact ih (i + 1) (l || true) (r9 || true) (a9 || false) (b9 || false) (by omega) (by omega) (by rw [hl, exB, eL, (show bt set (5 * (k / 5) + i) = true from by exact sb0n (by omega) (by rw [← nI_add, ← nI_mul]; exact c_39)), decide_eq_true (p := i < k % 5) (by rw [← nI_ltI (a := i) (b := k % 5) (by omega) (by omega)]; exact c_79)]; rfl) (by rw [hr, exB, eR, (show bt set (5 * (k / 5) + i) = true from by exact sb0n (by omega) (by rw [← nI_add, ← nI_mul]; exact c_39)), decide_eq_true (p := k % 5 < i) (by rw [← nI_ltI (a := k % 5) (b := i) (by omega) (by omega)]; exact c_100)]; rfl) (by rw [hA, exB, eA, (show bt set (5 * i + k % 5) = true from by exact sb0n (by omega) (by rw [← nI_add, ← nI_mul]; exact c_59)), decide_eq_false (p := i < k / 5) (by rw [← nI_ltI (a := i) (b := k / 5) (by omega) (by omega)]; exact c_121)]; rfl) (by rw [hB, exB, eB, (show bt set (5 * i + k % 5) = true from by exact sb0n (by omega) (by rw [← nI_add, ← nI_mul]; exact c_59)), decide_eq_false (p := k / 5 < i) (by rw [← nI_ltI (a := k / 5) (b := i) (by omega) (by omega)]; exact c_142)]; rfl)
                · refine z_iconst (v := 1) d_X4_isEnclosed_145 (by decide) ?_
                  refine z_goto d_X4_isEnclosed_146 ?_
                  refine z_ior d_X4_isEnclosed_150 ?_
                  refine z_istore [(7, .int ((b01 b9) ||| 1)), (6, .int ((b01 a9) ||| 0)), (5, .int ((b01 r9) ||| 1)), (4, .int ((b01 l) ||| 1)), (10, .int 1), (9, .int 1), (8, .int (nI i)), (3, .int (nI (k / 5))), (2, .int (nI (k % 5))), (1, .int set), (0, .int (nI k))] d_X4_isEnclosed_151 (by decide) rfl ?_
                  refine z_iinc (nI (i + 1)) [(8, .int (nI (i + 1))), (7, .int ((b01 b9) ||| 1)), (6, .int ((b01 a9) ||| 0)), (5, .int ((b01 r9) ||| 1)), (4, .int ((b01 l) ||| 1)), (10, .int 1), (9, .int 1), (3, .int (nI (k / 5))), (2, .int (nI (k % 5))), (1, .int set), (0, .int (nI k))] 6 d_X4_isEnclosed_153 rfl (nI_1 _) (by decide) rfl ?_
                  refine z_goto d_X4_isEnclosed_156 ?_
                  refine z_perm [0, 1, 2, 3, 4, 7, 8, 9, 10] rfl ?_
                  have e1 := h9
                  have e2 := h9
                  simp only [b01_o1, b01_o0]
                  exact ih (i + 1) (l || true) (r9 || true) (a9 || false) (b9 || true) (by omega) (by omega) (by rw [hl, exB, eL, (show bt set (5 * (k / 5) + i) = true from by exact sb0n (by omega) (by rw [← nI_add, ← nI_mul]; exact c_39)), decide_eq_true (p := i < k % 5) (by rw [← nI_ltI (a := i) (b := k % 5) (by omega) (by omega)]; exact c_79)]; rfl) (by rw [hr, exB, eR, (show bt set (5 * (k / 5) + i) = true from by exact sb0n (by omega) (by rw [← nI_add, ← nI_mul]; exact c_39)), decide_eq_true (p := k % 5 < i) (by rw [← nI_ltI (a := k % 5) (b := i) (by omega) (by omega)]; exact c_100)]; rfl) (by rw [hA, exB, eA, (show bt set (5 * i + k % 5) = true from by exact sb0n (by omega) (by rw [← nI_add, ← nI_mul]; exact c_59)), decide_eq_false (p := i < k / 5) (by rw [← nI_ltI (a := i) (b := k / 5) (by omega) (by omega)]; exact c_121)]; rfl) (by rw [hB, exB, eB, (show bt set (5 * i + k % 5) = true from by exact sb0n (by omega) (by rw [← nI_add, ← nI_mul]; exact c_59)), decide_eq_true (p := k / 5 < i) (by rw [← nI_ltI (a := k / 5) (b := i) (by omega) (by omega)]; exact c_142)]; rfl)
              · refine z_iconst (v := 1) d_X4_isEnclosed_124 (by decide) ?_
                refine z_goto d_X4_isEnclosed_125 ?_
                refine z_ior d_X4_isEnclosed_129 ?_
                refine z_istore [(6, .int ((b01 a9) ||| 1)), (5, .int ((b01 r9) ||| 1)), (4, .int ((b01 l) ||| 1)), (10, .int 1), (9, .int 1), (8, .int (nI i)), (7, .int (b01 b9)), (3, .int (nI (k / 5))), (2, .int (nI (k % 5))), (1, .int set), (0, .int (nI k))] d_X4_isEnclosed_130 (by decide) rfl ?_
                refine z_iload d_X4_isEnclosed_132 6 rfl ?_
                refine z_iload d_X4_isEnclosed_134 3 rfl ?_
                refine z_if_eq d_X4_isEnclosed_136 (fun c_136 => ?_) (fun c_136 => ?_)
                · exact absurd c_136 (by decide)
                refine z_iload d_X4_isEnclosed_139 5 rfl ?_
                refine z_iload_n d_X4_isEnclosed_141 7 rfl ?_
                refine z_icmp_le d_X4_isEnclosed_142 (fun c_142 => ?_) (fun c_142 => ?_)
                · refine z_iconst (v := 0) d_X4_isEnclosed_149 (by decide) ?_
                  refine z_ior d_X4_isEnclosed_150 ?_
                  refine z_istore [(7, .int ((b01 b9) ||| 0)), (6, .int ((b01 a9) ||| 1)), (5, .int ((b01 r9) ||| 1)), (4, .int ((b01 l) ||| 1)), (10, .int 1), (9, .int 1), (8, .int (nI i)), (3, .int (nI (k / 5))), (2, .int (nI (k % 5))), (1, .int set), (0, .int (nI k))] d_X4_isEnclosed_151 (by decide) rfl ?_
                  refine z_iinc (nI (i + 1)) [(8, .int (nI (i + 1))), (7, .int ((b01 b9) ||| 0)), (6, .int ((b01 a9) ||| 1)), (5, .int ((b01 r9) ||| 1)), (4, .int ((b01 l) ||| 1)), (10, .int 1), (9, .int 1), (3, .int (nI (k / 5))), (2, .int (nI (k % 5))), (1, .int set), (0, .int (nI k))] 6 d_X4_isEnclosed_153 rfl (nI_1 _) (by decide) rfl ?_
                  refine z_goto d_X4_isEnclosed_156 ?_
                  refine z_perm [0, 1, 2, 3, 4, 7, 8, 9, 10] rfl ?_
                  have e1 := h9
                  have e2 := h9
                  simp only [b01_o1, b01_o0]
                  exact ih (i + 1) (l || true) (r9 || true) (a9 || true) (b9 || false) (by omega) (by omega) (by rw [hl, exB, eL, (show bt set (5 * (k / 5) + i) = true from by exact sb0n (by omega) (by rw [← nI_add, ← nI_mul]; exact c_39)), decide_eq_true (p := i < k % 5) (by rw [← nI_ltI (a := i) (b := k % 5) (by omega) (by omega)]; exact c_79)]; rfl) (by rw [hr, exB, eR, (show bt set (5 * (k / 5) + i) = true from by exact sb0n (by omega) (by rw [← nI_add, ← nI_mul]; exact c_39)), decide_eq_true (p := k % 5 < i) (by rw [← nI_ltI (a := k % 5) (b := i) (by omega) (by omega)]; exact c_100)]; rfl) (by rw [hA, exB, eA, (show bt set (5 * i + k % 5) = true from by exact sb0n (by omega) (by rw [← nI_add, ← nI_mul]; exact c_59)), decide_eq_true (p := i < k / 5) (by rw [← nI_ltI (a := i) (b := k / 5) (by omega) (by omega)]; exact c_121)]; rfl) (by rw [hB, exB, eB, (show bt set (5 * i + k % 5) = true from by exact sb0n (by omega) (by rw [← nI_add, ← nI_mul]; exact c_59)), decide_eq_false (p := k / 5 < i) (by rw [← nI_ltI (a := k / 5) (b := i) (by omega) (by omega)]; exact c_142)]; rfl)
                · refine z_iconst (v := 1) d_X4_isEnclosed_145 (by decide) ?_
                  refine z_goto d_X4_isEnclosed_146 ?_
                  refine z_ior d_X4_isEnclosed_150 ?_
                  refine z_istore [(7, .int ((b01 b9) ||| 1)), (6, .int ((b01 a9) ||| 1)), (5, .int ((b01 r9) ||| 1)), (4, .int ((b01 l) ||| 1)), (10, .int 1), (9, .int 1), (8, .int (nI i)), (3, .int (nI (k / 5))), (2, .int (nI (k % 5))), (1, .int set), (0, .int (nI k))] d_X4_isEnclosed_151 (by decide) rfl ?_
                  refine z_iinc (nI (i + 1)) [(8, .int (nI (i + 1))), (7, .int ((b01 b9) ||| 1)), (6, .int ((b01 a9) ||| 1)), (5, .int ((b01 r9) ||| 1)), (4, .int ((b01 l) ||| 1)), (10, .int 1), (9, .int 1), (3, .int (nI (k / 5))), (2, .int (nI (k % 5))), (1, .int set), (0, .int (nI k))] 6 d_X4_isEnclosed_153 rfl (nI_1 _) (by decide) rfl ?_
                  refine z_goto d_X4_isEnclosed_156 ?_
                  refine z_perm [0, 1, 2, 3, 4, 7, 8, 9, 10] rfl ?_
                  have e1 := h9
                  have e2 := h9
                  simp only [b01_o1, b01_o0]
                  exact ih (i + 1) (l || true) (r9 || true) (a9 || true) (b9 || true) (by omega) (by omega) (by rw [hl, exB, eL, (show bt set (5 * (k / 5) + i) = true from by exact sb0n (by omega) (by rw [← nI_add, ← nI_mul]; exact c_39)), decide_eq_true (p := i < k % 5) (by rw [← nI_ltI (a := i) (b := k % 5) (by omega) (by omega)]; exact c_79)]; rfl) (by rw [hr, exB, eR, (show bt set (5 * (k / 5) + i) = true from by exact sb0n (by omega) (by rw [← nI_add, ← nI_mul]; exact c_39)), decide_eq_true (p := k % 5 < i) (by rw [← nI_ltI (a := k % 5) (b := i) (by omega) (by omega)]; exact c_100)]; rfl) (by rw [hA, exB, eA, (show bt set (5 * i + k % 5) = true from by exact sb0n (by omega) (by rw [← nI_add, ← nI_mul]; exact c_59)), decide_eq_true (p := i < k / 5) (by rw [← nI_ltI (a := i) (b := k / 5) (by omega) (by omega)]; exact c_121)]; rfl) (by rw [hB, exB, eB, (show bt set (5 * i + k % 5) = true from by exact sb0n (by omega) (by rw [← nI_add, ← nI_mul]; exact c_59)), decide_eq_true (p := k / 5 < i) (by rw [← nI_ltI (a := k / 5) (b := i) (by omega) (by omega)]; exact c_142)]; rfl)
set_option maxHeartbeats 4000000 in
set_option maxRecDepth 100000 in
theorem t_X4_isEnclosed (G : GT) (set : Int32) (k : Nat) (hk : k < 25) (ws : va_W)  : Ct G mX4_isEnclosed 0 0 0 [.int (nI k), .int set] ws (Pi (b01 (enQ set k)) ws) := by
  obtain ⟨hx, hy⟩ := x_nI hk
  refine Ct.intro [(0, .int (nI k)), (1, .int set)] (by decide) rfl (Nat.le_of_ble_eq_true rfl) ?_
  refine z_iload_n d_X4_isEnclosed_0 0 rfl ?_
  refine z_iconst (v := 5) d_X4_isEnclosed_1 (by decide) ?_
  refine z_irm d_X4_isEnclosed_2 (by decide) ?_
  refine z_top hx ?_
  refine z_istore_n [(2, .int (nI (k % 5))), (0, .int (nI k)), (1, .int set)] d_X4_isEnclosed_3 (by decide) rfl ?_
  refine z_iload_n d_X4_isEnclosed_4 1 rfl ?_
  refine z_iconst (v := 5) d_X4_isEnclosed_5 (by decide) ?_
  refine z_idiv d_X4_isEnclosed_6 (by decide) ?_
  refine z_top hy ?_
  refine z_istore_n [(3, .int (nI (k / 5))), (2, .int (nI (k % 5))), (0, .int (nI k)), (1, .int set)] d_X4_isEnclosed_7 (by decide) rfl ?_
  refine z_iconst (v := 0) d_X4_isEnclosed_8 (by decide) ?_
  refine z_istore [(4, .int 0), (3, .int (nI (k / 5))), (2, .int (nI (k % 5))), (0, .int (nI k)), (1, .int set)] d_X4_isEnclosed_9 (by decide) rfl ?_
  refine z_iconst (v := 0) d_X4_isEnclosed_11 (by decide) ?_
  refine z_istore [(5, .int 0), (4, .int 0), (3, .int (nI (k / 5))), (2, .int (nI (k % 5))), (0, .int (nI k)), (1, .int set)] d_X4_isEnclosed_12 (by decide) rfl ?_
  refine z_iconst (v := 0) d_X4_isEnclosed_14 (by decide) ?_
  refine z_istore [(6, .int 0), (5, .int 0), (4, .int 0), (3, .int (nI (k / 5))), (2, .int (nI (k % 5))), (0, .int (nI k)), (1, .int set)] d_X4_isEnclosed_15 (by decide) rfl ?_
  refine z_iconst (v := 0) d_X4_isEnclosed_17 (by decide) ?_
  refine z_istore [(7, .int 0), (6, .int 0), (5, .int 0), (4, .int 0), (3, .int (nI (k / 5))), (2, .int (nI (k % 5))), (0, .int (nI k)), (1, .int set)] d_X4_isEnclosed_18 (by decide) rfl ?_
  refine z_iconst (v := 0) d_X4_isEnclosed_20 (by decide) ?_
  refine z_istore [(8, .int 0), (7, .int 0), (6, .int 0), (5, .int 0), (4, .int 0), (3, .int (nI (k / 5))), (2, .int (nI (k % 5))), (0, .int (nI k)), (1, .int set)] d_X4_isEnclosed_21 (by decide) rfl ?_
  refine z_perm [0, 1, 2, 3, 4, 5, 6, 8, 7] rfl ?_
  exact l_X4_isEnclosed G set k hk ws 6 0 false false false false (by omega) (by omega) rfl rfl rfl rfl
set_option maxHeartbeats 4000000 in
set_option maxRecDepth 100000 in
theorem l_X4_holeBits (G : GT) (x : Nat → Nat) (N : Nat → Int32) (R : Nat → Nat → Int32) (K : Nat → Nat → Option Nat) (r : Nat → Nat) (S : Nat → Int32) (T : Nat → Nat → Int32) (tl : va_W) (I : Nat → Int32) (A : Nat → Nat → Int32) (h : NtR I A (N 2) (N 3) (N 4) (R 1) (R 2) (R 3) (K 0) tl) : ∀ (n : Nat) (k : Nat) (a : Int32) (hk : k ≤ 25) (hm : 25 < k + n) (ha : a = itL (orF (hoP (coS I A))) 0 k), Tr G mX4_holeBits (Rm 1 0 0) (OM G (Pi (hlS I A) (XW G x N R K r S T tl)) 0 0) 0 0 9 [(3, .int (nI k)), (2, .int a), (1, .int (coS I A)), (0, .ref (x 6))] [] (XW G x N R K r S T tl) := by
  intro n
  induction n with
  | zero =>
    intro k a hk hm ha
    exact absurd hm (by omega)
  | succ n ih =>
    intro k a hk hm ha
    refine z_iload_n d_X4_holeBits_9 0 rfl ?_
    refine z_bipush (v := 25) d_X4_holeBits_10 (by decide) ?_
    refine z_icmp_ge d_X4_holeBits_12 (fun c_12 => ?_) (fun c_12 => ?_)
    · refine z_iload_n d_X4_holeBits_43 1 rfl ?_
      exact z_iret _ d_X4_holeBits_44 rfl (Pi.of (by have h9 := ge_nI (N := 25) (by omega) (by decide) c_12; rw [ha, hlS, orS, show k = 25 by omega]))
    · have h9 : k < 25 := lt_nI (by omega) (by decide) c_12
      refine z_iload_n d_X4_holeBits_15 2 rfl ?_
      refine z_iload_n d_X4_holeBits_16 0 rfl ?_
      refine z_ishr d_X4_holeBits_17 ?_
      refine z_iconst (v := 1) d_X4_holeBits_18 (by decide) ?_
      refine z_iand d_X4_holeBits_19 ?_
      refine z_if_ne d_X4_holeBits_20 (fun c_20 => ?_) (fun c_20 => ?_)
      · refine z_iinc (nI (k + 1)) [(3, .int (nI (k + 1))), (2, .int a), (1, .int (coS I A)), (0, .ref (x 6))] 0 d_X4_holeBits_37 rfl (nI_1 _) (by decide) rfl ?_
        refine z_goto d_X4_holeBits_40 ?_
        exact ih (k + 1) _ (by omega) (by omega) (orS_f (P := hoP (coS I A)) (by rw [ho_en h9, sb0n (by omega) c_20]; rfl) ha)
      · refine z_iload_n d_X4_holeBits_23 0 rfl ?_
        refine z_iload_n d_X4_holeBits_24 2 rfl ?_
        refine z_callSp c_X4_174 (t_X4_isEnclosed G (coS I A) k h9 (XW G x N R K r S T tl)) rfl rfl (Nat.le_of_ble_eq_true rfl) rfl d_X4_holeBits_25 ?_
        refine z_if_eq d_X4_holeBits_28 (fun c_28 => ?_) (fun c_28 => ?_)
        · refine z_iinc (nI (k + 1)) [(3, .int (nI (k + 1))), (2, .int a), (1, .int (coS I A)), (0, .ref (x 6))] 0 d_X4_holeBits_37 rfl (nI_1 _) (by decide) rfl ?_
          refine z_goto d_X4_holeBits_40 ?_
          exact ih (k + 1) _ (by omega) (by omega) (orS_f (P := hoP (coS I A)) (by rw [ho_en h9, b01_z c_28, Bool.and_false]) ha)
        · refine z_iload_n d_X4_holeBits_31 1 rfl ?_
          refine z_iconst (v := 1) d_X4_holeBits_32 (by decide) ?_
          refine z_iload_n d_X4_holeBits_33 0 rfl ?_
          refine z_ishl d_X4_holeBits_34 ?_
          refine z_ior d_X4_holeBits_35 ?_
          refine z_istore_n [(2, .int (a ||| (1 <<< ((nI k) &&& 31)))), (3, .int (nI k)), (1, .int (coS I A)), (0, .ref (x 6))] d_X4_holeBits_36 (by decide) rfl ?_
          refine z_iinc (nI (k + 1)) [(3, .int (nI (k + 1))), (2, .int (a ||| (1 <<< ((nI k) &&& 31)))), (1, .int (coS I A)), (0, .ref (x 6))] 1 d_X4_holeBits_37 rfl (nI_1 _) (by decide) rfl ?_
          refine z_goto d_X4_holeBits_40 ?_
          exact ih (k + 1) _ (by omega) (by omega) (orS_t (P := hoP (coS I A)) (by rw [ho_en h9, (sb0 (by omega)).mp c_20, b01_o c_28]; rfl) ha)
set_option maxHeartbeats 4000000 in
set_option maxRecDepth 100000 in
theorem t_X4_holeBits (G : GT) (x : Nat → Nat) (N : Nat → Int32) (R : Nat → Nat → Int32) (K : Nat → Nat → Option Nat) (r : Nat → Nat) (S : Nat → Int32) (T : Nat → Nat → Int32) (tl : va_W) (I : Nat → Int32) (A : Nat → Nat → Int32) (h : NtR I A (N 2) (N 3) (N 4) (R 1) (R 2) (R 3) (K 0) tl)  : Ct G mX4_holeBits 1 0 0 [.ref (x 6)] (XW G x N R K r S T tl) (Pi (hlS I A) (XW G x N R K r S T tl)) := by
  refine Ct.intro [(0, .ref (x 6))] (by decide) rfl (Nat.le_of_ble_eq_true rfl) ?_
  refine z_aload_n d_X4_holeBits_0 0 rfl ?_
  refine z_callVp 6 c_X4_171 (t_X4_covered G x N R K r S T tl I A h  ) rfl rfl rfl rfl (Nat.le_of_ble_eq_true rfl) rfl d_X4_holeBits_1 ?_
  refine z_istore_n [(1, .int (coS I A)), (0, .ref (x 6))] d_X4_holeBits_4 (by decide) rfl ?_
  refine z_iconst (v := 0) d_X4_holeBits_5 (by decide) ?_
  refine z_istore_n [(2, .int 0), (1, .int (coS I A)), (0, .ref (x 6))] d_X4_holeBits_6 (by decide) rfl ?_
  refine z_iconst (v := 0) d_X4_holeBits_7 (by decide) ?_
  refine z_istore_n [(3, .int 0), (2, .int 0), (1, .int (coS I A)), (0, .ref (x 6))] d_X4_holeBits_8 (by decide) rfl ?_
  exact l_X4_holeBits G x N R K r S T tl I A h 26 0 0 (by omega) (by omega) rfl
set_option maxHeartbeats 4000000 in
set_option maxRecDepth 100000 in
theorem l2_X4_becomes_KN (G : GT) (x : Nat → Nat) (N : Nat → Int32) (R : Nat → Nat → Int32) (K : Nat → Nat → Option Nat) (r : Nat → Nat) (S : Nat → Int32) (T : Nat → Nat → Int32) (tl : va_W) (I : Nat → Int32) (A : Nat → Nat → Int32) (h : NtR I A (N 2) (N 3) (N 4) (R 1) (R 2) (R 3) (K 0) tl) : ∀ (n : Nat) (k : Nat) (hk9 : k ≤ 25) (hm : 25 < k + n), Tr G mX4_becomes (Rm 0 0 0) (OM G (Pv (XW G x (upd (upd (upd N 6 (N 2)) 7 (N 3)) 8 (N 4)) (vf_upd (vf_upd (vf_upd R 4 (cpI (R 1) (R 4) 16)) 5 (cpI (R 2) (R 5) 16)) 6 (cpI (R 3) (R 6) 25)) (vf_upd K 1 (cpK (K 0) (K 1) 16)) (va_up r 1 (r 0)) S T tl)) 0 0) 0 0 52 [(2, .int (nI k)), (1, .ref (x 6)), (0, .ref (x 14))] [] (XW G x N (vf_upd (vf_upd (vf_upd R 4 (cpI (R 1) (R 4) 16)) 5 (cpI (R 2) (R 5) 16)) 6 (cpI (R 3) (R 6) k)) (vf_upd K 1 (cpK (K 0) (K 1) 16)) r S T tl) := by
  intro n
  induction n with
  | zero =>
    intro k hk9 hm
    exact absurd hm (by omega)
  | succ n ih =>
    intro k hk9 hm
    refine z_iload_n d_X4_becomes_52 0 rfl ?_
    refine z_bipush (v := 25) d_X4_becomes_53 (by decide) ?_
    refine z_icmp_ge d_X4_becomes_55 (fun c_55 => ?_) (fun c_55 => ?_)
    · refine z_aload_n d_X4_becomes_76 2 rfl ?_
      refine z_aload_n d_X4_becomes_77 1 rfl ?_
      refine z_get (v := .int (N 2)) (6) f_X4_48_4 rfl rfl d_X4_becomes_78 ?_
      refine z_put 14 (XW G x (upd N 6 (N 2)) (vf_upd (vf_upd (vf_upd R 4 (cpI (R 1) (R 4) 16)) 5 (cpI (R 2) (R 5) 16)) 6 (cpI (R 3) (R 6) k)) (vf_upd K 1 (cpK (K 0) (K 1) 16)) r S T tl) p_X4_48_4 rfl rfl rfl (Nat.le_of_ble_eq_true rfl) (xf_14_4 G x N (vf_upd (vf_upd (vf_upd R 4 (cpI (R 1) (R 4) 16)) 5 (cpI (R 2) (R 5) 16)) 6 (cpI (R 3) (R 6) k)) (vf_upd K 1 (cpK (K 0) (K 1) 16)) r S T tl _) d_X4_becomes_81 ?_
      refine z_aload_n d_X4_becomes_84 2 rfl ?_
      refine z_aload_n d_X4_becomes_85 1 rfl ?_
      refine z_get (v := .int (N 3)) (6) f_X4_57_4 rfl rfl d_X4_becomes_86 ?_
      refine z_put 14 (XW G x (upd (upd N 6 (N 2)) 7 (N 3)) (vf_upd (vf_upd (vf_upd R 4 (cpI (R 1) (R 4) 16)) 5 (cpI (R 2) (R 5) 16)) 6 (cpI (R 3) (R 6) k)) (vf_upd K 1 (cpK (K 0) (K 1) 16)) r S T tl) p_X4_57_4 rfl rfl rfl (Nat.le_of_ble_eq_true rfl) (xf_14_5 G x (upd N 6 (N 2)) (vf_upd (vf_upd (vf_upd R 4 (cpI (R 1) (R 4) 16)) 5 (cpI (R 2) (R 5) 16)) 6 (cpI (R 3) (R 6) k)) (vf_upd K 1 (cpK (K 0) (K 1) 16)) r S T tl _) d_X4_becomes_89 ?_
      refine z_aload_n d_X4_becomes_92 2 rfl ?_
      refine z_aload_n d_X4_becomes_93 1 rfl ?_
      refine z_get (v := .int (N 4)) (6) f_X4_27_4 rfl rfl d_X4_becomes_94 ?_
      refine z_put 14 (XW G x (upd (upd (upd N 6 (N 2)) 7 (N 3)) 8 (N 4)) (vf_upd (vf_upd (vf_upd R 4 (cpI (R 1) (R 4) 16)) 5 (cpI (R 2) (R 5) 16)) 6 (cpI (R 3) (R 6) k)) (vf_upd K 1 (cpK (K 0) (K 1) 16)) r S T tl) p_X4_27_4 rfl rfl rfl (Nat.le_of_ble_eq_true rfl) (xf_14_6 G x (upd (upd N 6 (N 2)) 7 (N 3)) (vf_upd (vf_upd (vf_upd R 4 (cpI (R 1) (R 4) 16)) 5 (cpI (R 2) (R 5) 16)) 6 (cpI (R 3) (R 6) k)) (vf_upd K 1 (cpK (K 0) (K 1) 16)) r S T tl _) d_X4_becomes_97 ?_
      refine z_aload_n d_X4_becomes_100 2 rfl ?_
      refine z_aload_n d_X4_becomes_101 1 rfl ?_
      refine z_get (v := .ref (r 0)) (6) f_X4_44_4 rfl rfl d_X4_becomes_102 ?_
      refine z_put 14 (XW G x (upd (upd (upd N 6 (N 2)) 7 (N 3)) 8 (N 4)) (vf_upd (vf_upd (vf_upd R 4 (cpI (R 1) (R 4) 16)) 5 (cpI (R 2) (R 5) 16)) 6 (cpI (R 3) (R 6) k)) (vf_upd K 1 (cpK (K 0) (K 1) 16)) (va_up r 1 (r 0)) S T tl) p_X4_44_4 rfl rfl rfl (Nat.le_of_ble_eq_true rfl) (xf_14_7 G x (upd (upd (upd N 6 (N 2)) 7 (N 3)) 8 (N 4)) (vf_upd (vf_upd (vf_upd R 4 (cpI (R 1) (R 4) 16)) 5 (cpI (R 2) (R 5) 16)) 6 (cpI (R 3) (R 6) k)) (vf_upd K 1 (cpK (K 0) (K 1) 16)) r S T tl _) d_X4_becomes_105 ?_
      exact z_vret _ d_X4_becomes_108 rfl (Pv.of (by have h9 := ge_nI (N := 25) (by omega) (by decide) c_55; rw [show k = 25 by omega]))
    · have h9 : k < 25 := lt_nI (by omega) (by decide) c_55
      refine z_aload_n d_X4_becomes_58 2 rfl ?_
      refine z_get (v := .ref (x 18)) (14) f_X4_24_4 rfl rfl d_X4_becomes_59 ?_
      refine z_iload_n d_X4_becomes_62 0 rfl ?_
      refine z_aload_n d_X4_becomes_63 1 rfl ?_
      refine z_get (v := .ref (x 10)) (6) f_X4_24_4 rfl rfl d_X4_becomes_64 ?_
      refine z_iload_n d_X4_becomes_67 0 rfl ?_
      refine z_ialdN (10) k rfl (nI_toInt (by omega)) (by omega) d_X4_becomes_68 ?_
      refine z_iastN 18 k (XW G x N (vf_upd (vf_upd (vf_upd R 4 (cpI (R 1) (R 4) 16)) 5 (cpI (R 2) (R 5) 16)) 6 (upd (cpI (R 3) (R 6) k) k ((R 3) k))) (vf_upd K 1 (cpK (K 0) (K 1) 16)) r S T tl) rfl (nI_toInt (by omega)) (by omega) rfl d_X4_becomes_69 ?_
      refine z_iinc (nI (k + 1)) [(2, .int (nI (k + 1))), (1, .ref (x 6)), (0, .ref (x 14))] 0 d_X4_becomes_70 rfl (nI_1 _) (by decide) rfl ?_
      refine z_goto d_X4_becomes_73 ?_
      exact ih (k + 1) (by omega) (by omega)
set_option maxHeartbeats 4000000 in
set_option maxRecDepth 100000 in
theorem l1_X4_becomes_KN (G : GT) (x : Nat → Nat) (N : Nat → Int32) (R : Nat → Nat → Int32) (K : Nat → Nat → Option Nat) (r : Nat → Nat) (S : Nat → Int32) (T : Nat → Nat → Int32) (tl : va_W) (I : Nat → Int32) (A : Nat → Nat → Int32) (h : NtR I A (N 2) (N 3) (N 4) (R 1) (R 2) (R 3) (K 0) tl) : ∀ (n : Nat) (k : Nat) (hk9 : k ≤ 16) (hm : 16 < k + n), Tr G mX4_becomes (Rm 0 0 0) (OM G (Pv (XW G x (upd (upd (upd N 6 (N 2)) 7 (N 3)) 8 (N 4)) (vf_upd (vf_upd (vf_upd R 4 (cpI (R 1) (R 4) 16)) 5 (cpI (R 2) (R 5) 16)) 6 (cpI (R 3) (R 6) 25)) (vf_upd K 1 (cpK (K 0) (K 1) 16)) (va_up r 1 (r 0)) S T tl)) 0 0) 0 0 2 [(2, .int (nI k)), (1, .ref (x 6)), (0, .ref (x 14))] [] (XW G x N (vf_upd (vf_upd R 4 (cpI (R 1) (R 4) k)) 5 (cpI (R 2) (R 5) k)) (vf_upd K 1 (cpK (K 0) (K 1) k)) r S T tl) := by
  intro n
  induction n with
  | zero =>
    intro k hk9 hm
    exact absurd hm (by omega)
  | succ n ih =>
    intro k hk9 hm
    refine z_iload_n d_X4_becomes_2 0 rfl ?_
    refine z_bipush (v := 16) d_X4_becomes_3 (by decide) ?_
    refine z_icmp_ge d_X4_becomes_5 (fun c_5 => ?_) (fun c_5 => ?_)
    · refine z_iconst (v := 0) d_X4_becomes_50 (by decide) ?_
      refine z_istore_n [(2, .int 0), (1, .ref (x 6)), (0, .ref (x 14))] d_X4_becomes_51 (by decide) rfl ?_
      have h9 := ge_nI (N := 16) (by omega) (by decide) c_5
      rw [show k = 16 by omega]
      exact l2_X4_becomes_KN G x N R K r S T tl I A h 26 0 (by omega) (by omega)
    · have hk : k < 16 := lt_nI (by omega) (by decide) c_5
      refine z_aload_n d_X4_becomes_8 2 rfl ?_
      refine z_get (v := .ref (x 15)) (14) f_X4_11_4 rfl rfl d_X4_becomes_9 ?_
      refine z_iload_n d_X4_becomes_12 0 rfl ?_
      refine z_aload_n d_X4_becomes_13 1 rfl ?_
      refine z_get (v := .ref (x 7)) (6) f_X4_11_4 rfl rfl d_X4_becomes_14 ?_
      refine z_iload_n d_X4_becomes_17 0 rfl ?_
      obtain ⟨C1, hC1, hsub⟩ := tC_c1 (kdC_t (A 7 k))
      cases hb : bt (I 12) k
      · refine z_aldq (C0 := RX10) 7 3 k rfl rfl (nI_toInt (by omega)) (by omega) d_X4_becomes_18 ?_
        refine z_topv (show va_rf ((K 0) k) = .null from by rw [h.k0 hk hb]; rfl) ?_
        refine z_astN (E0 := RX10) 15 3 k (XW G x N (vf_upd (vf_upd R 4 (cpI (R 1) (R 4) k)) 5 (cpI (R 2) (R 5) k)) (vf_upd K 1 (va_up (cpK (K 0) (K 1) k) k none)) r S T tl) rfl rfl (nI_toInt (by omega)) (by omega) rfl d_X4_becomes_19 ?_
        refine z_aload_n d_X4_becomes_20 2 rfl ?_
        refine z_get (v := .ref (x 16)) (14) f_X4_17_4 rfl rfl d_X4_becomes_21 ?_
        refine z_iload_n d_X4_becomes_24 0 rfl ?_
        refine z_aload_n d_X4_becomes_25 1 rfl ?_
        refine z_get (v := .ref (x 8)) (6) f_X4_17_4 rfl rfl d_X4_becomes_26 ?_
        refine z_iload_n d_X4_becomes_29 0 rfl ?_
        refine z_ialdN (8) k rfl (nI_toInt (by omega)) (by omega) d_X4_becomes_30 ?_
        refine z_iastN 16 k (XW G x N (vf_upd (vf_upd R 5 (cpI (R 2) (R 5) k)) 4 (upd (cpI (R 1) (R 4) k) k ((R 1) k))) (vf_upd K 1 (va_up (cpK (K 0) (K 1) k) k none)) r S T tl) rfl (nI_toInt (by omega)) (by omega) rfl d_X4_becomes_31 ?_
        refine z_aload_n d_X4_becomes_32 2 rfl ?_
        refine z_get (v := .ref (x 17)) (14) f_X4_21_4 rfl rfl d_X4_becomes_33 ?_
        refine z_iload_n d_X4_becomes_36 0 rfl ?_
        refine z_aload_n d_X4_becomes_37 1 rfl ?_
        refine z_get (v := .ref (x 9)) (6) f_X4_21_4 rfl rfl d_X4_becomes_38 ?_
        refine z_iload_n d_X4_becomes_41 0 rfl ?_
        refine z_ialdN (9) k rfl (nI_toInt (by omega)) (by omega) d_X4_becomes_42 ?_
        refine z_iastN 17 k (XW G x N (vf_upd (vf_upd R 4 (upd (cpI (R 1) (R 4) k) k ((R 1) k))) 5 (upd (cpI (R 2) (R 5) k) k ((R 2) k))) (vf_upd K 1 (va_up (cpK (K 0) (K 1) k) k none)) r S T tl) rfl (nI_toInt (by omega)) (by omega) rfl d_X4_becomes_43 ?_
        refine z_iinc (nI (k + 1)) [(2, .int (nI (k + 1))), (1, .ref (x 6)), (0, .ref (x 14))] 0 d_X4_becomes_44 rfl (nI_1 _) (by decide) rfl ?_
        refine z_goto d_X4_becomes_47 ?_
        have e9 : va_up (cpK (K 0) (K 1) k) k none = cpK (K 0) (K 1) (k + 1) := by rw [← h.k0 hk hb]; rfl
        rw [e9]
        exact ih (k + 1) (by omega) (by omega)
      · refine z_aldq (C0 := RX10) 7 3 k rfl rfl (nI_toInt (by omega)) (by omega) d_X4_becomes_18 ?_
        obtain ⟨a18, q18, ha18, hq18⟩ := h.k1 hk hb
        refine z_topv (show va_rf ((K 0) k) = .ref a18 from by rw [ha18]; rfl) ?_
        refine z_astR (E0 := RX10) 15 3 (q18 + 31) k (XW G x N (vf_upd (vf_upd R 4 (cpI (R 1) (R 4) k)) 5 (cpI (R 2) (R 5) k)) (vf_upd K 1 (va_up (cpK (K 0) (K 1) k) k (some a18))) r S T tl) rfl rfl hq18 hC1 hsub (nI_toInt (by omega)) (by omega) rfl d_X4_becomes_19 ?_
        refine z_aload_n d_X4_becomes_20 2 rfl ?_
        refine z_get (v := .ref (x 16)) (14) f_X4_17_4 rfl rfl d_X4_becomes_21 ?_
        refine z_iload_n d_X4_becomes_24 0 rfl ?_
        refine z_aload_n d_X4_becomes_25 1 rfl ?_
        refine z_get (v := .ref (x 8)) (6) f_X4_17_4 rfl rfl d_X4_becomes_26 ?_
        refine z_iload_n d_X4_becomes_29 0 rfl ?_
        refine z_ialdN (8) k rfl (nI_toInt (by omega)) (by omega) d_X4_becomes_30 ?_
        refine z_iastN 16 k (XW G x N (vf_upd (vf_upd R 5 (cpI (R 2) (R 5) k)) 4 (upd (cpI (R 1) (R 4) k) k ((R 1) k))) (vf_upd K 1 (va_up (cpK (K 0) (K 1) k) k (some a18))) r S T tl) rfl (nI_toInt (by omega)) (by omega) rfl d_X4_becomes_31 ?_
        refine z_aload_n d_X4_becomes_32 2 rfl ?_
        refine z_get (v := .ref (x 17)) (14) f_X4_21_4 rfl rfl d_X4_becomes_33 ?_
        refine z_iload_n d_X4_becomes_36 0 rfl ?_
        refine z_aload_n d_X4_becomes_37 1 rfl ?_
        refine z_get (v := .ref (x 9)) (6) f_X4_21_4 rfl rfl d_X4_becomes_38 ?_
        refine z_iload_n d_X4_becomes_41 0 rfl ?_
        refine z_ialdN (9) k rfl (nI_toInt (by omega)) (by omega) d_X4_becomes_42 ?_
        refine z_iastN 17 k (XW G x N (vf_upd (vf_upd R 4 (upd (cpI (R 1) (R 4) k) k ((R 1) k))) 5 (upd (cpI (R 2) (R 5) k) k ((R 2) k))) (vf_upd K 1 (va_up (cpK (K 0) (K 1) k) k (some a18))) r S T tl) rfl (nI_toInt (by omega)) (by omega) rfl d_X4_becomes_43 ?_
        refine z_iinc (nI (k + 1)) [(2, .int (nI (k + 1))), (1, .ref (x 6)), (0, .ref (x 14))] 0 d_X4_becomes_44 rfl (nI_1 _) (by decide) rfl ?_
        refine z_goto d_X4_becomes_47 ?_
        have e9 : va_up (cpK (K 0) (K 1) k) k (some a18) = cpK (K 0) (K 1) (k + 1) := by rw [← ha18]; rfl
        rw [e9]
        exact ih (k + 1) (by omega) (by omega)
set_option maxHeartbeats 4000000 in
set_option maxRecDepth 100000 in
theorem t_X4_becomes_KN (G : GT) (x : Nat → Nat) (N : Nat → Int32) (R : Nat → Nat → Int32) (K : Nat → Nat → Option Nat) (r : Nat → Nat) (S : Nat → Int32) (T : Nat → Nat → Int32) (tl : va_W) (I : Nat → Int32) (A : Nat → Nat → Int32) (h : NtR I A (N 2) (N 3) (N 4) (R 1) (R 2) (R 3) (K 0) tl)  : Ct G mX4_becomes 0 0 0 [.ref (x 14), .ref (x 6)] (XW G x N R K r S T tl) (Pv (XW G x (upd (upd (upd N 6 (N 2)) 7 (N 3)) 8 (N 4)) (vf_upd (vf_upd (vf_upd R 4 (cpI (R 1) (R 4) 16)) 5 (cpI (R 2) (R 5) 16)) 6 (cpI (R 3) (R 6) 25)) (vf_upd K 1 (cpK (K 0) (K 1) 16)) (va_up r 1 (r 0)) S T tl)) := by
  refine Ct.intro [(0, .ref (x 14)), (1, .ref (x 6))] (by decide) rfl (Nat.le_of_ble_eq_true rfl) ?_
  refine z_iconst (v := 0) d_X4_becomes_0 (by decide) ?_
  refine z_istore_n [(2, .int 0), (0, .ref (x 14)), (1, .ref (x 6))] d_X4_becomes_1 (by decide) rfl ?_
  refine z_perm [0, 2, 1] rfl ?_
  exact l1_X4_becomes_KN G x N R K r S T tl I A h 17 0 (by omega) (by omega)
set_option maxHeartbeats 4000000 in
set_option maxRecDepth 100000 in
theorem l2_X4_becomes_NK (G : GT) (x : Nat → Nat) (N : Nat → Int32) (R : Nat → Nat → Int32) (K : Nat → Nat → Option Nat) (r : Nat → Nat) (S : Nat → Int32) (T : Nat → Nat → Int32) (tl : va_W) (I : Nat → Int32) (A : Nat → Nat → Int32) (h : NtR I A (N 6) (N 7) (N 8) (R 4) (R 5) (R 6) (K 1) tl) : ∀ (n : Nat) (k : Nat) (hk9 : k ≤ 25) (hm : 25 < k + n), Tr G mX4_becomes (Rm 0 0 0) (OM G (Pv (XW G x (upd (upd (upd N 2 (N 6)) 3 (N 7)) 4 (N 8)) (vf_upd (vf_upd (vf_upd R 1 (cpI (R 4) (R 1) 16)) 2 (cpI (R 5) (R 2) 16)) 3 (cpI (R 6) (R 3) 25)) (vf_upd K 0 (cpK (K 1) (K 0) 16)) (va_up r 0 (r 1)) S T tl)) 0 0) 0 0 52 [(2, .int (nI k)), (1, .ref (x 14)), (0, .ref (x 6))] [] (XW G x N (vf_upd (vf_upd (vf_upd R 1 (cpI (R 4) (R 1) 16)) 2 (cpI (R 5) (R 2) 16)) 3 (cpI (R 6) (R 3) k)) (vf_upd K 0 (cpK (K 1) (K 0) 16)) r S T tl) := by
  intro n
  induction n with
  | zero =>
    intro k hk9 hm
    exact absurd hm (by omega)
  | succ n ih =>
    intro k hk9 hm
    refine z_iload_n d_X4_becomes_52 0 rfl ?_
    refine z_bipush (v := 25) d_X4_becomes_53 (by decide) ?_
    refine z_icmp_ge d_X4_becomes_55 (fun c_55 => ?_) (fun c_55 => ?_)
    · refine z_aload_n d_X4_becomes_76 2 rfl ?_
      refine z_aload_n d_X4_becomes_77 1 rfl ?_
      refine z_get (v := .int (N 6)) (14) f_X4_48_4 rfl rfl d_X4_becomes_78 ?_
      refine z_put 6 (XW G x (upd N 2 (N 6)) (vf_upd (vf_upd (vf_upd R 1 (cpI (R 4) (R 1) 16)) 2 (cpI (R 5) (R 2) 16)) 3 (cpI (R 6) (R 3) k)) (vf_upd K 0 (cpK (K 1) (K 0) 16)) r S T tl) p_X4_48_4 rfl rfl rfl (Nat.le_of_ble_eq_true rfl) (xf_6_4 G x N (vf_upd (vf_upd (vf_upd R 1 (cpI (R 4) (R 1) 16)) 2 (cpI (R 5) (R 2) 16)) 3 (cpI (R 6) (R 3) k)) (vf_upd K 0 (cpK (K 1) (K 0) 16)) r S T tl _) d_X4_becomes_81 ?_
      refine z_aload_n d_X4_becomes_84 2 rfl ?_
      refine z_aload_n d_X4_becomes_85 1 rfl ?_
      refine z_get (v := .int (N 7)) (14) f_X4_57_4 rfl rfl d_X4_becomes_86 ?_
      refine z_put 6 (XW G x (upd (upd N 2 (N 6)) 3 (N 7)) (vf_upd (vf_upd (vf_upd R 1 (cpI (R 4) (R 1) 16)) 2 (cpI (R 5) (R 2) 16)) 3 (cpI (R 6) (R 3) k)) (vf_upd K 0 (cpK (K 1) (K 0) 16)) r S T tl) p_X4_57_4 rfl rfl rfl (Nat.le_of_ble_eq_true rfl) (xf_6_5 G x (upd N 2 (N 6)) (vf_upd (vf_upd (vf_upd R 1 (cpI (R 4) (R 1) 16)) 2 (cpI (R 5) (R 2) 16)) 3 (cpI (R 6) (R 3) k)) (vf_upd K 0 (cpK (K 1) (K 0) 16)) r S T tl _) d_X4_becomes_89 ?_
      refine z_aload_n d_X4_becomes_92 2 rfl ?_
      refine z_aload_n d_X4_becomes_93 1 rfl ?_
      refine z_get (v := .int (N 8)) (14) f_X4_27_4 rfl rfl d_X4_becomes_94 ?_
      refine z_put 6 (XW G x (upd (upd (upd N 2 (N 6)) 3 (N 7)) 4 (N 8)) (vf_upd (vf_upd (vf_upd R 1 (cpI (R 4) (R 1) 16)) 2 (cpI (R 5) (R 2) 16)) 3 (cpI (R 6) (R 3) k)) (vf_upd K 0 (cpK (K 1) (K 0) 16)) r S T tl) p_X4_27_4 rfl rfl rfl (Nat.le_of_ble_eq_true rfl) (xf_6_6 G x (upd (upd N 2 (N 6)) 3 (N 7)) (vf_upd (vf_upd (vf_upd R 1 (cpI (R 4) (R 1) 16)) 2 (cpI (R 5) (R 2) 16)) 3 (cpI (R 6) (R 3) k)) (vf_upd K 0 (cpK (K 1) (K 0) 16)) r S T tl _) d_X4_becomes_97 ?_
      refine z_aload_n d_X4_becomes_100 2 rfl ?_
      refine z_aload_n d_X4_becomes_101 1 rfl ?_
      refine z_get (v := .ref (r 1)) (14) f_X4_44_4 rfl rfl d_X4_becomes_102 ?_
      refine z_put 6 (XW G x (upd (upd (upd N 2 (N 6)) 3 (N 7)) 4 (N 8)) (vf_upd (vf_upd (vf_upd R 1 (cpI (R 4) (R 1) 16)) 2 (cpI (R 5) (R 2) 16)) 3 (cpI (R 6) (R 3) k)) (vf_upd K 0 (cpK (K 1) (K 0) 16)) (va_up r 0 (r 1)) S T tl) p_X4_44_4 rfl rfl rfl (Nat.le_of_ble_eq_true rfl) (xf_6_7 G x (upd (upd (upd N 2 (N 6)) 3 (N 7)) 4 (N 8)) (vf_upd (vf_upd (vf_upd R 1 (cpI (R 4) (R 1) 16)) 2 (cpI (R 5) (R 2) 16)) 3 (cpI (R 6) (R 3) k)) (vf_upd K 0 (cpK (K 1) (K 0) 16)) r S T tl _) d_X4_becomes_105 ?_
      exact z_vret _ d_X4_becomes_108 rfl (Pv.of (by have h9 := ge_nI (N := 25) (by omega) (by decide) c_55; rw [show k = 25 by omega]))
    · have h9 : k < 25 := lt_nI (by omega) (by decide) c_55
      refine z_aload_n d_X4_becomes_58 2 rfl ?_
      refine z_get (v := .ref (x 10)) (6) f_X4_24_4 rfl rfl d_X4_becomes_59 ?_
      refine z_iload_n d_X4_becomes_62 0 rfl ?_
      refine z_aload_n d_X4_becomes_63 1 rfl ?_
      refine z_get (v := .ref (x 18)) (14) f_X4_24_4 rfl rfl d_X4_becomes_64 ?_
      refine z_iload_n d_X4_becomes_67 0 rfl ?_
      refine z_ialdN (18) k rfl (nI_toInt (by omega)) (by omega) d_X4_becomes_68 ?_
      refine z_iastN 10 k (XW G x N (vf_upd (vf_upd (vf_upd R 1 (cpI (R 4) (R 1) 16)) 2 (cpI (R 5) (R 2) 16)) 3 (upd (cpI (R 6) (R 3) k) k ((R 6) k))) (vf_upd K 0 (cpK (K 1) (K 0) 16)) r S T tl) rfl (nI_toInt (by omega)) (by omega) rfl d_X4_becomes_69 ?_
      refine z_iinc (nI (k + 1)) [(2, .int (nI (k + 1))), (1, .ref (x 14)), (0, .ref (x 6))] 0 d_X4_becomes_70 rfl (nI_1 _) (by decide) rfl ?_
      refine z_goto d_X4_becomes_73 ?_
      exact ih (k + 1) (by omega) (by omega)
set_option maxHeartbeats 4000000 in
set_option maxRecDepth 100000 in
theorem l1_X4_becomes_NK (G : GT) (x : Nat → Nat) (N : Nat → Int32) (R : Nat → Nat → Int32) (K : Nat → Nat → Option Nat) (r : Nat → Nat) (S : Nat → Int32) (T : Nat → Nat → Int32) (tl : va_W) (I : Nat → Int32) (A : Nat → Nat → Int32) (h : NtR I A (N 6) (N 7) (N 8) (R 4) (R 5) (R 6) (K 1) tl) : ∀ (n : Nat) (k : Nat) (hk9 : k ≤ 16) (hm : 16 < k + n), Tr G mX4_becomes (Rm 0 0 0) (OM G (Pv (XW G x (upd (upd (upd N 2 (N 6)) 3 (N 7)) 4 (N 8)) (vf_upd (vf_upd (vf_upd R 1 (cpI (R 4) (R 1) 16)) 2 (cpI (R 5) (R 2) 16)) 3 (cpI (R 6) (R 3) 25)) (vf_upd K 0 (cpK (K 1) (K 0) 16)) (va_up r 0 (r 1)) S T tl)) 0 0) 0 0 2 [(2, .int (nI k)), (1, .ref (x 14)), (0, .ref (x 6))] [] (XW G x N (vf_upd (vf_upd R 1 (cpI (R 4) (R 1) k)) 2 (cpI (R 5) (R 2) k)) (vf_upd K 0 (cpK (K 1) (K 0) k)) r S T tl) := by
  intro n
  induction n with
  | zero =>
    intro k hk9 hm
    exact absurd hm (by omega)
  | succ n ih =>
    intro k hk9 hm
    refine z_iload_n d_X4_becomes_2 0 rfl ?_
    refine z_bipush (v := 16) d_X4_becomes_3 (by decide) ?_
    refine z_icmp_ge d_X4_becomes_5 (fun c_5 => ?_) (fun c_5 => ?_)
    · refine z_iconst (v := 0) d_X4_becomes_50 (by decide) ?_
      refine z_istore_n [(2, .int 0), (1, .ref (x 14)), (0, .ref (x 6))] d_X4_becomes_51 (by decide) rfl ?_
      have h9 := ge_nI (N := 16) (by omega) (by decide) c_5
      rw [show k = 16 by omega]
      exact l2_X4_becomes_NK G x N R K r S T tl I A h 26 0 (by omega) (by omega)
    · have hk : k < 16 := lt_nI (by omega) (by decide) c_5
      refine z_aload_n d_X4_becomes_8 2 rfl ?_
      refine z_get (v := .ref (x 7)) (6) f_X4_11_4 rfl rfl d_X4_becomes_9 ?_
      refine z_iload_n d_X4_becomes_12 0 rfl ?_
      refine z_aload_n d_X4_becomes_13 1 rfl ?_
      refine z_get (v := .ref (x 15)) (14) f_X4_11_4 rfl rfl d_X4_becomes_14 ?_
      refine z_iload_n d_X4_becomes_17 0 rfl ?_
      obtain ⟨C1, hC1, hsub⟩ := tC_c1 (kdC_t (A 7 k))
      cases hb : bt (I 12) k
      · refine z_aldq (C0 := RX10) 15 3 k rfl rfl (nI_toInt (by omega)) (by omega) d_X4_becomes_18 ?_
        refine z_topv (show va_rf ((K 1) k) = .null from by rw [h.k0 hk hb]; rfl) ?_
        refine z_astN (E0 := RX10) 7 3 k (XW G x N (vf_upd (vf_upd R 1 (cpI (R 4) (R 1) k)) 2 (cpI (R 5) (R 2) k)) (vf_upd K 0 (va_up (cpK (K 1) (K 0) k) k none)) r S T tl) rfl rfl (nI_toInt (by omega)) (by omega) rfl d_X4_becomes_19 ?_
        refine z_aload_n d_X4_becomes_20 2 rfl ?_
        refine z_get (v := .ref (x 8)) (6) f_X4_17_4 rfl rfl d_X4_becomes_21 ?_
        refine z_iload_n d_X4_becomes_24 0 rfl ?_
        refine z_aload_n d_X4_becomes_25 1 rfl ?_
        refine z_get (v := .ref (x 16)) (14) f_X4_17_4 rfl rfl d_X4_becomes_26 ?_
        refine z_iload_n d_X4_becomes_29 0 rfl ?_
        refine z_ialdN (16) k rfl (nI_toInt (by omega)) (by omega) d_X4_becomes_30 ?_
        refine z_iastN 8 k (XW G x N (vf_upd (vf_upd R 2 (cpI (R 5) (R 2) k)) 1 (upd (cpI (R 4) (R 1) k) k ((R 4) k))) (vf_upd K 0 (va_up (cpK (K 1) (K 0) k) k none)) r S T tl) rfl (nI_toInt (by omega)) (by omega) rfl d_X4_becomes_31 ?_
        refine z_aload_n d_X4_becomes_32 2 rfl ?_
        refine z_get (v := .ref (x 9)) (6) f_X4_21_4 rfl rfl d_X4_becomes_33 ?_
        refine z_iload_n d_X4_becomes_36 0 rfl ?_
        refine z_aload_n d_X4_becomes_37 1 rfl ?_
        refine z_get (v := .ref (x 17)) (14) f_X4_21_4 rfl rfl d_X4_becomes_38 ?_
        refine z_iload_n d_X4_becomes_41 0 rfl ?_
        refine z_ialdN (17) k rfl (nI_toInt (by omega)) (by omega) d_X4_becomes_42 ?_
        refine z_iastN 9 k (XW G x N (vf_upd (vf_upd R 1 (upd (cpI (R 4) (R 1) k) k ((R 4) k))) 2 (upd (cpI (R 5) (R 2) k) k ((R 5) k))) (vf_upd K 0 (va_up (cpK (K 1) (K 0) k) k none)) r S T tl) rfl (nI_toInt (by omega)) (by omega) rfl d_X4_becomes_43 ?_
        refine z_iinc (nI (k + 1)) [(2, .int (nI (k + 1))), (1, .ref (x 14)), (0, .ref (x 6))] 0 d_X4_becomes_44 rfl (nI_1 _) (by decide) rfl ?_
        refine z_goto d_X4_becomes_47 ?_
        have e9 : va_up (cpK (K 1) (K 0) k) k none = cpK (K 1) (K 0) (k + 1) := by rw [← h.k0 hk hb]; rfl
        rw [e9]
        exact ih (k + 1) (by omega) (by omega)
      · refine z_aldq (C0 := RX10) 15 3 k rfl rfl (nI_toInt (by omega)) (by omega) d_X4_becomes_18 ?_
        obtain ⟨a18, q18, ha18, hq18⟩ := h.k1 hk hb
        refine z_topv (show va_rf ((K 1) k) = .ref a18 from by rw [ha18]; rfl) ?_
        refine z_astR (E0 := RX10) 7 3 (q18 + 31) k (XW G x N (vf_upd (vf_upd R 1 (cpI (R 4) (R 1) k)) 2 (cpI (R 5) (R 2) k)) (vf_upd K 0 (va_up (cpK (K 1) (K 0) k) k (some a18))) r S T tl) rfl rfl hq18 hC1 hsub (nI_toInt (by omega)) (by omega) rfl d_X4_becomes_19 ?_
        refine z_aload_n d_X4_becomes_20 2 rfl ?_
        refine z_get (v := .ref (x 8)) (6) f_X4_17_4 rfl rfl d_X4_becomes_21 ?_
        refine z_iload_n d_X4_becomes_24 0 rfl ?_
        refine z_aload_n d_X4_becomes_25 1 rfl ?_
        refine z_get (v := .ref (x 16)) (14) f_X4_17_4 rfl rfl d_X4_becomes_26 ?_
        refine z_iload_n d_X4_becomes_29 0 rfl ?_
        refine z_ialdN (16) k rfl (nI_toInt (by omega)) (by omega) d_X4_becomes_30 ?_
        refine z_iastN 8 k (XW G x N (vf_upd (vf_upd R 2 (cpI (R 5) (R 2) k)) 1 (upd (cpI (R 4) (R 1) k) k ((R 4) k))) (vf_upd K 0 (va_up (cpK (K 1) (K 0) k) k (some a18))) r S T tl) rfl (nI_toInt (by omega)) (by omega) rfl d_X4_becomes_31 ?_
        refine z_aload_n d_X4_becomes_32 2 rfl ?_
        refine z_get (v := .ref (x 9)) (6) f_X4_21_4 rfl rfl d_X4_becomes_33 ?_
        refine z_iload_n d_X4_becomes_36 0 rfl ?_
        refine z_aload_n d_X4_becomes_37 1 rfl ?_
        refine z_get (v := .ref (x 17)) (14) f_X4_21_4 rfl rfl d_X4_becomes_38 ?_
        refine z_iload_n d_X4_becomes_41 0 rfl ?_
        refine z_ialdN (17) k rfl (nI_toInt (by omega)) (by omega) d_X4_becomes_42 ?_
        refine z_iastN 9 k (XW G x N (vf_upd (vf_upd R 1 (upd (cpI (R 4) (R 1) k) k ((R 4) k))) 2 (upd (cpI (R 5) (R 2) k) k ((R 5) k))) (vf_upd K 0 (va_up (cpK (K 1) (K 0) k) k (some a18))) r S T tl) rfl (nI_toInt (by omega)) (by omega) rfl d_X4_becomes_43 ?_
        refine z_iinc (nI (k + 1)) [(2, .int (nI (k + 1))), (1, .ref (x 14)), (0, .ref (x 6))] 0 d_X4_becomes_44 rfl (nI_1 _) (by decide) rfl ?_
        refine z_goto d_X4_becomes_47 ?_
        have e9 : va_up (cpK (K 1) (K 0) k) k (some a18) = cpK (K 1) (K 0) (k + 1) := by rw [← ha18]; rfl
        rw [e9]
        exact ih (k + 1) (by omega) (by omega)
set_option maxHeartbeats 4000000 in
set_option maxRecDepth 100000 in
theorem t_X4_becomes_NK (G : GT) (x : Nat → Nat) (N : Nat → Int32) (R : Nat → Nat → Int32) (K : Nat → Nat → Option Nat) (r : Nat → Nat) (S : Nat → Int32) (T : Nat → Nat → Int32) (tl : va_W) (I : Nat → Int32) (A : Nat → Nat → Int32) (h : NtR I A (N 6) (N 7) (N 8) (R 4) (R 5) (R 6) (K 1) tl)  : Ct G mX4_becomes 0 0 0 [.ref (x 6), .ref (x 14)] (XW G x N R K r S T tl) (Pv (XW G x (upd (upd (upd N 2 (N 6)) 3 (N 7)) 4 (N 8)) (vf_upd (vf_upd (vf_upd R 1 (cpI (R 4) (R 1) 16)) 2 (cpI (R 5) (R 2) 16)) 3 (cpI (R 6) (R 3) 25)) (vf_upd K 0 (cpK (K 1) (K 0) 16)) (va_up r 0 (r 1)) S T tl)) := by
  refine Ct.intro [(0, .ref (x 6)), (1, .ref (x 14))] (by decide) rfl (Nat.le_of_ble_eq_true rfl) ?_
  refine z_iconst (v := 0) d_X4_becomes_0 (by decide) ?_
  refine z_istore_n [(2, .int 0), (0, .ref (x 6)), (1, .ref (x 14))] d_X4_becomes_1 (by decide) rfl ?_
  refine z_perm [0, 2, 1] rfl ?_
  exact l1_X4_becomes_NK G x N R K r S T tl I A h 17 0 (by omega) (by omega)
def Pbs (G : GT) (x : Nat → Nat) (N : Nat → Int32) (R : Nat → Nat → Int32) (K : Nat → Nat → Option Nat) (r : Nat → Nat) (tl : va_W) (I : Nat → Int32) (B : Nat → Nat → Int32) (a : Int32 × Int32) : Option Value → va_W → Prop := fun v w => v = some (.ref (x 13)) ∧ ∃ (N' : Nat → Int32) (R' : Nat → Nat → Int32) (K' : Nat → Nat → Option Nat) (S : Nat → Int32) (T : Nat → Nat → Int32), w = XW G x N' R' K' r S T tl ∧ ChR S a ∧ NtR I B (N' 2) (N' 3) (N' 4) (R' 1) (R' 2) (R' 3) (K' 0) tl ∧ Fr N R K N' R' K'
theorem be_fr {N0 N : Nat → Int32} {R0 R : Nat → Nat → Int32} {K0 K : Nat → Nat → Option Nat} (h : Fr N0 R0 K0 N R K) {b : Int32} {r1 r2 : Nat → Int32} {l3 m3 : Nat → Int32} {k0 k1 : Nat → Option Nat} {n2 : Int32} : Fr N0 R0 K0 (upd (upd N 2 n2) 2 b) (vf_upd (vf_upd (vf_upd (vf_upd R 1 r1) 2 r2) 3 l3) 3 m3) (vf_upd (vf_upd K 0 k0) 0 k1) := (h.tr (Fr.put N R K n2 r1 r2 l3 k0)).tr (Fr.drop _ _ _ b m3 k1)
set_option maxHeartbeats 4000000 in
set_option maxRecDepth 100000 in
theorem l_X4_bestOf (G : GT) (x : Nat → Nat) (N0 : Nat → Int32) (R0 : Nat → Nat → Int32) (K0 : Nat → Nat → Option Nat) (r : Nat → Nat) (tl : va_W) (I : Nat → Int32) (A : Nat → Nat → Int32) (cd : CD) (num : Int32) (hT : TxR G cd num (r 0) tl) (s q0 a : Nat) (kd v many : Int32) (hs : s < 16) (hfree : bt (I 12) s = false) (hq : tl[q0]? = some (a, .inr (kdC kd, [.int v]))) (hkd : kOk kd) (hv : 0 ≤ v.toInt ∧ v.toInt ≤ 9) : ∀ (n : Nat) (k : Nat) (N : Nat → Int32) (R : Nat → Nat → Int32) (K : Nat → Nat → Option Nat) (S : Nat → Int32) (T : Nat → Nat → Int32) (hk : k ≤ 50) (hm : 50 < k + n) (h : NtR I (beA I A s kd v many k) (N 2) (N 3) (N 4) (R 1) (R 2) (R 3) (K 0) tl) (hFr : Fr N0 R0 K0 N R K) (hch : ChR S (beP cd I A s kd v many k)), Tr G mX4_bestOf (Rm 7 0 0) (OM G (Pbs G x N0 R0 K0 r tl I (beA I A s kd v many 50) (beP cd I A s kd v many 50)) 0 0) 0 0 10 [(4, .int (nI k)), (3, .int many), (2, .ref a), (1, .int (nI s)), (0, .ref (x 6))] [] (XW G x N R K r S T tl) := by
  intro n
  induction n with
  | zero =>
    intro k N R K S T hk hm h hFr hch
    exact absurd hm (by omega)
  | succ n ih =>
    intro k N R K S T hk hm h hFr hch
    refine z_iload d_X4_bestOf_10 0 rfl ?_
    refine z_bipush (v := 50) d_X4_bestOf_12 (by decide) ?_
    refine z_icmp_ge d_X4_bestOf_14 (fun c_14 => ?_) (fun c_14 => ?_)
    · refine z_aload_n d_X4_bestOf_71 4 rfl ?_
      refine z_get (v := .ref (x 13)) (6) f_X4_40_4 rfl rfl d_X4_bestOf_72 ?_
      exact z_aret _ d_X4_bestOf_75 rfl (Or.inl ⟨_, rfl⟩) (Or.inr ⟨_, rfl⟩) ⟨rfl, N, R, K, S, T, rfl, by have h9 := ge_nI (N := 50) (by omega) (by decide) c_14; rw [show k = 50 by omega] at hch; exact hch, by have h9 := ge_nI (N := 50) (by omega) (by decide) c_14; rw [show k = 50 by omega] at h; exact h, hFr⟩
    · have h9 : k < 50 := lt_nI (by omega) (by decide) c_14
      refine z_iload d_X4_bestOf_17 0 rfl ?_
      refine z_iload_n d_X4_bestOf_19 1 rfl ?_
      refine z_callSp c_X4_148 (t_X11_placeOf G k many (XW G x N R K r S T tl)) rfl rfl (Nat.le_of_ble_eq_true rfl) rfl d_X4_bestOf_20 ?_
      refine z_istore [(5, .int (whS k many)), (4, .int (nI k)), (3, .int many), (2, .ref a), (1, .int (nI s)), (0, .ref (x 6))] d_X4_bestOf_23 (by decide) rfl ?_
      refine z_iload d_X4_bestOf_25 0 rfl ?_
      refine z_callSp c_X4_151 (t_X11_fits G (whS k many) (XW G x N R K r S T tl)) rfl rfl (Nat.le_of_ble_eq_true rfl) rfl d_X4_bestOf_27 ?_
      refine z_if_eq d_X4_bestOf_30 (fun c_30 => ?_) (fun c_30 => ?_)
      · refine z_iinc (nI (k + 1)) [(4, .int (nI (k + 1))), (5, .int (whS k many)), (3, .int many), (2, .ref a), (1, .int (nI s)), (0, .ref (x 6))] 1 d_X4_bestOf_65 rfl (nI_1 _) (by decide) rfl ?_
        refine z_goto d_X4_bestOf_68 ?_
        refine z_perm [0, 2, 3, 4, 5] rfl ?_
        have hno : ¬ okW (whS k many) = true := by rw [b01_z c_30]; decide
        exact ih (k + 1) N R K S T (by omega) (by omega) (by rw [← beA_old rfl hno]; exact h) hFr (by rw [beP_s, bsF_no (show (fun j => okW (whS j many)) k = false from b01_z c_30)]; exact hch)
      · have hok : okW (whS k many) = true := b01_o c_30
        obtain ⟨c, st, lg, hW⟩ := okW_WP hok
        have h2 := h.put (tl := tl) (k := kd) (v := v) hs hfree ⟨a, q0, rfl, hq⟩ hkd hv hok hW
        have h3 := h2.drop (1 <<< (nI s &&& 31))
        rw [dr_la hs hfree] at h3
        refine z_aload_n d_X4_bestOf_33 5 rfl ?_
        refine z_iload_n d_X4_bestOf_34 4 rfl ?_
        refine z_aload_n d_X4_bestOf_35 3 rfl ?_
        refine z_iload d_X4_bestOf_36 0 rfl ?_
        refine z_callVv 6 c_X4_161 (t_X4_put G x N R K r S T tl s c st lg a q0 (kdC kd) v (whS k many) hs hW (kdC_t kd) hq) rfl rfl rfl rfl (Nat.le_of_ble_eq_true rfl) rfl d_X4_bestOf_38 ?_
        refine z_aload_n d_X4_bestOf_41 5 rfl ?_
        refine z_get (v := .ref (x 13)) (6) f_X4_40_4 rfl rfl d_X4_bestOf_42 ?_
        refine z_iload d_X4_bestOf_45 0 rfl ?_
        refine z_aload_n d_X4_bestOf_47 5 rfl ?_
        refine z_aload_n d_X4_bestOf_48 5 rfl ?_
        refine z_get (v := .int (N 3)) (6) f_X4_57_4 rfl rfl d_X4_bestOf_49 ?_
        have e13 : upd (laI I s) 13 (N 3) = laI I s := by rw [h2.ho]; exact upd_self _ 13
        refine z_callV 6 c_X4_165 rfl rfl (t_X4_leastHold G x (upd N 2 (N 2 ||| 1 <<< (nI s &&& 31))) (vf_upd (vf_upd (vf_upd R 1 (upd (R 1) s (whS k many))) 2 (upd (R 2) s (N 3))) 3 (lyP s c st (R 3) lg)) (vf_upd K 0 (va_up (K 0) s (some a))) r S T tl (laI I s) _ h2 cd num hT (N 3)) rfl rfl (Nat.le_of_ble_eq_true rfl) rfl d_X4_bestOf_52 ?_
        rintro v52 w52 ⟨rfl, T52, rfl⟩
        rw [e13]
        refine z_callVv 13 c_X4_157 (t_X0_offer G x (upd N 2 (N 2 ||| 1 <<< (nI s &&& 31))) (vf_upd (vf_upd (vf_upd R 1 (upd (R 1) s (whS k many))) 2 (upd (R 2) s (N 3))) 3 (lyP s c st (R 3) lg)) (vf_upd K 0 (va_up (K 0) s (some a))) r S T52 tl (whS k many) (lhS cd (laI I s) (laA I (beA I A s kd v many k) s kd (whS k many) v))) rfl rfl rfl rfl (Nat.le_of_ble_eq_true rfl) rfl d_X4_bestOf_55 ?_
        refine z_aload_n d_X4_bestOf_58 5 rfl ?_
        refine z_iconst (v := 1) d_X4_bestOf_59 (by decide) ?_
        refine z_iload_n d_X4_bestOf_60 4 rfl ?_
        refine z_ishl d_X4_bestOf_61 ?_
        refine z_callVv 6 c_X4_69 (t_X4_drop G x (upd N 2 (N 2 ||| 1 <<< (nI s &&& 31))) (vf_upd (vf_upd (vf_upd R 1 (upd (R 1) s (whS k many))) 2 (upd (R 2) s (N 3))) 3 (lyP s c st (R 3) lg)) (vf_upd K 0 (va_up (K 0) s (some a))) r (ofS S (whS k many) (lhS cd (laI I s) (laA I (beA I A s kd v many k) s kd (whS k many) v))) T52 tl  (1 <<< ((nI s) &&& 31)) ) rfl rfl rfl rfl (Nat.le_of_ble_eq_true rfl) rfl d_X4_bestOf_62 ?_
        refine z_iinc (nI (k + 1)) [(4, .int (nI (k + 1))), (5, .int (whS k many)), (3, .int many), (2, .ref a), (1, .int (nI s)), (0, .ref (x 6))] 1 d_X4_bestOf_65 rfl (nI_1 _) (by decide) rfl ?_
        refine z_goto d_X4_bestOf_68 ?_
        refine z_perm [0, 2, 3, 4, 5] rfl ?_
        exact ih (k + 1) _ _ _ _ T52 (by omega) (by omega) (by rw [← beA_new rfl hok]; exact h3) (be_fr hFr) (by rw [beP_s]; exact hch.offer (ok := fun j => okW (whS j many)) (wh := fun j => whS j many) (v := fun j => lhS cd (laI I s) (laA I (beA I A s kd v many j) s kd (whS j many) v)) hok)
set_option maxHeartbeats 4000000 in
set_option maxRecDepth 100000 in
theorem t_X4_bestOf (G : GT) (x : Nat → Nat) (N : Nat → Int32) (R : Nat → Nat → Int32) (K : Nat → Nat → Option Nat) (r : Nat → Nat) (S : Nat → Int32) (T : Nat → Nat → Int32) (tl : va_W) (I : Nat → Int32) (A : Nat → Nat → Int32) (h : NtR I A (N 2) (N 3) (N 4) (R 1) (R 2) (R 3) (K 0) tl) (cd : CD) (num : Int32) (hT : TxR G cd num (r 0) tl) (s q0 a : Nat) (kd v many : Int32) (hs : s < 16) (hfree : bt (I 12) s = false) (hq : tl[q0]? = some (a, .inr (kdC kd, [.int v]))) (hkd : kOk kd) (hv : 0 ≤ v.toInt ∧ v.toInt ≤ 9)  : Ct G mX4_bestOf 7 0 0 [.ref (x 6), .int (nI s), .ref a, .int many] (XW G x N R K r S T tl) (Pbs G x N R K r tl I (beA I A s kd v many 50) (beP cd I A s kd v many 50)) := by
  refine Ct.intro [(0, .ref (x 6)), (1, .int (nI s)), (2, .ref a), (3, .int many)] (by decide) rfl (Nat.le_of_ble_eq_true rfl) ?_
  refine z_aload_n d_X4_bestOf_0 0 rfl ?_
  refine z_get (v := .ref (x 13)) (6) f_X4_40_4 rfl rfl d_X4_bestOf_1 ?_
  refine z_callVv 13 c_X4_145 (t_X0_clear G x N R K r S T tl) rfl rfl rfl rfl (Nat.le_of_ble_eq_true rfl) rfl d_X4_bestOf_4 ?_
  refine z_iconst (v := 0) d_X4_bestOf_7 (by decide) ?_
  refine z_istore [(4, .int 0), (0, .ref (x 6)), (1, .int (nI s)), (2, .ref a), (3, .int many)] d_X4_bestOf_8 (by decide) rfl ?_
  refine z_perm [0, 4, 3, 2, 1] rfl ?_
  exact l_X4_bestOf G x N R K r tl I A cd num hT s q0 a kd v many hs hfree hq hkd hv 51 0 N R K _ T (by omega) (by omega) h (Fr.rf _ _ _) ChR.st
