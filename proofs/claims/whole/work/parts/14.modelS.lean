/-! THE REFERENCE READS A TEXT -/
def nmF (x y cr ln ag sn : Int32) : Nat → Int32 := fun k => match k with
  | 0 => x
  | 1 => y
  | 2 => cr
  | 3 => ln
  | 4 => ag
  | _ => sn
def slP {α : Type} (wh : Int32) (a b c : α) : α := if wh = 0 then a else if wh = 1 then b else c
def RE (G : GT) (b : Nat → Nat) (I : Nat → Int32) (A : Nat → Nat → Int32) (z : Int32) (t n : Nat) (nm : Nat → Int32) (flt wh : Int32) (r : Nat ⊕ (List Int32 × List Int32 × List Int32)) : Option Value → va_W → Prop := fun v w => ∃ x : Int32, v = some (.int x) ∧ match r with
  | .inl f => ∃ (tok tat here opn : Int32) (tw : Int64), w = PW G b I A z t n nm tok tat here opn 1 (nI f) tw
  | .inr (c0, c1, c2) => Vl nm (slP wh c0 c1 c2) x ∧ ∃ (tok tat here opn : Int32) (tw : Int64), w = PW G b I A z t n nm tok tat here opn 0 flt tw
theorem RE.ok {G : GT} {b : Nat → Nat} {I : Nat → Int32} {A : Nat → Nat → Int32} {z : Int32} {t n : Nat} {nm : Nat → Int32} {flt wh : Int32} {r : Nat ⊕ (List Int32 × List Int32 × List Int32)} {c0 c1 c2 : List Int32} {x : Int32} {tok tat here opn : Int32} {tw : Int64} {w : va_W} (hr : r = .inr (c0, c1, c2)) (hV : Vl nm (slP wh c0 c1 c2) x) (hw : w = PW G b I A z t n nm tok tat here opn 0 flt tw) : RE G b I A z t n nm flt wh r (some (.int x)) w := by
  subst hr; exact ⟨x, rfl, hV, tok, tat, here, opn, tw, hw⟩
theorem RE.bad {G : GT} {b : Nat → Nat} {I : Nat → Int32} {A : Nat → Nat → Int32} {z : Int32} {t n : Nat} {nm : Nat → Int32} {flt wh : Int32} {r : Nat ⊕ (List Int32 × List Int32 × List Int32)} {f : Nat} {x : Int32} {tok tat here opn : Int32} {tw : Int64} {w : va_W} (hr : r = .inl f) (hw : w = PW G b I A z t n nm tok tat here opn 1 (nI f) tw) : RE G b I A z t n nm flt wh r (some (.int x)) w := by
  subst hr; exact ⟨x, rfl, tok, tat, here, opn, tw, hw⟩
theorem tokM_0 {B : Nat → Int32} {n p : Nat} : tokM B n p = 0 ↔ tkL B n p = 0 := by
  by_cases h0 : kdL B n p = 0
  · rw [tk_k0 h0]; unfold tokM; rw [if_pos h0]
  · by_cases h1 : kdL B n p = 1
    · have := wd_lt (wlS B (stL B n p) (nxL B n p))
      rw [tk_k1 h1]; unfold tokM; rw [if_neg h0, if_pos h1]
      constructor
      · intro h; exact absurd h (by decide)
      · intro h; rw [h] at this; exact absurd this (by decide)
    · by_cases h2 : kdL B n p = 2
      · rw [tk_k2 h2]; unfold tokM; rw [if_neg h0, if_neg h1, if_pos h2]
        split <;> constructor <;> intro h <;> exact absurd h (by decide)
      · by_cases h3 : kdL B n p = 3
        · have := sg_big (kd_3 h3)
          rw [tk_k3 h3]; unfold tokM; rw [if_neg h0, if_neg h1, if_neg h2, if_pos h3]
          constructor
          · intro h; exact absurd h (by decide)
          · intro h; rw [h] at this; exact absurd this (by decide)
        · rw [tk_k4 h0 h1 h2 h3]; unfold tokM; rw [if_neg h0, if_neg h1, if_neg h2, if_neg h3]
          constructor <;> (intro h; exact absurd h (by decide))
set_option maxHeartbeats 4000000 in
set_option maxRecDepth 100000 in
theorem s_X12_read (G : GT) (b : Nat → Nat) (I : Nat → Int32) (A : Nat → Nat → Int32) (z : Int32) (t n : Nat) (ht : t < 6) (hn : n ≤ 160) (hB : ∀ i, i < n → 0 ≤ (bM A t i).toInt) (x y cr ln ag sn wh : Int32) (flt tok tat : Int32) (tw : Int64) : Tr G mX12_read (Rm 41 0 0) (OM G (RE G b I A z t n (nmF x y cr ln ag sn) flt wh (txP (bM A t) n)) 0 0) 0 0 68 [(0, .ref (b 0)), (1, .int (nI t)), (2, .int x), (3, .int y), (4, .int cr), (5, .int ln), (6, .int ag), (7, .int sn), (8, .int wh)] [] (PW G b I A z t n (nmF x y cr ln ag sn) tok tat (nI 0) 0 0 flt tw) := by
  refine z_aload_n d_X12_read_68 0 rfl ?_
  refine z_callVv 0 c_X12_216 (t_X12_next1 G b I A z t n (nmF x y cr ln ag sn) 0 0 flt tw 0 ht hn (Nat.zero_le _) hB tok tat) rfl rfl rfl rfl (Nat.le_of_ble_eq_true rfl) rfl d_X12_read_69 ?_
  refine z_aload_n d_X12_read_72 0 rfl ?_
  refine z_ldc2 d_X12_read_73 w_1220 ?_
  refine z_callV 0 c_X12_291 rfl rfl (t_X12_part4 G b I A z t n (nmF x y cr ln ag sn) ht hn hB 0 (Nat.zero_le _) flt tw) rfl rfl (Nat.le_of_ble_eq_true rfl) rfl d_X12_read_76 ?_
  rintro v76 w76 ⟨x76, rfl, hE76⟩
  rcases hr76 : parP (bM A t) n 4 0 with f76 | ⟨c76, q76⟩
  · rw [hr76] at hE76
    obtain ⟨tok76, tat76, here76, opn76, tw76, rfl⟩ := hE76
    refine z_istore [(9, .int x76), (0, .ref (b 0)), (1, .int (nI t)), (2, .int x), (3, .int y), (4, .int cr), (5, .int ln), (6, .int ag), (7, .int sn), (8, .int wh)] d_X12_read_79 (by decide) rfl ?_
    refine z_aload_n d_X12_read_81 1 rfl ?_
    refine z_get (v := .int 1) 0 f_X12_203_12 rfl rfl d_X12_read_82 ?_
    refine z_if_eq d_X12_read_85 (fun c_85 => ?_) (fun c_85 => ?_)
    · exact absurd c_85 (by decide)
    refine z_iconst (v := 0) d_X12_read_88 (by decide) ?_
    refine z_goto d_X12_read_89 ?_
    refine z_istore [(10, .int 0), (9, .int x76), (0, .ref (b 0)), (1, .int (nI t)), (2, .int x), (3, .int y), (4, .int cr), (5, .int ln), (6, .int ag), (7, .int sn), (8, .int wh)] d_X12_read_99 (by decide) rfl ?_
    refine z_aload_n d_X12_read_101 2 rfl ?_
    refine z_get (v := .int 1) 0 f_X12_203_12 rfl rfl d_X12_read_102 ?_
    refine z_if_eq d_X12_read_105 (fun c_105 => ?_) (fun c_105 => ?_)
    · exact absurd c_105 (by decide)
    refine z_iconst (v := 0) d_X12_read_108 (by decide) ?_
    refine z_goto d_X12_read_109 ?_
    refine z_istore [(11, .int 0), (10, .int 0), (9, .int x76), (0, .ref (b 0)), (1, .int (nI t)), (2, .int x), (3, .int y), (4, .int cr), (5, .int ln), (6, .int ag), (7, .int sn), (8, .int wh)] d_X12_read_119 (by decide) rfl ?_
    refine z_aload_n d_X12_read_121 3 rfl ?_
    refine z_get (v := .int 1) 0 f_X12_203_12 rfl rfl d_X12_read_122 ?_
    refine z_if_ne d_X12_read_125 (fun c_125 => ?_) (fun c_125 => ?_)
    rotate_left
    · exact absurd c_125 (by decide)
    refine z_iload d_X12_read_139 11 rfl ?_
    refine z_if_ne d_X12_read_141 (fun c_141 => ?_) (fun c_141 => ?_)
    · refine z_iload d_X12_read_149 11 rfl ?_
      refine z_iconst (v := 1) d_X12_read_151 (by decide) ?_
      refine z_icmp_ne d_X12_read_152 (fun c_152 => ?_) (fun c_152 => ?_)
      · refine z_iload d_X12_read_160 0 rfl ?_
        exact z_iret _ d_X12_read_162 rfl (RE.bad (by unfold txP; first | (simp only [hr76, hr96, hr116, h0, ↓reduceIte]; done) | (simp only [hr76, hr96, hr116]; done) | (simp only [hr76, hr96]; done) | (simp only [hr76]; done)) rfl)
      · refine z_iload d_X12_read_155 1 rfl ?_
        refine z_goto d_X12_read_157 ?_
        exact z_iret _ d_X12_read_162 rfl (RE.bad (by unfold txP; first | (simp only [hr76, hr96, hr116, h0, ↓reduceIte]; done) | (simp only [hr76, hr96, hr116]; done) | (simp only [hr76, hr96]; done) | (simp only [hr76]; done)) rfl)
    · refine z_iload d_X12_read_144 2 rfl ?_
      refine z_goto d_X12_read_146 ?_
      exact z_iret _ d_X12_read_162 rfl (RE.bad (by unfold txP; first | (simp only [hr76, hr96, hr116, h0, ↓reduceIte]; done) | (simp only [hr76, hr96, hr116]; done) | (simp only [hr76, hr96]; done) | (simp only [hr76]; done)) rfl)
  · rw [hr76] at hE76
    obtain ⟨hV76, tw76, rfl⟩ := hE76
    have hg76 := g_part4 _ n _ (Nat.zero_le _) c76 q76 hr76
    refine z_istore [(9, .int x76), (0, .ref (b 0)), (1, .int (nI t)), (2, .int x), (3, .int y), (4, .int cr), (5, .int ln), (6, .int ag), (7, .int sn), (8, .int wh)] d_X12_read_79 (by decide) rfl ?_
    refine z_aload_n d_X12_read_81 1 rfl ?_
    refine z_get (v := .int 0) 0 f_X12_203_12 rfl rfl d_X12_read_82 ?_
    refine z_if_eq d_X12_read_85 (fun c_85 => ?_) (fun c_85 => ?_)
    rotate_left
    · exact absurd c_85 (by decide)
    refine z_aload_n d_X12_read_92 1 rfl ?_
    refine z_ldc2 d_X12_read_93 w_1280 ?_
    refine z_callV 0 c_X12_291 rfl rfl (t_X12_part5 G b I A z t n (nmF x y cr ln ag sn) ht hn hB q76 hg76.2.1 flt tw76) rfl rfl (Nat.le_of_ble_eq_true rfl) rfl d_X12_read_96 ?_
    rintro v96 w96 ⟨x96, rfl, hE96⟩
    rcases hr96 : parP (bM A t) n 5 q76 with f96 | ⟨c96, q96⟩
    · rw [hr96] at hE96
      obtain ⟨tok96, tat96, here96, opn96, tw96, rfl⟩ := hE96
      refine z_istore [(10, .int x96), (9, .int x76), (0, .ref (b 0)), (1, .int (nI t)), (2, .int x), (3, .int y), (4, .int cr), (5, .int ln), (6, .int ag), (7, .int sn), (8, .int wh)] d_X12_read_99 (by decide) rfl ?_
      refine z_aload_n d_X12_read_101 2 rfl ?_
      refine z_get (v := .int 1) 0 f_X12_203_12 rfl rfl d_X12_read_102 ?_
      refine z_if_eq d_X12_read_105 (fun c_105 => ?_) (fun c_105 => ?_)
      · exact absurd c_105 (by decide)
      refine z_iconst (v := 0) d_X12_read_108 (by decide) ?_
      refine z_goto d_X12_read_109 ?_
      refine z_istore [(11, .int 0), (10, .int x96), (9, .int x76), (0, .ref (b 0)), (1, .int (nI t)), (2, .int x), (3, .int y), (4, .int cr), (5, .int ln), (6, .int ag), (7, .int sn), (8, .int wh)] d_X12_read_119 (by decide) rfl ?_
      refine z_aload_n d_X12_read_121 3 rfl ?_
      refine z_get (v := .int 1) 0 f_X12_203_12 rfl rfl d_X12_read_122 ?_
      refine z_if_ne d_X12_read_125 (fun c_125 => ?_) (fun c_125 => ?_)
      rotate_left
      · exact absurd c_125 (by decide)
      refine z_iload d_X12_read_139 11 rfl ?_
      refine z_if_ne d_X12_read_141 (fun c_141 => ?_) (fun c_141 => ?_)
      · refine z_iload d_X12_read_149 11 rfl ?_
        refine z_iconst (v := 1) d_X12_read_151 (by decide) ?_
        refine z_icmp_ne d_X12_read_152 (fun c_152 => ?_) (fun c_152 => ?_)
        · refine z_iload d_X12_read_160 0 rfl ?_
          exact z_iret _ d_X12_read_162 rfl (RE.bad (by unfold txP; first | (simp only [hr76, hr96, hr116, h0, ↓reduceIte]; done) | (simp only [hr76, hr96, hr116]; done) | (simp only [hr76, hr96]; done) | (simp only [hr76]; done)) rfl)
        · refine z_iload d_X12_read_155 1 rfl ?_
          refine z_goto d_X12_read_157 ?_
          exact z_iret _ d_X12_read_162 rfl (RE.bad (by unfold txP; first | (simp only [hr76, hr96, hr116, h0, ↓reduceIte]; done) | (simp only [hr76, hr96, hr116]; done) | (simp only [hr76, hr96]; done) | (simp only [hr76]; done)) rfl)
      · refine z_iload d_X12_read_144 2 rfl ?_
        refine z_goto d_X12_read_146 ?_
        exact z_iret _ d_X12_read_162 rfl (RE.bad (by unfold txP; first | (simp only [hr76, hr96, hr116, h0, ↓reduceIte]; done) | (simp only [hr76, hr96, hr116]; done) | (simp only [hr76, hr96]; done) | (simp only [hr76]; done)) rfl)
    · rw [hr96] at hE96
      obtain ⟨hV96, tw96, rfl⟩ := hE96
      have hg96 := g_part5 _ n _ hg76.2.1 c96 q96 hr96
      refine z_istore [(10, .int x96), (9, .int x76), (0, .ref (b 0)), (1, .int (nI t)), (2, .int x), (3, .int y), (4, .int cr), (5, .int ln), (6, .int ag), (7, .int sn), (8, .int wh)] d_X12_read_99 (by decide) rfl ?_
      refine z_aload_n d_X12_read_101 2 rfl ?_
      refine z_get (v := .int 0) 0 f_X12_203_12 rfl rfl d_X12_read_102 ?_
      refine z_if_eq d_X12_read_105 (fun c_105 => ?_) (fun c_105 => ?_)
      rotate_left
      · exact absurd c_105 (by decide)
      refine z_aload_n d_X12_read_112 2 rfl ?_
      refine z_ldc2 d_X12_read_113 w_1281 ?_
      refine z_callV 0 c_X12_291 rfl rfl (t_X12_part6 G b I A z t n (nmF x y cr ln ag sn) ht hn hB q96 hg96.2.1 flt tw96) rfl rfl (Nat.le_of_ble_eq_true rfl) rfl d_X12_read_116 ?_
      rintro v116 w116 ⟨x116, rfl, hE116⟩
      rcases hr116 : parP (bM A t) n 6 q96 with f116 | ⟨c116, q116⟩
      · rw [hr116] at hE116
        obtain ⟨tok116, tat116, here116, opn116, tw116, rfl⟩ := hE116
        refine z_istore [(11, .int x116), (10, .int x96), (9, .int x76), (0, .ref (b 0)), (1, .int (nI t)), (2, .int x), (3, .int y), (4, .int cr), (5, .int ln), (6, .int ag), (7, .int sn), (8, .int wh)] d_X12_read_119 (by decide) rfl ?_
        refine z_aload_n d_X12_read_121 3 rfl ?_
        refine z_get (v := .int 1) 0 f_X12_203_12 rfl rfl d_X12_read_122 ?_
        refine z_if_ne d_X12_read_125 (fun c_125 => ?_) (fun c_125 => ?_)
        rotate_left
        · exact absurd c_125 (by decide)
        refine z_iload d_X12_read_139 11 rfl ?_
        refine z_if_ne d_X12_read_141 (fun c_141 => ?_) (fun c_141 => ?_)
        · refine z_iload d_X12_read_149 11 rfl ?_
          refine z_iconst (v := 1) d_X12_read_151 (by decide) ?_
          refine z_icmp_ne d_X12_read_152 (fun c_152 => ?_) (fun c_152 => ?_)
          · refine z_iload d_X12_read_160 0 rfl ?_
            exact z_iret _ d_X12_read_162 rfl (RE.bad (by unfold txP; first | (simp only [hr76, hr96, hr116, h0, ↓reduceIte]; done) | (simp only [hr76, hr96, hr116]; done) | (simp only [hr76, hr96]; done) | (simp only [hr76]; done)) rfl)
          · refine z_iload d_X12_read_155 1 rfl ?_
            refine z_goto d_X12_read_157 ?_
            exact z_iret _ d_X12_read_162 rfl (RE.bad (by unfold txP; first | (simp only [hr76, hr96, hr116, h0, ↓reduceIte]; done) | (simp only [hr76, hr96, hr116]; done) | (simp only [hr76, hr96]; done) | (simp only [hr76]; done)) rfl)
        · refine z_iload d_X12_read_144 2 rfl ?_
          refine z_goto d_X12_read_146 ?_
          exact z_iret _ d_X12_read_162 rfl (RE.bad (by unfold txP; first | (simp only [hr76, hr96, hr116, h0, ↓reduceIte]; done) | (simp only [hr76, hr96, hr116]; done) | (simp only [hr76, hr96]; done) | (simp only [hr76]; done)) rfl)
      · rw [hr116] at hE116
        obtain ⟨hV116, tw116, rfl⟩ := hE116
        have hg116 := g_part6 _ n _ hg96.2.1 c116 q116 hr116
        refine z_istore [(11, .int x116), (10, .int x96), (9, .int x76), (0, .ref (b 0)), (1, .int (nI t)), (2, .int x), (3, .int y), (4, .int cr), (5, .int ln), (6, .int ag), (7, .int sn), (8, .int wh)] d_X12_read_119 (by decide) rfl ?_
        refine z_aload_n d_X12_read_121 3 rfl ?_
        refine z_get (v := .int 0) 0 f_X12_203_12 rfl rfl d_X12_read_122 ?_
        refine z_if_ne d_X12_read_125 (fun c_125 => ?_) (fun c_125 => ?_)
        · exact absurd c_125 (by decide)
        refine z_aload_n d_X12_read_128 3 rfl ?_
        refine z_get (v := .int (tokM (bM A t) n q116)) 0 f_X12_180_12 rfl rfl d_X12_read_129 ?_
        refine z_if_eq d_X12_read_132 (fun c_132 => ?_) (fun c_132 => ?_)
        · have h0 := tokM_0.mp c_132
          refine z_iload d_X12_read_139 11 rfl ?_
          refine z_if_ne d_X12_read_141 (fun c_141 => ?_) (fun c_141 => ?_)
          · refine z_iload d_X12_read_149 11 rfl ?_
            refine z_iconst (v := 1) d_X12_read_151 (by decide) ?_
            refine z_icmp_ne d_X12_read_152 (fun c_152 => ?_) (fun c_152 => ?_)
            · refine z_iload d_X12_read_160 0 rfl ?_
              exact z_iret _ d_X12_read_162 rfl (RE.ok (c0 := c76) (c1 := c96) (c2 := c116) (by unfold txP; first | (simp only [hr76, hr96, hr116, h0, ↓reduceIte]; done) | (simp only [hr76, hr96, hr116]; done) | (simp only [hr76, hr96]; done) | (simp only [hr76]; done)) (by simp only [slP, c_141, c_152, ↓reduceIte]; exact hV116) rfl)
            · refine z_iload d_X12_read_155 1 rfl ?_
              refine z_goto d_X12_read_157 ?_
              exact z_iret _ d_X12_read_162 rfl (RE.ok (c0 := c76) (c1 := c96) (c2 := c116) (by unfold txP; first | (simp only [hr76, hr96, hr116, h0, ↓reduceIte]; done) | (simp only [hr76, hr96, hr116]; done) | (simp only [hr76, hr96]; done) | (simp only [hr76]; done)) (by simp only [slP, c_141, c_152, ↓reduceIte]; exact hV96) rfl)
          · refine z_iload d_X12_read_144 2 rfl ?_
            refine z_goto d_X12_read_146 ?_
            exact z_iret _ d_X12_read_162 rfl (RE.ok (c0 := c76) (c1 := c96) (c2 := c116) (by unfold txP; first | (simp only [hr76, hr96, hr116, h0, ↓reduceIte]; done) | (simp only [hr76, hr96, hr116]; done) | (simp only [hr76, hr96]; done) | (simp only [hr76]; done)) (by simp only [slP, c_141, ↓reduceIte]; exact hV76) rfl)
        · have h0 : ¬ tkL (bM A t) n q116 = 0 := fun h => c_132 (tokM_0.mpr h)
          refine z_aload_n d_X12_read_135 3 rfl ?_
          refine z_callVv 0 c_X12_213 (t_X12_fail0 G b I A z t n (nmF x y cr ln ag sn) (tokM (bM A t) n q116) (nI (stL (bM A t) n q116)) (nI (nxL (bM A t) n q116)) 0 flt (twM (bM A t) n q116 tw116)) rfl rfl rfl rfl (Nat.le_of_ble_eq_true rfl) rfl d_X12_read_136 ?_
          refine z_iload d_X12_read_139 11 rfl ?_
          refine z_if_ne d_X12_read_141 (fun c_141 => ?_) (fun c_141 => ?_)
          · refine z_iload d_X12_read_149 11 rfl ?_
            refine z_iconst (v := 1) d_X12_read_151 (by decide) ?_
            refine z_icmp_ne d_X12_read_152 (fun c_152 => ?_) (fun c_152 => ?_)
            · refine z_iload d_X12_read_160 0 rfl ?_
              exact z_iret _ d_X12_read_162 rfl (RE.bad (by unfold txP; first | (simp only [hr76, hr96, hr116, h0, ↓reduceIte]; done) | (simp only [hr76, hr96, hr116]; done) | (simp only [hr76, hr96]; done) | (simp only [hr76]; done)) rfl)
            · refine z_iload d_X12_read_155 1 rfl ?_
              refine z_goto d_X12_read_157 ?_
              exact z_iret _ d_X12_read_162 rfl (RE.bad (by unfold txP; first | (simp only [hr76, hr96, hr116, h0, ↓reduceIte]; done) | (simp only [hr76, hr96, hr116]; done) | (simp only [hr76, hr96]; done) | (simp only [hr76]; done)) rfl)
          · refine z_iload d_X12_read_144 2 rfl ?_
            refine z_goto d_X12_read_146 ?_
            exact z_iret _ d_X12_read_162 rfl (RE.bad (by unfold txP; first | (simp only [hr76, hr96, hr116, h0, ↓reduceIte]; done) | (simp only [hr76, hr96, hr116]; done) | (simp only [hr76, hr96]; done) | (simp only [hr76]; done)) rfl)
set_option maxHeartbeats 4000000 in
set_option maxRecDepth 100000 in
theorem t_X12_read (G : GT) (b : Nat → Nat) (I : Nat → Int32) (A : Nat → Nat → Int32) (t n : Nat) (ht : t < 6) (hn : n ≤ 160) (hB : ∀ i, i < n → 0 ≤ (bM A t i).toInt) (hsz : A 2 t = nI n) (x y cr ln ag sn wh : Int32) (J : Nat → Int32) (tw : Int64)  : Ct G mX12_read 41 0 0 [.ref (b 0), .int (nI t), .int x, .int y, .int cr, .int ln, .int ag, .int sn, .int wh] (MW G b I A J tw) (RE G b I A (J 0) t n (nmF x y cr ln ag sn) (J 23) wh (txP (bM A t) n)) := by
  refine Ct.intro [(0, .ref (b 0)), (1, .int (nI t)), (2, .int x), (3, .int y), (4, .int cr), (5, .int ln), (6, .int ag), (7, .int sn), (8, .int wh)] (by decide) rfl (Nat.le_of_ble_eq_true rfl) ?_
  refine z_aload_n d_X12_read_0 0 rfl ?_
  refine z_iload_n d_X12_read_1 2 rfl ?_
  refine z_put 0 (MW G b I A (upd J 24 x) tw) p_X12_223_12 rfl rfl rfl (Nat.le_of_ble_eq_true rfl) (mw_24 G b I A J tw _) d_X12_read_2 ?_
  refine z_aload_n d_X12_read_5 0 rfl ?_
  refine z_iload_n d_X12_read_6 3 rfl ?_
  refine z_put 0 (MW G b I A (upd (upd J 24 x) 25 y) tw) p_X12_228_12 rfl rfl rfl (Nat.le_of_ble_eq_true rfl) (mw_25 G b I A (upd J 24 x) tw _) d_X12_read_7 ?_
  refine z_aload_n d_X12_read_10 0 rfl ?_
  refine z_iload d_X12_read_11 4 rfl ?_
  refine z_put 0 (MW G b I A (upd (upd (upd J 24 x) 25 y) 26 cr) tw) p_X12_233_12 rfl rfl rfl (Nat.le_of_ble_eq_true rfl) (mw_26 G b I A (upd (upd J 24 x) 25 y) tw _) d_X12_read_13 ?_
  refine z_aload_n d_X12_read_16 0 rfl ?_
  refine z_iload d_X12_read_17 5 rfl ?_
  refine z_put 0 (MW G b I A (upd (upd (upd (upd J 24 x) 25 y) 26 cr) 27 ln) tw) p_X12_238_12 rfl rfl rfl (Nat.le_of_ble_eq_true rfl) (mw_27 G b I A (upd (upd (upd J 24 x) 25 y) 26 cr) tw _) d_X12_read_19 ?_
  refine z_aload_n d_X12_read_22 0 rfl ?_
  refine z_iload d_X12_read_23 6 rfl ?_
  refine z_put 0 (MW G b I A (upd (upd (upd (upd (upd J 24 x) 25 y) 26 cr) 27 ln) 28 ag) tw) p_X12_243_12 rfl rfl rfl (Nat.le_of_ble_eq_true rfl) (mw_28 G b I A (upd (upd (upd (upd J 24 x) 25 y) 26 cr) 27 ln) tw _) d_X12_read_25 ?_
  refine z_aload_n d_X12_read_28 0 rfl ?_
  refine z_iload d_X12_read_29 7 rfl ?_
  refine z_put 0 (MW G b I A (upd (upd (upd (upd (upd (upd J 24 x) 25 y) 26 cr) 27 ln) 28 ag) 29 sn) tw) p_X12_248_12 rfl rfl rfl (Nat.le_of_ble_eq_true rfl) (mw_29 G b I A (upd (upd (upd (upd (upd J 24 x) 25 y) 26 cr) 27 ln) 28 ag) tw _) d_X12_read_31 ?_
  refine z_aload_n d_X12_read_34 0 rfl ?_
  refine z_sipush (v := 160) d_X12_read_35 (by decide) ?_
  refine z_iload_n d_X12_read_38 1 rfl ?_
  refine z_imul d_X12_read_39 ?_
  refine z_put 0 (MW G b I A (upd (upd (upd (upd (upd (upd (upd J 24 x) 25 y) 26 cr) 27 ln) 28 ag) 29 sn) 15 (160 * (nI t))) tw) p_X12_168_12 rfl rfl rfl (Nat.le_of_ble_eq_true rfl) (mw_15 G b I A (upd (upd (upd (upd (upd (upd J 24 x) 25 y) 26 cr) 27 ln) 28 ag) 29 sn) tw _) d_X12_read_40 ?_
  refine z_aload_n d_X12_read_43 0 rfl ?_
  refine z_aload_n d_X12_read_44 0 rfl ?_
  refine z_get (v := .ref (b 2)) 0 f_X12_17_12 rfl rfl d_X12_read_45 ?_
  refine z_iload_n d_X12_read_48 1 rfl ?_
  refine z_ialdN 2 t rfl (nI_toInt (by omega)) (by omega) d_X12_read_49 ?_
  refine z_put 0 (MW G b I A (upd (upd (upd (upd (upd (upd (upd (upd J 24 x) 25 y) 26 cr) 27 ln) 28 ag) 29 sn) 15 (160 * (nI t))) 16 ((A 2) t)) tw) p_X12_165_12 rfl rfl rfl (Nat.le_of_ble_eq_true rfl) (mw_16 G b I A (upd (upd (upd (upd (upd (upd (upd J 24 x) 25 y) 26 cr) 27 ln) 28 ag) 29 sn) 15 (160 * (nI t))) tw _) d_X12_read_50 ?_
  refine z_aload_n d_X12_read_53 0 rfl ?_
  refine z_iconst (v := 0) d_X12_read_54 (by decide) ?_
  refine z_put 0 (MW G b I A (upd (upd (upd (upd (upd (upd (upd (upd (upd J 24 x) 25 y) 26 cr) 27 ln) 28 ag) 29 sn) 15 (160 * (nI t))) 16 ((A 2) t)) 20 0) tw) p_X12_171_12 rfl rfl rfl (Nat.le_of_ble_eq_true rfl) (mw_20 G b I A (upd (upd (upd (upd (upd (upd (upd (upd J 24 x) 25 y) 26 cr) 27 ln) 28 ag) 29 sn) 15 (160 * (nI t))) 16 ((A 2) t)) tw _) d_X12_read_55 ?_
  refine z_aload_n d_X12_read_58 0 rfl ?_
  refine z_iconst (v := 0) d_X12_read_59 (by decide) ?_
  refine z_put 0 (MW G b I A (upd (upd (upd (upd (upd (upd (upd (upd (upd (upd J 24 x) 25 y) 26 cr) 27 ln) 28 ag) 29 sn) 15 (160 * (nI t))) 16 ((A 2) t)) 20 0) 21 0) tw) p_X12_210_12 rfl rfl rfl (Nat.le_of_ble_eq_true rfl) (mw_21 G b I A (upd (upd (upd (upd (upd (upd (upd (upd (upd J 24 x) 25 y) 26 cr) 27 ln) 28 ag) 29 sn) 15 (160 * (nI t))) 16 ((A 2) t)) 20 0) tw _) d_X12_read_60 ?_
  refine z_aload_n d_X12_read_63 0 rfl ?_
  refine z_iconst (v := 0) d_X12_read_64 (by decide) ?_
  refine z_put 0 (MW G b I A (upd (upd (upd (upd (upd (upd (upd (upd (upd (upd (upd J 24 x) 25 y) 26 cr) 27 ln) 28 ag) 29 sn) 15 (160 * (nI t))) 16 ((A 2) t)) 20 0) 21 0) 22 0) tw) p_X12_203_12 rfl rfl rfl (Nat.le_of_ble_eq_true rfl) (mw_22 G b I A (upd (upd (upd (upd (upd (upd (upd (upd (upd (upd J 24 x) 25 y) 26 cr) 27 ln) 28 ag) 29 sn) 15 (160 * (nI t))) 16 ((A 2) t)) 20 0) 21 0) tw _) d_X12_read_65 ?_
  have e160 : (160 : Int32) * nI t = nI (160 * t) := by rw [show (160 : Int32) = nI 160 from rfl]; exact (eq_nI (by rw [mul_i (by rw [nI_i (by omega), nI_i (by omega)]; omega) (by rw [nI_i (by omega), nI_i (by omega)]; omega), nI_i (by omega), nI_i (by omega)]; omega))
  rw [e160, hsz]
  exact s_X12_read G b I A (J 0) t n ht hn hB x y cr ln ag sn wh (J 23) (J 17) (J 18) tw
