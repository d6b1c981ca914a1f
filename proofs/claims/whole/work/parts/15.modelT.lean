/-! THE REFERENCE: what a valid TEXT says; HOLD, next, take, and on -/
def vOf (nm : Nat → Int32) (c : List Int32) : Int32 := (exL nm c []).headD 0
theorem Vl.of {nm : Nat → Int32} {c : List Int32} {x : Int32} (h : Vl nm c x) : vOf nm c = x := by unfold vOf; rw [h []]; rfl
abbrev CD : Type := List Int32 × List Int32 × List Int32
def TxOk (A : Nat → Nat → Int32) (t : Nat) (cd : CD) : Prop := t < 6 ∧ ∃ n, n ≤ 160 ∧ A 2 t = nI n ∧ (∀ i, i < n → 0 ≤ (bM A t i).toInt) ∧ txP (bM A t) n = .inr cd
def Pj (G : GT) (b : Nat → Nat) (r : Int32) (I : Nat → Int32) (A : Nat → Nat → Int32) : Option Value → va_W → Prop := fun v w => v = some (.int r) ∧ ∃ (J : Nat → Int32) (tw : Int64), w = MW G b I A J tw
theorem Pj.of {G : GT} {b : Nat → Nat} {r x : Int32} {I : Nat → Int32} {A : Nat → Nat → Int32} {J : Nat → Int32} {tw : Int64} (h : x = r) : Pj G b r I A (some (.int x)) (MW G b I A J tw) := ⟨by rw [h], J, tw, rfl⟩
theorem Pj.ofw {G : GT} {b : Nat → Nat} {r x : Int32} {I I' : Nat → Int32} {A A' : Nat → Nat → Int32} {J : Nat → Int32} {tw : Int64} (h : x = r) (h1 : I' = I) (h2 : A' = A) : Pj G b r I A (some (.int x)) (MW G b I' A' J tw) := ⟨by rw [h], J, tw, by rw [h1, h2]⟩
theorem t_X12_readV (G : GT) (b : Nat → Nat) (I : Nat → Int32) (A : Nat → Nat → Int32) (J : Nat → Int32) (tw : Int64) (t : Nat) (cd : CD) (hT : TxOk A t cd) (h4 : I 4 = nI t) (x y cr ln ag sn wh : Int32) : Ct G mX12_read 41 0 0 [.ref (b 0), .int (I 4), .int x, .int y, .int cr, .int ln, .int ag, .int sn, .int wh] (MW G b I A J tw) (Pj G b (vOf (nmF x y cr ln ag sn) (slP wh cd.1 cd.2.1 cd.2.2)) I A) := by
  obtain ⟨ht, n, hn, hsz, hB, htx⟩ := hT
  rw [h4]
  refine (t_X12_read G b I A t n ht hn hB hsz x y cr ln ag sn wh J tw).mono ?_
  rintro v w ⟨r, rfl, h⟩
  obtain ⟨c0, c1, c2⟩ := cd
  rw [htx] at h
  obtain ⟨hV, tok, tat, here, opn, tw', rfl⟩ := h
  exact ⟨by rw [hV.of], _, _, rfl⟩
def hoS (cd : CD) (I : Nat → Int32) (A : Nat → Nat → Int32) (s : Nat) (set : Int32) : Int32 := knS I A s + wiS (vOf (nmF (irm (A 8 s / 100) 5) (A 8 s / 100 / 5) (crS A s set 16) (irm (A 8 s) 10) (I 13 - A 10 s) (pcI set)) cd.1) 0 99 * crS A s set (tiS A s)
theorem nI_tn {k : Nat} (h : k < 2147483648) : (nI k).toInt.toNat = k := by rw [nI_i h]; omega
def toK (cd : CD) (I : Nat → Int32) (A : Nat → Nat → Int32) (k : Nat) (what : Int32) : Int32 := if what.toInt = 0 then A 7 k else if what.toInt = 1 then A 8 k else if what.toInt = 2 then I 13 - A 10 k else if what.toInt = 3 then knS I A k else if what.toInt = 4 then b01 (slS I A k) else if what.toInt = 5 then tiS A k else if what.toInt = 6 then crS A k (I 12) 16 else if what.toInt = 7 then crS A k (I 12) (tiS A k) else if what.toInt = 8 then hoS cd I A k (I 12) else if what.toInt = 9 then b01 (decide (I 13 - A 10 k < I 14)) else -5
def toS (cd : CD) (I : Nat → Int32) (A : Nat → Nat → Int32) (s what : Int32) : Int32 := if isS I s = true then toK cd I A s.toInt.toNat what else -5
set_option maxHeartbeats 4000000 in
set_option maxRecDepth 100000 in
theorem t_X12_holdOf (G : GT) (b : Nat → Nat) (I : Nat → Int32) (A : Nat → Nat → Int32) (J : Nat → Int32) (tw : Int64) (t : Nat) (cd : CD) (hT : TxOk A t cd) (h4 : I 4 = nI t) (s : Nat) (set : Int32) (hs : s < 16) : Ct G mX12_holdOf 42 0 0 [.ref (b 0), .int (nI s), .int set] (MW G b I A J tw) (Pj G b (hoS cd I A s set) (I) (A)) := by
  refine Ct.intro [(0, .ref (b 0)), (1, .int (nI s)), (2, .int set)] (by decide) rfl (Nat.le_of_ble_eq_true rfl) ?_
  refine z_aload_n d_X12_holdOf_0 0 rfl ?_
  refine z_aload_n d_X12_holdOf_1 0 rfl ?_
  refine z_get (v := .int (I 4)) 0 f_X12_131_12 rfl rfl d_X12_holdOf_2 ?_
  refine z_aload_n d_X12_holdOf_5 0 rfl ?_
  refine z_get (v := .ref (b 8)) 0 f_X12_26_12 rfl rfl d_X12_holdOf_6 ?_
  refine z_iload_n d_X12_holdOf_9 1 rfl ?_
  refine z_ialdN 5 s rfl (nI_toInt (by omega)) (by omega) d_X12_holdOf_10 ?_
  refine z_bipush (v := 100) d_X12_holdOf_11 (by decide) ?_
  refine z_idiv d_X12_holdOf_13 (by decide) ?_
  refine z_iconst (v := 5) d_X12_holdOf_14 (by decide) ?_
  refine z_irm d_X12_holdOf_15 (by decide) ?_
  refine z_aload_n d_X12_holdOf_16 0 rfl ?_
  refine z_get (v := .ref (b 8)) 0 f_X12_26_12 rfl rfl d_X12_holdOf_17 ?_
  refine z_iload_n d_X12_holdOf_20 1 rfl ?_
  refine z_ialdN 5 s rfl (nI_toInt (by omega)) (by omega) d_X12_holdOf_21 ?_
  refine z_bipush (v := 100) d_X12_holdOf_22 (by decide) ?_
  refine z_idiv d_X12_holdOf_24 (by decide) ?_
  refine z_iconst (v := 5) d_X12_holdOf_25 (by decide) ?_
  refine z_idiv d_X12_holdOf_26 (by decide) ?_
  refine z_aload_n d_X12_holdOf_27 0 rfl ?_
  refine z_iload_n d_X12_holdOf_28 1 rfl ?_
  refine z_iload_n d_X12_holdOf_29 2 rfl ?_
  refine z_bipush (v := 16) d_X12_holdOf_30 (by decide) ?_
  refine z_callVp 0 c_X12_134 (t_X12_crosses G b I A J tw s set 16 (by omega)) rfl rfl rfl rfl (Nat.le_of_ble_eq_true rfl) rfl d_X12_holdOf_32 ?_
  refine z_aload_n d_X12_holdOf_35 0 rfl ?_
  refine z_get (v := .ref (b 8)) 0 f_X12_26_12 rfl rfl d_X12_holdOf_36 ?_
  refine z_iload_n d_X12_holdOf_39 1 rfl ?_
  refine z_ialdN 5 s rfl (nI_toInt (by omega)) (by omega) d_X12_holdOf_40 ?_
  refine z_bipush (v := 10) d_X12_holdOf_41 (by decide) ?_
  refine z_irm d_X12_holdOf_43 (by decide) ?_
  refine z_aload_n d_X12_holdOf_44 0 rfl ?_
  refine z_iload_n d_X12_holdOf_45 1 rfl ?_
  refine z_callVp 0 c_X12_124 (t_X12_ageOf G b I A J tw s (by omega)) rfl rfl rfl rfl (Nat.le_of_ble_eq_true rfl) rfl d_X12_holdOf_46 ?_
  refine z_iload_n d_X12_holdOf_49 2 rfl ?_
  refine z_callSp c_X12_119 (t_X12_bitsOf G set (MW G b I A J tw)) rfl rfl (Nat.le_of_ble_eq_true rfl) rfl d_X12_holdOf_50 ?_
  refine z_iconst (v := 0) d_X12_holdOf_53 (by decide) ?_
  refine z_callV 0 c_X12_138 rfl rfl (t_X12_readV G b I A J tw t cd hT h4 (irm (((A 8) s) / 100) 5) ((((A 8) s) / 100) / 5) (crS A s set 16) (irm ((A 8) s) 10) (I 13 - A 10 s) (pcI set) 0) rfl rfl (Nat.le_of_ble_eq_true rfl) rfl d_X12_holdOf_54 ?_
  rintro v54 w54 ⟨rfl, J54, tw54, rfl⟩
  refine z_istore_n [(3, .int (vOf (nmF (irm (((A 8) s) / 100) 5) ((((A 8) s) / 100) / 5) (crS A s set 16) (irm ((A 8) s) 10) (I 13 - A 10 s) (pcI set)) cd.1)), (0, .ref (b 0)), (1, .int (nI s)), (2, .int set)] d_X12_holdOf_57 (by decide) rfl ?_
  refine z_aload_n d_X12_holdOf_58 1 rfl ?_
  refine z_iload_n d_X12_holdOf_59 2 rfl ?_
  refine z_callVp 0 c_X12_142 (t_X12_knotOf G b I A J54 tw54 s (by omega)) rfl rfl rfl rfl (Nat.le_of_ble_eq_true rfl) rfl d_X12_holdOf_60 ?_
  refine z_iload_n d_X12_holdOf_63 0 rfl ?_
  refine z_iconst (v := 0) d_X12_holdOf_64 (by decide) ?_
  refine z_bipush (v := 99) d_X12_holdOf_65 (by decide) ?_
  refine z_callSp c_X12_145 (t_X12_within G (vOf (nmF (irm (((A 8) s) / 100) 5) ((((A 8) s) / 100) / 5) (crS A s set 16) (irm ((A 8) s) 10) (I 13 - A 10 s) (pcI set)) cd.1) 0 99 (MW G b I A J54 tw54)) rfl rfl (Nat.le_of_ble_eq_true rfl) rfl d_X12_holdOf_67 ?_
  refine z_aload_n d_X12_holdOf_70 1 rfl ?_
  refine z_iload_n d_X12_holdOf_71 2 rfl ?_
  refine z_iload_n d_X12_holdOf_72 3 rfl ?_
  refine z_aload_n d_X12_holdOf_73 1 rfl ?_
  refine z_iload_n d_X12_holdOf_74 2 rfl ?_
  refine z_callVp 0 c_X12_148 (t_X12_tiesOf G b I A J54 tw54 s (by omega)) rfl rfl rfl rfl (Nat.le_of_ble_eq_true rfl) rfl d_X12_holdOf_75 ?_
  refine z_callVp 0 c_X12_134 (t_X12_crosses G b I A J54 tw54 s set (tiS A s) (by omega)) rfl rfl rfl rfl (Nat.le_of_ble_eq_true rfl) rfl d_X12_holdOf_78 ?_
  refine z_imul d_X12_holdOf_81 ?_
  refine z_iadd d_X12_holdOf_82 ?_
  exact z_iret _ d_X12_holdOf_83 rfl (Pj.of rfl)
set_option maxHeartbeats 4000000 in
set_option maxRecDepth 100000 in
theorem t_X12_told (G : GT) (b : Nat → Nat) (I : Nat → Int32) (A : Nat → Nat → Int32) (J : Nat → Int32) (tw : Int64) (t : Nat) (cd : CD) (hT : TxOk A t cd) (h4 : I 4 = nI t) (s : Int32) (what : Int32)  : Ct G mX12_told 43 0 0 [.ref (b 0), .int s, .int what] (MW G b I A J tw) (Pj G b (toS cd I A s what) (I) (A)) := by
  refine Ct.intro [(0, .ref (b 0)), (1, .int s), (2, .int what)] (by decide) rfl (Nat.le_of_ble_eq_true rfl) ?_
  refine z_aload_n d_X12_told_0 0 rfl ?_
  refine z_iload_n d_X12_told_1 1 rfl ?_
  refine z_callVp 0 c_X12_116 (t_X12_isStrip G b I A J tw s) rfl rfl rfl rfl (Nat.le_of_ble_eq_true rfl) rfl d_X12_told_2 ?_
  refine z_if_ne d_X12_told_5 (fun c_5 => ?_) (fun c_5 => ?_)
  · obtain ⟨k, hk, rfl, hbit⟩ := isS_of (b01_n0.mp c_5)
    refine z_iload_n d_X12_told_11 2 rfl ?_
    by_cases s_12_0 : what.toInt = 0
    · refine z_swIn (tgt := 68) (off := 56) d_X12_told_12 s_12_0 (by decide) (by decide) (by decide) (by decide) ?_
      refine z_aload_n d_X12_told_68 0 rfl ?_
      refine z_get (v := .ref (b 7)) 0 f_X12_23_12 rfl rfl d_X12_told_69 ?_
      refine z_iload_n d_X12_told_72 1 rfl ?_
      refine z_ialdN 4 k rfl (nI_toInt (by omega)) (by omega) d_X12_told_73 ?_
      exact z_iret _ d_X12_told_74 rfl (Pj.of (by rw [toS, if_pos (b01_n0.mp c_5), nI_tn (by omega)]; (try simp only [b01_0, b01_n0] at c_99); simp [toK, b01, *]))
    by_cases s_12_1 : what.toInt = 1
    · refine z_swIn (tgt := 75) (off := 63) d_X12_told_12 s_12_1 (by decide) (by decide) (by decide) (by decide) ?_
      refine z_aload_n d_X12_told_75 0 rfl ?_
      refine z_get (v := .ref (b 8)) 0 f_X12_26_12 rfl rfl d_X12_told_76 ?_
      refine z_iload_n d_X12_told_79 1 rfl ?_
      refine z_ialdN 5 k rfl (nI_toInt (by omega)) (by omega) d_X12_told_80 ?_
      exact z_iret _ d_X12_told_81 rfl (Pj.of (by rw [toS, if_pos (b01_n0.mp c_5), nI_tn (by omega)]; (try simp only [b01_0, b01_n0] at c_99); simp [toK, b01, *]))
    by_cases s_12_2 : what.toInt = 2
    · refine z_swIn (tgt := 82) (off := 70) d_X12_told_12 s_12_2 (by decide) (by decide) (by decide) (by decide) ?_
      refine z_aload_n d_X12_told_82 0 rfl ?_
      refine z_iload_n d_X12_told_83 1 rfl ?_
      refine z_callVp 0 c_X12_124 (t_X12_ageOf G b I A J tw k (by omega)) rfl rfl rfl rfl (Nat.le_of_ble_eq_true rfl) rfl d_X12_told_84 ?_
      exact z_iret _ d_X12_told_87 rfl (Pj.of (by rw [toS, if_pos (b01_n0.mp c_5), nI_tn (by omega)]; (try simp only [b01_0, b01_n0] at c_99); simp [toK, b01, *]))
    by_cases s_12_3 : what.toInt = 3
    · refine z_swIn (tgt := 88) (off := 76) d_X12_told_12 s_12_3 (by decide) (by decide) (by decide) (by decide) ?_
      refine z_aload_n d_X12_told_88 0 rfl ?_
      refine z_iload_n d_X12_told_89 1 rfl ?_
      refine z_callVp 0 c_X12_142 (t_X12_knotOf G b I A J tw k (by omega)) rfl rfl rfl rfl (Nat.le_of_ble_eq_true rfl) rfl d_X12_told_90 ?_
      exact z_iret _ d_X12_told_93 rfl (Pj.of (by rw [toS, if_pos (b01_n0.mp c_5), nI_tn (by omega)]; (try simp only [b01_0, b01_n0] at c_99); simp [toK, b01, *]))
    by_cases s_12_4 : what.toInt = 4
    · refine z_swIn (tgt := 94) (off := 82) d_X12_told_12 s_12_4 (by decide) (by decide) (by decide) (by decide) ?_
      refine z_aload_n d_X12_told_94 0 rfl ?_
      refine z_iload_n d_X12_told_95 1 rfl ?_
      refine z_callVp 0 c_X12_151 (t_X12_slips G b I A J tw k (by omega)) rfl rfl rfl rfl (Nat.le_of_ble_eq_true rfl) rfl d_X12_told_96 ?_
      refine z_if_eq d_X12_told_99 (fun c_99 => ?_) (fun c_99 => ?_)
      · refine z_iconst (v := 0) d_X12_told_106 (by decide) ?_
        exact z_iret _ d_X12_told_107 rfl (Pj.of (by rw [toS, if_pos (b01_n0.mp c_5), nI_tn (by omega)]; (try simp only [b01_0, b01_n0] at c_99); simp [toK, b01, *]))
      · refine z_iconst (v := 1) d_X12_told_102 (by decide) ?_
        refine z_goto d_X12_told_103 ?_
        exact z_iret _ d_X12_told_107 rfl (Pj.of (by rw [toS, if_pos (b01_n0.mp c_5), nI_tn (by omega)]; (try simp only [b01_0, b01_n0] at c_99); simp [toK, b01, *]))
    by_cases s_12_5 : what.toInt = 5
    · refine z_swIn (tgt := 108) (off := 96) d_X12_told_12 s_12_5 (by decide) (by decide) (by decide) (by decide) ?_
      refine z_aload_n d_X12_told_108 0 rfl ?_
      refine z_iload_n d_X12_told_109 1 rfl ?_
      refine z_callVp 0 c_X12_148 (t_X12_tiesOf G b I A J tw k (by omega)) rfl rfl rfl rfl (Nat.le_of_ble_eq_true rfl) rfl d_X12_told_110 ?_
      exact z_iret _ d_X12_told_113 rfl (Pj.of (by rw [toS, if_pos (b01_n0.mp c_5), nI_tn (by omega)]; (try simp only [b01_0, b01_n0] at c_99); simp [toK, b01, *]))
    by_cases s_12_6 : what.toInt = 6
    · refine z_swIn (tgt := 114) (off := 102) d_X12_told_12 s_12_6 (by decide) (by decide) (by decide) (by decide) ?_
      refine z_aload_n d_X12_told_114 0 rfl ?_
      refine z_iload_n d_X12_told_115 1 rfl ?_
      refine z_aload_n d_X12_told_116 0 rfl ?_
      refine z_get (v := .int (I 12)) 0 f_X12_90_12 rfl rfl d_X12_told_117 ?_
      refine z_bipush (v := 16) d_X12_told_120 (by decide) ?_
      refine z_callVp 0 c_X12_134 (t_X12_crosses G b I A J tw k (I 12) 16 (by omega)) rfl rfl rfl rfl (Nat.le_of_ble_eq_true rfl) rfl d_X12_told_122 ?_
      exact z_iret _ d_X12_told_125 rfl (Pj.of (by rw [toS, if_pos (b01_n0.mp c_5), nI_tn (by omega)]; (try simp only [b01_0, b01_n0] at c_99); simp [toK, b01, *]))
    by_cases s_12_7 : what.toInt = 7
    · refine z_swIn (tgt := 126) (off := 114) d_X12_told_12 s_12_7 (by decide) (by decide) (by decide) (by decide) ?_
      refine z_aload_n d_X12_told_126 0 rfl ?_
      refine z_iload_n d_X12_told_127 1 rfl ?_
      refine z_aload_n d_X12_told_128 0 rfl ?_
      refine z_get (v := .int (I 12)) 0 f_X12_90_12 rfl rfl d_X12_told_129 ?_
      refine z_aload_n d_X12_told_132 0 rfl ?_
      refine z_iload_n d_X12_told_133 1 rfl ?_
      refine z_callVp 0 c_X12_148 (t_X12_tiesOf G b I A J tw k (by omega)) rfl rfl rfl rfl (Nat.le_of_ble_eq_true rfl) rfl d_X12_told_134 ?_
      refine z_callVp 0 c_X12_134 (t_X12_crosses G b I A J tw k (I 12) (tiS A k) (by omega)) rfl rfl rfl rfl (Nat.le_of_ble_eq_true rfl) rfl d_X12_told_137 ?_
      exact z_iret _ d_X12_told_140 rfl (Pj.of (by rw [toS, if_pos (b01_n0.mp c_5), nI_tn (by omega)]; (try simp only [b01_0, b01_n0] at c_99); simp [toK, b01, *]))
    by_cases s_12_8 : what.toInt = 8
    · refine z_swIn (tgt := 141) (off := 129) d_X12_told_12 s_12_8 (by decide) (by decide) (by decide) (by decide) ?_
      refine z_aload_n d_X12_told_141 0 rfl ?_
      refine z_iload_n d_X12_told_142 1 rfl ?_
      refine z_aload_n d_X12_told_143 0 rfl ?_
      refine z_get (v := .int (I 12)) 0 f_X12_90_12 rfl rfl d_X12_told_144 ?_
      refine z_callV 0 c_X12_154 rfl rfl (t_X12_holdOf G b I A J tw t cd hT h4 k (I 12) (by omega)) rfl rfl (Nat.le_of_ble_eq_true rfl) rfl d_X12_told_147 ?_
      rintro v147 w147 ⟨rfl, J147, tw147, rfl⟩
      exact z_iret _ d_X12_told_150 rfl (Pj.of (by rw [toS, if_pos (b01_n0.mp c_5), nI_tn (by omega)]; (try simp only [b01_0, b01_n0] at c_99); simp [toK, b01, *]))
    by_cases s_12_9 : what.toInt = 9
    · refine z_swIn (tgt := 151) (off := 139) d_X12_told_12 s_12_9 (by decide) (by decide) (by decide) (by decide) ?_
      refine z_aload_n d_X12_told_151 0 rfl ?_
      refine z_iload_n d_X12_told_152 1 rfl ?_
      refine z_callVp 0 c_X12_124 (t_X12_ageOf G b I A J tw k (by omega)) rfl rfl rfl rfl (Nat.le_of_ble_eq_true rfl) rfl d_X12_told_153 ?_
      refine z_aload_n d_X12_told_156 0 rfl ?_
      refine z_get (v := .int (I 14)) 0 f_X12_38_12 rfl rfl d_X12_told_157 ?_
      refine z_icmp_ge d_X12_told_160 (fun c_160 => ?_) (fun c_160 => ?_)
      · refine z_iconst (v := 0) d_X12_told_167 (by decide) ?_
        exact z_iret _ d_X12_told_168 rfl (Pj.of (by rw [toS, if_pos (b01_n0.mp c_5), nI_tn (by omega)]; (try simp only [b01_0, b01_n0] at c_99); simp [toK, b01, *]))
      · refine z_iconst (v := 1) d_X12_told_163 (by decide) ?_
        refine z_goto d_X12_told_164 ?_
        exact z_iret _ d_X12_told_168 rfl (Pj.of (by rw [toS, if_pos (b01_n0.mp c_5), nI_tn (by omega)]; (try simp only [b01_0, b01_n0] at c_99); simp [toK, b01, *]))
    refine z_swOut (tgt := 169) d_X12_told_12 (by omega) (by decide) ?_
    refine z_bipush (v := -5) d_X12_told_169 (by decide) ?_
    exact z_iret _ d_X12_told_171 rfl (Pj.of (by rw [toS, if_pos (b01_n0.mp c_5), nI_tn (by omega)]; (try simp only [b01_0, b01_n0] at c_99); simp [toK, b01, *]))
  · refine z_bipush (v := -5) d_X12_told_8 (by decide) ?_
    exact z_iret _ d_X12_told_10 rfl (Pj.of (by simp only [toS, b01_0.mp c_5]; rfl))
def gcF (A : Nat → Nat → Int32) (I : Nat → Int32) (w : Int32) (k : Nat) (a : Int32) : Int32 := a + (if cvS w >>> (nI k &&& 31) &&& 1 = 1 then pcI (atS A (nI k) (I 12)) else 0)
def gcS (A : Nat → Nat → Int32) (I : Nat → Int32) (w : Int32) : Int32 := itL (gcF A I w) 0 25
def goS (cd : CD) (I : Nat → Int32) (A : Nat → Nat → Int32) (w : Int32) : Int32 := vOf (nmF (irm (w / 100) 5) (w / 100 / 5) (gcS A I w) (irm w 10) 0 (pcI (I 12))) cd.2.1
set_option maxHeartbeats 4000000 in
set_option maxRecDepth 100000 in
theorem l_X12_goodOf (G : GT) (b : Nat → Nat) (I : Nat → Int32) (A : Nat → Nat → Int32) (J : Nat → Int32) (tw : Int64) (t : Nat) (cd : CD) (hT : TxOk A t cd) (h4 : I 4 = nI t) (w : Int32) : ∀ (n : Nat)  (k : Nat) (a : Int32) (hk : k ≤ 25) (hm : 25 < k + n) (ha : a = itL (gcF A I w) 0 k), Tr G mX12_goodOf (Rm 42 0 0) (OM G (Pj G b (goS cd I A w) I A) 0 0) 0 0 10 [(4, .int (nI k)), (3, .int a), (2, .int (cvS w)), (1, .int w), (0, .ref (b 0))] [] (MW G b I A J tw) := by
  intro n
  induction n with
  | zero =>
    intro k a hk hm ha
    exact absurd hm (by omega)
  | succ n ih =>
    intro k a hk hm ha
    refine z_iload d_X12_goodOf_10 0 rfl ?_
    refine z_bipush (v := 25) d_X12_goodOf_12 (by decide) ?_
    refine z_icmp_ge d_X12_goodOf_14 (fun c_14 => ?_) (fun c_14 => ?_)
    · refine z_aload_n d_X12_goodOf_53 4 rfl ?_
      refine z_aload_n d_X12_goodOf_54 4 rfl ?_
      refine z_get (v := .int (I 4)) 0 f_X12_131_12 rfl rfl d_X12_goodOf_55 ?_
      refine z_iload_n d_X12_goodOf_58 3 rfl ?_
      refine z_bipush (v := 100) d_X12_goodOf_59 (by decide) ?_
      refine z_idiv d_X12_goodOf_61 (by decide) ?_
      refine z_iconst (v := 5) d_X12_goodOf_62 (by decide) ?_
      refine z_irm d_X12_goodOf_63 (by decide) ?_
      refine z_iload_n d_X12_goodOf_64 3 rfl ?_
      refine z_bipush (v := 100) d_X12_goodOf_65 (by decide) ?_
      refine z_idiv d_X12_goodOf_67 (by decide) ?_
      refine z_iconst (v := 5) d_X12_goodOf_68 (by decide) ?_
      refine z_idiv d_X12_goodOf_69 (by decide) ?_
      refine z_iload_n d_X12_goodOf_70 1 rfl ?_
      refine z_iload_n d_X12_goodOf_71 3 rfl ?_
      refine z_bipush (v := 10) d_X12_goodOf_72 (by decide) ?_
      refine z_irm d_X12_goodOf_74 (by decide) ?_
      refine z_iconst (v := 0) d_X12_goodOf_75 (by decide) ?_
      refine z_aload_n d_X12_goodOf_76 4 rfl ?_
      refine z_get (v := .int (I 12)) 0 f_X12_90_12 rfl rfl d_X12_goodOf_77 ?_
      refine z_callSp c_X12_119 (t_X12_bitsOf G (I 12) (MW G b I A J tw)) rfl rfl (Nat.le_of_ble_eq_true rfl) rfl d_X12_goodOf_80 ?_
      refine z_iconst (v := 1) d_X12_goodOf_83 (by decide) ?_
      refine z_callV 0 c_X12_138 rfl rfl (t_X12_readV G b I A J tw t cd hT h4 (irm (w / 100) 5) ((w / 100) / 5) a (irm w 10) 0 (pcI (I 12)) 1) rfl rfl (Nat.le_of_ble_eq_true rfl) rfl d_X12_goodOf_84 ?_
      rintro v84 w84 ⟨rfl, J84, tw84, rfl⟩
      exact z_iret _ d_X12_goodOf_87 rfl (Pj.of (by have h9 := ge_nI (N := 25) (by omega) (by decide) c_14; rw [ha, goS, gcS, show k = 25 by omega]; rfl))
    · have h9 := lt_nI (N := 25) (by omega) (by decide) c_14
      refine z_iload_n d_X12_goodOf_17 1 rfl ?_
      refine z_iload_n d_X12_goodOf_18 2 rfl ?_
      refine z_iload d_X12_goodOf_19 0 rfl ?_
      refine z_ishr d_X12_goodOf_21 ?_
      refine z_iconst (v := 1) d_X12_goodOf_22 (by decide) ?_
      refine z_iand d_X12_goodOf_23 ?_
      refine z_iconst (v := 1) d_X12_goodOf_24 (by decide) ?_
      refine z_icmp_ne d_X12_goodOf_25 (fun c_25 => ?_) (fun c_25 => ?_)
      · refine z_iconst (v := 0) d_X12_goodOf_44 (by decide) ?_
        refine z_iadd d_X12_goodOf_45 ?_
        refine z_istore_n [(3, .int (a + 0)), (4, .int (nI k)), (2, .int (cvS w)), (1, .int w), (0, .ref (b 0))] d_X12_goodOf_46 (by decide) rfl ?_
        refine z_iinc (nI (k + 1)) [(4, .int (nI (k + 1))), (3, .int (a + 0)), (2, .int (cvS w)), (1, .int w), (0, .ref (b 0))] 1 d_X12_goodOf_47 rfl (nI_1 _) (by decide) rfl ?_
        refine z_goto d_X12_goodOf_50 ?_
        exact ih (k + 1) _ (by omega) (by omega) (by rw [ha, itL, gcF]; simp only [c_25, ↓reduceIte])
      · refine z_aload_n d_X12_goodOf_28 4 rfl ?_
        refine z_iload d_X12_goodOf_29 0 rfl ?_
        refine z_aload_n d_X12_goodOf_31 4 rfl ?_
        refine z_get (v := .int (I 12)) 0 f_X12_90_12 rfl rfl d_X12_goodOf_32 ?_
        refine z_callVp 0 c_X12_127 (t_X12_at1 G b I A J tw (nI k) (I 12)) rfl rfl rfl rfl (Nat.le_of_ble_eq_true rfl) rfl d_X12_goodOf_35 ?_
        refine z_callSp c_X12_119 (t_X12_bitsOf G (atS A (nI k) (I 12)) (MW G b I A J tw)) rfl rfl (Nat.le_of_ble_eq_true rfl) rfl d_X12_goodOf_38 ?_
        refine z_goto d_X12_goodOf_41 ?_
        refine z_iadd d_X12_goodOf_45 ?_
        refine z_istore_n [(3, .int (a + (pcI (atS A (nI k) (I 12))))), (4, .int (nI k)), (2, .int (cvS w)), (1, .int w), (0, .ref (b 0))] d_X12_goodOf_46 (by decide) rfl ?_
        refine z_iinc (nI (k + 1)) [(4, .int (nI (k + 1))), (3, .int (a + (pcI (atS A (nI k) (I 12))))), (2, .int (cvS w)), (1, .int w), (0, .ref (b 0))] 1 d_X12_goodOf_47 rfl (nI_1 _) (by decide) rfl ?_
        refine z_goto d_X12_goodOf_50 ?_
        exact ih (k + 1) _ (by omega) (by omega) (by rw [ha, itL, gcF]; simp only [c_25, ↓reduceIte])
set_option maxHeartbeats 4000000 in
set_option maxRecDepth 100000 in
theorem t_X12_goodOf (G : GT) (b : Nat → Nat) (I : Nat → Int32) (A : Nat → Nat → Int32) (J : Nat → Int32) (tw : Int64) (t : Nat) (cd : CD) (hT : TxOk A t cd) (h4 : I 4 = nI t) (w : Int32)  : Ct G mX12_goodOf 42 0 0 [.ref (b 0), .int w] (MW G b I A J tw) (Pj G b (goS cd I A w) (I) (A)) := by
  refine Ct.intro [(0, .ref (b 0)), (1, .int w)] (by decide) rfl (Nat.le_of_ble_eq_true rfl) ?_
  refine z_iload_n d_X12_goodOf_0 1 rfl ?_
  refine z_callSp c_X12_98 (t_X12_coversOf G w (MW G b I A J tw)) rfl rfl (Nat.le_of_ble_eq_true rfl) rfl d_X12_goodOf_1 ?_
  refine z_istore_n [(2, .int (cvS w)), (0, .ref (b 0)), (1, .int w)] d_X12_goodOf_4 (by decide) rfl ?_
  refine z_iconst (v := 0) d_X12_goodOf_5 (by decide) ?_
  refine z_istore_n [(3, .int 0), (2, .int (cvS w)), (0, .ref (b 0)), (1, .int w)] d_X12_goodOf_6 (by decide) rfl ?_
  refine z_iconst (v := 0) d_X12_goodOf_7 (by decide) ?_
  refine z_istore [(4, .int 0), (3, .int 0), (2, .int (cvS w)), (0, .ref (b 0)), (1, .int w)] d_X12_goodOf_8 (by decide) rfl ?_
  refine z_perm [0, 1, 2, 4, 3] rfl ?_
  exact l_X12_goodOf G b I A J tw t cd hT h4 w 26 0 0 (by omega) (by omega) rfl
def Pjl (G : GT) (b : Nat → Nat) (r : Int64) (I : Nat → Int32) (A : Nat → Nat → Int32) : Option Value → va_W → Prop := fun v w => v = some (.long r) ∧ ∃ (J : Nat → Int32) (tw : Int64), w = MW G b I A J tw
def godR (cd : CD) (I : Nat → Int32) (A : Nat → Nat → Int32) (w : Int32) : Int64 := if okW w = true then (goS cd I A w).toInt64 else -4611686018427387904
set_option maxHeartbeats 4000000 in
set_option maxRecDepth 100000 in
theorem t_X12_good (G : GT) (b : Nat → Nat) (I : Nat → Int32) (A : Nat → Nat → Int32) (J : Nat → Int32) (tw : Int64) (t : Nat) (cd : CD) (hT : TxOk A t cd) (h4 : I 4 = nI t) (w : Int32)  : Ct G mX12_good 43 0 0 [.ref (b 0), .int w] (MW G b I A J tw) (Pjl G b (godR cd I A w) I A) := by
  refine Ct.intro [(0, .ref (b 0)), (1, .int w)] (by decide) rfl (Nat.le_of_ble_eq_true rfl) ?_
  refine z_iload_n d_X12_good_0 1 rfl ?_
  refine z_callSp c_X12_102 (t_X12_isWhere G w (MW G b I A J tw)) rfl rfl (Nat.le_of_ble_eq_true rfl) rfl d_X12_good_1 ?_
  refine z_if_eq d_X12_good_4 (fun c_4 => ?_) (fun c_4 => ?_)
  · refine z_ldc2 d_X12_good_16 w_1338 ?_
    exact z_lret _ d_X12_good_19 rfl ⟨by simp only [b01_0, b01_n0] at *; simp [godR, *], _, _, rfl⟩
  · refine z_aload_n d_X12_good_7 0 rfl ?_
    refine z_iload_n d_X12_good_8 1 rfl ?_
    refine z_callV 0 c_X12_307 rfl rfl (t_X12_goodOf G b I A J tw t cd hT h4 w) rfl rfl (Nat.le_of_ble_eq_true rfl) rfl d_X12_good_9 ?_
    rintro v9 w9 ⟨rfl, J9, tw9, rfl⟩
    refine z_i2l d_X12_good_12 ?_
    refine z_goto d_X12_good_13 ?_
    exact z_lret _ d_X12_good_19 rfl ⟨by simp only [b01_0, b01_n0] at *; simp [godR, *], _, _, rfl⟩
def whS (k : Nat) (many : Int32) : Int32 := 100 * (nI k / 2) + 10 * irm (nI k) 2 + many
set_option maxHeartbeats 4000000 in
set_option maxRecDepth 100000 in
theorem t_X12_where (G : GT) (k : Nat) (many : Int32) (ws : va_W)  : Ct G mX12_where 0 0 0 [.int (nI k), .int many] ws (Pi (whS k many) ws) := by
  refine Ct.intro [(0, .int (nI k)), (1, .int many)] (by decide) rfl (Nat.le_of_ble_eq_true rfl) ?_
  refine z_bipush (v := 100) d_X12_where_0 (by decide) ?_
  refine z_iload_n d_X12_where_2 0 rfl ?_
  refine z_iconst (v := 2) d_X12_where_3 (by decide) ?_
  refine z_idiv d_X12_where_4 (by decide) ?_
  refine z_imul d_X12_where_5 ?_
  refine z_bipush (v := 10) d_X12_where_6 (by decide) ?_
  refine z_iload_n d_X12_where_8 0 rfl ?_
  refine z_iconst (v := 2) d_X12_where_9 (by decide) ?_
  refine z_irm d_X12_where_10 (by decide) ?_
  refine z_imul d_X12_where_11 ?_
  refine z_iadd d_X12_where_12 ?_
  refine z_iload_n d_X12_where_13 1 rfl ?_
  refine z_iadd d_X12_where_14 ?_
  exact z_iret _ d_X12_where_15 rfl (Pi.of rfl)
/-- the best so far of what is offered at places 0 .. k - 1: where, how good -/
def bsF (ok : Nat → Bool) (wh v : Nat → Int32) (k : Nat) (a : Int32 × Int32) : Int32 × Int32 := if ok k = true then (if a.1 = -1 then (wh k, v k) else if a.2 < v k then (wh k, v k) else a) else a
def nxS (cd : CD) (I : Nat → Int32) (A : Nat → Nat → Int32) (many : Int32) : Int32 × Int32 := itL (bsF (fun k => okW (whS k many)) (fun k => whS k many) (fun k => goS cd I A (whS k many))) (-1, 0) 50
set_option maxHeartbeats 4000000 in
set_option maxRecDepth 100000 in
theorem l_X12_nextOf (G : GT) (b : Nat → Nat) (I : Nat → Int32) (A : Nat → Nat → Int32) (t : Nat) (cd : CD) (hT : TxOk A t cd) (h4 : I 4 = nI t) (many : Int32) : ∀ (n : Nat)  (k : Nat) (J : Nat → Int32) (tw : Int64) (a1 a2 : Int32) (hk : k ≤ 50) (hm : 50 < k + n) (ha : (a1, a2) = itL (bsF (fun k => okW (whS k many)) (fun k => whS k many) (fun k => goS cd I A (whS k many))) (-1, 0) k), Tr G mX12_nextOf (Rm 43 0 0) (OM G (Pj G b (nxS cd I A many).1 I A) 0 0) 0 0 7 [(4, .int (nI k)), (3, .int a2), (2, .int a1), (1, .int many), (0, .ref (b 0))] [] (MW G b I A J tw) := by
  intro n
  induction n with
  | zero =>
    intro k J tw a1 a2 hk hm ha
    exact absurd hm (by omega)
  | succ n ih =>
    intro k J tw a1 a2 hk hm ha
    refine z_iload d_X12_nextOf_7 0 rfl ?_
    refine z_bipush (v := 50) d_X12_nextOf_9 (by decide) ?_
    refine z_icmp_ge d_X12_nextOf_11 (fun c_11 => ?_) (fun c_11 => ?_)
    · refine z_iload_n d_X12_nextOf_76 2 rfl ?_
      exact z_iret _ d_X12_nextOf_77 rfl (Pj.of (by have h9 := ge_nI (N := 50) (by omega) (by decide) c_11; rw [nxS, ← show k = 50 by omega, ← ha]))
    · have h9 := lt_nI (N := 50) (by omega) (by decide) c_11
      refine z_iload d_X12_nextOf_14 0 rfl ?_
      refine z_iload_n d_X12_nextOf_16 3 rfl ?_
      refine z_callSp c_X12_312 (t_X12_where G k many (MW G b I A J tw)) rfl rfl (Nat.le_of_ble_eq_true rfl) rfl d_X12_nextOf_17 ?_
      refine z_istore [(5, .int (whS k many)), (4, .int (nI k)), (3, .int a2), (2, .int a1), (1, .int many), (0, .ref (b 0))] d_X12_nextOf_20 (by decide) rfl ?_
      refine z_iload d_X12_nextOf_22 0 rfl ?_
      refine z_callSp c_X12_102 (t_X12_isWhere G (whS k many) (MW G b I A J tw)) rfl rfl (Nat.le_of_ble_eq_true rfl) rfl d_X12_nextOf_24 ?_
      refine z_if_eq d_X12_nextOf_27 (fun c_27 => ?_) (fun c_27 => ?_)
      · refine z_iconst (v := 0) d_X12_nextOf_39 (by decide) ?_
        refine z_istore [(6, .int 0), (5, .int (whS k many)), (4, .int (nI k)), (3, .int a2), (2, .int a1), (1, .int many), (0, .ref (b 0))] d_X12_nextOf_40 (by decide) rfl ?_
        refine z_iload d_X12_nextOf_42 1 rfl ?_
        refine z_callSp c_X12_102 (t_X12_isWhere G (whS k many) (MW G b I A J tw)) rfl rfl (Nat.le_of_ble_eq_true rfl) rfl d_X12_nextOf_44 ?_
        refine z_if_eq d_X12_nextOf_47 (fun c_47 => ?_) (fun c_47 => ?_)
        rotate_left
        · exact absurd (b01_0.mp c_27) (by rw [b01_n0.mp c_47]; decide)
        refine z_iinc (nI (k + 1)) [(4, .int (nI (k + 1))), (6, .int 0), (5, .int (whS k many)), (3, .int a2), (2, .int a1), (1, .int many), (0, .ref (b 0))] 2 d_X12_nextOf_70 rfl (nI_1 _) (by decide) rfl ?_
        refine z_goto d_X12_nextOf_73 ?_
        refine z_perm [0, 3, 4, 5, 6] rfl ?_
        exact ih (k + 1) _ _ a1 a2 (by omega) (by omega) (by rw [itL, bsF, ← ha]; simp only [b01_0, b01_n0] at *; simp [*])
      · refine z_aload_n d_X12_nextOf_30 5 rfl ?_
        refine z_iload d_X12_nextOf_31 0 rfl ?_
        refine z_callV 0 c_X12_307 rfl rfl (t_X12_goodOf G b I A J tw t cd hT h4 (whS k many)) rfl rfl (Nat.le_of_ble_eq_true rfl) rfl d_X12_nextOf_33 ?_
        rintro v33 w33 ⟨rfl, J33, tw33, rfl⟩
        refine z_goto d_X12_nextOf_36 ?_
        refine z_istore [(6, .int (goS cd I A (whS k many))), (5, .int (whS k many)), (4, .int (nI k)), (3, .int a2), (2, .int a1), (1, .int many), (0, .ref (b 0))] d_X12_nextOf_40 (by decide) rfl ?_
        refine z_iload d_X12_nextOf_42 1 rfl ?_
        refine z_callSp c_X12_102 (t_X12_isWhere G (whS k many) (MW G b I A J33 tw33)) rfl rfl (Nat.le_of_ble_eq_true rfl) rfl d_X12_nextOf_44 ?_
        refine z_if_eq d_X12_nextOf_47 (fun c_47 => ?_) (fun c_47 => ?_)
        · exact absurd c_47 (by rw [b01, if_pos (b01_n0.mp c_27)]; decide)
        refine z_iload_n d_X12_nextOf_50 4 rfl ?_
        refine z_iconst (v := -1) d_X12_nextOf_51 (by decide) ?_
        refine z_icmp_eq d_X12_nextOf_52 (fun c_52 => ?_) (fun c_52 => ?_)
        · refine z_iload d_X12_nextOf_64 1 rfl ?_
          refine z_istore_n [(2, .int (whS k many)), (6, .int (goS cd I A (whS k many))), (5, .int (whS k many)), (4, .int (nI k)), (3, .int a2), (1, .int many), (0, .ref (b 0))] d_X12_nextOf_66 (by decide) rfl ?_
          refine z_iload d_X12_nextOf_67 1 rfl ?_
          refine z_istore_n [(3, .int (goS cd I A (whS k many))), (2, .int (whS k many)), (6, .int (goS cd I A (whS k many))), (5, .int (whS k many)), (4, .int (nI k)), (1, .int many), (0, .ref (b 0))] d_X12_nextOf_69 (by decide) rfl ?_
          refine z_iinc (nI (k + 1)) [(4, .int (nI (k + 1))), (3, .int (goS cd I A (whS k many))), (2, .int (whS k many)), (6, .int (goS cd I A (whS k many))), (5, .int (whS k many)), (1, .int many), (0, .ref (b 0))] 4 d_X12_nextOf_70 rfl (nI_1 _) (by decide) rfl ?_
          refine z_goto d_X12_nextOf_73 ?_
          refine z_perm [0, 1, 2, 5, 6] rfl ?_
          exact ih (k + 1) _ _ (whS k many) (goS cd I A (whS k many)) (by omega) (by omega) (by rw [itL, bsF, ← ha]; simp only [b01_0, b01_n0] at *; simp [*])
        · refine z_iload d_X12_nextOf_55 0 rfl ?_
          refine z_iload_n d_X12_nextOf_57 3 rfl ?_
          refine z_icmp_gt d_X12_nextOf_58 (fun c_58 => ?_) (fun c_58 => ?_)
          · refine z_iload d_X12_nextOf_64 1 rfl ?_
            refine z_istore_n [(2, .int (whS k many)), (6, .int (goS cd I A (whS k many))), (5, .int (whS k many)), (4, .int (nI k)), (3, .int a2), (1, .int many), (0, .ref (b 0))] d_X12_nextOf_66 (by decide) rfl ?_
            refine z_iload d_X12_nextOf_67 1 rfl ?_
            refine z_istore_n [(3, .int (goS cd I A (whS k many))), (2, .int (whS k many)), (6, .int (goS cd I A (whS k many))), (5, .int (whS k many)), (4, .int (nI k)), (1, .int many), (0, .ref (b 0))] d_X12_nextOf_69 (by decide) rfl ?_
            refine z_iinc (nI (k + 1)) [(4, .int (nI (k + 1))), (3, .int (goS cd I A (whS k many))), (2, .int (whS k many)), (6, .int (goS cd I A (whS k many))), (5, .int (whS k many)), (1, .int many), (0, .ref (b 0))] 4 d_X12_nextOf_70 rfl (nI_1 _) (by decide) rfl ?_
            refine z_goto d_X12_nextOf_73 ?_
            refine z_perm [0, 1, 2, 5, 6] rfl ?_
            exact ih (k + 1) _ _ (whS k many) (goS cd I A (whS k many)) (by omega) (by omega) (by rw [itL, bsF, ← ha]; simp only [b01_0, b01_n0] at *; simp [*])
          · refine z_goto d_X12_nextOf_61 ?_
            refine z_iinc (nI (k + 1)) [(4, .int (nI (k + 1))), (6, .int (goS cd I A (whS k many))), (5, .int (whS k many)), (3, .int a2), (2, .int a1), (1, .int many), (0, .ref (b 0))] 2 d_X12_nextOf_70 rfl (nI_1 _) (by decide) rfl ?_
            refine z_goto d_X12_nextOf_73 ?_
            refine z_perm [0, 3, 4, 5, 6] rfl ?_
            exact ih (k + 1) _ _ a1 a2 (by omega) (by omega) (by rw [itL, bsF, ← ha]; simp only [b01_0, b01_n0] at *; simp [*])
set_option maxHeartbeats 4000000 in
set_option maxRecDepth 100000 in
theorem t_X12_nextOf (G : GT) (b : Nat → Nat) (I : Nat → Int32) (A : Nat → Nat → Int32) (J : Nat → Int32) (tw : Int64) (t : Nat) (cd : CD) (hT : TxOk A t cd) (h4 : I 4 = nI t) (many : Int32)  : Ct G mX12_nextOf 43 0 0 [.ref (b 0), .int many] (MW G b I A J tw) (Pj G b ((nxS cd I A many).1) (I) (A)) := by
  refine Ct.intro [(0, .ref (b 0)), (1, .int many)] (by decide) rfl (Nat.le_of_ble_eq_true rfl) ?_
  refine z_iconst (v := -1) d_X12_nextOf_0 (by decide) ?_
  refine z_istore_n [(2, .int (-1)), (0, .ref (b 0)), (1, .int many)] d_X12_nextOf_1 (by decide) rfl ?_
  refine z_iconst (v := 0) d_X12_nextOf_2 (by decide) ?_
  refine z_istore_n [(3, .int 0), (2, .int (-1)), (0, .ref (b 0)), (1, .int many)] d_X12_nextOf_3 (by decide) rfl ?_
  refine z_iconst (v := 0) d_X12_nextOf_4 (by decide) ?_
  refine z_istore [(4, .int 0), (3, .int 0), (2, .int (-1)), (0, .ref (b 0)), (1, .int many)] d_X12_nextOf_5 (by decide) rfl ?_
  refine z_perm [0, 1, 2, 4, 3] rfl ?_
  exact l_X12_nextOf G b I A t cd hT h4 many 51 0 J tw (-1) 0 (by omega) (by omega) rfl
def nexR (cd : CD) (I : Nat → Int32) (A : Nat → Nat → Int32) (many : Int32) : Int32 := if inB many 1 5 = true then (nxS cd I A many).1 else -2
set_option maxHeartbeats 4000000 in
set_option maxRecDepth 100000 in
theorem t_X12_next (G : GT) (b : Nat → Nat) (I : Nat → Int32) (A : Nat → Nat → Int32) (J : Nat → Int32) (tw : Int64) (t : Nat) (cd : CD) (hT : TxOk A t cd) (h4 : I 4 = nI t) (many : Int32)  : Ct G mX12_next 44 0 0 [.ref (b 0), .int many] (MW G b I A J tw) (Pj G b (nexR cd I A many) (I) (A)) := by
  refine Ct.intro [(0, .ref (b 0)), (1, .int many)] (by decide) rfl (Nat.le_of_ble_eq_true rfl) ?_
  refine z_iload_n d_X12_next_0 1 rfl ?_
  refine z_i2l d_X12_next_1 ?_
  refine z_lconst (v := 1) d_X12_next_2 (by decide) ?_
  refine z_ldc2 d_X12_next_3 w_1127 ?_
  refine z_callSp c_X12_82 (t_X12_in G many.toInt64 1 5 (MW G b I A J tw)) rfl rfl (Nat.le_of_ble_eq_true rfl) rfl d_X12_next_6 ?_
  refine z_if_eq d_X12_next_9 (fun c_9 => ?_) (fun c_9 => ?_)
  · refine z_bipush (v := -2) d_X12_next_20 (by decide) ?_
    exact z_iret _ d_X12_next_22 rfl (Pj.of (by simp only [in_b, b01_0, b01_n0, L_0, L_1, L_5, L_9, L_99, L_24, L_15] at *; simp [inB, nexR, *]))
  · refine z_aload_n d_X12_next_12 0 rfl ?_
    refine z_iload_n d_X12_next_13 1 rfl ?_
    refine z_callV 0 c_X12_315 rfl rfl (t_X12_nextOf G b I A J tw t cd hT h4 many) rfl rfl (Nat.le_of_ble_eq_true rfl) rfl d_X12_next_14 ?_
    rintro v14 w14 ⟨rfl, J14, tw14, rfl⟩
    refine z_goto d_X12_next_17 ?_
    exact z_iret _ d_X12_next_22 rfl (Pj.of (by simp only [in_b, b01_0, b01_n0, L_0, L_1, L_5, L_9, L_99, L_24, L_15] at *; simp [inB, nexR, *]))
