/-! THE REFERENCE'S GRAMMAR -/
theorem rm_le {d d' : Nat} (h : d + 1 ≤ d') : rmok d 0 0 0 0 (Rm d' 0 0) = true := by
  simp only [rmok, Rm, Bool.and_eq_true]
  exact ⟨Nat.ble_eq_true_of_le h, Nat.ble_eq_true_of_le (by omega), rfl, rfl⟩
theorem tokM_2 {B : Nat → Int32} {n p : Nat} : tokM B n p = 2 ↔ tkL B n p = 2 := by
  by_cases h0 : kdL B n p = 0
  · rw [tk_k0 h0]; unfold tokM; rw [if_pos h0]
  · by_cases h1 : kdL B n p = 1
    · have := wd_small (wlS B (stL B n p) (nxL B n p))
      rw [tk_k1 h1]; unfold tokM; rw [if_neg h0, if_pos h1]
      constructor
      · intro h; exact absurd h (by decide)
      · intro h; rw [h] at this; exact absurd this (by decide)
    · by_cases h2 : kdL B n p = 2
      · rw [tk_k2 h2]; unfold tokM; rw [if_neg h0, if_neg h1, if_pos h2]
        split <;> constructor <;> intro h <;> first | rfl | exact absurd h (by decide)
      · by_cases h3 : kdL B n p = 3
        · have := sg_23 (kd_3 h3)
          rw [tk_k3 h3]; unfold tokM; rw [if_neg h0, if_neg h1, if_neg h2, if_pos h3]
          constructor
          · intro h; exact absurd h (by decide)
          · intro h; exact absurd (Or.inl h) this
        · rw [tk_k4 h0 h1 h2 h3]; unfold tokM; rw [if_neg h0, if_neg h1, if_neg h2, if_neg h3]
          constructor <;> (intro h; exact absurd h (by decide))
theorem nv_lN {B : Nat → Int32} {s : Nat} : ∀ {k : Nat}, k ≤ 4 → (∀ i, i < k → isDg (B (s + i)) = true) → nvM B s k = lN (nvS B s k) ∧ nvS B s k < 10 ^ k
  | 0, _, _ => ⟨rfl, Nat.one_pos⟩
  | k + 1, hk, h => by
    have h2 := h k (by omega)
    simp only [isDg, Bool.and_eq_true, decide_eq_true_eq] at h2
    obtain ⟨h3, h3b⟩ := nv_lN (B := B) (s := s) (k := k) (by omega) (fun i hi => h i (by omega))
    have h4 : 10 ^ k ≤ 10 ^ 3 := Nat.pow_le_pow_right (by decide) (by omega)
    have e1 : nI k < 4 := by
      rw [lt_i, nI_i (by omega)]
      have : (4 : Int32).toInt = 4 := by decide
      omega
    have e2 : (B (s + k)).toInt64 = lN ((B (s + k)).toInt.toNat) := by
      apply Int64.toInt_inj.mp
      rw [Int32.toInt_toInt64, lN_toInt (by omega)]; omega
    have e3 : (10 : Int64) = lN 10 := rfl
    have e4 : (48 : Int64) = lN 48 := rfl
    refine ⟨?_, ?_⟩
    · rw [nvM, if_pos e1, h3, e2, e3, e4, lN_mul, lN_add, lN_sub (by omega)]
      congr 1
      simp only [nvS]
      omega
    · simp only [nvS, Nat.pow_succ]
      omega
theorem num_val {B : Nat → Int32} {n p : Nat} {tw : Int64} (h : tkL B n p = 2) : (twM B n p tw).toInt32 = vlL B n p ∧ 0 ≤ (vlL B n p).toInt := by
  have hk : kdL B n p = 2 := by
    rcases tk_kd (Or.inl h) with h1 | h1
    · rw [tk_k1 h1] at h
      have := wd_small (wlS B (stL B n p) (nxL B n p))
      rw [h] at this; exact absurd this (by decide)
    · exact h1
  have h4 : nxL B n p - stL B n p ≤ 4 := by
    rw [tk_k2 hk] at h
    split at h
    · exact absurd h (by decide)
    · omega
  have h5 := nv_lN (B := B) (s := stL B n p) h4 (by rw [nx_2 hk]; exact en_in)
  have h6 : 10 ^ (nxL B n p - stL B n p) ≤ 10 ^ 4 := Nat.pow_le_pow_right (by decide) h4
  have e1 : twM B n p tw = nvM B (stL B n p) (nxL B n p - stL B n p) := by unfold twM; rw [if_neg (by omega), if_pos hk]
  have e2 : vlL B n p = nI (nvS B (stL B n p) (nxL B n p - stL B n p)) := by unfold vlL; rw [if_neg (by omega)]
  rw [e1, e2, h5.1]
  exact ⟨lN_i _, by rw [nI_i (by omega)]; omega⟩
theorem isKy_bad (tok k : Int32) (tw w : Int64) : isKy 1 tok k tw w = false := by simp [isKy]
def PE (G : GT) (b : Nat → Nat) (I : Nat → Int32) (A : Nat → Nat → Int32) (z : Int32) (t n : Nat) (nm : Nat → Int32) (opn flt : Int32) (r : PR) : Option Value → va_W → Prop := fun v w => ∃ x : Int32, v = some (.int x) ∧ match r with
  | .inl f => ∃ (tok tat here opn' : Int32) (tw : Int64), w = PW G b I A z t n nm tok tat here opn' 1 (nI f) tw
  | .inr (c, q) => Vl nm c x ∧ ∃ tw0 : Int64, w = LW G b I A z t n nm q opn 0 flt tw0
def CtP (G : GT) (b : Nat → Nat) (I : Nat → Int32) (A : Nat → Nat → Int32) (z : Int32) (t n : Nat) (nm : Nat → Int32) (μ : Mu) (dep d : Nat) (P : Nat → PR) : Prop := ∀ (p : Nat) (flt : Int32) (tw0 : Int64), p ≤ n → Ct G μ dep 0 0 [.ref (b 0)] (LW G b I A z t n nm p (nI d) 0 flt tw0) (PE G b I A z t n nm (nI d) flt (P p))
theorem PE.ok {G : GT} {b : Nat → Nat} {I : Nat → Int32} {A : Nat → Nat → Int32} {z : Int32} {t n : Nat} {nm : Nat → Int32} {opn flt : Int32} {r : PR} {c : List Int32} {q : Nat} {x : Int32} {tw0 : Int64} {w : va_W} (hr : r = .inr (c, q)) (hV : Vl nm c x) (hw : w = LW G b I A z t n nm q opn 0 flt tw0) : PE G b I A z t n nm opn flt r (some (.int x)) w := by
  subst hr; exact ⟨x, rfl, hV, tw0, hw⟩
theorem PE.bad {G : GT} {b : Nat → Nat} {I : Nat → Int32} {A : Nat → Nat → Int32} {z : Int32} {t n : Nat} {nm : Nat → Int32} {opn flt : Int32} {r : PR} {f : Nat} {x : Int32} {tok tat here opn' : Int32} {tw : Int64} {w : va_W} (hr : r = .inl f) (hw : w = PW G b I A z t n nm tok tat here opn' 1 (nI f) tw) : PE G b I A z t n nm opn flt r (some (.int x)) w := by
  subst hr; exact ⟨x, rfl, tok, tat, here, opn', tw, hw⟩
set_option maxHeartbeats 4000000 in
set_option maxRecDepth 100000 in
theorem t_X12_opens5 (G : GT) (b : Nat → Nat) (I : Nat → Int32) (A : Nat → Nat → Int32) (z : Int32) (t n : Nat) (nm : Nat → Int32) (ht : t < 6) (hn : n ≤ 160) (hB : ∀ i, i < n → 0 ≤ (bM A t i).toInt) (p : Nat) (hp : p ≤ n) (flt : Int32) (tw0 : Int64)  : Ct G mX12_opens 3 0 0 [.ref (b 0)] (LW G b I A z t n nm p 5 0 flt tw0) (Pi 0 (PW G b I A z t n nm (tokM (bM A t) n p) (nI (stL (bM A t) n p)) (nI (nxL (bM A t) n p)) 5 1 (nI (stL (bM A t) n p)) (twM (bM A t) n p tw0))) := by
  refine Ct.intro [(0, .ref (b 0))] (by decide) rfl (Nat.le_of_ble_eq_true rfl) ?_
  refine z_aload_n d_X12_opens_0 0 rfl ?_
  refine z_get (v := .int 5) 0 f_X12_210_12 rfl rfl d_X12_opens_1 ?_
  refine z_iconst (v := 5) d_X12_opens_4 (by decide) ?_
  refine z_icmp_ne d_X12_opens_5 (fun c_5 => ?_) (fun c_5 => ?_)
  · exact absurd c_5 (by decide)
  refine z_aload_n d_X12_opens_8 0 rfl ?_
  refine z_callVv 0 c_X12_213 (t_X12_fail0 G b I A z t n nm (tokM (bM A t) n p) (nI (stL (bM A t) n p)) (nI (nxL (bM A t) n p)) 5 flt (twM (bM A t) n p tw0)) rfl rfl rfl rfl (Nat.le_of_ble_eq_true rfl) rfl d_X12_opens_9 ?_
  refine z_iconst (v := 0) d_X12_opens_12 (by decide) ?_
  exact z_zret _ d_X12_opens_13 rfl (by decide) (Pi.of rfl)
set_option maxHeartbeats 4000000 in
set_option maxRecDepth 100000 in
theorem t_X12_opensL (G : GT) (b : Nat → Nat) (I : Nat → Int32) (A : Nat → Nat → Int32) (z : Int32) (t n : Nat) (nm : Nat → Int32) (ht : t < 6) (hn : n ≤ 160) (hB : ∀ i, i < n → 0 ≤ (bM A t i).toInt) (p : Nat) (hp : p ≤ n) (flt : Int32) (tw0 : Int64) (d : Nat) (hd : d < 5)  : Ct G mX12_opens 3 0 0 [.ref (b 0)] (LW G b I A z t n nm p (nI d) 0 flt tw0) (Pi 1 (LW G b I A z t n nm (nxL (bM A t) n p) (nI (d + 1)) 0 flt (twM (bM A t) n p tw0))) := by
  refine Ct.intro [(0, .ref (b 0))] (by decide) rfl (Nat.le_of_ble_eq_true rfl) ?_
  refine z_aload_n d_X12_opens_0 0 rfl ?_
  refine z_get (v := .int (nI d)) 0 f_X12_210_12 rfl rfl d_X12_opens_1 ?_
  refine z_iconst (v := 5) d_X12_opens_4 (by decide) ?_
  refine z_icmp_ne d_X12_opens_5 (fun c_5 => ?_) (fun c_5 => ?_)
  rotate_left
  · exact absurd c_5 (by rw [show (5 : Int32) = nI 5 from rfl, nI_eq (by omega) (by decide)]; omega)
  refine z_aload_n d_X12_opens_14 0 rfl ?_
  refine z_dup d_X12_opens_15 rfl ?_
  refine z_get (v := .int (nI d)) 0 f_X12_210_12 rfl rfl d_X12_opens_16 ?_
  refine z_iconst (v := 1) d_X12_opens_19 (by decide) ?_
  refine z_iadd d_X12_opens_20 ?_
  refine z_put 0 (LW G b I A z t n nm p ((nI d) + 1) 0 flt tw0) p_X12_210_12 rfl rfl rfl (Nat.le_of_ble_eq_true rfl) (pw_21 G b I A z t n nm (tokM (bM A t) n p) (nI (stL (bM A t) n p)) (nI (nxL (bM A t) n p)) (nI d) 0 flt (twM (bM A t) n p tw0) _) d_X12_opens_21 ?_
  refine z_aload_n d_X12_opens_24 0 rfl ?_
  refine z_callVv 0 c_X12_216 (t_X12_next1 G b I A z t n nm ((nI d) + 1) 0 flt (twM (bM A t) n p tw0) (nxL (bM A t) n p) ht hn (nx_le _ hp) hB (tokM (bM A t) n p) (nI (stL (bM A t) n p))) rfl rfl rfl rfl (Nat.le_of_ble_eq_true rfl) rfl d_X12_opens_25 ?_
  refine z_iconst (v := 1) d_X12_opens_28 (by decide) ?_
  exact z_zret _ d_X12_opens_29 rfl (by decide) (Pi.ofw rfl (by rw [nI_1]))
section
variable (G : GT) (b : Nat → Nat) (I : Nat → Int32) (A : Nat → Nat → Int32) (z : Int32) (t n : Nat) (nm : Nat → Int32)
theorem t_sg (p : Nat) (opn flt : Int32) (tw0 : Int64) (c : Int32) (hc : isSg c = true) : Ct G mX12_isSign 0 0 0 [.ref (b 0), .int c] (LW G b I A z t n nm p opn 0 flt tw0) (Pi (b01 (decide (tkL (bM A t) n p = c))) (LW G b I A z t n nm p opn 0 flt tw0)) := by
  have h := t_X12_isSign G b I A z t n nm (tokM (bM A t) n p) (nI (stL (bM A t) n p)) (nI (nxL (bM A t) n p)) opn 0 flt (twM (bM A t) n p tw0) c
  rw [ky_sg hc] at h
  exact h
theorem t_sgB (tok tat here opn flt : Int32) (tw : Int64) (c : Int32) : Ct G mX12_isSign 0 0 0 [.ref (b 0), .int c] (PW G b I A z t n nm tok tat here opn 1 flt tw) (Pi 0 (PW G b I A z t n nm tok tat here opn 1 flt tw)) := by
  have h := t_X12_isSign G b I A z t n nm tok tat here opn 1 flt tw c
  rw [isKy_bad] at h
  exact h
theorem t_wd (p : Nat) (opn flt : Int32) (tw0 : Int64) (hn : n ≤ 160) (hp : p ≤ n) (i : Nat) (q : Int32 × Int32 × Int64 × List Int32) (hq : KEYS[i]? = some q) : Ct G mX12_isWord 0 0 0 [.ref (b 0), .long q.2.2.1] (LW G b I A z t n nm p opn 0 flt tw0) (Pi (b01 (isQ (bM A t) n p q.2.2.2)) (LW G b I A z t n nm p opn 0 flt tw0)) := by
  have h := t_X12_isWord G b I A z t n nm (tokM (bM A t) n p) (nI (stL (bM A t) n p)) (nI (nxL (bM A t) n p)) opn 0 flt (twM (bM A t) n p tw0) q.2.2.1
  rw [ky_wd hn hp i hq] at h
  exact h
theorem t_ky (p : Nat) (opn flt : Int32) (tw0 : Int64) (hn : n ≤ 160) (hp : p ≤ n) (i : Nat) (hi : 6 ≤ i) (q : Int32 × Int32 × Int64 × List Int32) (hq : KEYS[i]? = some q) : Ct G mX12_isWord 0 0 0 [.ref (b 0), .long q.2.2.1] (LW G b I A z t n nm p opn 0 flt tw0) (Pi (b01 (decide (tkL (bM A t) n p = q.1))) (LW G b I A z t n nm p opn 0 flt tw0)) := by
  have h := t_wd G b I A z t n nm p opn flt tw0 hn hp i q hq
  rw [isQ_key i hi hq] at h
  exact h
theorem t_wdB (tok tat here opn flt : Int32) (tw : Int64) (w : Int64) : Ct G mX12_isWord 0 0 0 [.ref (b 0), .long w] (PW G b I A z t n nm tok tat here opn 1 flt tw) (Pi 0 (PW G b I A z t n nm tok tat here opn 1 flt tw)) := by
  have h := t_X12_isWord G b I A z t n nm tok tat here opn 1 flt tw w
  rw [isKy_bad] at h
  exact h
end
theorem not3 {B : Nat → Int32} {n p : Nat} (hk : kdL B n p = 1) (h : ∀ i, i < 6 → ∀ q, KEYS[i]? = some q → isQ B n p q.2.2.2 = false) : ¬ tkL B n p = 3 := by
  intro h3
  rw [tk_k1 hk] at h3
  rcases keys_wd (wlS B (stL B n p) (nxL B n p)) with e | ⟨r, hr, e⟩
  · rw [e] at h3; exact absurd h3 (by decide)
  · obtain ⟨j, hj⟩ := List.getElem?_of_mem hr
    have h12 : j < 12 := (List.getElem?_eq_some_iff.mp hj).1
    have r5 := (keys_ok r hr).2.2.2.2
    rw [e, r5] at h3
    have h6 : ∀ a, a < 12 → 6 ≤ a → (KEYS[a]?).all (fun r => decide (¬ r.1 = 3)) = true := by decide +kernel
    have h7 : j < 6 := by
      rcases Nat.lt_or_ge j 6 with h | h
      · exact h
      · have := h6 j h12 h
        rw [hj] at this
        simp only [Option.all_some, decide_eq_true_eq] at this
        exact absurd h3 this
    have h8 := h j h7 r hj
    simp only [isQ, Bool.and_eq_false_iff, decide_eq_false_iff_not] at h8
    rcases h8 with h8 | h8
    · exact h8 hk
    · exact h8 e
def NE (G : GT) (b : Nat → Nat) (I : Nat → Int32) (A : Nat → Nat → Int32) (z : Int32) (t n : Nat) (nm : Nat → Int32) (p : Nat) (opn flt : Int32) (tw0 : Int64) : Option Value → va_W → Prop := fun v w => (tkL (bM A t) n p = 3 ∧ v = some (.int (nm (-1 - (vlL (bM A t) n p).toInt).toNat)) ∧ w = LW G b I A z t n nm p opn 0 flt tw0) ∨ (¬ tkL (bM A t) n p = 3 ∧ v = some (.int 0) ∧ w = PW G b I A z t n nm (tokM (bM A t) n p) (nI (stL (bM A t) n p)) (nI (nxL (bM A t) n p)) opn 1 (nI (stL (bM A t) n p)) (twM (bM A t) n p tw0))
set_option maxHeartbeats 4000000 in
set_option maxRecDepth 100000 in
theorem t_X12_name (G : GT) (b : Nat → Nat) (I : Nat → Int32) (A : Nat → Nat → Int32) (z : Int32) (t n : Nat) (nm : Nat → Int32) (ht : t < 6) (hn : n ≤ 160) (hB : ∀ i, i < n → 0 ≤ (bM A t i).toInt) (p : Nat) (hp : p ≤ n) (flt : Int32) (tw0 : Int64) (opn : Int32) (hk : kdL (bM A t) n p = 1)  : Ct G mX12_name 1 0 0 [.ref (b 0)] (LW G b I A z t n nm p opn 0 flt tw0) (NE G b I A z t n nm p opn flt tw0) := by
  refine Ct.intro [(0, .ref (b 0))] (by decide) rfl (Nat.le_of_ble_eq_true rfl) ?_
  refine z_aload_n d_X12_name_0 0 rfl ?_
  refine z_ldc2 d_X12_name_1 w_1270 ?_
  refine z_callVp 0 c_X12_219 (t_wd G b I A z t n nm p opn flt tw0 hn hp 0 (3, -1, 24, [120]) rfl) rfl rfl rfl rfl (Nat.le_of_ble_eq_true rfl) rfl d_X12_name_4 ?_
  refine z_if_eq d_X12_name_7 (fun c_7 => ?_) (fun c_7 => ?_)
  · refine z_aload_n d_X12_name_15 0 rfl ?_
    refine z_ldc2 d_X12_name_16 w_1271 ?_
    refine z_callVp 0 c_X12_219 (t_wd G b I A z t n nm p opn flt tw0 hn hp 1 (3, -2, 25, [121]) rfl) rfl rfl rfl rfl (Nat.le_of_ble_eq_true rfl) rfl d_X12_name_19 ?_
    refine z_if_eq d_X12_name_22 (fun c_22 => ?_) (fun c_22 => ?_)
    · refine z_aload_n d_X12_name_30 0 rfl ?_
      refine z_ldc2 d_X12_name_31 w_1272 ?_
      refine z_callVp 0 c_X12_219 (t_wd G b I A z t n nm p opn flt tw0 hn hp 2 (3, -3, 1960084, [99, 114, 111, 115, 115]) rfl) rfl rfl rfl rfl (Nat.le_of_ble_eq_true rfl) rfl d_X12_name_34 ?_
      refine z_if_eq d_X12_name_37 (fun c_37 => ?_) (fun c_37 => ?_)
      · refine z_aload_n d_X12_name_45 0 rfl ?_
        refine z_ldc2 d_X12_name_46 w_1273 ?_
        refine z_callVp 0 c_X12_219 (t_wd G b I A z t n nm p opn flt tw0 hn hp 3 (3, -4, 247516, [108, 111, 110, 103]) rfl) rfl rfl rfl rfl (Nat.le_of_ble_eq_true rfl) rfl d_X12_name_49 ?_
        refine z_if_eq d_X12_name_52 (fun c_52 => ?_) (fun c_52 => ?_)
        · refine z_aload_n d_X12_name_60 0 rfl ?_
          refine z_ldc2 d_X12_name_61 w_1274 ?_
          refine z_callVp 0 c_X12_219 (t_wd G b I A z t n nm p opn flt tw0 hn hp 4 (3, -5, 923, [97, 103, 101]) rfl) rfl rfl rfl rfl (Nat.le_of_ble_eq_true rfl) rfl d_X12_name_64 ?_
          refine z_if_eq d_X12_name_67 (fun c_67 => ?_) (fun c_67 => ?_)
          · refine z_aload_n d_X12_name_75 0 rfl ?_
            refine z_ldc2 d_X12_name_76 w_1275 ?_
            refine z_callVp 0 c_X12_219 (t_wd G b I A z t n nm p opn flt tw0 hn hp 5 (3, -6, 283619359, [115, 116, 114, 105, 112, 115]) rfl) rfl rfl rfl rfl (Nat.le_of_ble_eq_true rfl) rfl d_X12_name_79 ?_
            refine z_if_eq d_X12_name_82 (fun c_82 => ?_) (fun c_82 => ?_)
            · refine z_aload_n d_X12_name_90 0 rfl ?_
              refine z_callVv 0 c_X12_213 (t_X12_fail0 G b I A z t n nm (tokM (bM A t) n p) (nI (stL (bM A t) n p)) (nI (nxL (bM A t) n p)) opn flt (twM (bM A t) n p tw0)) rfl rfl rfl rfl (Nat.le_of_ble_eq_true rfl) rfl d_X12_name_91 ?_
              refine z_iconst (v := 0) d_X12_name_94 (by decide) ?_
              exact z_iret _ d_X12_name_95 rfl (Or.inr ⟨not3 hk (fun i hi q hq => by
      match i, hi, q, hq with
      | 0, _, q, hq => cases hq; exact b01_0.mp c_7
      | 1, _, q, hq => cases hq; exact b01_0.mp c_22
      | 2, _, q, hq => cases hq; exact b01_0.mp c_37
      | 3, _, q, hq => cases hq; exact b01_0.mp c_52
      | 4, _, q, hq => cases hq; exact b01_0.mp c_67
      | 5, _, q, hq => cases hq; exact b01_0.mp c_82), rfl, rfl⟩)
            · refine z_aload_n d_X12_name_85 0 rfl ?_
              refine z_get (v := .int (nm 5)) 0 f_X12_248_12 rfl rfl d_X12_name_86 ?_
              exact z_iret _ d_X12_name_89 rfl (by have h9 := isQ_tk 5 (q := (3, -6, 283619359, [115, 116, 114, 105, 112, 115])) rfl (b01_n0.mp c_82); exact Or.inl ⟨h9.1, by rw [h9.2.2]; rfl, rfl⟩)
          · refine z_aload_n d_X12_name_70 0 rfl ?_
            refine z_get (v := .int (nm 4)) 0 f_X12_243_12 rfl rfl d_X12_name_71 ?_
            exact z_iret _ d_X12_name_74 rfl (by have h9 := isQ_tk 4 (q := (3, -5, 923, [97, 103, 101])) rfl (b01_n0.mp c_67); exact Or.inl ⟨h9.1, by rw [h9.2.2]; rfl, rfl⟩)
        · refine z_aload_n d_X12_name_55 0 rfl ?_
          refine z_get (v := .int (nm 3)) 0 f_X12_238_12 rfl rfl d_X12_name_56 ?_
          exact z_iret _ d_X12_name_59 rfl (by have h9 := isQ_tk 3 (q := (3, -4, 247516, [108, 111, 110, 103])) rfl (b01_n0.mp c_52); exact Or.inl ⟨h9.1, by rw [h9.2.2]; rfl, rfl⟩)
      · refine z_aload_n d_X12_name_40 0 rfl ?_
        refine z_get (v := .int (nm 2)) 0 f_X12_233_12 rfl rfl d_X12_name_41 ?_
        exact z_iret _ d_X12_name_44 rfl (by have h9 := isQ_tk 2 (q := (3, -3, 1960084, [99, 114, 111, 115, 115])) rfl (b01_n0.mp c_37); exact Or.inl ⟨h9.1, by rw [h9.2.2]; rfl, rfl⟩)
    · refine z_aload_n d_X12_name_25 0 rfl ?_
      refine z_get (v := .int (nm 1)) 0 f_X12_228_12 rfl rfl d_X12_name_26 ?_
      exact z_iret _ d_X12_name_29 rfl (by have h9 := isQ_tk 1 (q := (3, -2, 25, [121])) rfl (b01_n0.mp c_22); exact Or.inl ⟨h9.1, by rw [h9.2.2]; rfl, rfl⟩)
  · refine z_aload_n d_X12_name_10 0 rfl ?_
    refine z_get (v := .int (nm 0)) 0 f_X12_223_12 rfl rfl d_X12_name_11 ?_
    exact z_iret _ d_X12_name_14 rfl (by have h9 := isQ_tk 0 (q := (3, -1, 24, [120])) rfl (b01_n0.mp c_7); exact Or.inl ⟨h9.1, by rw [h9.2.2]; rfl, rfl⟩)
theorem wd_neg {l : List Int32} (h : (wdT l).1 = 3) : ¬ 0 ≤ (wdT l).2.toInt := by
  revert h
  apply wd_ind (fun x => x.1 = 3 → ¬ 0 ≤ x.2.toInt) <;> intros <;> first | decide | (rename_i h; exact absurd h (by decide))
theorem dec_of {P : Prop} [Decidable P] (h : ¬ b01 (decide P) = 0) : P := of_decide_eq_true (b01_n0.mp h)
theorem dec_not {P : Prop} [Decidable P] (h : b01 (decide P) = 0) : ¬ P := of_decide_eq_false (b01_0.mp h)
set_option maxHeartbeats 4000000 in
set_option maxRecDepth 100000 in
theorem t_X12_one0 (G : GT) (b : Nat → Nat) (I : Nat → Int32) (A : Nat → Nat → Int32) (z : Int32) (t n : Nat) (nm : Nat → Int32) (ht : t < 6) (hn : n ≤ 160) (hB : ∀ i, i < n → 0 ≤ (bM A t i).toInt) (p : Nat) (hp : p ≤ n) (flt : Int32) (tw0 : Int64)  : Ct G mX12_one 4 0 0 [.ref (b 0)] (LW G b I A z t n nm p (nI 5) 0 flt tw0) (PE G b I A z t n nm (nI 5) flt (oneP (bM A t) n 0 p)) := by
  refine Ct.intro [(0, .ref (b 0))] (by decide) rfl (Nat.le_of_ble_eq_true rfl) ?_
  refine z_iconst (v := 0) d_X12_one_0 (by decide) ?_
  refine z_istore_n [(1, .int 0), (0, .ref (b 0))] d_X12_one_1 (by decide) rfl ?_
  refine z_aload_n d_X12_one_2 1 rfl ?_
  refine z_bipush (v := 45) d_X12_one_3 (by decide) ?_
  refine z_callVp 0 c_X12_251 (t_sg G b I A z t n nm p (nI 5) flt tw0 45 (by decide)) rfl rfl rfl rfl (Nat.le_of_ble_eq_true rfl) rfl d_X12_one_5 ?_
  refine z_if_eq d_X12_one_8 (fun c_8 => ?_) (fun c_8 => ?_)
  · refine z_aload_n d_X12_one_37 1 rfl ?_
    refine z_bipush (v := 40) d_X12_one_38 (by decide) ?_
    refine z_callVp 0 c_X12_251 (t_sg G b I A z t n nm p (nI 5) flt tw0 40 (by decide)) rfl rfl rfl rfl (Nat.le_of_ble_eq_true rfl) rfl d_X12_one_40 ?_
    refine z_if_eq d_X12_one_43 (fun c_43 => ?_) (fun c_43 => ?_)
    · have h45 := dec_not c_8
      have h40 := dec_not c_43
      refine z_aload_n d_X12_one_95 1 rfl ?_
      refine z_get (v := .int 0) 0 f_X12_203_12 rfl rfl d_X12_one_96 ?_
      refine z_if_ne d_X12_one_99 (fun c_99 => ?_) (fun c_99 => ?_)
      · exact absurd c_99 (by decide)
      refine z_aload_n d_X12_one_102 1 rfl ?_
      refine z_get (v := .int (tokM (bM A t) n p)) 0 f_X12_180_12 rfl rfl d_X12_one_103 ?_
      refine z_iconst (v := 2) d_X12_one_106 (by decide) ?_
      refine z_icmp_ne d_X12_one_107 (fun c_107 => ?_) (fun c_107 => ?_)
      · have h2 := fun h => c_107 (tokM_2.mpr h)
        refine z_aload_n d_X12_one_123 1 rfl ?_
        refine z_get (v := .int 0) 0 f_X12_203_12 rfl rfl d_X12_one_124 ?_
        refine z_if_ne d_X12_one_127 (fun c_127 => ?_) (fun c_127 => ?_)
        · exact absurd c_127 (by decide)
        refine z_aload_n d_X12_one_130 1 rfl ?_
        refine z_get (v := .int (tokM (bM A t) n p)) 0 f_X12_180_12 rfl rfl d_X12_one_131 ?_
        refine z_iconst (v := 1) d_X12_one_134 (by decide) ?_
        refine z_icmp_ne d_X12_one_135 (fun c_135 => ?_) (fun c_135 => ?_)
        · have h3 : ¬ tkL (bM A t) n p = 3 := fun h => by
            rcases tk_kd (Or.inr h) with e | e
            · exact c_135 (tokM_1.mpr e)
            · rw [tk_k2 e] at h; split at h <;> exact absurd h (by decide)
          refine z_aload_n d_X12_one_157 1 rfl ?_
          refine z_callVv 0 c_X12_213 (t_X12_fail0 G b I A z t n nm (tokM (bM A t) n p) (nI (stL (bM A t) n p)) (nI (nxL (bM A t) n p)) (nI 5) flt (twM (bM A t) n p tw0)) rfl rfl rfl rfl (Nat.le_of_ble_eq_true rfl) rfl d_X12_one_158 ?_
          refine z_iload_n d_X12_one_161 0 rfl ?_
          exact z_iret _ d_X12_one_162 rfl (PE.bad (by first | (rw [oneP_0, onP, if_neg (by rw [htk]; decide), if_pos ⟨htk, rfl⟩, hr19]; done) | (rw [oneP_0, onP, if_neg (by rw [htk]; decide), if_neg (by rw [htk]; decide), if_pos ⟨htk, rfl⟩, hr54]; done) | (rw [oneP_0, onP, if_neg (by rw [htk]; decide), if_neg (by rw [htk]; decide), if_pos ⟨htk, rfl⟩, hr54]; exact if_pos h41) | (rw [oneP_0, onP, if_neg (by rw [htk]; decide), if_neg (by rw [htk]; decide), if_pos ⟨htk, rfl⟩, hr54]; exact if_neg h41) | (rw [oneP_0, onP, if_neg (by rw [htk]; decide), if_neg (by simp), if_neg (by simp)]; done) | (rw [oneP_0, onP, if_pos (Or.inl h2)]; done) | (rw [oneP_0, onP, if_pos (Or.inr h3)]; done) | (rw [oneP_0, onP, if_neg (fun h => h.elim h2 h3), if_neg (fun h => h45 h.1), if_neg (fun h => h40 h.1)]; done)) rfl)
        · have hk := tokM_1.mp c_135
          refine z_aload_n d_X12_one_138 1 rfl ?_
          refine z_callV 0 c_X12_264 rfl rfl (t_X12_name G b I A z t n nm ht hn hB p hp flt tw0 (nI 5) hk) rfl rfl (Nat.le_of_ble_eq_true rfl) rfl d_X12_one_139 ?_
          rintro v0 w0 (⟨h3, rfl, rfl⟩ | ⟨h3, rfl, rfl⟩)
          · refine z_istore_n [(1, .int (nm (-1 - (vlL (bM A t) n p).toInt).toNat)), (0, .ref (b 0))] d_X12_one_142 (by decide) rfl ?_
            refine z_aload_n d_X12_one_143 1 rfl ?_
            refine z_get (v := .int 0) 0 f_X12_203_12 rfl rfl d_X12_one_144 ?_
            refine z_if_ne d_X12_one_147 (fun c_147 => ?_) (fun c_147 => ?_)
            · exact absurd c_147 (by decide)
            refine z_aload_n d_X12_one_150 1 rfl ?_
            refine z_callVv 0 c_X12_216 (t_X12_next1 G b I A z t n nm (nI 5) 0 flt (twM (bM A t) n p tw0) (nxL (bM A t) n p) ht hn (nx_le _ hp) hB (tokM (bM A t) n p) (nI (stL (bM A t) n p))) rfl rfl rfl rfl (Nat.le_of_ble_eq_true rfl) rfl d_X12_one_151 ?_
            refine z_goto d_X12_one_154 ?_
            refine z_iload_n d_X12_one_161 0 rfl ?_
            exact z_iret _ d_X12_one_162 rfl (PE.ok (by first | (rw [oneP_0, onP, if_neg (by rw [htk]; decide), if_pos ⟨htk, rfl⟩, hr19]; done) | (rw [oneP_0, onP, if_neg (by rw [htk]; decide), if_neg (by rw [htk]; decide), if_pos ⟨htk, rfl⟩, hr54]; done) | (rw [oneP_0, onP, if_neg (by rw [htk]; decide), if_neg (by rw [htk]; decide), if_pos ⟨htk, rfl⟩, hr54]; exact if_pos h41) | (rw [oneP_0, onP, if_neg (by rw [htk]; decide), if_neg (by rw [htk]; decide), if_pos ⟨htk, rfl⟩, hr54]; exact if_neg h41) | (rw [oneP_0, onP, if_neg (by rw [htk]; decide), if_neg (by simp), if_neg (by simp)]; done) | (rw [oneP_0, onP, if_pos (Or.inl h2)]; done) | (rw [oneP_0, onP, if_pos (Or.inr h3)]; done) | (rw [oneP_0, onP, if_neg (fun h => h.elim h2 h3), if_neg (fun h => h45 h.1), if_neg (fun h => h40 h.1)]; done)) (by first | exact hV19.one (Or.inr rfl) | exact hV54 | (have h9 := num_val (tw := tw0) h2; rw [h9.1]; have h8 := vl_Vl (B := bM A t) (n := n) (p := p) (Or.inl h2) nm; rw [if_pos h9.2] at h8; exact h8) | (have h9 : ¬ 0 ≤ (vlL (bM A t) n p).toInt := (by rw [show vlL (bM A t) n p = (wdT (wlS (bM A t) (stL (bM A t) n p) (nxL (bM A t) n p))).2 from if_pos hk]; rw [tk_k1 hk] at h3; exact wd_neg h3); have h8 := vl_Vl (B := bM A t) (n := n) (p := p) (Or.inr h3) nm; rw [if_neg h9] at h8; exact h8)) (by first | rfl | rw [nI_pred]))
          · refine z_istore_n [(1, .int 0), (0, .ref (b 0))] d_X12_one_142 (by decide) rfl ?_
            refine z_aload_n d_X12_one_143 1 rfl ?_
            refine z_get (v := .int 1) 0 f_X12_203_12 rfl rfl d_X12_one_144 ?_
            refine z_if_ne d_X12_one_147 (fun c_147 => ?_) (fun c_147 => ?_)
            rotate_left
            · exact absurd c_147 (by decide)
            refine z_iload_n d_X12_one_161 0 rfl ?_
            exact z_iret _ d_X12_one_162 rfl (PE.bad (by first | (rw [oneP_0, onP, if_neg (by rw [htk]; decide), if_pos ⟨htk, rfl⟩, hr19]; done) | (rw [oneP_0, onP, if_neg (by rw [htk]; decide), if_neg (by rw [htk]; decide), if_pos ⟨htk, rfl⟩, hr54]; done) | (rw [oneP_0, onP, if_neg (by rw [htk]; decide), if_neg (by rw [htk]; decide), if_pos ⟨htk, rfl⟩, hr54]; exact if_pos h41) | (rw [oneP_0, onP, if_neg (by rw [htk]; decide), if_neg (by rw [htk]; decide), if_pos ⟨htk, rfl⟩, hr54]; exact if_neg h41) | (rw [oneP_0, onP, if_neg (by rw [htk]; decide), if_neg (by simp), if_neg (by simp)]; done) | (rw [oneP_0, onP, if_pos (Or.inl h2)]; done) | (rw [oneP_0, onP, if_pos (Or.inr h3)]; done) | (rw [oneP_0, onP, if_neg (fun h => h.elim h2 h3), if_neg (fun h => h45 h.1), if_neg (fun h => h40 h.1)]; done)) rfl)
      · have h2 := tokM_2.mp c_107
        refine z_aload_n d_X12_one_110 1 rfl ?_
        refine z_get (v := .long (twM (bM A t) n p tw0)) 0 f_X12_187_12 rfl rfl d_X12_one_111 ?_
        refine z_l2i d_X12_one_114 ?_
        refine z_istore_n [(1, .int ((twM (bM A t) n p tw0).toInt32)), (0, .ref (b 0))] d_X12_one_115 (by decide) rfl ?_
        refine z_aload_n d_X12_one_116 1 rfl ?_
        refine z_callVv 0 c_X12_216 (t_X12_next1 G b I A z t n nm (nI 5) 0 flt (twM (bM A t) n p tw0) (nxL (bM A t) n p) ht hn (nx_le _ hp) hB (tokM (bM A t) n p) (nI (stL (bM A t) n p))) rfl rfl rfl rfl (Nat.le_of_ble_eq_true rfl) rfl d_X12_one_117 ?_
        refine z_goto d_X12_one_120 ?_
        refine z_iload_n d_X12_one_161 0 rfl ?_
        exact z_iret _ d_X12_one_162 rfl (PE.ok (by first | (rw [oneP_0, onP, if_neg (by rw [htk]; decide), if_pos ⟨htk, rfl⟩, hr19]; done) | (rw [oneP_0, onP, if_neg (by rw [htk]; decide), if_neg (by rw [htk]; decide), if_pos ⟨htk, rfl⟩, hr54]; done) | (rw [oneP_0, onP, if_neg (by rw [htk]; decide), if_neg (by rw [htk]; decide), if_pos ⟨htk, rfl⟩, hr54]; exact if_pos h41) | (rw [oneP_0, onP, if_neg (by rw [htk]; decide), if_neg (by rw [htk]; decide), if_pos ⟨htk, rfl⟩, hr54]; exact if_neg h41) | (rw [oneP_0, onP, if_neg (by rw [htk]; decide), if_neg (by simp), if_neg (by simp)]; done) | (rw [oneP_0, onP, if_pos (Or.inl h2)]; done) | (rw [oneP_0, onP, if_pos (Or.inr h3)]; done) | (rw [oneP_0, onP, if_neg (fun h => h.elim h2 h3), if_neg (fun h => h45 h.1), if_neg (fun h => h40 h.1)]; done)) (by first | exact hV19.one (Or.inr rfl) | exact hV54 | (have h9 := num_val (tw := tw0) h2; rw [h9.1]; have h8 := vl_Vl (B := bM A t) (n := n) (p := p) (Or.inl h2) nm; rw [if_pos h9.2] at h8; exact h8) | (have h9 : ¬ 0 ≤ (vlL (bM A t) n p).toInt := (by rw [show vlL (bM A t) n p = (wdT (wlS (bM A t) (stL (bM A t) n p) (nxL (bM A t) n p))).2 from if_pos hk]; rw [tk_k1 hk] at h3; exact wd_neg h3); have h8 := vl_Vl (B := bM A t) (n := n) (p := p) (Or.inr h3) nm; rw [if_neg h9] at h8; exact h8)) (by first | rfl | rw [nI_pred]))
    · have htk := dec_of c_43
      refine z_aload_n d_X12_one_46 1 rfl ?_
      refine z_callVp 0 c_X12_254 (t_X12_opens5 G b I A z t n nm ht hn hB p hp flt tw0) rfl rfl rfl rfl (Nat.le_of_ble_eq_true rfl) rfl d_X12_one_47 ?_
      refine z_if_eq d_X12_one_50 (fun c_50 => ?_) (fun c_50 => ?_)
      rotate_left
      · exact absurd c_50 (by decide)
      refine z_iload_n d_X12_one_161 0 rfl ?_
      exact z_iret _ d_X12_one_162 rfl (PE.bad (by first | (rw [oneP_0, onP, if_neg (by rw [htk]; decide), if_pos ⟨htk, rfl⟩, hr19]; done) | (rw [oneP_0, onP, if_neg (by rw [htk]; decide), if_neg (by rw [htk]; decide), if_pos ⟨htk, rfl⟩, hr54]; done) | (rw [oneP_0, onP, if_neg (by rw [htk]; decide), if_neg (by rw [htk]; decide), if_pos ⟨htk, rfl⟩, hr54]; exact if_pos h41) | (rw [oneP_0, onP, if_neg (by rw [htk]; decide), if_neg (by rw [htk]; decide), if_pos ⟨htk, rfl⟩, hr54]; exact if_neg h41) | (rw [oneP_0, onP, if_neg (by rw [htk]; decide), if_neg (by simp), if_neg (by simp)]; done) | (rw [oneP_0, onP, if_pos (Or.inl h2)]; done) | (rw [oneP_0, onP, if_pos (Or.inr h3)]; done) | (rw [oneP_0, onP, if_neg (fun h => h.elim h2 h3), if_neg (fun h => h45 h.1), if_neg (fun h => h40 h.1)]; done)) rfl)
  · have htk := dec_of c_8
    refine z_aload_n d_X12_one_11 1 rfl ?_
    refine z_callVp 0 c_X12_254 (t_X12_opens5 G b I A z t n nm ht hn hB p hp flt tw0) rfl rfl rfl rfl (Nat.le_of_ble_eq_true rfl) rfl d_X12_one_12 ?_
    refine z_if_eq d_X12_one_15 (fun c_15 => ?_) (fun c_15 => ?_)
    rotate_left
    · exact absurd c_15 (by decide)
    refine z_iload_n d_X12_one_161 0 rfl ?_
    exact z_iret _ d_X12_one_162 rfl (PE.bad (by first | (rw [oneP_0, onP, if_neg (by rw [htk]; decide), if_pos ⟨htk, rfl⟩, hr19]; done) | (rw [oneP_0, onP, if_neg (by rw [htk]; decide), if_neg (by rw [htk]; decide), if_pos ⟨htk, rfl⟩, hr54]; done) | (rw [oneP_0, onP, if_neg (by rw [htk]; decide), if_neg (by rw [htk]; decide), if_pos ⟨htk, rfl⟩, hr54]; exact if_pos h41) | (rw [oneP_0, onP, if_neg (by rw [htk]; decide), if_neg (by rw [htk]; decide), if_pos ⟨htk, rfl⟩, hr54]; exact if_neg h41) | (rw [oneP_0, onP, if_neg (by rw [htk]; decide), if_neg (by simp), if_neg (by simp)]; done) | (rw [oneP_0, onP, if_pos (Or.inl h2)]; done) | (rw [oneP_0, onP, if_pos (Or.inr h3)]; done) | (rw [oneP_0, onP, if_neg (fun h => h.elim h2 h3), if_neg (fun h => h45 h.1), if_neg (fun h => h40 h.1)]; done)) rfl)
set_option maxHeartbeats 4000000 in
set_option maxRecDepth 100000 in
theorem t_X12_oneS (G : GT) (b : Nat → Nat) (I : Nat → Int32) (A : Nat → Nat → Int32) (z : Int32) (t n : Nat) (nm : Nat → Int32) (ht : t < 6) (hn : n ≤ 160) (hB : ∀ i, i < n → 0 ≤ (bM A t i).toInt) (p : Nat) (hp : p ≤ n) (flt : Int32) (tw0 : Int64) (d o de dn : Nat) (hd : d < 5) (hei : CtP G b I A z t n nm mX12_either de (d + 1) (eitP (bM A t) n o)) (hon : CtP G b I A z t n nm mX12_one dn (d + 1) (oneP (bM A t) n o)) (dp : Nat) (hd1 : 4 ≤ dp) (hd2 : de + 1 ≤ dp) (hd3 : dn + 1 ≤ dp)  : Ct G mX12_one (dp) 0 0 [.ref (b 0)] (LW G b I A z t n nm p (nI d) 0 flt tw0) (PE G b I A z t n nm (nI d) flt (oneP (bM A t) n (o + 1) p)) := by
  refine Ct.intro [(0, .ref (b 0))] (by decide) rfl (Nat.le_of_ble_eq_true rfl) ?_
  refine z_iconst (v := 0) d_X12_one_0 (by decide) ?_
  refine z_istore_n [(1, .int 0), (0, .ref (b 0))] d_X12_one_1 (by decide) rfl ?_
  refine z_aload_n d_X12_one_2 1 rfl ?_
  refine z_bipush (v := 45) d_X12_one_3 (by decide) ?_
  refine z_callVp 0 c_X12_251 (t_sg G b I A z t n nm p (nI d) flt tw0 45 (by decide)) rfl rfl rfl rfl (Nat.le_of_ble_eq_true rfl) (rm_le (by omega)) d_X12_one_5 ?_
  refine z_if_eq d_X12_one_8 (fun c_8 => ?_) (fun c_8 => ?_)
  · refine z_aload_n d_X12_one_37 1 rfl ?_
    refine z_bipush (v := 40) d_X12_one_38 (by decide) ?_
    refine z_callVp 0 c_X12_251 (t_sg G b I A z t n nm p (nI d) flt tw0 40 (by decide)) rfl rfl rfl rfl (Nat.le_of_ble_eq_true rfl) (rm_le (by omega)) d_X12_one_40 ?_
    refine z_if_eq d_X12_one_43 (fun c_43 => ?_) (fun c_43 => ?_)
    · have h45 := dec_not c_8
      have h40 := dec_not c_43
      refine z_aload_n d_X12_one_95 1 rfl ?_
      refine z_get (v := .int 0) 0 f_X12_203_12 rfl rfl d_X12_one_96 ?_
      refine z_if_ne d_X12_one_99 (fun c_99 => ?_) (fun c_99 => ?_)
      · exact absurd c_99 (by decide)
      refine z_aload_n d_X12_one_102 1 rfl ?_
      refine z_get (v := .int (tokM (bM A t) n p)) 0 f_X12_180_12 rfl rfl d_X12_one_103 ?_
      refine z_iconst (v := 2) d_X12_one_106 (by decide) ?_
      refine z_icmp_ne d_X12_one_107 (fun c_107 => ?_) (fun c_107 => ?_)
      · have h2 := fun h => c_107 (tokM_2.mpr h)
        refine z_aload_n d_X12_one_123 1 rfl ?_
        refine z_get (v := .int 0) 0 f_X12_203_12 rfl rfl d_X12_one_124 ?_
        refine z_if_ne d_X12_one_127 (fun c_127 => ?_) (fun c_127 => ?_)
        · exact absurd c_127 (by decide)
        refine z_aload_n d_X12_one_130 1 rfl ?_
        refine z_get (v := .int (tokM (bM A t) n p)) 0 f_X12_180_12 rfl rfl d_X12_one_131 ?_
        refine z_iconst (v := 1) d_X12_one_134 (by decide) ?_
        refine z_icmp_ne d_X12_one_135 (fun c_135 => ?_) (fun c_135 => ?_)
        · have h3 : ¬ tkL (bM A t) n p = 3 := fun h => by
            rcases tk_kd (Or.inr h) with e | e
            · exact c_135 (tokM_1.mpr e)
            · rw [tk_k2 e] at h; split at h <;> exact absurd h (by decide)
          refine z_aload_n d_X12_one_157 1 rfl ?_
          refine z_callVv 0 c_X12_213 (t_X12_fail0 G b I A z t n nm (tokM (bM A t) n p) (nI (stL (bM A t) n p)) (nI (nxL (bM A t) n p)) (nI d) flt (twM (bM A t) n p tw0)) rfl rfl rfl rfl (Nat.le_of_ble_eq_true rfl) (rm_le (by omega)) d_X12_one_158 ?_
          refine z_iload_n d_X12_one_161 0 rfl ?_
          exact z_iret _ d_X12_one_162 rfl (PE.bad (by first | (rw [oneP_s, onP, if_neg (by rw [htk]; decide), if_pos ⟨htk, rfl⟩, hr19]; done) | (rw [oneP_s, onP, if_neg (by rw [htk]; decide), if_neg (by rw [htk]; decide), if_pos ⟨htk, rfl⟩, hr54]; done) | (rw [oneP_s, onP, if_neg (by rw [htk]; decide), if_neg (by rw [htk]; decide), if_pos ⟨htk, rfl⟩, hr54]; exact if_pos h41) | (rw [oneP_s, onP, if_neg (by rw [htk]; decide), if_neg (by rw [htk]; decide), if_pos ⟨htk, rfl⟩, hr54]; exact if_neg h41) | (rw [oneP_s, onP, if_neg (by rw [htk]; decide), if_neg (by simp), if_neg (by simp)]; done) | (rw [oneP_s, onP, if_pos (Or.inl h2)]; done) | (rw [oneP_s, onP, if_pos (Or.inr h3)]; done) | (rw [oneP_s, onP, if_neg (fun h => h.elim h2 h3), if_neg (fun h => h45 h.1), if_neg (fun h => h40 h.1)]; done)) rfl)
        · have hk := tokM_1.mp c_135
          refine z_aload_n d_X12_one_138 1 rfl ?_
          refine z_callV 0 c_X12_264 rfl rfl (t_X12_name G b I A z t n nm ht hn hB p hp flt tw0 (nI d) hk) rfl rfl (Nat.le_of_ble_eq_true rfl) (rm_le (by omega)) d_X12_one_139 ?_
          rintro v0 w0 (⟨h3, rfl, rfl⟩ | ⟨h3, rfl, rfl⟩)
          · refine z_istore_n [(1, .int (nm (-1 - (vlL (bM A t) n p).toInt).toNat)), (0, .ref (b 0))] d_X12_one_142 (by decide) rfl ?_
            refine z_aload_n d_X12_one_143 1 rfl ?_
            refine z_get (v := .int 0) 0 f_X12_203_12 rfl rfl d_X12_one_144 ?_
            refine z_if_ne d_X12_one_147 (fun c_147 => ?_) (fun c_147 => ?_)
            · exact absurd c_147 (by decide)
            refine z_aload_n d_X12_one_150 1 rfl ?_
            refine z_callVv 0 c_X12_216 (t_X12_next1 G b I A z t n nm (nI d) 0 flt (twM (bM A t) n p tw0) (nxL (bM A t) n p) ht hn (nx_le _ hp) hB (tokM (bM A t) n p) (nI (stL (bM A t) n p))) rfl rfl rfl rfl (Nat.le_of_ble_eq_true rfl) (rm_le (by omega)) d_X12_one_151 ?_
            refine z_goto d_X12_one_154 ?_
            refine z_iload_n d_X12_one_161 0 rfl ?_
            exact z_iret _ d_X12_one_162 rfl (PE.ok (by first | (rw [oneP_s, onP, if_neg (by rw [htk]; decide), if_pos ⟨htk, rfl⟩, hr19]; done) | (rw [oneP_s, onP, if_neg (by rw [htk]; decide), if_neg (by rw [htk]; decide), if_pos ⟨htk, rfl⟩, hr54]; done) | (rw [oneP_s, onP, if_neg (by rw [htk]; decide), if_neg (by rw [htk]; decide), if_pos ⟨htk, rfl⟩, hr54]; exact if_pos h41) | (rw [oneP_s, onP, if_neg (by rw [htk]; decide), if_neg (by rw [htk]; decide), if_pos ⟨htk, rfl⟩, hr54]; exact if_neg h41) | (rw [oneP_s, onP, if_neg (by rw [htk]; decide), if_neg (by simp), if_neg (by simp)]; done) | (rw [oneP_s, onP, if_pos (Or.inl h2)]; done) | (rw [oneP_s, onP, if_pos (Or.inr h3)]; done) | (rw [oneP_s, onP, if_neg (fun h => h.elim h2 h3), if_neg (fun h => h45 h.1), if_neg (fun h => h40 h.1)]; done)) (by first | exact hV19.one (Or.inr rfl) | exact hV54 | (have h9 := num_val (tw := tw0) h2; rw [h9.1]; have h8 := vl_Vl (B := bM A t) (n := n) (p := p) (Or.inl h2) nm; rw [if_pos h9.2] at h8; exact h8) | (have h9 : ¬ 0 ≤ (vlL (bM A t) n p).toInt := (by rw [show vlL (bM A t) n p = (wdT (wlS (bM A t) (stL (bM A t) n p) (nxL (bM A t) n p))).2 from if_pos hk]; rw [tk_k1 hk] at h3; exact wd_neg h3); have h8 := vl_Vl (B := bM A t) (n := n) (p := p) (Or.inr h3) nm; rw [if_neg h9] at h8; exact h8)) (by first | rfl | rw [nI_pred]))
          · refine z_istore_n [(1, .int 0), (0, .ref (b 0))] d_X12_one_142 (by decide) rfl ?_
            refine z_aload_n d_X12_one_143 1 rfl ?_
            refine z_get (v := .int 1) 0 f_X12_203_12 rfl rfl d_X12_one_144 ?_
            refine z_if_ne d_X12_one_147 (fun c_147 => ?_) (fun c_147 => ?_)
            rotate_left
            · exact absurd c_147 (by decide)
            refine z_iload_n d_X12_one_161 0 rfl ?_
            exact z_iret _ d_X12_one_162 rfl (PE.bad (by first | (rw [oneP_s, onP, if_neg (by rw [htk]; decide), if_pos ⟨htk, rfl⟩, hr19]; done) | (rw [oneP_s, onP, if_neg (by rw [htk]; decide), if_neg (by rw [htk]; decide), if_pos ⟨htk, rfl⟩, hr54]; done) | (rw [oneP_s, onP, if_neg (by rw [htk]; decide), if_neg (by rw [htk]; decide), if_pos ⟨htk, rfl⟩, hr54]; exact if_pos h41) | (rw [oneP_s, onP, if_neg (by rw [htk]; decide), if_neg (by rw [htk]; decide), if_pos ⟨htk, rfl⟩, hr54]; exact if_neg h41) | (rw [oneP_s, onP, if_neg (by rw [htk]; decide), if_neg (by simp), if_neg (by simp)]; done) | (rw [oneP_s, onP, if_pos (Or.inl h2)]; done) | (rw [oneP_s, onP, if_pos (Or.inr h3)]; done) | (rw [oneP_s, onP, if_neg (fun h => h.elim h2 h3), if_neg (fun h => h45 h.1), if_neg (fun h => h40 h.1)]; done)) rfl)
      · have h2 := tokM_2.mp c_107
        refine z_aload_n d_X12_one_110 1 rfl ?_
        refine z_get (v := .long (twM (bM A t) n p tw0)) 0 f_X12_187_12 rfl rfl d_X12_one_111 ?_
        refine z_l2i d_X12_one_114 ?_
        refine z_istore_n [(1, .int ((twM (bM A t) n p tw0).toInt32)), (0, .ref (b 0))] d_X12_one_115 (by decide) rfl ?_
        refine z_aload_n d_X12_one_116 1 rfl ?_
        refine z_callVv 0 c_X12_216 (t_X12_next1 G b I A z t n nm (nI d) 0 flt (twM (bM A t) n p tw0) (nxL (bM A t) n p) ht hn (nx_le _ hp) hB (tokM (bM A t) n p) (nI (stL (bM A t) n p))) rfl rfl rfl rfl (Nat.le_of_ble_eq_true rfl) (rm_le (by omega)) d_X12_one_117 ?_
        refine z_goto d_X12_one_120 ?_
        refine z_iload_n d_X12_one_161 0 rfl ?_
        exact z_iret _ d_X12_one_162 rfl (PE.ok (by first | (rw [oneP_s, onP, if_neg (by rw [htk]; decide), if_pos ⟨htk, rfl⟩, hr19]; done) | (rw [oneP_s, onP, if_neg (by rw [htk]; decide), if_neg (by rw [htk]; decide), if_pos ⟨htk, rfl⟩, hr54]; done) | (rw [oneP_s, onP, if_neg (by rw [htk]; decide), if_neg (by rw [htk]; decide), if_pos ⟨htk, rfl⟩, hr54]; exact if_pos h41) | (rw [oneP_s, onP, if_neg (by rw [htk]; decide), if_neg (by rw [htk]; decide), if_pos ⟨htk, rfl⟩, hr54]; exact if_neg h41) | (rw [oneP_s, onP, if_neg (by rw [htk]; decide), if_neg (by simp), if_neg (by simp)]; done) | (rw [oneP_s, onP, if_pos (Or.inl h2)]; done) | (rw [oneP_s, onP, if_pos (Or.inr h3)]; done) | (rw [oneP_s, onP, if_neg (fun h => h.elim h2 h3), if_neg (fun h => h45 h.1), if_neg (fun h => h40 h.1)]; done)) (by first | exact hV19.one (Or.inr rfl) | exact hV54 | (have h9 := num_val (tw := tw0) h2; rw [h9.1]; have h8 := vl_Vl (B := bM A t) (n := n) (p := p) (Or.inl h2) nm; rw [if_pos h9.2] at h8; exact h8) | (have h9 : ¬ 0 ≤ (vlL (bM A t) n p).toInt := (by rw [show vlL (bM A t) n p = (wdT (wlS (bM A t) (stL (bM A t) n p) (nxL (bM A t) n p))).2 from if_pos hk]; rw [tk_k1 hk] at h3; exact wd_neg h3); have h8 := vl_Vl (B := bM A t) (n := n) (p := p) (Or.inr h3) nm; rw [if_neg h9] at h8; exact h8)) (by first | rfl | rw [nI_pred]))
    · have htk := dec_of c_43
      refine z_aload_n d_X12_one_46 1 rfl ?_
      refine z_callVp 0 c_X12_254 (t_X12_opensL G b I A z t n nm ht hn hB p hp flt tw0 d hd) rfl rfl rfl rfl (Nat.le_of_ble_eq_true rfl) (rm_le (by omega)) d_X12_one_47 ?_
      refine z_if_eq d_X12_one_50 (fun c_50 => ?_) (fun c_50 => ?_)
      · exact absurd c_50 (by decide)
      refine z_aload_n d_X12_one_53 1 rfl ?_
      refine z_callV 0 c_X12_261 rfl rfl (hei (nxL (bM A t) n p) flt (twM (bM A t) n p tw0) (nx_le _ hp)) rfl rfl (Nat.le_of_ble_eq_true rfl) (rm_le (by omega)) d_X12_one_54 ?_
      rintro v54 w54 ⟨x54, rfl, hE54⟩
      rcases hr54 : eitP (bM A t) n o (nxL (bM A t) n p) with f54 | ⟨c54, q54⟩
      · rw [hr54] at hE54
        obtain ⟨tok54, tat54, here54, opn54, tw54, rfl⟩ := hE54
        refine z_istore_n [(1, .int x54), (0, .ref (b 0))] d_X12_one_57 (by decide) rfl ?_
        refine z_aload_n d_X12_one_58 1 rfl ?_
        refine z_bipush (v := 41) d_X12_one_59 (by decide) ?_
        refine z_callVp 0 c_X12_251 (t_sgB G b I A z t n nm tok54 tat54 here54 opn54 (nI f54) tw54 41) rfl rfl rfl rfl (Nat.le_of_ble_eq_true rfl) (rm_le (by omega)) d_X12_one_61 ?_
        refine z_if_ne d_X12_one_64 (fun c_64 => ?_) (fun c_64 => ?_)
        · exact absurd c_64 (by decide)
        refine z_aload_n d_X12_one_67 1 rfl ?_
        refine z_callVv 0 c_X12_213 (t_X12_fail1 G b I A z t n nm tok54 tat54 here54 opn54 (nI f54) tw54) rfl rfl rfl rfl (Nat.le_of_ble_eq_true rfl) (rm_le (by omega)) d_X12_one_68 ?_
        refine z_aload_n d_X12_one_71 1 rfl ?_
        refine z_dup d_X12_one_72 rfl ?_
        refine z_get (v := .int opn54) 0 f_X12_210_12 rfl rfl d_X12_one_73 ?_
        refine z_iconst (v := 1) d_X12_one_76 (by decide) ?_
        refine z_isub d_X12_one_77 ?_
        refine z_put 0 (PW G b I A z t n nm tok54 tat54 here54 (opn54 - 1) 1 (nI f54) tw54) p_X12_210_12 rfl rfl rfl (Nat.le_of_ble_eq_true rfl) (pw_21 G b I A z t n nm tok54 tat54 here54 opn54 1 (nI f54) tw54 _) d_X12_one_78 ?_
        refine z_aload_n d_X12_one_81 1 rfl ?_
        refine z_get (v := .int 1) 0 f_X12_203_12 rfl rfl d_X12_one_82 ?_
        refine z_if_ne d_X12_one_85 (fun c_85 => ?_) (fun c_85 => ?_)
        rotate_left
        · exact absurd c_85 (by decide)
        refine z_iload_n d_X12_one_161 0 rfl ?_
        exact z_iret _ d_X12_one_162 rfl (PE.bad (by first | (rw [oneP_s, onP, if_neg (by rw [htk]; decide), if_pos ⟨htk, rfl⟩, hr19]; done) | (rw [oneP_s, onP, if_neg (by rw [htk]; decide), if_neg (by rw [htk]; decide), if_pos ⟨htk, rfl⟩, hr54]; done) | (rw [oneP_s, onP, if_neg (by rw [htk]; decide), if_neg (by rw [htk]; decide), if_pos ⟨htk, rfl⟩, hr54]; exact if_pos h41) | (rw [oneP_s, onP, if_neg (by rw [htk]; decide), if_neg (by rw [htk]; decide), if_pos ⟨htk, rfl⟩, hr54]; exact if_neg h41) | (rw [oneP_s, onP, if_neg (by rw [htk]; decide), if_neg (by simp), if_neg (by simp)]; done) | (rw [oneP_s, onP, if_pos (Or.inl h2)]; done) | (rw [oneP_s, onP, if_pos (Or.inr h3)]; done) | (rw [oneP_s, onP, if_neg (fun h => h.elim h2 h3), if_neg (fun h => h45 h.1), if_neg (fun h => h40 h.1)]; done)) rfl)
      · rw [hr54] at hE54
        obtain ⟨hV54, tw54, rfl⟩ := hE54
        have hg54 := ((lv_gd (bM A t) n o).2.2 _ (nx_le _ hp)).1 c54 q54 hr54
        refine z_istore_n [(1, .int x54), (0, .ref (b 0))] d_X12_one_57 (by decide) rfl ?_
        refine z_aload_n d_X12_one_58 1 rfl ?_
        refine z_bipush (v := 41) d_X12_one_59 (by decide) ?_
        refine z_callVp 0 c_X12_251 (t_sg G b I A z t n nm q54 (nI (d + 1)) flt tw54 41 (by decide)) rfl rfl rfl rfl (Nat.le_of_ble_eq_true rfl) (rm_le (by omega)) d_X12_one_61 ?_
        refine z_if_ne d_X12_one_64 (fun c_64 => ?_) (fun c_64 => ?_)
        · have h41 := dec_of c_64
          refine z_aload_n d_X12_one_71 1 rfl ?_
          refine z_dup d_X12_one_72 rfl ?_
          refine z_get (v := .int (nI (d + 1))) 0 f_X12_210_12 rfl rfl d_X12_one_73 ?_
          refine z_iconst (v := 1) d_X12_one_76 (by decide) ?_
          refine z_isub d_X12_one_77 ?_
          refine z_put 0 (LW G b I A z t n nm q54 ((nI (d + 1)) - 1) 0 flt tw54) p_X12_210_12 rfl rfl rfl (Nat.le_of_ble_eq_true rfl) (pw_21 G b I A z t n nm (tokM (bM A t) n q54) (nI (stL (bM A t) n q54)) (nI (nxL (bM A t) n q54)) (nI (d + 1)) 0 flt (twM (bM A t) n q54 tw54) _) d_X12_one_78 ?_
          refine z_aload_n d_X12_one_81 1 rfl ?_
          refine z_get (v := .int 0) 0 f_X12_203_12 rfl rfl d_X12_one_82 ?_
          refine z_if_ne d_X12_one_85 (fun c_85 => ?_) (fun c_85 => ?_)
          · exact absurd c_85 (by decide)
          refine z_aload_n d_X12_one_88 1 rfl ?_
          refine z_callVv 0 c_X12_216 (t_X12_next1 G b I A z t n nm ((nI (d + 1)) - 1) 0 flt (twM (bM A t) n q54 tw54) (nxL (bM A t) n q54) ht hn (nx_le _ hg54.2.1) hB (tokM (bM A t) n q54) (nI (stL (bM A t) n q54))) rfl rfl rfl rfl (Nat.le_of_ble_eq_true rfl) (rm_le (by omega)) d_X12_one_89 ?_
          refine z_goto d_X12_one_92 ?_
          refine z_iload_n d_X12_one_161 0 rfl ?_
          exact z_iret _ d_X12_one_162 rfl (PE.ok (by first | (rw [oneP_s, onP, if_neg (by rw [htk]; decide), if_pos ⟨htk, rfl⟩, hr19]; done) | (rw [oneP_s, onP, if_neg (by rw [htk]; decide), if_neg (by rw [htk]; decide), if_pos ⟨htk, rfl⟩, hr54]; done) | (rw [oneP_s, onP, if_neg (by rw [htk]; decide), if_neg (by rw [htk]; decide), if_pos ⟨htk, rfl⟩, hr54]; exact if_pos h41) | (rw [oneP_s, onP, if_neg (by rw [htk]; decide), if_neg (by rw [htk]; decide), if_pos ⟨htk, rfl⟩, hr54]; exact if_neg h41) | (rw [oneP_s, onP, if_neg (by rw [htk]; decide), if_neg (by simp), if_neg (by simp)]; done) | (rw [oneP_s, onP, if_pos (Or.inl h2)]; done) | (rw [oneP_s, onP, if_pos (Or.inr h3)]; done) | (rw [oneP_s, onP, if_neg (fun h => h.elim h2 h3), if_neg (fun h => h45 h.1), if_neg (fun h => h40 h.1)]; done)) (by first | exact hV19.one (Or.inr rfl) | exact hV54 | (have h9 := num_val (tw := tw0) h2; rw [h9.1]; have h8 := vl_Vl (B := bM A t) (n := n) (p := p) (Or.inl h2) nm; rw [if_pos h9.2] at h8; exact h8) | (have h9 : ¬ 0 ≤ (vlL (bM A t) n p).toInt := (by rw [show vlL (bM A t) n p = (wdT (wlS (bM A t) (stL (bM A t) n p) (nxL (bM A t) n p))).2 from if_pos hk]; rw [tk_k1 hk] at h3; exact wd_neg h3); have h8 := vl_Vl (B := bM A t) (n := n) (p := p) (Or.inr h3) nm; rw [if_neg h9] at h8; exact h8)) (by first | rfl | rw [nI_pred]))
        · have h41 := dec_not c_64
          refine z_aload_n d_X12_one_67 1 rfl ?_
          refine z_callVv 0 c_X12_213 (t_X12_fail0 G b I A z t n nm (tokM (bM A t) n q54) (nI (stL (bM A t) n q54)) (nI (nxL (bM A t) n q54)) (nI (d + 1)) flt (twM (bM A t) n q54 tw54)) rfl rfl rfl rfl (Nat.le_of_ble_eq_true rfl) (rm_le (by omega)) d_X12_one_68 ?_
          refine z_aload_n d_X12_one_71 1 rfl ?_
          refine z_dup d_X12_one_72 rfl ?_
          refine z_get (v := .int (nI (d + 1))) 0 f_X12_210_12 rfl rfl d_X12_one_73 ?_
          refine z_iconst (v := 1) d_X12_one_76 (by decide) ?_
          refine z_isub d_X12_one_77 ?_
          refine z_put 0 (PW G b I A z t n nm (tokM (bM A t) n q54) (nI (stL (bM A t) n q54)) (nI (nxL (bM A t) n q54)) ((nI (d + 1)) - 1) 1 (nI (stL (bM A t) n q54)) (twM (bM A t) n q54 tw54)) p_X12_210_12 rfl rfl rfl (Nat.le_of_ble_eq_true rfl) (pw_21 G b I A z t n nm (tokM (bM A t) n q54) (nI (stL (bM A t) n q54)) (nI (nxL (bM A t) n q54)) (nI (d + 1)) 1 (nI (stL (bM A t) n q54)) (twM (bM A t) n q54 tw54) _) d_X12_one_78 ?_
          refine z_aload_n d_X12_one_81 1 rfl ?_
          refine z_get (v := .int 1) 0 f_X12_203_12 rfl rfl d_X12_one_82 ?_
          refine z_if_ne d_X12_one_85 (fun c_85 => ?_) (fun c_85 => ?_)
          rotate_left
          · exact absurd c_85 (by decide)
          refine z_iload_n d_X12_one_161 0 rfl ?_
          exact z_iret _ d_X12_one_162 rfl (PE.bad (by first | (rw [oneP_s, onP, if_neg (by rw [htk]; decide), if_pos ⟨htk, rfl⟩, hr19]; done) | (rw [oneP_s, onP, if_neg (by rw [htk]; decide), if_neg (by rw [htk]; decide), if_pos ⟨htk, rfl⟩, hr54]; done) | (rw [oneP_s, onP, if_neg (by rw [htk]; decide), if_neg (by rw [htk]; decide), if_pos ⟨htk, rfl⟩, hr54]; exact if_pos h41) | (rw [oneP_s, onP, if_neg (by rw [htk]; decide), if_neg (by rw [htk]; decide), if_pos ⟨htk, rfl⟩, hr54]; exact if_neg h41) | (rw [oneP_s, onP, if_neg (by rw [htk]; decide), if_neg (by simp), if_neg (by simp)]; done) | (rw [oneP_s, onP, if_pos (Or.inl h2)]; done) | (rw [oneP_s, onP, if_pos (Or.inr h3)]; done) | (rw [oneP_s, onP, if_neg (fun h => h.elim h2 h3), if_neg (fun h => h45 h.1), if_neg (fun h => h40 h.1)]; done)) rfl)
  · have htk := dec_of c_8
    refine z_aload_n d_X12_one_11 1 rfl ?_
    refine z_callVp 0 c_X12_254 (t_X12_opensL G b I A z t n nm ht hn hB p hp flt tw0 d hd) rfl rfl rfl rfl (Nat.le_of_ble_eq_true rfl) (rm_le (by omega)) d_X12_one_12 ?_
    refine z_if_eq d_X12_one_15 (fun c_15 => ?_) (fun c_15 => ?_)
    · exact absurd c_15 (by decide)
    refine z_aload_n d_X12_one_18 1 rfl ?_
    refine z_callV 0 c_X12_258 rfl rfl (hon (nxL (bM A t) n p) flt (twM (bM A t) n p tw0) (nx_le _ hp)) rfl rfl (Nat.le_of_ble_eq_true rfl) (rm_le (by omega)) d_X12_one_19 ?_
    rintro v19 w19 ⟨x19, rfl, hE19⟩
    rcases hr19 : oneP (bM A t) n o (nxL (bM A t) n p) with f19 | ⟨c19, q19⟩
    · rw [hr19] at hE19
      obtain ⟨tok19, tat19, here19, opn19, tw19, rfl⟩ := hE19
      refine z_ineg d_X12_one_22 ?_
      refine z_istore_n [(1, .int (-x19)), (0, .ref (b 0))] d_X12_one_23 (by decide) rfl ?_
      refine z_aload_n d_X12_one_24 1 rfl ?_
      refine z_dup d_X12_one_25 rfl ?_
      refine z_get (v := .int opn19) 0 f_X12_210_12 rfl rfl d_X12_one_26 ?_
      refine z_iconst (v := 1) d_X12_one_29 (by decide) ?_
      refine z_isub d_X12_one_30 ?_
      refine z_put 0 (PW G b I A z t n nm tok19 tat19 here19 (opn19 - 1) 1 (nI f19) tw19) p_X12_210_12 rfl rfl rfl (Nat.le_of_ble_eq_true rfl) (pw_21 G b I A z t n nm tok19 tat19 here19 opn19 1 (nI f19) tw19 _) d_X12_one_31 ?_
      refine z_goto d_X12_one_34 ?_
      refine z_iload_n d_X12_one_161 0 rfl ?_
      exact z_iret _ d_X12_one_162 rfl (PE.bad (by first | (rw [oneP_s, onP, if_neg (by rw [htk]; decide), if_pos ⟨htk, rfl⟩, hr19]; done) | (rw [oneP_s, onP, if_neg (by rw [htk]; decide), if_neg (by rw [htk]; decide), if_pos ⟨htk, rfl⟩, hr54]; done) | (rw [oneP_s, onP, if_neg (by rw [htk]; decide), if_neg (by rw [htk]; decide), if_pos ⟨htk, rfl⟩, hr54]; exact if_pos h41) | (rw [oneP_s, onP, if_neg (by rw [htk]; decide), if_neg (by rw [htk]; decide), if_pos ⟨htk, rfl⟩, hr54]; exact if_neg h41) | (rw [oneP_s, onP, if_neg (by rw [htk]; decide), if_neg (by simp), if_neg (by simp)]; done) | (rw [oneP_s, onP, if_pos (Or.inl h2)]; done) | (rw [oneP_s, onP, if_pos (Or.inr h3)]; done) | (rw [oneP_s, onP, if_neg (fun h => h.elim h2 h3), if_neg (fun h => h45 h.1), if_neg (fun h => h40 h.1)]; done)) rfl)
    · rw [hr19] at hE19
      obtain ⟨hV19, tw19, rfl⟩ := hE19
      have hg19 := ((lv_gd (bM A t) n o).1 _ (nx_le _ hp)).1 c19 q19 hr19
      refine z_ineg d_X12_one_22 ?_
      refine z_istore_n [(1, .int (-x19)), (0, .ref (b 0))] d_X12_one_23 (by decide) rfl ?_
      refine z_aload_n d_X12_one_24 1 rfl ?_
      refine z_dup d_X12_one_25 rfl ?_
      refine z_get (v := .int (nI (d + 1))) 0 f_X12_210_12 rfl rfl d_X12_one_26 ?_
      refine z_iconst (v := 1) d_X12_one_29 (by decide) ?_
      refine z_isub d_X12_one_30 ?_
      refine z_put 0 (LW G b I A z t n nm q19 ((nI (d + 1)) - 1) 0 flt tw19) p_X12_210_12 rfl rfl rfl (Nat.le_of_ble_eq_true rfl) (pw_21 G b I A z t n nm (tokM (bM A t) n q19) (nI (stL (bM A t) n q19)) (nI (nxL (bM A t) n q19)) (nI (d + 1)) 0 flt (twM (bM A t) n q19 tw19) _) d_X12_one_31 ?_
      refine z_goto d_X12_one_34 ?_
      refine z_iload_n d_X12_one_161 0 rfl ?_
      exact z_iret _ d_X12_one_162 rfl (PE.ok (by first | (rw [oneP_s, onP, if_neg (by rw [htk]; decide), if_pos ⟨htk, rfl⟩, hr19]; done) | (rw [oneP_s, onP, if_neg (by rw [htk]; decide), if_neg (by rw [htk]; decide), if_pos ⟨htk, rfl⟩, hr54]; done) | (rw [oneP_s, onP, if_neg (by rw [htk]; decide), if_neg (by rw [htk]; decide), if_pos ⟨htk, rfl⟩, hr54]; exact if_pos h41) | (rw [oneP_s, onP, if_neg (by rw [htk]; decide), if_neg (by rw [htk]; decide), if_pos ⟨htk, rfl⟩, hr54]; exact if_neg h41) | (rw [oneP_s, onP, if_neg (by rw [htk]; decide), if_neg (by simp), if_neg (by simp)]; done) | (rw [oneP_s, onP, if_pos (Or.inl h2)]; done) | (rw [oneP_s, onP, if_pos (Or.inr h3)]; done) | (rw [oneP_s, onP, if_neg (fun h => h.elim h2 h3), if_neg (fun h => h45 h.1), if_neg (fun h => h40 h.1)]; done)) (by first | exact hV19.one (Or.inr rfl) | exact hV54 | (have h9 := num_val (tw := tw0) h2; rw [h9.1]; have h8 := vl_Vl (B := bM A t) (n := n) (p := p) (Or.inl h2) nm; rw [if_pos h9.2] at h8; exact h8) | (have h9 : ¬ 0 ≤ (vlL (bM A t) n p).toInt := (by rw [show vlL (bM A t) n p = (wdT (wlS (bM A t) (stL (bM A t) n p) (nxL (bM A t) n p))).2 from if_pos hk]; rw [tk_k1 hk] at h3; exact wd_neg h3); have h8 := vl_Vl (B := bM A t) (n := n) (p := p) (Or.inr h3) nm; rw [if_neg h9] at h8; exact h8)) (by first | rfl | rw [nI_pred]))
theorem tw_sg {B : Nat → Int32} {n p : Nat} {tw : Int64} {c : Int32} (hc : isSg c = true) (h : tkL B n p = c) : twM B n p tw = c.toInt64 := by
  have h3 := sg_kd hc h
  rw [tw_3 h3, ← tk_k3 h3, h]
set_option maxHeartbeats 4000000 in
set_option maxRecDepth 100000 in
theorem l_X12_term (G : GT) (b : Nat → Nat) (I : Nat → Int32) (A : Nat → Nat → Int32) (z : Int32) (t n : Nat) (nm : Nat → Int32) (ht : t < 6) (hn : n ≤ 160) (hB : ∀ i, i < n → 0 ≤ (bM A t i).toInt) (d : Nat) (P : Nat → PR) (dn : Nat) (hP : CtP G b I A z t n nm mX12_one dn d P) (gd : GdP n P) (dp : Nat) (hd1 : 4 ≤ dp) (hd2 : dn + 1 ≤ dp) : ∀ (f : Nat)  (c : List Int32) (q : Nat) (x flt : Int32) (tw0 : Int64) (hV : Vl nm c x) (hq : q ≤ n) (hm : n < q + f), Tr G mX12_term (Rm dp 0 0) (OM G (PE G b I A z t n nm (nI d) flt (lpS (bM A t) n opT P f c q)) 0 0) 0 0 5 [(1, .int x), (0, .ref (b 0))] [] (LW G b I A z t n nm q (nI d) 0 flt tw0) := by
  intro f
  induction f with
  | zero =>
    intro c q x flt tw0 hV hq hm
    exact absurd hm (by omega)
  | succ f ih =>
    intro c q x flt tw0 hV hq hm
    refine z_aload_n d_X12_term_5 1 rfl ?_
    refine z_bipush (v := 42) d_X12_term_6 (by decide) ?_
    refine z_callVp 0 c_X12_251 (t_sg G b I A z t n nm q (nI d) flt tw0 42 (by decide)) rfl rfl rfl rfl (Nat.le_of_ble_eq_true rfl) (rm_le (by omega)) d_X12_term_8 ?_
    refine z_if_eq d_X12_term_11 (fun c_11 => ?_) (fun c_11 => ?_)
    · have hop : opT (tkL (bM A t) n q) = 0 := by unfold opT; rw [if_neg (dec_not c_11)]
      refine z_iload_n d_X12_term_28 0 rfl ?_
      exact z_iret _ d_X12_term_29 rfl (PE.ok (by rw [lpS, if_pos hop]) hV rfl)
    · have hop : opT (tkL (bM A t) n q) = -14 := by rw [dec_of c_11]; rfl
      refine z_aload_n d_X12_term_14 1 rfl ?_
      refine z_callVv 0 c_X12_216 (t_X12_next1 G b I A z t n nm (nI d) 0 flt (twM (bM A t) n q tw0) (nxL (bM A t) n q) ht hn (nx_le _ hq) hB (tokM (bM A t) n q) (nI (stL (bM A t) n q))) rfl rfl rfl rfl (Nat.le_of_ble_eq_true rfl) (rm_le (by omega)) d_X12_term_15 ?_
      refine z_iload_n d_X12_term_18 0 rfl ?_
      refine z_aload_n d_X12_term_19 1 rfl ?_
      refine z_callV 0 c_X12_258 rfl rfl (hP (nxL (bM A t) n q) flt (twM (bM A t) n q tw0) (nx_le _ hq)) rfl rfl (Nat.le_of_ble_eq_true rfl) (rm_le (by omega)) d_X12_term_20 ?_
      rintro v20 w20 ⟨x20, rfl, hE20⟩
      rcases hr20 : P (nxL (bM A t) n q) with f20 | ⟨c20, q20⟩
      · rw [hr20] at hE20
        obtain ⟨tok20, tat20, here20, opn20, tw20, rfl⟩ := hE20
        refine z_imul d_X12_term_23 ?_
        refine z_istore_n [(1, .int (x * x20)), (0, .ref (b 0))] d_X12_term_24 (by decide) rfl ?_
        refine z_goto d_X12_term_25 ?_
        refine z_aload_n d_X12_term_5 1 rfl ?_
        refine z_bipush (v := 42) d_X12_term_6 (by decide) ?_
        refine z_callVp 0 c_X12_251 (t_sgB G b I A z t n nm tok20 tat20 here20 opn20 (nI f20) tw20 42) rfl rfl rfl rfl (Nat.le_of_ble_eq_true rfl) (rm_le (by omega)) d_X12_term_8 ?_
        refine z_if_eq d_X12_term_11 (fun c_11 => ?_) (fun c_11 => ?_)
        rotate_left
        · exact absurd c_11 (by decide)
        refine z_iload_n d_X12_term_28 0 rfl ?_
        exact z_iret _ d_X12_term_29 rfl (PE.bad (by rw [lpS, if_neg (by rw [hop]; decide), hr20]) rfl)
      · rw [hr20] at hE20
        obtain ⟨hV20, tw20, rfl⟩ := hE20
        have hg20 := (gd _ (nx_le _ hq)).1 c20 q20 hr20
        refine z_imul d_X12_term_23 ?_
        refine z_istore_n [(1, .int (x * x20)), (0, .ref (b 0))] d_X12_term_24 (by decide) rfl ?_
        refine z_goto d_X12_term_25 ?_
        have e9 : lpS (bM A t) n opT P (f + 1) c q = lpS (bM A t) n opT P f (c ++ c20 ++ [-14]) q20 := by rw [lpS, if_neg (by rw [hop]; decide), hr20, hop]
        rw [e9]
        exact ih (c ++ c20 ++ [-14]) q20 (x * x20) flt tw20 (hV.two hV20 (by decide)) hg20.2.1 (by have h7 := hg20.1; have h8 := stL_ge (bM A t) n q; have h9 := op_tk (B := bM A t) (n := n) (q := q) (op := opT) (by decide) (by decide) (by rw [hop]; decide); omega)
set_option maxHeartbeats 4000000 in
set_option maxRecDepth 100000 in
theorem t_X12_term (G : GT) (b : Nat → Nat) (I : Nat → Int32) (A : Nat → Nat → Int32) (z : Int32) (t n : Nat) (nm : Nat → Int32) (ht : t < 6) (hn : n ≤ 160) (hB : ∀ i, i < n → 0 ≤ (bM A t i).toInt) (d : Nat) (P : Nat → PR) (dn : Nat) (hP : CtP G b I A z t n nm mX12_one dn d P) (gd : GdP n P) (dp : Nat) (hd1 : 4 ≤ dp) (hd2 : dn + 1 ≤ dp) (p : Nat) (flt : Int32) (tw0 : Int64) (hp : p ≤ n)  : Ct G mX12_term dp 0 0 [.ref (b 0)] (LW G b I A z t n nm p (nI d) 0 flt tw0) (PE G b I A z t n nm (nI d) flt (thL (bM A t) n P opT p)) := by
  refine Ct.intro [(0, .ref (b 0))] (by decide) rfl (Nat.le_of_ble_eq_true rfl) ?_
  refine z_aload_n d_X12_term_0 0 rfl ?_
  refine z_callV 0 c_X12_258 rfl rfl (hP p flt tw0 hp) rfl rfl (Nat.le_of_ble_eq_true rfl) (rm_le (by omega)) d_X12_term_1 ?_
  rintro v1 w1 ⟨x1, rfl, hE1⟩
  rcases hr1 : P p with f1 | ⟨c1, q1⟩
  · rw [hr1] at hE1
    obtain ⟨tok1, tat1, here1, opn1, tw1, rfl⟩ := hE1
    refine z_istore_n [(1, .int x1), (0, .ref (b 0))] d_X12_term_4 (by decide) rfl ?_
    refine z_aload_n d_X12_term_5 1 rfl ?_
    refine z_bipush (v := 42) d_X12_term_6 (by decide) ?_
    refine z_callVp 0 c_X12_251 (t_sgB G b I A z t n nm tok1 tat1 here1 opn1 (nI f1) tw1 42) rfl rfl rfl rfl (Nat.le_of_ble_eq_true rfl) (rm_le (by omega)) d_X12_term_8 ?_
    refine z_if_eq d_X12_term_11 (fun c_11 => ?_) (fun c_11 => ?_)
    rotate_left
    · exact absurd c_11 (by decide)
    refine z_iload_n d_X12_term_28 0 rfl ?_
    exact z_iret _ d_X12_term_29 rfl (PE.bad (by rw [thL, hr1]) rfl)
  · rw [hr1] at hE1
    obtain ⟨hV1, tw1, rfl⟩ := hE1
    have hg1 := (gd _ hp).1 c1 q1 hr1
    refine z_istore_n [(1, .int x1), (0, .ref (b 0))] d_X12_term_4 (by decide) rfl ?_
    have e9 : thL (bM A t) n P opT p = lpS (bM A t) n opT P (n + 1) c1 q1 := by rw [thL, hr1]
    rw [e9]
    exact l_X12_term G b I A z t n nm ht hn hB d P dn hP gd dp hd1 hd2 (n + 1) c1 q1 x1 flt tw1 hV1 hg1.2.1 (by omega)
theorem P_X12_term (G : GT) (b : Nat → Nat) (I : Nat → Int32) (A : Nat → Nat → Int32) (z : Int32) (t n : Nat) (nm : Nat → Int32) (ht : t < 6) (hn : n ≤ 160) (hB : ∀ i, i < n → 0 ≤ (bM A t i).toInt) (d : Nat) (P : Nat → PR) (dn : Nat) (hP : CtP G b I A z t n nm mX12_one dn d P) (gd : GdP n P) (dp : Nat) (hd1 : 4 ≤ dp) (hd2 : dn + 1 ≤ dp) : CtP G b I A z t n nm mX12_term dp d (thL (bM A t) n P opT) := fun p flt tw0 hp => t_X12_term G b I A z t n nm ht hn hB d P dn hP gd dp hd1 hd2 p flt tw0 hp
set_option maxHeartbeats 4000000 in
set_option maxRecDepth 100000 in
theorem l_X12_added (G : GT) (b : Nat → Nat) (I : Nat → Int32) (A : Nat → Nat → Int32) (z : Int32) (t n : Nat) (nm : Nat → Int32) (ht : t < 6) (hn : n ≤ 160) (hB : ∀ i, i < n → 0 ≤ (bM A t i).toInt) (d : Nat) (P : Nat → PR) (dn : Nat) (hP : CtP G b I A z t n nm mX12_term dn d P) (gd : GdP n P) (dp : Nat) (hd1 : 4 ≤ dp) (hd2 : dn + 1 ≤ dp) : ∀ (f : Nat)  (c : List Int32) (q : Nat) (x flt : Int32) (tw0 : Int64) (hV : Vl nm c x) (hq : q ≤ n) (hm : n < q + f), Tr G mX12_added (Rm dp 0 0) (OM G (PE G b I A z t n nm (nI d) flt (lpS (bM A t) n opA P f c q)) 0 0) 0 0 5 [(1, .int x), (0, .ref (b 0))] [] (LW G b I A z t n nm q (nI d) 0 flt tw0) := by
  intro f
  induction f with
  | zero =>
    intro c q x flt tw0 hV hq hm
    exact absurd hm (by omega)
  | succ f ih =>
    intro c q x flt tw0 hV hq hm
    refine z_aload_n d_X12_added_5 1 rfl ?_
    refine z_bipush (v := 43) d_X12_added_6 (by decide) ?_
    refine z_callVp 0 c_X12_251 (t_sg G b I A z t n nm q (nI d) flt tw0 43 (by decide)) rfl rfl rfl rfl (Nat.le_of_ble_eq_true rfl) (rm_le (by omega)) d_X12_added_8 ?_
    refine z_if_ne d_X12_added_11 (fun c_11 => ?_) (fun c_11 => ?_)
    · have hop : opA (tkL (bM A t) n q) = -12 := by rw [dec_of c_11]; rfl
      refine z_aload_n d_X12_added_23 1 rfl ?_
      refine z_get (v := .long (twM (bM A t) n q tw0)) 0 f_X12_187_12 rfl rfl d_X12_added_24 ?_
      refine z_ldc2 d_X12_added_27 w_1276 ?_
      refine z_lcmp d_X12_added_30 ?_
      refine z_if_ne d_X12_added_31 (fun c_31 => ?_) (fun c_31 => ?_)
      · exact absurd c_31 (by rw [tw_sg (by decide) (dec_of c_11)]; decide)
      refine z_iconst (v := 1) d_X12_added_34 (by decide) ?_
      refine z_goto d_X12_added_35 ?_
      refine z_istore_n [(2, .int 1), (1, .int x), (0, .ref (b 0))] d_X12_added_39 (by decide) rfl ?_
      refine z_aload_n d_X12_added_40 2 rfl ?_
      refine z_callVv 0 c_X12_216 (t_X12_next1 G b I A z t n nm (nI d) 0 flt (twM (bM A t) n q tw0) (nxL (bM A t) n q) ht hn (nx_le _ hq) hB (tokM (bM A t) n q) (nI (stL (bM A t) n q))) rfl rfl rfl rfl (Nat.le_of_ble_eq_true rfl) (rm_le (by omega)) d_X12_added_41 ?_
      refine z_aload_n d_X12_added_44 2 rfl ?_
      refine z_callV 0 c_X12_267 rfl rfl (hP (nxL (bM A t) n q) flt (twM (bM A t) n q tw0) (nx_le _ hq)) rfl rfl (Nat.le_of_ble_eq_true rfl) (rm_le (by omega)) d_X12_added_45 ?_
      rintro v45 w45 ⟨x45, rfl, hE45⟩
      rcases hr45 : P (nxL (bM A t) n q) with f45 | ⟨c45, q45⟩
      · rw [hr45] at hE45
        obtain ⟨tok45, tat45, here45, opn45, tw45, rfl⟩ := hE45
        refine z_istore_n [(3, .int x45), (2, .int 1), (1, .int x), (0, .ref (b 0))] d_X12_added_48 (by decide) rfl ?_
        refine z_iload_n d_X12_added_49 1 rfl ?_
        refine z_if_eq d_X12_added_50 (fun c_50 => ?_) (fun c_50 => ?_)
        · exact absurd c_50 (by decide)
        refine z_iload_n d_X12_added_53 2 rfl ?_
        refine z_iload_n d_X12_added_54 0 rfl ?_
        refine z_iadd d_X12_added_55 ?_
        refine z_goto d_X12_added_56 ?_
        refine z_istore_n [(1, .int (x + x45)), (3, .int x45), (2, .int 1), (0, .ref (b 0))] d_X12_added_62 (by decide) rfl ?_
        refine z_goto d_X12_added_63 ?_
        refine z_aload_n d_X12_added_5 3 rfl ?_
        refine z_bipush (v := 43) d_X12_added_6 (by decide) ?_
        refine z_callVp 0 c_X12_251 (t_sgB G b I A z t n nm tok45 tat45 here45 opn45 (nI f45) tw45 43) rfl rfl rfl rfl (Nat.le_of_ble_eq_true rfl) (rm_le (by omega)) d_X12_added_8 ?_
        refine z_if_ne d_X12_added_11 (fun c_11 => ?_) (fun c_11 => ?_)
        · exact absurd c_11 (by decide)
        refine z_aload_n d_X12_added_14 3 rfl ?_
        refine z_bipush (v := 45) d_X12_added_15 (by decide) ?_
        refine z_callVp 0 c_X12_251 (t_sgB G b I A z t n nm tok45 tat45 here45 opn45 (nI f45) tw45 45) rfl rfl rfl rfl (Nat.le_of_ble_eq_true rfl) (rm_le (by omega)) d_X12_added_17 ?_
        refine z_if_eq d_X12_added_20 (fun c_20 => ?_) (fun c_20 => ?_)
        rotate_left
        · exact absurd c_20 (by decide)
        refine z_iload_n d_X12_added_66 0 rfl ?_
        exact z_iret _ d_X12_added_67 rfl (PE.bad (by rw [lpS, if_neg (by rw [hop]; decide), hr45]) rfl)
      · rw [hr45] at hE45
        obtain ⟨hV45, tw45, rfl⟩ := hE45
        have hg45 := (gd _ (nx_le _ hq)).1 c45 q45 hr45
        refine z_istore_n [(3, .int x45), (2, .int 1), (1, .int x), (0, .ref (b 0))] d_X12_added_48 (by decide) rfl ?_
        refine z_iload_n d_X12_added_49 1 rfl ?_
        refine z_if_eq d_X12_added_50 (fun c_50 => ?_) (fun c_50 => ?_)
        · exact absurd c_50 (by decide)
        refine z_iload_n d_X12_added_53 2 rfl ?_
        refine z_iload_n d_X12_added_54 0 rfl ?_
        refine z_iadd d_X12_added_55 ?_
        refine z_goto d_X12_added_56 ?_
        refine z_istore_n [(1, .int (x + x45)), (3, .int x45), (2, .int 1), (0, .ref (b 0))] d_X12_added_62 (by decide) rfl ?_
        refine z_goto d_X12_added_63 ?_
        refine z_perm [0, 3] rfl ?_
        have e9 : lpS (bM A t) n opA P (f + 1) c q = lpS (bM A t) n opA P f (c ++ c45 ++ [-12]) q45 := by rw [lpS, if_neg (by rw [hop]; decide), hr45, hop]
        rw [e9]
        exact ih (c ++ c45 ++ [-12]) q45 (x + x45) flt tw45 (hV.two hV45 (by decide)) hg45.2.1 (by have h7 := hg45.1; have h8 := stL_ge (bM A t) n q; have h9 := op_tk (B := bM A t) (n := n) (q := q) (op := opA) (by decide) (by decide) (by rw [hop]; decide); omega)
    · refine z_aload_n d_X12_added_14 1 rfl ?_
      refine z_bipush (v := 45) d_X12_added_15 (by decide) ?_
      refine z_callVp 0 c_X12_251 (t_sg G b I A z t n nm q (nI d) flt tw0 45 (by decide)) rfl rfl rfl rfl (Nat.le_of_ble_eq_true rfl) (rm_le (by omega)) d_X12_added_17 ?_
      refine z_if_eq d_X12_added_20 (fun c_20 => ?_) (fun c_20 => ?_)
      · have hop : opA (tkL (bM A t) n q) = 0 := by unfold opA; rw [if_neg (dec_not c_11)]; rw [if_neg (dec_not c_20)]
        refine z_iload_n d_X12_added_66 0 rfl ?_
        exact z_iret _ d_X12_added_67 rfl (PE.ok (by rw [lpS, if_pos hop]) hV rfl)
      · have hop : opA (tkL (bM A t) n q) = -13 := by rw [dec_of c_20]; rfl
        refine z_aload_n d_X12_added_23 1 rfl ?_
        refine z_get (v := .long (twM (bM A t) n q tw0)) 0 f_X12_187_12 rfl rfl d_X12_added_24 ?_
        refine z_ldc2 d_X12_added_27 w_1276 ?_
        refine z_lcmp d_X12_added_30 ?_
        refine z_if_ne d_X12_added_31 (fun c_31 => ?_) (fun c_31 => ?_)
        rotate_left
        · exact absurd c_31 (by rw [tw_sg (by decide) (dec_of c_20)]; decide)
        refine z_iconst (v := 0) d_X12_added_38 (by decide) ?_
        refine z_istore_n [(2, .int 0), (1, .int x), (0, .ref (b 0))] d_X12_added_39 (by decide) rfl ?_
        refine z_aload_n d_X12_added_40 2 rfl ?_
        refine z_callVv 0 c_X12_216 (t_X12_next1 G b I A z t n nm (nI d) 0 flt (twM (bM A t) n q tw0) (nxL (bM A t) n q) ht hn (nx_le _ hq) hB (tokM (bM A t) n q) (nI (stL (bM A t) n q))) rfl rfl rfl rfl (Nat.le_of_ble_eq_true rfl) (rm_le (by omega)) d_X12_added_41 ?_
        refine z_aload_n d_X12_added_44 2 rfl ?_
        refine z_callV 0 c_X12_267 rfl rfl (hP (nxL (bM A t) n q) flt (twM (bM A t) n q tw0) (nx_le _ hq)) rfl rfl (Nat.le_of_ble_eq_true rfl) (rm_le (by omega)) d_X12_added_45 ?_
        rintro v45 w45 ⟨x45, rfl, hE45⟩
        rcases hr45 : P (nxL (bM A t) n q) with f45 | ⟨c45, q45⟩
        · rw [hr45] at hE45
          obtain ⟨tok45, tat45, here45, opn45, tw45, rfl⟩ := hE45
          refine z_istore_n [(3, .int x45), (2, .int 0), (1, .int x), (0, .ref (b 0))] d_X12_added_48 (by decide) rfl ?_
          refine z_iload_n d_X12_added_49 1 rfl ?_
          refine z_if_eq d_X12_added_50 (fun c_50 => ?_) (fun c_50 => ?_)
          rotate_left
          · exact absurd c_50 (by decide)
          refine z_iload_n d_X12_added_59 2 rfl ?_
          refine z_iload_n d_X12_added_60 0 rfl ?_
          refine z_isub d_X12_added_61 ?_
          refine z_istore_n [(1, .int (x - x45)), (3, .int x45), (2, .int 0), (0, .ref (b 0))] d_X12_added_62 (by decide) rfl ?_
          refine z_goto d_X12_added_63 ?_
          refine z_aload_n d_X12_added_5 3 rfl ?_
          refine z_bipush (v := 43) d_X12_added_6 (by decide) ?_
          refine z_callVp 0 c_X12_251 (t_sgB G b I A z t n nm tok45 tat45 here45 opn45 (nI f45) tw45 43) rfl rfl rfl rfl (Nat.le_of_ble_eq_true rfl) (rm_le (by omega)) d_X12_added_8 ?_
          refine z_if_ne d_X12_added_11 (fun c_11 => ?_) (fun c_11 => ?_)
          · exact absurd c_11 (by decide)
          refine z_aload_n d_X12_added_14 3 rfl ?_
          refine z_bipush (v := 45) d_X12_added_15 (by decide) ?_
          refine z_callVp 0 c_X12_251 (t_sgB G b I A z t n nm tok45 tat45 here45 opn45 (nI f45) tw45 45) rfl rfl rfl rfl (Nat.le_of_ble_eq_true rfl) (rm_le (by omega)) d_X12_added_17 ?_
          refine z_if_eq d_X12_added_20 (fun c_20 => ?_) (fun c_20 => ?_)
          rotate_left
          · exact absurd c_20 (by decide)
          refine z_iload_n d_X12_added_66 0 rfl ?_
          exact z_iret _ d_X12_added_67 rfl (PE.bad (by rw [lpS, if_neg (by rw [hop]; decide), hr45]) rfl)
        · rw [hr45] at hE45
          obtain ⟨hV45, tw45, rfl⟩ := hE45
          have hg45 := (gd _ (nx_le _ hq)).1 c45 q45 hr45
          refine z_istore_n [(3, .int x45), (2, .int 0), (1, .int x), (0, .ref (b 0))] d_X12_added_48 (by decide) rfl ?_
          refine z_iload_n d_X12_added_49 1 rfl ?_
          refine z_if_eq d_X12_added_50 (fun c_50 => ?_) (fun c_50 => ?_)
          rotate_left
          · exact absurd c_50 (by decide)
          refine z_iload_n d_X12_added_59 2 rfl ?_
          refine z_iload_n d_X12_added_60 0 rfl ?_
          refine z_isub d_X12_added_61 ?_
          refine z_istore_n [(1, .int (x - x45)), (3, .int x45), (2, .int 0), (0, .ref (b 0))] d_X12_added_62 (by decide) rfl ?_
          refine z_goto d_X12_added_63 ?_
          refine z_perm [0, 3] rfl ?_
          have e9 : lpS (bM A t) n opA P (f + 1) c q = lpS (bM A t) n opA P f (c ++ c45 ++ [-13]) q45 := by rw [lpS, if_neg (by rw [hop]; decide), hr45, hop]
          rw [e9]
          exact ih (c ++ c45 ++ [-13]) q45 (x - x45) flt tw45 (hV.two hV45 (by decide)) hg45.2.1 (by have h7 := hg45.1; have h8 := stL_ge (bM A t) n q; have h9 := op_tk (B := bM A t) (n := n) (q := q) (op := opA) (by decide) (by decide) (by rw [hop]; decide); omega)
set_option maxHeartbeats 4000000 in
set_option maxRecDepth 100000 in
theorem t_X12_added (G : GT) (b : Nat → Nat) (I : Nat → Int32) (A : Nat → Nat → Int32) (z : Int32) (t n : Nat) (nm : Nat → Int32) (ht : t < 6) (hn : n ≤ 160) (hB : ∀ i, i < n → 0 ≤ (bM A t i).toInt) (d : Nat) (P : Nat → PR) (dn : Nat) (hP : CtP G b I A z t n nm mX12_term dn d P) (gd : GdP n P) (dp : Nat) (hd1 : 4 ≤ dp) (hd2 : dn + 1 ≤ dp) (p : Nat) (flt : Int32) (tw0 : Int64) (hp : p ≤ n)  : Ct G mX12_added dp 0 0 [.ref (b 0)] (LW G b I A z t n nm p (nI d) 0 flt tw0) (PE G b I A z t n nm (nI d) flt (thL (bM A t) n P opA p)) := by
  refine Ct.intro [(0, .ref (b 0))] (by decide) rfl (Nat.le_of_ble_eq_true rfl) ?_
  refine z_aload_n d_X12_added_0 0 rfl ?_
  refine z_callV 0 c_X12_267 rfl rfl (hP p flt tw0 hp) rfl rfl (Nat.le_of_ble_eq_true rfl) (rm_le (by omega)) d_X12_added_1 ?_
  rintro v1 w1 ⟨x1, rfl, hE1⟩
  rcases hr1 : P p with f1 | ⟨c1, q1⟩
  · rw [hr1] at hE1
    obtain ⟨tok1, tat1, here1, opn1, tw1, rfl⟩ := hE1
    refine z_istore_n [(1, .int x1), (0, .ref (b 0))] d_X12_added_4 (by decide) rfl ?_
    refine z_aload_n d_X12_added_5 1 rfl ?_
    refine z_bipush (v := 43) d_X12_added_6 (by decide) ?_
    refine z_callVp 0 c_X12_251 (t_sgB G b I A z t n nm tok1 tat1 here1 opn1 (nI f1) tw1 43) rfl rfl rfl rfl (Nat.le_of_ble_eq_true rfl) (rm_le (by omega)) d_X12_added_8 ?_
    refine z_if_ne d_X12_added_11 (fun c_11 => ?_) (fun c_11 => ?_)
    · exact absurd c_11 (by decide)
    refine z_aload_n d_X12_added_14 1 rfl ?_
    refine z_bipush (v := 45) d_X12_added_15 (by decide) ?_
    refine z_callVp 0 c_X12_251 (t_sgB G b I A z t n nm tok1 tat1 here1 opn1 (nI f1) tw1 45) rfl rfl rfl rfl (Nat.le_of_ble_eq_true rfl) (rm_le (by omega)) d_X12_added_17 ?_
    refine z_if_eq d_X12_added_20 (fun c_20 => ?_) (fun c_20 => ?_)
    rotate_left
    · exact absurd c_20 (by decide)
    refine z_iload_n d_X12_added_66 0 rfl ?_
    exact z_iret _ d_X12_added_67 rfl (PE.bad (by rw [thL, hr1]) rfl)
  · rw [hr1] at hE1
    obtain ⟨hV1, tw1, rfl⟩ := hE1
    have hg1 := (gd _ hp).1 c1 q1 hr1
    refine z_istore_n [(1, .int x1), (0, .ref (b 0))] d_X12_added_4 (by decide) rfl ?_
    have e9 : thL (bM A t) n P opA p = lpS (bM A t) n opA P (n + 1) c1 q1 := by rw [thL, hr1]
    rw [e9]
    exact l_X12_added G b I A z t n nm ht hn hB d P dn hP gd dp hd1 hd2 (n + 1) c1 q1 x1 flt tw1 hV1 hg1.2.1 (by omega)
theorem P_X12_added (G : GT) (b : Nat → Nat) (I : Nat → Int32) (A : Nat → Nat → Int32) (z : Int32) (t n : Nat) (nm : Nat → Int32) (ht : t < 6) (hn : n ≤ 160) (hB : ∀ i, i < n → 0 ≤ (bM A t i).toInt) (d : Nat) (P : Nat → PR) (dn : Nat) (hP : CtP G b I A z t n nm mX12_term dn d P) (gd : GdP n P) (dp : Nat) (hd1 : 4 ≤ dp) (hd2 : dn + 1 ≤ dp) : CtP G b I A z t n nm mX12_added dp d (thL (bM A t) n P opA) := fun p flt tw0 hp => t_X12_added G b I A z t n nm ht hn hB d P dn hP gd dp hd1 hd2 p flt tw0 hp
set_option maxHeartbeats 4000000 in
set_option maxRecDepth 100000 in
theorem l_X12_both (G : GT) (b : Nat → Nat) (I : Nat → Int32) (A : Nat → Nat → Int32) (z : Int32) (t n : Nat) (nm : Nat → Int32) (ht : t < 6) (hn : n ≤ 160) (hB : ∀ i, i < n → 0 ≤ (bM A t i).toInt) (d : Nat) (P : Nat → PR) (dn : Nat) (hP : CtP G b I A z t n nm mX12_not dn d P) (gd : GdP n P) (dp : Nat) (hd1 : 4 ≤ dp) (hd2 : dn + 1 ≤ dp) : ∀ (f : Nat)  (c : List Int32) (q : Nat) (x flt : Int32) (tw0 : Int64) (hV : Vl nm c x) (hq : q ≤ n) (hm : n < q + f), Tr G mX12_both (Rm dp 0 0) (OM G (PE G b I A z t n nm (nI d) flt (lpS (bM A t) n opN P f c q)) 0 0) 0 0 5 [(1, .int x), (0, .ref (b 0))] [] (LW G b I A z t n nm q (nI d) 0 flt tw0) := by
  intro f
  induction f with
  | zero =>
    intro c q x flt tw0 hV hq hm
    exact absurd hm (by omega)
  | succ f ih =>
    intro c q x flt tw0 hV hq hm
    refine z_aload_n d_X12_both_5 1 rfl ?_
    refine z_ldc2 d_X12_both_6 w_1278 ?_
    refine z_callVp 0 c_X12_219 (t_ky G b I A z t n nm q (nI d) flt tw0 hn hq 10 (by decide) (8, 0, 1111, [97, 110, 100]) rfl) rfl rfl rfl rfl (Nat.le_of_ble_eq_true rfl) (rm_le (by omega)) d_X12_both_9 ?_
    refine z_if_eq d_X12_both_12 (fun c_12 => ?_) (fun c_12 => ?_)
    · have hop : opN (tkL (bM A t) n q) = 0 := by unfold opN; rw [if_neg (dec_not c_12)]
      refine z_iload_n d_X12_both_41 0 rfl ?_
      exact z_iret _ d_X12_both_42 rfl (PE.ok (by rw [lpS, if_pos hop]) hV rfl)
    · have hop : opN (tkL (bM A t) n q) = -8 := by rw [dec_of c_12]; rfl
      refine z_aload_n d_X12_both_15 1 rfl ?_
      refine z_callVv 0 c_X12_216 (t_X12_next1 G b I A z t n nm (nI d) 0 flt (twM (bM A t) n q tw0) (nxL (bM A t) n q) ht hn (nx_le _ hq) hB (tokM (bM A t) n q) (nI (stL (bM A t) n q))) rfl rfl rfl rfl (Nat.le_of_ble_eq_true rfl) (rm_le (by omega)) d_X12_both_16 ?_
      refine z_aload_n d_X12_both_19 1 rfl ?_
      refine z_callV 0 c_X12_274 rfl rfl (hP (nxL (bM A t) n q) flt (twM (bM A t) n q tw0) (nx_le _ hq)) rfl rfl (Nat.le_of_ble_eq_true rfl) (rm_le (by omega)) d_X12_both_20 ?_
      rintro v20 w20 ⟨x20, rfl, hE20⟩
      rcases hr20 : P (nxL (bM A t) n q) with f20 | ⟨c20, q20⟩
      · rw [hr20] at hE20
        obtain ⟨tok20, tat20, here20, opn20, tw20, rfl⟩ := hE20
        refine z_istore_n [(2, .int x20), (1, .int x), (0, .ref (b 0))] d_X12_both_23 (by decide) rfl ?_
        refine z_iload_n d_X12_both_24 1 rfl ?_
        refine z_if_eq d_X12_both_25 (fun c_25 => ?_) (fun c_25 => ?_)
        · refine z_iconst (v := 0) d_X12_both_36 (by decide) ?_
          refine z_istore_n [(1, .int 0), (2, .int x20), (0, .ref (b 0))] d_X12_both_37 (by decide) rfl ?_
          refine z_goto d_X12_both_38 ?_
          refine z_aload_n d_X12_both_5 2 rfl ?_
          refine z_ldc2 d_X12_both_6 w_1278 ?_
          refine z_callVp 0 c_X12_219 (t_wdB G b I A z t n nm tok20 tat20 here20 opn20 (nI f20) tw20 1111) rfl rfl rfl rfl (Nat.le_of_ble_eq_true rfl) (rm_le (by omega)) d_X12_both_9 ?_
          refine z_if_eq d_X12_both_12 (fun c_12 => ?_) (fun c_12 => ?_)
          rotate_left
          · exact absurd c_12 (by decide)
          refine z_iload_n d_X12_both_41 0 rfl ?_
          exact z_iret _ d_X12_both_42 rfl (PE.bad (by rw [lpS, if_neg (by rw [hop]; decide), hr20]) rfl)
        · refine z_iload_n d_X12_both_28 0 rfl ?_
          refine z_if_eq d_X12_both_29 (fun c_29 => ?_) (fun c_29 => ?_)
          · refine z_iconst (v := 0) d_X12_both_36 (by decide) ?_
            refine z_istore_n [(1, .int 0), (2, .int x20), (0, .ref (b 0))] d_X12_both_37 (by decide) rfl ?_
            refine z_goto d_X12_both_38 ?_
            refine z_aload_n d_X12_both_5 2 rfl ?_
            refine z_ldc2 d_X12_both_6 w_1278 ?_
            refine z_callVp 0 c_X12_219 (t_wdB G b I A z t n nm tok20 tat20 here20 opn20 (nI f20) tw20 1111) rfl rfl rfl rfl (Nat.le_of_ble_eq_true rfl) (rm_le (by omega)) d_X12_both_9 ?_
            refine z_if_eq d_X12_both_12 (fun c_12 => ?_) (fun c_12 => ?_)
            rotate_left
            · exact absurd c_12 (by decide)
            refine z_iload_n d_X12_both_41 0 rfl ?_
            exact z_iret _ d_X12_both_42 rfl (PE.bad (by rw [lpS, if_neg (by rw [hop]; decide), hr20]) rfl)
          · refine z_iconst (v := 1) d_X12_both_32 (by decide) ?_
            refine z_goto d_X12_both_33 ?_
            refine z_istore_n [(1, .int 1), (2, .int x20), (0, .ref (b 0))] d_X12_both_37 (by decide) rfl ?_
            refine z_goto d_X12_both_38 ?_
            refine z_aload_n d_X12_both_5 2 rfl ?_
            refine z_ldc2 d_X12_both_6 w_1278 ?_
            refine z_callVp 0 c_X12_219 (t_wdB G b I A z t n nm tok20 tat20 here20 opn20 (nI f20) tw20 1111) rfl rfl rfl rfl (Nat.le_of_ble_eq_true rfl) (rm_le (by omega)) d_X12_both_9 ?_
            refine z_if_eq d_X12_both_12 (fun c_12 => ?_) (fun c_12 => ?_)
            rotate_left
            · exact absurd c_12 (by decide)
            refine z_iload_n d_X12_both_41 0 rfl ?_
            exact z_iret _ d_X12_both_42 rfl (PE.bad (by rw [lpS, if_neg (by rw [hop]; decide), hr20]) rfl)
      · rw [hr20] at hE20
        obtain ⟨hV20, tw20, rfl⟩ := hE20
        have hg20 := (gd _ (nx_le _ hq)).1 c20 q20 hr20
        refine z_istore_n [(2, .int x20), (1, .int x), (0, .ref (b 0))] d_X12_both_23 (by decide) rfl ?_
        refine z_iload_n d_X12_both_24 1 rfl ?_
        refine z_if_eq d_X12_both_25 (fun c_25 => ?_) (fun c_25 => ?_)
        · refine z_iconst (v := 0) d_X12_both_36 (by decide) ?_
          refine z_istore_n [(1, .int 0), (2, .int x20), (0, .ref (b 0))] d_X12_both_37 (by decide) rfl ?_
          refine z_goto d_X12_both_38 ?_
          refine z_perm [0, 2] rfl ?_
          have e9 : lpS (bM A t) n opN P (f + 1) c q = lpS (bM A t) n opN P f (c ++ c20 ++ [-8]) q20 := by rw [lpS, if_neg (by rw [hop]; decide), hr20, hop]
          rw [e9]
          exact ih (c ++ c20 ++ [-8]) q20 0 flt tw20 ((by have h := hV.two hV20 (s := -8) (by decide); simpa [ex2, b01, *] using h)) hg20.2.1 (by have h7 := hg20.1; have h8 := stL_ge (bM A t) n q; have h9 := op_tk (B := bM A t) (n := n) (q := q) (op := opN) (by decide) (by decide) (by rw [hop]; decide); omega)
        · refine z_iload_n d_X12_both_28 0 rfl ?_
          refine z_if_eq d_X12_both_29 (fun c_29 => ?_) (fun c_29 => ?_)
          · refine z_iconst (v := 0) d_X12_both_36 (by decide) ?_
            refine z_istore_n [(1, .int 0), (2, .int x20), (0, .ref (b 0))] d_X12_both_37 (by decide) rfl ?_
            refine z_goto d_X12_both_38 ?_
            refine z_perm [0, 2] rfl ?_
            have e9 : lpS (bM A t) n opN P (f + 1) c q = lpS (bM A t) n opN P f (c ++ c20 ++ [-8]) q20 := by rw [lpS, if_neg (by rw [hop]; decide), hr20, hop]
            rw [e9]
            exact ih (c ++ c20 ++ [-8]) q20 0 flt tw20 ((by have h := hV.two hV20 (s := -8) (by decide); simpa [ex2, b01, *] using h)) hg20.2.1 (by have h7 := hg20.1; have h8 := stL_ge (bM A t) n q; have h9 := op_tk (B := bM A t) (n := n) (q := q) (op := opN) (by decide) (by decide) (by rw [hop]; decide); omega)
          · refine z_iconst (v := 1) d_X12_both_32 (by decide) ?_
            refine z_goto d_X12_both_33 ?_
            refine z_istore_n [(1, .int 1), (2, .int x20), (0, .ref (b 0))] d_X12_both_37 (by decide) rfl ?_
            refine z_goto d_X12_both_38 ?_
            refine z_perm [0, 2] rfl ?_
            have e9 : lpS (bM A t) n opN P (f + 1) c q = lpS (bM A t) n opN P f (c ++ c20 ++ [-8]) q20 := by rw [lpS, if_neg (by rw [hop]; decide), hr20, hop]
            rw [e9]
            exact ih (c ++ c20 ++ [-8]) q20 1 flt tw20 ((by have h := hV.two hV20 (s := -8) (by decide); simpa [ex2, b01, *] using h)) hg20.2.1 (by have h7 := hg20.1; have h8 := stL_ge (bM A t) n q; have h9 := op_tk (B := bM A t) (n := n) (q := q) (op := opN) (by decide) (by decide) (by rw [hop]; decide); omega)
set_option maxHeartbeats 4000000 in
set_option maxRecDepth 100000 in
theorem t_X12_both (G : GT) (b : Nat → Nat) (I : Nat → Int32) (A : Nat → Nat → Int32) (z : Int32) (t n : Nat) (nm : Nat → Int32) (ht : t < 6) (hn : n ≤ 160) (hB : ∀ i, i < n → 0 ≤ (bM A t i).toInt) (d : Nat) (P : Nat → PR) (dn : Nat) (hP : CtP G b I A z t n nm mX12_not dn d P) (gd : GdP n P) (dp : Nat) (hd1 : 4 ≤ dp) (hd2 : dn + 1 ≤ dp) (p : Nat) (flt : Int32) (tw0 : Int64) (hp : p ≤ n)  : Ct G mX12_both dp 0 0 [.ref (b 0)] (LW G b I A z t n nm p (nI d) 0 flt tw0) (PE G b I A z t n nm (nI d) flt (thL (bM A t) n P opN p)) := by
  refine Ct.intro [(0, .ref (b 0))] (by decide) rfl (Nat.le_of_ble_eq_true rfl) ?_
  refine z_aload_n d_X12_both_0 0 rfl ?_
  refine z_callV 0 c_X12_274 rfl rfl (hP p flt tw0 hp) rfl rfl (Nat.le_of_ble_eq_true rfl) (rm_le (by omega)) d_X12_both_1 ?_
  rintro v1 w1 ⟨x1, rfl, hE1⟩
  rcases hr1 : P p with f1 | ⟨c1, q1⟩
  · rw [hr1] at hE1
    obtain ⟨tok1, tat1, here1, opn1, tw1, rfl⟩ := hE1
    refine z_istore_n [(1, .int x1), (0, .ref (b 0))] d_X12_both_4 (by decide) rfl ?_
    refine z_aload_n d_X12_both_5 1 rfl ?_
    refine z_ldc2 d_X12_both_6 w_1278 ?_
    refine z_callVp 0 c_X12_219 (t_wdB G b I A z t n nm tok1 tat1 here1 opn1 (nI f1) tw1 1111) rfl rfl rfl rfl (Nat.le_of_ble_eq_true rfl) (rm_le (by omega)) d_X12_both_9 ?_
    refine z_if_eq d_X12_both_12 (fun c_12 => ?_) (fun c_12 => ?_)
    rotate_left
    · exact absurd c_12 (by decide)
    refine z_iload_n d_X12_both_41 0 rfl ?_
    exact z_iret _ d_X12_both_42 rfl (PE.bad (by rw [thL, hr1]) rfl)
  · rw [hr1] at hE1
    obtain ⟨hV1, tw1, rfl⟩ := hE1
    have hg1 := (gd _ hp).1 c1 q1 hr1
    refine z_istore_n [(1, .int x1), (0, .ref (b 0))] d_X12_both_4 (by decide) rfl ?_
    have e9 : thL (bM A t) n P opN p = lpS (bM A t) n opN P (n + 1) c1 q1 := by rw [thL, hr1]
    rw [e9]
    exact l_X12_both G b I A z t n nm ht hn hB d P dn hP gd dp hd1 hd2 (n + 1) c1 q1 x1 flt tw1 hV1 hg1.2.1 (by omega)
theorem P_X12_both (G : GT) (b : Nat → Nat) (I : Nat → Int32) (A : Nat → Nat → Int32) (z : Int32) (t n : Nat) (nm : Nat → Int32) (ht : t < 6) (hn : n ≤ 160) (hB : ∀ i, i < n → 0 ≤ (bM A t i).toInt) (d : Nat) (P : Nat → PR) (dn : Nat) (hP : CtP G b I A z t n nm mX12_not dn d P) (gd : GdP n P) (dp : Nat) (hd1 : 4 ≤ dp) (hd2 : dn + 1 ≤ dp) : CtP G b I A z t n nm mX12_both dp d (thL (bM A t) n P opN) := fun p flt tw0 hp => t_X12_both G b I A z t n nm ht hn hB d P dn hP gd dp hd1 hd2 p flt tw0 hp
set_option maxHeartbeats 4000000 in
set_option maxRecDepth 100000 in
theorem l_X12_either (G : GT) (b : Nat → Nat) (I : Nat → Int32) (A : Nat → Nat → Int32) (z : Int32) (t n : Nat) (nm : Nat → Int32) (ht : t < 6) (hn : n ≤ 160) (hB : ∀ i, i < n → 0 ≤ (bM A t i).toInt) (d : Nat) (P : Nat → PR) (dn : Nat) (hP : CtP G b I A z t n nm mX12_both dn d P) (gd : GdP n P) (dp : Nat) (hd1 : 4 ≤ dp) (hd2 : dn + 1 ≤ dp) : ∀ (f : Nat)  (c : List Int32) (q : Nat) (x flt : Int32) (tw0 : Int64) (hV : Vl nm c x) (hq : q ≤ n) (hm : n < q + f), Tr G mX12_either (Rm dp 0 0) (OM G (PE G b I A z t n nm (nI d) flt (lpS (bM A t) n opO P f c q)) 0 0) 0 0 5 [(1, .int x), (0, .ref (b 0))] [] (LW G b I A z t n nm q (nI d) 0 flt tw0) := by
  intro f
  induction f with
  | zero =>
    intro c q x flt tw0 hV hq hm
    exact absurd hm (by omega)
  | succ f ih =>
    intro c q x flt tw0 hV hq hm
    refine z_aload_n d_X12_either_5 1 rfl ?_
    refine z_ldc2 d_X12_either_6 w_1279 ?_
    refine z_callVp 0 c_X12_219 (t_ky G b I A z t n nm q (nI d) flt tw0 hn hq 9 (by decide) (7, 0, 423, [111, 114]) rfl) rfl rfl rfl rfl (Nat.le_of_ble_eq_true rfl) (rm_le (by omega)) d_X12_either_9 ?_
    refine z_if_eq d_X12_either_12 (fun c_12 => ?_) (fun c_12 => ?_)
    · have hop : opO (tkL (bM A t) n q) = 0 := by unfold opO; rw [if_neg (dec_not c_12)]
      refine z_iload_n d_X12_either_41 0 rfl ?_
      exact z_iret _ d_X12_either_42 rfl (PE.ok (by rw [lpS, if_pos hop]) hV rfl)
    · have hop : opO (tkL (bM A t) n q) = -7 := by rw [dec_of c_12]; rfl
      refine z_aload_n d_X12_either_15 1 rfl ?_
      refine z_callVv 0 c_X12_216 (t_X12_next1 G b I A z t n nm (nI d) 0 flt (twM (bM A t) n q tw0) (nxL (bM A t) n q) ht hn (nx_le _ hq) hB (tokM (bM A t) n q) (nI (stL (bM A t) n q))) rfl rfl rfl rfl (Nat.le_of_ble_eq_true rfl) (rm_le (by omega)) d_X12_either_16 ?_
      refine z_aload_n d_X12_either_19 1 rfl ?_
      refine z_callV 0 c_X12_284 rfl rfl (hP (nxL (bM A t) n q) flt (twM (bM A t) n q tw0) (nx_le _ hq)) rfl rfl (Nat.le_of_ble_eq_true rfl) (rm_le (by omega)) d_X12_either_20 ?_
      rintro v20 w20 ⟨x20, rfl, hE20⟩
      rcases hr20 : P (nxL (bM A t) n q) with f20 | ⟨c20, q20⟩
      · rw [hr20] at hE20
        obtain ⟨tok20, tat20, here20, opn20, tw20, rfl⟩ := hE20
        refine z_istore_n [(2, .int x20), (1, .int x), (0, .ref (b 0))] d_X12_either_23 (by decide) rfl ?_
        refine z_iload_n d_X12_either_24 1 rfl ?_
        refine z_if_ne d_X12_either_25 (fun c_25 => ?_) (fun c_25 => ?_)
        · refine z_iconst (v := 1) d_X12_either_32 (by decide) ?_
          refine z_goto d_X12_either_33 ?_
          refine z_istore_n [(1, .int 1), (2, .int x20), (0, .ref (b 0))] d_X12_either_37 (by decide) rfl ?_
          refine z_goto d_X12_either_38 ?_
          refine z_aload_n d_X12_either_5 2 rfl ?_
          refine z_ldc2 d_X12_either_6 w_1279 ?_
          refine z_callVp 0 c_X12_219 (t_wdB G b I A z t n nm tok20 tat20 here20 opn20 (nI f20) tw20 423) rfl rfl rfl rfl (Nat.le_of_ble_eq_true rfl) (rm_le (by omega)) d_X12_either_9 ?_
          refine z_if_eq d_X12_either_12 (fun c_12 => ?_) (fun c_12 => ?_)
          rotate_left
          · exact absurd c_12 (by decide)
          refine z_iload_n d_X12_either_41 0 rfl ?_
          exact z_iret _ d_X12_either_42 rfl (PE.bad (by rw [lpS, if_neg (by rw [hop]; decide), hr20]) rfl)
        · refine z_iload_n d_X12_either_28 0 rfl ?_
          refine z_if_eq d_X12_either_29 (fun c_29 => ?_) (fun c_29 => ?_)
          · refine z_iconst (v := 0) d_X12_either_36 (by decide) ?_
            refine z_istore_n [(1, .int 0), (2, .int x20), (0, .ref (b 0))] d_X12_either_37 (by decide) rfl ?_
            refine z_goto d_X12_either_38 ?_
            refine z_aload_n d_X12_either_5 2 rfl ?_
            refine z_ldc2 d_X12_either_6 w_1279 ?_
            refine z_callVp 0 c_X12_219 (t_wdB G b I A z t n nm tok20 tat20 here20 opn20 (nI f20) tw20 423) rfl rfl rfl rfl (Nat.le_of_ble_eq_true rfl) (rm_le (by omega)) d_X12_either_9 ?_
            refine z_if_eq d_X12_either_12 (fun c_12 => ?_) (fun c_12 => ?_)
            rotate_left
            · exact absurd c_12 (by decide)
            refine z_iload_n d_X12_either_41 0 rfl ?_
            exact z_iret _ d_X12_either_42 rfl (PE.bad (by rw [lpS, if_neg (by rw [hop]; decide), hr20]) rfl)
          · refine z_iconst (v := 1) d_X12_either_32 (by decide) ?_
            refine z_goto d_X12_either_33 ?_
            refine z_istore_n [(1, .int 1), (2, .int x20), (0, .ref (b 0))] d_X12_either_37 (by decide) rfl ?_
            refine z_goto d_X12_either_38 ?_
            refine z_aload_n d_X12_either_5 2 rfl ?_
            refine z_ldc2 d_X12_either_6 w_1279 ?_
            refine z_callVp 0 c_X12_219 (t_wdB G b I A z t n nm tok20 tat20 here20 opn20 (nI f20) tw20 423) rfl rfl rfl rfl (Nat.le_of_ble_eq_true rfl) (rm_le (by omega)) d_X12_either_9 ?_
            refine z_if_eq d_X12_either_12 (fun c_12 => ?_) (fun c_12 => ?_)
            rotate_left
            · exact absurd c_12 (by decide)
            refine z_iload_n d_X12_either_41 0 rfl ?_
            exact z_iret _ d_X12_either_42 rfl (PE.bad (by rw [lpS, if_neg (by rw [hop]; decide), hr20]) rfl)
      · rw [hr20] at hE20
        obtain ⟨hV20, tw20, rfl⟩ := hE20
        have hg20 := (gd _ (nx_le _ hq)).1 c20 q20 hr20
        refine z_istore_n [(2, .int x20), (1, .int x), (0, .ref (b 0))] d_X12_either_23 (by decide) rfl ?_
        refine z_iload_n d_X12_either_24 1 rfl ?_
        refine z_if_ne d_X12_either_25 (fun c_25 => ?_) (fun c_25 => ?_)
        · refine z_iconst (v := 1) d_X12_either_32 (by decide) ?_
          refine z_goto d_X12_either_33 ?_
          refine z_istore_n [(1, .int 1), (2, .int x20), (0, .ref (b 0))] d_X12_either_37 (by decide) rfl ?_
          refine z_goto d_X12_either_38 ?_
          refine z_perm [0, 2] rfl ?_
          have e9 : lpS (bM A t) n opO P (f + 1) c q = lpS (bM A t) n opO P f (c ++ c20 ++ [-7]) q20 := by rw [lpS, if_neg (by rw [hop]; decide), hr20, hop]
          rw [e9]
          exact ih (c ++ c20 ++ [-7]) q20 1 flt tw20 ((by have h := hV.two hV20 (s := -7) (by decide); simpa [ex2, b01, *] using h)) hg20.2.1 (by have h7 := hg20.1; have h8 := stL_ge (bM A t) n q; have h9 := op_tk (B := bM A t) (n := n) (q := q) (op := opO) (by decide) (by decide) (by rw [hop]; decide); omega)
        · refine z_iload_n d_X12_either_28 0 rfl ?_
          refine z_if_eq d_X12_either_29 (fun c_29 => ?_) (fun c_29 => ?_)
          · refine z_iconst (v := 0) d_X12_either_36 (by decide) ?_
            refine z_istore_n [(1, .int 0), (2, .int x20), (0, .ref (b 0))] d_X12_either_37 (by decide) rfl ?_
            refine z_goto d_X12_either_38 ?_
            refine z_perm [0, 2] rfl ?_
            have e9 : lpS (bM A t) n opO P (f + 1) c q = lpS (bM A t) n opO P f (c ++ c20 ++ [-7]) q20 := by rw [lpS, if_neg (by rw [hop]; decide), hr20, hop]
            rw [e9]
            exact ih (c ++ c20 ++ [-7]) q20 0 flt tw20 ((by have h := hV.two hV20 (s := -7) (by decide); simpa [ex2, b01, *] using h)) hg20.2.1 (by have h7 := hg20.1; have h8 := stL_ge (bM A t) n q; have h9 := op_tk (B := bM A t) (n := n) (q := q) (op := opO) (by decide) (by decide) (by rw [hop]; decide); omega)
          · refine z_iconst (v := 1) d_X12_either_32 (by decide) ?_
            refine z_goto d_X12_either_33 ?_
            refine z_istore_n [(1, .int 1), (2, .int x20), (0, .ref (b 0))] d_X12_either_37 (by decide) rfl ?_
            refine z_goto d_X12_either_38 ?_
            refine z_perm [0, 2] rfl ?_
            have e9 : lpS (bM A t) n opO P (f + 1) c q = lpS (bM A t) n opO P f (c ++ c20 ++ [-7]) q20 := by rw [lpS, if_neg (by rw [hop]; decide), hr20, hop]
            rw [e9]
            exact ih (c ++ c20 ++ [-7]) q20 1 flt tw20 ((by have h := hV.two hV20 (s := -7) (by decide); simpa [ex2, b01, *] using h)) hg20.2.1 (by have h7 := hg20.1; have h8 := stL_ge (bM A t) n q; have h9 := op_tk (B := bM A t) (n := n) (q := q) (op := opO) (by decide) (by decide) (by rw [hop]; decide); omega)
set_option maxHeartbeats 4000000 in
set_option maxRecDepth 100000 in
theorem t_X12_either (G : GT) (b : Nat → Nat) (I : Nat → Int32) (A : Nat → Nat → Int32) (z : Int32) (t n : Nat) (nm : Nat → Int32) (ht : t < 6) (hn : n ≤ 160) (hB : ∀ i, i < n → 0 ≤ (bM A t i).toInt) (d : Nat) (P : Nat → PR) (dn : Nat) (hP : CtP G b I A z t n nm mX12_both dn d P) (gd : GdP n P) (dp : Nat) (hd1 : 4 ≤ dp) (hd2 : dn + 1 ≤ dp) (p : Nat) (flt : Int32) (tw0 : Int64) (hp : p ≤ n)  : Ct G mX12_either dp 0 0 [.ref (b 0)] (LW G b I A z t n nm p (nI d) 0 flt tw0) (PE G b I A z t n nm (nI d) flt (thL (bM A t) n P opO p)) := by
  refine Ct.intro [(0, .ref (b 0))] (by decide) rfl (Nat.le_of_ble_eq_true rfl) ?_
  refine z_aload_n d_X12_either_0 0 rfl ?_
  refine z_callV 0 c_X12_284 rfl rfl (hP p flt tw0 hp) rfl rfl (Nat.le_of_ble_eq_true rfl) (rm_le (by omega)) d_X12_either_1 ?_
  rintro v1 w1 ⟨x1, rfl, hE1⟩
  rcases hr1 : P p with f1 | ⟨c1, q1⟩
  · rw [hr1] at hE1
    obtain ⟨tok1, tat1, here1, opn1, tw1, rfl⟩ := hE1
    refine z_istore_n [(1, .int x1), (0, .ref (b 0))] d_X12_either_4 (by decide) rfl ?_
    refine z_aload_n d_X12_either_5 1 rfl ?_
    refine z_ldc2 d_X12_either_6 w_1279 ?_
    refine z_callVp 0 c_X12_219 (t_wdB G b I A z t n nm tok1 tat1 here1 opn1 (nI f1) tw1 423) rfl rfl rfl rfl (Nat.le_of_ble_eq_true rfl) (rm_le (by omega)) d_X12_either_9 ?_
    refine z_if_eq d_X12_either_12 (fun c_12 => ?_) (fun c_12 => ?_)
    rotate_left
    · exact absurd c_12 (by decide)
    refine z_iload_n d_X12_either_41 0 rfl ?_
    exact z_iret _ d_X12_either_42 rfl (PE.bad (by rw [thL, hr1]) rfl)
  · rw [hr1] at hE1
    obtain ⟨hV1, tw1, rfl⟩ := hE1
    have hg1 := (gd _ hp).1 c1 q1 hr1
    refine z_istore_n [(1, .int x1), (0, .ref (b 0))] d_X12_either_4 (by decide) rfl ?_
    have e9 : thL (bM A t) n P opO p = lpS (bM A t) n opO P (n + 1) c1 q1 := by rw [thL, hr1]
    rw [e9]
    exact l_X12_either G b I A z t n nm ht hn hB d P dn hP gd dp hd1 hd2 (n + 1) c1 q1 x1 flt tw1 hV1 hg1.2.1 (by omega)
theorem P_X12_either (G : GT) (b : Nat → Nat) (I : Nat → Int32) (A : Nat → Nat → Int32) (z : Int32) (t n : Nat) (nm : Nat → Int32) (ht : t < 6) (hn : n ≤ 160) (hB : ∀ i, i < n → 0 ≤ (bM A t i).toInt) (d : Nat) (P : Nat → PR) (dn : Nat) (hP : CtP G b I A z t n nm mX12_both dn d P) (gd : GdP n P) (dp : Nat) (hd1 : 4 ≤ dp) (hd2 : dn + 1 ≤ dp) : CtP G b I A z t n nm mX12_either dp d (thL (bM A t) n P opO) := fun p flt tw0 hp => t_X12_either G b I A z t n nm ht hn hB d P dn hP gd dp hd1 hd2 p flt tw0 hp
theorem sum9 {B : Nat → Int32} {n p : Nat} (h : tkL B n p = 9) : sumP B n 0 p = .inl (stL B n p) := by
  have e1 : oneP B n 0 p = .inl (stL B n p) := by rw [oneP_0, onP, if_neg (by rw [h]; decide), if_neg (by simp), if_neg (by simp)]
  have e2 : terP B n 0 p = .inl (stL B n p) := by unfold terP; rw [thL, e1]
  unfold sumP; rw [thL, e2]
set_option maxHeartbeats 4000000 in
set_option maxRecDepth 100000 in
theorem t_X12_not0 (G : GT) (b : Nat → Nat) (I : Nat → Int32) (A : Nat → Nat → Int32) (z : Int32) (t n : Nat) (nm : Nat → Int32) (ht : t < 6) (hn : n ≤ 160) (hB : ∀ i, i < n → 0 ≤ (bM A t i).toInt) (p : Nat) (hp : p ≤ n) (flt : Int32) (tw0 : Int64) (ds dp : Nat) (hd1 : 4 ≤ dp) (hd2 : ds + 1 ≤ dp) (hsum : CtP G b I A z t n nm mX12_added ds 5 (sumP (bM A t) n 0))  : Ct G mX12_not dp 0 0 [.ref (b 0)] (LW G b I A z t n nm p (nI 5) 0 flt tw0) (PE G b I A z t n nm (nI 5) flt (denP (bM A t) n 0 p)) := by
  refine Ct.intro [(0, .ref (b 0))] (by decide) rfl (Nat.le_of_ble_eq_true rfl) ?_
  refine z_aload_n d_X12_not_0 0 rfl ?_
  refine z_ldc2 d_X12_not_1 w_1245 ?_
  refine z_callVp 0 c_X12_219 (t_ky G b I A z t n nm p (nI 5) flt tw0 hn hp 11 (by decide) (9, 0, 10631, [110, 111, 116]) rfl) rfl rfl rfl rfl (Nat.le_of_ble_eq_true rfl) (rm_le (by omega)) d_X12_not_4 ?_
  refine z_if_eq d_X12_not_7 (fun c_7 => ?_) (fun c_7 => ?_)
  · have hno := dec_not c_7
    refine z_aload_n d_X12_not_44 0 rfl ?_
    refine z_callV 0 c_X12_277 rfl rfl (hsum p flt tw0 hp) rfl rfl (Nat.le_of_ble_eq_true rfl) (rm_le (by omega)) d_X12_not_45 ?_
    rintro v45 w45 ⟨x45, rfl, hE45⟩
    rcases hr45 : sumP (bM A t) n 0 p with f45 | ⟨c45, q45⟩
    · rw [hr45] at hE45
      obtain ⟨tok45, tat45, here45, opn45, tw45, rfl⟩ := hE45
      refine z_istore_n [(1, .int x45), (0, .ref (b 0))] d_X12_not_48 (by decide) rfl ?_
      refine z_aload_n d_X12_not_49 1 rfl ?_
      refine z_bipush (v := 60) d_X12_not_50 (by decide) ?_
      refine z_callVp 0 c_X12_251 (t_sgB G b I A z t n nm tok45 tat45 here45 opn45 (nI f45) tw45 60) rfl rfl rfl rfl (Nat.le_of_ble_eq_true rfl) (rm_le (by omega)) d_X12_not_52 ?_
      refine z_if_ne d_X12_not_55 (fun c_55 => ?_) (fun c_55 => ?_)
      · exact absurd c_55 (by decide)
      refine z_aload_n d_X12_not_58 1 rfl ?_
      refine z_bipush (v := 61) d_X12_not_59 (by decide) ?_
      refine z_callVp 0 c_X12_251 (t_sgB G b I A z t n nm tok45 tat45 here45 opn45 (nI f45) tw45 61) rfl rfl rfl rfl (Nat.le_of_ble_eq_true rfl) (rm_le (by omega)) d_X12_not_61 ?_
      refine z_if_ne d_X12_not_64 (fun c_64 => ?_) (fun c_64 => ?_)
      · exact absurd c_64 (by decide)
      refine z_iload_n d_X12_not_67 0 rfl ?_
      exact z_iret _ d_X12_not_68 rfl (PE.bad (by first | (rw [denP_0, dnP, if_neg (by simp), cmP, sum9 htk]; done) | (rw [denP_0, dnP, if_pos ⟨htk, rfl⟩, hr20]; done) | (rw [denP_0, dnP, if_neg (fun h => hno h.1), cmP, hr45]; done) | (rw [denP_0, dnP, if_neg (fun h => hno h.1), cmP, hr45]; exact if_pos hop) | (rw [denP_0, dnP, if_neg (fun h => hno h.1), cmP, hr45]; show (if _ then _ else _) = _; rw [if_neg (by rw [hop]; decide), hr91]; done) | (rw [denP_0, dnP, if_neg (fun h => hno h.1), cmP, hr45]; show (if _ then _ else _) = _; rw [if_neg (by rw [hop]; decide), hr91, hop]; done)) rfl)
    · rw [hr45] at hE45
      obtain ⟨hV45, tw45, rfl⟩ := hE45
      have hg45 := (sum_gd (bM A t) n 0 _ hp).1 c45 q45 hr45
      refine z_istore_n [(1, .int x45), (0, .ref (b 0))] d_X12_not_48 (by decide) rfl ?_
      refine z_aload_n d_X12_not_49 1 rfl ?_
      refine z_bipush (v := 60) d_X12_not_50 (by decide) ?_
      refine z_callVp 0 c_X12_251 (t_sg G b I A z t n nm q45 (nI 5) flt tw45 60 (by decide)) rfl rfl rfl rfl (Nat.le_of_ble_eq_true rfl) (rm_le (by omega)) d_X12_not_52 ?_
      refine z_if_ne d_X12_not_55 (fun c_55 => ?_) (fun c_55 => ?_)
      · have hop : opC (tkL (bM A t) n q45) = -10 := by rw [dec_of c_55]; rfl
        refine z_aload_n d_X12_not_69 1 rfl ?_
        refine z_get (v := .long (twM (bM A t) n q45 tw45)) 0 f_X12_187_12 rfl rfl d_X12_not_70 ?_
        refine z_ldc2 d_X12_not_73 w_1277 ?_
        refine z_lcmp d_X12_not_76 ?_
        refine z_if_ne d_X12_not_77 (fun c_77 => ?_) (fun c_77 => ?_)
        · exact absurd c_77 (by rw [tw_sg (by decide) (dec_of c_55)]; decide)
        refine z_iconst (v := 1) d_X12_not_80 (by decide) ?_
        refine z_goto d_X12_not_81 ?_
        refine z_istore_n [(2, .int 1), (1, .int x45), (0, .ref (b 0))] d_X12_not_85 (by decide) rfl ?_
        refine z_aload_n d_X12_not_86 2 rfl ?_
        refine z_callVv 0 c_X12_216 (t_X12_next1 G b I A z t n nm (nI 5) 0 flt (twM (bM A t) n q45 tw45) (nxL (bM A t) n q45) ht hn (nx_le _ hg45.2.1) hB (tokM (bM A t) n q45) (nI (stL (bM A t) n q45))) rfl rfl rfl rfl (Nat.le_of_ble_eq_true rfl) (rm_le (by omega)) d_X12_not_87 ?_
        refine z_aload_n d_X12_not_90 2 rfl ?_
        refine z_callV 0 c_X12_277 rfl rfl (hsum (nxL (bM A t) n q45) flt (twM (bM A t) n q45 tw45) (nx_le _ hg45.2.1)) rfl rfl (Nat.le_of_ble_eq_true rfl) (rm_le (by omega)) d_X12_not_91 ?_
        rintro v91 w91 ⟨x91, rfl, hE91⟩
        rcases hr91 : sumP (bM A t) n 0 (nxL (bM A t) n q45) with f91 | ⟨c91, q91⟩
        · rw [hr91] at hE91
          obtain ⟨tok91, tat91, here91, opn91, tw91, rfl⟩ := hE91
          refine z_istore_n [(3, .int x91), (2, .int 1), (1, .int x45), (0, .ref (b 0))] d_X12_not_94 (by decide) rfl ?_
          refine z_iload_n d_X12_not_95 1 rfl ?_
          refine z_if_eq d_X12_not_96 (fun c_96 => ?_) (fun c_96 => ?_)
          · exact absurd c_96 (by decide)
          refine z_iload_n d_X12_not_99 2 rfl ?_
          refine z_iload_n d_X12_not_100 0 rfl ?_
          refine z_icmp_ge d_X12_not_101 (fun c_101 => ?_) (fun c_101 => ?_)
          · refine z_iconst (v := 0) d_X12_not_116 (by decide) ?_
            exact z_iret _ d_X12_not_117 rfl (PE.bad (by first | (rw [denP_0, dnP, if_neg (by simp), cmP, sum9 htk]; done) | (rw [denP_0, dnP, if_pos ⟨htk, rfl⟩, hr20]; done) | (rw [denP_0, dnP, if_neg (fun h => hno h.1), cmP, hr45]; done) | (rw [denP_0, dnP, if_neg (fun h => hno h.1), cmP, hr45]; exact if_pos hop) | (rw [denP_0, dnP, if_neg (fun h => hno h.1), cmP, hr45]; show (if _ then _ else _) = _; rw [if_neg (by rw [hop]; decide), hr91]; done) | (rw [denP_0, dnP, if_neg (fun h => hno h.1), cmP, hr45]; show (if _ then _ else _) = _; rw [if_neg (by rw [hop]; decide), hr91, hop]; done)) rfl)
          · refine z_goto d_X12_not_104 ?_
            refine z_iconst (v := 1) d_X12_not_112 (by decide) ?_
            refine z_goto d_X12_not_113 ?_
            exact z_iret _ d_X12_not_117 rfl (PE.bad (by first | (rw [denP_0, dnP, if_neg (by simp), cmP, sum9 htk]; done) | (rw [denP_0, dnP, if_pos ⟨htk, rfl⟩, hr20]; done) | (rw [denP_0, dnP, if_neg (fun h => hno h.1), cmP, hr45]; done) | (rw [denP_0, dnP, if_neg (fun h => hno h.1), cmP, hr45]; exact if_pos hop) | (rw [denP_0, dnP, if_neg (fun h => hno h.1), cmP, hr45]; show (if _ then _ else _) = _; rw [if_neg (by rw [hop]; decide), hr91]; done) | (rw [denP_0, dnP, if_neg (fun h => hno h.1), cmP, hr45]; show (if _ then _ else _) = _; rw [if_neg (by rw [hop]; decide), hr91, hop]; done)) rfl)
        · rw [hr91] at hE91
          obtain ⟨hV91, tw91, rfl⟩ := hE91
          have hg91 := (sum_gd (bM A t) n 0 _ (nx_le _ hg45.2.1)).1 c91 q91 hr91
          refine z_istore_n [(3, .int x91), (2, .int 1), (1, .int x45), (0, .ref (b 0))] d_X12_not_94 (by decide) rfl ?_
          refine z_iload_n d_X12_not_95 1 rfl ?_
          refine z_if_eq d_X12_not_96 (fun c_96 => ?_) (fun c_96 => ?_)
          · exact absurd c_96 (by decide)
          refine z_iload_n d_X12_not_99 2 rfl ?_
          refine z_iload_n d_X12_not_100 0 rfl ?_
          refine z_icmp_ge d_X12_not_101 (fun c_101 => ?_) (fun c_101 => ?_)
          · refine z_iconst (v := 0) d_X12_not_116 (by decide) ?_
            exact z_iret _ d_X12_not_117 rfl (PE.ok (by first | (rw [denP_0, dnP, if_neg (by simp), cmP, sum9 htk]; done) | (rw [denP_0, dnP, if_pos ⟨htk, rfl⟩, hr20]; done) | (rw [denP_0, dnP, if_neg (fun h => hno h.1), cmP, hr45]; done) | (rw [denP_0, dnP, if_neg (fun h => hno h.1), cmP, hr45]; exact if_pos hop) | (rw [denP_0, dnP, if_neg (fun h => hno h.1), cmP, hr45]; show (if _ then _ else _) = _; rw [if_neg (by rw [hop]; decide), hr91]; done) | (rw [denP_0, dnP, if_neg (fun h => hno h.1), cmP, hr45]; show (if _ then _ else _) = _; rw [if_neg (by rw [hop]; decide), hr91, hop]; done)) (by have h := hV45.two hV91 (s := -10) (by decide); simpa [ex2, b01, *] using h) (by first | rfl | rw [nI_pred]))
          · refine z_goto d_X12_not_104 ?_
            refine z_iconst (v := 1) d_X12_not_112 (by decide) ?_
            refine z_goto d_X12_not_113 ?_
            exact z_iret _ d_X12_not_117 rfl (PE.ok (by first | (rw [denP_0, dnP, if_neg (by simp), cmP, sum9 htk]; done) | (rw [denP_0, dnP, if_pos ⟨htk, rfl⟩, hr20]; done) | (rw [denP_0, dnP, if_neg (fun h => hno h.1), cmP, hr45]; done) | (rw [denP_0, dnP, if_neg (fun h => hno h.1), cmP, hr45]; exact if_pos hop) | (rw [denP_0, dnP, if_neg (fun h => hno h.1), cmP, hr45]; show (if _ then _ else _) = _; rw [if_neg (by rw [hop]; decide), hr91]; done) | (rw [denP_0, dnP, if_neg (fun h => hno h.1), cmP, hr45]; show (if _ then _ else _) = _; rw [if_neg (by rw [hop]; decide), hr91, hop]; done)) (by have h := hV45.two hV91 (s := -10) (by decide); simpa [ex2, b01, *] using h) (by first | rfl | rw [nI_pred]))
      · refine z_aload_n d_X12_not_58 1 rfl ?_
        refine z_bipush (v := 61) d_X12_not_59 (by decide) ?_
        refine z_callVp 0 c_X12_251 (t_sg G b I A z t n nm q45 (nI 5) flt tw45 61 (by decide)) rfl rfl rfl rfl (Nat.le_of_ble_eq_true rfl) (rm_le (by omega)) d_X12_not_61 ?_
        refine z_if_ne d_X12_not_64 (fun c_64 => ?_) (fun c_64 => ?_)
        · have hop : opC (tkL (bM A t) n q45) = -11 := by rw [dec_of c_64]; rfl
          refine z_aload_n d_X12_not_69 1 rfl ?_
          refine z_get (v := .long (twM (bM A t) n q45 tw45)) 0 f_X12_187_12 rfl rfl d_X12_not_70 ?_
          refine z_ldc2 d_X12_not_73 w_1277 ?_
          refine z_lcmp d_X12_not_76 ?_
          refine z_if_ne d_X12_not_77 (fun c_77 => ?_) (fun c_77 => ?_)
          rotate_left
          · exact absurd c_77 (by rw [tw_sg (by decide) (dec_of c_64)]; decide)
          refine z_iconst (v := 0) d_X12_not_84 (by decide) ?_
          refine z_istore_n [(2, .int 0), (1, .int x45), (0, .ref (b 0))] d_X12_not_85 (by decide) rfl ?_
          refine z_aload_n d_X12_not_86 2 rfl ?_
          refine z_callVv 0 c_X12_216 (t_X12_next1 G b I A z t n nm (nI 5) 0 flt (twM (bM A t) n q45 tw45) (nxL (bM A t) n q45) ht hn (nx_le _ hg45.2.1) hB (tokM (bM A t) n q45) (nI (stL (bM A t) n q45))) rfl rfl rfl rfl (Nat.le_of_ble_eq_true rfl) (rm_le (by omega)) d_X12_not_87 ?_
          refine z_aload_n d_X12_not_90 2 rfl ?_
          refine z_callV 0 c_X12_277 rfl rfl (hsum (nxL (bM A t) n q45) flt (twM (bM A t) n q45 tw45) (nx_le _ hg45.2.1)) rfl rfl (Nat.le_of_ble_eq_true rfl) (rm_le (by omega)) d_X12_not_91 ?_
          rintro v91 w91 ⟨x91, rfl, hE91⟩
          rcases hr91 : sumP (bM A t) n 0 (nxL (bM A t) n q45) with f91 | ⟨c91, q91⟩
          · rw [hr91] at hE91
            obtain ⟨tok91, tat91, here91, opn91, tw91, rfl⟩ := hE91
            refine z_istore_n [(3, .int x91), (2, .int 0), (1, .int x45), (0, .ref (b 0))] d_X12_not_94 (by decide) rfl ?_
            refine z_iload_n d_X12_not_95 1 rfl ?_
            refine z_if_eq d_X12_not_96 (fun c_96 => ?_) (fun c_96 => ?_)
            rotate_left
            · exact absurd c_96 (by decide)
            refine z_iload_n d_X12_not_107 2 rfl ?_
            refine z_iload_n d_X12_not_108 0 rfl ?_
            refine z_icmp_ne d_X12_not_109 (fun c_109 => ?_) (fun c_109 => ?_)
            · refine z_iconst (v := 0) d_X12_not_116 (by decide) ?_
              exact z_iret _ d_X12_not_117 rfl (PE.bad (by first | (rw [denP_0, dnP, if_neg (by simp), cmP, sum9 htk]; done) | (rw [denP_0, dnP, if_pos ⟨htk, rfl⟩, hr20]; done) | (rw [denP_0, dnP, if_neg (fun h => hno h.1), cmP, hr45]; done) | (rw [denP_0, dnP, if_neg (fun h => hno h.1), cmP, hr45]; exact if_pos hop) | (rw [denP_0, dnP, if_neg (fun h => hno h.1), cmP, hr45]; show (if _ then _ else _) = _; rw [if_neg (by rw [hop]; decide), hr91]; done) | (rw [denP_0, dnP, if_neg (fun h => hno h.1), cmP, hr45]; show (if _ then _ else _) = _; rw [if_neg (by rw [hop]; decide), hr91, hop]; done)) rfl)
            · refine z_iconst (v := 1) d_X12_not_112 (by decide) ?_
              refine z_goto d_X12_not_113 ?_
              exact z_iret _ d_X12_not_117 rfl (PE.bad (by first | (rw [denP_0, dnP, if_neg (by simp), cmP, sum9 htk]; done) | (rw [denP_0, dnP, if_pos ⟨htk, rfl⟩, hr20]; done) | (rw [denP_0, dnP, if_neg (fun h => hno h.1), cmP, hr45]; done) | (rw [denP_0, dnP, if_neg (fun h => hno h.1), cmP, hr45]; exact if_pos hop) | (rw [denP_0, dnP, if_neg (fun h => hno h.1), cmP, hr45]; show (if _ then _ else _) = _; rw [if_neg (by rw [hop]; decide), hr91]; done) | (rw [denP_0, dnP, if_neg (fun h => hno h.1), cmP, hr45]; show (if _ then _ else _) = _; rw [if_neg (by rw [hop]; decide), hr91, hop]; done)) rfl)
          · rw [hr91] at hE91
            obtain ⟨hV91, tw91, rfl⟩ := hE91
            have hg91 := (sum_gd (bM A t) n 0 _ (nx_le _ hg45.2.1)).1 c91 q91 hr91
            refine z_istore_n [(3, .int x91), (2, .int 0), (1, .int x45), (0, .ref (b 0))] d_X12_not_94 (by decide) rfl ?_
            refine z_iload_n d_X12_not_95 1 rfl ?_
            refine z_if_eq d_X12_not_96 (fun c_96 => ?_) (fun c_96 => ?_)
            rotate_left
            · exact absurd c_96 (by decide)
            refine z_iload_n d_X12_not_107 2 rfl ?_
            refine z_iload_n d_X12_not_108 0 rfl ?_
            refine z_icmp_ne d_X12_not_109 (fun c_109 => ?_) (fun c_109 => ?_)
            · refine z_iconst (v := 0) d_X12_not_116 (by decide) ?_
              exact z_iret _ d_X12_not_117 rfl (PE.ok (by first | (rw [denP_0, dnP, if_neg (by simp), cmP, sum9 htk]; done) | (rw [denP_0, dnP, if_pos ⟨htk, rfl⟩, hr20]; done) | (rw [denP_0, dnP, if_neg (fun h => hno h.1), cmP, hr45]; done) | (rw [denP_0, dnP, if_neg (fun h => hno h.1), cmP, hr45]; exact if_pos hop) | (rw [denP_0, dnP, if_neg (fun h => hno h.1), cmP, hr45]; show (if _ then _ else _) = _; rw [if_neg (by rw [hop]; decide), hr91]; done) | (rw [denP_0, dnP, if_neg (fun h => hno h.1), cmP, hr45]; show (if _ then _ else _) = _; rw [if_neg (by rw [hop]; decide), hr91, hop]; done)) (by have h := hV45.two hV91 (s := -11) (by decide); simpa [ex2, b01, *] using h) (by first | rfl | rw [nI_pred]))
            · refine z_iconst (v := 1) d_X12_not_112 (by decide) ?_
              refine z_goto d_X12_not_113 ?_
              exact z_iret _ d_X12_not_117 rfl (PE.ok (by first | (rw [denP_0, dnP, if_neg (by simp), cmP, sum9 htk]; done) | (rw [denP_0, dnP, if_pos ⟨htk, rfl⟩, hr20]; done) | (rw [denP_0, dnP, if_neg (fun h => hno h.1), cmP, hr45]; done) | (rw [denP_0, dnP, if_neg (fun h => hno h.1), cmP, hr45]; exact if_pos hop) | (rw [denP_0, dnP, if_neg (fun h => hno h.1), cmP, hr45]; show (if _ then _ else _) = _; rw [if_neg (by rw [hop]; decide), hr91]; done) | (rw [denP_0, dnP, if_neg (fun h => hno h.1), cmP, hr45]; show (if _ then _ else _) = _; rw [if_neg (by rw [hop]; decide), hr91, hop]; done)) (by have h := hV45.two hV91 (s := -11) (by decide); simpa [ex2, b01, *] using h) (by first | rfl | rw [nI_pred]))
        · have hop : opC (tkL (bM A t) n q45) = 0 := by unfold opC; rw [if_neg (dec_not c_55), if_neg (dec_not c_64)]
          refine z_iload_n d_X12_not_67 0 rfl ?_
          exact z_iret _ d_X12_not_68 rfl (PE.ok (by first | (rw [denP_0, dnP, if_neg (by simp), cmP, sum9 htk]; done) | (rw [denP_0, dnP, if_pos ⟨htk, rfl⟩, hr20]; done) | (rw [denP_0, dnP, if_neg (fun h => hno h.1), cmP, hr45]; done) | (rw [denP_0, dnP, if_neg (fun h => hno h.1), cmP, hr45]; exact if_pos hop) | (rw [denP_0, dnP, if_neg (fun h => hno h.1), cmP, hr45]; show (if _ then _ else _) = _; rw [if_neg (by rw [hop]; decide), hr91]; done) | (rw [denP_0, dnP, if_neg (fun h => hno h.1), cmP, hr45]; show (if _ then _ else _) = _; rw [if_neg (by rw [hop]; decide), hr91, hop]; done)) hV45 (by first | rfl | rw [nI_pred]))
  · have htk := dec_of c_7
    refine z_aload_n d_X12_not_10 0 rfl ?_
    refine z_callVp 0 c_X12_254 (t_X12_opens5 G b I A z t n nm ht hn hB p hp flt tw0) rfl rfl rfl rfl (Nat.le_of_ble_eq_true rfl) (rm_le (by omega)) d_X12_not_11 ?_
    refine z_if_ne d_X12_not_14 (fun c_14 => ?_) (fun c_14 => ?_)
    · exact absurd c_14 (by decide)
    refine z_iconst (v := 0) d_X12_not_17 (by decide) ?_
    exact z_iret _ d_X12_not_18 rfl (PE.bad (by first | (rw [denP_0, dnP, if_neg (by simp), cmP, sum9 htk]; done) | (rw [denP_0, dnP, if_pos ⟨htk, rfl⟩, hr20]; done) | (rw [denP_0, dnP, if_neg (fun h => hno h.1), cmP, hr45]; done) | (rw [denP_0, dnP, if_neg (fun h => hno h.1), cmP, hr45]; exact if_pos hop) | (rw [denP_0, dnP, if_neg (fun h => hno h.1), cmP, hr45]; show (if _ then _ else _) = _; rw [if_neg (by rw [hop]; decide), hr91]; done) | (rw [denP_0, dnP, if_neg (fun h => hno h.1), cmP, hr45]; show (if _ then _ else _) = _; rw [if_neg (by rw [hop]; decide), hr91, hop]; done)) rfl)
set_option maxHeartbeats 4000000 in
set_option maxRecDepth 100000 in
theorem t_X12_notS (G : GT) (b : Nat → Nat) (I : Nat → Int32) (A : Nat → Nat → Int32) (z : Int32) (t n : Nat) (nm : Nat → Int32) (ht : t < 6) (hn : n ≤ 160) (hB : ∀ i, i < n → 0 ≤ (bM A t i).toInt) (p : Nat) (hp : p ≤ n) (flt : Int32) (tw0 : Int64) (d o ds dn dp : Nat) (hd : d < 5) (hd1 : 4 ≤ dp) (hd2 : ds + 1 ≤ dp) (hd3 : dn + 1 ≤ dp) (hsum : CtP G b I A z t n nm mX12_added ds d (sumP (bM A t) n (o + 1))) (hnot : CtP G b I A z t n nm mX12_not dn (d + 1) (denP (bM A t) n o))  : Ct G mX12_not dp 0 0 [.ref (b 0)] (LW G b I A z t n nm p (nI d) 0 flt tw0) (PE G b I A z t n nm (nI d) flt (denP (bM A t) n (o + 1) p)) := by
  refine Ct.intro [(0, .ref (b 0))] (by decide) rfl (Nat.le_of_ble_eq_true rfl) ?_
  refine z_aload_n d_X12_not_0 0 rfl ?_
  refine z_ldc2 d_X12_not_1 w_1245 ?_
  refine z_callVp 0 c_X12_219 (t_ky G b I A z t n nm p (nI d) flt tw0 hn hp 11 (by decide) (9, 0, 10631, [110, 111, 116]) rfl) rfl rfl rfl rfl (Nat.le_of_ble_eq_true rfl) (rm_le (by omega)) d_X12_not_4 ?_
  refine z_if_eq d_X12_not_7 (fun c_7 => ?_) (fun c_7 => ?_)
  · have hno := dec_not c_7
    refine z_aload_n d_X12_not_44 0 rfl ?_
    refine z_callV 0 c_X12_277 rfl rfl (hsum p flt tw0 hp) rfl rfl (Nat.le_of_ble_eq_true rfl) (rm_le (by omega)) d_X12_not_45 ?_
    rintro v45 w45 ⟨x45, rfl, hE45⟩
    rcases hr45 : sumP (bM A t) n (o + 1) p with f45 | ⟨c45, q45⟩
    · rw [hr45] at hE45
      obtain ⟨tok45, tat45, here45, opn45, tw45, rfl⟩ := hE45
      refine z_istore_n [(1, .int x45), (0, .ref (b 0))] d_X12_not_48 (by decide) rfl ?_
      refine z_aload_n d_X12_not_49 1 rfl ?_
      refine z_bipush (v := 60) d_X12_not_50 (by decide) ?_
      refine z_callVp 0 c_X12_251 (t_sgB G b I A z t n nm tok45 tat45 here45 opn45 (nI f45) tw45 60) rfl rfl rfl rfl (Nat.le_of_ble_eq_true rfl) (rm_le (by omega)) d_X12_not_52 ?_
      refine z_if_ne d_X12_not_55 (fun c_55 => ?_) (fun c_55 => ?_)
      · exact absurd c_55 (by decide)
      refine z_aload_n d_X12_not_58 1 rfl ?_
      refine z_bipush (v := 61) d_X12_not_59 (by decide) ?_
      refine z_callVp 0 c_X12_251 (t_sgB G b I A z t n nm tok45 tat45 here45 opn45 (nI f45) tw45 61) rfl rfl rfl rfl (Nat.le_of_ble_eq_true rfl) (rm_le (by omega)) d_X12_not_61 ?_
      refine z_if_ne d_X12_not_64 (fun c_64 => ?_) (fun c_64 => ?_)
      · exact absurd c_64 (by decide)
      refine z_iload_n d_X12_not_67 0 rfl ?_
      exact z_iret _ d_X12_not_68 rfl (PE.bad (by first | (rw [denP_s, dnP, if_neg (by simp), cmP, sum9 htk]; done) | (rw [denP_s, dnP, if_pos ⟨htk, rfl⟩, hr20]; done) | (rw [denP_s, dnP, if_neg (fun h => hno h.1), cmP, hr45]; done) | (rw [denP_s, dnP, if_neg (fun h => hno h.1), cmP, hr45]; exact if_pos hop) | (rw [denP_s, dnP, if_neg (fun h => hno h.1), cmP, hr45]; show (if _ then _ else _) = _; rw [if_neg (by rw [hop]; decide), hr91]; done) | (rw [denP_s, dnP, if_neg (fun h => hno h.1), cmP, hr45]; show (if _ then _ else _) = _; rw [if_neg (by rw [hop]; decide), hr91, hop]; done)) rfl)
    · rw [hr45] at hE45
      obtain ⟨hV45, tw45, rfl⟩ := hE45
      have hg45 := (sum_gd (bM A t) n (o + 1) _ hp).1 c45 q45 hr45
      refine z_istore_n [(1, .int x45), (0, .ref (b 0))] d_X12_not_48 (by decide) rfl ?_
      refine z_aload_n d_X12_not_49 1 rfl ?_
      refine z_bipush (v := 60) d_X12_not_50 (by decide) ?_
      refine z_callVp 0 c_X12_251 (t_sg G b I A z t n nm q45 (nI d) flt tw45 60 (by decide)) rfl rfl rfl rfl (Nat.le_of_ble_eq_true rfl) (rm_le (by omega)) d_X12_not_52 ?_
      refine z_if_ne d_X12_not_55 (fun c_55 => ?_) (fun c_55 => ?_)
      · have hop : opC (tkL (bM A t) n q45) = -10 := by rw [dec_of c_55]; rfl
        refine z_aload_n d_X12_not_69 1 rfl ?_
        refine z_get (v := .long (twM (bM A t) n q45 tw45)) 0 f_X12_187_12 rfl rfl d_X12_not_70 ?_
        refine z_ldc2 d_X12_not_73 w_1277 ?_
        refine z_lcmp d_X12_not_76 ?_
        refine z_if_ne d_X12_not_77 (fun c_77 => ?_) (fun c_77 => ?_)
        · exact absurd c_77 (by rw [tw_sg (by decide) (dec_of c_55)]; decide)
        refine z_iconst (v := 1) d_X12_not_80 (by decide) ?_
        refine z_goto d_X12_not_81 ?_
        refine z_istore_n [(2, .int 1), (1, .int x45), (0, .ref (b 0))] d_X12_not_85 (by decide) rfl ?_
        refine z_aload_n d_X12_not_86 2 rfl ?_
        refine z_callVv 0 c_X12_216 (t_X12_next1 G b I A z t n nm (nI d) 0 flt (twM (bM A t) n q45 tw45) (nxL (bM A t) n q45) ht hn (nx_le _ hg45.2.1) hB (tokM (bM A t) n q45) (nI (stL (bM A t) n q45))) rfl rfl rfl rfl (Nat.le_of_ble_eq_true rfl) (rm_le (by omega)) d_X12_not_87 ?_
        refine z_aload_n d_X12_not_90 2 rfl ?_
        refine z_callV 0 c_X12_277 rfl rfl (hsum (nxL (bM A t) n q45) flt (twM (bM A t) n q45 tw45) (nx_le _ hg45.2.1)) rfl rfl (Nat.le_of_ble_eq_true rfl) (rm_le (by omega)) d_X12_not_91 ?_
        rintro v91 w91 ⟨x91, rfl, hE91⟩
        rcases hr91 : sumP (bM A t) n (o + 1) (nxL (bM A t) n q45) with f91 | ⟨c91, q91⟩
        · rw [hr91] at hE91
          obtain ⟨tok91, tat91, here91, opn91, tw91, rfl⟩ := hE91
          refine z_istore_n [(3, .int x91), (2, .int 1), (1, .int x45), (0, .ref (b 0))] d_X12_not_94 (by decide) rfl ?_
          refine z_iload_n d_X12_not_95 1 rfl ?_
          refine z_if_eq d_X12_not_96 (fun c_96 => ?_) (fun c_96 => ?_)
          · exact absurd c_96 (by decide)
          refine z_iload_n d_X12_not_99 2 rfl ?_
          refine z_iload_n d_X12_not_100 0 rfl ?_
          refine z_icmp_ge d_X12_not_101 (fun c_101 => ?_) (fun c_101 => ?_)
          · refine z_iconst (v := 0) d_X12_not_116 (by decide) ?_
            exact z_iret _ d_X12_not_117 rfl (PE.bad (by first | (rw [denP_s, dnP, if_neg (by simp), cmP, sum9 htk]; done) | (rw [denP_s, dnP, if_pos ⟨htk, rfl⟩, hr20]; done) | (rw [denP_s, dnP, if_neg (fun h => hno h.1), cmP, hr45]; done) | (rw [denP_s, dnP, if_neg (fun h => hno h.1), cmP, hr45]; exact if_pos hop) | (rw [denP_s, dnP, if_neg (fun h => hno h.1), cmP, hr45]; show (if _ then _ else _) = _; rw [if_neg (by rw [hop]; decide), hr91]; done) | (rw [denP_s, dnP, if_neg (fun h => hno h.1), cmP, hr45]; show (if _ then _ else _) = _; rw [if_neg (by rw [hop]; decide), hr91, hop]; done)) rfl)
          · refine z_goto d_X12_not_104 ?_
            refine z_iconst (v := 1) d_X12_not_112 (by decide) ?_
            refine z_goto d_X12_not_113 ?_
            exact z_iret _ d_X12_not_117 rfl (PE.bad (by first | (rw [denP_s, dnP, if_neg (by simp), cmP, sum9 htk]; done) | (rw [denP_s, dnP, if_pos ⟨htk, rfl⟩, hr20]; done) | (rw [denP_s, dnP, if_neg (fun h => hno h.1), cmP, hr45]; done) | (rw [denP_s, dnP, if_neg (fun h => hno h.1), cmP, hr45]; exact if_pos hop) | (rw [denP_s, dnP, if_neg (fun h => hno h.1), cmP, hr45]; show (if _ then _ else _) = _; rw [if_neg (by rw [hop]; decide), hr91]; done) | (rw [denP_s, dnP, if_neg (fun h => hno h.1), cmP, hr45]; show (if _ then _ else _) = _; rw [if_neg (by rw [hop]; decide), hr91, hop]; done)) rfl)
        · rw [hr91] at hE91
          obtain ⟨hV91, tw91, rfl⟩ := hE91
          have hg91 := (sum_gd (bM A t) n (o + 1) _ (nx_le _ hg45.2.1)).1 c91 q91 hr91
          refine z_istore_n [(3, .int x91), (2, .int 1), (1, .int x45), (0, .ref (b 0))] d_X12_not_94 (by decide) rfl ?_
          refine z_iload_n d_X12_not_95 1 rfl ?_
          refine z_if_eq d_X12_not_96 (fun c_96 => ?_) (fun c_96 => ?_)
          · exact absurd c_96 (by decide)
          refine z_iload_n d_X12_not_99 2 rfl ?_
          refine z_iload_n d_X12_not_100 0 rfl ?_
          refine z_icmp_ge d_X12_not_101 (fun c_101 => ?_) (fun c_101 => ?_)
          · refine z_iconst (v := 0) d_X12_not_116 (by decide) ?_
            exact z_iret _ d_X12_not_117 rfl (PE.ok (by first | (rw [denP_s, dnP, if_neg (by simp), cmP, sum9 htk]; done) | (rw [denP_s, dnP, if_pos ⟨htk, rfl⟩, hr20]; done) | (rw [denP_s, dnP, if_neg (fun h => hno h.1), cmP, hr45]; done) | (rw [denP_s, dnP, if_neg (fun h => hno h.1), cmP, hr45]; exact if_pos hop) | (rw [denP_s, dnP, if_neg (fun h => hno h.1), cmP, hr45]; show (if _ then _ else _) = _; rw [if_neg (by rw [hop]; decide), hr91]; done) | (rw [denP_s, dnP, if_neg (fun h => hno h.1), cmP, hr45]; show (if _ then _ else _) = _; rw [if_neg (by rw [hop]; decide), hr91, hop]; done)) (by have h := hV45.two hV91 (s := -10) (by decide); simpa [ex2, b01, *] using h) (by first | rfl | rw [nI_pred]))
          · refine z_goto d_X12_not_104 ?_
            refine z_iconst (v := 1) d_X12_not_112 (by decide) ?_
            refine z_goto d_X12_not_113 ?_
            exact z_iret _ d_X12_not_117 rfl (PE.ok (by first | (rw [denP_s, dnP, if_neg (by simp), cmP, sum9 htk]; done) | (rw [denP_s, dnP, if_pos ⟨htk, rfl⟩, hr20]; done) | (rw [denP_s, dnP, if_neg (fun h => hno h.1), cmP, hr45]; done) | (rw [denP_s, dnP, if_neg (fun h => hno h.1), cmP, hr45]; exact if_pos hop) | (rw [denP_s, dnP, if_neg (fun h => hno h.1), cmP, hr45]; show (if _ then _ else _) = _; rw [if_neg (by rw [hop]; decide), hr91]; done) | (rw [denP_s, dnP, if_neg (fun h => hno h.1), cmP, hr45]; show (if _ then _ else _) = _; rw [if_neg (by rw [hop]; decide), hr91, hop]; done)) (by have h := hV45.two hV91 (s := -10) (by decide); simpa [ex2, b01, *] using h) (by first | rfl | rw [nI_pred]))
      · refine z_aload_n d_X12_not_58 1 rfl ?_
        refine z_bipush (v := 61) d_X12_not_59 (by decide) ?_
        refine z_callVp 0 c_X12_251 (t_sg G b I A z t n nm q45 (nI d) flt tw45 61 (by decide)) rfl rfl rfl rfl (Nat.le_of_ble_eq_true rfl) (rm_le (by omega)) d_X12_not_61 ?_
        refine z_if_ne d_X12_not_64 (fun c_64 => ?_) (fun c_64 => ?_)
        · have hop : opC (tkL (bM A t) n q45) = -11 := by rw [dec_of c_64]; rfl
          refine z_aload_n d_X12_not_69 1 rfl ?_
          refine z_get (v := .long (twM (bM A t) n q45 tw45)) 0 f_X12_187_12 rfl rfl d_X12_not_70 ?_
          refine z_ldc2 d_X12_not_73 w_1277 ?_
          refine z_lcmp d_X12_not_76 ?_
          refine z_if_ne d_X12_not_77 (fun c_77 => ?_) (fun c_77 => ?_)
          rotate_left
          · exact absurd c_77 (by rw [tw_sg (by decide) (dec_of c_64)]; decide)
          refine z_iconst (v := 0) d_X12_not_84 (by decide) ?_
          refine z_istore_n [(2, .int 0), (1, .int x45), (0, .ref (b 0))] d_X12_not_85 (by decide) rfl ?_
          refine z_aload_n d_X12_not_86 2 rfl ?_
          refine z_callVv 0 c_X12_216 (t_X12_next1 G b I A z t n nm (nI d) 0 flt (twM (bM A t) n q45 tw45) (nxL (bM A t) n q45) ht hn (nx_le _ hg45.2.1) hB (tokM (bM A t) n q45) (nI (stL (bM A t) n q45))) rfl rfl rfl rfl (Nat.le_of_ble_eq_true rfl) (rm_le (by omega)) d_X12_not_87 ?_
          refine z_aload_n d_X12_not_90 2 rfl ?_
          refine z_callV 0 c_X12_277 rfl rfl (hsum (nxL (bM A t) n q45) flt (twM (bM A t) n q45 tw45) (nx_le _ hg45.2.1)) rfl rfl (Nat.le_of_ble_eq_true rfl) (rm_le (by omega)) d_X12_not_91 ?_
          rintro v91 w91 ⟨x91, rfl, hE91⟩
          rcases hr91 : sumP (bM A t) n (o + 1) (nxL (bM A t) n q45) with f91 | ⟨c91, q91⟩
          · rw [hr91] at hE91
            obtain ⟨tok91, tat91, here91, opn91, tw91, rfl⟩ := hE91
            refine z_istore_n [(3, .int x91), (2, .int 0), (1, .int x45), (0, .ref (b 0))] d_X12_not_94 (by decide) rfl ?_
            refine z_iload_n d_X12_not_95 1 rfl ?_
            refine z_if_eq d_X12_not_96 (fun c_96 => ?_) (fun c_96 => ?_)
            rotate_left
            · exact absurd c_96 (by decide)
            refine z_iload_n d_X12_not_107 2 rfl ?_
            refine z_iload_n d_X12_not_108 0 rfl ?_
            refine z_icmp_ne d_X12_not_109 (fun c_109 => ?_) (fun c_109 => ?_)
            · refine z_iconst (v := 0) d_X12_not_116 (by decide) ?_
              exact z_iret _ d_X12_not_117 rfl (PE.bad (by first | (rw [denP_s, dnP, if_neg (by simp), cmP, sum9 htk]; done) | (rw [denP_s, dnP, if_pos ⟨htk, rfl⟩, hr20]; done) | (rw [denP_s, dnP, if_neg (fun h => hno h.1), cmP, hr45]; done) | (rw [denP_s, dnP, if_neg (fun h => hno h.1), cmP, hr45]; exact if_pos hop) | (rw [denP_s, dnP, if_neg (fun h => hno h.1), cmP, hr45]; show (if _ then _ else _) = _; rw [if_neg (by rw [hop]; decide), hr91]; done) | (rw [denP_s, dnP, if_neg (fun h => hno h.1), cmP, hr45]; show (if _ then _ else _) = _; rw [if_neg (by rw [hop]; decide), hr91, hop]; done)) rfl)
            · refine z_iconst (v := 1) d_X12_not_112 (by decide) ?_
              refine z_goto d_X12_not_113 ?_
              exact z_iret _ d_X12_not_117 rfl (PE.bad (by first | (rw [denP_s, dnP, if_neg (by simp), cmP, sum9 htk]; done) | (rw [denP_s, dnP, if_pos ⟨htk, rfl⟩, hr20]; done) | (rw [denP_s, dnP, if_neg (fun h => hno h.1), cmP, hr45]; done) | (rw [denP_s, dnP, if_neg (fun h => hno h.1), cmP, hr45]; exact if_pos hop) | (rw [denP_s, dnP, if_neg (fun h => hno h.1), cmP, hr45]; show (if _ then _ else _) = _; rw [if_neg (by rw [hop]; decide), hr91]; done) | (rw [denP_s, dnP, if_neg (fun h => hno h.1), cmP, hr45]; show (if _ then _ else _) = _; rw [if_neg (by rw [hop]; decide), hr91, hop]; done)) rfl)
          · rw [hr91] at hE91
            obtain ⟨hV91, tw91, rfl⟩ := hE91
            have hg91 := (sum_gd (bM A t) n (o + 1) _ (nx_le _ hg45.2.1)).1 c91 q91 hr91
            refine z_istore_n [(3, .int x91), (2, .int 0), (1, .int x45), (0, .ref (b 0))] d_X12_not_94 (by decide) rfl ?_
            refine z_iload_n d_X12_not_95 1 rfl ?_
            refine z_if_eq d_X12_not_96 (fun c_96 => ?_) (fun c_96 => ?_)
            rotate_left
            · exact absurd c_96 (by decide)
            refine z_iload_n d_X12_not_107 2 rfl ?_
            refine z_iload_n d_X12_not_108 0 rfl ?_
            refine z_icmp_ne d_X12_not_109 (fun c_109 => ?_) (fun c_109 => ?_)
            · refine z_iconst (v := 0) d_X12_not_116 (by decide) ?_
              exact z_iret _ d_X12_not_117 rfl (PE.ok (by first | (rw [denP_s, dnP, if_neg (by simp), cmP, sum9 htk]; done) | (rw [denP_s, dnP, if_pos ⟨htk, rfl⟩, hr20]; done) | (rw [denP_s, dnP, if_neg (fun h => hno h.1), cmP, hr45]; done) | (rw [denP_s, dnP, if_neg (fun h => hno h.1), cmP, hr45]; exact if_pos hop) | (rw [denP_s, dnP, if_neg (fun h => hno h.1), cmP, hr45]; show (if _ then _ else _) = _; rw [if_neg (by rw [hop]; decide), hr91]; done) | (rw [denP_s, dnP, if_neg (fun h => hno h.1), cmP, hr45]; show (if _ then _ else _) = _; rw [if_neg (by rw [hop]; decide), hr91, hop]; done)) (by have h := hV45.two hV91 (s := -11) (by decide); simpa [ex2, b01, *] using h) (by first | rfl | rw [nI_pred]))
            · refine z_iconst (v := 1) d_X12_not_112 (by decide) ?_
              refine z_goto d_X12_not_113 ?_
              exact z_iret _ d_X12_not_117 rfl (PE.ok (by first | (rw [denP_s, dnP, if_neg (by simp), cmP, sum9 htk]; done) | (rw [denP_s, dnP, if_pos ⟨htk, rfl⟩, hr20]; done) | (rw [denP_s, dnP, if_neg (fun h => hno h.1), cmP, hr45]; done) | (rw [denP_s, dnP, if_neg (fun h => hno h.1), cmP, hr45]; exact if_pos hop) | (rw [denP_s, dnP, if_neg (fun h => hno h.1), cmP, hr45]; show (if _ then _ else _) = _; rw [if_neg (by rw [hop]; decide), hr91]; done) | (rw [denP_s, dnP, if_neg (fun h => hno h.1), cmP, hr45]; show (if _ then _ else _) = _; rw [if_neg (by rw [hop]; decide), hr91, hop]; done)) (by have h := hV45.two hV91 (s := -11) (by decide); simpa [ex2, b01, *] using h) (by first | rfl | rw [nI_pred]))
        · have hop : opC (tkL (bM A t) n q45) = 0 := by unfold opC; rw [if_neg (dec_not c_55), if_neg (dec_not c_64)]
          refine z_iload_n d_X12_not_67 0 rfl ?_
          exact z_iret _ d_X12_not_68 rfl (PE.ok (by first | (rw [denP_s, dnP, if_neg (by simp), cmP, sum9 htk]; done) | (rw [denP_s, dnP, if_pos ⟨htk, rfl⟩, hr20]; done) | (rw [denP_s, dnP, if_neg (fun h => hno h.1), cmP, hr45]; done) | (rw [denP_s, dnP, if_neg (fun h => hno h.1), cmP, hr45]; exact if_pos hop) | (rw [denP_s, dnP, if_neg (fun h => hno h.1), cmP, hr45]; show (if _ then _ else _) = _; rw [if_neg (by rw [hop]; decide), hr91]; done) | (rw [denP_s, dnP, if_neg (fun h => hno h.1), cmP, hr45]; show (if _ then _ else _) = _; rw [if_neg (by rw [hop]; decide), hr91, hop]; done)) hV45 (by first | rfl | rw [nI_pred]))
  · have htk := dec_of c_7
    refine z_aload_n d_X12_not_10 0 rfl ?_
    refine z_callVp 0 c_X12_254 (t_X12_opensL G b I A z t n nm ht hn hB p hp flt tw0 d hd) rfl rfl rfl rfl (Nat.le_of_ble_eq_true rfl) (rm_le (by omega)) d_X12_not_11 ?_
    refine z_if_ne d_X12_not_14 (fun c_14 => ?_) (fun c_14 => ?_)
    rotate_left
    · exact absurd c_14 (by decide)
    refine z_aload_n d_X12_not_19 0 rfl ?_
    refine z_callV 0 c_X12_274 rfl rfl (hnot (nxL (bM A t) n p) flt (twM (bM A t) n p tw0) (nx_le _ hp)) rfl rfl (Nat.le_of_ble_eq_true rfl) (rm_le (by omega)) d_X12_not_20 ?_
    rintro v20 w20 ⟨x20, rfl, hE20⟩
    rcases hr20 : denP (bM A t) n o (nxL (bM A t) n p) with f20 | ⟨c20, q20⟩
    · rw [hr20] at hE20
      obtain ⟨tok20, tat20, here20, opn20, tw20, rfl⟩ := hE20
      refine z_istore_n [(1, .int x20), (0, .ref (b 0))] d_X12_not_23 (by decide) rfl ?_
      refine z_aload_n d_X12_not_24 1 rfl ?_
      refine z_dup d_X12_not_25 rfl ?_
      refine z_get (v := .int opn20) 0 f_X12_210_12 rfl rfl d_X12_not_26 ?_
      refine z_iconst (v := 1) d_X12_not_29 (by decide) ?_
      refine z_isub d_X12_not_30 ?_
      refine z_put 0 (PW G b I A z t n nm tok20 tat20 here20 (opn20 - 1) 1 (nI f20) tw20) p_X12_210_12 rfl rfl rfl (Nat.le_of_ble_eq_true rfl) (pw_21 G b I A z t n nm tok20 tat20 here20 opn20 1 (nI f20) tw20 _) d_X12_not_31 ?_
      refine z_iload_n d_X12_not_34 0 rfl ?_
      refine z_if_ne d_X12_not_35 (fun c_35 => ?_) (fun c_35 => ?_)
      · refine z_iconst (v := 0) d_X12_not_42 (by decide) ?_
        exact z_iret _ d_X12_not_43 rfl (PE.bad (by first | (rw [denP_s, dnP, if_neg (by simp), cmP, sum9 htk]; done) | (rw [denP_s, dnP, if_pos ⟨htk, rfl⟩, hr20]; done) | (rw [denP_s, dnP, if_neg (fun h => hno h.1), cmP, hr45]; done) | (rw [denP_s, dnP, if_neg (fun h => hno h.1), cmP, hr45]; exact if_pos hop) | (rw [denP_s, dnP, if_neg (fun h => hno h.1), cmP, hr45]; show (if _ then _ else _) = _; rw [if_neg (by rw [hop]; decide), hr91]; done) | (rw [denP_s, dnP, if_neg (fun h => hno h.1), cmP, hr45]; show (if _ then _ else _) = _; rw [if_neg (by rw [hop]; decide), hr91, hop]; done)) rfl)
      · refine z_iconst (v := 1) d_X12_not_38 (by decide) ?_
        refine z_goto d_X12_not_39 ?_
        exact z_iret _ d_X12_not_43 rfl (PE.bad (by first | (rw [denP_s, dnP, if_neg (by simp), cmP, sum9 htk]; done) | (rw [denP_s, dnP, if_pos ⟨htk, rfl⟩, hr20]; done) | (rw [denP_s, dnP, if_neg (fun h => hno h.1), cmP, hr45]; done) | (rw [denP_s, dnP, if_neg (fun h => hno h.1), cmP, hr45]; exact if_pos hop) | (rw [denP_s, dnP, if_neg (fun h => hno h.1), cmP, hr45]; show (if _ then _ else _) = _; rw [if_neg (by rw [hop]; decide), hr91]; done) | (rw [denP_s, dnP, if_neg (fun h => hno h.1), cmP, hr45]; show (if _ then _ else _) = _; rw [if_neg (by rw [hop]; decide), hr91, hop]; done)) rfl)
    · rw [hr20] at hE20
      obtain ⟨hV20, tw20, rfl⟩ := hE20
      have hg20 := ((lv_gd (bM A t) n o).2.1 _ (nx_le _ hp)).1 c20 q20 hr20
      refine z_istore_n [(1, .int x20), (0, .ref (b 0))] d_X12_not_23 (by decide) rfl ?_
      refine z_aload_n d_X12_not_24 1 rfl ?_
      refine z_dup d_X12_not_25 rfl ?_
      refine z_get (v := .int (nI (d + 1))) 0 f_X12_210_12 rfl rfl d_X12_not_26 ?_
      refine z_iconst (v := 1) d_X12_not_29 (by decide) ?_
      refine z_isub d_X12_not_30 ?_
      refine z_put 0 (LW G b I A z t n nm q20 ((nI (d + 1)) - 1) 0 flt tw20) p_X12_210_12 rfl rfl rfl (Nat.le_of_ble_eq_true rfl) (pw_21 G b I A z t n nm (tokM (bM A t) n q20) (nI (stL (bM A t) n q20)) (nI (nxL (bM A t) n q20)) (nI (d + 1)) 0 flt (twM (bM A t) n q20 tw20) _) d_X12_not_31 ?_
      refine z_iload_n d_X12_not_34 0 rfl ?_
      refine z_if_ne d_X12_not_35 (fun c_35 => ?_) (fun c_35 => ?_)
      · refine z_iconst (v := 0) d_X12_not_42 (by decide) ?_
        exact z_iret _ d_X12_not_43 rfl (PE.ok (by first | (rw [denP_s, dnP, if_neg (by simp), cmP, sum9 htk]; done) | (rw [denP_s, dnP, if_pos ⟨htk, rfl⟩, hr20]; done) | (rw [denP_s, dnP, if_neg (fun h => hno h.1), cmP, hr45]; done) | (rw [denP_s, dnP, if_neg (fun h => hno h.1), cmP, hr45]; exact if_pos hop) | (rw [denP_s, dnP, if_neg (fun h => hno h.1), cmP, hr45]; show (if _ then _ else _) = _; rw [if_neg (by rw [hop]; decide), hr91]; done) | (rw [denP_s, dnP, if_neg (fun h => hno h.1), cmP, hr45]; show (if _ then _ else _) = _; rw [if_neg (by rw [hop]; decide), hr91, hop]; done)) (by have h := hV20.one (s := -9) (Or.inl rfl); simpa [ex1, b01, *] using h) (by first | rfl | rw [nI_pred]))
      · refine z_iconst (v := 1) d_X12_not_38 (by decide) ?_
        refine z_goto d_X12_not_39 ?_
        exact z_iret _ d_X12_not_43 rfl (PE.ok (by first | (rw [denP_s, dnP, if_neg (by simp), cmP, sum9 htk]; done) | (rw [denP_s, dnP, if_pos ⟨htk, rfl⟩, hr20]; done) | (rw [denP_s, dnP, if_neg (fun h => hno h.1), cmP, hr45]; done) | (rw [denP_s, dnP, if_neg (fun h => hno h.1), cmP, hr45]; exact if_pos hop) | (rw [denP_s, dnP, if_neg (fun h => hno h.1), cmP, hr45]; show (if _ then _ else _) = _; rw [if_neg (by rw [hop]; decide), hr91]; done) | (rw [denP_s, dnP, if_neg (fun h => hno h.1), cmP, hr45]; show (if _ then _ else _) = _; rw [if_neg (by rw [hop]; decide), hr91, hop]; done)) (by have h := hV20.one (s := -9) (Or.inl rfl); simpa [ex1, b01, *] using h) (by first | rfl | rw [nI_pred]))
/-- the six of a level, so deep -/
theorem P_lv (G : GT) (b : Nat → Nat) (I : Nat → Int32) (A : Nat → Nat → Int32) (z : Int32) (t n : Nat) (nm : Nat → Int32) (ht : t < 6) (hn : n ≤ 160) (hB : ∀ i, i < n → 0 ≤ (bM A t i).toInt) : ∀ o, o ≤ 5 → CtP G b I A z t n nm mX12_one (4 + 6 * o) (5 - o) (oneP (bM A t) n o) ∧ CtP G b I A z t n nm mX12_not (7 + 6 * o) (5 - o) (denP (bM A t) n o) ∧ CtP G b I A z t n nm mX12_either (9 + 6 * o) (5 - o) (eitP (bM A t) n o)
  | 0, _ => by
    have h1 : CtP G b I A z t n nm mX12_one (4 + 6 * 0) (5 - 0) (oneP (bM A t) n 0) := fun p flt tw0 hp => t_X12_one0 G b I A z t n nm ht hn hB p hp flt tw0
    have h2 : CtP G b I A z t n nm mX12_term (5 + 6 * 0) (5 - 0) (terP (bM A t) n 0) := P_X12_term G b I A z t n nm ht hn hB _ _ _ h1 (lv_gd (bM A t) n 0).1 _ (by omega) (by omega)
    have h3 : CtP G b I A z t n nm mX12_added (6 + 6 * 0) (5 - 0) (sumP (bM A t) n 0) := P_X12_added G b I A z t n nm ht hn hB _ _ _ h2 (ter_gd (bM A t) n 0) _ (by omega) (by omega)
    have h4 : CtP G b I A z t n nm mX12_not (7 + 6 * 0) (5 - 0) (denP (bM A t) n 0) := fun p flt tw0 hp => t_X12_not0 G b I A z t n nm ht hn hB p hp flt tw0 _ _ (by omega) (by omega) h3
    have h5 : CtP G b I A z t n nm mX12_both (8 + 6 * 0) (5 - 0) (botP (bM A t) n 0) := P_X12_both G b I A z t n nm ht hn hB _ _ _ h4 (lv_gd (bM A t) n 0).2.1 _ (by omega) (by omega)
    have h6 : CtP G b I A z t n nm mX12_either (9 + 6 * 0) (5 - 0) (thL (bM A t) n (botP (bM A t) n 0) opO) := P_X12_either G b I A z t n nm ht hn hB _ _ _ h5 (bot_gd (bM A t) n 0) _ (by omega) (by omega)
    exact ⟨h1, h4, by rw [show eitP (bM A t) n 0 = thL (bM A t) n (botP (bM A t) n 0) opO from rfl]; exact h6⟩
  | o + 1, ho => by
    obtain ⟨g1, g2, g3⟩ := P_lv G b I A z t n nm ht hn hB o (by omega)
    rw [show 5 - o = (5 - (o + 1)) + 1 by omega] at g1 g2 g3
    have h1 : CtP G b I A z t n nm mX12_one (4 + 6 * (o + 1)) (5 - (o + 1)) (oneP (bM A t) n (o + 1)) := fun p flt tw0 hp => t_X12_oneS G b I A z t n nm ht hn hB p hp flt tw0 _ o _ _ (by omega) g3 g1 _ (by omega) (by omega) (by omega)
    have h2 : CtP G b I A z t n nm mX12_term (5 + 6 * (o + 1)) (5 - (o + 1)) (terP (bM A t) n (o + 1)) := P_X12_term G b I A z t n nm ht hn hB _ _ _ h1 (lv_gd (bM A t) n (o + 1)).1 _ (by omega) (by omega)
    have h3 : CtP G b I A z t n nm mX12_added (6 + 6 * (o + 1)) (5 - (o + 1)) (sumP (bM A t) n (o + 1)) := P_X12_added G b I A z t n nm ht hn hB _ _ _ h2 (ter_gd (bM A t) n (o + 1)) _ (by omega) (by omega)
    have h4 : CtP G b I A z t n nm mX12_not (7 + 6 * (o + 1)) (5 - (o + 1)) (denP (bM A t) n (o + 1)) := fun p flt tw0 hp => t_X12_notS G b I A z t n nm ht hn hB p hp flt tw0 _ o _ _ _ (by omega) (by omega) (by omega) (by omega) h3 g2
    have h5 : CtP G b I A z t n nm mX12_both (8 + 6 * (o + 1)) (5 - (o + 1)) (botP (bM A t) n (o + 1)) := P_X12_both G b I A z t n nm ht hn hB _ _ _ h4 (lv_gd (bM A t) n (o + 1)).2.1 _ (by omega) (by omega)
    have h6 : CtP G b I A z t n nm mX12_either (9 + 6 * (o + 1)) (5 - (o + 1)) (thL (bM A t) n (botP (bM A t) n (o + 1)) opO) := P_X12_either G b I A z t n nm ht hn hB _ _ _ h5 (bot_gd (bM A t) n (o + 1)) _ (by omega) (by omega)
    exact ⟨h1, h4, by rw [show eitP (bM A t) n (o + 1) = thL (bM A t) n (botP (bM A t) n (o + 1)) opO from rfl]; exact h6⟩
theorem P_E (G : GT) (b : Nat → Nat) (I : Nat → Int32) (A : Nat → Nat → Int32) (z : Int32) (t n : Nat) (nm : Nat → Int32) (ht : t < 6) (hn : n ≤ 160) (hB : ∀ i, i < n → 0 ≤ (bM A t i).toInt) : CtP G b I A z t n nm mX12_either 39 0 (eitP (bM A t) n 5) := (P_lv G b I A z t n nm ht hn hB 5 (Nat.le_refl 5)).2.2
theorem par_gd (B : Nat → Int32) (n : Nat) (k : Int32) (h0 : ¬ k = 0) (h1 : ¬ k = 1) : ∀ p, p ≤ n → ∀ c q, parP B n k p = .inr (c, q) → Gd n p c q := by
  intro p hp c q h
  unfold parP at h
  split at h
  · rename_i htk
    have hg := nx_tk htk h0 h1
    have hx := nx_le B hp
    cases hr : eitP B n 5 (nxL B n p) with
    | inl z => rw [hr] at h; exact (pr_lr h).elim
    | inr cq =>
      obtain ⟨c1, q1⟩ := cq
      have g := ((lv_gd B n 5).2.2 _ hx).1 c1 q1 hr
      rw [hr] at h
      dsimp only at h
      split at h
      · rename_i h59
        obtain ⟨rfl, rfl⟩ := pr_rr h
        exact g.more (by omega) (Nat.le_of_lt (nx_tk h59 (by decide) (by decide))) (nx_le B g.2.1)
      · exact (pr_lr h).elim
  · exact (pr_lr h).elim
set_option maxHeartbeats 4000000 in
set_option maxRecDepth 100000 in
theorem t_X12_part4 (G : GT) (b : Nat → Nat) (I : Nat → Int32) (A : Nat → Nat → Int32) (z : Int32) (t n : Nat) (nm : Nat → Int32) (ht : t < 6) (hn : n ≤ 160) (hB : ∀ i, i < n → 0 ≤ (bM A t i).toInt) (p : Nat) (hp : p ≤ n) (flt : Int32) (tw0 : Int64)  : Ct G mX12_part 40 0 0 [.ref (b 0), .long 13691] (LW G b I A z t n nm p (nI 0) 0 flt tw0) (PE G b I A z t n nm (nI 0) flt (parP (bM A t) n 4 p)) := by
  refine Ct.intro [(0, .ref (b 0)), (1, .long 13691)] (by decide) rfl (Nat.le_of_ble_eq_true rfl) ?_
  refine z_aload_n d_X12_part_0 0 rfl ?_
  refine z_lload_n d_X12_part_1 1 rfl ?_
  refine z_callVp 0 c_X12_219 (t_ky G b I A z t n nm p (nI 0) flt tw0 hn hp 6 (by decide) (4, 0, 13691, [114, 117, 98]) rfl) rfl rfl rfl rfl (Nat.le_of_ble_eq_true rfl) rfl d_X12_part_2 ?_
  refine z_if_ne d_X12_part_5 (fun c_5 => ?_) (fun c_5 => ?_)
  · have htk := dec_of c_5
    refine z_aload_n d_X12_part_12 0 rfl ?_
    refine z_get (v := .int 0) 0 f_X12_203_12 rfl rfl d_X12_part_13 ?_
    refine z_if_ne d_X12_part_16 (fun c_16 => ?_) (fun c_16 => ?_)
    · exact absurd c_16 (by decide)
    refine z_aload_n d_X12_part_19 0 rfl ?_
    refine z_callVv 0 c_X12_216 (t_X12_next1 G b I A z t n nm (nI 0) 0 flt (twM (bM A t) n p tw0) (nxL (bM A t) n p) ht hn (nx_le _ hp) hB (tokM (bM A t) n p) (nI (stL (bM A t) n p))) rfl rfl rfl rfl (Nat.le_of_ble_eq_true rfl) rfl d_X12_part_20 ?_
    refine z_aload_n d_X12_part_23 0 rfl ?_
    refine z_get (v := .int 0) 0 f_X12_203_12 rfl rfl d_X12_part_24 ?_
    refine z_if_eq d_X12_part_27 (fun c_27 => ?_) (fun c_27 => ?_)
    rotate_left
    · exact absurd c_27 (by decide)
    refine z_aload_n d_X12_part_34 0 rfl ?_
    refine z_callV 0 c_X12_261 rfl rfl (P_E G b I A z t n nm ht hn hB (nxL (bM A t) n p) flt (twM (bM A t) n p tw0) (nx_le _ hp)) rfl rfl (Nat.le_of_ble_eq_true rfl) rfl d_X12_part_35 ?_
    rintro v35 w35 ⟨x35, rfl, hE35⟩
    rcases hr35 : eitP (bM A t) n 5 (nxL (bM A t) n p) with f35 | ⟨c35, q35⟩
    · rw [hr35] at hE35
      obtain ⟨tok35, tat35, here35, opn35, tw35, rfl⟩ := hE35
      refine z_istore_n [(3, .int x35), (0, .ref (b 0)), (1, .long 13691)] d_X12_part_38 (by decide) rfl ?_
      refine z_aload_n d_X12_part_39 1 rfl ?_
      refine z_bipush (v := 59) d_X12_part_40 (by decide) ?_
      refine z_callVp 0 c_X12_251 (t_sgB G b I A z t n nm tok35 tat35 here35 opn35 (nI f35) tw35 59) rfl rfl rfl rfl (Nat.le_of_ble_eq_true rfl) rfl d_X12_part_42 ?_
      refine z_if_ne d_X12_part_45 (fun c_45 => ?_) (fun c_45 => ?_)
      · exact absurd c_45 (by decide)
      refine z_aload_n d_X12_part_48 1 rfl ?_
      refine z_callVv 0 c_X12_213 (t_X12_fail1 G b I A z t n nm tok35 tat35 here35 opn35 (nI f35) tw35) rfl rfl rfl rfl (Nat.le_of_ble_eq_true rfl) rfl d_X12_part_49 ?_
      refine z_aload_n d_X12_part_52 1 rfl ?_
      refine z_get (v := .int 1) 0 f_X12_203_12 rfl rfl d_X12_part_53 ?_
      refine z_if_ne d_X12_part_56 (fun c_56 => ?_) (fun c_56 => ?_)
      rotate_left
      · exact absurd c_56 (by decide)
      refine z_iload_n d_X12_part_63 0 rfl ?_
      exact z_iret _ d_X12_part_64 rfl (PE.bad (by first | (rw [parP, if_neg htk]; done) | (rw [parP, if_pos htk, hr35]; done) | (rw [parP, if_pos htk, hr35]; exact if_pos h59) | (rw [parP, if_pos htk, hr35]; exact if_neg h59)) rfl)
    · rw [hr35] at hE35
      obtain ⟨hV35, tw35, rfl⟩ := hE35
      have hg35 := ((lv_gd (bM A t) n 5).2.2 _ (nx_le _ hp)).1 c35 q35 hr35
      refine z_istore_n [(3, .int x35), (0, .ref (b 0)), (1, .long 13691)] d_X12_part_38 (by decide) rfl ?_
      refine z_aload_n d_X12_part_39 1 rfl ?_
      refine z_bipush (v := 59) d_X12_part_40 (by decide) ?_
      refine z_callVp 0 c_X12_251 (t_sg G b I A z t n nm q35 (nI 0) flt tw35 59 (by decide)) rfl rfl rfl rfl (Nat.le_of_ble_eq_true rfl) rfl d_X12_part_42 ?_
      refine z_if_ne d_X12_part_45 (fun c_45 => ?_) (fun c_45 => ?_)
      · have h59 := dec_of c_45
        refine z_aload_n d_X12_part_52 1 rfl ?_
        refine z_get (v := .int 0) 0 f_X12_203_12 rfl rfl d_X12_part_53 ?_
        refine z_if_ne d_X12_part_56 (fun c_56 => ?_) (fun c_56 => ?_)
        · exact absurd c_56 (by decide)
        refine z_aload_n d_X12_part_59 1 rfl ?_
        refine z_callVv 0 c_X12_216 (t_X12_next1 G b I A z t n nm (nI 0) 0 flt (twM (bM A t) n q35 tw35) (nxL (bM A t) n q35) ht hn (nx_le _ hg35.2.1) hB (tokM (bM A t) n q35) (nI (stL (bM A t) n q35))) rfl rfl rfl rfl (Nat.le_of_ble_eq_true rfl) rfl d_X12_part_60 ?_
        refine z_iload_n d_X12_part_63 0 rfl ?_
        exact z_iret _ d_X12_part_64 rfl (PE.ok (by first | (rw [parP, if_neg htk]; done) | (rw [parP, if_pos htk, hr35]; done) | (rw [parP, if_pos htk, hr35]; exact if_pos h59) | (rw [parP, if_pos htk, hr35]; exact if_neg h59)) hV35 rfl)
      · have h59 := dec_not c_45
        refine z_aload_n d_X12_part_48 1 rfl ?_
        refine z_callVv 0 c_X12_213 (t_X12_fail0 G b I A z t n nm (tokM (bM A t) n q35) (nI (stL (bM A t) n q35)) (nI (nxL (bM A t) n q35)) (nI 0) flt (twM (bM A t) n q35 tw35)) rfl rfl rfl rfl (Nat.le_of_ble_eq_true rfl) rfl d_X12_part_49 ?_
        refine z_aload_n d_X12_part_52 1 rfl ?_
        refine z_get (v := .int 1) 0 f_X12_203_12 rfl rfl d_X12_part_53 ?_
        refine z_if_ne d_X12_part_56 (fun c_56 => ?_) (fun c_56 => ?_)
        rotate_left
        · exact absurd c_56 (by decide)
        refine z_iload_n d_X12_part_63 0 rfl ?_
        exact z_iret _ d_X12_part_64 rfl (PE.bad (by first | (rw [parP, if_neg htk]; done) | (rw [parP, if_pos htk, hr35]; done) | (rw [parP, if_pos htk, hr35]; exact if_pos h59) | (rw [parP, if_pos htk, hr35]; exact if_neg h59)) rfl)
  · have htk := dec_not c_5
    refine z_aload_n d_X12_part_8 0 rfl ?_
    refine z_callVv 0 c_X12_213 (t_X12_fail0 G b I A z t n nm (tokM (bM A t) n p) (nI (stL (bM A t) n p)) (nI (nxL (bM A t) n p)) (nI 0) flt (twM (bM A t) n p tw0)) rfl rfl rfl rfl (Nat.le_of_ble_eq_true rfl) rfl d_X12_part_9 ?_
    refine z_aload_n d_X12_part_12 0 rfl ?_
    refine z_get (v := .int 1) 0 f_X12_203_12 rfl rfl d_X12_part_13 ?_
    refine z_if_ne d_X12_part_16 (fun c_16 => ?_) (fun c_16 => ?_)
    rotate_left
    · exact absurd c_16 (by decide)
    refine z_aload_n d_X12_part_23 0 rfl ?_
    refine z_get (v := .int 1) 0 f_X12_203_12 rfl rfl d_X12_part_24 ?_
    refine z_if_eq d_X12_part_27 (fun c_27 => ?_) (fun c_27 => ?_)
    · exact absurd c_27 (by decide)
    refine z_iconst (v := 0) d_X12_part_30 (by decide) ?_
    refine z_goto d_X12_part_31 ?_
    refine z_istore_n [(3, .int 0), (0, .ref (b 0)), (1, .long 13691)] d_X12_part_38 (by decide) rfl ?_
    refine z_aload_n d_X12_part_39 1 rfl ?_
    refine z_bipush (v := 59) d_X12_part_40 (by decide) ?_
    refine z_callVp 0 c_X12_251 (t_sgB G b I A z t n nm (tokM (bM A t) n p) (nI (stL (bM A t) n p)) (nI (nxL (bM A t) n p)) (nI 0) (nI (stL (bM A t) n p)) (twM (bM A t) n p tw0) 59) rfl rfl rfl rfl (Nat.le_of_ble_eq_true rfl) rfl d_X12_part_42 ?_
    refine z_if_ne d_X12_part_45 (fun c_45 => ?_) (fun c_45 => ?_)
    · exact absurd c_45 (by decide)
    refine z_aload_n d_X12_part_48 1 rfl ?_
    refine z_callVv 0 c_X12_213 (t_X12_fail1 G b I A z t n nm (tokM (bM A t) n p) (nI (stL (bM A t) n p)) (nI (nxL (bM A t) n p)) (nI 0) (nI (stL (bM A t) n p)) (twM (bM A t) n p tw0)) rfl rfl rfl rfl (Nat.le_of_ble_eq_true rfl) rfl d_X12_part_49 ?_
    refine z_aload_n d_X12_part_52 1 rfl ?_
    refine z_get (v := .int 1) 0 f_X12_203_12 rfl rfl d_X12_part_53 ?_
    refine z_if_ne d_X12_part_56 (fun c_56 => ?_) (fun c_56 => ?_)
    rotate_left
    · exact absurd c_56 (by decide)
    refine z_iload_n d_X12_part_63 0 rfl ?_
    exact z_iret _ d_X12_part_64 rfl (PE.bad (by first | (rw [parP, if_neg htk]; done) | (rw [parP, if_pos htk, hr35]; done) | (rw [parP, if_pos htk, hr35]; exact if_pos h59) | (rw [parP, if_pos htk, hr35]; exact if_neg h59)) rfl)
theorem g_part4 (B : Nat → Int32) (n : Nat) : ∀ p, p ≤ n → ∀ c q, parP B n 4 p = .inr (c, q) → p < q ∧ q ≤ n ∧ c.length + p ≤ q ∧ (∀ s ∈ c, okS s) ∧ ∀ nm, ∃ x, Vl nm c x := par_gd B n 4 (by decide) (by decide)
set_option maxHeartbeats 4000000 in
set_option maxRecDepth 100000 in
theorem t_X12_part5 (G : GT) (b : Nat → Nat) (I : Nat → Int32) (A : Nat → Nat → Int32) (z : Int32) (t n : Nat) (nm : Nat → Int32) (ht : t < 6) (hn : n ≤ 160) (hB : ∀ i, i < n → 0 ≤ (bM A t i).toInt) (p : Nat) (hp : p ≤ n) (flt : Int32) (tw0 : Int64)  : Ct G mX12_part 40 0 0 [.ref (b 0), .long 279875] (LW G b I A z t n nm p (nI 0) 0 flt tw0) (PE G b I A z t n nm (nI 0) flt (parP (bM A t) n 5 p)) := by
  refine Ct.intro [(0, .ref (b 0)), (1, .long 279875)] (by decide) rfl (Nat.le_of_ble_eq_true rfl) ?_
  refine z_aload_n d_X12_part_0 0 rfl ?_
  refine z_lload_n d_X12_part_1 1 rfl ?_
  refine z_callVp 0 c_X12_219 (t_ky G b I A z t n nm p (nI 0) flt tw0 hn hp 7 (by decide) (5, 0, 279875, [110, 101, 120, 116]) rfl) rfl rfl rfl rfl (Nat.le_of_ble_eq_true rfl) rfl d_X12_part_2 ?_
  refine z_if_ne d_X12_part_5 (fun c_5 => ?_) (fun c_5 => ?_)
  · have htk := dec_of c_5
    refine z_aload_n d_X12_part_12 0 rfl ?_
    refine z_get (v := .int 0) 0 f_X12_203_12 rfl rfl d_X12_part_13 ?_
    refine z_if_ne d_X12_part_16 (fun c_16 => ?_) (fun c_16 => ?_)
    · exact absurd c_16 (by decide)
    refine z_aload_n d_X12_part_19 0 rfl ?_
    refine z_callVv 0 c_X12_216 (t_X12_next1 G b I A z t n nm (nI 0) 0 flt (twM (bM A t) n p tw0) (nxL (bM A t) n p) ht hn (nx_le _ hp) hB (tokM (bM A t) n p) (nI (stL (bM A t) n p))) rfl rfl rfl rfl (Nat.le_of_ble_eq_true rfl) rfl d_X12_part_20 ?_
    refine z_aload_n d_X12_part_23 0 rfl ?_
    refine z_get (v := .int 0) 0 f_X12_203_12 rfl rfl d_X12_part_24 ?_
    refine z_if_eq d_X12_part_27 (fun c_27 => ?_) (fun c_27 => ?_)
    rotate_left
    · exact absurd c_27 (by decide)
    refine z_aload_n d_X12_part_34 0 rfl ?_
    refine z_callV 0 c_X12_261 rfl rfl (P_E G b I A z t n nm ht hn hB (nxL (bM A t) n p) flt (twM (bM A t) n p tw0) (nx_le _ hp)) rfl rfl (Nat.le_of_ble_eq_true rfl) rfl d_X12_part_35 ?_
    rintro v35 w35 ⟨x35, rfl, hE35⟩
    rcases hr35 : eitP (bM A t) n 5 (nxL (bM A t) n p) with f35 | ⟨c35, q35⟩
    · rw [hr35] at hE35
      obtain ⟨tok35, tat35, here35, opn35, tw35, rfl⟩ := hE35
      refine z_istore_n [(3, .int x35), (0, .ref (b 0)), (1, .long 279875)] d_X12_part_38 (by decide) rfl ?_
      refine z_aload_n d_X12_part_39 1 rfl ?_
      refine z_bipush (v := 59) d_X12_part_40 (by decide) ?_
      refine z_callVp 0 c_X12_251 (t_sgB G b I A z t n nm tok35 tat35 here35 opn35 (nI f35) tw35 59) rfl rfl rfl rfl (Nat.le_of_ble_eq_true rfl) rfl d_X12_part_42 ?_
      refine z_if_ne d_X12_part_45 (fun c_45 => ?_) (fun c_45 => ?_)
      · exact absurd c_45 (by decide)
      refine z_aload_n d_X12_part_48 1 rfl ?_
      refine z_callVv 0 c_X12_213 (t_X12_fail1 G b I A z t n nm tok35 tat35 here35 opn35 (nI f35) tw35) rfl rfl rfl rfl (Nat.le_of_ble_eq_true rfl) rfl d_X12_part_49 ?_
      refine z_aload_n d_X12_part_52 1 rfl ?_
      refine z_get (v := .int 1) 0 f_X12_203_12 rfl rfl d_X12_part_53 ?_
      refine z_if_ne d_X12_part_56 (fun c_56 => ?_) (fun c_56 => ?_)
      rotate_left
      · exact absurd c_56 (by decide)
      refine z_iload_n d_X12_part_63 0 rfl ?_
      exact z_iret _ d_X12_part_64 rfl (PE.bad (by first | (rw [parP, if_neg htk]; done) | (rw [parP, if_pos htk, hr35]; done) | (rw [parP, if_pos htk, hr35]; exact if_pos h59) | (rw [parP, if_pos htk, hr35]; exact if_neg h59)) rfl)
    · rw [hr35] at hE35
      obtain ⟨hV35, tw35, rfl⟩ := hE35
      have hg35 := ((lv_gd (bM A t) n 5).2.2 _ (nx_le _ hp)).1 c35 q35 hr35
      refine z_istore_n [(3, .int x35), (0, .ref (b 0)), (1, .long 279875)] d_X12_part_38 (by decide) rfl ?_
      refine z_aload_n d_X12_part_39 1 rfl ?_
      refine z_bipush (v := 59) d_X12_part_40 (by decide) ?_
      refine z_callVp 0 c_X12_251 (t_sg G b I A z t n nm q35 (nI 0) flt tw35 59 (by decide)) rfl rfl rfl rfl (Nat.le_of_ble_eq_true rfl) rfl d_X12_part_42 ?_
      refine z_if_ne d_X12_part_45 (fun c_45 => ?_) (fun c_45 => ?_)
      · have h59 := dec_of c_45
        refine z_aload_n d_X12_part_52 1 rfl ?_
        refine z_get (v := .int 0) 0 f_X12_203_12 rfl rfl d_X12_part_53 ?_
        refine z_if_ne d_X12_part_56 (fun c_56 => ?_) (fun c_56 => ?_)
        · exact absurd c_56 (by decide)
        refine z_aload_n d_X12_part_59 1 rfl ?_
        refine z_callVv 0 c_X12_216 (t_X12_next1 G b I A z t n nm (nI 0) 0 flt (twM (bM A t) n q35 tw35) (nxL (bM A t) n q35) ht hn (nx_le _ hg35.2.1) hB (tokM (bM A t) n q35) (nI (stL (bM A t) n q35))) rfl rfl rfl rfl (Nat.le_of_ble_eq_true rfl) rfl d_X12_part_60 ?_
        refine z_iload_n d_X12_part_63 0 rfl ?_
        exact z_iret _ d_X12_part_64 rfl (PE.ok (by first | (rw [parP, if_neg htk]; done) | (rw [parP, if_pos htk, hr35]; done) | (rw [parP, if_pos htk, hr35]; exact if_pos h59) | (rw [parP, if_pos htk, hr35]; exact if_neg h59)) hV35 rfl)
      · have h59 := dec_not c_45
        refine z_aload_n d_X12_part_48 1 rfl ?_
        refine z_callVv 0 c_X12_213 (t_X12_fail0 G b I A z t n nm (tokM (bM A t) n q35) (nI (stL (bM A t) n q35)) (nI (nxL (bM A t) n q35)) (nI 0) flt (twM (bM A t) n q35 tw35)) rfl rfl rfl rfl (Nat.le_of_ble_eq_true rfl) rfl d_X12_part_49 ?_
        refine z_aload_n d_X12_part_52 1 rfl ?_
        refine z_get (v := .int 1) 0 f_X12_203_12 rfl rfl d_X12_part_53 ?_
        refine z_if_ne d_X12_part_56 (fun c_56 => ?_) (fun c_56 => ?_)
        rotate_left
        · exact absurd c_56 (by decide)
        refine z_iload_n d_X12_part_63 0 rfl ?_
        exact z_iret _ d_X12_part_64 rfl (PE.bad (by first | (rw [parP, if_neg htk]; done) | (rw [parP, if_pos htk, hr35]; done) | (rw [parP, if_pos htk, hr35]; exact if_pos h59) | (rw [parP, if_pos htk, hr35]; exact if_neg h59)) rfl)
  · have htk := dec_not c_5
    refine z_aload_n d_X12_part_8 0 rfl ?_
    refine z_callVv 0 c_X12_213 (t_X12_fail0 G b I A z t n nm (tokM (bM A t) n p) (nI (stL (bM A t) n p)) (nI (nxL (bM A t) n p)) (nI 0) flt (twM (bM A t) n p tw0)) rfl rfl rfl rfl (Nat.le_of_ble_eq_true rfl) rfl d_X12_part_9 ?_
    refine z_aload_n d_X12_part_12 0 rfl ?_
    refine z_get (v := .int 1) 0 f_X12_203_12 rfl rfl d_X12_part_13 ?_
    refine z_if_ne d_X12_part_16 (fun c_16 => ?_) (fun c_16 => ?_)
    rotate_left
    · exact absurd c_16 (by decide)
    refine z_aload_n d_X12_part_23 0 rfl ?_
    refine z_get (v := .int 1) 0 f_X12_203_12 rfl rfl d_X12_part_24 ?_
    refine z_if_eq d_X12_part_27 (fun c_27 => ?_) (fun c_27 => ?_)
    · exact absurd c_27 (by decide)
    refine z_iconst (v := 0) d_X12_part_30 (by decide) ?_
    refine z_goto d_X12_part_31 ?_
    refine z_istore_n [(3, .int 0), (0, .ref (b 0)), (1, .long 279875)] d_X12_part_38 (by decide) rfl ?_
    refine z_aload_n d_X12_part_39 1 rfl ?_
    refine z_bipush (v := 59) d_X12_part_40 (by decide) ?_
    refine z_callVp 0 c_X12_251 (t_sgB G b I A z t n nm (tokM (bM A t) n p) (nI (stL (bM A t) n p)) (nI (nxL (bM A t) n p)) (nI 0) (nI (stL (bM A t) n p)) (twM (bM A t) n p tw0) 59) rfl rfl rfl rfl (Nat.le_of_ble_eq_true rfl) rfl d_X12_part_42 ?_
    refine z_if_ne d_X12_part_45 (fun c_45 => ?_) (fun c_45 => ?_)
    · exact absurd c_45 (by decide)
    refine z_aload_n d_X12_part_48 1 rfl ?_
    refine z_callVv 0 c_X12_213 (t_X12_fail1 G b I A z t n nm (tokM (bM A t) n p) (nI (stL (bM A t) n p)) (nI (nxL (bM A t) n p)) (nI 0) (nI (stL (bM A t) n p)) (twM (bM A t) n p tw0)) rfl rfl rfl rfl (Nat.le_of_ble_eq_true rfl) rfl d_X12_part_49 ?_
    refine z_aload_n d_X12_part_52 1 rfl ?_
    refine z_get (v := .int 1) 0 f_X12_203_12 rfl rfl d_X12_part_53 ?_
    refine z_if_ne d_X12_part_56 (fun c_56 => ?_) (fun c_56 => ?_)
    rotate_left
    · exact absurd c_56 (by decide)
    refine z_iload_n d_X12_part_63 0 rfl ?_
    exact z_iret _ d_X12_part_64 rfl (PE.bad (by first | (rw [parP, if_neg htk]; done) | (rw [parP, if_pos htk, hr35]; done) | (rw [parP, if_pos htk, hr35]; exact if_pos h59) | (rw [parP, if_pos htk, hr35]; exact if_neg h59)) rfl)
theorem g_part5 (B : Nat → Int32) (n : Nat) : ∀ p, p ≤ n → ∀ c q, parP B n 5 p = .inr (c, q) → p < q ∧ q ≤ n ∧ c.length + p ≤ q ∧ (∀ s ∈ c, okS s) ∧ ∀ nm, ∃ x, Vl nm c x := par_gd B n 5 (by decide) (by decide)
set_option maxHeartbeats 4000000 in
set_option maxRecDepth 100000 in
theorem t_X12_part6 (G : GT) (b : Nat → Nat) (I : Nat → Int32) (A : Nat → Nat → Int32) (z : Int32) (t n : Nat) (nm : Nat → Int32) (ht : t < 6) (hn : n ≤ 160) (hB : ∀ i, i < n → 0 ≤ (bM A t i).toInt) (p : Nat) (hp : p ≤ n) (flt : Int32) (tw0 : Int64)  : Ct G mX12_part 40 0 0 [.ref (b 0), .long 394691] (LW G b I A z t n nm p (nI 0) 0 flt tw0) (PE G b I A z t n nm (nI 0) flt (parP (bM A t) n 6 p)) := by
  refine Ct.intro [(0, .ref (b 0)), (1, .long 394691)] (by decide) rfl (Nat.le_of_ble_eq_true rfl) ?_
  refine z_aload_n d_X12_part_0 0 rfl ?_
  refine z_lload_n d_X12_part_1 1 rfl ?_
  refine z_callVp 0 c_X12_219 (t_ky G b I A z t n nm p (nI 0) flt tw0 hn hp 8 (by decide) (6, 0, 394691, [116, 97, 107, 101]) rfl) rfl rfl rfl rfl (Nat.le_of_ble_eq_true rfl) rfl d_X12_part_2 ?_
  refine z_if_ne d_X12_part_5 (fun c_5 => ?_) (fun c_5 => ?_)
  · have htk := dec_of c_5
    refine z_aload_n d_X12_part_12 0 rfl ?_
    refine z_get (v := .int 0) 0 f_X12_203_12 rfl rfl d_X12_part_13 ?_
    refine z_if_ne d_X12_part_16 (fun c_16 => ?_) (fun c_16 => ?_)
    · exact absurd c_16 (by decide)
    refine z_aload_n d_X12_part_19 0 rfl ?_
    refine z_callVv 0 c_X12_216 (t_X12_next1 G b I A z t n nm (nI 0) 0 flt (twM (bM A t) n p tw0) (nxL (bM A t) n p) ht hn (nx_le _ hp) hB (tokM (bM A t) n p) (nI (stL (bM A t) n p))) rfl rfl rfl rfl (Nat.le_of_ble_eq_true rfl) rfl d_X12_part_20 ?_
    refine z_aload_n d_X12_part_23 0 rfl ?_
    refine z_get (v := .int 0) 0 f_X12_203_12 rfl rfl d_X12_part_24 ?_
    refine z_if_eq d_X12_part_27 (fun c_27 => ?_) (fun c_27 => ?_)
    rotate_left
    · exact absurd c_27 (by decide)
    refine z_aload_n d_X12_part_34 0 rfl ?_
    refine z_callV 0 c_X12_261 rfl rfl (P_E G b I A z t n nm ht hn hB (nxL (bM A t) n p) flt (twM (bM A t) n p tw0) (nx_le _ hp)) rfl rfl (Nat.le_of_ble_eq_true rfl) rfl d_X12_part_35 ?_
    rintro v35 w35 ⟨x35, rfl, hE35⟩
    rcases hr35 : eitP (bM A t) n 5 (nxL (bM A t) n p) with f35 | ⟨c35, q35⟩
    · rw [hr35] at hE35
      obtain ⟨tok35, tat35, here35, opn35, tw35, rfl⟩ := hE35
      refine z_istore_n [(3, .int x35), (0, .ref (b 0)), (1, .long 394691)] d_X12_part_38 (by decide) rfl ?_
      refine z_aload_n d_X12_part_39 1 rfl ?_
      refine z_bipush (v := 59) d_X12_part_40 (by decide) ?_
      refine z_callVp 0 c_X12_251 (t_sgB G b I A z t n nm tok35 tat35 here35 opn35 (nI f35) tw35 59) rfl rfl rfl rfl (Nat.le_of_ble_eq_true rfl) rfl d_X12_part_42 ?_
      refine z_if_ne d_X12_part_45 (fun c_45 => ?_) (fun c_45 => ?_)
      · exact absurd c_45 (by decide)
      refine z_aload_n d_X12_part_48 1 rfl ?_
      refine z_callVv 0 c_X12_213 (t_X12_fail1 G b I A z t n nm tok35 tat35 here35 opn35 (nI f35) tw35) rfl rfl rfl rfl (Nat.le_of_ble_eq_true rfl) rfl d_X12_part_49 ?_
      refine z_aload_n d_X12_part_52 1 rfl ?_
      refine z_get (v := .int 1) 0 f_X12_203_12 rfl rfl d_X12_part_53 ?_
      refine z_if_ne d_X12_part_56 (fun c_56 => ?_) (fun c_56 => ?_)
      rotate_left
      · exact absurd c_56 (by decide)
      refine z_iload_n d_X12_part_63 0 rfl ?_
      exact z_iret _ d_X12_part_64 rfl (PE.bad (by first | (rw [parP, if_neg htk]; done) | (rw [parP, if_pos htk, hr35]; done) | (rw [parP, if_pos htk, hr35]; exact if_pos h59) | (rw [parP, if_pos htk, hr35]; exact if_neg h59)) rfl)
    · rw [hr35] at hE35
      obtain ⟨hV35, tw35, rfl⟩ := hE35
      have hg35 := ((lv_gd (bM A t) n 5).2.2 _ (nx_le _ hp)).1 c35 q35 hr35
      refine z_istore_n [(3, .int x35), (0, .ref (b 0)), (1, .long 394691)] d_X12_part_38 (by decide) rfl ?_
      refine z_aload_n d_X12_part_39 1 rfl ?_
      refine z_bipush (v := 59) d_X12_part_40 (by decide) ?_
      refine z_callVp 0 c_X12_251 (t_sg G b I A z t n nm q35 (nI 0) flt tw35 59 (by decide)) rfl rfl rfl rfl (Nat.le_of_ble_eq_true rfl) rfl d_X12_part_42 ?_
      refine z_if_ne d_X12_part_45 (fun c_45 => ?_) (fun c_45 => ?_)
      · have h59 := dec_of c_45
        refine z_aload_n d_X12_part_52 1 rfl ?_
        refine z_get (v := .int 0) 0 f_X12_203_12 rfl rfl d_X12_part_53 ?_
        refine z_if_ne d_X12_part_56 (fun c_56 => ?_) (fun c_56 => ?_)
        · exact absurd c_56 (by decide)
        refine z_aload_n d_X12_part_59 1 rfl ?_
        refine z_callVv 0 c_X12_216 (t_X12_next1 G b I A z t n nm (nI 0) 0 flt (twM (bM A t) n q35 tw35) (nxL (bM A t) n q35) ht hn (nx_le _ hg35.2.1) hB (tokM (bM A t) n q35) (nI (stL (bM A t) n q35))) rfl rfl rfl rfl (Nat.le_of_ble_eq_true rfl) rfl d_X12_part_60 ?_
        refine z_iload_n d_X12_part_63 0 rfl ?_
        exact z_iret _ d_X12_part_64 rfl (PE.ok (by first | (rw [parP, if_neg htk]; done) | (rw [parP, if_pos htk, hr35]; done) | (rw [parP, if_pos htk, hr35]; exact if_pos h59) | (rw [parP, if_pos htk, hr35]; exact if_neg h59)) hV35 rfl)
      · have h59 := dec_not c_45
        refine z_aload_n d_X12_part_48 1 rfl ?_
        refine z_callVv 0 c_X12_213 (t_X12_fail0 G b I A z t n nm (tokM (bM A t) n q35) (nI (stL (bM A t) n q35)) (nI (nxL (bM A t) n q35)) (nI 0) flt (twM (bM A t) n q35 tw35)) rfl rfl rfl rfl (Nat.le_of_ble_eq_true rfl) rfl d_X12_part_49 ?_
        refine z_aload_n d_X12_part_52 1 rfl ?_
        refine z_get (v := .int 1) 0 f_X12_203_12 rfl rfl d_X12_part_53 ?_
        refine z_if_ne d_X12_part_56 (fun c_56 => ?_) (fun c_56 => ?_)
        rotate_left
        · exact absurd c_56 (by decide)
        refine z_iload_n d_X12_part_63 0 rfl ?_
        exact z_iret _ d_X12_part_64 rfl (PE.bad (by first | (rw [parP, if_neg htk]; done) | (rw [parP, if_pos htk, hr35]; done) | (rw [parP, if_pos htk, hr35]; exact if_pos h59) | (rw [parP, if_pos htk, hr35]; exact if_neg h59)) rfl)
  · have htk := dec_not c_5
    refine z_aload_n d_X12_part_8 0 rfl ?_
    refine z_callVv 0 c_X12_213 (t_X12_fail0 G b I A z t n nm (tokM (bM A t) n p) (nI (stL (bM A t) n p)) (nI (nxL (bM A t) n p)) (nI 0) flt (twM (bM A t) n p tw0)) rfl rfl rfl rfl (Nat.le_of_ble_eq_true rfl) rfl d_X12_part_9 ?_
    refine z_aload_n d_X12_part_12 0 rfl ?_
    refine z_get (v := .int 1) 0 f_X12_203_12 rfl rfl d_X12_part_13 ?_
    refine z_if_ne d_X12_part_16 (fun c_16 => ?_) (fun c_16 => ?_)
    rotate_left
    · exact absurd c_16 (by decide)
    refine z_aload_n d_X12_part_23 0 rfl ?_
    refine z_get (v := .int 1) 0 f_X12_203_12 rfl rfl d_X12_part_24 ?_
    refine z_if_eq d_X12_part_27 (fun c_27 => ?_) (fun c_27 => ?_)
    · exact absurd c_27 (by decide)
    refine z_iconst (v := 0) d_X12_part_30 (by decide) ?_
    refine z_goto d_X12_part_31 ?_
    refine z_istore_n [(3, .int 0), (0, .ref (b 0)), (1, .long 394691)] d_X12_part_38 (by decide) rfl ?_
    refine z_aload_n d_X12_part_39 1 rfl ?_
    refine z_bipush (v := 59) d_X12_part_40 (by decide) ?_
    refine z_callVp 0 c_X12_251 (t_sgB G b I A z t n nm (tokM (bM A t) n p) (nI (stL (bM A t) n p)) (nI (nxL (bM A t) n p)) (nI 0) (nI (stL (bM A t) n p)) (twM (bM A t) n p tw0) 59) rfl rfl rfl rfl (Nat.le_of_ble_eq_true rfl) rfl d_X12_part_42 ?_
    refine z_if_ne d_X12_part_45 (fun c_45 => ?_) (fun c_45 => ?_)
    · exact absurd c_45 (by decide)
    refine z_aload_n d_X12_part_48 1 rfl ?_
    refine z_callVv 0 c_X12_213 (t_X12_fail1 G b I A z t n nm (tokM (bM A t) n p) (nI (stL (bM A t) n p)) (nI (nxL (bM A t) n p)) (nI 0) (nI (stL (bM A t) n p)) (twM (bM A t) n p tw0)) rfl rfl rfl rfl (Nat.le_of_ble_eq_true rfl) rfl d_X12_part_49 ?_
    refine z_aload_n d_X12_part_52 1 rfl ?_
    refine z_get (v := .int 1) 0 f_X12_203_12 rfl rfl d_X12_part_53 ?_
    refine z_if_ne d_X12_part_56 (fun c_56 => ?_) (fun c_56 => ?_)
    rotate_left
    · exact absurd c_56 (by decide)
    refine z_iload_n d_X12_part_63 0 rfl ?_
    exact z_iret _ d_X12_part_64 rfl (PE.bad (by first | (rw [parP, if_neg htk]; done) | (rw [parP, if_pos htk, hr35]; done) | (rw [parP, if_pos htk, hr35]; exact if_pos h59) | (rw [parP, if_pos htk, hr35]; exact if_neg h59)) rfl)
theorem g_part6 (B : Nat → Int32) (n : Nat) : ∀ p, p ≤ n → ∀ c q, parP B n 6 p = .inr (c, q) → p < q ∧ q ≤ n ∧ c.length + p ≤ q ∧ (∀ s ∈ c, okS s) ∧ ∀ nm, ∃ x, Vl nm c x := par_gd B n 6 (by decide) (by decide)
