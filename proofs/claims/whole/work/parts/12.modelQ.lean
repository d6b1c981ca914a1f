/-! THE REFERENCE'S TOKENS are the grammar's -/
theorem tw_1 {B : Nat → Int32} {n p : Nat} {tw : Int64} (h : kdL B n p = 1) : twM B n p tw = wvS B (stL B n p) (nxL B n p - stL B n p) := by unfold twM; rw [if_pos h]
theorem tw_3 {B : Nat → Int32} {n p : Nat} {tw : Int64} (h : kdL B n p = 3) : twM B n p tw = (B (stL B n p)).toInt64 := by unfold twM; rw [if_neg (by omega), if_neg (by omega), if_pos h]
theorem tokM_3 {B : Nat → Int32} {n p : Nat} : tokM B n p = 3 ↔ kdL B n p = 3 := by
  unfold tokM
  by_cases h0 : kdL B n p = 0
  · rw [if_pos h0]; constructor
    · intro h; exact absurd h (by decide)
    · intro h; omega
  · by_cases h1 : kdL B n p = 1
    · rw [if_neg h0, if_pos h1]; constructor
      · intro h; exact absurd h (by decide)
      · intro h; omega
    · by_cases h2 : kdL B n p = 2
      · rw [if_neg h0, if_neg h1, if_pos h2]; constructor
        · intro h; split at h <;> exact absurd h (by decide)
        · intro h; omega
      · by_cases h3 : kdL B n p = 3
        · rw [if_neg h0, if_neg h1, if_neg h2, if_pos h3]; exact ⟨fun _ => h3, fun _ => rfl⟩
        · rw [if_neg h0, if_neg h1, if_neg h2, if_neg h3]; constructor
          · intro h; exact absurd h (by decide)
          · intro h; exact absurd h h3
theorem tokM_1 {B : Nat → Int32} {n p : Nat} : tokM B n p = 1 ↔ kdL B n p = 1 := by
  unfold tokM
  by_cases h0 : kdL B n p = 0
  · rw [if_pos h0]; constructor
    · intro h; exact absurd h (by decide)
    · intro h; omega
  · by_cases h1 : kdL B n p = 1
    · rw [if_neg h0, if_pos h1]; exact ⟨fun _ => h1, fun _ => rfl⟩
    · by_cases h2 : kdL B n p = 2
      · rw [if_neg h0, if_neg h1, if_pos h2]; constructor
        · intro h; split at h <;> exact absurd h (by decide)
        · intro h; omega
      · by_cases h3 : kdL B n p = 3
        · rw [if_neg h0, if_neg h1, if_neg h2, if_pos h3]; constructor
          · intro h; exact absurd h (by decide)
          · intro h; exact absurd h h1
        · rw [if_neg h0, if_neg h1, if_neg h2, if_neg h3]; constructor
          · intro h; exact absurd h (by decide)
          · intro h; exact absurd h h1
theorem wd_small (l : List Int32) : (wdT l).1 = 1 ∨ (wdT l).1 = 3 ∨ (wdT l).1 = 4 ∨ (wdT l).1 = 5 ∨ (wdT l).1 = 6 ∨ (wdT l).1 = 7 ∨ (wdT l).1 = 8 ∨ (wdT l).1 = 9 := by
  apply wd_ind (fun x => x.1 = 1 ∨ x.1 = 3 ∨ x.1 = 4 ∨ x.1 = 5 ∨ x.1 = 6 ∨ x.1 = 7 ∨ x.1 = 8 ∨ x.1 = 9) <;> intros <;> decide
theorem tk_k0 {B : Nat → Int32} {n p : Nat} (h : kdL B n p = 0) : tkL B n p = 0 := by unfold tkL; rw [if_pos h]
theorem tk_k1 {B : Nat → Int32} {n p : Nat} (h : kdL B n p = 1) : tkL B n p = (wdT (wlS B (stL B n p) (nxL B n p))).1 := by unfold tkL; rw [if_neg (by omega), if_pos h]
theorem tk_k2 {B : Nat → Int32} {n p : Nat} (h : kdL B n p = 2) : tkL B n p = if 4 < nxL B n p - stL B n p then 1 else 2 := by unfold tkL; rw [if_neg (by omega), if_neg (by omega), if_pos h]
theorem tk_k3 {B : Nat → Int32} {n p : Nat} (h : kdL B n p = 3) : tkL B n p = B (stL B n p) := by unfold tkL; rw [if_neg (by omega), if_neg (by omega), if_neg (by omega), if_pos h]
theorem tk_k4 {B : Nat → Int32} {n p : Nat} (h0 : ¬ kdL B n p = 0) (h1 : ¬ kdL B n p = 1) (h2 : ¬ kdL B n p = 2) (h3 : ¬ kdL B n p = 3) : tkL B n p = 1 := by unfold tkL; rw [if_neg h0, if_neg h1, if_neg h2, if_neg h3]
theorem sg_big {c : Int32} (h : isSg c = true) : 40 ≤ c.toInt ∧ c.toInt ≤ 61 := by
  simp only [isSg, Bool.or_eq_true, decide_eq_true_eq] at h
  rcases h with h | h | h | h | h | h | h | h <;> rw [h] <;> decide
theorem wd_lt (l : List Int32) : 1 ≤ (wdT l).1.toInt ∧ (wdT l).1.toInt ≤ 9 := by
  rcases wd_small l with h | h | h | h | h | h | h | h <;> rw [h] <;> decide
/-- a sign is a token of kind 3 -/
theorem sg_kd {B : Nat → Int32} {n p : Nat} {c : Int32} (hc : isSg c = true) (h : tkL B n p = c) : kdL B n p = 3 := by
  have hb := sg_big hc
  by_cases h0 : kdL B n p = 0
  · rw [tk_k0 h0] at h; rw [← h] at hb; exact absurd hb (by decide)
  · by_cases h1 : kdL B n p = 1
    · have := wd_lt (wlS B (stL B n p) (nxL B n p))
      rw [← tk_k1 h1, h] at this; omega
    · by_cases h2 : kdL B n p = 2
      · rw [tk_k2 h2] at h
        split at h <;> rw [← h] at hb <;> exact absurd hb (by decide)
      · by_cases h3 : kdL B n p = 3
        · exact h3
        · rw [tk_k4 h0 h1 h2 h3] at h; rw [← h] at hb; exact absurd hb (by decide)
theorem ky_sg {B : Nat → Int32} {n p : Nat} {tw : Int64} {c : Int32} (hc : isSg c = true) : isKy 0 (tokM B n p) 3 (twM B n p tw) c.toInt64 = decide (tkL B n p = c) := by
  rw [Bool.eq_iff_iff]
  simp only [isKy, Bool.and_eq_true, decide_eq_true_eq]
  constructor
  · rintro ⟨-, h1, h2⟩
    have h3 := tokM_3.mp h1
    rw [tw_3 h3] at h2
    rw [tk_k3 h3]
    exact Int32.toInt_inj.mp (by have := congrArg Int64.toInt h2; rwa [Int32.toInt_toInt64, Int32.toInt_toInt64] at this)
  · intro h
    have h3 := sg_kd hc h
    exact ⟨trivial, tokM_3.mpr h3, by rw [tw_3 h3, ← tk_k3 h3, h]⟩
/-! words -/
def wN : List Nat → Nat
  | [] => 0
  | d :: r => 27 * wN r + d
theorem wN_inj : ∀ {l r : List Nat}, (∀ d ∈ l, 1 ≤ d ∧ d ≤ 26) → (∀ d ∈ r, 1 ≤ d ∧ d ≤ 26) → wN l = wN r → l = r
  | [], [], _, _, _ => rfl
  | [], e :: r, _, h2, h => by
    have := h2 e List.mem_cons_self
    unfold wN at h; omega
  | d :: l, [], h1, _, h => by
    have := h1 d List.mem_cons_self
    unfold wN at h; omega
  | d :: l, e :: r, h1, h2, h => by
    have a1 := h1 d List.mem_cons_self
    have a2 := h2 e List.mem_cons_self
    simp only [wN] at h
    have e1 : d = e := by omega
    have e2 : wN l = wN r := by omega
    rw [e1, wN_inj (fun x hx => h1 x (List.mem_cons_of_mem _ hx)) (fun x hx => h2 x (List.mem_cons_of_mem _ hx)) e2]
theorem wN_lt : ∀ {l : List Nat}, (∀ d ∈ l, 1 ≤ d ∧ d ≤ 26) → wN l < 27 ^ l.length
  | [], _ => Nat.one_pos
  | d :: l, h => by
    have a1 := h d List.mem_cons_self
    have a2 := wN_lt (l := l) (fun x hx => h x (List.mem_cons_of_mem _ hx))
    simp only [wN, List.length_cons, Nat.pow_succ]
    omega
/-- a word's letters, the last first, 1 .. 26 -/
def rvS (B : Nat → Int32) (s : Nat) : Nat → List Nat
  | 0 => []
  | k + 1 => ((B (s + k)).toInt - 96).toNat :: rvS B s k
theorem rvS_len (B : Nat → Int32) (s : Nat) : ∀ k, (rvS B s k).length = k
  | 0 => rfl
  | k + 1 => by rw [rvS, List.length_cons, rvS_len]
theorem rvS_in {B : Nat → Int32} {s : Nat} : ∀ {k : Nat}, (∀ i, i < k → isLt (B (s + i)) = true) → ∀ d ∈ rvS B s k, 1 ≤ d ∧ d ≤ 26
  | 0, _, d, hd => by cases hd
  | k + 1, h, d, hd => by
    rcases List.mem_cons.mp hd with e | hd
    · have h2 := h k (by omega)
      simp only [isLt, Bool.and_eq_true, decide_eq_true_eq] at h2
      omega
    · exact rvS_in (fun i hi => h i (by omega)) d hd
theorem wv_lN {B : Nat → Int32} {s : Nat} : ∀ {k : Nat}, k ≤ 8 → (∀ i, i < k → isLt (B (s + i)) = true) → wvS B s k = lN (wN (rvS B s k))
  | 0, _, _ => rfl
  | k + 1, hk, h => by
    have h2 := h k (by omega)
    simp only [isLt, Bool.and_eq_true, decide_eq_true_eq] at h2
    have h3 := wN_lt (rvS_in (B := B) (s := s) (k := k) (fun i hi => h i (by omega)))
    rw [rvS_len] at h3
    have h4 : 27 ^ k ≤ 27 ^ 7 := Nat.pow_le_pow_right (by decide) (by omega)
    have h5 : (27 : Nat) ^ 7 = 10460353203 := by decide
    have e1 : nI k < 8 := by rw [lt_i, nI_i (by omega)]; have : (8 : Int32).toInt = 8 := by decide
                             omega
    rw [wvS, if_pos e1, wv_lN (by omega) (fun i hi => h i (by omega))]
    have e2 : (B (s + k)).toInt64 = lN ((B (s + k)).toInt.toNat) := by
      apply Int64.toInt_inj.mp
      rw [Int32.toInt_toInt64, lN_toInt (by omega)]; omega
    have e3 : (27 : Int64) = lN 27 := rfl
    have e4 : (96 : Int64) = lN 96 := rfl
    rw [e2, e3, e4, lN_mul, lN_add, lN_sub (by omega)]
    congr 1
    simp only [rvS, wN]
    omega
theorem wv_long {B : Nat → Int32} {s k : Nat} (hk : 8 < k) (hb : k < 2147483648) : wvS B s k = -1 := by
  obtain ⟨j, rfl⟩ : ∃ j, k = j + 1 := ⟨k - 1, by omega⟩
  rw [wvS, if_neg]
  rw [lt_i, nI_i (by omega)]
  have : (8 : Int32).toInt = 8 := by decide
  omega
/-- the word [s, s + k) is the one with these letters, the last first -/
theorem rv_wl {B : Nat → Int32} {s : Nat} : ∀ {k : Nat} {l : List Int32}, (∀ i, i < k → isLt (B (s + i)) = true) → (∀ c ∈ l, isLt c = true) → (rvS B s k = (l.map (fun c => (c.toInt - 96).toNat)).reverse ↔ (List.range k).map (fun i => B (s + i)) = l) := by
  intro k
  induction k with
  | zero =>
    intro l _ _
    show [] = _ ↔ [] = l
    constructor
    · intro h
      cases l with
      | nil => rfl
      | cons c l => simp at h
    · rintro rfl; rfl
  | succ k ih =>
    intro l hB hl
    rw [List.range_succ, List.map_append, List.map_cons, List.map_nil]
    rcases List.eq_nil_or_concat l with rfl | ⟨l', c, rfl⟩
    · constructor
      · intro h; simp [rvS] at h
      · intro h; simp at h
    · rw [List.concat_eq_append] at hl ⊢
      have hc := hl c (by simp)
      have hk := hB k (by omega)
      have ih2 := ih (l := l') (fun i hi => hB i (by omega)) (fun x hx => hl x (by simp [hx]))
      simp only [isLt, Bool.and_eq_true, decide_eq_true_eq] at hc hk
      rw [List.map_append, List.reverse_append, List.map_cons, List.map_nil]
      show _ :: _ = _ :: _ ↔ _
      constructor
      · intro h
        obtain ⟨h1, h2⟩ := List.cons.inj h
        have e2 : B (s + k) = c := eq_i.mpr (by omega)
        have e1 := ih2.mp h2
        rw [e1, e2]
      · intro h
        obtain ⟨h1, h2⟩ := List.append_inj' h rfl
        have e3 := (List.cons.inj h2).1
        have e1 := ih2.mpr h1
        rw [e3, e1]
        rfl
theorem wv_key {B : Nat → Int32} {s k : Nat} {l : List Int32} {W : Int64} (hB : ∀ i, i < k → isLt (B (s + i)) = true) (hk : k < 2147483648) (hl : ∀ c ∈ l, isLt c = true) (hl8 : l.length ≤ 8) (hW : W = lN (wN (l.map (fun c => (c.toInt - 96).toNat)).reverse)) (hW0 : 0 ≤ W.toInt) : wvS B s k = W ↔ (List.range k).map (fun i => B (s + i)) = l := by
  have hin : ∀ d ∈ (l.map (fun c => (c.toInt - 96).toNat)).reverse, 1 ≤ d ∧ d ≤ 26 := by
    intro d hd
    rw [List.mem_reverse, List.mem_map] at hd
    obtain ⟨c, hc, rfl⟩ := hd
    have h2 := hl c hc
    simp only [isLt, Bool.and_eq_true, decide_eq_true_eq] at h2
    omega
  by_cases h8 : k ≤ 8
  · rw [wv_lN h8 hB, hW, ← rv_wl hB hl]
    have h3 := wN_lt (rvS_in hB)
    have h4 := wN_lt hin
    rw [rvS_len] at h3
    rw [List.length_reverse, List.length_map] at h4
    have h5 : 27 ^ k ≤ 27 ^ 8 := Nat.pow_le_pow_right (by decide) h8
    have h6 : 27 ^ l.length ≤ 27 ^ 8 := Nat.pow_le_pow_right (by decide) hl8
    have h7 : (27 : Nat) ^ 8 = 282429536481 := by decide
    constructor
    · intro h
      refine wN_inj (rvS_in hB) hin ?_
      have e : ∀ m : Nat, m < 282429536481 → (lN m).toInt = (m : Int) := by
        intro m hm
        exact lg_ofNat_toInt (by omega)
      have h9 := congrArg Int64.toInt h
      rw [e _ (by omega), e _ (by omega)] at h9
      omega
    · intro h; rw [h]
  · rw [wv_long (by omega) hk]
    constructor
    · intro h; rw [← h] at hW0; exact absurd hW0 (by decide)
    · intro h
      have := congrArg List.length h
      rw [List.length_map, List.length_range] at this
      omega
theorem en_in {P : Int32 → Bool} {B : Nat → Int32} {n s : Nat} : ∀ i, i < enS P B n s - s → P (B (s + i)) = true := by
  intro i hi
  exact runE_in (n := n) (f := n - s) (p := s) (by omega) (by unfold enS at hi; omega)
/-- a word's key -/
def KEYS : List (Int32 × Int32 × Int64 × List Int32) := [(3, -1, 24, [120]), (3, -2, 25, [121]), (3, -3, 1960084, [99, 114, 111, 115, 115]), (3, -4, 247516, [108, 111, 110, 103]), (3, -5, 923, [97, 103, 101]), (3, -6, 283619359, [115, 116, 114, 105, 112, 115]), (4, 0, 13691, [114, 117, 98]), (5, 0, 279875, [110, 101, 120, 116]), (6, 0, 394691, [116, 97, 107, 101]), (7, 0, 423, [111, 114]), (8, 0, 1111, [97, 110, 100]), (9, 0, 10631, [110, 111, 116])]
theorem keys_ok : ∀ q ∈ KEYS, (∀ c ∈ q.2.2.2, isLt c = true) ∧ q.2.2.2.length ≤ 8 ∧ q.2.2.1 = lN (wN (q.2.2.2.map (fun c => (c.toInt - 96).toNat)).reverse) ∧ 0 ≤ q.2.2.1.toInt ∧ wdT q.2.2.2 = (q.1, q.2.1) := by decide +kernel
theorem keys_wd (l : List Int32) : wdT l = (1, 0) ∨ ∃ q ∈ KEYS, l = q.2.2.2 := by
  apply wd_ind (fun x => x = (1, 0) ∨ ∃ q ∈ KEYS, l = q.2.2.2)
  all_goals intros
  all_goals first | (left; rfl) | (right; exact ⟨_, List.mem_of_getElem? (i := 0) rfl, by assumption⟩) | (right; exact ⟨_, List.mem_of_getElem? (i := 1) rfl, by assumption⟩) | (right; exact ⟨_, List.mem_of_getElem? (i := 2) rfl, by assumption⟩) | (right; exact ⟨_, List.mem_of_getElem? (i := 3) rfl, by assumption⟩) | (right; exact ⟨_, List.mem_of_getElem? (i := 4) rfl, by assumption⟩) | (right; exact ⟨_, List.mem_of_getElem? (i := 5) rfl, by assumption⟩) | (right; exact ⟨_, List.mem_of_getElem? (i := 6) rfl, by assumption⟩) | (right; exact ⟨_, List.mem_of_getElem? (i := 7) rfl, by assumption⟩) | (right; exact ⟨_, List.mem_of_getElem? (i := 8) rfl, by assumption⟩) | (right; exact ⟨_, List.mem_of_getElem? (i := 9) rfl, by assumption⟩) | (right; exact ⟨_, List.mem_of_getElem? (i := 10) rfl, by assumption⟩) | (right; exact ⟨_, List.mem_of_getElem? (i := 11) rfl, by assumption⟩)
/-- whether a token is a key's word -/
def isQ (B : Nat → Int32) (n p : Nat) (l : List Int32) : Bool := decide (kdL B n p = 1) && decide (wlS B (stL B n p) (nxL B n p) = l)
theorem ky_wd {B : Nat → Int32} {n p : Nat} {tw : Int64} (hn : n ≤ 160) (hp : p ≤ n) (i : Nat) {q : Int32 × Int32 × Int64 × List Int32} (hq : KEYS[i]? = some q) : isKy 0 (tokM B n p) 1 (twM B n p tw) q.2.2.1 = isQ B n p q.2.2.2 := by
  obtain ⟨k1, k2, k3, k4, k5⟩ := keys_ok q (List.mem_of_getElem? hq)
  rw [Bool.eq_iff_iff]
  simp only [isKy, isQ, Bool.and_eq_true, decide_eq_true_eq, tokM_1]
  have hx := nx_le B hp
  constructor
  · rintro ⟨-, h1, h2⟩
    refine ⟨h1, ?_⟩
    rw [tw_1 h1] at h2
    have h3 := (wv_key (B := B) (s := stL B n p) (k := nxL B n p - stL B n p) (by rw [nx_1 h1]; exact en_in) (by omega) k1 k2 k3 k4).mp h2
    exact h3
  · rintro ⟨h1, h2⟩
    refine ⟨trivial, h1, ?_⟩
    rw [tw_1 h1]
    exact (wv_key (B := B) (s := stL B n p) (k := nxL B n p - stL B n p) (by rw [nx_1 h1]; exact en_in) (by omega) k1 k2 k3 k4).mpr h2
theorem isQ_tk {B : Nat → Int32} {n p : Nat} (i : Nat) {q : Int32 × Int32 × Int64 × List Int32} (hq : KEYS[i]? = some q) (h : isQ B n p q.2.2.2 = true) : tkL B n p = q.1 ∧ kdL B n p = 1 ∧ vlL B n p = q.2.1 := by
  obtain ⟨k1, k2, k3, k4, k5⟩ := keys_ok q (List.mem_of_getElem? hq)
  simp only [isQ, Bool.and_eq_true, decide_eq_true_eq] at h
  refine ⟨by rw [tk_k1 h.1, h.2, k5], h.1, ?_⟩
  unfold vlL; rw [if_pos h.1, h.2, k5]
/-- the six KEYS: as tokens -/
theorem isQ_key {B : Nat → Int32} {n p : Nat} (i : Nat) (hi : 6 ≤ i) {q : Int32 × Int32 × Int64 × List Int32} (hq : KEYS[i]? = some q) : isQ B n p q.2.2.2 = decide (tkL B n p = q.1) := by
  have h12 : i < 12 := by
    have := (List.getElem?_eq_some_iff.mp hq).1
    exact this
  rw [Bool.eq_iff_iff, decide_eq_true_eq]
  constructor
  · exact fun h => (isQ_tk i hq h).1
  · intro h
    have hk : kdL B n p = 1 := by
      have hq1 : 4 ≤ q.1.toInt ∧ q.1.toInt ≤ 9 := by
        have : ∀ j, j < 6 → ∀ r, KEYS[j + 6]? = some r → 4 ≤ r.1.toInt ∧ r.1.toInt ≤ 9 := by
          intro j hj r hr
          have e : ∀ j, j < 6 → (KEYS[j + 6]?).all (fun r => decide (4 ≤ r.1.toInt) && decide (r.1.toInt ≤ 9)) = true := by decide +kernel
          have e2 := e j hj
          rw [hr] at e2
          simpa using e2
        exact this (i - 6) (by omega) q (by rw [show i - 6 + 6 = i by omega]; exact hq)
      by_cases h0 : kdL B n p = 0
      · rw [tk_k0 h0] at h; rw [← h] at hq1; exact absurd hq1 (by decide)
      · by_cases h1 : kdL B n p = 1
        · exact h1
        · by_cases h2 : kdL B n p = 2
          · rw [tk_k2 h2] at h
            split at h <;> rw [← h] at hq1 <;> exact absurd hq1 (by decide)
          · by_cases h3 : kdL B n p = 3
            · have := sg_big (kd_3 h3)
              rw [← tk_k3 h3, h] at this; omega
            · rw [tk_k4 h0 h1 h2 h3] at h; rw [← h] at hq1; exact absurd hq1 (by decide)
    have hw := tk_k1 (B := B) (n := n) (p := p) hk
    simp only [isQ, Bool.and_eq_true, decide_eq_true_eq]
    refine ⟨hk, ?_⟩
    rcases keys_wd (wlS B (stL B n p) (nxL B n p)) with e | ⟨r, hr, e⟩
    · rw [e] at hw; rw [hw] at h
      exfalso
      have : ∀ j, j < 12 → (KEYS[j]?).all (fun r => decide (¬ (1 : Int32) = r.1)) = true := by decide +kernel
      have h5 := this i h12
      rw [hq] at h5
      simp only [Option.all_some, decide_eq_true_eq] at h5
      exact h5 h
    · obtain ⟨j, hj⟩ := List.getElem?_of_mem hr
      have r5 := (keys_ok r hr).2.2.2.2
      rw [e, r5, h] at hw
      have h12j : j < 12 := (List.getElem?_eq_some_iff.mp hj).1
      have : ∀ a, a < 12 → ∀ c, c < 12 → 6 ≤ a → (KEYS[a]?).map (fun r => r.1) = (KEYS[c]?).map (fun r => r.1) → a = c := by decide +kernel
      have h6 := this i h12 j h12j hi (by rw [hq, hj]; exact congrArg some hw)
      subst h6
      rw [hq] at hj
      cases hj
      exact e
