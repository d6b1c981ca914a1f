/-! bits of masks, and how many -/
theorem b_one {i : Nat} (hi : i < 32) : bt 1 i = decide (i = 0) := by
  have : ∀ j, j < 32 → bt 1 j = decide (j = 0) := by decide +kernel
  exact this i hi
theorem b_bit {k i : Nat} (hk : k < 32) (hi : i < 32) : bt (1 <<< (nI k &&& 31)) i = decide (i = k) := by
  rw [b_shl k hk 1 hi]
  by_cases h : k ≤ i
  · rw [b_one (by omega), decide_eq_true h]
    by_cases h2 : i = k
    · rw [decide_eq_true h2, decide_eq_true (by omega)]; rfl
    · rw [decide_eq_false h2, decide_eq_false (by omega)]; rfl
  · rw [decide_eq_false h, decide_eq_false (by omega)]; rfl
theorem b_not (x : Int32) {i : Nat} (hi : i < 32) : bt (x ^^^ (-1)) i = !bt x i := by
  rw [b_xor, b_m1 i hi]; cases bt x i <;> rfl
theorem sb_eq {x : Int32} {k : Nat} (hk : k < 32) : x >>> (nI k &&& 31) &&& 1 = if bt x k = true then 1 else 0 := by
  apply b_ext
  intro i hi
  rw [b_and, b_sshr k hk x hi, b_one hi]
  by_cases h0 : i = 0
  · subst h0
    rw [decide_eq_true rfl, if_pos (by omega)]
    cases bt x k <;> rfl
  · rw [decide_eq_false h0, Bool.and_false]
    split
    · rw [b_one hi, decide_eq_false h0]
    · rw [b_0]
theorem sb1 {x : Int32} {k : Nat} (hk : k < 32) : x >>> (nI k &&& 31) &&& 1 = 1 ↔ bt x k = true := by
  rw [sb_eq hk]; split <;> simp_all
theorem sb0 {x : Int32} {k : Nat} (hk : k < 32) : x >>> (nI k &&& 31) &&& 1 = 0 ↔ bt x k = false := by
  rw [sb_eq hk]; split <;> simp_all
/-- a mask of what is told so far -/
def orF (P : Nat → Bool) (k : Nat) (a : Int32) : Int32 := a ||| (if P k = true then 1 <<< (nI k &&& 31) else 0)
def orS (P : Nat → Bool) (n : Nat) : Int32 := itL (orF P) 0 n
theorem orS_bt (P : Nat → Bool) : ∀ n, n ≤ 32 → ∀ i, i < 32 → bt (orS P n) i = (decide (i < n) && P i)
  | 0, _, i, _ => by show bt 0 i = _; rw [b_0, decide_eq_false (by omega)]; rfl
  | n + 1, hn, i, hi => by
    show bt (orF P n (itL (orF P) 0 n)) i = _
    unfold orF
    rw [b_or]
    have ih := orS_bt P n (by omega) i hi
    unfold orS at ih
    rw [show itL (fun k a => a ||| (if P k = true then 1 <<< (nI k &&& 31) else 0)) 0 n = itL (orF P) 0 n from rfl, ih]
    by_cases hp : P n = true
    · rw [if_pos hp, b_bit (by omega) hi]
      by_cases h1 : i = n
      · subst h1; rw [decide_eq_true rfl, decide_eq_true (Nat.lt_succ_self i), hp]; simp
      · rw [decide_eq_false h1, Bool.or_false]
        by_cases h2 : i < n
        · rw [decide_eq_true h2, decide_eq_true (by omega)]
        · rw [decide_eq_false h2, decide_eq_false (by omega)]
    · rw [if_neg hp, b_0, Bool.or_false]
      by_cases h1 : i = n
      · subst h1
        have : P i = false := by cases h : P i <;> simp_all
        rw [this, Bool.and_false, Bool.and_false]
      · by_cases h2 : i < n
        · rw [decide_eq_true h2, decide_eq_true (by omega)]
        · rw [decide_eq_false h2, decide_eq_false (by omega)]
def S16 (x : Int32) : Prop := ∀ i, 16 ≤ i → i < 32 → bt x i = false
theorem orS_16 (P : Nat → Bool) : S16 (orS P 16) := fun i h1 h2 => by rw [orS_bt P 16 (by decide) i h2, decide_eq_false (by omega)]; rfl
theorem S16_0 : S16 0 := fun i _ _ => b_0 i
theorem S16.or {x y : Int32} (h1 : S16 x) (h2 : S16 y) : S16 (x ||| y) := fun i a c => by rw [b_or, h1 i a c, h2 i a c]; rfl
theorem S16.and {x y : Int32} (h1 : S16 x) : S16 (x &&& y) := fun i a c => by rw [b_and, h1 i a c]; rfl
theorem S16.bit {k : Nat} (hk : k < 16) : S16 (1 <<< (nI k &&& 31)) := fun i a c => by rw [b_bit (by omega) c, decide_eq_false (by omega)]
theorem pcn_16 {x : Int32} (h : S16 x) : pcn x ≤ 16 := by
  unfold pcn
  have e : fb_ct (bt x) (16 + 16) = fb_ct (bt x) 16 + fb_ct (fun k => bt x (16 + k)) 16 := fb_ct_split _ _ _
  have e2 : fb_ct (fun k => bt x (16 + k)) 16 = 0 := fb_ct_zero.mpr (fun k hk => h (16 + k) (by omega) (by omega))
  have e3 := fb_ct_le (bt x) 16
  show fb_ct (bt x) (16 + 16) ≤ 16
  omega
theorem pcn_cong {x y : Int32} (h : ∀ i, i < 32 → bt x i = bt y i) : pcn x = pcn y := fb_ct_cong h
theorem pcn_mono {x y : Int32} (h : ∀ i, i < 32 → bt x i = true → bt y i = true) : pcn x ≤ pcn y := fb_ct_sub h
theorem pcn_lt {x y : Int32} (h : ∀ i, i < 32 → bt x i = true → bt y i = true) {k : Nat} (hk : k < 32) (hx : bt x k = false) (hy : bt y k = true) : pcn x < pcn y := by
  unfold pcn
  have e := fb_ct_upd (bt x) true hk
  rw [hx] at e
  have e2 : fb_ct (fun j => if j = k then true else bt x j) 32 ≤ fb_ct (bt y) 32 := fb_ct_sub (fun i hi hh => by
    by_cases h1 : i = k
    · rw [h1]; exact hy
    · rw [if_neg h1] at hh; exact h i hi hh)
  simp only [Bool.false_eq_true, ↓reduceIte] at e
  omega
theorem pcn_add {x : Int32} {k : Nat} (hk : k < 32) (hx : bt x k = false) : pcn (x ||| 1 <<< (nI k &&& 31)) = pcn x + 1 := by
  unfold pcn
  have e := fb_ct_upd (bt x) true hk
  rw [hx] at e
  rw [fb_ct_cong (q := fun j => if j = k then true else bt x j) (fun i hi => by
    rw [b_or, b_bit hk hi]
    by_cases h1 : i = k
    · rw [if_pos h1, decide_eq_true h1, Bool.or_true]
    · rw [if_neg h1, decide_eq_false h1, Bool.or_false])]
  simp only [Bool.false_eq_true, ↓reduceIte] at e
  omega
theorem pcn_del {x : Int32} {k : Nat} (hk : k < 32) (hx : bt x k = true) : pcn (x &&& (1 <<< (nI k &&& 31) ^^^ (-1))) + 1 = pcn x := by
  unfold pcn
  have e := fb_ct_upd (bt x) false hk
  rw [hx] at e
  rw [fb_ct_cong (q := fun j => if j = k then false else bt x j) (fun i hi => by
    rw [b_and, b_not _ hi, b_bit hk hi]
    by_cases h1 : i = k
    · rw [if_pos h1, decide_eq_true h1]; simp
    · rw [if_neg h1, decide_eq_false h1]; simp)]
  simp only [Bool.false_eq_true, ↓reduceIte] at e
  omega
theorem bt_ne {x : Int32} (h : ¬ x = 0) : ∃ k, k < 32 ∧ bt x k = true := by
  refine Decidable.byContradiction fun hh => h ?_
  apply b_ext
  intro i hi
  rw [b_0]
  cases hb : bt x i with
  | false => rfl
  | true => exact absurd ⟨i, hi, hb⟩ hh
