/-! whole numbers of 32 bits as whole numbers -/
def irm (x y : Int32) : Int32 := x - x / y * y
theorem z_irm {G : GT} {μ : Mu} {R : Room} {O : OT} {cs ss pc pc' : Nat} {lv : List (Nat × Value)} {st : List Value} {ws : va_W} {x y : Int32} (hd : Dc μ pc (.irem) 1 pc') (hne : ¬ y = 0) (k : Tr G μ R O cs ss pc' lv (.int (irm x y) :: st) ws) : Tr G μ R O cs ss pc lv (.int y :: .int x :: st) ws := z_irem hd hne k
def b01 (p : Bool) : Int32 := if p = true then 1 else 0
theorem b01_0 {p : Bool} : b01 p = 0 ↔ p = false := by cases p <;> decide
theorem b01_n0 {p : Bool} : ¬ b01 p = 0 ↔ p = true := by cases p <;> decide
theorem b01_1 {p : Bool} : b01 p = 1 ↔ p = true := by cases p <;> decide
theorem b01_n {p : Bool} : narrow .boolean (.int (b01 p)) = .int (b01 p) := by cases p <;> decide
theorem i_rng (x : Int32) : -2147483648 ≤ x.toInt ∧ x.toInt < 2147483648 := ⟨by have := Int32.le_toInt x; omega, by have := Int32.toInt_lt x; omega⟩
theorem eq_nI {x : Int32} {j : Nat} (h : x.toInt = (j : Int)) : x = nI j := by
  have h2 := (i_rng x).2
  have hj : j < 2 ^ 31 := by omega
  exact Int32.toInt_inj.mp (by rw [h, nI_toInt hj])
theorem bmod_i {z : Int} (h1 : -2147483648 ≤ z) (h2 : z < 2147483648) : z.bmod (2 ^ 32) = z := by
  apply Int.bmod_eq_of_le <;> omega
theorem add_i {x y : Int32} (h1 : -2147483648 ≤ x.toInt + y.toInt) (h2 : x.toInt + y.toInt < 2147483648) : (x + y).toInt = x.toInt + y.toInt := by
  rw [Int32.toInt_add, bmod_i h1 h2]
theorem sub_i {x y : Int32} (h1 : -2147483648 ≤ x.toInt - y.toInt) (h2 : x.toInt - y.toInt < 2147483648) : (x - y).toInt = x.toInt - y.toInt := by
  rw [Int32.toInt_sub, bmod_i h1 h2]
theorem mul_i {x y : Int32} (h1 : -2147483648 ≤ x.toInt * y.toInt) (h2 : x.toInt * y.toInt < 2147483648) : (x * y).toInt = x.toInt * y.toInt := by
  rw [Int32.toInt_mul, bmod_i h1 h2]
theorem div_i {x y : Int32} (hx : 0 ≤ x.toInt) (hy : 0 < y.toInt) : (x / y).toInt = x.toInt / y.toInt := by
  have h3 := i_rng x
  have h4 : 0 ≤ x.toInt / y.toInt := Int.ediv_nonneg hx (Int.le_of_lt hy)
  have h5 : x.toInt / y.toInt ≤ x.toInt := Int.ediv_le_self _ hx
  rw [Int32.toInt_div, Int.tdiv_eq_ediv_of_nonneg hx, bmod_i (by omega) (by omega)]
theorem irm_i {x y : Int32} (hx : 0 ≤ x.toInt) (hy : 0 < y.toInt) : (irm x y).toInt = x.toInt % y.toInt := by
  have h3 := i_rng x
  have h6 := i_rng y
  have hd := div_i hx hy
  have h4 : 0 ≤ x.toInt / y.toInt := Int.ediv_nonneg hx (Int.le_of_lt hy)
  have e := Int.emod_add_mul_ediv x.toInt y.toInt
  have h7 := Int.emod_nonneg x.toInt (Int.ne_of_gt hy)
  have h8 : 0 ≤ x.toInt / y.toInt * y.toInt := Int.mul_nonneg h4 (Int.le_of_lt hy)
  have e2 : x.toInt / y.toInt * y.toInt = y.toInt * (x.toInt / y.toInt) := Int.mul_comm _ _
  unfold irm
  have hm : (x / y * y).toInt = x.toInt / y.toInt * y.toInt := by
    rw [mul_i (by rw [hd]; omega) (by rw [hd]; omega), hd]
  rw [sub_i (by rw [hm]; omega) (by rw [hm]; omega), hm]
  omega
theorem lt_i {x y : Int32} : x < y ↔ x.toInt < y.toInt := Int32.lt_iff_toInt_lt
theorem le_i {x y : Int32} : x ≤ y ↔ x.toInt ≤ y.toInt := Int32.le_iff_toInt_le
theorem eq_i {x y : Int32} : x = y ↔ x.toInt = y.toInt := Int32.toInt_inj.symm
theorem nI_i {n : Nat} (h : n < 2147483648) : (nI n).toInt = (n : Int) := nI_toInt (by omega)
theorem nI_ltN {k : Nat} {r : Int32} (h : k < 2147483648) : nI k < r ↔ k < r.toInt.toNat := by
  rw [lt_i, nI_i h]; omega
/-! how many bits -/
def pcn (x : Int32) : Nat := fb_ct (bt x) 32
def pcI (x : Int32) : Int32 := nI (pcn x)
theorem pcn_le (x : Int32) : pcn x ≤ 32 := fb_ct_le _ _
theorem ct_half (n : Nat) : ∀ w, fb_ct n.testBit (w + 1) = n % 2 + fb_ct (n / 2).testBit w := by
  intro w
  induction w with
  | zero =>
    show 0 + (if n.testBit 0 then 1 else 0) = n % 2 + 0
    rw [Nat.testBit_zero]
    have := Nat.mod_two_eq_zero_or_one n
    rcases this with h | h <;> simp [h]
  | succ w ih =>
    rw [fb_ct_succ, ih, fb_ct_succ, Nat.testBit_succ]
    omega
theorem ct_kern : ∀ (w n : Nat), n < 2 ^ w → n ≠ 0 → fb_ct (n &&& (n - 1)).testBit w + 1 = fb_ct n.testBit w := by
  intro w
  induction w with
  | zero => intro n h h0; simp at h; exact absurd h h0
  | succ w ih =>
    intro n h h0
    have hp : 2 ^ (w + 1) = 2 * 2 ^ w := by rw [Nat.pow_succ]; omega
    rw [ct_half, ct_half]
    have hd : (n &&& (n - 1)) / 2 = n / 2 &&& (n - 1) / 2 := by
      have := @Nat.and_div_two_pow n (n - 1) 1
      simpa using this
    have hm : (n &&& (n - 1)) % 2 = (n % 2) &&& ((n - 1) % 2) := by
      have := @Nat.and_mod_two_pow n (n - 1) 1
      simpa using this
    rw [hd, hm]
    rcases Nat.mod_two_eq_zero_or_one n with e | e
    · have e1 : (n - 1) / 2 = n / 2 - 1 := by omega
      have e2 : n / 2 ≠ 0 := by omega
      have e3 := ih (n / 2) (by omega) e2
      rw [e1, e]
      simp only [Nat.zero_and]
      omega
    · have e1 : (n - 1) / 2 = n / 2 := by omega
      have e2 : (n - 1) % 2 = 0 := by omega
      rw [e1, e2, Nat.and_self, e]
      simp only [Nat.and_zero]
      omega
theorem pcn_nat (x : Int32) : pcn x = fb_ct x.toBitVec.toNat.testBit 32 := fb_ct_cong (fun k hk => by unfold bt; rw [BitVec.getLsbD])
theorem pcn_kern {x : Int32} (h : ¬ x = 0) : pcn (x &&& (x - 1)) + 1 = pcn x := by
  rw [pcn_nat, pcn_nat]
  have hn : x.toBitVec.toNat ≠ 0 := fun e => h (Int32.toBitVec_inj.mp (BitVec.eq_of_toNat_eq (by rw [e]; rfl)))
  have hl := x.toBitVec.isLt
  have e : (x &&& (x - 1)).toBitVec.toNat = x.toBitVec.toNat &&& (x.toBitVec.toNat - 1) := by
    rw [Int32.toBitVec_and, BitVec.toNat_and]
    congr 1
    rw [Int32.toBitVec_sub, BitVec.toNat_sub]
    show (2 ^ 32 - 1 + x.toBitVec.toNat) % 2 ^ 32 = _
    omega
  rw [e]
  exact ct_kern 32 _ hl hn
theorem pcn_0 : pcn 0 = 0 := by decide +kernel
