def us (x k : Int32) : Int32 := (x.toUInt32 >>> (k.toUInt32 &&& Int32.toUInt32 31)).toInt32
def un (x : Int32) : Nat := x.toBitVec.toNat
theorem un_us (x : Int32) (n : Nat) (hn : n < 32) : un (us x (nI n)) = un x / 2 ^ n := by
  show ((x.toUInt32 >>> ((nI n).toUInt32 &&& Int32.toUInt32 31)).toBitVec).toNat = _
  rw [UInt32.toBitVec_shiftRight]
  show (x.toUInt32.toBitVec >>> (((nI n).toUInt32 &&& Int32.toUInt32 31).toBitVec % 32).toNat).toNat = _
  rw [s_u n hn, BitVec.toNat_ushiftRight, Nat.shiftRight_eq_div_pow]
  rfl
theorem un_and (x y : Int32) : un (x &&& y) = un x &&& un y := by unfold un; rw [Int32.toBitVec_and, BitVec.toNat_and]
theorem un_sub {x y : Int32} (h : un y ≤ un x) : un (x - y) = un x - un y := by
  unfold un at h ⊢
  have h1 := x.toBitVec.isLt
  rw [Int32.toBitVec_sub, BitVec.toNat_sub]
  omega
theorem un_add {x y : Int32} (h : un x + un y < 4294967296) : un (x + y) = un x + un y := by
  unfold un at h ⊢
  rw [Int32.toBitVec_add, BitVec.toNat_add]
  exact Nat.mod_eq_of_lt h
theorem and_sp (m M : Nat) : m &&& M = ((m % 256) &&& (M % 256)) + 256 * ((m / 256) &&& (M / 256)) := by
  have h1 : (m &&& M) % 2 ^ 8 = (m % 2 ^ 8) &&& (M % 2 ^ 8) := Nat.and_mod_two_pow
  have h2 : (m &&& M) / 2 ^ 8 = (m / 2 ^ 8) &&& (M / 2 ^ 8) := Nat.and_div_two_pow
  have h3 := Nat.div_add_mod (m &&& M) (2 ^ 8)
  rw [h1, h2] at h3
  show _ = ((m % 2 ^ 8) &&& (M % 2 ^ 8)) + 2 ^ 8 * ((m / 2 ^ 8) &&& (M / 2 ^ 8))
  omega
theorem and4 (u m : Nat) (hu : u < 256) (hm : m < 4294967296) : m &&& (u + 256 * (u + 256 * (u + 256 * u))) = (m % 256 &&& u) + 256 * (m / 256 % 256 &&& u) + 65536 * (m / 65536 % 256 &&& u) + 16777216 * (m / 16777216 % 256 &&& u) := by
  have e : ∀ a b : Nat, a < 256 → (a + 256 * b) % 256 = a ∧ (a + 256 * b) / 256 = b := fun a b h => ⟨by omega, by omega⟩
  rw [and_sp, (e u _ hu).1, (e u _ hu).2, and_sp (m / 256), (e u _ hu).1, (e u _ hu).2, and_sp (m / 256 / 256), (e u _ hu).1, (e u _ hu).2, Nat.div_div_eq_div_mul, Nat.div_div_eq_div_mul]
  rw [show m / 16777216 % 256 = m / (256 * 256 * 256) by omega, show m / 65536 % 256 = m / (256 * 256) % 256 by omega]
  omega
def bT (v : Nat) : Nat := (v / 2) &&& 85
def bA (v : Nat) : Nat := v - bT v
def bB (v : Nat) : Nat := (bA v &&& 51) + ((bA v / 4) &&& 51)
theorem bc_c1 : ∀ v, v < 512 → ((v / 2) % 256) &&& 85 = bT (v % 256) := by decide +kernel
theorem bc_c2 : ∀ v, v < 1024 → ((v / 4) % 256) &&& 51 = ((v % 256) / 4) &&& 51 := by decide +kernel
theorem bc_v : ∀ v, v < 256 → bT v ≤ v ∧ bB v % 16 ≤ 4 ∧ bB v / 16 ≤ 4 ∧ bB v % 16 + bB v / 16 = fb_ct v.testBit 8 := by decide +kernel
theorem ct8 (n w : Nat) : fb_ct n.testBit (w + 8) = fb_ct (n % 256).testBit 8 + fb_ct (n / 256).testBit w := by
  have h : ∀ m w, fb_ct m.testBit (w + 8) = m % 2 + (m / 2 % 2 + (m / 2 / 2 % 2 + (m / 2 / 2 / 2 % 2 + (m / 2 / 2 / 2 / 2 % 2 + (m / 2 / 2 / 2 / 2 / 2 % 2 + (m / 2 / 2 / 2 / 2 / 2 / 2 % 2 + (m / 2 / 2 / 2 / 2 / 2 / 2 / 2 % 2 + fb_ct (m / 2 / 2 / 2 / 2 / 2 / 2 / 2 / 2).testBit w))))))) := fun m w => by
    rw [show w + 8 = w + 1 + 1 + 1 + 1 + 1 + 1 + 1 + 1 from rfl, ct_half, ct_half, ct_half, ct_half, ct_half, ct_half, ct_half, ct_half]
  rw [h, show (8 : Nat) = 0 + 8 from rfl, h]
  have e : n / 2 / 2 / 2 / 2 / 2 / 2 / 2 / 2 = n / 256 := by omega
  rw [e]
  simp only [fb_ct]
  omega
theorem bc_s1 {p0 p1 p2 p3 r0 r1 r2 r3 m : Nat} (h0 : p0 ≤ 4) (h1 : p1 ≤ 4) (h2 : p2 ≤ 4) (h3 : p3 ≤ 4) (g0 : r0 ≤ 4) (g1 : r1 ≤ 4) (g2 : r2 ≤ 4) (g3 : r3 ≤ 4) (h : m = (16 * p0 + r0) + 256 * (16 * p1 + r1) + 65536 * (16 * p2 + r2) + 16777216 * (16 * p3 + r3)) : m + m / 16 = (16 * (p0 + r1) + (r0 + p0)) + 256 * (16 * (p1 + r2) + (r1 + p1)) + 65536 * (16 * (p2 + r3) + (r2 + p2)) + 16777216 * (16 * p3 + (r3 + p3)) := by
  have e : m / 16 = p0 + 16 * r1 + 256 * p1 + 4096 * r2 + 65536 * p2 + 1048576 * r3 + 16777216 * p3 := by omega
  omega
theorem bc_s2 {a b c d m : Nat} (ha : a < 256) (hb : b < 256) (hc : c < 256) (hd : d < 256) (h : m = a + 256 * b + 65536 * c + 16777216 * d) : m % 256 = a ∧ m / 256 % 256 = b ∧ m / 65536 % 256 = c ∧ m / 16777216 % 256 = d ∧ m < 4294967296 := by
  refine ⟨by omega, by omega, by omega, by omega, by omega⟩
theorem bc_s3 {a b c d m : Nat} (ha : a ≤ 8) (hb : b ≤ 8) (hc : c ≤ 8) (hd : d ≤ 8) (h : m = a + 256 * b + 65536 * c + 16777216 * d) : m + m / 256 = (a + b) + 256 * (b + c) + 65536 * (c + d) + 16777216 * d := by
  have e : m / 256 = b + 256 * c + 65536 * d := by omega
  omega
theorem bc_s4 {a b c d m : Nat} (ha : a ≤ 8) (hb : b ≤ 8) (hc : c ≤ 8) (hd : d ≤ 8) (h : m = (a + b) + 256 * (b + c) + 65536 * (c + d) + 16777216 * d) : (m + m / 65536) % 64 = a + b + c + d ∧ m + m / 65536 < 4294967296 := by
  have e : m / 65536 = (c + d) + 256 * d := by omega
  constructor <;> omega
theorem bc_c16 {p r : Nat} (h : p ≤ 4) (g : r ≤ 4) (q : Nat) : (16 * q + (r + p)) % 16 = r + p := by omega
theorem bc_s5 {a b c d x : Nat} (ha : a ≤ 8) (hb : b ≤ 8) (hc : c ≤ 8) (hd : d ≤ 8) (h : x = (a + b) + 256 * (b + c) + 65536 * (c + d) + 16777216 * d) : x < 4294967296 := by omega
theorem bc_tail {b c d : Int32} {p0 p1 p2 p3 r0 r1 r2 r3 : Nat} (hp0 : p0 ≤ 4) (hp1 : p1 ≤ 4) (hp2 : p2 ≤ 4) (hp3 : p3 ≤ 4) (hr0 : r0 ≤ 4) (hr1 : r1 ≤ 4) (hr2 : r2 ≤ 4) (hr3 : r3 ≤ 4) (eb : un b = (16 * p0 + r0) + 256 * (16 * p1 + r1) + 65536 * (16 * p2 + r2) + 16777216 * (16 * p3 + r3)) (hc : c = (b + us b 4) &&& 252645135) (hd : d = c + us c 8) : un ((d + us d 16) &&& 63) = (r0 + p0) + (r1 + p1) + (r2 + p2) + (r3 + p3) := by
  have e15 : ∀ z, z &&& 15 = z % 16 := fun z => Nat.and_two_pow_sub_one_eq_mod z 4
  have es : un (us b 4) = un b / 16 := un_us b 4 (by decide)
  have e3 := bc_s1 hp0 hp1 hp2 hp3 hr0 hr1 hr2 hr3 eb
  have v0 : 16 * (p0 + r1) + (r0 + p0) < 256 := by clear eb e3; omega
  have v1 : 16 * (p1 + r2) + (r1 + p1) < 256 := by clear eb e3; omega
  have v2 : 16 * (p2 + r3) + (r2 + p2) < 256 := by clear eb e3; omega
  have v3 : 16 * p3 + (r3 + p3) < 256 := by clear eb e3; omega
  obtain ⟨q0, q1, q2, q3, q4⟩ := bc_s2 (a := 16 * (p0 + r1) + (r0 + p0)) (b := 16 * (p1 + r2) + (r1 + p1)) (c := 16 * (p2 + r3) + (r2 + p2)) (d := 16 * p3 + (r3 + p3)) v0 v1 v2 v3 e3
  have ec : un c = (r0 + p0) + 256 * (r1 + p1) + 65536 * (r2 + p2) + 16777216 * (r3 + p3) := by
    have e1 : un (b + us b 4) = un b + un b / 16 := by rw [un_add (by rw [es]; exact q4), es]
    have e2 : un c = un (b + us b 4) &&& un 252645135 := by rw [hc]; exact un_and _ _
    rw [e2, e1, show un 252645135 = 15 + 256 * (15 + 256 * (15 + 256 * 15)) from rfl, and4 15 _ (by decide) q4, e15, e15, e15, e15, q0, q1, q2, q3, bc_c16 hp0 hr0, bc_c16 hp1 hr1, bc_c16 hp2 hr2, bc_c16 hp3 hr3]
  have u0 : r0 + p0 ≤ 8 := Nat.add_le_add hr0 hp0
  have u1 : r1 + p1 ≤ 8 := Nat.add_le_add hr1 hp1
  have u2 : r2 + p2 ≤ 8 := Nat.add_le_add hr2 hp2
  have u3 : r3 + p3 ≤ 8 := Nat.add_le_add hr3 hp3
  have k1 := bc_s3 u0 u1 u2 u3 ec
  have k9 := bc_s5 u0 u1 u2 u3 k1
  have ed : un d = un c + un c / 256 := by
    have e1 : un (us c 8) = un c / 256 := un_us c 8 (by decide)
    have e2 : un d = un c + un (us c 8) := by rw [hd]; exact un_add (by rw [e1]; exact k9)
    rw [e2, e1]
  rw [k1] at ed
  have k2 := bc_s4 u0 u1 u2 u3 ed
  have ee : un ((d + us d 16) &&& 63) = (r0 + p0) + (r1 + p1) + (r2 + p2) + (r3 + p3) := by
    have e1 : un (us d 16) = un d / 65536 := un_us d 16 (by decide)
    have e2 : un (d + us d 16) = un d + un d / 65536 := by rw [un_add (by rw [e1]; exact k2.2), e1]
    rw [un_and, e2, show un 63 = 2 ^ 6 - 1 from rfl, Nat.and_two_pow_sub_one_eq_mod]
    exact k2.1
  exact ee
theorem bc_ep (v : Int32) : pcn v = fb_ct (un v % 256).testBit 8 + fb_ct (un v / 256 % 256).testBit 8 + fb_ct (un v / 65536 % 256).testBit 8 + fb_ct (un v / 16777216 % 256).testBit 8 := by
  rw [pcn_nat]
  show fb_ct (un v).testBit (24 + 8) = _
  generalize un v = n
  have k1 := ct8 n 24
  have k2 := ct8 (n / 256) 16
  have k3 := ct8 (n / 256 / 256) 8
  have k4 := ct8 (n / 256 / 256 / 256) 0
  rw [show fb_ct (n / 256 / 256 / 256 / 256).testBit 0 = 0 from rfl, show (0 : Nat) + 8 = 8 from rfl, Nat.add_zero] at k4
  rw [show (16 : Nat) + 8 = 24 from rfl] at k2
  rw [show (8 : Nat) + 8 = 16 from rfl] at k3
  rw [Nat.div_div_eq_div_mul] at k3 k4
  rw [Nat.div_div_eq_div_mul] at k4
  rw [k1, k2, Nat.div_div_eq_div_mul, k3, Nat.div_div_eq_div_mul, k4]
  simp only [Nat.add_assoc]
theorem bc_eq (v a b c d : Int32) (ha : a = v - (us v 1 &&& 1431655765)) (hb : b = (a &&& 858993459) + (us a 2 &&& 858993459)) (hc : c = (b + us b 4) &&& 252645135) (hd : d = c + us c 8) : (d + us d 16) &&& 63 = pcI v := by
  generalize hn : un v = n
  have hlt : n < 4294967296 := by rw [← hn]; exact v.toBitVec.isLt
  obtain ⟨a0, ha0⟩ : ∃ a0, a0 = n % 256 := ⟨_, rfl⟩
  obtain ⟨a1, ha1⟩ : ∃ a1, a1 = n / 256 % 256 := ⟨_, rfl⟩
  obtain ⟨a2, ha2⟩ : ∃ a2, a2 = n / 65536 % 256 := ⟨_, rfl⟩
  obtain ⟨a3, ha3⟩ : ∃ a3, a3 = n / 16777216 % 256 := ⟨_, rfl⟩
  have w0 := bc_v a0 (by omega)
  have w1 := bc_v a1 (by omega)
  have w2 := bc_v a2 (by omega)
  have w3 := bc_v a3 (by omega)
  have ea : un a = bA a0 + 256 * bA a1 + 65536 * bA a2 + 16777216 * bA a3 ∧ bA a0 < 256 ∧ bA a1 < 256 ∧ bA a2 < 256 ∧ bA a3 < 256 := by
    have e1 : un (us v 1 &&& 1431655765) = bT a0 + 256 * bT a1 + 65536 * bT a2 + 16777216 * bT a3 := by
      rw [un_and, show (1 : Int32) = nI 1 from rfl, un_us _ 1 (by decide), hn, show un 1431655765 = 85 + 256 * (85 + 256 * (85 + 256 * 85)) from rfl, and4 85 _ (by decide) (by omega)]
      have g0 := bc_c1 (n % 512) (by omega)
      have g1 := bc_c1 (n / 256 % 512) (by omega)
      have g2 := bc_c1 (n / 65536 % 512) (by omega)
      have g3 := bc_c1 (n / 16777216 % 512) (by omega)
      rw [show n % 512 / 2 % 256 = n / 2 ^ 1 % 256 by omega, show n % 512 % 256 = a0 by omega] at g0
      rw [show n / 256 % 512 / 2 % 256 = n / 2 ^ 1 / 256 % 256 by omega, show n / 256 % 512 % 256 = a1 by omega] at g1
      rw [show n / 65536 % 512 / 2 % 256 = n / 2 ^ 1 / 65536 % 256 by omega, show n / 65536 % 512 % 256 = a2 by omega] at g2
      rw [show n / 16777216 % 512 / 2 % 256 = n / 2 ^ 1 / 16777216 % 256 by omega, show n / 16777216 % 512 % 256 = a3 by omega] at g3
      rw [g0, g1, g2, g3]
    have e2 : un a = un v - un (us v 1 &&& 1431655765) := by rw [ha]; exact un_sub (by rw [e1, hn]; omega)
    rw [e2, e1, hn]
    unfold bA
    omega
  obtain ⟨ea, l0, l1, l2, l3⟩ := ea
  have eb : un b = bB a0 + 256 * bB a1 + 65536 * bB a2 + 16777216 * bB a3 := by
    have e1 : un (a &&& 858993459) = (bA a0 &&& 51) + 256 * (bA a1 &&& 51) + 65536 * (bA a2 &&& 51) + 16777216 * (bA a3 &&& 51) := by
      rw [un_and, show un 858993459 = 51 + 256 * (51 + 256 * (51 + 256 * 51)) from rfl, and4 51 _ (by decide) (by omega), ea]
      rw [show (bA a0 + 256 * bA a1 + 65536 * bA a2 + 16777216 * bA a3) % 256 = bA a0 by omega, show (bA a0 + 256 * bA a1 + 65536 * bA a2 + 16777216 * bA a3) / 256 % 256 = bA a1 by omega, show (bA a0 + 256 * bA a1 + 65536 * bA a2 + 16777216 * bA a3) / 65536 % 256 = bA a2 by omega, show (bA a0 + 256 * bA a1 + 65536 * bA a2 + 16777216 * bA a3) / 16777216 % 256 = bA a3 by omega]
    have e2 : un (us a 2 &&& 858993459) = ((bA a0 / 4) &&& 51) + 256 * ((bA a1 / 4) &&& 51) + 65536 * ((bA a2 / 4) &&& 51) + 16777216 * ((bA a3 / 4) &&& 51) := by
      rw [un_and, show (2 : Int32) = nI 2 from rfl, un_us _ 2 (by decide), show un 858993459 = 51 + 256 * (51 + 256 * (51 + 256 * 51)) from rfl, and4 51 _ (by decide) (by omega)]
      generalize hm : un a = m
      rw [hm] at ea
      have g0 := bc_c2 (m % 1024) (by omega)
      have g1 := bc_c2 (m / 256 % 1024) (by omega)
      have g2 := bc_c2 (m / 65536 % 1024) (by omega)
      have g3 := bc_c2 (m / 16777216 % 1024) (by omega)
      rw [show m % 1024 / 4 % 256 = m / 2 ^ 2 % 256 by omega, show m % 1024 % 256 = bA a0 by omega] at g0
      rw [show m / 256 % 1024 / 4 % 256 = m / 2 ^ 2 / 256 % 256 by omega, show m / 256 % 1024 % 256 = bA a1 by omega] at g1
      rw [show m / 65536 % 1024 / 4 % 256 = m / 2 ^ 2 / 65536 % 256 by omega, show m / 65536 % 1024 % 256 = bA a2 by omega] at g2
      rw [show m / 16777216 % 1024 / 4 % 256 = m / 2 ^ 2 / 16777216 % 256 by omega, show m / 16777216 % 1024 % 256 = bA a3 by omega] at g3
      rw [g0, g1, g2, g3]
    have e3 : un b = un (a &&& 858993459) + un (us a 2 &&& 858993459) := by
     rw [hb]
     exact un_add (by
      rw [e1, e2]
      have q : ∀ z, bB z = (bA z &&& 51) + ((bA z / 4) &&& 51) := fun _ => rfl
      have := q a0; have := q a1; have := q a2; have := q a3
      omega)
    rw [e3, e1, e2]
    unfold bB
    omega
  obtain ⟨p0, r0, hb0⟩ : ∃ p r, bB a0 = 16 * p + r ∧ p ≤ 4 ∧ r ≤ 4 ∧ r + p = fb_ct a0.testBit 8 := ⟨bB a0 / 16, bB a0 % 16, by omega, w0.2.2.1, w0.2.1, w0.2.2.2⟩
  obtain ⟨p1, r1, hb1⟩ : ∃ p r, bB a1 = 16 * p + r ∧ p ≤ 4 ∧ r ≤ 4 ∧ r + p = fb_ct a1.testBit 8 := ⟨bB a1 / 16, bB a1 % 16, by omega, w1.2.2.1, w1.2.1, w1.2.2.2⟩
  obtain ⟨p2, r2, hb2⟩ : ∃ p r, bB a2 = 16 * p + r ∧ p ≤ 4 ∧ r ≤ 4 ∧ r + p = fb_ct a2.testBit 8 := ⟨bB a2 / 16, bB a2 % 16, by omega, w2.2.2.1, w2.2.1, w2.2.2.2⟩
  obtain ⟨p3, r3, hb3⟩ : ∃ p r, bB a3 = 16 * p + r ∧ p ≤ 4 ∧ r ≤ 4 ∧ r + p = fb_ct a3.testBit 8 := ⟨bB a3 / 16, bB a3 % 16, by omega, w3.2.2.1, w3.2.1, w3.2.2.2⟩
  obtain ⟨hb0, hp0, hr0, hf0⟩ := hb0
  obtain ⟨hb1, hp1, hr1, hf1⟩ := hb1
  obtain ⟨hb2, hp2, hr2, hf2⟩ := hb2
  obtain ⟨hb3, hp3, hr3, hf3⟩ := hb3
  rw [hb0, hb1, hb2, hb3] at eb
  have ee := bc_tail hp0 hp1 hp2 hp3 hr0 hr1 hr2 hr3 eb hc hd
  have ep : pcn v = (r0 + p0) + (r1 + p1) + (r2 + p2) + (r3 + p3) := by
    rw [bc_ep v, hn, ← ha0, ← ha1, ← ha2, ← ha3, hf0, hf1, hf2, hf3]
  apply Int32.toBitVec_inj.mp
  apply BitVec.eq_of_toNat_eq
  show un _ = (nI (pcn v)).toBitVec.toNat
  have := pcn_le v
  rw [ee, pk_tn (by omega), ep]

set_option maxHeartbeats 4000000 in
set_option maxRecDepth 100000 in
theorem t_J6_bitCount_0f7a4 (G : GT) (v : Int32) (ws : va_W)  : Ct G mJ6_bitCount_0f7a4 0 0 0 [.int v] ws (Pi (pcI v) ws) := by
  refine Ct.intro [(0, .int v)] (by decide) rfl (Nat.le_of_ble_eq_true rfl) ?_
  refine z_iload_n d_J6_bitCount_0f7a4_0 0 rfl ?_
  refine z_iload_n d_J6_bitCount_0f7a4_1 0 rfl ?_
  refine z_iconst (v := 1) d_J6_bitCount_0f7a4_2 (by decide) ?_
  refine z_iushr d_J6_bitCount_0f7a4_3 ?_
  refine z_ldcw d_J6_bitCount_0f7a4_4 w_0594 ?_
  refine z_iand d_J6_bitCount_0f7a4_7 ?_
  refine z_isub d_J6_bitCount_0f7a4_8 ?_
  generalize ha : v - ((((v : Int32).toUInt32 >>> ((1 : Int32).toUInt32 &&& Int32.toUInt32 31)).toInt32) &&& 1431655765) = a
  refine z_istore_n [(0, .int a)] d_J6_bitCount_0f7a4_9 (by decide) rfl ?_
  refine z_iload_n d_J6_bitCount_0f7a4_10 0 rfl ?_
  refine z_ldcw d_J6_bitCount_0f7a4_11 w_0595 ?_
  refine z_iand d_J6_bitCount_0f7a4_14 ?_
  refine z_iload_n d_J6_bitCount_0f7a4_15 0 rfl ?_
  refine z_iconst (v := 2) d_J6_bitCount_0f7a4_16 (by decide) ?_
  refine z_iushr d_J6_bitCount_0f7a4_17 ?_
  refine z_ldcw d_J6_bitCount_0f7a4_18 w_0595 ?_
  refine z_iand d_J6_bitCount_0f7a4_21 ?_
  refine z_iadd d_J6_bitCount_0f7a4_22 ?_
  generalize hb : (a &&& 858993459) + ((((a : Int32).toUInt32 >>> ((2 : Int32).toUInt32 &&& Int32.toUInt32 31)).toInt32) &&& 858993459) = b
  refine z_istore_n [(0, .int b)] d_J6_bitCount_0f7a4_23 (by decide) rfl ?_
  refine z_iload_n d_J6_bitCount_0f7a4_24 0 rfl ?_
  refine z_iload_n d_J6_bitCount_0f7a4_25 0 rfl ?_
  refine z_iconst (v := 4) d_J6_bitCount_0f7a4_26 (by decide) ?_
  refine z_iushr d_J6_bitCount_0f7a4_27 ?_
  refine z_iadd d_J6_bitCount_0f7a4_28 ?_
  refine z_ldcw d_J6_bitCount_0f7a4_29 w_0596 ?_
  refine z_iand d_J6_bitCount_0f7a4_32 ?_
  generalize hc : (b + (((b : Int32).toUInt32 >>> ((4 : Int32).toUInt32 &&& Int32.toUInt32 31)).toInt32)) &&& 252645135 = c
  refine z_istore_n [(0, .int c)] d_J6_bitCount_0f7a4_33 (by decide) rfl ?_
  refine z_iload_n d_J6_bitCount_0f7a4_34 0 rfl ?_
  refine z_iload_n d_J6_bitCount_0f7a4_35 0 rfl ?_
  refine z_bipush (v := 8) d_J6_bitCount_0f7a4_36 (by decide) ?_
  refine z_iushr d_J6_bitCount_0f7a4_38 ?_
  refine z_iadd d_J6_bitCount_0f7a4_39 ?_
  generalize hd : c + (((c : Int32).toUInt32 >>> ((8 : Int32).toUInt32 &&& Int32.toUInt32 31)).toInt32) = d
  refine z_istore_n [(0, .int d)] d_J6_bitCount_0f7a4_40 (by decide) rfl ?_
  refine z_iload_n d_J6_bitCount_0f7a4_41 0 rfl ?_
  refine z_iload_n d_J6_bitCount_0f7a4_42 0 rfl ?_
  refine z_bipush (v := 16) d_J6_bitCount_0f7a4_43 (by decide) ?_
  refine z_iushr d_J6_bitCount_0f7a4_45 ?_
  refine z_iadd d_J6_bitCount_0f7a4_46 ?_
  refine z_istore_n [(0, .int (d + (((d : Int32).toUInt32 >>> ((16 : Int32).toUInt32 &&& Int32.toUInt32 31)).toInt32)))] d_J6_bitCount_0f7a4_47 (by decide) rfl ?_
  refine z_iload_n d_J6_bitCount_0f7a4_48 0 rfl ?_
  refine z_bipush (v := 63) d_J6_bitCount_0f7a4_49 (by decide) ?_
  refine z_iand d_J6_bitCount_0f7a4_51 ?_
  exact z_iret _ d_J6_bitCount_0f7a4_52 rfl (Pi.of (bc_eq v a b c d ha.symm hb.symm hc.symm hd.symm))
