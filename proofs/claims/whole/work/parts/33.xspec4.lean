/-! holes; rows copied; what a call leaves of the rest -/
def exB (P : Nat → Bool) : Nat → Bool
  | 0 => false
  | n + 1 => exB P n || P n
theorem exB_iff {P : Nat → Bool} : ∀ {n : Nat}, exB P n = true ↔ ∃ j, j < n ∧ P j = true
  | 0 => by simp [exB]
  | n + 1 => by
    rw [exB, Bool.or_eq_true, exB_iff (n := n)]
    constructor
    · rintro (⟨j, h1, h2⟩ | h)
      · exact ⟨j, by omega, h2⟩
      · exact ⟨n, by omega, h⟩
    · rintro ⟨j, h1, h2⟩
      by_cases e : j = n
      · subst e; exact Or.inr h2
      · exact Or.inl ⟨j, by omega, h2⟩
theorem b_eqi {p q : Bool} (h : p = true ↔ q = true) : p = q := by cases p <;> cases q <;> simp_all
theorem exB_front (P : Nat → Bool) (m n : Nat) : exB (fun j => P (m + j)) (n + 1) = (P m || exB (fun j => P (m + 1 + j)) n) := by
  apply b_eqi
  rw [Bool.or_eq_true, exB_iff, exB_iff]
  constructor
  · rintro ⟨j, h1, h2⟩
    by_cases e : j = 0
    · subst e; exact Or.inl h2
    · exact Or.inr ⟨j - 1, by omega, by rw [show m + 1 + (j - 1) = m + j by omega]; exact h2⟩
  · rintro (h | ⟨j, h1, h2⟩)
    · exact ⟨0, by omega, h⟩
    · exact ⟨j + 1, by omega, by rw [show m + (j + 1) = m + 1 + j by omega]; exact h2⟩
theorem b01_o1 (p : Bool) : b01 p ||| 1 = b01 (p || true) := by cases p <;> decide
theorem b01_o0 (p : Bool) : b01 p ||| 0 = b01 (p || false) := by cases p <;> decide
theorem byd_nI {a c : Nat} (ha : a ≤ 4) (hc : c ≤ 4) : bydI (nI a) (nI c) = true := by
  unfold bydI; rw [decide_eq_true_eq, nI_i (by omega), nI_i (by omega)]; omega
theorem by_r {set : Int32} {a c : Nat} (ha : a ≤ 4) (hc : c ≤ 4) (r : Bool) : (if ¬ b01 r = 0 then (1 : Int32) else if set >>> ((5 * nI c + nI a) &&& 31) &&& 1 = 1 then 1 else 0) = b01 (r || bt set (5 * c + a)) := by
  rw [show (5 : Int32) = nI 5 from rfl, nI_mul, nI_add]
  cases r
  · rw [if_neg (by decide)]
    cases hb : bt set (5 * c + a)
    · rw [if_neg (by rw [sb1 (by omega), hb]; decide)]; rfl
    · rw [if_pos ((sb1 (by omega)).mpr hb)]; rfl
  · rw [if_pos (by decide)]; rfl
theorem nI_m1 (m : Nat) : nI (m + 1) + (-1) = nI m := pk_m1 m
theorem byL_S (set : Int32) {c : Nat} (hc : c ≤ 4) : ∀ (m F : Nat) (r : Bool), m ≤ 5 → m < F → byR set (-1) 0 F (nI m + (-1)) (nI c) (b01 r) = b01 (r || exB (fun j => bt set (5 * c + j)) m)
  | 0, F, r, _, hF => by
    obtain ⟨f, rfl⟩ : ∃ f, F = f + 1 := ⟨F - 1, by omega⟩
    rw [byR, if_neg (by rw [show nI 0 + (-1) = (-1 : Int32) from by decide]; unfold bydI; rw [decide_eq_true_eq]; intro h; exact absurd h.1 (by decide))]
    simp [exB]
  | m + 1, F, r, hm, hF => by
    obtain ⟨f, rfl⟩ : ∃ f, F = f + 1 := ⟨F - 1, by omega⟩
    rw [nI_m1, byR, if_pos (byd_nI (by omega) hc), by_r (by omega) hc, Int32.add_zero, byL_S set hc m f _ (by omega) (by omega)]
    simp only [exB]
    cases r <;> cases bt set (5 * c + m) <;> cases exB (fun j => bt set (5 * c + j)) m <;> rfl
theorem byA_S (set : Int32) {a : Nat} (ha : a ≤ 4) : ∀ (m F : Nat) (r : Bool), m ≤ 5 → m < F → byR set 0 (-1) F (nI a) (nI m + (-1)) (b01 r) = b01 (r || exB (fun j => bt set (5 * j + a)) m)
  | 0, F, r, _, hF => by
    obtain ⟨f, rfl⟩ : ∃ f, F = f + 1 := ⟨F - 1, by omega⟩
    rw [byR, if_neg (by rw [show nI 0 + (-1) = (-1 : Int32) from by decide]; unfold bydI; rw [decide_eq_true_eq]; intro h; exact absurd h.2.2.1 (by decide))]
    simp [exB]
  | m + 1, F, r, hm, hF => by
    obtain ⟨f, rfl⟩ : ∃ f, F = f + 1 := ⟨F - 1, by omega⟩
    rw [nI_m1, byR, if_pos (byd_nI ha (by omega)), by_r ha (by omega), Int32.add_zero, byA_S set ha m f _ (by omega) (by omega)]
    simp only [exB]
    cases r <;> cases bt set (5 * m + a) <;> cases exB (fun j => bt set (5 * j + a)) m <;> rfl
theorem byR_S (set : Int32) {c : Nat} (hc : c ≤ 4) : ∀ (n m F : Nat) (r : Bool), m + n = 5 → n < F → byR set 1 0 F (nI m) (nI c) (b01 r) = b01 (r || exB (fun j => bt set (5 * c + (m + j))) n)
  | 0, m, F, r, hm, hF => by
    obtain ⟨f, rfl⟩ : ∃ f, F = f + 1 := ⟨F - 1, by omega⟩
    rw [byR, if_neg (by unfold bydI; rw [decide_eq_true_eq, nI_i (by omega)]; omega)]
    simp [exB]
  | n + 1, m, F, r, hm, hF => by
    obtain ⟨f, rfl⟩ : ∃ f, F = f + 1 := ⟨F - 1, by omega⟩
    rw [byR, if_pos (byd_nI (by omega) hc), by_r (by omega) hc, Int32.add_zero, nI_1, byR_S set hc n (m + 1) f _ (by omega) (by omega), exB_front (fun j => bt set (5 * c + j)) m n, Bool.or_assoc]
theorem byB_S (set : Int32) {a : Nat} (ha : a ≤ 4) : ∀ (n m F : Nat) (r : Bool), m + n = 5 → n < F → byR set 0 1 F (nI a) (nI m) (b01 r) = b01 (r || exB (fun j => bt set (5 * (m + j) + a)) n)
  | 0, m, F, r, hm, hF => by
    obtain ⟨f, rfl⟩ : ∃ f, F = f + 1 := ⟨F - 1, by omega⟩
    rw [byR, if_neg (by unfold bydI; rw [decide_eq_true_eq, nI_i (n := m) (by omega)]; omega)]
    simp [exB]
  | n + 1, m, F, r, hm, hF => by
    obtain ⟨f, rfl⟩ : ∃ f, F = f + 1 := ⟨F - 1, by omega⟩
    rw [byR, if_pos (byd_nI ha (by omega)), by_r ha (by omega), Int32.add_zero, nI_1, byB_S set ha n (m + 1) f _ (by omega) (by omega), exB_front (fun j => bt set (5 * j + a)) m n, Bool.or_assoc]
def eL (set : Int32) (k j : Nat) : Bool := bt set (5 * (k / 5) + j) && decide (j < k % 5)
def eR (set : Int32) (k j : Nat) : Bool := bt set (5 * (k / 5) + j) && decide (k % 5 < j)
def eA (set : Int32) (k j : Nat) : Bool := bt set (5 * j + k % 5) && decide (j < k / 5)
def eB (set : Int32) (k j : Nat) : Bool := bt set (5 * j + k % 5) && decide (k / 5 < j)
def enQ (set : Int32) (k : Nat) : Bool := exB (eL set k) 5 && (exB (eR set k) 5 && (exB (eA set k) 5 && exB (eB set k) 5))
theorem x_nI {k : Nat} (hk : k < 25) : irm (nI k) 5 = nI (k % 5) ∧ nI k / 5 = nI (k / 5) := by
  have h1 : (nI k).toInt = (k : Int) := nI_i (by omega)
  exact ⟨eq_nI (by rw [irm_i (by omega) (by decide), h1, i_5]; omega), eq_nI (by rw [div_i (by omega) (by decide), h1, i_5]; omega)⟩
theorem en_n {p : Bool} : (!decide (b01 p = 0)) = p := by cases p <;> rfl
theorem ho_en {set : Int32} {k : Nat} (hk : k < 25) : hoP set k = (!bt set k && enQ set k) := by
  obtain ⟨hx, hy⟩ := x_nI hk
  have sL : byS set (nI (k % 5)) (nI (k / 5)) (-1) 0 = b01 (exB (eL set k) 5) := by
    unfold byS
    rw [Int32.add_zero]
    show byR set (-1) 0 12 (nI (k % 5) + (-1)) (nI (k / 5)) (b01 false) = _
    rw [byL_S set (c := k / 5) (by omega) (k % 5) 12 false (by omega) (by omega), Bool.false_or]
    apply b01_i; rw [exB_iff, exB_iff]
    constructor
    · rintro ⟨j, h1, h2⟩; exact ⟨j, by omega, by unfold eL; rw [h2, decide_eq_true h1]; rfl⟩
    · rintro ⟨j, h1, h2⟩; unfold eL at h2; rw [Bool.and_eq_true, decide_eq_true_eq] at h2; exact ⟨j, h2.2, h2.1⟩
  have sR : byS set (nI (k % 5)) (nI (k / 5)) 1 0 = b01 (exB (eR set k) 5) := by
    unfold byS
    rw [Int32.add_zero, nI_1]
    show byR set 1 0 12 (nI (k % 5 + 1)) (nI (k / 5)) (b01 false) = _
    rw [byR_S set (c := k / 5) (by omega) (4 - k % 5) (k % 5 + 1) 12 false (by omega) (by omega), Bool.false_or]
    apply b01_i; rw [exB_iff, exB_iff]
    constructor
    · rintro ⟨j, h1, h2⟩; exact ⟨k % 5 + 1 + j, by omega, by unfold eR; rw [h2, decide_eq_true (by omega)]; rfl⟩
    · rintro ⟨j, h1, h2⟩; unfold eR at h2; rw [Bool.and_eq_true, decide_eq_true_eq] at h2; exact ⟨j - (k % 5 + 1), by omega, by rw [show k % 5 + 1 + (j - (k % 5 + 1)) = j by omega]; exact h2.1⟩
  have sA : byS set (nI (k % 5)) (nI (k / 5)) 0 (-1) = b01 (exB (eA set k) 5) := by
    unfold byS
    rw [Int32.add_zero]
    show byR set 0 (-1) 12 (nI (k % 5)) (nI (k / 5) + (-1)) (b01 false) = _
    rw [byA_S set (a := k % 5) (by omega) (k / 5) 12 false (by omega) (by omega), Bool.false_or]
    apply b01_i; rw [exB_iff, exB_iff]
    constructor
    · rintro ⟨j, h1, h2⟩; exact ⟨j, by omega, by unfold eA; rw [h2, decide_eq_true h1]; rfl⟩
    · rintro ⟨j, h1, h2⟩; unfold eA at h2; rw [Bool.and_eq_true, decide_eq_true_eq] at h2; exact ⟨j, h2.2, h2.1⟩
  have sB : byS set (nI (k % 5)) (nI (k / 5)) 0 1 = b01 (exB (eB set k) 5) := by
    unfold byS
    rw [Int32.add_zero, nI_1]
    show byR set 0 1 12 (nI (k % 5)) (nI (k / 5 + 1)) (b01 false) = _
    rw [byB_S set (a := k % 5) (by omega) (4 - k / 5) (k / 5 + 1) 12 false (by omega) (by omega), Bool.false_or]
    apply b01_i; rw [exB_iff, exB_iff]
    constructor
    · rintro ⟨j, h1, h2⟩; exact ⟨k / 5 + 1 + j, by omega, by unfold eB; rw [h2, decide_eq_true (by omega)]; rfl⟩
    · rintro ⟨j, h1, h2⟩; unfold eB at h2; rw [Bool.and_eq_true, decide_eq_true_eq] at h2; exact ⟨j - (k / 5 + 1), by omega, by rw [show k / 5 + 1 + (j - (k / 5 + 1)) = j by omega]; exact h2.1⟩
  unfold hoP
  rw [hx, hy, sL, sR, sA, sB, en_n, en_n, en_n, en_n]
  have e : decide (set >>> (nI k &&& 31) &&& 1 = 0) = !bt set k := by
    cases hb : bt set k
    · rw [decide_eq_true ((sb0 (by omega)).mpr hb)]; rfl
    · rw [decide_eq_false (by rw [sb0 (by omega), hb]; decide)]; rfl
  rw [e]; rfl
/-! rows copied -/
def cpI (f g : Nat → Int32) (n : Nat) : Nat → Int32 := itL (fun k L => upd L k (f k)) g n
def cpK (f g : Nat → Option Nat) (n : Nat) : Nat → Option Nat := itL (fun k L => va_up L k (f k)) g n
theorem cpI_at (f g : Nat → Int32) (q : Nat) : ∀ n, cpI f g n q = if q < n then f q else g q
  | 0 => by rw [if_neg (by omega)]; rfl
  | n + 1 => by
    show upd (cpI f g n) n (f n) q = _
    by_cases h : q = n
    · subst h; rw [pk_us, if_pos (by omega)]
    · rw [pk_un h, cpI_at f g q n]
      by_cases h2 : q < n
      · rw [if_pos h2, if_pos (by omega)]
      · rw [if_neg h2, if_neg (by omega)]
theorem cpK_at (f g : Nat → Option Nat) (q : Nat) : ∀ n, cpK f g n q = if q < n then f q else g q
  | 0 => by rw [if_neg (by omega)]; rfl
  | n + 1 => by
    show va_up (cpK f g n) n (f n) q = _
    by_cases h : q = n
    · subst h; rw [up_s, if_pos (by omega)]
    · rw [up_n h, cpK_at f g q n]
      by_cases h2 : q < n
      · rw [if_pos h2, if_pos (by omega)]
      · rw [if_neg h2, if_neg (by omega)]
theorem NtR.cp {I : Nat → Int32} {A : Nat → Nat → Int32} {x_al x_ho x_gr : Int32} {x_wh x_la x_ly u1 u2 u3 : Nat → Int32} {x_kn u4 : Nat → Option Nat} {tl : va_W} (h : NtR I A x_al x_ho x_gr x_wh x_la x_ly x_kn tl) : NtR I A x_al x_ho x_gr (cpI x_wh u1 16) (cpI x_la u2 16) (cpI x_ly u3 25) (cpK x_kn u4 16) tl := by
  refine ⟨h.al, h.ho, h.gr, h.s16, fun s hs => ?_, fun c hc => ?_⟩
  · rw [cpI_at, cpI_at, cpK_at, if_pos hs, if_pos hs, if_pos hs]; exact h.2.2.2.2.1 s hs
  · rw [cpI_at, if_pos hc]; exact h.ly hc
/-- the net's numbers and rows may change, all else stays -/
def Fr (N : Nat → Int32) (R : Nat → Nat → Int32) (K : Nat → Nat → Option Nat) (N' : Nat → Int32) (R' : Nat → Nat → Int32) (K' : Nat → Nat → Option Nat) : Prop := (∀ j, j ≠ 2 → j ≠ 3 → j ≠ 4 → N' j = N j) ∧ (∀ j, j ≠ 1 → j ≠ 2 → j ≠ 3 → R' j = R j) ∧ ∀ j, j ≠ 0 → K' j = K j
theorem Fr.rf (N : Nat → Int32) (R : Nat → Nat → Int32) (K : Nat → Nat → Option Nat) : Fr N R K N R K := ⟨fun _ _ _ _ => rfl, fun _ _ _ _ => rfl, fun _ _ => rfl⟩
theorem Fr.tr {N N1 N2 : Nat → Int32} {R R1 R2 : Nat → Nat → Int32} {K K1 K2 : Nat → Nat → Option Nat} (h1 : Fr N R K N1 R1 K1) (h2 : Fr N1 R1 K1 N2 R2 K2) : Fr N R K N2 R2 K2 :=
  ⟨fun j a b c => (h2.1 j a b c).trans (h1.1 j a b c), fun j a b c => (h2.2.1 j a b c).trans (h1.2.1 j a b c), fun j a => (h2.2.2 j a).trans (h1.2.2 j a)⟩
theorem vfu {α : Type} {f : Nat → α} {k j : Nat} {v : α} (h : j ≠ k) : vf_upd f k v j = f j := if_neg h
theorem vfs {α : Type} {f : Nat → α} {k : Nat} {v : α} : vf_upd f k v k = v := if_pos rfl
theorem Fr.put (N : Nat → Int32) (R : Nat → Nat → Int32) (K : Nat → Nat → Option Nat) (n2 : Int32) (r1 r2 r3 : Nat → Int32) (k0 : Nat → Option Nat) : Fr N R K (upd N 2 n2) (vf_upd (vf_upd (vf_upd R 1 r1) 2 r2) 3 r3) (vf_upd K 0 k0) :=
  ⟨fun j a _ _ => pk_un a, fun j a b c => by rw [vfu c, vfu b, vfu a], fun j a => vfu a⟩
theorem Fr.drop (N : Nat → Int32) (R : Nat → Nat → Int32) (K : Nat → Nat → Option Nat) (n2 : Int32) (r3 : Nat → Int32) (k0 : Nat → Option Nat) : Fr N R K (upd N 2 n2) (vf_upd R 3 r3) (vf_upd K 0 k0) :=
  ⟨fun j a _ _ => pk_un a, fun j a b c => vfu c, fun j a => vfu a⟩
theorem dr_la {I : Nat → Int32} {s : Nat} (hs : s < 16) (h : bt (I 12) s = false) : drI (laI I s) (1 <<< (nI s &&& 31)) = I := by
  have e : (laI I s) 12 &&& ((1 <<< (nI s &&& 31)) ^^^ (-1)) = I 12 := by
    rw [laI_12]
    apply b_ext
    intro i hi
    rw [b_and, b_or, b_not _ hi, b_bit (by omega) hi]
    by_cases h1 : i = s
    · rw [h1, h, decide_eq_true rfl]; rfl
    · rw [decide_eq_false h1]; simp
  unfold drI
  rw [e]
  funext j
  unfold upd laI upd
  by_cases h1 : j = 12
  · rw [if_pos h1, h1]
  · rw [if_neg h1, if_neg h1]
