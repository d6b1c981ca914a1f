/-! sums over crossings; what a net's rows say of the reference's -/
def smI (f : Nat → Int32) (n : Nat) : Int32 := itL (fun k a => a + f k) 0 n
theorem smI_s (f : Nat → Int32) (n : Nat) : smI f (n + 1) = smI f n + f n := rfl
theorem smI_cong {f g : Nat → Int32} {n : Nat} (h : ∀ k, k < n → f k = g k) : smI f n = smI g n := itL_cong (fun k a hk => by rw [h k hk])
theorem smI_add (f g : Nat → Int32) : ∀ n, smI (fun k => f k + g k) n = smI f n + smI g n
  | 0 => by show (0 : Int32) = 0 + 0; rfl
  | n + 1 => by
    rw [smI_s, smI_s, smI_s, smI_add f g n]
    generalize smI f n = a
    generalize smI g n = c
    rw [Int32.add_assoc, Int32.add_assoc, ← Int32.add_assoc c, Int32.add_comm c, Int32.add_assoc]
theorem smI_0 : ∀ n, smI (fun _ => 0) n = 0
  | 0 => rfl
  | n + 1 => by rw [smI_s, smI_0 n]; rfl
theorem smI_one (p : Nat) (v : Int32) : ∀ n, smI (fun k => if k = p then v else 0) n = if p < n then v else 0
  | 0 => by rw [if_neg (by omega)]; rfl
  | n + 1 => by
    rw [smI_s, smI_one p v n]
    by_cases h : n = p
    · rw [if_neg (by omega), if_pos h, if_pos (by omega), Int32.zero_add]
    · rw [if_neg h, Int32.add_zero]
      by_cases h2 : p < n
      · rw [if_pos h2, if_pos (by omega)]
      · rw [if_neg h2, if_neg (by omega)]
def inC (c st : Nat) : Nat → Nat → Bool
  | 0, _ => false
  | lg + 1, q => inC c st lg q || decide (q = c + lg * st)
theorem inC_iff {c st : Nat} : ∀ {lg q : Nat}, inC c st lg q = true ↔ ∃ i, i < lg ∧ q = c + i * st
  | 0, q => by simp [inC]
  | lg + 1, q => by
    simp only [inC, Bool.or_eq_true, decide_eq_true_eq, inC_iff (lg := lg)]
    constructor
    · rintro (⟨i, h, e⟩ | e)
      · exact ⟨i, by omega, e⟩
      · exact ⟨lg, by omega, e⟩
    · rintro ⟨i, h, e⟩
      by_cases h2 : i = lg
      · subst h2; exact Or.inr e
      · exact Or.inl ⟨i, by omega, e⟩
theorem smI_cov {c st n : Nat} (g : Nat → Int32) (hst : 0 < st) : ∀ lg, (∀ i, i < lg → c + i * st < n) → smI (fun q => if inC c st lg q = true then g q else 0) n = smI (fun i => g (c + i * st)) lg
  | 0, _ => by
    rw [smI_cong (g := fun _ => 0) (fun k _ => by simp [inC]), smI_0]; rfl
  | lg + 1, h => by
    have e : ∀ q, q < n → (if inC c st (lg + 1) q = true then g q else 0) = (if inC c st lg q = true then g q else 0) + (if q = c + lg * st then g (c + lg * st) else 0) := by
      intro q _
      by_cases h1 : q = c + lg * st
      · have h2 : ¬ inC c st lg q = true := by
          rw [inC_iff]
          rintro ⟨i, hi, e⟩
          have : i * st = lg * st := by omega
          have := Nat.eq_of_mul_eq_mul_right hst this
          omega
        rw [if_neg h2, if_pos h1, if_pos (by simp [inC, h1]), Int32.zero_add, h1]
      · rw [if_neg h1, Int32.add_zero]
        simp only [inC, decide_eq_false h1, Bool.or_false]
    rw [smI_cong e, smI_add, smI_cov g hst lg (fun i hi => h i (by omega)), smI_one, if_pos (h lg (by omega)), smI_s]
theorem WP.st0 {w : Int32} {c st lg : Nat} (h : WP w c st lg) : 0 < st := by rcases h.2.2.2.1 with e | e <;> omega
theorem WP.ix {w : Int32} {c st lg : Nat} (h : WP w c st lg) {i : Nat} (hi : i < lg) : (w / 100 + nI i * stX w).toInt = ((c + i * st : Nat) : Int) := by
  have h1 := h.2.2.2.2.1 i hi
  rw [h.2.2.2.2.2.1, h.2.2.2.2.2.2.2.1, nI_mul, nI_add, nI_i (by omega)]
theorem cv_bt {w : Int32} {c st lg : Nat} (h : WP w c st lg) {q : Nat} (hq : q < 32) : bt (cvS w) q = inC c st lg q := by
  have key : ∀ n, n ≤ lg → bt (itL (cvF w) 0 n) q = inC c st n q := by
    intro n
    induction n with
    | zero => intro _; exact b_0 q
    | succ n ih =>
      intro hn
      have h1 := h.2.2.2.2.1 n (by omega)
      show bt (cvF w n (itL (cvF w) 0 n)) q = _
      rw [cvF, b_or, ih (by omega), h.2.2.2.2.2.1, h.2.2.2.2.2.2.2.2.1, nI_mul, nI_add, Nat.mul_comm st n, b_bit (by omega) hq]
      rfl
  have e : (irm w 10).toInt.toNat = lg := by rw [h.2.2.2.2.2.2.1]; exact nI_tn (by have := h.2.2.1; omega)
  unfold cvS
  rw [e]
  exact key lg (Nat.le_refl _)
def metF (ly : Nat → Int32) (c st : Nat) (oth most : Int32) (i : Nat) (a : Int32) : Int32 := a + mnS (pcI (ly (c + i * st) &&& oth)) most
def metS (ly : Nat → Int32) (c st lg : Nat) (oth most : Int32) : Int32 := itL (metF ly c st oth most) 0 lg
theorem metS_sm (ly : Nat → Int32) (c st lg : Nat) (oth most : Int32) : metS ly c st lg oth most = smI (fun i => mnS (pcI (ly (c + i * st) &&& oth)) most) lg := rfl
theorem mn_16 {x : Int32} (h : S16 x) : mnS (pcI x) 16 = pcI x := by
  have h1 := pcn_16 h
  unfold mnS pcI
  by_cases h2 : nI (pcn x) < 16
  · rw [if_pos h2]
  · rw [if_neg h2]
    rw [show (16 : Int32) = nI 16 from rfl, nI_ltI (by omega) (by decide)] at h2
    rw [show pcn x = 16 by omega]; rfl
theorem mn_0 {m : Int32} (h : 0 ≤ m.toInt) : mnS 0 m = 0 := by
  unfold mnS
  by_cases h2 : (0 : Int32) < m
  · rw [if_pos h2]
  · rw [if_neg h2]
    rw [lt_i, i_0] at h2
    rw [eq_i, i_0]; omega
theorem at_16 (A : Nat → Nat → Int32) (c set : Int32) : S16 (atS A c set) := orS_16 _
/-- the bits of one lie in another -/
def Sb (x y : Int32) : Prop := ∀ i, i < 32 → bt x i = true → bt y i = true
theorem Sb.rf (x : Int32) : Sb x x := fun _ _ h => h
theorem Sb.and {x y z : Int32} (h : Sb x y) : Sb (x &&& z) y := fun i hi hb => by
  rw [b_and, Bool.and_eq_true] at hb; exact h i hi hb.1
theorem Sb.tr {x y z : Int32} (h : Sb x y) (h2 : Sb y z) : Sb x z := fun i hi hb => h2 i hi (h i hi hb)
theorem Sb.s16 {x y : Int32} (h : Sb x y) (h2 : S16 y) : S16 x := fun i h3 h4 => by
  cases hb : bt x i
  · rfl
  · exact absurd (h i h4 hb) (by rw [h2 i h3 h4]; decide)
theorem at_and {A : Nat → Nat → Int32} {c : Nat} {set oth : Int32} (hc : c < 25) (h : Sb oth set) : atS A (nI c) set &&& oth = atS A (nI c) oth := by
  apply b_ext
  intro i hi
  rw [b_and, at_bt hc hi, at_bt hc hi]
  cases h1 : bt oth i
  · simp
  · rw [h i hi h1]; simp
/-! the net's parts -/
section NT
variable {I : Nat → Int32} {A : Nat → Nat → Int32} {x_al x_ho x_gr : Int32} {x_wh x_la x_ly : Nat → Int32} {x_kn : Nat → Option Nat} {tl : va_W}
theorem NtR.al (h : NtR I A x_al x_ho x_gr x_wh x_la x_ly x_kn tl) : x_al = I 12 := h.1
theorem NtR.ho (h : NtR I A x_al x_ho x_gr x_wh x_la x_ly x_kn tl) : x_ho = I 13 := h.2.1
theorem NtR.gr (h : NtR I A x_al x_ho x_gr x_wh x_la x_ly x_kn tl) : x_gr = I 14 := h.2.2.1
theorem NtR.s16 (h : NtR I A x_al x_ho x_gr x_wh x_la x_ly x_kn tl) : S16 (I 12) := h.2.2.2.1
theorem NtR.wh (h : NtR I A x_al x_ho x_gr x_wh x_la x_ly x_kn tl) {s : Nat} (hs : s < 16) : x_wh s = A 8 s := (h.2.2.2.2.1 s hs).1
theorem NtR.la (h : NtR I A x_al x_ho x_gr x_wh x_la x_ly x_kn tl) {s : Nat} (hs : s < 16) : x_la s = A 10 s := (h.2.2.2.2.1 s hs).2.1
theorem NtR.k0 (h : NtR I A x_al x_ho x_gr x_wh x_la x_ly x_kn tl) {s : Nat} (hs : s < 16) (hb : bt (I 12) s = false) : x_kn s = none := (h.2.2.2.2.1 s hs).2.2.1 hb
theorem NtR.k1 (h : NtR I A x_al x_ho x_gr x_wh x_la x_ly x_kn tl) {s : Nat} (hs : s < 16) (hb : bt (I 12) s = true) : stK tl (x_kn s) (A 7 s) (A 9 s) := ((h.2.2.2.2.1 s hs).2.2.2 hb).1
theorem NtR.kd (h : NtR I A x_al x_ho x_gr x_wh x_la x_ly x_kn tl) {s : Nat} (hs : s < 16) (hb : bt (I 12) s = true) : kOk (A 7 s) := ((h.2.2.2.2.1 s hs).2.2.2 hb).2.1
theorem NtR.nu (h : NtR I A x_al x_ho x_gr x_wh x_la x_ly x_kn tl) {s : Nat} (hs : s < 16) (hb : bt (I 12) s = true) : 0 ≤ (A 9 s).toInt ∧ (A 9 s).toInt ≤ 9 := ((h.2.2.2.2.1 s hs).2.2.2 hb).2.2.1
theorem NtR.ok (h : NtR I A x_al x_ho x_gr x_wh x_la x_ly x_kn tl) {s : Nat} (hs : s < 16) (hb : bt (I 12) s = true) : okW (A 8 s) = true := ((h.2.2.2.2.1 s hs).2.2.2 hb).2.2.2.1
theorem NtR.cv (h : NtR I A x_al x_ho x_gr x_wh x_la x_ly x_kn tl) {s : Nat} (hs : s < 16) (hb : bt (I 12) s = true) : A 11 s = cvS (A 8 s) := ((h.2.2.2.2.1 s hs).2.2.2 hb).2.2.2.2
theorem NtR.ly (h : NtR I A x_al x_ho x_gr x_wh x_la x_ly x_kn tl) {c : Nat} (hc : c < 25) : x_ly c = atS A (nI c) (I 12) := h.2.2.2.2.2 c hc
theorem met_cr (h : NtR I A x_al x_ho x_gr x_wh x_la x_ly x_kn tl) {s c st lg : Nat} {mask most : Int32} (hs : s < 16) (hb : bt (I 12) s = true) (hW : WP (A 8 s) c st lg) (hsub : Sb mask (I 12)) (hmost : 0 ≤ most.toInt) : metS x_ly c st lg (mask &&& (1 <<< (nI s &&& 31) ^^^ (-1))) most = crS A s mask most := by
  rw [metS_sm]
  have e : crS A s mask most = smI (fun k => if inC c st lg k = true then mnS (pcI (atS A (nI k) (mask &&& (1 <<< (nI s &&& 31) ^^^ (-1))))) most else 0) 25 := by
    show smI _ 25 = _
    refine smI_cong (fun k hk => ?_)
    have hcv : bt (A 11 s) k = inC c st lg k := by rw [h.cv hs hb, cv_bt hW (by omega)]
    by_cases hi : inC c st lg k = true
    · rw [if_pos hi, if_pos ((sb1 (by omega)).mpr (by rw [hcv]; exact hi))]
    · rw [if_neg hi, if_neg (by rw [sb1 (by omega), hcv]; exact hi), mn_0 hmost]
  rw [e, smI_cov _ hW.st0 lg hW.2.2.2.2.1]
  refine smI_cong (fun i hi => ?_)
  have hc := hW.2.2.2.2.1 i hi
  rw [h.ly hc, at_and hc hsub.and]
theorem met_gc (h : NtR I A x_al x_ho x_gr x_wh x_la x_ly x_kn tl) {w : Int32} {c st lg : Nat} (hW : WP w c st lg) : metS x_ly c st lg (I 12) 16 = gcS A I w := by
  rw [metS_sm]
  have e : gcS A I w = smI (fun k => if inC c st lg k = true then pcI (atS A (nI k) (I 12)) else 0) 25 := by
    show smI _ 25 = _
    refine smI_cong (fun k hk => ?_)
    have hcv : bt (cvS w) k = inC c st lg k := cv_bt hW (by omega)
    by_cases hi : inC c st lg k = true
    · rw [if_pos hi, if_pos ((sb1 (by omega)).mpr (by rw [hcv]; exact hi))]
    · rw [if_neg hi, if_neg (by rw [sb1 (by omega), hcv]; exact hi)]
  rw [e, smI_cov _ hW.st0 lg hW.2.2.2.2.1]
  refine smI_cong (fun i hi => ?_)
  have hc := hW.2.2.2.2.1 i hi
  rw [h.ly hc, at_and hc (Sb.rf _), mn_16 (at_16 _ _ _)]
/-! a strip more -/
def lyF (s c st : Nat) (i : Nat) (L : Nat → Int32) : Nat → Int32 := upd L (c + i * st) (L (c + i * st) ||| 1 <<< (nI s &&& 31))
def lyP (s c st : Nat) (L : Nat → Int32) (lg : Nat) : Nat → Int32 := itL (lyF s c st) L lg
theorem lyP_at (s c st : Nat) (L : Nat → Int32) : ∀ (lg q : Nat), lyP s c st L lg q = if inC c st lg q = true then L q ||| 1 <<< (nI s &&& 31) else L q
  | 0, q => by rw [if_neg (by simp [inC])]; rfl
  | lg + 1, q => by
    show lyF s c st lg (lyP s c st L lg) q = _
    unfold lyF
    by_cases h : q = c + lg * st
    · rw [h, pk_us, lyP_at s c st L lg, if_pos (c := inC c st (lg + 1) (c + lg * st) = true) (by simp [inC])]
      split
      · apply b_ext; intro i hi; rw [b_or, b_or]; simp
      · rfl
    · rw [pk_un h, lyP_at s c st L lg q]
      simp only [inC, decide_eq_false h, Bool.or_false]
theorem la_11 (I : Nat → Int32) (A : Nat → Nat → Int32) (s : Nat) (k w v : Int32) : laA I A s k w v 11 = upd (A 11) s (cvS w) := rfl
theorem la_7 (I : Nat → Int32) (A : Nat → Nat → Int32) (s : Nat) (k w v : Int32) : laA I A s k w v 7 = upd (A 7) s k := rfl
theorem la_8 (I : Nat → Int32) (A : Nat → Nat → Int32) (s : Nat) (k w v : Int32) : laA I A s k w v 8 = upd (A 8) s w := rfl
theorem la_9 (I : Nat → Int32) (A : Nat → Nat → Int32) (s : Nat) (k w v : Int32) : laA I A s k w v 9 = upd (A 9) s v := rfl
theorem la_10 (I : Nat → Int32) (A : Nat → Nat → Int32) (s : Nat) (k w v : Int32) : laA I A s k w v 10 = upd (A 10) s (I 13) := rfl
theorem laI_12 (I : Nat → Int32) (s : Nat) : laI I s 12 = I 12 ||| 1 <<< (nI s &&& 31) := rfl
theorem up_s {α : Type} {f : Nat → α} {k : Nat} {v : α} : va_up f k v k = v := if_pos rfl
theorem up_n {α : Type} {f : Nat → α} {k j : Nat} {v : α} (h : ¬ j = k) : va_up f k v j = f j := if_neg h
theorem stK.more {z : Option Nat} {k n : Int32} {u : va_W} (h : stK tl z k n) : stK (tl ++ u) z k n := by
  obtain ⟨a, q, h1, h2⟩ := h
  exact ⟨a, q, h1, z_appL q _ h2⟩
theorem NtR.more (h : NtR I A x_al x_ho x_gr x_wh x_la x_ly x_kn tl) (u : va_W) : NtR I A x_al x_ho x_gr x_wh x_la x_ly x_kn (tl ++ u) :=
  ⟨h.al, h.ho, h.gr, h.s16, fun s hs => ⟨h.wh hs, h.la hs, h.k0 hs, fun hb => ⟨(h.k1 hs hb).more, h.kd hs hb, h.nu hs hb, h.ok hs hb, h.cv hs hb⟩⟩, fun _ hc => h.ly hc⟩
theorem NtR.put (h : NtR I A x_al x_ho x_gr x_wh x_la x_ly x_kn tl) {s c st lg a : Nat} {k w v : Int32} (hs : s < 16) (hfree : bt (I 12) s = false) (hk : stK tl (some a) k v) (hkd : kOk k) (hv : 0 ≤ v.toInt ∧ v.toInt ≤ 9) (hw : okW w = true) (hW : WP w c st lg) :
    NtR (laI I s) (laA I A s k w v) (x_al ||| 1 <<< (nI s &&& 31)) x_ho x_gr (upd x_wh s w) (upd x_la s x_ho) (lyP s c st x_ly lg) (va_up x_kn s (some a)) tl := by
  refine ⟨by rw [h.al, laI_12], h.ho, h.gr, ?_, fun t ht => ?_, fun q hq => ?_⟩
  · rw [laI_12]; exact h.s16.or (S16.bit hs)
  · rw [laI_12, b_or, b_bit (by omega) (by omega), la_7, la_8, la_9, la_10, la_11]
    by_cases e : t = s
    · subst e
      simp only [pk_us, up_s]
      refine ⟨trivial, h.ho, ?_, fun _ => ⟨hk, hkd, hv, hw, trivial⟩⟩
      intro hh; simp at hh
    · simp only [pk_un e, up_n e]
      rw [decide_eq_false e, Bool.or_false]
      exact ⟨h.wh ht, h.la ht, h.k0 ht, fun hb => ⟨h.k1 ht hb, h.kd ht hb, h.nu ht hb, h.ok ht hb, h.cv ht hb⟩⟩
  · rw [lyP_at, laI_12, h.ly hq]
    apply b_ext
    intro i hi
    rw [at_bt hq hi, la_11]
    by_cases e : i = s
    · subst e
      rw [pk_us, cv_bt hW (by omega), b_or, b_bit (by omega) (by omega), hfree, decide_eq_true rfl, decide_eq_true hs]
      by_cases hc : inC c st lg q = true
      · rw [if_pos hc, b_or, b_bit (by omega) (by omega), hc]; simp
      · rw [if_neg hc, at_bt hq hi, hfree]
        cases hz : inC c st lg q
        · simp
        · exact absurd hz hc
    · rw [pk_un e, b_or, b_bit (by omega) hi, decide_eq_false e, Bool.or_false]
      by_cases hc : inC c st lg q = true
      · rw [if_pos hc, b_or, b_bit (by omega) hi, decide_eq_false e, Bool.or_false, at_bt hq hi]
      · rw [if_neg hc, at_bt hq hi]
/-! strips fewer -/
def dpF (bits : Int32) (k : Nat) (f : Nat → Option Nat) : Nat → Option Nat := if bits >>> (nI k &&& 31) &&& 1 = 0 then f else va_up f k none
def dpL (bits : Int32) (f : Nat → Option Nat) (n : Nat) : Nat → Option Nat := itL (dpF bits) f n
def ldF (bits : Int32) (k : Nat) (f : Nat → Int32) : Nat → Int32 := upd f k (f k &&& (bits ^^^ (-1)))
def ldL (bits : Int32) (f : Nat → Int32) (n : Nat) : Nat → Int32 := itL (ldF bits) f n
theorem dpL_at (bits : Int32) (f : Nat → Option Nat) (q : Nat) : ∀ n, n ≤ 32 → dpL bits f n q = if q < n ∧ bt bits q = true then none else f q
  | 0, _ => by rw [if_neg (by omega)]; rfl
  | n + 1, hn => by
    show dpF bits n (dpL bits f n) q = _
    unfold dpF
    have ih := dpL_at bits f q n (by omega)
    by_cases hb : bt bits n = true
    · rw [if_neg (by rw [sb0 (by omega), hb]; decide)]
      by_cases h : q = n
      · subst h; rw [up_s, if_pos ⟨by omega, hb⟩]
      · rw [up_n h, ih]
        by_cases h2 : q < n ∧ bt bits q = true
        · rw [if_pos h2, if_pos ⟨by omega, h2.2⟩]
        · rw [if_neg h2, if_neg (fun hh => h2 ⟨by omega, hh.2⟩)]
    · rw [if_pos ((sb0 (by omega)).mpr (by simpa using hb)), ih]
      by_cases h : q = n
      · subst h; rw [if_neg (by omega), if_neg (fun hh => hb hh.2)]
      · by_cases h2 : q < n ∧ bt bits q = true
        · rw [if_pos h2, if_pos ⟨by omega, h2.2⟩]
        · rw [if_neg h2, if_neg (fun hh => h2 ⟨by omega, hh.2⟩)]
theorem ldL_at (bits : Int32) (f : Nat → Int32) (q : Nat) : ∀ n, ldL bits f n q = if q < n then f q &&& (bits ^^^ (-1)) else f q
  | 0 => by rw [if_neg (by omega)]; rfl
  | n + 1 => by
    show ldF bits n (ldL bits f n) q = _
    unfold ldF
    by_cases h : q = n
    · subst h; rw [pk_us, ldL_at bits f q q, if_neg (by omega), if_pos (by omega)]
    · rw [pk_un h, ldL_at bits f q n]
      by_cases h2 : q < n
      · rw [if_pos h2, if_pos (by omega)]
      · rw [if_neg h2, if_neg (by omega)]
def drI (I : Nat → Int32) (bits : Int32) : Nat → Int32 := upd I 12 (I 12 &&& (bits ^^^ (-1)))
theorem NtR.drop (h : NtR I A x_al x_ho x_gr x_wh x_la x_ly x_kn tl) (bits : Int32) : NtR (drI I bits) A (x_al &&& (bits ^^^ (-1))) x_ho x_gr x_wh x_la (ldL bits x_ly 25) (dpL bits x_kn 16) tl := by
  have e12 : drI I bits 12 = I 12 &&& (bits ^^^ (-1)) := rfl
  refine ⟨by rw [h.al, e12], h.ho, h.gr, by rw [e12]; exact h.s16.and, fun t ht => ?_, fun q hq => ?_⟩
  · rw [e12, b_and, b_not _ (by omega), dpL_at bits x_kn t 16 (by decide)]
    refine ⟨h.wh ht, h.la ht, fun hb => ?_, fun hb => ?_⟩
    · by_cases h2 : bt bits t = true
      · rw [if_pos ⟨ht, h2⟩]
      · rw [if_neg (fun hh => h2 hh.2)]
        cases h3 : bt bits t
        · rw [h3] at hb; exact h.k0 ht (by simpa using hb)
        · exact absurd h3 h2
    · rw [Bool.and_eq_true] at hb
      have h2 : ¬ bt bits t = true := by intro hh; rw [hh] at hb; exact absurd hb.2 (by decide)
      rw [if_neg (fun hh => h2 hh.2)]
      exact ⟨h.k1 ht hb.1, h.kd ht hb.1, h.nu ht hb.1, h.ok ht hb.1, h.cv ht hb.1⟩
  · rw [ldL_at, if_pos hq, h.ly hq, e12]
    apply b_ext
    intro i hi
    rw [b_and, at_bt hq hi, at_bt hq hi, b_and]
    cases bt (bits ^^^ (-1)) i <;> simp
end NT
