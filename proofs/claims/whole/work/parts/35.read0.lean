/-! THE READER of class X: what its state says of a text's bytes -/
def sb (b : Int32) : Int32 := b.toInt8.toInt32
def bOk (b : Int32) : Prop := 0 ≤ b.toInt ∧ b.toInt ≤ 255
theorem by_all {P : Int32 → Prop} (h : ∀ n, n < 256 → P (nI n)) {b : Int32} (hb : bOk b) : P b := by
  have e : b = nI b.toInt.toNat := eq_nI (by have := hb.1; omega)
  rw [e]; exact h _ (by have := hb.1; have := hb.2; omega)
theorem sb_lt {b : Int32} (hb : bOk b) : isLt (sb b) = isLt b := by_all (P := fun b => isLt (sb b) = isLt b) (by decide +kernel) hb
theorem by_dg {b : Int32} (hb : bOk b) : isDg (sb b) = isDg b := by_all (P := fun b => isDg (sb b) = isDg b) (by decide +kernel) hb
theorem sb_bl {b : Int32} (hb : bOk b) : (sb b = 32 ↔ b = 32) ∧ (sb b = 10 ↔ b = 10) := by_all (P := fun b => (sb b = 32 ↔ b = 32) ∧ (sb b = 10 ↔ b = 10)) (by decide +kernel) hb
theorem sb_255 {b : Int32} (hb : bOk b) : (((sb b) &&& 255).toUInt32 % 65536).toInt32 = b := by_all (P := fun b => (((sb b) &&& 255).toUInt32 % 65536).toInt32 = b) (by decide +kernel) hb
theorem sb_sg {b : Int32} (hb : bOk b) (h : isSg b = true) : sb b = b := by
  revert h; exact by_all (P := fun b => isSg b = true → sb b = b) (by decide +kernel) hb
theorem by_dg2 {b : Int32} (hb : bOk b) (h : isDg b = true) : sb b = b := by
  revert h; exact by_all (P := fun b => isDg b = true → sb b = b) (by decide +kernel) hb
theorem sb_ch {b : Int32} (hb : bOk b) {i k : Nat} (hi : i < 14) (hk : k < sLen.getD i 0) : sb b = chS i k ↔ b = chS i k := by
  have h1 : ∀ i, i < 14 → ∀ k, k < sLen.getD i 0 → isLt (chS i k) = true ∨ (chS i k).toInt < 100 ∧ 0 ≤ (chS i k).toInt := by decide +kernel
  have h2 : 0 ≤ (chS i k).toInt ∧ (chS i k).toInt < 128 := by
    rcases h1 i hi k hk with h | h
    · simp only [isLt, Bool.and_eq_true, decide_eq_true_eq] at h; omega
    · omega
  have h3 : sb b = b ∨ (128 ≤ b.toInt ∧ (sb b).toInt < 0) := by_all (P := fun b => sb b = b ∨ (128 ≤ b.toInt ∧ (sb b).toInt < 0)) (by decide +kernel) hb
  rcases h3 with h3 | ⟨h3, h4⟩
  · rw [h3]
  · constructor <;> intro h
    · rw [h] at h4; omega
    · rw [h] at h3; omega
/-- the tape holds the bytes -/
def Tp (B : Nat → Int32) (n : Nat) (r0 : Nat → Int32) : Prop := ∀ i, i < n → r0 i = sb (B i) ∧ bOk (B i)
theorem wl_len (B : Nat → Int32) (s e : Nat) : (wlS B s e).length = e - s := by simp [wlS]
theorem wl_get {B : Nat → Int32} {s e j : Nat} (h : j < e - s) : (wlS B s e).getD j 0 = B (s + j) := by
  rw [List.getD_eq_getElem?_getD]; simp [wlS, h]
theorem sl_by : ∀ i, i < 14 → sLen.getD i 0 = (sByt.getD i []).length := by decide +kernel
theorem wl_eq {B : Nat → Int32} {s e i : Nat} (hi : i < 14) (hl : e - s = sLen.getD i 0) (h : ∀ j, j < sLen.getD i 0 → B (s + j) = chS i j) : wlS B s e = sByt.getD i [] := by
  have hs := sl_by i hi
  refine List.ext_getElem (by rw [wl_len]; omega) (fun j h1 h2 => ?_)
  rw [wl_len] at h1
  have h3 := wl_get (B := B) h1
  rw [List.getD_eq_getElem?_getD, List.getElem?_eq_getElem (by rw [wl_len]; omega)] at h3
  have h4 := h j (by omega)
  unfold chS at h4
  rw [List.getD_eq_getElem?_getD, List.getElem?_eq_getElem h2] at h4
  exact h3.trans h4
theorem wl_nl {B : Nat → Int32} {s e i : Nat} (hi : i < 14) (hl : ¬ e - s = sLen.getD i 0) : ¬ wlS B s e = sByt.getD i [] := by
  intro h
  have h1 := wl_len B s e
  rw [h, ← sl_by i hi] at h1; omega
theorem wl_ne {B : Nat → Int32} {s e i j : Nat} (hj : j < e - s) (h : ¬ B (s + j) = chS i j) : ¬ wlS B s e = sByt.getD i [] := by
  intro h1
  have h2 := wl_get (B := B) hj
  rw [h1] at h2
  exact h h2.symm
def nmT (l : List Int32) : Int32 := if l = [120] then -1 else if l = [121] then -2 else if l = [99, 114, 111, 115, 115] then -3 else if l = [108, 111, 110, 103] then -4 else if l = [97, 103, 101] then -5 else if l = [115, 116, 114, 105, 112, 115] then -6 else 0
def keT (l : List Int32) : Int32 := if l = [114, 117, 98] then 4 else if l = [110, 101, 120, 116] then 5 else if l = [116, 97, 107, 101] then 6 else if l = [111, 114] then 7 else if l = [97, 110, 100] then 8 else if l = [110, 111, 116] then 9 else 1
theorem wdT_nk (l : List Int32) : nmT l = (wdT l).2 ∧ (if nmT l < 0 then 3 else keT l) = (wdT l).1 := by
  unfold nmT wdT keT
  by_cases q0 : l = [120]
  · rw [if_pos q0, if_pos q0]; exact ⟨rfl, rfl⟩
  rw [if_neg q0, if_neg q0]
  by_cases q1 : l = [121]
  · rw [if_pos q1, if_pos q1]; exact ⟨rfl, rfl⟩
  rw [if_neg q1, if_neg q1]
  by_cases q2 : l = [99, 114, 111, 115, 115]
  · rw [if_pos q2, if_pos q2]; exact ⟨rfl, rfl⟩
  rw [if_neg q2, if_neg q2]
  by_cases q3 : l = [108, 111, 110, 103]
  · rw [if_pos q3, if_pos q3]; exact ⟨rfl, rfl⟩
  rw [if_neg q3, if_neg q3]
  by_cases q4 : l = [97, 103, 101]
  · rw [if_pos q4, if_pos q4]; exact ⟨rfl, rfl⟩
  rw [if_neg q4, if_neg q4]
  by_cases q5 : l = [115, 116, 114, 105, 112, 115]
  · rw [if_pos q5, if_pos q5]; exact ⟨rfl, rfl⟩
  rw [if_neg q5, if_neg q5, if_neg (show ¬ (0 : Int32) < 0 by decide)]
  by_cases q6 : l = [114, 117, 98]
  · rw [if_pos q6, if_pos q6]; exact ⟨rfl, rfl⟩
  rw [if_neg q6, if_neg q6]
  by_cases q7 : l = [110, 101, 120, 116]
  · rw [if_pos q7, if_pos q7]; exact ⟨rfl, rfl⟩
  rw [if_neg q7, if_neg q7]
  by_cases q8 : l = [116, 97, 107, 101]
  · rw [if_pos q8, if_pos q8]; exact ⟨rfl, rfl⟩
  rw [if_neg q8, if_neg q8]
  by_cases q9 : l = [111, 114]
  · rw [if_pos q9, if_pos q9]; exact ⟨rfl, rfl⟩
  rw [if_neg q9, if_neg q9]
  by_cases q10 : l = [97, 110, 100]
  · rw [if_pos q10, if_pos q10]; exact ⟨rfl, rfl⟩
  rw [if_neg q10, if_neg q10]
  by_cases q11 : l = [110, 111, 116]
  · rw [if_pos q11, if_pos q11]; exact ⟨rfl, rfl⟩
  rw [if_neg q11, if_neg q11]; exact ⟨rfl, rfl⟩
/-- what a token's reading leaves: its start, its kind, its value, the place behind it -/
def Ad (B : Nat → Int32) (n p : Nat) (z4 z5 : Int32) (S : Nat → Int32) : Prop := S 1 = nI (stL B n p) ∧ S 2 = tkL B n p ∧ (tkL B n p = 2 ∨ tkL B n p = 3 → S 3 = vlL B n p) ∧ (¬ tkL B n p = 1 → S 0 = nI (nxL B n p)) ∧ S 4 = z4 ∧ S 5 = z5
def RS (B : Nat → Int32) (n p : Nat) (c : List Int32) (S t0 : Nat → Int32) : Prop := Ad B n p (-1) (nI c.length) S ∧ ∀ i, i < c.length → t0 i = c.getD i 0
def RF (z : Nat) (S : Nat → Int32) : Prop := S 2 = 1 ∧ S 4 = nI z ∧ z ≤ 160 ∧ ∃ L, L ≤ 160 ∧ S 5 = nI L
def RP (B : Nat → Int32) (n : Nat) (c : List Int32) (r : PR) (S t0 : Nat → Int32) : Prop := match r with
  | .inl z => RF z S
  | .inr (d, q) => RS B n q (c ++ d) S t0
theorem RP.bad {B : Nat → Int32} {n : Nat} {c : List Int32} {r : PR} {S t0 : Nat → Int32} {z : Nat} (hr : r = .inl z) (h : RF z S) : RP B n c r S t0 := by subst hr; exact h
theorem RP.ok {B : Nat → Int32} {n : Nat} {c c2 : List Int32} {r : PR} {S t0 : Nat → Int32} {d : List Int32} {q : Nat} (hr : r = .inr (d, q)) (h : RS B n q c2 S t0) (e : c2 = c ++ d) : RP B n c r S t0 := by subst hr; subst e; exact h
/-- posts over the reader's scratch: S changes, or S and T -/
def REx (G : GT) (x : Nat → Nat) (N : Nat → Int32) (R : Nat → Nat → Int32) (K : Nat → Nat → Option Nat) (r : Nat → Nat) (T : Nat → Nat → Int32) (tl : va_W) (F : (Nat → Int32) → Prop) : Option Value → va_W → Prop := fun v w => v = none ∧ ∃ S : Nat → Int32, w = XW G x N R K r S T tl ∧ F S
def RT (G : GT) (x : Nat → Nat) (N : Nat → Int32) (R : Nat → Nat → Int32) (K : Nat → Nat → Option Nat) (r : Nat → Nat) (T1 : Nat → Int32) (tl : va_W) (F : (Nat → Int32) → (Nat → Int32) → Prop) : Option Value → va_W → Prop := fun v w => v = none ∧ ∃ (S : Nat → Int32) (T : Nat → Nat → Int32), w = XW G x N R K r S T tl ∧ T 1 = T1 ∧ F S (T 0)
theorem RS.emit {B : Nat → Int32} {n q : Nat} {c : List Int32} {S t0 : Nat → Int32} {s : Int32} (h : RS B n q c S t0) : RS B n q (c ++ [s]) (upd S 5 (nI (c.length + 1))) (upd t0 c.length s) := by
  obtain ⟨⟨h1, h2, h3, h4, h5, h6⟩, h7⟩ := h
  refine ⟨⟨h1, h2, h3, h4, h5, by rw [List.length_append]; rfl⟩, fun i hi => ?_⟩
  rw [List.length_append, List.length_cons, List.length_nil] at hi
  show (if i = c.length then s else t0 i) = _
  by_cases e : i = c.length
  · rw [if_pos e, e, List.getD_eq_getElem?_getD, List.getElem?_append_right (Nat.le_refl _), Nat.sub_self]; rfl
  · rw [if_neg e, h7 i (by omega), List.getD_eq_getElem?_getD, List.getD_eq_getElem?_getD, List.getElem?_append_left (by omega)]
theorem dg_v {b : Int32} (h : isDg b = true) : b - 48 = nI (b.toInt - 48).toNat := by
  simp only [isDg, Bool.and_eq_true, decide_eq_true_eq] at h
  apply eq_nI
  rw [Int32.toInt_sub]
  have : (48 : Int32).toInt = 48 := by decide
  rw [this]
  have e : (b.toInt - 48).bmod (2 ^ 32) = b.toInt - 48 := Int.bmod_eq_of_le (by omega) (by omega)
  rw [e]; omega
theorem nv_i {v : Nat} {b c : Int32} (hb : isDg b = true) (e : c = b) : 10 * nI v + c - 48 = nI (10 * v + (b.toInt - 48).toNat) := by
  subst e
  rw [← nI_add, ← dg_v hb, show (10 : Int32) = nI 10 from rfl, nI_mul, Int32.sub_eq_add_neg, Int32.sub_eq_add_neg, Int32.add_assoc]
