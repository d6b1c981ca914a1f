/-! A TEXT: its tokens and its grammar, as pure functions of its bytes B 0 .. B (n - 1) (0 .. 255) -/
def isLt (b : Int32) : Bool := decide (97 ≤ b.toInt) && decide (b.toInt ≤ 122)
def isDg (b : Int32) : Bool := decide (48 ≤ b.toInt) && decide (b.toInt ≤ 57)
def isBl (b : Int32) : Bool := decide (b = 32) || decide (b = 10)
def isSg (b : Int32) : Bool := decide (b = 40) || (decide (b = 41) || (decide (b = 59) || (decide (b = 43) || (decide (b = 45) || (decide (b = 42) || (decide (b = 60) || decide (b = 61)))))))
/-- as far as P holds, from p on -/
def runE (P : Int32 → Bool) (B : Nat → Int32) (n : Nat) : Nat → Nat → Nat
  | 0, p => p
  | f + 1, p => if p < n ∧ P (B p) = true then runE P B n f (p + 1) else p
def enS (P : Int32 → Bool) (B : Nat → Int32) (n p : Nat) : Nat := runE P B n (n - p) p
theorem runE_ge (P : Int32 → Bool) (B : Nat → Int32) (n : Nat) : ∀ f p, p ≤ runE P B n f p ∧ (p ≤ n → runE P B n f p ≤ n)
  | 0, p => ⟨Nat.le_refl _, fun h => h⟩
  | f + 1, p => by
    have h := runE_ge P B n f (p + 1)
    unfold runE
    split
    · exact ⟨by omega, fun _ => h.2 (by omega)⟩
    · exact ⟨Nat.le_refl _, fun h => h⟩
theorem runE_in {P : Int32 → Bool} {B : Nat → Int32} {n : Nat} : ∀ {f p i}, p ≤ i → i < runE P B n f p → P (B i) = true
  | 0, p, i, h1, h2 => absurd h2 (by unfold runE; omega)
  | f + 1, p, i, h1, h2 => by
    unfold runE at h2
    split at h2
    · rename_i h3
      by_cases he : i = p
      · rw [he]; exact h3.2
      · exact runE_in (f := f) (p := p + 1) (by omega) h2
    · omega
/-- where it stops, P fails, or the text ends -/
theorem enS_step {P : Int32 → Bool} {B : Nat → Int32} {n p : Nat} : enS P B n p = if p < n ∧ P (B p) = true then enS P B n (p + 1) else p := by
  unfold enS
  by_cases h : p < n
  · rw [show n - p = (n - (p + 1)) + 1 by omega, runE]
  · rw [if_neg (fun hh => h hh.1), show n - p = 0 by omega, runE]
theorem enS_ge (P : Int32 → Bool) (B : Nat → Int32) (n p : Nat) : p ≤ enS P B n p := (runE_ge P B n _ p).1
theorem enS_le (P : Int32 → Bool) (B : Nat → Int32) {n p : Nat} (h : p ≤ n) : enS P B n p ≤ n := (runE_ge P B n _ p).2 h
/-- a token's start, its kind (0 the end, 1 a word, 2 a number, 3 a sign, 4 a byte that begins none), its end -/
def stL (B : Nat → Int32) (n p : Nat) : Nat := enS isBl B n p
def kdB (B : Nat → Int32) (n s : Nat) : Nat := if n ≤ s then 0 else if isLt (B s) = true then 1 else if isDg (B s) = true then 2 else if isSg (B s) = true then 3 else 4
def kdL (B : Nat → Int32) (n p : Nat) : Nat := kdB B n (stL B n p)
def nxL (B : Nat → Int32) (n p : Nat) : Nat := if kdL B n p = 1 then enS isLt B n (stL B n p) else if kdL B n p = 2 then enS isDg B n (stL B n p) else if kdL B n p = 3 then stL B n p + 1 else stL B n p
def wlS (B : Nat → Int32) (s e : Nat) : List Int32 := (List.range (e - s)).map (fun i => B (s + i))
/-- a word: which token, and of a NAME which -/
def wdT (l : List Int32) : Int32 × Int32 := if l = [120] then (3, -1) else if l = [121] then (3, -2) else if l = [99, 114, 111, 115, 115] then (3, -3) else if l = [108, 111, 110, 103] then (3, -4) else if l = [97, 103, 101] then (3, -5) else if l = [115, 116, 114, 105, 112, 115] then (3, -6) else if l = [114, 117, 98] then (4, 0) else if l = [110, 101, 120, 116] then (5, 0) else if l = [116, 97, 107, 101] then (6, 0) else if l = [111, 114] then (7, 0) else if l = [97, 110, 100] then (8, 0) else if l = [110, 111, 116] then (9, 0) else (1, 0)
def nvS (B : Nat → Int32) (s : Nat) : Nat → Nat
  | 0 => 0
  | k + 1 => 10 * nvS B s k + ((B (s + k)).toInt - 48).toNat
def tkL (B : Nat → Int32) (n p : Nat) : Int32 := if kdL B n p = 0 then 0 else if kdL B n p = 1 then (wdT (wlS B (stL B n p) (nxL B n p))).1 else if kdL B n p = 2 then (if 4 < nxL B n p - stL B n p then 1 else 2) else if kdL B n p = 3 then B (stL B n p) else 1
def vlL (B : Nat → Int32) (n p : Nat) : Int32 := if kdL B n p = 1 then (wdT (wlS B (stL B n p) (nxL B n p))).2 else nI (nvS B (stL B n p) (nxL B n p - stL B n p))
theorem stL_ge (B : Nat → Int32) (n p : Nat) : p ≤ stL B n p := enS_ge _ _ _ _
theorem stL_le (B : Nat → Int32) {n p : Nat} (h : p ≤ n) : stL B n p ≤ n := enS_le _ _ h
theorem kd_lt {B : Nat → Int32} {n p : Nat} (h : ¬ kdL B n p = 0) : stL B n p < n := by
  unfold kdL kdB at h
  rcases Nat.lt_or_ge (stL B n p) n with h1 | h1
  · exact h1
  · rw [if_pos h1] at h; exact absurd rfl h
theorem nx_le (B : Nat → Int32) {n p : Nat} (h : p ≤ n) : nxL B n p ≤ n := by
  have h1 := stL_le B h
  by_cases h0 : kdL B n p = 0
  · unfold nxL; rw [h0]; exact h1
  · have h2 := kd_lt h0
    unfold nxL
    split
    · exact enS_le _ _ h1
    · split
      · exact enS_le _ _ h1
      · split <;> omega
/-- a token that can stand somewhere takes at least one byte -/
theorem nx_gt {B : Nat → Int32} {n p : Nat} (h0 : ¬ tkL B n p = 0) (h1 : ¬ tkL B n p = 1) : stL B n p < nxL B n p := by
  have hk0 : ¬ kdL B n p = 0 := fun h => h0 (by unfold tkL; rw [if_pos h])
  have hl := kd_lt hk0
  by_cases k1 : kdL B n p = 1
  · have hb : isLt (B (stL B n p)) = true := by
      unfold kdL kdB at k1
      rw [if_neg (by omega)] at k1
      by_cases hb : isLt (B (stL B n p)) = true
      · exact hb
      · rw [if_neg hb] at k1; split at k1 <;> (try split at k1) <;> exact absurd k1 (by decide)
    unfold nxL; rw [if_pos k1, enS_step, if_pos ⟨hl, hb⟩]
    have := enS_ge isLt B n (stL B n p + 1); omega
  · by_cases k2 : kdL B n p = 2
    · have hb : isDg (B (stL B n p)) = true := by
        unfold kdL kdB at k2
        rw [if_neg (by omega)] at k2
        split at k2
        · exact absurd k2 (by decide)
        · split at k2
          · assumption
          · split at k2 <;> exact absurd k2 (by decide)
      unfold nxL; rw [if_neg k1, if_pos k2, enS_step, if_pos ⟨hl, hb⟩]
      have := enS_ge isDg B n (stL B n p + 1); omega
    · by_cases k3 : kdL B n p = 3
      · unfold nxL; rw [if_neg k1, if_neg k2, if_pos k3]; omega
      · exact absurd (by unfold tkL; rw [if_neg hk0, if_neg k1, if_neg k2, if_neg k3]) h1
/-! the grammar: a part's end, as a FAULT's place, or code (operands ahead of what works on them) and where the next token is looked for -/
abbrev PR : Type := Nat ⊕ (List Int32 × Nat)
section GRAMMAR
variable (B : Nat → Int32) (n : Nat)
def lpS (op : Int32 → Int32) (sub : Nat → PR) : Nat → List Int32 → Nat → PR
  | 0, c, q => .inr (c, q)
  | f + 1, c, q => if op (tkL B n q) = 0 then .inr (c, q) else match sub (nxL B n q) with
    | .inl z => .inl z
    | .inr (c2, q2) => lpS op sub f (c ++ c2 ++ [op (tkL B n q)]) q2
def thL (sub : Nat → PR) (op : Int32 → Int32) (p : Nat) : PR := match sub p with
  | .inl z => .inl z
  | .inr (c, q) => lpS B n op sub (n + 1) c q
def opT (t : Int32) : Int32 := if t = 42 then -14 else 0
def opA (t : Int32) : Int32 := if t = 43 then -12 else if t = 45 then -13 else 0
def opN (t : Int32) : Int32 := if t = 8 then -8 else 0
def opO (t : Int32) : Int32 := if t = 7 then -7 else 0
def opC (t : Int32) : Int32 := if t = 60 then -10 else if t = 61 then -11 else 0
def onP (can : Bool) (ei on : Nat → PR) (p : Nat) : PR :=
  if tkL B n p = 2 ∨ tkL B n p = 3 then .inr ([vlL B n p], nxL B n p)
  else if tkL B n p = 45 ∧ can = true then (match on (nxL B n p) with
    | .inl z => .inl z
    | .inr (c, q) => .inr (c ++ [-15], q))
  else if tkL B n p = 40 ∧ can = true then (match ei (nxL B n p) with
    | .inl z => .inl z
    | .inr (c, q) => if tkL B n q = 41 then .inr (c, nxL B n q) else .inl (stL B n q))
  else .inl (stL B n p)
def cmP (su : Nat → PR) (p : Nat) : PR := match su p with
  | .inl z => .inl z
  | .inr (c, q) => if opC (tkL B n q) = 0 then .inr (c, q) else match su (nxL B n q) with
    | .inl z => .inl z
    | .inr (c2, q2) => .inr (c ++ c2 ++ [opC (tkL B n q)], q2)
def dnP (can : Bool) (dn su : Nat → PR) (p : Nat) : PR :=
  if tkL B n p = 9 ∧ can = true then (match dn (nxL B n p) with
    | .inl z => .inl z
    | .inr (c, q) => .inr (c ++ [-9], q))
  else cmP B n su p
/-- with so many that may still be opened: one, denied, either -/
def lvP : Nat → (Nat → PR) × (Nat → PR) × (Nat → PR)
  | 0 =>
    let on := onP B n false (fun _ => .inl 0) (fun _ => .inl 0)
    let dn := dnP B n false (fun _ => .inl 0) (thL B n (thL B n on opT) opA)
    (on, dn, thL B n (thL B n dn opN) opO)
  | o + 1 =>
    let on := onP B n true (lvP o).2.2 (lvP o).1
    let dn := dnP B n true (lvP o).2.1 (thL B n (thL B n on opT) opA)
    (on, dn, thL B n (thL B n dn opN) opO)
def oneP (o : Nat) : Nat → PR := (lvP B n o).1
def terP (o : Nat) : Nat → PR := thL B n (oneP B n o) opT
def sumP (o : Nat) : Nat → PR := thL B n (terP B n o) opA
def denP (o : Nat) : Nat → PR := (lvP B n o).2.1
def botP (o : Nat) : Nat → PR := thL B n (denP B n o) opN
def eitP (o : Nat) : Nat → PR := (lvP B n o).2.2
def parP (key : Int32) (p : Nat) : PR :=
  if tkL B n p = key then (match eitP B n 5 (nxL B n p) with
    | .inl z => .inl z
    | .inr (c, q) => if tkL B n q = 59 then .inr (c, nxL B n q) else .inl (stL B n q))
  else .inl (stL B n p)
/-- a TEXT: its FAULT's place, or the code of its three parts -/
def txP : Nat ⊕ (List Int32 × List Int32 × List Int32) := match parP B n 4 0 with
  | .inl z => .inl z
  | .inr (c0, q0) => match parP B n 5 q0 with
    | .inl z => .inl z
    | .inr (c1, q1) => match parP B n 6 q1 with
      | .inl z => .inl z
      | .inr (c2, q2) => if tkL B n q2 = 0 then .inr (c0, c1, c2) else .inl (stL B n q2)
end GRAMMAR
theorem eitP_eq (B : Nat → Int32) (n o : Nat) : eitP B n o = thL B n (botP B n o) opO := by cases o <;> rfl
theorem denP_0 (B : Nat → Int32) (n : Nat) : denP B n 0 = dnP B n false (fun _ => .inl 0) (sumP B n 0) := rfl
theorem denP_s (B : Nat → Int32) (n o : Nat) : denP B n (o + 1) = dnP B n true (denP B n o) (sumP B n (o + 1)) := rfl
theorem oneP_0 (B : Nat → Int32) (n : Nat) : oneP B n 0 = onP B n false (fun _ => .inl 0) (fun _ => .inl 0) := rfl
theorem oneP_s (B : Nat → Int32) (n o : Nat) : oneP B n (o + 1) = onP B n true (eitP B n o) (oneP B n o) := rfl
/-! what code comes to -/
def ex2 (s a z : Int32) : Int32 := if s = -7 then b01 (decide (¬ a = 0) || decide (¬ z = 0)) else if s = -8 then b01 (decide (¬ a = 0) && decide (¬ z = 0)) else if s = -10 then b01 (decide (a < z)) else if s = -11 then b01 (decide (a = z)) else if s = -12 then a + z else if s = -13 then a - z else a * z
def ex1 (s a : Int32) : Int32 := if s = -9 then b01 (decide (a = 0)) else -a
def exI (nm : Nat → Int32) (stk : List Int32) (s : Int32) : List Int32 :=
  if -6 ≤ s.toInt then (if 0 ≤ s.toInt then s else nm (-1 - s.toInt).toNat) :: stk
  else if s = -9 ∨ s = -15 then (match stk with | a :: r => ex1 s a :: r | [] => [])
  else (match stk with | z :: a :: r => ex2 s a z :: r | r => r)
def exL (nm : Nat → Int32) (c : List Int32) (stk : List Int32) : List Int32 := c.foldl (exI nm) stk
theorem exL_app (nm : Nat → Int32) (c d : List Int32) (stk : List Int32) : exL nm (c ++ d) stk = exL nm d (exL nm c stk) := List.foldl_append
theorem exL_1 (nm : Nat → Int32) (s : Int32) (stk : List Int32) : exL nm [s] stk = exI nm stk s := rfl
/-- code of a whole expression: it comes to x -/
def Vl (nm : Nat → Int32) (c : List Int32) (x : Int32) : Prop := ∀ stk, exL nm c stk = x :: stk
theorem Vl.two {nm : Nat → Int32} {c d : List Int32} {x y s : Int32} (h1 : Vl nm c x) (h2 : Vl nm d y) (hs : s = -7 ∨ s = -8 ∨ s = -10 ∨ s = -11 ∨ s = -12 ∨ s = -13 ∨ s = -14) : Vl nm (c ++ d ++ [s]) (ex2 s x y) := by
  intro stk
  rw [exL_app, exL_app, h1, h2, exL_1]
  rcases hs with rfl | rfl | rfl | rfl | rfl | rfl | rfl <;> rfl
theorem Vl.one {nm : Nat → Int32} {c : List Int32} {x s : Int32} (h1 : Vl nm c x) (hs : s = -9 ∨ s = -15) : Vl nm (c ++ [s]) (ex1 s x) := by
  intro stk
  rw [exL_app, h1, exL_1]
  rcases hs with rfl | rfl <;> rfl
