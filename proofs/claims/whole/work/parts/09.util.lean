/-! what the walks use besides: pure answers, switches, and bits (from kit/laws/BITS, COUNTS: pasted) -/
def Pi (r0 : Int32) (w0 : va_W) : Option Value → va_W → Prop := fun v w => v = some (.int r0) ∧ w = w0
def Pl (r0 : Int64) (w0 : va_W) : Option Value → va_W → Prop := fun v w => v = some (.long r0) ∧ w = w0
def Pv (w0 : va_W) : Option Value → va_W → Prop := fun v w => v = none ∧ w = w0
theorem Pi.of {r x : Int32} {w : va_W} (h : x = r) : Pi r w (some (.int x)) w := ⟨by rw [h], rfl⟩
theorem Pl.of {r x : Int64} {w : va_W} (h : x = r) : Pl r w (some (.long x)) w := ⟨by rw [h], rfl⟩
theorem Pi.ofw {r x : Int32} {w w' : va_W} (h : x = r) (hw : w' = w) : Pi r w (some (.int x)) w' := ⟨by rw [h], hw⟩
theorem Pv.of {w w' : va_W} (h : w' = w) : Pv w none w' := ⟨rfl, h⟩
theorem z_subc (x : Int32) : x + Int32.ofInt (-1) = x - 1 := by rw [Int32.sub_eq_add_neg]; rfl
section UTIL
variable {G : GT} {μ : Mu} {R : Room} {O : OT} {cs ss pc pc' : Nat} {lv : List (Nat × Value)} {st st0 : List Value} {ws w' : va_W} {μ' : Mu} {j n d mc ms : Nat}
theorem z_callSp {av : List Value} {r : Int32} (hw : CaS μ.1.cls j μ' n) (hc : Ct G μ' d mc ms av ws (Pi r w')) (hst : st0 = av.reverse ++ st) (hn : av.length = n) (h8 : (st.map fun v => v.category).sum ≤ 8) (hR : rmok d mc ms cs ss R = true) (hd : Dc μ pc (.invokestatic j) 3 pc') (k : Tr G μ R O (cs + mc) (ss + ms) pc' lv (.int r :: st) w') : Tr G μ R O cs ss pc lv st0 ws := z_callS hw hc hst hn h8 hR hd (fun v w h => by obtain ⟨rfl, rfl⟩ := h; exact k)
theorem z_callSpl {av : List Value} {r : Int64} (hw : CaS μ.1.cls j μ' n) (hc : Ct G μ' d mc ms av ws (Pl r w')) (hst : st0 = av.reverse ++ st) (hn : av.length = n) (h8 : (st.map fun v => v.category).sum ≤ 8) (hR : rmok d mc ms cs ss R = true) (hd : Dc μ pc (.invokestatic j) 3 pc') (k : Tr G μ R O (cs + mc) (ss + ms) pc' lv (.long r :: st) w') : Tr G μ R O cs ss pc lv st0 ws := z_callS hw hc hst hn h8 hR hd (fun v w h => by obtain ⟨rfl, rfl⟩ := h; exact k)
theorem z_callVp {C1 : String} {a ci : Nat} {fs As : List Value} {r : Int32} (q0 : Nat) (hw : CaV μ.1.cls j C1 μ' n) (hc : Ct G μ' d mc ms (.ref a :: As) ws (Pi r w')) (he : ws[q0]? = some (a, .inr (ci, fs))) (hci : (vwCl[ci]?).map (fun q => q.1) = some C1) (hst : st0 = As.reverse ++ .ref a :: st) (hn : As.length = n) (h8 : (st.map fun v => v.category).sum ≤ 8) (hR : rmok d mc ms cs ss R = true) (hd : Dc μ pc (.invokevirtual j) 3 pc') (k : Tr G μ R O (cs + mc) (ss + ms) pc' lv (.int r :: st) w') : Tr G μ R O cs ss pc lv st0 ws := z_callV q0 hw he hci hc hst hn h8 hR hd (fun v w h => by obtain ⟨rfl, rfl⟩ := h; exact k)
theorem z_callVpl {C1 : String} {a ci : Nat} {fs As : List Value} {r : Int64} (q0 : Nat) (hw : CaV μ.1.cls j C1 μ' n) (hc : Ct G μ' d mc ms (.ref a :: As) ws (Pl r w')) (he : ws[q0]? = some (a, .inr (ci, fs))) (hci : (vwCl[ci]?).map (fun q => q.1) = some C1) (hst : st0 = As.reverse ++ .ref a :: st) (hn : As.length = n) (h8 : (st.map fun v => v.category).sum ≤ 8) (hR : rmok d mc ms cs ss R = true) (hd : Dc μ pc (.invokevirtual j) 3 pc') (k : Tr G μ R O (cs + mc) (ss + ms) pc' lv (.long r :: st) w') : Tr G μ R O cs ss pc lv st0 ws := z_callV q0 hw he hci hc hst hn h8 hR hd (fun v w h => by obtain ⟨rfl, rfl⟩ := h; exact k)
theorem z_callVv {C1 : String} {a ci : Nat} {fs As : List Value} (q0 : Nat) (hw : CaV μ.1.cls j C1 μ' n) (hc : Ct G μ' d mc ms (.ref a :: As) ws (Pv w')) (he : ws[q0]? = some (a, .inr (ci, fs))) (hci : (vwCl[ci]?).map (fun q => q.1) = some C1) (hst : st0 = As.reverse ++ .ref a :: st) (hn : As.length = n) (h8 : (st.map fun v => v.category).sum ≤ 8) (hR : rmok d mc ms cs ss R = true) (hd : Dc μ pc (.invokevirtual j) 3 pc') (k : Tr G μ R O (cs + mc) (ss + ms) pc' lv st w') : Tr G μ R O cs ss pc lv st0 ws := z_callV q0 hw he hci hc hst hn h8 hR hd (fun v w h => by obtain ⟨rfl, rfl⟩ := h; exact k)
/-- a call that changes the world in a told way, up to something unknown -/
theorem z_callVg {C1 : String} {a ci : Nat} {fs As : List Value} {E' : Option Value → va_W → Prop} (q0 : Nat) (hw : CaV μ.1.cls j C1 μ' n) (hc : Ct G μ' d mc ms (.ref a :: As) ws E') (he : ws[q0]? = some (a, .inr (ci, fs))) (hci : (vwCl[ci]?).map (fun q => q.1) = some C1) (hst : st0 = As.reverse ++ .ref a :: st) (hn : As.length = n) (h8 : (st.map fun v => v.category).sum ≤ 8) (hR : rmok d mc ms cs ss R = true) (hd : Dc μ pc (.invokevirtual j) 3 pc') (k : ∀ v w, E' v w → Tr G μ R O (cs + mc) (ss + ms) pc' lv (v.toList ++ st) w) : Tr G μ R O cs ss pc lv st0 ws := z_callV q0 hw he hci hc hst hn h8 hR hd k
theorem z_perm {lv' : List (Nat × Value)} (ks : List Nat) (h : lv_pick lv ks = lv') (k : Tr G μ R O cs ss pc lv' st ws) : Tr G μ R O cs ss pc lv st ws := fun p l ev s m args below meth c A H locs ls C hl hP hD hS => k p l ev s m args below meth c A H locs ls C (lv_sub hl ks h) hP hD hS
theorem z_swIn {dflt lo hi off v : Int} {offs : Array Int} {len tgt : Nat} {x : Int32} (hd : Dc μ pc (.tableswitch dflt lo hi offs) len pc') (hx : x.toInt = v) (h1 : ¬ v < lo) (h2 : ¬ hi < v) (ho : offs[(v - lo).toNat]? = some off) (ht : (pc : Int) + off = (tgt : Int)) (k : Tr G μ R O cs ss tgt lv st ws) : Tr G μ R O cs ss pc lv (.int x :: st) ws := fun p l ev s m args below meth c A H locs ls C hl hP hD hS => by
  obtain ⟨hx0, hb, -⟩ := id C
  subst hx
  exact lv_tableIn hx0 hb hd.1 h1 h2 ho ht (k p l ev s m args below meth c A H locs ls C hl hP hD hS)
theorem z_swOut {dflt lo hi : Int} {offs : Array Int} {len tgt : Nat} {x : Int32} (hd : Dc μ pc (.tableswitch dflt lo hi offs) len pc') (h : x.toInt < lo ∨ hi < x.toInt) (ht : (pc : Int) + dflt = (tgt : Int)) (k : Tr G μ R O cs ss tgt lv st ws) : Tr G μ R O cs ss pc lv (.int x :: st) ws := fun p l ev s m args below meth c A H locs ls C hl hP hD hS => by
  obtain ⟨hx0, hb, -⟩ := id C
  exact lv_tableOut hx0 hb hd.1 h ht (k p l ev s m args below meth c A H locs ls C hl hP hD hS)
end UTIL
/-- steps 0 .. k - 1 -/
def itL {α : Type} (f : Nat → α → α) (s : α) : Nat → α
  | 0 => s
  | k + 1 => f k (itL f s k)
theorem itL_cong {α : Type} {f g : Nat → α → α} {s : α} : ∀ {n : Nat}, (∀ k a, k < n → f k a = g k a) → itL f s n = itL g s n
  | 0, _ => rfl
  | n + 1, h => by rw [itL, itL, itL_cong (fun k a hk => h k a (by omega)), h n _ (by omega)]
theorem itL_inv {α : Type} {f : Nat → α → α} {s : α} (I : Nat → α → Prop) (h0 : I 0 s) (hs : ∀ k a, I k a → I (k + 1) (f k a)) : ∀ n, I n (itL f s n)
  | 0 => h0
  | n + 1 => hs n _ (itL_inv I h0 hs n)
def bt (x : Int32) (i : Nat) : Bool := x.toBitVec.getLsbD i
theorem b_ext {x y : Int32} (h : ∀ i, i < 32 → bt x i = bt y i) : x = y := Int32.toBitVec_inj.mp (BitVec.eq_of_getLsbD_eq (fun i hi => h i hi))
theorem b_or (x y : Int32) (i : Nat) : bt (x ||| y) i = (bt x i || bt y i) := by unfold bt; rw [Int32.toBitVec_or, BitVec.getLsbD_or]
theorem b_and (x y : Int32) (i : Nat) : bt (x &&& y) i = (bt x i && bt y i) := by unfold bt; rw [Int32.toBitVec_and, BitVec.getLsbD_and]
theorem b_xor (x y : Int32) (i : Nat) : bt (x ^^^ y) i = (bt x i ^^ bt y i) := by unfold bt; rw [Int32.toBitVec_xor, BitVec.getLsbD_xor]
theorem b_big {x : Int32} {i : Nat} (h : 32 ≤ i) : bt x i = false := BitVec.getLsbD_of_ge _ _ h
theorem b_255 (i : Nat) : bt 255 i = decide (i < 8) := by
  rcases Nat.lt_or_ge i 32 with h | h
  · exact (by decide +kernel : ∀ i, i < 32 → bt 255 i = decide (i < 8)) i h
  · rw [b_big h, decide_eq_false (by omega)]
theorem b_65535 (i : Nat) : bt 65535 i = decide (i < 16) := by
  rcases Nat.lt_or_ge i 32 with h | h
  · exact (by decide +kernel : ∀ i, i < 32 → bt 65535 i = decide (i < 16)) i h
  · rw [b_big h, decide_eq_false (by omega)]
theorem b_m1 : ∀ i, i < 32 → bt (-1) i = true := by decide +kernel
theorem b_0 (i : Nat) : bt 0 i = false := BitVec.getLsbD_zero
theorem s_l : ∀ n, n < 32 → ((nI n &&& 31).toBitVec.smod 32).toNat = n := by decide +kernel
theorem s_u : ∀ n, n < 32 → (((nI n).toUInt32 &&& Int32.toUInt32 31).toBitVec % 32).toNat = n := by decide +kernel
theorem b_shl (n : Nat) (hn : n < 32) (x : Int32) {i : Nat} (hi : i < 32) : bt (x <<< (nI n &&& 31)) i = (decide (n ≤ i) && bt x (i - n)) := by
  unfold bt
  rw [Int32.toBitVec_shiftLeft]
  show (x.toBitVec <<< ((nI n &&& 31).toBitVec.smod 32).toNat).getLsbD i = _
  rw [s_l n hn, BitVec.getLsbD_shiftLeft]
  rcases Nat.lt_or_ge i n with h | h
  · simp [h, Nat.not_le.mpr h]
  · simp [hi, h, Nat.not_lt.mpr h]
theorem b_ushr (n : Nat) (hn : n < 32) (x : Int32) (i : Nat) : bt ((x.toUInt32 >>> ((nI n).toUInt32 &&& Int32.toUInt32 31)).toInt32) i = bt x (n + i) := by
  show (x.toUInt32 >>> ((nI n).toUInt32 &&& Int32.toUInt32 31)).toBitVec.getLsbD i = x.toUInt32.toBitVec.getLsbD (n + i)
  rw [UInt32.toBitVec_shiftRight]
  show (x.toUInt32.toBitVec >>> (((nI n).toUInt32 &&& Int32.toUInt32 31).toBitVec % 32).toNat).getLsbD i = _
  rw [s_u n hn, BitVec.getLsbD_ushiftRight]
theorem b_sshr (n : Nat) (hn : n < 32) (x : Int32) {i : Nat} (hi : i < 32) : bt (x >>> (nI n &&& 31)) i = if n + i < 32 then bt x (n + i) else bt x 31 := by
  unfold bt
  rw [Int32.toBitVec_shiftRight]
  show (x.toBitVec.sshiftRight ((nI n &&& 31).toBitVec.smod 32).toNat).getLsbD i = _
  rw [s_l n hn, BitVec.getLsbD_sshiftRight, BitVec.msb_eq_getLsbD_last]
  simp [hi]
theorem b_shl8 (x : Int32) {i : Nat} (hi : i < 32) : bt (x <<< ((8 : Int32) &&& 31)) i = (decide (8 ≤ i) && bt x (i - 8)) := b_shl 8 (by omega) x hi
theorem b_shl16 (x : Int32) {i : Nat} (hi : i < 32) : bt (x <<< ((16 : Int32) &&& 31)) i = (decide (16 ≤ i) && bt x (i - 16)) := b_shl 16 (by omega) x hi
theorem b_shl24 (x : Int32) {i : Nat} (hi : i < 32) : bt (x <<< ((24 : Int32) &&& 31)) i = (decide (24 ≤ i) && bt x (i - 24)) := b_shl 24 (by omega) x hi
theorem b_sshr8 (x : Int32) {i : Nat} (hi : i < 32) : bt (x >>> ((8 : Int32) &&& 31)) i = if 8 + i < 32 then bt x (8 + i) else bt x 31 := b_sshr 8 (by omega) x hi
/-! ===== nI under and, xor, >>>, one bit, 65535 ===== -/
def fb_ct (p : Nat → Bool) : Nat → Nat
  | 0 => 0
  | n + 1 => fb_ct p n + (if p n then 1 else 0)
theorem fb_ct_succ (p : Nat → Bool) (n : Nat) : fb_ct p (n + 1) = fb_ct p n + (if p n then 1 else 0) := rfl
theorem fb_ct_le (p : Nat → Bool) : ∀ n, fb_ct p n ≤ n
  | 0 => Nat.le_refl _
  | n + 1 => by
    have h := fb_ct_le p n
    rw [fb_ct_succ]
    split <;> omega
theorem fb_ct_step (p : Nat → Bool) (m : Nat) : ∀ n, fb_ct p m ≤ fb_ct p (m + n)
  | 0 => Nat.le_refl _
  | n + 1 => by
    have h := fb_ct_step p m n
    show fb_ct p m ≤ fb_ct p (m + n + 1)
    rw [fb_ct_succ]
    omega
theorem fb_ct_mono (p : Nat → Bool) {m n : Nat} (h : m ≤ n) : fb_ct p m ≤ fb_ct p n := by
  have := fb_ct_step p m (n - m)
  rwa [Nat.add_sub_cancel' h] at this
theorem fb_ct_cong {p q : Nat → Bool} : ∀ {n : Nat}, (∀ k, k < n → p k = q k) → fb_ct p n = fb_ct q n
  | 0, _ => rfl
  | n + 1, h => by
    rw [fb_ct_succ, fb_ct_succ, fb_ct_cong (fun k hk => h k (by omega)), h n (by omega)]
/-- one place changed -/
theorem fb_ct_out (p : Nat → Bool) (b : Bool) {i n : Nat} (h : n ≤ i) : fb_ct (fun k => if k = i then b else p k) n = fb_ct p n :=
  fb_ct_cong fun k hk => if_neg (by omega)
theorem fb_ct_upd (p : Nat → Bool) (b : Bool) {i : Nat} : ∀ {n : Nat}, i < n → fb_ct (fun k => if k = i then b else p k) n + (if p i then 1 else 0) = fb_ct p n + (if b then 1 else 0)
  | 0, h => absurd h (Nat.not_lt_zero i)
  | n + 1, h => by
    rw [fb_ct_succ, fb_ct_succ]
    rcases Nat.lt_or_ge i n with q | q
    · have := fb_ct_upd p b q
      have e : (if n = i then b else p n) = p n := if_neg (by omega)
      rw [e]
      omega
    · have e : i = n := by omega
      subst e
      rw [fb_ct_out p b (Nat.le_refl _)]
      simp only [if_true]
      omega
theorem fb_ct_sub {p q : Nat → Bool} : ∀ {n : Nat}, (∀ k, k < n → p k = true → q k = true) → fb_ct p n ≤ fb_ct q n
  | 0, _ => Nat.le_refl _
  | n + 1, h => by
    have h1 := fb_ct_sub (n := n) (p := p) (q := q) (fun k hk => h k (by omega))
    have h2 := h n (by omega)
    rw [fb_ct_succ, fb_ct_succ]
    cases hp : p n <;> cases hq : q n <;> simp_all <;> omega
theorem fb_ct_or {p q : Nat → Bool} : ∀ {n : Nat}, (∀ k, k < n → ¬ (p k = true ∧ q k = true)) → fb_ct (fun k => p k || q k) n = fb_ct p n + fb_ct q n
  | 0, _ => rfl
  | n + 1, h => by
    have h1 := fb_ct_or (n := n) (p := p) (q := q) (fun k hk => h k (by omega))
    have h2 := h n (by omega)
    rw [fb_ct_succ, fb_ct_succ, fb_ct_succ, h1]
    cases hp : p n <;> cases hq : q n <;> simp_all <;> omega
theorem fb_ct_not (p : Nat → Bool) : ∀ n, fb_ct p n + fb_ct (fun k => !p k) n = n
  | 0 => rfl
  | n + 1 => by
    have h := fb_ct_not p n
    rw [fb_ct_succ, fb_ct_succ]
    cases p n <;> simp <;> omega
theorem fb_ct_split (p : Nat → Bool) (m : Nat) : ∀ n, fb_ct p (m + n) = fb_ct p m + fb_ct (fun k => p (m + k)) n
  | 0 => rfl
  | n + 1 => by
    have h := fb_ct_split p m n
    show fb_ct p (m + n + 1) = _
    rw [fb_ct_succ, fb_ct_succ, h, Nat.add_assoc]
theorem fb_ct_zero {p : Nat → Bool} : ∀ {n : Nat}, fb_ct p n = 0 ↔ ∀ k, k < n → p k = false
  | 0 => ⟨fun _ k hk => absurd hk (Nat.not_lt_zero k), fun _ => rfl⟩
  | n + 1 => by
    have h := fb_ct_zero (p := p) (n := n)
    rw [fb_ct_succ]
    constructor
    · intro e k hk
      have e1 : fb_ct p n = 0 := by omega
      rcases Nat.lt_or_ge k n with q | q
      · exact h.mp e1 k q
      · have ek : k = n := by omega
        subst ek
        cases hp : p k
        · rfl
        · simp [hp] at e
    · intro a
      rw [h.mpr (fun k hk => a k (by omega)), a n (by omega)]
      rfl
theorem fb_ct_pos {p : Nat → Bool} {n : Nat} : 0 < fb_ct p n ↔ ∃ k, k < n ∧ p k = true := by
  constructor
  · intro h
    refine Classical.byContradiction fun hx => ?_
    have := fb_ct_zero.mpr (fun k hk => by
      cases hp : p k
      · rfl
      · exact absurd ⟨k, hk, hp⟩ hx : ∀ k, k < n → p k = false)
    omega
  · rintro ⟨k, hk, hp⟩
    rcases Nat.eq_zero_or_pos (fb_ct p n) with e | e
    · have := fb_ct_zero.mp e k hk
      rw [this] at hp
      cases hp
    · exact e
theorem fb_ct_all {p : Nat → Bool} {n : Nat} : fb_ct p n = n ↔ ∀ k, k < n → p k = true := by
  have h := fb_ct_not p n
  constructor
  · intro e k hk
    have z : fb_ct (fun k => !p k) n = 0 := by omega
    have := fb_ct_zero.mp z k hk
    cases hp : p k
    · simp [hp] at this
    · rfl
  · intro a
    have z : fb_ct (fun k => !p k) n = 0 := fb_ct_zero.mpr (fun k hk => by simp [a k hk])
    omega
/-- the k-th place with the property -/
theorem fb_ct_kth {p : Nat → Bool} {k : Nat} : ∀ {n : Nat}, k < fb_ct p n → ∃ i, i < n ∧ p i = true ∧ fb_ct p i = k
  | 0, h => absurd h (Nat.not_lt_zero k)
  | n + 1, h => by
    rcases Nat.lt_or_ge k (fb_ct p n) with q | q
    · obtain ⟨i, h1, h2⟩ := fb_ct_kth q
      exact ⟨i, by omega, h2⟩
    · rw [fb_ct_succ] at h
      cases hp : p n
      · simp [hp] at h; omega
      · simp [hp] at h
        exact ⟨n, by omega, hp, by omega⟩
theorem fb_ct_kth_one {p : Nat → Bool} {i j : Nat} (hi : p i = true) (hj : p j = true) (e : fb_ct p i = fb_ct p j) : i = j := by
  have key : ∀ a b : Nat, a < b → p a = true → fb_ct p a < fb_ct p b := by
    intro a b hab ha
    have h := fb_ct_mono p (show a + 1 ≤ b from hab)
    rw [fb_ct_succ, ha] at h
    simp at h
    omega
  rcases Nat.lt_trichotomy i j with q | q | q
  · have := key i j q hi; omega
  · exact q
  · have := key j i q hj; omega
/-! ===== sums over a range: one place changed, parts, bounds ===== -/
