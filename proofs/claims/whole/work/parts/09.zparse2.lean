/-! what the grammar's answers are like: they go on, their code is short, and comes to something -/
abbrev okS (s : Int32) : Prop := -15 ≤ s.toInt
def Gd (n p : Nat) (c : List Int32) (q : Nat) : Prop := p < q ∧ q ≤ n ∧ c.length + p ≤ q ∧ (∀ s ∈ c, okS s) ∧ ∀ nm, ∃ x, Vl nm c x
def GdP (n : Nat) (P : Nat → PR) : Prop := ∀ p, p ≤ n → (∀ c q, P p = .inr (c, q) → Gd n p c q) ∧ ∀ z, P p = .inl z → z ≤ n
theorem pr_lr {z : Nat} {x : List Int32 × Nat} (h : (Sum.inl z : PR) = .inr x) : False := by cases h
theorem pr_rl {z : Nat} {x : List Int32 × Nat} (h : (Sum.inr x : PR) = .inl z) : False := by cases h
theorem pr_rr {c c' : List Int32} {q q' : Nat} (h : (Sum.inr (c, q) : PR) = .inr (c', q')) : c = c' ∧ q = q' := by cases h; exact ⟨rfl, rfl⟩
theorem pr_ll {z z' : Nat} (h : (Sum.inl z : PR) = .inl z') : z = z' := by cases h; rfl
theorem op_tk {B : Nat → Int32} {n q : Nat} {op : Int32 → Int32} (h0 : op 0 = 0) (h1 : op 1 = 0) (h : ¬ op (tkL B n q) = 0) : stL B n q < nxL B n q := nx_gt (fun e => h (by rw [e]; exact h0)) (fun e => h (by rw [e]; exact h1))
theorem Gd.op {n p q q1 q2 : Nat} {c d : List Int32} {s : Int32} (h1 : Gd n p c q) (hq : q < q1) (h2 : Gd n q1 d q2) (hs : s = -7 ∨ s = -8 ∨ s = -10 ∨ s = -11 ∨ s = -12 ∨ s = -13 ∨ s = -14) : Gd n p (c ++ d ++ [s]) q2 := by
  obtain ⟨a1, a2, a3, a4, a5⟩ := h1
  obtain ⟨b1, b2, b3, b4, b5⟩ := h2
  refine ⟨by omega, b2, by simp only [List.length_append, List.length_cons, List.length_nil]; omega, fun x hx => ?_, fun nm => ?_⟩
  · rcases List.mem_append.mp hx with hx | hx
    · rcases List.mem_append.mp hx with hx | hx
      · exact a4 x hx
      · exact b4 x hx
    · rw [List.mem_singleton.mp hx]
      rcases hs with rfl | rfl | rfl | rfl | rfl | rfl | rfl <;> decide
  · obtain ⟨x, hx⟩ := a5 nm
    obtain ⟨y, hy⟩ := b5 nm
    exact ⟨_, hx.two hy hs⟩
theorem Gd.un {n p p1 q : Nat} {c : List Int32} {s : Int32} (hp : p < p1) (h1 : Gd n p1 c q) (hs : s = -9 ∨ s = -15) : Gd n p (c ++ [s]) q := by
  obtain ⟨a1, a2, a3, a4, a5⟩ := h1
  refine ⟨by omega, a2, by simp only [List.length_append, List.length_cons, List.length_nil]; omega, fun x hx => ?_, fun nm => ?_⟩
  · rcases List.mem_append.mp hx with hx | hx
    · exact a4 x hx
    · rw [List.mem_singleton.mp hx]
      rcases hs with rfl | rfl <;> decide
  · obtain ⟨x, hx⟩ := a5 nm
    exact ⟨_, hx.one hs⟩
theorem Gd.more {n p p1 q q1 : Nat} {c : List Int32} (h : Gd n p1 c q) (hp : p ≤ p1) (hq : q ≤ q1) (hn : q1 ≤ n) : Gd n p c q1 := by
  obtain ⟨a1, a2, a3, a4, a5⟩ := h
  exact ⟨by omega, hn, by omega, a4, a5⟩
def OpOk (op : Int32 → Int32) : Prop := op 0 = 0 ∧ op 1 = 0 ∧ ∀ t, ¬ op t = 0 → op t = -7 ∨ op t = -8 ∨ op t = -10 ∨ op t = -11 ∨ op t = -12 ∨ op t = -13 ∨ op t = -14
theorem opT_ok : OpOk opT := ⟨by decide, by decide, fun t h => by unfold opT at h ⊢; split <;> simp_all⟩
theorem opA_ok : OpOk opA := ⟨by decide, by decide, fun t h => by unfold opA at h ⊢; (repeat' split) <;> simp_all⟩
theorem opN_ok : OpOk opN := ⟨by decide, by decide, fun t h => by unfold opN at h ⊢; split <;> simp_all⟩
theorem opO_ok : OpOk opO := ⟨by decide, by decide, fun t h => by unfold opO at h ⊢; split <;> simp_all⟩
theorem opC_ok : OpOk opC := ⟨by decide, by decide, fun t h => by unfold opC at h ⊢; (repeat' split) <;> simp_all⟩
theorem lpS_gd {B : Nat → Int32} {n : Nat} {op : Int32 → Int32} {sub : Nat → PR} (ho : OpOk op) (hs : GdP n sub) : ∀ (f : Nat) (p : Nat) (c : List Int32) (q : Nat), Gd n p c q → (∀ c' q', lpS B n op sub f c q = .inr (c', q') → Gd n p c' q') ∧ ∀ z, lpS B n op sub f c q = .inl z → z ≤ n
  | 0, p, c, q, h => ⟨fun c' q' e => (by obtain ⟨rfl, rfl⟩ := pr_rr e; exact h), fun z e => (pr_rl e).elim⟩
  | f + 1, p, c, q, h => by
    unfold lpS
    by_cases h0 : op (tkL B n q) = 0
    · rw [if_pos h0]
      exact ⟨fun c' q' e => by cases e; exact h, fun z e => (pr_rl e).elim⟩
    · rw [if_neg h0]
      have hg := op_tk (B := B) (n := n) (q := q) ho.1 ho.2.1 h0
      have hge := stL_ge B n q
      have hle := nx_le B (n := n) (p := q) h.2.1
      obtain ⟨s1, s2⟩ := hs (nxL B n q) hle
      cases hr : sub (nxL B n q) with
      | inl z => exact ⟨fun c' q' e => (pr_lr e).elim, fun z' e => pr_ll e ▸ (s2 z hr)⟩
      | inr cq =>
        obtain ⟨c2, q2⟩ := cq
        exact lpS_gd ho hs f p _ q2 (h.op (by omega) (s1 c2 q2 hr) (ho.2.2 _ h0))
theorem thL_gd {B : Nat → Int32} {n : Nat} {op : Int32 → Int32} {sub : Nat → PR} (ho : OpOk op) (hs : GdP n sub) : GdP n (thL B n sub op) := by
  intro p hp
  obtain ⟨s1, s2⟩ := hs p hp
  unfold thL
  cases hr : sub p with
  | inl z => exact ⟨fun c' q' e => (pr_lr e).elim, fun z' e => pr_ll e ▸ (s2 z hr)⟩
  | inr cq =>
    obtain ⟨c2, q2⟩ := cq
    exact lpS_gd ho hs _ p c2 q2 (s1 c2 q2 hr)
theorem wd_ind (P : Int32 × Int32 → Prop) (l : List Int32) (h0 : l = [120] → P (3, -1)) (h1 : l = [121] → P (3, -2)) (h2 : l = [99, 114, 111, 115, 115] → P (3, -3)) (h3 : l = [108, 111, 110, 103] → P (3, -4)) (h4 : l = [97, 103, 101] → P (3, -5)) (h5 : l = [115, 116, 114, 105, 112, 115] → P (3, -6)) (h6 : l = [114, 117, 98] → P (4, 0)) (h7 : l = [110, 101, 120, 116] → P (5, 0)) (h8 : l = [116, 97, 107, 101] → P (6, 0)) (h9 : l = [111, 114] → P (7, 0)) (h10 : l = [97, 110, 100] → P (8, 0)) (h11 : l = [110, 111, 116] → P (9, 0)) (hz : ¬ l = [120] → ¬ l = [121] → ¬ l = [99, 114, 111, 115, 115] → ¬ l = [108, 111, 110, 103] → ¬ l = [97, 103, 101] → ¬ l = [115, 116, 114, 105, 112, 115] → ¬ l = [114, 117, 98] → ¬ l = [110, 101, 120, 116] → ¬ l = [116, 97, 107, 101] → ¬ l = [111, 114] → ¬ l = [97, 110, 100] → ¬ l = [110, 111, 116] → P (1, 0)) : P (wdT l) := by
  unfold wdT
  by_cases q0 : l = [120]
  · rw [if_pos q0]; exact h0 q0
  rw [if_neg q0]
  by_cases q1 : l = [121]
  · rw [if_pos q1]; exact h1 q1
  rw [if_neg q1]
  by_cases q2 : l = [99, 114, 111, 115, 115]
  · rw [if_pos q2]; exact h2 q2
  rw [if_neg q2]
  by_cases q3 : l = [108, 111, 110, 103]
  · rw [if_pos q3]; exact h3 q3
  rw [if_neg q3]
  by_cases q4 : l = [97, 103, 101]
  · rw [if_pos q4]; exact h4 q4
  rw [if_neg q4]
  by_cases q5 : l = [115, 116, 114, 105, 112, 115]
  · rw [if_pos q5]; exact h5 q5
  rw [if_neg q5]
  by_cases q6 : l = [114, 117, 98]
  · rw [if_pos q6]; exact h6 q6
  rw [if_neg q6]
  by_cases q7 : l = [110, 101, 120, 116]
  · rw [if_pos q7]; exact h7 q7
  rw [if_neg q7]
  by_cases q8 : l = [116, 97, 107, 101]
  · rw [if_pos q8]; exact h8 q8
  rw [if_neg q8]
  by_cases q9 : l = [111, 114]
  · rw [if_pos q9]; exact h9 q9
  rw [if_neg q9]
  by_cases q10 : l = [97, 110, 100]
  · rw [if_pos q10]; exact h10 q10
  rw [if_neg q10]
  by_cases q11 : l = [110, 111, 116]
  · rw [if_pos q11]; exact h11 q11
  rw [if_neg q11]
  exact hz q0 q1 q2 q3 q4 q5 q6 q7 q8 q9 q10 q11
theorem wd_6 (l : List Int32) : -6 ≤ (wdT l).2.toInt := by
  apply wd_ind (fun x => -6 ≤ x.2.toInt) <;> intros <;> decide
theorem sg_23 {b : Int32} (h : isSg b = true) : ¬ (b = 2 ∨ b = 3) := by
  intro hb
  have h2 : ∀ x : Int32, x = 2 ∨ x = 3 → isSg x = false := by
    intro x hx
    rcases hx with hx | hx <;> rw [hx] <;> decide
  rw [h2 b hb] at h
  exact absurd h (by decide)
theorem kd_3 {B : Nat → Int32} {n p : Nat} (h : kdL B n p = 3) : isSg (B (stL B n p)) = true := by
  unfold kdL kdB at h
  split at h
  · exact absurd h (by decide)
  · split at h
    · exact absurd h (by decide)
    · split at h
      · exact absurd h (by decide)
      · split at h
        · assumption
        · exact absurd h (by decide)
theorem tk_kd {B : Nat → Int32} {n p : Nat} (h : tkL B n p = 2 ∨ tkL B n p = 3) : kdL B n p = 1 ∨ kdL B n p = 2 := by
  by_cases h0 : kdL B n p = 0
  · unfold tkL at h; rw [if_pos h0] at h; rcases h with h | h <;> exact absurd h (by decide)
  · by_cases h1 : kdL B n p = 1
    · exact Or.inl h1
    · by_cases h2 : kdL B n p = 2
      · exact Or.inr h2
      · by_cases h3 : kdL B n p = 3
        · unfold tkL at h; rw [if_neg h0, if_neg h1, if_neg h2, if_pos h3] at h
          exact absurd h (sg_23 (kd_3 h3))
        · unfold tkL at h; rw [if_neg h0, if_neg h1, if_neg h2, if_neg h3] at h
          rcases h with h | h <;> exact absurd h (by decide)
theorem vl_6 {B : Nat → Int32} {n p : Nat} (h : tkL B n p = 2 ∨ tkL B n p = 3) : -6 ≤ (vlL B n p).toInt := by
  unfold vlL
  by_cases h1 : kdL B n p = 1
  · rw [if_pos h1]; exact wd_6 _
  · rw [if_neg h1]
    have hk : kdL B n p = 2 := (tk_kd h).resolve_left h1
    have h4 : ¬ 4 < nxL B n p - stL B n p := by
      intro h4
      unfold tkL at h
      rw [if_neg (by omega), if_neg h1, if_pos hk, if_pos h4] at h
      rcases h with h | h <;> exact absurd h (by decide)
    have key : ∀ k, k ≤ 4 → (∀ i, i < k → isDg (B (stL B n p + i)) = true) → nvS B (stL B n p) k < 10 ^ k := by
      intro k
      induction k with
      | zero => intro _ _; exact Nat.one_pos
      | succ k ih =>
        intro hk4 hd
        have h5 := ih (by omega) (fun i hi => hd i (by omega))
        have h6 := hd k (by omega)
        simp only [isDg, Bool.and_eq_true, decide_eq_true_eq] at h6
        show 10 * nvS B (stL B n p) k + ((B (stL B n p + k)).toInt - 48).toNat < 10 ^ (k + 1)
        rw [Nat.pow_succ]
        omega
    have hd : ∀ i, i < nxL B n p - stL B n p → isDg (B (stL B n p + i)) = true := by
      intro i hi
      have e : nxL B n p = enS isDg B n (stL B n p) := by unfold nxL; rw [if_neg h1, if_pos hk]
      rw [e] at hi
      unfold enS at hi
      exact runE_in (P := isDg) (n := n) (f := n - stL B n p) (p := stL B n p) (by omega) (by omega)
    have h7 := key _ (by omega) hd
    have h8 : 10 ^ (nxL B n p - stL B n p) ≤ 10 ^ 4 := Nat.pow_le_pow_right (by decide) (by omega)
    rw [nI_i (by omega)]
    omega
theorem vl_Vl {B : Nat → Int32} {n p : Nat} (h : tkL B n p = 2 ∨ tkL B n p = 3) (nm : Nat → Int32) : Vl nm [vlL B n p] (if 0 ≤ (vlL B n p).toInt then vlL B n p else nm (-1 - (vlL B n p).toInt).toNat) := by
  intro stk
  rw [exL_1]
  unfold exI
  rw [if_pos (vl_6 h)]
theorem nx_tk {B : Nat → Int32} {n p : Nat} {t : Int32} (h : tkL B n p = t) (h0 : ¬ t = 0) (h1 : ¬ t = 1) : p < nxL B n p := by
  have := nx_gt (B := B) (n := n) (p := p) (by rw [h]; exact h0) (by rw [h]; exact h1)
  have := stL_ge B n p
  omega
theorem onP_gd {B : Nat → Int32} {n : Nat} {can : Bool} {ei on : Nat → PR} (h1 : can = true → GdP n ei) (h2 : can = true → GdP n on) : GdP n (onP B n can ei on) := by
  intro p hp
  have hst := stL_le B hp
  have hnx := nx_le B hp
  unfold onP
  split
  · rename_i ht
    have hg : p < nxL B n p := by rcases ht with ht | ht <;> exact nx_tk ht (by decide) (by decide)
    refine ⟨fun c q e => ?_, fun z e => (pr_rl e).elim⟩
    obtain ⟨rfl, rfl⟩ := pr_rr e
    exact ⟨hg, hnx, by simp only [List.length_cons, List.length_nil]; omega, fun s hs => by rw [List.mem_singleton.mp hs]; have := vl_6 ht; unfold okS; omega, fun nm => ⟨_, vl_Vl ht nm⟩⟩
  · split
    · rename_i ht
      have hg := nx_tk ht.1 (by decide) (by decide)
      obtain ⟨s1, s2⟩ := h2 ht.2 _ hnx
      cases hr : on (nxL B n p) with
      | inl z => exact ⟨fun c' q' e => (pr_lr e).elim, fun z' e => pr_ll e ▸ (s2 z hr)⟩
      | inr cq =>
        obtain ⟨c, q⟩ := cq
        exact ⟨fun c' q' e => (by obtain ⟨rfl, rfl⟩ := pr_rr e; exact (s1 c q hr).un hg (Or.inr rfl)), fun z' e => (pr_rl e).elim⟩
    · split
      · rename_i ht
        have hg := nx_tk ht.1 (by decide) (by decide)
        obtain ⟨s1, s2⟩ := h1 ht.2 _ hnx
        cases hr : ei (nxL B n p) with
        | inl z => exact ⟨fun c' q' e => (pr_lr e).elim, fun z' e => pr_ll e ▸ (s2 z hr)⟩
        | inr cq =>
          obtain ⟨c, q⟩ := cq
          have hq := (s1 c q hr).2.1
          dsimp only
          split
          · rename_i h41
            exact ⟨fun c' q' e => (by obtain ⟨rfl, rfl⟩ := pr_rr e; exact (s1 c q hr).more (by omega) (Nat.le_of_lt (nx_tk h41 (by decide) (by decide))) (nx_le B hq)), fun z' e => (pr_rl e).elim⟩
          · exact ⟨fun c' q' e => (pr_lr e).elim, fun z' e => pr_ll e ▸ (stL_le B hq)⟩
      · exact ⟨fun c' q' e => (pr_lr e).elim, fun z' e => pr_ll e ▸ (hst)⟩
theorem cmP_gd {B : Nat → Int32} {n : Nat} {su : Nat → PR} (h1 : GdP n su) : GdP n (cmP B n su) := by
  intro p hp
  obtain ⟨s1, s2⟩ := h1 p hp
  unfold cmP
  cases hr : su p with
  | inl z => exact ⟨fun c' q' e => (pr_lr e).elim, fun z' e => pr_ll e ▸ (s2 z hr)⟩
  | inr cq =>
    obtain ⟨c, q⟩ := cq
    have hg := s1 c q hr
    dsimp only
    by_cases h0 : opC (tkL B n q) = 0
    · rw [if_pos h0]
      exact ⟨fun c' q' e => (by obtain ⟨rfl, rfl⟩ := pr_rr e; exact hg), fun z' e => (pr_rl e).elim⟩
    · rw [if_neg h0]
      have hk := op_tk (B := B) (n := n) (q := q) opC_ok.1 opC_ok.2.1 h0
      have hge := stL_ge B n q
      obtain ⟨r1, r2⟩ := h1 _ (nx_le B hg.2.1)
      cases hr2 : su (nxL B n q) with
      | inl z => exact ⟨fun c' q' e => (pr_lr e).elim, fun z' e => pr_ll e ▸ (r2 z hr2)⟩
      | inr cq2 =>
        obtain ⟨c2, q2⟩ := cq2
        exact ⟨fun c' q' e => (by obtain ⟨rfl, rfl⟩ := pr_rr e; exact hg.op (by omega) (r1 c2 q2 hr2) (opC_ok.2.2 _ h0)), fun z' e => (pr_rl e).elim⟩
theorem dnP_gd {B : Nat → Int32} {n : Nat} {can : Bool} {dn su : Nat → PR} (h1 : GdP n su) (h2 : can = true → GdP n dn) : GdP n (dnP B n can dn su) := by
  intro p hp
  unfold dnP
  split
  · rename_i ht
    have hg := nx_tk ht.1 (by decide) (by decide)
    obtain ⟨s1, s2⟩ := h2 ht.2 _ (nx_le B hp)
    cases hr : dn (nxL B n p) with
    | inl z => exact ⟨fun c' q' e => (pr_lr e).elim, fun z' e => pr_ll e ▸ (s2 z hr)⟩
    | inr cq =>
      obtain ⟨c, q⟩ := cq
      exact ⟨fun c' q' e => (by obtain ⟨rfl, rfl⟩ := pr_rr e; exact (s1 c q hr).un hg (Or.inl rfl)), fun z' e => (pr_rl e).elim⟩
  · exact cmP_gd h1 p hp
theorem lv_gd (B : Nat → Int32) (n : Nat) : ∀ o, GdP n (oneP B n o) ∧ GdP n (denP B n o) ∧ GdP n (eitP B n o)
  | 0 => by
    have h1 : GdP n (oneP B n 0) := by
      rw [oneP_0]
      exact onP_gd (can := false) (fun h => absurd h (by decide)) (fun h => absurd h (by decide))
    have h2 : GdP n (denP B n 0) := by
      rw [denP_0]
      exact dnP_gd (can := false) (thL_gd opA_ok (thL_gd opT_ok h1)) (fun h => absurd h (by decide))
    exact ⟨h1, h2, thL_gd opO_ok (thL_gd opN_ok h2)⟩
  | o + 1 => by
    obtain ⟨g1, g2, g3⟩ := lv_gd B n o
    have h1 : GdP n (oneP B n (o + 1)) := by
      rw [oneP_s]
      exact onP_gd (fun _ => g3) (fun _ => g1)
    have h2 : GdP n (denP B n (o + 1)) := by
      rw [denP_s]
      exact dnP_gd (thL_gd opA_ok (thL_gd opT_ok h1)) (fun _ => g2)
    exact ⟨h1, h2, thL_gd opO_ok (thL_gd opN_ok h2)⟩
theorem ter_gd (B : Nat → Int32) (n o : Nat) : GdP n (terP B n o) := thL_gd opT_ok (lv_gd B n o).1
theorem sum_gd (B : Nat → Int32) (n o : Nat) : GdP n (sumP B n o) := thL_gd opA_ok (ter_gd B n o)
theorem bot_gd (B : Nat → Int32) (n o : Nat) : GdP n (botP B n o) := thL_gd opN_ok (lv_gd B n o).2.1
