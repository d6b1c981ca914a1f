/-! what the grammar's answers are like: they go on, their code is short, and comes to something -/
def okS (s : Int32) : Prop := -15 ≤ s.toInt
def Gd (n p : Nat) (c : List Int32) (q : Nat) : Prop := p < q ∧ q ≤ n ∧ c.length + p ≤ q ∧ (∀ s ∈ c, okS s) ∧ ∀ nm, ∃ x, Vl nm c x
def GdP (n : Nat) (P : Nat → PR) : Prop := ∀ p, p ≤ n → (∀ c q, P p = .inr (c, q) → Gd n p c q) ∧ ∀ z, P p = .inl z → z ≤ n
theorem op_tk {B : Nat → Int32} {n q : Nat} {op : Int32 → Int32} (h0 : op 0 = 0) (h1 : op 1 = 0) (h : ¬ op (tkL B n q) = 0) : stL B n q < nxL B n q := nx_gt (fun e => h (by rw [e]; exact h0)) (fun e => h (by rw [e]; exact h1))
theorem Gd.op {n p q q1 q2 : Nat} {c d : List Int32} {s : Int32} (h1 : Gd n p c q) (hq : q < q1) (h2 : Gd n q1 d q2) (hs : s = -7 ∨ s = -8 ∨ s = -10 ∨ s = -11 ∨ s = -12 ∨ s = -13 ∨ s = -14) : Gd n p (c ++ d ++ [s]) q2 := by
  obtain ⟨a1, a2, a3, a4, a5⟩ := h1
  obtain ⟨b1, b2, b3, b4, b5⟩ := h2
  refine ⟨by omega, b2, by simp only [List.length_append, List.length_cons, List.length_nil]; omega, fun x hx => ?_, fun nm => ?_⟩
  · rcases List.mem_append.mp hx with hx | hx
    · rcases List.mem_append.mp hx with hx | hx
      · exact a4 x hx
      · exact b4 x hx
    · rw [List.mem_singleton.mp hx]
      rcases hs with rfl | rfl | rfl | rfl | rfl | rfl | rfl <;> exact (by decide : (-15 : Int) ≤ _)
  · obtain ⟨x, hx⟩ := a5 nm
    obtain ⟨y, hy⟩ := b5 nm
    exact ⟨_, hx.two hy hs⟩
theorem Gd.un {n p p1 q : Nat} {c : List Int32} {s : Int32} (hp : p < p1) (h1 : Gd n p1 c q) (hs : s = -9 ∨ s = -15) : Gd n p (c ++ [s]) q := by
  obtain ⟨a1, a2, a3, a4, a5⟩ := h1
  refine ⟨by omega, a2, by simp only [List.length_append, List.length_cons, List.length_nil]; omega, fun x hx => ?_, fun nm => ?_⟩
  · rcases List.mem_append.mp hx with hx | hx
    · exact a4 x hx
    · rw [List.mem_singleton.mp hx]
      rcases hs with rfl | rfl <;> exact (by decide : (-15 : Int) ≤ _)
  · obtain ⟨x, hx⟩ := a5 nm
    exact ⟨_, hx.one hs⟩
theorem Gd.more {n p p1 q q1 : Nat} {c : List Int32} (h : Gd n p1 c q) (hp : p ≤ p1) (hq : q ≤ q1) (hn : q1 ≤ n) : Gd n p c q1 := by
  obtain ⟨a1, a2, a3, a4, a5⟩ := h
  exact ⟨by omega, hn, by omega, a4, a5⟩
def OpOk (op : Int32 → Int32) : Prop := op 0 = 0 ∧ op 1 = 0 ∧ ∀ t, ¬ op t = 0 → op t = -7 ∨ op t = -8 ∨ op t = -10 ∨ op t = -11 ∨ op t = -12 ∨ op t = -13 ∨ op t = -14
theorem opT_ok : OpOk opT := ⟨by decide, by decide, fun t h => by unfold opT at h ⊢; split <;> simp_all⟩
theorem opA_ok : OpOk opA := ⟨by decide, by decide, fun t h => by unfold opA at h ⊢; (repeat' split) <;> simp_all⟩
theorem opN_ok : OpOk opN := ⟨by decide, by decide, fun t h => by unfold opN at h ⊢; split <;> simp_all⟩
theorem opO_ok : OpOk opO := ⟨by decide, by decide, fun t h => by unfold opO at h ⊢; split <;> simp_all⟩
theorem opC_ok : OpOk opC := ⟨by decide, by decide, fun t h => by unfold opC at h ⊢; (repeat' split) <;> simp_all⟩
theorem lpS_gd {B : Nat → Int32} {n : Nat} {op : Int32 → Int32} {sub : Nat → PR} (ho : OpOk op) (hs : GdP n sub) : ∀ (f : Nat) (p : Nat) (c : List Int32) (q : Nat), Gd n p c q → (∀ c' q', lpS B n op sub f c q = .inr (c', q') → Gd n p c' q') ∧ ∀ z, lpS B n op sub f c q = .inl z → z ≤ n
  | 0, p, c, q, h => ⟨fun c' q' e => by unfold lpS at e; cases e; exact h, fun z e => by unfold lpS at e; cases e⟩
  | f + 1, p, c, q, h => by
    unfold lpS
    by_cases h0 : op (tkL B n q) = 0
    · rw [if_pos h0]
      exact ⟨fun c' q' e => by cases e; exact h, fun z e => by cases e⟩
    · rw [if_neg h0]
      have hg := op_tk (B := B) (n := n) (q := q) ho.1 ho.2.1 h0
      have hge := stL_ge B n q
      have hle := nx_le B (n := n) (p := q) h.2.1
      obtain ⟨s1, s2⟩ := hs (nxL B n q) hle
      cases hr : sub (nxL B n q) with
      | inl z => exact ⟨fun c' q' e => by (try dsimp only at e); cases e, fun z' e => by (try dsimp only at e); cases e; exact s2 z hr⟩
      | inr cq =>
        obtain ⟨c2, q2⟩ := cq
        exact lpS_gd ho hs f p _ q2 (h.op (by omega) (s1 c2 q2 hr) (ho.2.2 _ h0))
theorem thL_gd {B : Nat → Int32} {n : Nat} {op : Int32 → Int32} {sub : Nat → PR} (ho : OpOk op) (hs : GdP n sub) : GdP n (thL B n sub op) := by
  intro p hp
  obtain ⟨s1, s2⟩ := hs p hp
  unfold thL
  cases hr : sub p with
  | inl z => exact ⟨fun c' q' e => by (try dsimp only at e); cases e, fun z' e => by (try dsimp only at e); cases e; exact s2 z hr⟩
  | inr cq =>
    obtain ⟨c2, q2⟩ := cq
    exact lpS_gd ho hs _ p c2 q2 (s1 c2 q2 hr)
theorem vl_6 {B : Nat → Int32} {n p : Nat} (h : tkL B n p = 2 ∨ tkL B n p = 3) : -6 ≤ (vlL B n p).toInt := by
  unfold vlL
  split
  · unfold wdT
    (repeat' split) <;> exact (by decide : (-6 : Int) ≤ _)
  · rename_i h1
    have hk : kdL B n p = 2 := by
      unfold tkL at h
      split at h
      · rcases h with h | h <;> exact absurd h (by decide)
      · split at h
        · contradiction
        · split at h
          · assumption
          · rename_i k0 k2
            split at h
            · rename_i k3
              exfalso
              unfold kdL kdB at k3
              split at k3
              · exact absurd k3 (by decide)
              · split at k3
                · exact absurd k3 (by decide)
                · split at k3
                  · exact absurd k3 (by decide)
                  · split at k3
                    · rename_i hsg
                      rcases h with h | h <;> rw [h] at hsg <;> exact absurd hsg (by decide)
                    · exact absurd k3 (by decide)
            · rcases h with h | h <;> exact absurd h (by decide)
    have h4 : ¬ 4 < nxL B n p - stL B n p := by
      intro h4
      unfold tkL at h
      rw [if_neg (by rw [hk]; decide), if_neg h1, if_pos hk, if_pos h4] at h
      rcases h with h | h <;> exact absurd h (by decide)
    have key : ∀ k, k ≤ 4 → (∀ i, i < k → isDg (B (stL B n p + i)) = true) → nvS B (stL B n p) k < 10 ^ k := by
      intro k
      induction k with
      | zero => intro _ _; exact Nat.one_pos
      | succ k ih =>
        intro hk4 hd
        have h5 := ih (by omega) (fun i hi => hd i (by omega))
        have h6 := hd k (by omega)
        simp only [isDg, Bool.and_eq_true, decide_eq_true_eq] at h6
        show 10 * nvS B (stL B n p) k + ((B (stL B n p + k)).toInt - 48).toNat < 10 ^ (k + 1)
        rw [Nat.pow_succ]
        omega
    have hd : ∀ i, i < nxL B n p - stL B n p → isDg (B (stL B n p + i)) = true := by
      intro i hi
      have e : nxL B n p = enS isDg B n (stL B n p) := by unfold nxL; rw [if_neg h1, if_pos hk]
      rw [e] at hi
      unfold enS at hi
      exact runE_in (P := isDg) (f := n - stL B n p) (p := stL B n p) (by omega) (by omega)
    have h7 := key _ (by omega) hd
    have h8 : 10 ^ (nxL B n p - stL B n p) ≤ 10 ^ 4 := Nat.pow_le_pow_right (by decide) (by omega)
    rw [nI_i (by omega)]
    omega
theorem vl_Vl {B : Nat → Int32} {n p : Nat} (h : tkL B n p = 2 ∨ tkL B n p = 3) (nm : Nat → Int32) : Vl nm [vlL B n p] (if 0 ≤ (vlL B n p).toInt then vlL B n p else nm (-1 - (vlL B n p).toInt).toNat) := by
  intro stk
  rw [exL_1, exI, if_pos (vl_6 h)]
theorem nx_tk {B : Nat → Int32} {n p : Nat} {t : Int32} (h : tkL B n p = t) (h0 : ¬ t = 0) (h1 : ¬ t = 1) : p < nxL B n p := by
  have := nx_gt (B := B) (n := n) (p := p) (by rw [h]; exact h0) (by rw [h]; exact h1)
  have := stL_ge B n p
  omega
theorem onP_gd {B : Nat → Int32} {n : Nat} {can : Bool} {ei on : Nat → PR} (h1 : can = true → GdP n ei) (h2 : can = true → GdP n on) : GdP n (onP B n can ei on) := by
  intro p hp
  have hst := stL_le B hp
  have hnx := nx_le B hp
  unfold onP
  split
  · rename_i ht
    have hg : p < nxL B n p := by rcases ht with ht | ht <;> exact nx_tk ht (by decide) (by decide)
    refine ⟨fun c q e => ?_, fun z e => by cases e⟩
    cases e
    exact ⟨hg, hnx, by simp only [List.length_cons, List.length_nil]; omega, fun s hs => by rw [List.mem_singleton.mp hs]; have := vl_6 ht; unfold okS; omega, fun nm => ⟨_, vl_Vl ht nm⟩⟩
  · split
    · rename_i ht
      have hg := nx_tk ht.1 (by decide) (by decide)
      obtain ⟨s1, s2⟩ := h2 ht.2 _ hnx
      cases hr : on (nxL B n p) with
      | inl z => exact ⟨fun c' q' e => by (try dsimp only at e); cases e, fun z' e => by (try dsimp only at e); cases e; exact s2 z hr⟩
      | inr cq =>
        obtain ⟨c, q⟩ := cq
        exact ⟨fun c' q' e => by (try dsimp only at e); cases e; exact (s1 c q hr).un hg (Or.inr rfl), fun z' e => by (try dsimp only at e); cases e⟩
    · split
      · rename_i ht
        have hg := nx_tk ht.1 (by decide) (by decide)
        obtain ⟨s1, s2⟩ := h1 ht.2 _ hnx
        cases hr : ei (nxL B n p) with
        | inl z => exact ⟨fun c' q' e => by (try dsimp only at e); cases e, fun z' e => by (try dsimp only at e); cases e; exact s2 z hr⟩
        | inr cq =>
          obtain ⟨c, q⟩ := cq
          have hq := (s1 c q hr).2.1
          dsimp only
          split
          · rename_i h41
            exact ⟨fun c' q' e => by cases e; exact (s1 c q hr).more (by omega) (Nat.le_of_lt (nx_tk h41 (by decide) (by decide))) (nx_le B hq), fun z' e => by cases e⟩
          · exact ⟨fun c' q' e => by cases e, fun z' e => by cases e; exact stL_le B hq⟩
      · exact ⟨fun c' q' e => by cases e, fun z' e => by cases e; exact hst⟩
theorem cmP_gd {B : Nat → Int32} {n : Nat} {su : Nat → PR} (h1 : GdP n su) : GdP n (cmP B n su) := by
  intro p hp
  obtain ⟨s1, s2⟩ := h1 p hp
  unfold cmP
  cases hr : su p with
  | inl z => exact ⟨fun c' q' e => by (try dsimp only at e); cases e, fun z' e => by (try dsimp only at e); cases e; exact s2 z hr⟩
  | inr cq =>
    obtain ⟨c, q⟩ := cq
    have hg := s1 c q hr
    dsimp only
    by_cases h0 : opC (tkL B n q) = 0
    · rw [if_pos h0]
      exact ⟨fun c' q' e => by cases e; exact hg, fun z' e => by cases e⟩
    · rw [if_neg h0]
      have hk := op_tk (B := B) (n := n) (q := q) opC_ok.1 opC_ok.2.1 h0
      have hge := stL_ge B n q
      obtain ⟨r1, r2⟩ := h1 _ (nx_le B hg.2.1)
      cases hr2 : su (nxL B n q) with
      | inl z => exact ⟨fun c' q' e => by (try dsimp only at e); cases e, fun z' e => by (try dsimp only at e); cases e; exact r2 z hr2⟩
      | inr cq2 =>
        obtain ⟨c2, q2⟩ := cq2
        exact ⟨fun c' q' e => by (try dsimp only at e); cases e; exact hg.op (by omega) (r1 c2 q2 hr2) (opC_ok.2.2 _ h0), fun z' e => by (try dsimp only at e); cases e⟩
theorem dnP_gd {B : Nat → Int32} {n : Nat} {can : Bool} {dn su : Nat → PR} (h1 : GdP n su) (h2 : can = true → GdP n dn) : GdP n (dnP B n can dn su) := by
  intro p hp
  unfold dnP
  split
  · rename_i ht
    have hg := nx_tk ht.1 (by decide) (by decide)
    obtain ⟨s1, s2⟩ := h2 ht.2 _ (nx_le B hp)
    cases hr : dn (nxL B n p) with
    | inl z => exact ⟨fun c' q' e => by (try dsimp only at e); cases e, fun z' e => by (try dsimp only at e); cases e; exact s2 z hr⟩
    | inr cq =>
      obtain ⟨c, q⟩ := cq
      exact ⟨fun c' q' e => by (try dsimp only at e); cases e; exact (s1 c q hr).un hg (Or.inl rfl), fun z' e => by (try dsimp only at e); cases e⟩
  · exact cmP_gd h1 p hp
theorem lv_gd (B : Nat → Int32) (n : Nat) : ∀ o, GdP n (oneP B n o) ∧ GdP n (denP B n o) ∧ GdP n (eitP B n o)
  | 0 => by
    have h1 : GdP n (oneP B n 0) := onP_gd (fun h => by cases h) (fun h => by cases h)
    have h2 : GdP n (denP B n 0) := dnP_gd (thL_gd opA_ok (thL_gd opT_ok h1)) (fun h => by cases h)
    exact ⟨h1, h2, thL_gd opO_ok (thL_gd opN_ok h2)⟩
  | o + 1 => by
    obtain ⟨g1, g2, g3⟩ := lv_gd B n o
    have h1 : GdP n (oneP B n (o + 1)) := onP_gd (fun _ => g3) (fun _ => g1)
    have h2 : GdP n (denP B n (o + 1)) := dnP_gd (thL_gd opA_ok (thL_gd opT_ok h1)) (fun _ => g2)
    exact ⟨h1, h2, thL_gd opO_ok (thL_gd opN_ok h2)⟩
theorem ter_gd (B : Nat → Int32) (n o : Nat) : GdP n (terP B n o) := thL_gd opT_ok (lv_gd B n o).1
theorem sum_gd (B : Nat → Int32) (n o : Nat) : GdP n (sumP B n o) := thL_gd opA_ok (ter_gd B n o)
theorem bot_gd (B : Nat → Int32) (n o : Nat) : GdP n (botP B n o) := thL_gd opN_ok (lv_gd B n o).2.1
