/-! what a copy leaves -/
theorem cpQ_inj {u : Int32} {m k k' : Nat} (h : k < m) (h' : k' < m) (e : cpQ u m k = cpQ u m k') : k = k' := by
  unfold cpQ at e
  split at e <;> omega
theorem cp_at {u : Int32} {s i o j m : Nat} {f : Nat → Int32} (hni : ∀ k k', k' < k → k < m → ¬ 40 * o + j + cpQ u m k' = 40 * s + i + cpQ u m k) : ∀ n, n ≤ m → (∀ k, k < n → itL (cpF u s i o j m) f n (40 * o + j + cpQ u m k) = f (40 * s + i + cpQ u m k)) ∧ ∀ p, (∀ k, k < n → ¬ p = 40 * o + j + cpQ u m k) → itL (cpF u s i o j m) f n p = f p
  | 0, _ => ⟨fun k hk => absurd hk (by omega), fun _ _ => rfl⟩
  | n + 1, hn => by
    obtain ⟨ih1, ih2⟩ := cp_at (f := f) hni n (by omega)
    have e : itL (cpF u s i o j m) f n (40 * s + i + cpQ u m n) = f (40 * s + i + cpQ u m n) := ih2 _ (fun k hk hh => hni n k hk (by omega) hh.symm)
    refine ⟨fun k hk => ?_, fun p hp => ?_⟩
    · rw [itL, cpF, e]
      by_cases ek : k = n
      · subst ek; rw [uq_s]
      · rw [uq_n (fun hh => ek (cpQ_inj (u := u) (m := m) (by omega) (by omega) (by omega)))]
        exact ih1 k (by omega)
    · rw [itL, cpF, uq_n (hp n (by omega))]
      exact ih2 p (fun k hk => hp k (by omega))
theorem cpQ_sur {u : Int32} {m q : Nat} (h : q < m) : ∃ k, k < m ∧ cpQ u m k = q := by
  unfold cpQ
  by_cases hu : u = 0
  · exact ⟨q, h, if_pos hu⟩
  · exact ⟨m - 1 - q, by omega, by rw [if_neg hu]; omega⟩
theorem cpQ_lt {u : Int32} {m k : Nat} (h : k < m) : cpQ u m k < m := by unfold cpQ; split <;> omega
theorem cp_ni {s i o j m : Nat} (hs : s < 4) (ho : o < 4) (hi : i + m ≤ 40) (hj : j + m ≤ 40) : ∀ k k', k' < k → k < m → ¬ 40 * o + j + cpQ (cpU (nI s) (nI i) (nI o) (nI j)) m k' = 40 * s + i + cpQ (cpU (nI s) (nI i) (nI o) (nI j)) m k := by
  intro k k' h1 h2 hh
  have b1 := cpQ_lt (u := cpU (nI s) (nI i) (nI o) (nI j)) h2
  have b2 := cpQ_lt (u := cpU (nI s) (nI i) (nI o) (nI j)) (show k' < m by omega)
  by_cases e : s = o
  · subst e
    unfold cpU at hh
    rw [if_pos rfl] at hh
    by_cases e2 : i < j
    · rw [if_pos ((nI_ltI (by omega) (by omega)).mpr e2)] at hh
      unfold cpQ at hh
      rw [if_neg (by decide), if_neg (by decide)] at hh
      omega
    · rw [if_neg (fun q => e2 ((nI_ltI (by omega) (by omega)).mp q))] at hh
      unfold cpQ at hh
      rw [if_pos rfl, if_pos rfl] at hh
      omega
  · omega
/-- a row of the sheet copied to, and the others -/
theorem cp_row {s i o j m : Nat} {f : Nat → Int32} (hs : s < 4) (ho : o < 4) (hi : i + m ≤ 40) (hj : j + m ≤ 40) : (∀ q, q < m → itL (cpF (cpU (nI s) (nI i) (nI o) (nI j)) s i o j m) f m (40 * o + (j + q)) = f (40 * s + (i + q))) ∧ ∀ p, (∀ q, q < m → ¬ p = 40 * o + (j + q)) → itL (cpF (cpU (nI s) (nI i) (nI o) (nI j)) s i o j m) f m p = f p := by
  obtain ⟨h1, h2⟩ := cp_at (f := f) (cp_ni hs ho hi hj) m (Nat.le_refl _)
  refine ⟨fun q hq => ?_, fun p hp => h2 p (fun k hk hh => hp _ (cpQ_lt hk) (hh.trans (Nat.add_assoc _ _ _)))⟩
  obtain ⟨k, hk, e⟩ := cpQ_sur (u := cpU (nI s) (nI i) (nI o) (nI j)) hq
  have h3 := h1 k hk
  rw [e] at h3
  rw [← Nat.add_assoc, ← Nat.add_assoc]; exact h3
theorem ho_sw {z i n0 : Int32} (hz : 0 ≤ z.toInt ∧ z.toInt ≤ 40) (hi : ¬ i < 0) (hn : ¬ n0 < 0) : z - i < n0 ↔ z - n0 < i := by
  rw [lt_i, i_0] at hi hn
  have l1 := i.toInt_lt
  have l2 := n0.toInt_lt
  rw [lt_i, lt_i, isub (by omega) (by omega), isub (by omega) (by omega)]
  omega
theorem ho_iff {z i n0 : Int32} (hz : 0 ≤ z.toInt ∧ z.toInt ≤ 40) : hoQ z i n0 = true ↔ ¬ i < 0 ∧ ¬ n0 < 0 ∧ ¬ z - n0 < i := by
  rw [hoQ, Bool.and_eq_true, Bool.and_eq_true, decide_eq_true_eq, decide_eq_true_eq, decide_eq_true_eq, and_assoc]
  constructor
  · rintro ⟨h1, h2, h3⟩; exact ⟨h1, h2, fun h => h3 ((ho_sw hz h1 h2).mpr h)⟩
  · rintro ⟨h1, h2, h3⟩; exact ⟨h1, h2, fun h => h3 ((ho_sw hz h1 h2).mp h)⟩
theorem cop_on {α : Type} {n0 i j zs zo : Int32} {off fine : α} (hs : 0 ≤ zs.toInt ∧ zs.toInt ≤ 40) (ho : 0 ≤ zo.toInt ∧ zo.toInt ≤ 40) (h1 : hoQ zs i n0 = true) (h2 : hoQ zo j n0 = true) : (if n0 < 0 then off else if i < 0 then off else if j < 0 then off else if zs - n0 < i then off else if zo - n0 < j then off else fine) = fine := by
  obtain ⟨a1, a2, a3⟩ := (ho_iff hs).mp h1
  obtain ⟨b1, b2, b3⟩ := (ho_iff ho).mp h2
  rw [if_neg a2, if_neg a1, if_neg b1, if_neg a3, if_neg b3]
theorem cop_off {α : Type} {n0 i j zs zo : Int32} {off fine : α} (hs : 0 ≤ zs.toInt ∧ zs.toInt ≤ 40) (ho : 0 ≤ zo.toInt ∧ zo.toInt ≤ 40) (h : ¬ (hoQ zs i n0 = true ∧ hoQ zo j n0 = true)) : (if n0 < 0 then off else if i < 0 then off else if j < 0 then off else if zs - n0 < i then off else if zo - n0 < j then off else fine) = off := by
  rw [ho_iff hs, ho_iff ho] at h
  by_cases a2 : n0 < 0
  · rw [if_pos a2]
  · rw [if_neg a2]
    by_cases a1 : i < 0
    · rw [if_pos a1]
    · rw [if_neg a1]
      by_cases b1 : j < 0
      · rw [if_pos b1]
      · rw [if_neg b1]
        by_cases a3 : zs - n0 < i
        · rw [if_pos a3]
        · rw [if_neg a3]
          by_cases b3 : zo - n0 < j
          · rw [if_pos b3]
          · exact absurd ⟨⟨a1, a2, a3⟩, b1, a2, b3⟩ h
theorem ShS.cpy {A : Nat → Nat → Int32} {N : Nat → Int32} {R : Nat → Nat → Int32} (h : ShS A N R) {s o i j m : Nat} (hs : s < 4) (ho : o < 4) (h36 : ¬ A 36 s = 0) (hi : i + m ≤ (A 38 s).toInt.toNat) (hi4 : i + m ≤ 40) (hj : j + m ≤ 40) : ShS (vf_upd A 39 (itL (cpF (cpU (nI s) (nI i) (nI o) (nI j)) s i o j m) (A 39) m)) N (vf_upd R (7 + o) (va_cpy (R (7 + s)) (R (7 + o)) i j m)) := by
  obtain ⟨c1, c2⟩ := cp_row (f := A 39) (i := i) (j := j) (m := m) hs ho hi4 hj
  obtain ⟨-, -, -, -, -, -, z8⟩ := ((h s hs).resolve_left (fun g => h36 g.1)).2
  refine h.one ho (fun k hk e => ⟨rfl, rfl, rfl, fun q hq => c2 _ (fun t ht => by omega)⟩) (fun k hk e => ⟨rfl, rfl, if_neg (by omega)⟩) ?_
  rcases h o ho with g | ⟨g1, g2, g3, g4, g5, g6, g7, g8⟩
  · exact Or.inl g
  · refine Or.inr ⟨g1, g2, g3, g4, g5, g6, g7, fun p hp => ?_⟩
    show vf_upd R (7 + o) (va_cpy (R (7 + s)) (R (7 + o)) i j m) (7 + o) p = itL (cpF (cpU (nI s) (nI i) (nI o) (nI j)) s i o j m) (A 39) m (40 * o + p)
    unfold vf_upd va_cpy
    rw [if_pos rfl]
    by_cases e : j ≤ p ∧ p < j + m
    · rw [if_pos e, show p = j + (p - j) by omega, c1 (p - j) (by omega), show j + (p - j) - j = p - j by omega]
      exact z8 _ (by omega)
    · rw [if_neg e, c2 _ (fun q hq => by omega)]
      exact g8 p hp
