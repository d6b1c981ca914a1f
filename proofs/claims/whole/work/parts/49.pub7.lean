/-! THE PUBLIC METHODS of class X: the host -/
section
variable {G : GT} {I : Nat → Int32} {A A' : Nat → Nat → Int32} {N N' : Nat → Int32} {R R' : Nat → Nat → Int32} {K : Nat → Nat → Option Nat} {r : Nat → Nat} {tl : va_W}
theorem XRel.sh (hx : XRel G I A N R K r tl) (hA : ∀ k, ¬ (36 ≤ k ∧ k ≤ 39) → A' k = A k) (hN : ∀ i, ¬ 10 ≤ i → N' i = N i) (hR : ∀ i, ¬ 7 ≤ i → R' i = R i) (hs : ShS A' N' R') : XRel G I A' N' R' K r tl := by
  obtain ⟨m, h1, ⟨t1, t2, t3, t4, t5⟩, h3, ⟨k, k1, k2, k3, k4⟩, h5, h6⟩ := hx
  refine ⟨m, ?_, ⟨t1, t2, t3, by rw [hN 1 (by omega)]; exact t4, fun t ht => ?_⟩, h3, ⟨k, k1, k2, by rw [hN 0 (by omega)]; exact k3, by rw [hA 5 (by omega), hR 0 (by omega)]; exact k4⟩, ?_, hs⟩
  · rw [hN 2 (by omega), hN 3 (by omega), hN 4 (by omega), hR 1 (by omega), hR 2 (by omega), hR 3 (by omega)]
    exact h1.cong rfl rfl rfl (fun s _ => ⟨by rw [hA 7 (by omega)], by rw [hA 8 (by omega)], by rw [hA 9 (by omega)], by rw [hA 10 (by omega)], by rw [hA 11 (by omega)]⟩)
  · obtain ⟨a, cd, e1, e2, e3⟩ := t5 t ht
    have eb : bM A' t = bM A t := by funext i; unfold bM; rw [hA 1 (by omega)]
    exact ⟨a, cd, e1, e2.cong (by rw [hA 2 (by omega)]) (fun i _ => by rw [eb]) (fun n _ hP => by rw [eb]; exact hP), e3⟩
  · rcases h5 with ⟨g1, g2⟩ | ⟨g1, g2, g3, g4⟩
    · exact Or.inl ⟨g1, by rw [hN 5 (by omega)]; exact g2⟩
    · refine Or.inr ⟨g1, by rw [hN 5 (by omega)]; exact g2, ?_, g4⟩
      rw [hN 6 (by omega), hN 7 (by omega), hN 8 (by omega), hR 4 (by omega), hR 5 (by omega), hR 6 (by omega)]
      have ek : kpA A' = kpA A := by funext j s; unfold kpA; rw [hA 30 (by omega)]
      rw [ek]; exact g3
theorem XRel.ss (hx : XRel G I A N R K r tl) : ShS A N R := hx.choose_spec.2.2.2.2.2
theorem XRel.shok (hx : XRel G I A N R K r tl) : ShOk A := fun j hj h => by
  rcases hx.ss j hj with g | ⟨-, -, -, -, -, g1, g2, -⟩
  · exact absurd g.1 h
  · exact ⟨g1, g2⟩
/-- one sheet alone has changed -/
theorem ShS.one (h : ShS A N R) {j : Nat} (hj : j < 4) (hA : ∀ k, k < 4 → ¬ k = j → A' 36 k = A 36 k ∧ A' 37 k = A 37 k ∧ A' 38 k = A 38 k ∧ ∀ i, i < 40 → A' 39 (40 * k + i) = A 39 (40 * k + i)) (hN : ∀ k, k < 4 → ¬ k = j → N' (10 + 2 * k) = N (10 + 2 * k) ∧ N' (11 + 2 * k) = N (11 + 2 * k) ∧ R' (7 + k) = R (7 + k)) (hs : (A' 36 j = 0 ∧ N' (10 + 2 * j) = -1) ∨ (¬ A' 36 j = 0 ∧ N' (10 + 2 * j) = A' 37 j ∧ 0 ≤ (A' 37 j).toInt ∧ (A' 37 j).toInt ≤ 2 ∧ N' (11 + 2 * j) = A' 38 j ∧ 0 ≤ (A' 38 j).toInt ∧ (A' 38 j).toInt ≤ 40 ∧ ∀ i, i < (A' 38 j).toInt.toNat → R' (7 + j) i = A' 39 (40 * j + i))) : ShS A' N' R' := fun k hk => by
  by_cases e : k = j
  · subst e; exact hs
  · obtain ⟨a1, a2, a3, a4⟩ := hA k hk e
    obtain ⟨b1, b2, b3⟩ := hN k hk e
    rw [a1, a2, a3, b1, b2, b3]
    rcases h k hk with g | ⟨g1, g2, g3, g4, g5, g6, g7, g8⟩
    · exact Or.inl g
    · exact Or.inr ⟨g1, g2, g3, g4, g5, g6, g7, fun i hi => by rw [a4 i (by omega)]; exact g8 i hi⟩
end
