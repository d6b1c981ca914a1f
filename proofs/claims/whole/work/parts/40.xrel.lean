/-! THE RELATION of class X's world to the reference's state -/
theorem at_cong {A A' : Nat → Nat → Int32} {c set : Int32} (h : ∀ s, s < 16 → A' 11 s = A 11 s) : atS A' c set = atS A c set :=
  itL_cong (fun k a hk => by unfold atF onF; rw [h k hk])
theorem NtR.cong {I I' : Nat → Int32} {A A' : Nat → Nat → Int32} {al ho gr : Int32} {wh la ly : Nat → Int32} {kn : Nat → Option Nat} {tl : va_W} (h : NtR I A al ho gr wh la ly kn tl) (e12 : I' 12 = I 12) (e13 : I' 13 = I 13) (e14 : I' 14 = I 14) (hA : ∀ s, s < 16 → A' 7 s = A 7 s ∧ A' 8 s = A 8 s ∧ A' 9 s = A 9 s ∧ A' 10 s = A 10 s ∧ A' 11 s = A 11 s) : NtR I' A' al ho gr wh la ly kn tl := by
  refine ⟨by rw [e12]; exact h.al, by rw [e13]; exact h.ho, by rw [e14]; exact h.gr, by rw [e12]; exact h.s16, fun s hs => ?_, fun c hc => by rw [e12, at_cong (fun s hs => (hA s hs).2.2.2.2)]; exact h.ly hc⟩
  obtain ⟨a7, a8, a9, a10, a11⟩ := hA s hs
  rw [e12, a7, a8, a9, a10, a11]
  exact ⟨h.wh hs, h.la hs, h.k0 hs, fun hb => ⟨h.k1 hs hb, h.kd hs hb, h.nu hs hb, h.ok hs hb, h.cv hs hb⟩⟩
theorem TxOk.cong {A A' : Nat → Nat → Int32} {t : Nat} {cd : CD} (h : TxOk A t cd) (h2 : A' 2 t = A 2 t) (h1 : ∀ i, i < 160 → bM A' t i = bM A t i) (hx : ∀ n, n ≤ 160 → txP (bM A t) n = .inr cd → txP (bM A' t) n = .inr cd) : TxOk A' t cd := by
  obtain ⟨ht, n, hn, e2, hB, hP⟩ := h
  exact ⟨ht, n, hn, by rw [h2]; exact e2, fun i hi => by rw [h1 i (by omega)]; exact hB i hi, hx n hn hP⟩
theorem TxR.more {G : GT} {cd : CD} {num : Int32} {a : Nat} {tl : va_W} (h : TxR G cd num a tl) (u : va_W) : TxR G cd num a (tl ++ u) := by
  obtain ⟨q, q1, q2, c, e, f, g, h1, h2, h3, h4, h5⟩ := h
  exact ⟨q, q1, q2, c, e, f, g, z_appL _ _ h1, z_appL _ _ h2, z_appL _ _ h3, h4, h5⟩
def TxS (G : GT) (I : Nat → Int32) (A : Nat → Nat → Int32) (n1 : Int32) (k2 : Nat → Option Nat) (tl : va_W) (m : Nat) : Prop := 1 ≤ m ∧ m ≤ 6 ∧ I 3 = nI m ∧ n1 = nI m ∧ ∀ t, t < m → ∃ (a : Nat) (cd : CD), k2 t = some a ∧ TxOk A t cd ∧ TxR G cd (nI t) a tl
def RuS (i : Int32) (k2 : Nat → Option Nat) (r0 m : Nat) : Prop := ∃ t, t < m ∧ i = nI t ∧ k2 t = some r0
def RdS (I : Nat → Int32) (A : Nat → Nat → Int32) (n0 : Int32) (b : Nat → Int32) : Prop := ∃ k, k ≤ 160 ∧ I 6 = nI k ∧ n0 = nI k ∧ Tp (A 5) k b
def kpA (A : Nat → Nat → Int32) : Nat → Nat → Int32 := fun j s => if j = 7 then A 30 s else if j = 8 then A 30 (16 + s) else if j = 9 then A 30 (32 + s) else if j = 10 then A 30 (48 + s) else A 30 (64 + s)
def KpS (I : Nat → Int32) (A : Nat → Nat → Int32) (N : Nat → Int32) (R : Nat → Nat → Int32) (K : Nat → Nat → Option Nat) (r : Nat → Nat) (tl : va_W) (m : Nat) : Prop := (I 31 = 0 ∧ N 5 = 0) ∨ (¬ I 31 = 0 ∧ ¬ N 5 = 0 ∧ NtR (bkI I) (kpA A) (N 6) (N 7) (N 8) (R 4) (R 5) (R 6) (K 1) tl ∧ RuS (I 35) (K 2) (r 1) m)
def ShS (A : Nat → Nat → Int32) (N : Nat → Int32) (R : Nat → Nat → Int32) : Prop := ∀ j, j < 4 → (A 36 j = 0 ∧ N (10 + 2 * j) = -1) ∨ (¬ A 36 j = 0 ∧ N (10 + 2 * j) = A 37 j ∧ 0 ≤ (A 37 j).toInt ∧ (A 37 j).toInt ≤ 2 ∧ N (11 + 2 * j) = A 38 j ∧ 0 ≤ (A 38 j).toInt ∧ (A 38 j).toInt ≤ 40 ∧ ∀ i, i < (A 38 j).toInt.toNat → R (7 + j) i = A 39 (40 * j + i))
def XRel (G : GT) (I : Nat → Int32) (A : Nat → Nat → Int32) (N : Nat → Int32) (R : Nat → Nat → Int32) (K : Nat → Nat → Option Nat) (r : Nat → Nat) (tl : va_W) : Prop := ∃ m, NtR I A (N 2) (N 3) (N 4) (R 1) (R 2) (R 3) (K 0) tl ∧ TxS G I A (N 1) (K 2) tl m ∧ RuS (I 4) (K 2) (r 0) m ∧ RdS I A (N 0) (R 0) ∧ KpS I A N R K r tl m ∧ ShS A N R
/-- a public method's end: its answer, and the relation again -/
def XP (G : GT) (x : Nat → Nat) (v0 : Option Value) (I : Nat → Int32) (A : Nat → Nat → Int32) : Option Value → va_W → Prop := fun v w => v = v0 ∧ ∃ (N : Nat → Int32) (R : Nat → Nat → Int32) (K : Nat → Nat → Option Nat) (r : Nat → Nat) (S : Nat → Int32) (T : Nat → Nat → Int32) (tl : va_W), w = XW G x N R K r S T tl ∧ XRel G I A N R K r tl
section
variable {G : GT} {I I' : Nat → Int32} {A A' : Nat → Nat → Int32} {N N' : Nat → Int32} {R R' : Nat → Nat → Int32} {K K' : Nat → Nat → Option Nat} {r r' : Nat → Nat} {tl : va_W}
theorem XP.of {x : Nat → Nat} {S : Nat → Int32} {T : Nat → Nat → Int32} {z z0 : Int32} (h : z = z0) (hx : XRel G I A N R K r tl) : XP G x (some (.int z0)) I A (some (.int z)) (XW G x N R K r S T tl) := ⟨by rw [h], N, R, K, r, S, T, tl, rfl, hx⟩
theorem XP.ofl {x : Nat → Nat} {S : Nat → Int32} {T : Nat → Nat → Int32} {z z0 : Int64} (h : z = z0) (hx : XRel G I A N R K r tl) : XP G x (some (.long z0)) I A (some (.long z)) (XW G x N R K r S T tl) := ⟨by rw [h], N, R, K, r, S, T, tl, rfl, hx⟩
theorem XRel.nt (h : XRel G I A N R K r tl) : NtR I A (N 2) (N 3) (N 4) (R 1) (R 2) (R 3) (K 0) tl := h.choose_spec.1
theorem TxOk.uniq {t : Nat} {cd cd' : CD} (h : TxOk A t cd) (h' : TxOk A t cd') : cd = cd' := by
  obtain ⟨_, n, hn, e, _, hP⟩ := h
  obtain ⟨_, n', hn', e', _, hP'⟩ := h'
  rw [e, nI_eq (by omega) (by omega)] at e'
  subst e'
  rw [hP] at hP'
  exact Sum.inr.inj hP'
theorem XRel.tx {t : Nat} {cd : CD} (h : XRel G I A N R K r tl) (hT : TxOk A t cd) (h4 : I 4 = nI t) : TxR G cd (nI t) (r 0) tl := by
  obtain ⟨m, _, ⟨_, hm, _, _, hX⟩, ⟨t', ht', e4, eK⟩, _⟩ := h
  have ht : t < 6 := hT.1
  rw [h4, nI_eq (by omega) (by omega)] at e4
  subst e4
  obtain ⟨a, cd', e1, e2, e3⟩ := hX t ht'
  rw [eK] at e1
  rw [Option.some.inj e1, hT.uniq e2]; exact e3
theorem XRel.cd (h : XRel G I A N R K r tl) : ∃ t cd, I 4 = nI t ∧ TxOk A t cd := by
  obtain ⟨m, _, ⟨_, hm, _, _, hX⟩, ⟨t, ht, e4, eK⟩, _⟩ := h
  obtain ⟨a, cd, e1, e2, e3⟩ := hX t ht
  exact ⟨t, cd, e4, e2⟩
/-- the net alone has changed -/
theorem XRel.net (h : XRel G I A N R K r tl) (u : va_W) (hI : ∀ i, ¬ (12 ≤ i ∧ i ≤ 14) → I' i = I i) (hA : ∀ j, ¬ (7 ≤ j ∧ j ≤ 11) → A' j = A j) (hN : ∀ i, ¬ (2 ≤ i ∧ i ≤ 4) → N' i = N i) (hR : ∀ i, ¬ (1 ≤ i ∧ i ≤ 3) → R' i = R i) (hK : ∀ i, ¬ i = 0 → K' i = K i) (hn : NtR I' A' (N' 2) (N' 3) (N' 4) (R' 1) (R' 2) (R' 3) (K' 0) (tl ++ u)) : XRel G I' A' N' R' K' r (tl ++ u) := by
  obtain ⟨m, h1, ⟨t1, t2, t3, t4, t5⟩, h3, ⟨k, k1, k2, k3, k4⟩, h5, h6⟩ := h
  refine ⟨m, hn, ⟨t1, t2, by rw [hI 3 (by omega)]; exact t3, by rw [hN 1 (by omega)]; exact t4, fun t ht => ?_⟩, ?_, ⟨k, k1, by rw [hI 6 (by omega)]; exact k2, by rw [hN 0 (by omega)]; exact k3, by rw [hA 5 (by omega), hR 0 (by omega)]; exact k4⟩, ?_, ?_⟩
  · obtain ⟨a, cd, e1, e2, e3⟩ := t5 t ht
    have eb : bM A' t = bM A t := by funext i; unfold bM; rw [hA 1 (by omega)]
    exact ⟨a, cd, by rw [hK 2 (by omega)]; exact e1, e2.cong (by rw [hA 2 (by omega)]) (fun i _ => by rw [eb]) (fun n _ hP => by rw [eb]; exact hP), e3.more u⟩
  · rw [hI 4 (by omega), hK 2 (by omega)]; exact h3
  · rcases h5 with ⟨g1, g2⟩ | ⟨g1, g2, g3, g4⟩
    · exact Or.inl ⟨by rw [hI 31 (by omega)]; exact g1, by rw [hN 5 (by omega)]; exact g2⟩
    · refine Or.inr ⟨by rw [hI 31 (by omega)]; exact g1, by rw [hN 5 (by omega)]; exact g2, ?_, by rw [hI 35 (by omega), hK 2 (by omega)]; exact g4⟩
      rw [hN 6 (by omega), hN 7 (by omega), hN 8 (by omega), hR 4 (by omega), hR 5 (by omega), hR 6 (by omega), hK 1 (by omega)]
      have ek : kpA A' = kpA A := by funext j s; unfold kpA; rw [hA 30 (by omega)]
      rw [ek]
      exact (g3.more u).cong (hI 32 (by omega)) (hI 33 (by omega)) (hI 34 (by omega)) (fun s hs => ⟨rfl, rfl, rfl, rfl, rfl⟩)
  · intro j hj
    have := h6 j hj
    rw [hA 36 (by omega), hA 37 (by omega), hA 38 (by omega), hA 39 (by omega), hN _ (by omega), hN _ (by omega), hR _ (by omega)]; exact this
theorem XRel.net0 (h : XRel G I A N R K r tl) (hI : ∀ i, ¬ (12 ≤ i ∧ i ≤ 14) → I' i = I i) (hA : ∀ j, ¬ (7 ≤ j ∧ j ≤ 11) → A' j = A j) (hN : ∀ i, ¬ (2 ≤ i ∧ i ≤ 4) → N' i = N i) (hR : ∀ i, ¬ (1 ≤ i ∧ i ≤ 3) → R' i = R i) (hK : ∀ i, ¬ i = 0 → K' i = K i) (hn : NtR I' A' (N' 2) (N' 3) (N' 4) (R' 1) (R' 2) (R' 3) (K' 0) tl) : XRel G I' A' N' R' K' r tl := by
  have := h.net [] hI hA hN hR hK (by rw [List.append_nil]; exact hn)
  rwa [List.append_nil] at this
end
theorem upd_ne {α : Type} {f : Nat → α} {i j : Nat} {v : α} (h : ¬ j = i) : (fun q => if q = i then v else f q) j = f j := if_neg h
