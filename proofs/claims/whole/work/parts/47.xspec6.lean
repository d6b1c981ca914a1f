/-! a TEXT's grammar reads only its own bytes -/
section
variable {B B' : Nat → Int32} {n : Nat}
theorem runE_c (h : ∀ i, i < n → B i = B' i) (P : Int32 → Bool) : ∀ f p, runE P B n f p = runE P B' n f p
  | 0, _ => rfl
  | f + 1, p => by
    unfold runE
    by_cases hp : p < n
    · rw [h p hp, runE_c h P f (p + 1)]
    · rw [if_neg (fun q => hp q.1), if_neg (fun q => hp q.1)]
theorem enS_c (h : ∀ i, i < n → B i = B' i) (P : Int32 → Bool) (p : Nat) : enS P B n p = enS P B' n p := runE_c h P _ _
theorem stL_c (h : ∀ i, i < n → B i = B' i) (p : Nat) : stL B n p = stL B' n p := enS_c h _ _
theorem kdL_c (h : ∀ i, i < n → B i = B' i) (p : Nat) : kdL B n p = kdL B' n p := by
  unfold kdL kdB
  rw [← stL_c h]
  by_cases hs : n ≤ stL B n p
  · rw [if_pos hs, if_pos hs]
  · rw [if_neg hs, if_neg hs, h _ (by omega)]
theorem nxL_c (h : ∀ i, i < n → B i = B' i) (p : Nat) : nxL B n p = nxL B' n p := by
  unfold nxL
  rw [← kdL_c h, ← stL_c h, enS_c h, enS_c h]
theorem nx_in {p i : Nat} (hi : i < nxL B n p - stL B n p) : stL B n p + i < n := by
  by_cases k0 : kdL B n p = 0
  · rw [nx_0 (by omega) (by omega) (by omega)] at hi; omega
  · have h1 := kd_lt k0
    have h2 := stL_ge B n p
    have h3 := nx_le B (n := n) (p := p) (by omega)
    omega
theorem wlS_c (h : ∀ i, i < n → B i = B' i) (p : Nat) : wlS B (stL B n p) (nxL B n p) = wlS B' (stL B' n p) (nxL B' n p) := by
  rw [← stL_c h, ← nxL_c h]
  unfold wlS
  refine List.map_congr_left (fun i hi => h _ (nx_in (List.mem_range.mp hi)))
theorem tkL_c (h : ∀ i, i < n → B i = B' i) (p : Nat) : tkL B n p = tkL B' n p := by
  unfold tkL
  rw [← kdL_c h, wlS_c h, ← stL_c h, ← nxL_c h]
  by_cases k3 : kdL B n p = 3
  · rw [h _ (kd_lt (by omega))]
  · rw [if_neg k3, if_neg k3]
theorem nvS_c {s : Nat} : ∀ {k : Nat}, (∀ i, i < k → B (s + i) = B' (s + i)) → nvS B s k = nvS B' s k
  | 0, _ => rfl
  | k + 1, hk => by unfold nvS; rw [nvS_c (fun i hi => hk i (by omega)), hk k (by omega)]
theorem vlL_c (h : ∀ i, i < n → B i = B' i) (p : Nat) : vlL B n p = vlL B' n p := by
  unfold vlL
  rw [← kdL_c h, wlS_c h, ← stL_c h, ← nxL_c h, nvS_c (B := B) (B' := B') (fun i hi => h _ (nx_in hi))]
theorem lpS_c (h : ∀ i, i < n → B i = B' i) (op : Int32 → Int32) {sub sub' : Nat → PR} (hs : sub = sub') : ∀ f c q, lpS B n op sub f c q = lpS B' n op sub' f c q
  | 0, _, _ => rfl
  | f + 1, c, q => by
    subst hs
    unfold lpS
    rw [← tkL_c h, ← nxL_c h]
    split
    · rfl
    · cases sub (nxL B n q) with
      | inl z => rfl
      | inr cq => exact lpS_c h op rfl f _ _
theorem thL_c (h : ∀ i, i < n → B i = B' i) (op : Int32 → Int32) {sub sub' : Nat → PR} (hs : sub = sub') : thL B n sub op = thL B' n sub' op := by
  funext p
  subst hs
  unfold thL
  cases sub p with
  | inl z => rfl
  | inr cq => exact lpS_c h op rfl _ _ _
theorem onP_c (h : ∀ i, i < n → B i = B' i) (can : Bool) {e e' o o' : Nat → PR} (he : e = e') (ho : o = o') : onP B n can e o = onP B' n can e' o' := by
  funext p
  subst he; subst ho
  unfold onP
  rw [← tkL_c h, ← nxL_c h, ← vlL_c h, ← stL_c h]
  have e1 : ∀ q, tkL B' n q = tkL B n q := fun q => (tkL_c h q).symm
  have e2 : ∀ q, nxL B' n q = nxL B n q := fun q => (nxL_c h q).symm
  have e3 : ∀ q, stL B' n q = stL B n q := fun q => (stL_c h q).symm
  simp only [e1, e2, e3]
theorem cmP_c (h : ∀ i, i < n → B i = B' i) {s s' : Nat → PR} (hs : s = s') : cmP B n s = cmP B' n s' := by
  funext p
  subst hs
  unfold cmP
  have e1 : ∀ q, tkL B' n q = tkL B n q := fun q => (tkL_c h q).symm
  have e2 : ∀ q, nxL B' n q = nxL B n q := fun q => (nxL_c h q).symm
  simp only [e1, e2]
theorem dnP_c (h : ∀ i, i < n → B i = B' i) (can : Bool) {d d' s s' : Nat → PR} (hd : d = d') (hs : s = s') : dnP B n can d s = dnP B' n can d' s' := by
  funext p
  subst hd
  unfold dnP
  rw [← tkL_c h, ← nxL_c h, cmP_c h hs]
theorem lvP_c (h : ∀ i, i < n → B i = B' i) : ∀ o, lvP B n o = lvP B' n o
  | 0 => by
    have h1 : oneP B n 0 = oneP B' n 0 := by rw [oneP_0, oneP_0]; exact onP_c h _ rfl rfl
    have h2 : denP B n 0 = denP B' n 0 := by rw [denP_0, denP_0]; exact dnP_c h _ rfl (thL_c h _ (thL_c h _ h1))
    have h3 : eitP B n 0 = eitP B' n 0 := thL_c h _ (thL_c h _ h2)
    exact Prod.ext h1 (Prod.ext h2 h3)
  | o + 1 => by
    have ih := lvP_c h o
    have h1 : oneP B n (o + 1) = oneP B' n (o + 1) := by rw [oneP_s, oneP_s]; exact onP_c h _ (by unfold eitP; rw [ih]) (by unfold oneP; rw [ih])
    have h2 : denP B n (o + 1) = denP B' n (o + 1) := by rw [denP_s, denP_s]; exact dnP_c h _ (by unfold denP; rw [ih]) (thL_c h _ (thL_c h _ h1))
    have h3 : eitP B n (o + 1) = eitP B' n (o + 1) := thL_c h _ (thL_c h _ h2)
    exact Prod.ext h1 (Prod.ext h2 h3)
theorem parP_c (h : ∀ i, i < n → B i = B' i) (k : Int32) (p : Nat) : parP B n k p = parP B' n k p := by
  unfold parP
  have e0 : eitP B' n 5 = eitP B n 5 := by unfold eitP; rw [lvP_c h]
  have e1 : ∀ q, tkL B' n q = tkL B n q := fun q => (tkL_c h q).symm
  have e2 : ∀ q, nxL B' n q = nxL B n q := fun q => (nxL_c h q).symm
  have e3 : ∀ q, stL B' n q = stL B n q := fun q => (stL_c h q).symm
  simp only [e0, e1, e2, e3]
theorem txP_c (h : ∀ i, i < n → B i = B' i) : txP B n = txP B' n := by
  unfold txP
  have e0 : ∀ k p, parP B' n k p = parP B n k p := fun k p => (parP_c h k p).symm
  have e1 : ∀ q, tkL B' n q = tkL B n q := fun q => (tkL_c h q).symm
  have e3 : ∀ q, stL B' n q = stL B n q := fun q => (stL_c h q).symm
  simp only [e0, e1, e3]
end
