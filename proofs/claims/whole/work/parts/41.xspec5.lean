/-! what goes, as one mask; how many stay -/
theorem sl_it (I : Nat → Int32) (A : Nat → Nat → Int32) (a : Int32) : ∀ k, k ≤ 16 → itL (slF I A) a k = a &&& (itL (orF (slQ I A)) 0 k ^^^ (-1))
  | 0, _ => by
    show a = a &&& ((0 : Int32) ^^^ (-1))
    apply b_ext; intro i hi
    rw [b_and, b_not _ hi, b_0]; simp
  | k + 1, hk => by
    rw [itL, itL, slF, orF, sl_it I A a k (by omega)]
    show _ &&& (if slQ I A k = true then _ else _) = _
    apply b_ext; intro i hi
    by_cases hp : slQ I A k = true
    · rw [if_pos hp, if_pos hp]
      simp only [b_and, b_or, b_not _ hi]
      cases bt a i <;> cases bt (itL (orF (slQ I A)) 0 k) i <;> cases bt (1 <<< (nI k &&& 31)) i <;> rfl
    · rw [if_neg hp, if_neg hp]
      simp only [b_and, b_or, b_not _ hi, b_0, b_m1 i hi, Bool.and_true, Bool.or_false]
theorem sl_M (I : Nat → Int32) (A : Nat → Nat → Int32) : slM I A = I 12 &&& (orS (slQ I A) 16 ^^^ (-1)) := sl_it I A (I 12) 16 (Nat.le_refl _)
theorem slQ_sub {I : Nat → Int32} {A : Nat → Nat → Int32} : Sb (orS (slQ I A) 16) (I 12) := fun i hi hb => by
  rw [orS_bt _ 16 (by decide) i hi, Bool.and_eq_true, decide_eq_true_eq] at hb
  have h := hb.2
  rw [slQ, Bool.and_eq_true, isS_bt hb.1] at h
  exact h.1
theorem sub_2 {x y : Int32} (h : Sb y x) : x &&& ((x &&& (y ^^^ (-1))) ^^^ (-1)) = y := by
  apply b_ext; intro i hi
  have := h i hi
  simp only [b_and, b_not _ hi]
  cases hx : bt x i <;> cases hy : bt y i <;> simp_all
theorem slip_1 (I : Nat → Int32) (A : Nat → Nat → Int32) : orS (slQ I A) 16 ||| faS A (I 12 &&& (orS (slQ I A) 16 ^^^ (-1))) = I 12 &&& (lvA A (slM I A) ^^^ (-1)) := by
  have h : Sb (slM I A) (I 12) := by rw [sl_M]; exact (Sb.rf _).and
  have h2 := pull_1 (A := A) h
  have e : I 12 &&& (slM I A ^^^ (-1)) = orS (slQ I A) 16 := by rw [sl_M]; exact sub_2 slQ_sub
  rw [e] at h2
  exact h2
theorem ct_sub {f g : Nat → Bool} : ∀ n, (∀ i, i < n → g i = true → f i = true) → fb_ct (fun i => f i && !g i) n + fb_ct g n = fb_ct f n
  | 0, _ => rfl
  | n + 1, h => by
    have ih := ct_sub (f := f) (g := g) n (fun i hi => h i (by omega))
    have hn := h n (by omega)
    rw [fb_ct_succ, fb_ct_succ, fb_ct_succ]
    by_cases hf : f n = true
    · by_cases hg : g n = true
      · simp only [hf, hg]; simp; omega
      · simp only [hf, hg]; simp; omega
    · by_cases hg : g n = true
      · exact absurd (hn hg) hf
      · simp only [hf, hg]; simp; omega
theorem pc_sub {x y : Int32} (h : Sb y x) : pcI (x &&& (y ^^^ (-1))) = pcI x - pcI y := by
  have e : pcn (x &&& (y ^^^ (-1))) + pcn y = pcn x := by
    have h1 := ct_sub (f := bt x) (g := bt y) 32 (fun i hi => h i hi)
    have h2 : pcn (x &&& (y ^^^ (-1))) = fb_ct (fun i => bt x i && !bt y i) 32 := fb_ct_cong (fun i hi => by rw [b_and, b_not _ hi])
    rw [h2]; exact h1
  have e2 : pcI (x &&& (y ^^^ (-1))) + pcI y = pcI x := by show nI _ + nI _ = nI _; rw [nI_add, e]
  rw [← e2, Int32.add_sub_cancel]
theorem lvA_sub {A : Nat → Nat → Int32} {x : Int32} : Sb (lvA A x) x := by unfold lvA; exact (Sb.rf _).and
theorem lbS_sub {cd : CD} {I : Nat → Int32} {A : Nat → Nat → Int32} {c strong : Int32} : Sb (lbS cd I A c strong) (I 12) := lbR_sub _ _
theorem brown_1 {I : Nat → Int32} {A : Nat → Nat → Int32} {la : Int32} (h : S16 (I 12)) : I 12 &&& (orS (grQ I A (I 13 + la)) 16 ^^^ (-1)) = orS (brP I A la) 16 := by
  apply b_ext; intro i hi
  rw [b_and, b_not _ hi, orS_bt _ 16 (by decide) i hi, orS_bt _ 16 (by decide) i hi]
  by_cases h16 : i < 16
  · have e : I 13 + la - A 10 i = I 13 - A 10 i + la := by rw [Int32.sub_eq_add_neg, Int32.sub_eq_add_neg, Int32.add_assoc, Int32.add_comm la, Int32.add_assoc]
    unfold grQ brP
    rw [e, isS_bt h16, decide_eq_true h16]
    cases bt (I 12) i <;> simp
  · rw [h i (by omega) hi, decide_eq_false h16]; rfl
