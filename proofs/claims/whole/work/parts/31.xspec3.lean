/-! what hangs: the least set that is closed; pulls; the weakest -/
def Cl (A : Nat → Nat → Int32) (set h : Int32) : Prop := (∀ k, k < 16 → bt set k = true → (∃ c, c < 5 ∧ bt (A 11 k) c = true) → bt h k = true) ∧ ∀ k i c, k < 16 → i < 16 → bt set k = true → bt h i = true → c < 32 → bt (A 11 k) c = true → bt (A 11 i) c = true → bt h k = true
def Lst (A : Nat → Nat → Int32) (set h : Int32) : Prop := Sb h set ∧ ∀ g, Cl A set g → Sb h g
theorem Sb.eq {x y : Int32} (h1 : Sb x y) (h2 : Sb y x) : x = y := by
  apply b_ext
  intro i hi
  cases hx : bt x i
  · cases hy : bt y i
    · rfl
    · exact absurd (h2 i hi hy) (by rw [hx]; decide)
  · exact (h1 i hi hx).symm
theorem Lst.one {A : Nat → Nat → Int32} {set h g : Int32} (h1 : Lst A set h) (h2 : Cl A set h) (h3 : Lst A set g) (h4 : Cl A set g) : h = g := Sb.eq (h1.2 g h4) (h3.2 h h2)
theorem and_ne {x y : Int32} : ¬ x &&& y = 0 ↔ ∃ c, c < 32 ∧ bt x c = true ∧ bt y c = true := by
  constructor
  · intro h
    obtain ⟨c, h1, h2⟩ := bt_ne h
    rw [b_and, Bool.and_eq_true] at h2
    exact ⟨c, h1, h2⟩
  · rintro ⟨c, h1, h2, h3⟩ e
    have h4 : bt (x &&& y) c = true := by rw [b_and, h2, h3]; rfl
    rw [e, b_0] at h4; exact absurd h4 (by decide)
/-! the reference's -/
def NIv (A : Nat → Nat → Int32) (set h net : Int32) : Prop := Lst A set h ∧ S16 h ∧ (∀ c, c < 32 → bt net c = true → c < 5 ∨ ∃ i, i < 16 ∧ bt h i = true ∧ bt (A 11 i) c = true) ∧ (∀ c, c < 5 → bt net c = true) ∧ ∀ i, i < 16 → bt h i = true → Sb (A 11 i) net
theorem NIv.add {A : Nat → Nat → Int32} {set h net : Int32} (v : NIv A set h net) {k : Nat} (hk : k < 16) (hs : bt set k = true) (ha : ¬ A 11 k &&& net = 0) : NIv A set (h ||| 1 <<< (nI k &&& 31)) (net ||| A 11 k) := by
  obtain ⟨⟨v1, v2⟩, v3, v4, v5, v6⟩ := v
  obtain ⟨c, hc, hc1, hc2⟩ := and_ne.mp ha
  have hbit : ∀ i, i < 32 → (bt (h ||| 1 <<< (nI k &&& 31)) i = true ↔ bt h i = true ∨ i = k) := fun i hi => by
    rw [b_or, b_bit (by omega) hi, Bool.or_eq_true, decide_eq_true_eq]
  refine ⟨⟨fun i hi h9 => ?_, fun g hg i hi h9 => ?_⟩, v3.or (S16.bit hk), fun c' hc' h9 => ?_, fun c' h9 => ?_, fun i hi h9 => ?_⟩
  · rcases (hbit i hi).mp h9 with e | e
    · exact v1 i hi e
    · rw [e]; exact hs
  · rcases (hbit i hi).mp h9 with e | e
    · exact v2 g hg i hi e
    · subst e
      rcases v4 c hc hc2 with h5 | ⟨j, hj, hj1, hj2⟩
      · exact hg.1 i hk hs ⟨c, h5, hc1⟩
      · exact hg.2 i j c hk hj hs (v2 g hg j (by omega) hj1) hc hc1 hj2
  · rw [b_or, Bool.or_eq_true] at h9
    rcases h9 with e | e
    · rcases v4 c' hc' e with h5 | ⟨j, hj, hj1, hj2⟩
      · exact Or.inl h5
      · exact Or.inr ⟨j, hj, (hbit j (by omega)).mpr (Or.inl hj1), hj2⟩
    · exact Or.inr ⟨k, hk, (hbit k (by omega)).mpr (Or.inr rfl), e⟩
  · rw [b_or, v5 c' h9]; rfl
  · intro c' hc' h10
    rw [b_or]
    rcases (hbit i (by omega)).mp h9 with e | e
    · rw [v6 i hi e c' hc' h10]; rfl
    · rw [← e, h10, Bool.or_true]
theorem flP_v {A : Nat → Nat → Int32} {set h net : Int32} (v : NIv A set h net) : ∀ n, n ≤ 16 → NIv A set (flP A set h net n).1 (flP A set h net n).2.1 ∧ ((flP A set h net n).2.2 = 0 → (flP A set h net n).1 = h ∧ (flP A set h net n).2.1 = net ∧ ∀ k, k < n → bt set k = true → bt h k = false → A 11 k &&& net = 0)
  | 0, _ => ⟨v, fun _ => ⟨rfl, rfl, fun k hk => by omega⟩⟩
  | n + 1, hn => by
    have ih := flP_v v n (by omega)
    have e : flP A set h net (n + 1) = flF A set n (flP A set h net n) := rfl
    rw [e]
    generalize flP A set h net n = a at ih
    unfold flF
    by_cases h1 : set >>> (nI n &&& 31) &&& 1 = 0
    · rw [if_pos h1]
      refine ⟨ih.1, fun h0 => ⟨(ih.2 h0).1, (ih.2 h0).2.1, fun k hk hs hf => ?_⟩⟩
      by_cases hkn : k = n
      · subst hkn; rw [sb0 (by omega), hs] at h1; exact absurd h1 (by decide)
      · exact (ih.2 h0).2.2 k (by omega) hs hf
    · rw [if_neg h1]
      have hs1 : bt set n = true := by
        cases hb : bt set n
        · exact absurd ((sb0 (by omega)).mpr hb) h1
        · rfl
      by_cases h2 : a.1 >>> (nI n &&& 31) &&& 1 = 1
      · rw [if_pos h2]
        refine ⟨ih.1, fun h0 => ⟨(ih.2 h0).1, (ih.2 h0).2.1, fun k hk hs hf => ?_⟩⟩
        by_cases hkn : k = n
        · subst hkn; rw [sb1 (by omega), (ih.2 h0).1, hf] at h2; exact absurd h2 (by decide)
        · exact (ih.2 h0).2.2 k (by omega) hs hf
      · rw [if_neg h2]
        by_cases h3 : A 11 n &&& a.2.1 = 0
        · rw [if_pos h3]
          refine ⟨ih.1, fun h0 => ⟨(ih.2 h0).1, (ih.2 h0).2.1, fun k hk hs hf => ?_⟩⟩
          by_cases hkn : k = n
          · subst hkn; rw [← (ih.2 h0).2.1]; exact h3
          · exact (ih.2 h0).2.2 k (by omega) hs hf
        · rw [if_neg h3]
          exact ⟨ih.1.add (by omega) hs1 h3, fun h0 => absurd h0 (show ¬ (1 : Int32) = 0 by decide)⟩
theorem flR_v {A : Nat → Nat → Int32} {set : Int32} : ∀ (f : Nat) (h net : Int32), NIv A set h net → 16 < pcn h + f → Lst A set (flR A set f h net) ∧ Cl A set (flR A set f h net)
  | 0, h, net, v, hf => by have := pcn_16 v.2.1; omega
  | f + 1, h, net, v, hf => by
    have h1 := flP_v v 16 (Nat.le_refl _)
    have h2 := flP_inv A set h net v.2.1 16 (Nat.le_refl _)
    unfold flR
    by_cases h0 : (flP A set h net 16).2.2 = 0
    · rw [if_pos h0]
      obtain ⟨e1, e2, e3⟩ := h1.2 h0
      rw [e1]
      obtain ⟨w1, w2, w3, w4, w5⟩ := v
      refine ⟨w1, fun k hk hs hc => ?_, fun k i c hk hi hs hb hc h5 h6 => ?_⟩
      · obtain ⟨c, hc1, hc2⟩ := hc
        cases hb : bt h k
        · exact absurd (e3 k hk hs hb) (and_ne.mpr ⟨c, by omega, hc2, w4 c hc1⟩)
        · rfl
      · cases hb2 : bt h k
        · exact absurd (e3 k hk hs hb2) (and_ne.mpr ⟨c, hc, h5, w5 i hi hb c hc h6⟩)
        · rfl
    · rw [if_neg h0]
      refine flR_v f _ _ h1.1 ?_
      rcases h2.2.2 with e | e
      · exact absurd e.1 h0
      · omega
theorem hg_M {A : Nat → Nat → Int32} {set : Int32} : Lst A set (hgM A set) ∧ Cl A set (hgM A set) := by
  refine flR_v 18 0 31 ⟨⟨fun i hi hb => ?_, fun g _ i hi hb => ?_⟩, S16_0, fun c hc hb => ?_, fun c hc => ?_, fun i hi hb => ?_⟩ (by omega)
  · rw [b_0] at hb; exact absurd hb (by decide)
  · rw [b_0] at hb; exact absurd hb (by decide)
  · have h : ∀ c, c < 32 → bt 31 c = true → c < 5 := by decide +kernel
    exact Or.inl (h c hc hb)
  · have h : ∀ c, c < 5 → bt 31 c = true := by decide +kernel
    exact h c hc
  · rw [b_0] at hb; exact absurd hb (by decide)
theorem lv_hg (A : Nat → Nat → Int32) (set : Int32) : lvA A set = hgM A set := by
  have h := (hg_M (A := A) (set := set)).1.1
  apply b_ext
  intro i hi
  unfold lvA faS
  rw [b_and, b_not _ hi, b_and, b_not _ hi]
  cases h1 : bt (hgM A set) i
  · cases bt set i <;> rfl
  · rw [h i hi h1]; rfl
/-! class X's -/
def h0F (ly : Nat → Int32) (mask : Int32) (c : Nat) (a : Int32) : Int32 := a ||| (ly c &&& mask)
def hgF (ly : Nat → Int32) (mask hung : Int32) (c : Nat) (m : Int32) : Int32 := if ly c &&& hung = 0 then m else m ||| (ly c &&& mask)
def hgP (ly : Nat → Int32) (mask hung : Int32) (n : Nat) : Int32 := itL (hgF ly mask hung) hung n
section HG
variable {I : Nat → Int32} {A : Nat → Nat → Int32} {x_al x_ho x_gr : Int32} {x_wh x_la x_ly : Nat → Int32} {x_kn : Nat → Option Nat} {tl : va_W}
theorem ly_bt (h : NtR I A x_al x_ho x_gr x_wh x_la x_ly x_kn tl) {mask : Int32} (hm : Sb mask (I 12)) {c k : Nat} (hc : c < 25) (hk : k < 32) : bt (x_ly c &&& mask) k = true ↔ k < 16 ∧ bt mask k = true ∧ bt (A 11 k) c = true := by
  rw [h.ly hc, at_and hc hm, at_bt hc hk, Bool.and_eq_true, Bool.and_eq_true, decide_eq_true_eq]
theorem cv_25 (h : NtR I A x_al x_ho x_gr x_wh x_la x_ly x_kn tl) {k c : Nat} (hk : k < 16) (hb : bt (I 12) k = true) (hc : c < 32) (h2 : bt (A 11 k) c = true) : c < 25 := by
  obtain ⟨c0, st, lg, hW⟩ := okW_WP (h.ok hk hb)
  rw [h.cv hk hb, cv_bt hW hc, inC_iff] at h2
  obtain ⟨i, h4, h5⟩ := h2
  rw [h5]; exact hW.2.2.2.2.1 i h4
def HIv (A : Nat → Nat → Int32) (set h : Int32) : Prop := Lst A set h ∧ ∀ k, k < 16 → bt set k = true → (∃ c, c < 5 ∧ bt (A 11 k) c = true) → bt h k = true
theorem h0_v (h : NtR I A x_al x_ho x_gr x_wh x_la x_ly x_kn tl) {mask : Int32} (hm : Sb mask (I 12)) : HIv A mask (itL (h0F x_ly mask) 0 5) := by
  have key : ∀ n, n ≤ 5 → ∀ k, k < 32 → (bt (itL (h0F x_ly mask) 0 n) k = true ↔ ∃ c, c < n ∧ k < 16 ∧ bt mask k = true ∧ bt (A 11 k) c = true) := by
    intro n
    induction n with
    | zero => intro _ k _; rw [show itL (h0F x_ly mask) 0 0 = 0 from rfl, b_0]; simp
    | succ n ih =>
      intro hn k hk
      rw [itL, h0F, b_or, Bool.or_eq_true, ih (by omega) k hk, ly_bt h hm (by omega) hk]
      constructor
      · rintro (⟨c, h1, h2⟩ | h2)
        · exact ⟨c, by omega, h2⟩
        · exact ⟨n, by omega, h2⟩
      · rintro ⟨c, h1, h2⟩
        by_cases e : c = n
        · subst e; exact Or.inr h2
        · exact Or.inl ⟨c, by omega, h2⟩
  have k5 := key 5 (Nat.le_refl _)
  refine ⟨⟨fun k hk hb => ?_, fun g hg k hk hb => ?_⟩, fun k hk hs hc => ?_⟩
  · obtain ⟨c, h1, h2, h3, h4⟩ := (k5 k hk).mp hb; exact h3
  · obtain ⟨c, h1, h2, h3, h4⟩ := (k5 k hk).mp hb; exact hg.1 k h2 h3 ⟨c, h1, h4⟩
  · obtain ⟨c, h1, h2⟩ := hc; exact (k5 k (by omega)).mpr ⟨c, h1, hk, hs, h2⟩
theorem hgP_v (h : NtR I A x_al x_ho x_gr x_wh x_la x_ly x_kn tl) {mask hung : Int32} (hm : Sb mask (I 12)) (v : HIv A mask hung) : ∀ n, n ≤ 25 → HIv A mask (hgP x_ly mask hung n) ∧ Sb hung (hgP x_ly mask hung n) ∧ ∀ c k i, c < n → k < 16 → i < 16 → bt mask k = true → bt hung i = true → bt (A 11 k) c = true → bt (A 11 i) c = true → bt (hgP x_ly mask hung n) k = true
  | 0, _ => ⟨v, Sb.rf _, fun c k i hc => by omega⟩
  | n + 1, hn => by
    obtain ⟨i1, i2, i3⟩ := hgP_v h hm v n (by omega)
    have e : hgP x_ly mask hung (n + 1) = hgF x_ly mask hung n (hgP x_ly mask hung n) := rfl
    rw [e]
    generalize hgP x_ly mask hung n = m at i1 i2 i3
    have hh : Sb hung (I 12) := v.1.1.tr hm
    unfold hgF
    by_cases h0 : x_ly n &&& hung = 0
    · rw [if_pos h0]
      refine ⟨i1, i2, fun c k i hc hk hi hs hb h5 h6 => ?_⟩
      by_cases ec : c = n
      · subst ec
        exact absurd h0 (fun e0 => by
          have h7 := (ly_bt h hh (c := c) (k := i) (by omega) (by omega)).mpr ⟨hi, hb, h6⟩
          rw [e0, b_0] at h7; exact absurd h7 (by decide))
      · exact i3 c k i (by omega) hk hi hs hb h5 h6
    · rw [if_neg h0]
      have hbit : ∀ k, k < 32 → (bt (m ||| (x_ly n &&& mask)) k = true ↔ bt m k = true ∨ (k < 16 ∧ bt mask k = true ∧ bt (A 11 k) n = true)) := fun k hk => by
        rw [b_or, Bool.or_eq_true, ly_bt h hm (by omega) hk]
      obtain ⟨j, hj, hj2⟩ := bt_ne h0
      obtain ⟨hj3, hj4, hj5⟩ := (ly_bt h hh (by omega) hj).mp hj2
      refine ⟨⟨⟨fun k hk hb => ?_, fun g hg k hk hb => ?_⟩, fun k hk hs hc => ?_⟩, fun k hk hb => ?_, fun c k i hc hk hi hs hb h5 h6 => ?_⟩
      · rcases (hbit k hk).mp hb with e1 | e1
        · exact i1.1.1 k hk e1
        · exact e1.2.1
      · rcases (hbit k hk).mp hb with e1 | e1
        · exact i1.1.2 g hg k hk e1
        · exact hg.2 k j n e1.1 hj3 e1.2.1 (v.1.2 g hg j hj hj4) (by omega) e1.2.2 hj5
      · exact (hbit k (by omega)).mpr (Or.inl (i1.2 k hk hs hc))
      · exact (hbit k hk).mpr (Or.inl (i2 k hk hb))
      · by_cases ec : c = n
        · subst ec; exact (hbit k (by omega)).mpr (Or.inr ⟨hk, hs, h5⟩)
        · exact (hbit k (by omega)).mpr (Or.inl (i3 c k i (by omega) hk hi hs hb h5 h6))
/-- a round that finds no more: that is what hangs -/
theorem hg_end (h : NtR I A x_al x_ho x_gr x_wh x_la x_ly x_kn tl) {mask hung : Int32} (hm : Sb mask (I 12)) (v : HIv A mask hung) (he : hgP x_ly mask hung 25 = hung) : hung = hgM A mask := by
  obtain ⟨i1, i2, i3⟩ := hgP_v h hm v 25 (Nat.le_refl _)
  rw [he] at i3
  refine Lst.one v.1 ⟨v.2, fun k i c hk hi hs hb hc h5 h6 => ?_⟩ hg_M.1 hg_M.2
  exact i3 c k i (cv_25 h hk (hm k (by omega) hs) hc h5) hk hi hs hb h5 h6
theorem hg_more (h : NtR I A x_al x_ho x_gr x_wh x_la x_ly x_kn tl) {mask hung : Int32} (hm : Sb mask (I 12)) (v : HIv A mask hung) (he : ¬ hgP x_ly mask hung 25 = hung) : pcn hung + 1 ≤ pcn (hgP x_ly mask hung 25) := by
  obtain ⟨i1, i2, i3⟩ := hgP_v h hm v 25 (Nat.le_refl _)
  have : ∃ k, k < 32 ∧ bt hung k = false ∧ bt (hgP x_ly mask hung 25) k = true := by
    refine Classical.byContradiction fun hx => he (Sb.eq (fun k hk hb => ?_) i2)
    cases h2 : bt hung k
    · exact absurd ⟨k, hk, h2, hb⟩ hx
    · rfl
  obtain ⟨k, hk, h1, h2⟩ := this
  exact pcn_lt i2 hk h1 h2
theorem hg_full (h : NtR I A x_al x_ho x_gr x_wh x_la x_ly x_kn tl) {mask hung : Int32} (hm : Sb mask (I 12)) (v : HIv A mask hung) (hf : 16 ≤ pcn hung) : hung = hgM A mask := by
  have hs : S16 hung := (v.1.1.tr hm).s16 h.s16
  have hall : ∀ k, k < 16 → bt hung k = true := by
    have e : fb_ct (bt hung) (16 + 16) = fb_ct (bt hung) 16 + fb_ct (fun k => bt hung (16 + k)) 16 := fb_ct_split _ _ _
    have e2 : fb_ct (fun k => bt hung (16 + k)) 16 = 0 := fb_ct_zero.mpr (fun k hk => hs (16 + k) (by omega) (by omega))
    have e3 := fb_ct_le (bt hung) 16
    have e4 : fb_ct (bt hung) (16 + 16) = pcn hung := rfl
    exact fb_ct_all.mp (by omega)
  exact Lst.one v.1 ⟨fun k hk _ _ => hall k hk, fun k _ _ hk _ _ _ _ _ _ => hall k hk⟩ hg_M.1 hg_M.2
end HG
/-! pulls -/
theorem upd_self (I : Nat → Int32) (k : Nat) : upd I k (I k) = I := by
  funext j; unfold upd; split
  · rename_i e; rw [e]
  · rfl
theorem not_0 (x : Int32) : x &&& ((0 : Int32) ^^^ (-1)) = x := by
  apply b_ext
  intro i hi
  rw [b_and, b_not _ hi, b_0]; simp
theorem lbR_0 {cd : CD} {I : Nat → Int32} {A : Nat → Nat → Int32} {c strong set : Int32} {F : Nat} (hF : 0 < F) (h : leC cd I A c strong set = 0) : lbR cd I A c strong F set = set := by
  obtain ⟨f, rfl⟩ : ∃ f, F = f + 1 := ⟨F - 1, by omega⟩
  rw [lbR, if_pos h, h, not_0]
theorem lbR_s {cd : CD} {I : Nat → Int32} {A : Nat → Nat → Int32} {c strong set : Int32} {F : Nat} (h : ¬ leC cd I A c strong set = 0) : lbR cd I A c strong (F + 1) set = lbR cd I A c strong F (set &&& (leC cd I A c strong set ^^^ (-1))) := by
  rw [lbR, if_neg h]
theorem le_less {cd : CD} {I : Nat → Int32} {A : Nat → Nat → Int32} {c strong set : Int32} (h : ¬ leC cd I A c strong set = 0) : pcn (set &&& (leC cd I A c strong set ^^^ (-1))) + 1 ≤ pcn set := by
  obtain ⟨k, hk, h1⟩ := bt_ne h
  refine pcn_lt (fun i hi hb => ?_) (k := k) hk ?_ (leC_sub hk h1)
  · rw [b_and, Bool.and_eq_true] at hb; exact hb.1
  · rw [b_and, b_not _ hk, h1]; simp
theorem pcn_z {x : Int32} (h : pcn x = 0) : x = 0 := by
  refine Classical.byContradiction fun h0 => ?_
  obtain ⟨k, hk, h1⟩ := bt_ne h0
  have := fb_ct_pos.mpr ⟨k, hk, h1⟩
  unfold pcn at h; omega
theorem leC_z {cd : CD} {I : Nat → Int32} {A : Nat → Nat → Int32} {c strong : Int32} : leC cd I A c strong 0 = 0 := by
  refine Classical.byContradiction fun h0 => ?_
  obtain ⟨k, hk, h1⟩ := bt_ne h0
  have h2 := leC_sub hk h1
  rw [b_0] at h2; exact absurd h2 (by decide)
/-- what is left lies in what was there -/
theorem lbR_sub {cd : CD} {I : Nat → Int32} {A : Nat → Nat → Int32} {c strong : Int32} : ∀ (F : Nat) (set : Int32), Sb (lbR cd I A c strong F set) set
  | 0, set => Sb.rf _
  | F + 1, set => by
    rw [lbR]
    split
    · exact (Sb.rf _).and
    · exact (lbR_sub F _).tr (Sb.rf _).and
theorem pull_1 {A : Nat → Nat → Int32} {th left : Int32} (h : Sb left th) : (th &&& (left ^^^ (-1))) ||| faS A (th &&& ((th &&& (left ^^^ (-1))) ^^^ (-1))) = th &&& (lvA A left ^^^ (-1)) := by
  have e : th &&& ((th &&& (left ^^^ (-1))) ^^^ (-1)) = left := by
    apply b_ext
    intro i hi
    rw [b_and, b_not _ hi, b_and, b_not _ hi]
    cases h1 : bt left i
    · cases bt th i <;> rfl
    · rw [h i hi h1]; rfl
  rw [e]
  apply b_ext
  intro i hi
  unfold lvA faS
  rw [b_or, b_and, b_not _ hi, b_and, b_not _ hi, b_and, b_not _ hi, b_and, b_not _ hi, b_and, b_not _ hi]
  cases h1 : bt left i
  · cases bt th i <;> simp
  · rw [h i hi h1]; simp
/-! the weakest -/
theorem ls_2 (cd : CD) (I : Nat → Int32) (A : Nat → Nat → Int32) (set on : Int32) : ∀ n, n ≤ 16 → (lsP cd I A set on n).1 = -1 ∨ ∃ k, k < n ∧ bt on k = true ∧ lsP cd I A set on n = (nI k, hoS cd I A k set)
  | 0, _ => Or.inl rfl
  | n + 1, hn => by
    have ih := ls_2 cd I A set on n (by omega)
    have e : lsP cd I A set on (n + 1) = lsF cd I A set on n (lsP cd I A set on n) := rfl
    rw [e]
    generalize lsP cd I A set on n = a at ih
    unfold lsF
    have more : (a.1 = -1 ∨ ∃ k, k < n ∧ bt on k = true ∧ a = (nI k, hoS cd I A k set)) → (a.1 = -1 ∨ ∃ k, k < n + 1 ∧ bt on k = true ∧ a = (nI k, hoS cd I A k set)) := by
      rintro (h | ⟨k, h1, h2⟩)
      · exact Or.inl h
      · exact Or.inr ⟨k, by omega, h2⟩
    by_cases h1 : on >>> (nI n &&& 31) &&& 1 = 1
    · rw [if_pos h1]
      have hb := (sb1 (by omega)).mp h1
      split
      · exact Or.inr ⟨n, by omega, hb, rfl⟩
      · split
        · exact Or.inr ⟨n, by omega, hb, rfl⟩
        · exact more ih
    · rw [if_neg h1]; exact more ih
theorem ls_k {cd : CD} {I : Nat → Int32} {A : Nat → Nat → Int32} {set on : Int32} (h : ¬ on = 0) (h16 : S16 on) : ∃ k, k < 16 ∧ bt on k = true ∧ lsP cd I A set on 16 = (nI k, hoS cd I A k set) := by
  rcases ls_inv cd I A set on 16 (Nat.le_refl _) with ⟨h1, -⟩ | ⟨k, h1, h2, h3⟩
  · obtain ⟨i, hi, hb⟩ := bt_ne h
    by_cases h16' : i < 16
    · rw [h1 i h16'] at hb; exact absurd hb (by decide)
    · rw [h16 i (by omega) hi] at hb; exact absurd hb (by decide)
  · rcases ls_2 cd I A set on 16 (Nat.le_refl _) with h4 | h4
    · rw [h3, eq_i, nI_i (by omega), show (-1 : Int32).toInt = -1 by decide] at h4; omega
    · exact h4
theorem at_del {A : Nat → Nat → Int32} {c : Nat} {set b : Int32} (hc : c < 25) : atS A (nI c) (set &&& b) = atS A (nI c) set &&& b := by
  rw [← at_and hc (oth := set &&& b) (set := set) (fun i hi hb => by rw [b_and, Bool.and_eq_true] at hb; exact hb.1)]
  apply b_ext
  intro i hi
  rw [b_and, b_and, b_and, at_bt hc hi]
  cases bt set i <;> simp
theorem ltR_1 {cd : CD} {I : Nat → Int32} {A : Nat → Nat → Int32} : ∀ (F : Nat) (set on most : Int32), S16 on → pcn on < F → (ltR cd I A F set on most).1 = set &&& (on ^^^ (-1))
  | 0, _, _, _, _, h => by omega
  | F + 1, set, on, most, h16, hF => by
    rw [ltR]
    by_cases h0 : on = 0
    · rw [if_pos h0, h0, not_0]
    · rw [if_neg h0]
      obtain ⟨k, hk, hb, he⟩ := ls_k (cd := cd) (I := I) (A := A) (set := set) h0 h16
      rw [he]
      have hd := pcn_del (x := on) (k := k) (by omega) hb
      rw [ltR_1 F _ _ _ h16.and (by show pcn (on &&& (1 <<< (nI k &&& 31) ^^^ (-1))) < F; omega)]
      apply b_ext
      intro i hi
      rw [b_and, b_and, b_not _ hi, b_not _ hi, b_and, b_not _ hi, b_and, b_not _ hi, b_bit (by omega) hi]
      by_cases e : i = k
      · subst e; rw [decide_eq_true rfl, hb]; simp
      · rw [decide_eq_false e]; simp
