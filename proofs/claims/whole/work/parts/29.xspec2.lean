/-! HOLDS are no less than 0; masks counted; what is covered; the best of what is offered -/
theorem smI_rng {f : Nat → Int32} {B : Nat} (hB : B ≤ 10000) : ∀ {n : Nat}, n ≤ 100 → (∀ k, k < n → 0 ≤ (f k).toInt ∧ (f k).toInt ≤ (B : Int)) → 0 ≤ (smI f n).toInt ∧ (smI f n).toInt ≤ ((n * B : Nat) : Int)
  | 0, _, _ => by show 0 ≤ (0 : Int32).toInt ∧ (0 : Int32).toInt ≤ _; rw [i_0]; omega
  | n + 1, hn, h => by
    have h1 := smI_rng hB (n := n) (by omega) (fun k hk => h k (by omega))
    have h2 := h n (by omega)
    have h3 : n * B ≤ 100 * 10000 := Nat.mul_le_mul (by omega) hB
    rw [smI_s, add_i (by omega) (by omega), Nat.succ_mul]
    omega
theorem mn_rng {a m : Int32} {B : Nat} (h : 0 ≤ a.toInt ∧ a.toInt ≤ (B : Int)) (hm : 0 ≤ m.toInt) : 0 ≤ (mnS a m).toInt ∧ (mnS a m).toInt ≤ (B : Int) := by
  unfold mnS
  by_cases h2 : a < m
  · rw [if_pos h2]; exact h
  · rw [if_neg h2]; rw [lt_i] at h2; omega
theorem pc_rng (v : Int32) : 0 ≤ (pcI v).toInt ∧ (pcI v).toInt ≤ ((32 : Nat) : Int) := by
  have h := pcn_le v
  unfold pcI; rw [nI_i (by omega)]; omega
theorem cr_rng (A : Nat → Nat → Int32) (s : Nat) (set : Int32) {most : Int32} (hm : 0 ≤ most.toInt) : 0 ≤ (crS A s set most).toInt ∧ (crS A s set most).toInt ≤ 800 := by
  have h : 0 ≤ (crS A s set most).toInt ∧ (crS A s set most).toInt ≤ ((25 * 32 : Nat) : Int) := by
    show 0 ≤ (smI _ 25).toInt ∧ (smI _ 25).toInt ≤ _
    refine smI_rng (by decide) (by decide) (fun k _ => mn_rng ?_ hm)
    split
    · exact pc_rng _
    · rw [i_0]; omega
  omega
theorem wi_rng (v : Int32) : 0 ≤ (wiS v 0 99).toInt ∧ (wiS v 0 99).toInt ≤ 99 := by
  unfold wiS
  by_cases h : v < 0
  · rw [if_pos h, i_0]; omega
  · rw [if_neg h]
    by_cases h2 : 99 < v
    · rw [if_pos h2, l_99]; omega
    · rw [if_neg h2]; rw [lt_i, i_0] at h; rw [lt_i, l_99] at h2; omega
theorem tdiv10 (z : Int) : -(z.natAbs : Int) ≤ 10 * z.tdiv 10 ∧ 10 * z.tdiv 10 ≤ z.natAbs := by
  rcases Int.le_total 0 z with h | h
  · rw [Int.tdiv_eq_ediv_of_nonneg h]; omega
  · obtain ⟨y, rfl⟩ : ∃ y, z = -y := ⟨-z, by omega⟩
    rw [Int.neg_tdiv, Int.tdiv_eq_ediv_of_nonneg (by omega)]; omega
theorem div10_rng (x : Int32) : -214748365 ≤ (x / 10).toInt ∧ (x / 10).toInt ≤ 214748365 := by
  have h := i_rng x
  have h2 := tdiv10 x.toInt
  have e : (x / 10).toInt = x.toInt.tdiv 10 := by rw [Int32.toInt_div, i_10, bmod_i (by omega) (by omega)]
  rw [e]; omega
theorem kn_rng {k n age : Int32} (hk : kOk k) (hn : 0 ≤ n.toInt ∧ n.toInt ≤ 9) : 0 ≤ (kn0 (knK k n age)).toInt ∧ (kn0 (knK k n age)).toInt ≤ 300000000 := by
  have h3 : (n + 3).toInt = n.toInt + 3 := by rw [add_i (by rw [l_3]; omega) (by rw [l_3]; omega), l_3]
  have h2 : (2 * (n + 3)).toInt = 2 * (n.toInt + 3) := by rw [mul_i (by rw [i_2, h3]; omega) (by rw [i_2, h3]; omega), i_2, h3]
  have h1 : (n + 1).toInt = n.toInt + 1 := by rw [add_i (by rw [i_1]; omega) (by rw [i_1]; omega), i_1]
  have hd := div10_rng age
  have key : (knK k n age).toInt ≤ 300000000 := by
    rcases hk with rfl | rfl | rfl | rfl | rfl | rfl
    · show (n + 1).toInt ≤ _; omega
    · show (n + 3).toInt ≤ _; omega
    · show (2 * (n + 3)).toInt ≤ _; omega
    · show (n + 3 - age / 10).toInt ≤ _; rw [sub_i (by omega) (by omega)]; omega
    · show (n + 2 * (n + 3)).toInt ≤ _; rw [add_i (by omega) (by omega)]; omega
    · show ((n + 1) / 2).toInt ≤ _; rw [div_i (by omega) (by decide), i_2]; omega
  unfold kn0
  by_cases h : knK k n age < 0
  · rw [if_pos h, i_0]; omega
  · rw [if_neg h]; rw [lt_i, i_0] at h; omega
theorem ho_nn {cd : CD} {I : Nat → Int32} {A : Nat → Nat → Int32} {s : Nat} {set : Int32} (hk : kOk (A 7 s)) (hn : 0 ≤ (A 9 s).toInt ∧ (A 9 s).toInt ≤ 9) : 0 ≤ (hoS cd I A s set).toInt := by
  have h1 := kn_rng (age := I 13 - A 10 s) hk hn
  have h2 := cr_rng A s set (ti_nn A s)
  unfold hoS
  have h3 := wi_rng (vOf (nmF (irm (A 8 s / 100) 5) (A 8 s / 100 / 5) (crS A s set 16) (irm (A 8 s) 10) (I 13 - A 10 s) (pcI set)) cd.1)
  generalize wiS _ 0 99 = u at h3 ⊢
  generalize crS A s set (tiS A s) = v at h2 ⊢
  have e : knS I A s = kn0 (knK (A 7 s) (A 9 s) (I 13 - A 10 s)) := rfl
  rw [e]
  generalize kn0 _ = y at h1 ⊢
  have h5 : 0 ≤ u.toInt * v.toInt := Int.mul_nonneg h3.1 h2.1
  have h6 : u.toInt * v.toInt ≤ 99 * 800 := Int.mul_le_mul h3.2 h2.2 h2.1 (by decide)
  have h7 : (u * v).toInt = u.toInt * v.toInt := mul_i (by omega) (by omega)
  rw [add_i (by omega) (by omega), h7]
  omega
theorem lh_mx {a : Int32} (h : a = -1 ∨ 0 ≤ a.toInt) : mxS a 0 = lhR a := by
  unfold mxS lhR
  rcases h with rfl | h
  · rfl
  · rw [if_neg (by rw [lt_i, i_0]; omega), if_neg (fun e => by rw [e] at h; exact absurd h (by decide))]
theorem mn_c (a z : Int32) : mnS a z = if z < a then z else a := by
  unfold mnS
  by_cases h1 : a < z
  · rw [if_pos h1, if_neg (by rw [lt_i] at h1 ⊢; omega)]
  · rw [if_neg h1]
    by_cases h2 : z < a
    · rw [if_pos h2]
    · rw [if_neg h2]; rw [lt_i] at h1 h2; rw [eq_i]; omega
theorem mn_nn {a z : Int32} (h1 : 0 ≤ a.toInt) (h2 : 0 ≤ z.toInt) : 0 ≤ (mnS a z).toInt := by unfold mnS; split <;> assumption
/-! masks counted -/
theorem ct_or (P : Nat → Bool) {n : Nat} (hn : n ≤ 32) : pcn (orS P n) = fb_ct P n := by
  unfold pcn
  rw [show (32 : Nat) = n + (32 - n) by omega, fb_ct_split, fb_ct_cong (q := P) (fun k hk => by rw [orS_bt P n hn k (by omega), decide_eq_true hk]; rfl)]
  have e : fb_ct (fun k => bt (orS P n) (n + k)) (32 - n) = 0 := fb_ct_zero.mpr (fun k hk => by rw [orS_bt P n hn (n + k) (by omega), decide_eq_false (by omega)]; rfl)
  omega
theorem ct_it (P : Nat → Bool) : ∀ n, itL (fun k a => a + (if P k = true then 1 else 0)) (0 : Int32) n = nI (fb_ct P n)
  | 0 => rfl
  | n + 1 => by
    rw [itL, ct_it P n, fb_ct_succ]
    by_cases h : P n = true
    · rw [if_pos h, if_pos h, nI_1]
    · rw [if_neg h, if_neg h, Int32.add_zero]; rfl
theorem pc_gr (I : Nat → Int32) (A : Nat → Nat → Int32) (th : Int32) : pcI (orS (grQ I A th) 16) = grS (upd I 13 th) A := by
  unfold pcI
  rw [ct_or _ (by decide)]
  exact (ct_it (grQ I A th) 16).symm
/-! what is covered -/
theorem co_bt (I : Nat → Int32) (A : Nat → Nat → Int32) {c : Nat} (hc : c < 32) : bt (coS I A) c = true ↔ ∃ s, s < 16 ∧ bt (I 12) s = true ∧ bt (A 11 s) c = true := by
  have key : ∀ n, n ≤ 16 → (bt (itL (coF I A) 0 n) c = true ↔ ∃ s, s < n ∧ bt (I 12) s = true ∧ bt (A 11 s) c = true) := by
    intro n
    induction n with
    | zero => intro _; simp [itL, b_0]
    | succ n ih =>
      intro hn
      rw [itL, coF, b_or, Bool.or_eq_true, ih (by omega), isS_bt (by omega)]
      constructor
      · rintro (⟨s, h1, h2⟩ | h)
        · exact ⟨s, by omega, h2⟩
        · by_cases hb : bt (I 12) n = true
          · rw [if_pos hb] at h; exact ⟨n, by omega, hb, h⟩
          · rw [if_neg hb, b_0] at h; exact absurd h (by decide)
      · rintro ⟨s, h1, h2, h3⟩
        by_cases e : s = n
        · subst e; right; rw [if_pos h2]; exact h3
        · exact Or.inl ⟨s, by omega, h2, h3⟩
  exact key 16 (Nat.le_refl _)
def cvQ (ly : Nat → Int32) (c : Nat) : Bool := !decide (ly c = 0)
theorem cov_S {I : Nat → Int32} {A : Nat → Nat → Int32} {x_al x_ho x_gr : Int32} {x_wh x_la x_ly : Nat → Int32} {x_kn : Nat → Option Nat} {tl : va_W} (h : NtR I A x_al x_ho x_gr x_wh x_la x_ly x_kn tl) : orS (cvQ x_ly) 25 = coS I A := by
  apply b_ext
  intro c hc
  rw [orS_bt _ 25 (by decide) c hc]
  cases hb : bt (coS I A) c
  · by_cases h25 : c < 25
    · rw [decide_eq_true h25]
      unfold cvQ
      rw [show x_ly c = 0 from by
        rw [h.ly h25]
        apply b_ext
        intro i hi
        rw [at_bt h25 hi, b_0]
        by_cases hi2 : i < 16
        · cases h2 : bt (I 12) i
          · simp
          · cases h3 : bt (A 11 i) c
            · simp
            · rw [(co_bt I A hc).mpr ⟨i, hi2, h2, h3⟩] at hb; exact absurd hb (by decide)
        · rw [decide_eq_false hi2]; rfl]
      rfl
    · rw [decide_eq_false h25]; rfl
  · obtain ⟨s, h1, h2, h3⟩ := (co_bt I A hc).mp hb
    obtain ⟨c0, st, lg, hW⟩ := okW_WP (h.ok h1 h2)
    rw [h.cv h1 h2, cv_bt hW hc, inC_iff] at h3
    obtain ⟨i, h4, h5⟩ := h3
    have h25 : c < 25 := by rw [h5]; exact hW.2.2.2.2.1 i h4
    rw [decide_eq_true h25]
    unfold cvQ
    rw [decide_eq_false (fun e => ?_)]
    · rfl
    · have h6 : bt (x_ly c) s = true := by
        rw [h.ly h25, at_bt h25 (by omega), decide_eq_true h1, h2, h.cv h1 h2, cv_bt hW hc, inC_iff.mpr ⟨i, h4, h5⟩]; rfl
      rw [e, b_0] at h6; exact absurd h6 (by decide)
/-! the best of what is offered -/
def ofS (S : Nat → Int32) (w v : Int32) : Nat → Int32 := if S 6 = -1 then upd (upd S 6 w) 7 v else if S 7 < v then upd (upd S 6 w) 7 v else S
def ChR (S : Nat → Int32) (a : Int32 × Int32) : Prop := S 6 = a.1 ∧ (¬ a.1 = -1 → S 7 = a.2)
theorem ChR.st {S : Nat → Int32} {z : Int32} : ChR (upd S 6 (-1)) (-1, z) := ⟨rfl, fun h => absurd rfl h⟩
theorem ChR.offer {S : Nat → Int32} {a : Int32 × Int32} (h : ChR S a) {ok : Nat → Bool} {wh v : Nat → Int32} {k : Nat} (hok : ok k = true) : ChR (ofS S (wh k) (v k)) (bsF ok wh v k a) := by
  unfold ofS bsF
  rw [if_pos hok, h.1]
  by_cases h1 : a.1 = -1
  · rw [if_pos h1, if_pos h1]; exact ⟨rfl, fun _ => rfl⟩
  · rw [if_neg h1, if_neg h1, h.2 h1]
    by_cases h2 : a.2 < v k
    · rw [if_pos h2, if_pos h2]; exact ⟨rfl, fun _ => rfl⟩
    · rw [if_neg h2, if_neg h2]; exact h
theorem bsF_no {ok : Nat → Bool} {wh v : Nat → Int32} {k : Nat} {a : Int32 × Int32} (hok : ok k = false) : bsF ok wh v k a = a := by unfold bsF; rw [if_neg (by rw [hok]; decide)]
theorem ok_m1 {w : Int32} (h : okW w = true) : ¬ w = -1 := by
  have := (okW_iff.mp h).1
  intro e; rw [e] at this; exact absurd this (by decide)
theorem bs_ne {many : Int32} (hm : inB many 1 5 = true) {v : Nat → Int32} : ∀ n, 0 < n → ¬ (itL (bsF (fun k => okW (whS k many)) (fun k => whS k many) v) (-1, 0) n).1 = -1
  | 0, h => absurd h (by decide)
  | 1, _ => by
    have e : whS 0 many = many := by
      unfold whS
      rw [show (100 : Int32) * (nI 0 / 2) + 10 * irm (nI 0) 2 = 0 from by decide, Int32.zero_add]
    have h1 := inB_iff.mp hm
    have ok : okW (whS 0 many) = true := by
      rw [e, okW_iff]
      refine ⟨by omega, by omega, by omega, by omega, by omega, ?_⟩
      rw [if_pos (by omega)]; omega
    show ¬ (bsF _ _ v 0 (-1, 0)).1 = -1
    unfold bsF
    rw [if_pos ok, if_pos rfl]
    exact ok_m1 ok
  | n + 2, _ => by
    have ih := bs_ne hm (v := v) (n + 1) (by omega)
    rw [itL]
    unfold bsF
    by_cases ok : okW (whS (n + 1) many) = true
    · rw [if_pos ok]
      split
      · exact ok_m1 ok
      · split
        · exact ok_m1 ok
        · exact ih
    · rw [if_neg ok]; exact ih
