/-- a field, as the class 'own' names it by its constant: class ci's slot k -/
def FA (own : String) (j ci k : Nat) : Prop := ∃ (C : String) (T : u_T) (N : Nat) (ref : String), vwCl[ci]? = some (C, T, N) ∧ k < N ∧ (∀ w ∈ u_ws C T N, Wd w) ∧ Wd (.fieldLink own j ref (T k).2.1 (T k).2.2.1) ∧ (ref = (T k).1 ∨ Wd (.sameField ref (T k).1 (T k).2.1 (T k).2.2.1))
/-- .. that is written: its type; 'fin': final -/
def FP (own : String) (j ci k : Nat) (ty : FieldType) (fin : Bool) : Prop := ∃ (C : String) (T : u_T) (N : Nat) (ty0 : Nat → FieldType), vwCl[ci]? = some (C, T, N) ∧ k < N ∧ (∀ w ∈ u_ws C T N, Wd w) ∧ Wd (.fieldLink own j (T k).1 (T k).2.1 (T k).2.2.1) ∧ (∀ k, k < N → parseFieldDescriptor (T k).2.2.1 = some (ty0 k)) ∧ (∀ a, a < N → ∀ b, b < N → a ≠ b → (T a).2.1 ≠ (T b).2.1) ∧ (T k).2.2.2 = fin ∧ parseFieldDescriptor (T k).2.2.1 = some ty ∧ (fin = true → (T k).1 = own)
theorem FA.same {own : String} {j : Nat} {args : Array Value} {s : State} {ref ow n d : String} (hAm : ∀ w, Wd w → ∀ a : Array Value, w.before a s = true) (h : ref = ow ∨ Wd (.sameField ref ow n d)) : ∀ x, s.fieldFound? ow n d = some x → s.fieldFound? ref n d = some x := by
  rcases h with rfl | h
  · exact fun _ h => h
  · exact u_same (hAm _ h args)
theorem z_get {G : GT} {μ : Mu} {R : Room} {O : OT} {cs ss pc pc' : Nat} {lv : List (Nat × Value)} {st : List Value} {ws : va_W} {j a ci k : Nat} {fs : List Value} {v : Value} (q0 : Nat) (hf : FA μ.1.cls j ci k) (he : ws[q0]? = some (a, .inr (ci, fs))) (hv : fs[k]? = some v) (hd : Dc μ pc (.getfield j) 3 pc') (k : Tr G μ R O cs ss pc' lv (v :: st) ws) : Tr G μ R O cs ss pc lv (.ref a :: st) ws := fun p l ev s m args below meth c A H locs ls C hl hP hD hS => by
  obtain ⟨hx, hb, hml, hown, hr, hlk, hAm, hA, hnm, hO⟩ := id C
  obtain ⟨hd, rfl⟩ := hd
  obtain ⟨C1, T1, N1, ref, h1, h2, h3, h4, h5⟩ := hf
  exact va_get (Ts := u_ws C1 T1 N1) hx hb (fun w hw => hAm.1 w (h3 w hw) _) (fun _ h => h) hown hAm.2.2.1 hP q0 he h1 _ h2 (hAm.1 _ h4 _) (FA.same (own := C1) (j := 0) (args := #[]) hAm.1 h5) hv hd (k p l ev s m args below meth c A H locs ls C hl hP hD hS)
theorem z_put {G : GT} {μ : Mu} {R : Room} {O : OT} {cs ss pc pc' : Nat} {lv : List (Nat × Value)} {st : List Value} {ws : va_W} {j a ci k : Nat} {fs : List Value} {ty : FieldType} {v : Value} (q0 : Nat) (ws' : va_W) (hf : FP μ.1.cls j ci k ty false) (he : ws[q0]? = some (a, .inr (ci, fs))) (hn : narrow ty v = v) (hfit : fits ty v = true) (hl9 : k < fs.length) (hw : ws.set q0 (a, .inr (ci, fs.set k v)) = ws') (hd : Dc μ pc (.putfield j) 3 pc') (k : Tr G μ R O cs ss pc' lv (st) ws') : Tr G μ R O cs ss pc lv (v :: .ref a :: st) ws := fun p l ev s m args below meth c A H locs ls C hl hP hD hS => by
  obtain ⟨hx, hb, hml, hown, hr, hlk, hAm, hA, hnm, hO⟩ := id C
  obtain ⟨hd, rfl⟩ := hd
  obtain ⟨C1, T1, N1, ty0, h1, h2, h3, h4, h5, h6, h7, h8, h9⟩ := hf
  subst hw
  exact va_put (Ts := u_ws C1 T1 N1) hx hb (fun w hw => hAm.1 w (h3 w hw) _) (fun _ h => h) ty0 h5 h6 hown hAm.2.2.1 hP hD hS q0 he h1 _ h2 (hAm.1 _ h4 _) (fun _ h => h) h7 h8 hn hfit hl9 hd (fun H1 locs1 hP1 hD1 hS1 => k p l ev s m args below meth c A H1 locs1 ls C hl hP1 hD1 hS1)
theorem z_putF {G : GT} {μ : Mu} {R : Room} {O : OT} {cs ss pc pc' : Nat} {lv : List (Nat × Value)} {st : List Value} {ws : va_W} {j a ci k : Nat} {fs : List Value} {ty : FieldType} {v : Value} (q0 : Nat) (ws' : va_W) (hf : FP μ.1.cls j ci k ty true) (hin2 : μ.1.name = "<init>") (he : ws[q0]? = some (a, .inr (ci, fs))) (hn : narrow ty v = v) (hfit : fits ty v = true) (hl9 : k < fs.length) (hw : ws.set q0 (a, .inr (ci, fs.set k v)) = ws') (hd : Dc μ pc (.putfield j) 3 pc') (k : Tr G μ R O cs ss pc' lv (st) ws') : Tr G μ R O cs ss pc lv (v :: .ref a :: st) ws := fun p l ev s m args below meth c A H locs ls C hl hP hD hS => by
  obtain ⟨hx, hb, hml, hown, hr, hlk, hAm, hA, hnm, hO⟩ := id C
  obtain ⟨hd, rfl⟩ := hd
  obtain ⟨C1, T1, N1, ty0, h1, h2, h3, h4, h5, h6, h7, h8, h9⟩ := hf
  subst hw
  exact va_putF (Ts := u_ws C1 T1 N1) hx hb (fun w hw => hAm.1 w (h3 w hw) _) (fun _ h => h) ty0 h5 h6 hown hAm.2.2.1 hP hD hS q0 he h1 _ h2 (hAm.1 _ h4 _) (fun _ h => h) h7 (hnm.trans hin2) (h9 rfl) h8 hn hfit hl9 hd (fun H1 locs1 hP1 hD1 hS1 => k p l ev s m args below meth c A H1 locs1 ls C hl hP1 hD1 hS1)
theorem z_iald {G : GT} {μ : Mu} {R : Room} {O : OT} {cs ss pc pc' : Nat} {lv : List (Nat × Value)} {st : List Value} {ws : va_W} {a n : Nat} {f : Nat → Int32} {i : Int32} (q0 : Nat) (he : ws[q0]? = some (a, .inl (G.2.1 0, n, .inl f))) (hin : vp_in i n) (hd : Dc μ pc (.iaload) 1 pc') (k : Tr G μ R O cs ss pc' lv (.int (f i.toNatClampNeg) :: st) ws) : Tr G μ R O cs ss pc lv (.int i :: .ref a :: st) ws := fun p l ev s m args below meth c A H locs ls C hl hP hD hS => by
  obtain ⟨hx, hb, hml, hown, hr, hlk, hAm, hA, hnm, hO⟩ := id C
  obtain ⟨hd, rfl⟩ := hd
  exact va_iald hx hb hAm.2.2.1 hP q0 0 he rfl hin hd (k p l ev s m args below meth c A H locs ls C hl hP hD hS)
theorem z_ialdN {G : GT} {μ : Mu} {R : Room} {O : OT} {cs ss pc pc' : Nat} {lv : List (Nat × Value)} {st : List Value} {ws : va_W} {a n : Nat} {f : Nat → Int32} {i : Int32} (q0 j : Nat) (he : ws[q0]? = some (a, .inl (G.2.1 0, n, .inl f))) (hi : i.toInt = (j : Int)) (hj : j < n) (hd : Dc μ pc (.iaload) 1 pc') (k : Tr G μ R O cs ss pc' lv (.int (f j) :: st) ws) : Tr G μ R O cs ss pc lv (.int i :: .ref a :: st) ws := by
  refine z_iald q0 he (vp_in_iff.mpr ⟨by omega, by omega⟩) hd ?_
  have e : i.toNatClampNeg = j := by
    show i.toInt.toNat = j
    omega
  rw [e]; exact k
theorem z_bald {G : GT} {μ : Mu} {R : Room} {O : OT} {cs ss pc pc' : Nat} {lv : List (Nat × Value)} {st : List Value} {ws : va_W} {a n : Nat} {f : Nat → Int32} {i : Int32} (q0 : Nat) (he : ws[q0]? = some (a, .inl (G.2.1 1, n, .inl f))) (hin : vp_in i n) (hd : Dc μ pc (.baload) 1 pc') (k : Tr G μ R O cs ss pc' lv (.int (f i.toNatClampNeg) :: st) ws) : Tr G μ R O cs ss pc lv (.int i :: .ref a :: st) ws := fun p l ev s m args below meth c A H locs ls C hl hP hD hS => by
  obtain ⟨hx, hb, hml, hown, hr, hlk, hAm, hA, hnm, hO⟩ := id C
  obtain ⟨hd, rfl⟩ := hd
  exact va_bald hx hb hAm.2.2.1 hP q0 1 he rfl hin hd (k p l ev s m args below meth c A H locs ls C hl hP hD hS)
theorem z_baldN {G : GT} {μ : Mu} {R : Room} {O : OT} {cs ss pc pc' : Nat} {lv : List (Nat × Value)} {st : List Value} {ws : va_W} {a n : Nat} {f : Nat → Int32} {i : Int32} (q0 j : Nat) (he : ws[q0]? = some (a, .inl (G.2.1 1, n, .inl f))) (hi : i.toInt = (j : Int)) (hj : j < n) (hd : Dc μ pc (.baload) 1 pc') (k : Tr G μ R O cs ss pc' lv (.int (f j) :: st) ws) : Tr G μ R O cs ss pc lv (.int i :: .ref a :: st) ws := by
  refine z_bald q0 he (vp_in_iff.mpr ⟨by omega, by omega⟩) hd ?_
  have e : i.toNatClampNeg = j := by
    show i.toInt.toNat = j
    omega
  rw [e]; exact k
theorem z_zald {G : GT} {μ : Mu} {R : Room} {O : OT} {cs ss pc pc' : Nat} {lv : List (Nat × Value)} {st : List Value} {ws : va_W} {a n : Nat} {f : Nat → Int32} {i : Int32} (q0 : Nat) (he : ws[q0]? = some (a, .inl (G.2.1 2, n, .inl f))) (hin : vp_in i n) (hd : Dc μ pc (.baload) 1 pc') (k : Tr G μ R O cs ss pc' lv (.int (f i.toNatClampNeg) :: st) ws) : Tr G μ R O cs ss pc lv (.int i :: .ref a :: st) ws := fun p l ev s m args below meth c A H locs ls C hl hP hD hS => by
  obtain ⟨hx, hb, hml, hown, hr, hlk, hAm, hA, hnm, hO⟩ := id C
  obtain ⟨hd, rfl⟩ := hd
  exact va_zald hx hb hAm.2.2.1 hP q0 2 he rfl hin hd (k p l ev s m args below meth c A H locs ls C hl hP hD hS)
theorem z_zaldN {G : GT} {μ : Mu} {R : Room} {O : OT} {cs ss pc pc' : Nat} {lv : List (Nat × Value)} {st : List Value} {ws : va_W} {a n : Nat} {f : Nat → Int32} {i : Int32} (q0 j : Nat) (he : ws[q0]? = some (a, .inl (G.2.1 2, n, .inl f))) (hi : i.toInt = (j : Int)) (hj : j < n) (hd : Dc μ pc (.baload) 1 pc') (k : Tr G μ R O cs ss pc' lv (.int (f j) :: st) ws) : Tr G μ R O cs ss pc lv (.int i :: .ref a :: st) ws := by
  refine z_zald q0 he (vp_in_iff.mpr ⟨by omega, by omega⟩) hd ?_
  have e : i.toNatClampNeg = j := by
    show i.toInt.toNat = j
    omega
  rw [e]; exact k
theorem z_iastN {G : GT} {μ : Mu} {R : Room} {O : OT} {cs ss pc pc' : Nat} {lv : List (Nat × Value)} {st : List Value} {ws : va_W} {a n : Nat} {f : Nat → Int32} {i x : Int32} (q0 j : Nat) (ws' : va_W) (he : ws[q0]? = some (a, .inl (G.2.1 0, n, .inl f))) (hi : i.toInt = (j : Int)) (hj : j < n) (hw : ws.set q0 (a, .inl (G.2.1 0, n, .inl (upd f j (x)))) = ws') (hd : Dc μ pc (.iastore) 1 pc') (k : Tr G μ R O cs ss pc' lv (st) ws') : Tr G μ R O cs ss pc lv (.int x :: .int i :: .ref a :: st) ws := fun p l ev s m args below meth c A H locs ls C hl hP hD hS => by
  obtain ⟨hx, hb, hml, hown, hr, hlk, hAm, hA, hnm, hO⟩ := id C
  obtain ⟨hd, rfl⟩ := hd
  have e : i.toNatClampNeg = j := by
    show i.toInt.toNat = j
    omega
  subst hw
  refine va_iast hx hb hAm.2.2.1 hP hD hS q0 0 he rfl (vp_in_iff.mpr ⟨by omega, by omega⟩) hd (fun H1 locs1 hP1 hD1 hS1 => ?_)
  rw [e] at hP1 hD1
  exact k p l ev s m args below meth c A H1 locs1 ls C hl hP1 hD1 hS1
theorem z_bastN {G : GT} {μ : Mu} {R : Room} {O : OT} {cs ss pc pc' : Nat} {lv : List (Nat × Value)} {st : List Value} {ws : va_W} {a n : Nat} {f : Nat → Int32} {i x : Int32} (q0 j : Nat) (ws' : va_W) (he : ws[q0]? = some (a, .inl (G.2.1 1, n, .inl f))) (hi : i.toInt = (j : Int)) (hj : j < n) (hw : ws.set q0 (a, .inl (G.2.1 1, n, .inl (upd f j (vp_nar .byte x)))) = ws') (hd : Dc μ pc (.bastore) 1 pc') (k : Tr G μ R O cs ss pc' lv (st) ws') : Tr G μ R O cs ss pc lv (.int x :: .int i :: .ref a :: st) ws := fun p l ev s m args below meth c A H locs ls C hl hP hD hS => by
  obtain ⟨hx, hb, hml, hown, hr, hlk, hAm, hA, hnm, hO⟩ := id C
  obtain ⟨hd, rfl⟩ := hd
  have e : i.toNatClampNeg = j := by
    show i.toInt.toNat = j
    omega
  subst hw
  refine va_bast hx hb hAm.2.2.1 hP hD hS q0 1 he rfl (vp_in_iff.mpr ⟨by omega, by omega⟩) hd (fun H1 locs1 hP1 hD1 hS1 => ?_)
  rw [e] at hP1 hD1
  exact k p l ev s m args below meth c A H1 locs1 ls C hl hP1 hD1 hS1
theorem z_zastN {G : GT} {μ : Mu} {R : Room} {O : OT} {cs ss pc pc' : Nat} {lv : List (Nat × Value)} {st : List Value} {ws : va_W} {a n : Nat} {f : Nat → Int32} {i x : Int32} (q0 j : Nat) (ws' : va_W) (he : ws[q0]? = some (a, .inl (G.2.1 2, n, .inl f))) (hi : i.toInt = (j : Int)) (hj : j < n) (hw : ws.set q0 (a, .inl (G.2.1 2, n, .inl (upd f j (vp_nar .boolean x)))) = ws') (hd : Dc μ pc (.bastore) 1 pc') (k : Tr G μ R O cs ss pc' lv (st) ws') : Tr G μ R O cs ss pc lv (.int x :: .int i :: .ref a :: st) ws := fun p l ev s m args below meth c A H locs ls C hl hP hD hS => by
  obtain ⟨hx, hb, hml, hown, hr, hlk, hAm, hA, hnm, hO⟩ := id C
  obtain ⟨hd, rfl⟩ := hd
  have e : i.toNatClampNeg = j := by
    show i.toInt.toNat = j
    omega
  subst hw
  refine va_zast hx hb hAm.2.2.1 hP hD hS q0 2 he rfl (vp_in_iff.mpr ⟨by omega, by omega⟩) hd (fun H1 locs1 hP1 hD1 hS1 => ?_)
  rw [e] at hP1 hD1
  exact k p l ev s m args below meth c A H1 locs1 ls C hl hP1 hD1 hS1
theorem z_aldq {G : GT} {μ : Mu} {R : Room} {O : OT} {cs ss pc pc' : Nat} {lv : List (Nat × Value)} {st : List Value} {ws : va_W} {a n : Nat} {f : Nat → Option Nat} {i : Int32} {C0 : String} (q0 t0 j : Nat) (he : ws[q0]? = some (a, .inl (G.2.1 t0, n, .inr (.inr (.inr (.inr f)))))) (ht : (TYS G)[t0]? = some (G.2.1 t0, .object C0)) (hi : i.toInt = (j : Int)) (hj : j < n) (hd : Dc μ pc (.aaload) 1 pc') (k : Tr G μ R O cs ss pc' lv (va_rf (f j) :: st) ws) : Tr G μ R O cs ss pc lv (.int i :: .ref a :: st) ws := fun p l ev s m args below meth c A H locs ls C hl hP hD hS => by
  obtain ⟨hx, hb, hml, hown, hr, hlk, hAm, hA, hnm, hO⟩ := id C
  obtain ⟨hd, rfl⟩ := hd
  have e : i.toNatClampNeg = j := by
    show i.toInt.toNat = j
    omega
  refine va_aldq hx hb hAm.2.2.1 hP q0 t0 he ht (vp_in_iff.mpr ⟨by omega, by omega⟩) hd ?_
  rw [e]; exact (k p l ev s m args below meth c A H locs ls C hl hP hD hS)
theorem z_alen {G : GT} {μ : Mu} {R : Room} {O : OT} {cs ss pc pc' : Nat} {lv : List (Nat × Value)} {st : List Value} {ws : va_W} {a : Nat} {x : vp_A} {cA : ClassId} {ty : FieldType} (q0 t0 : Nat) (v : Int32) (he : ws[q0]? = some (a, .inl (cA, x))) (ht : (TYS G)[t0]? = some (cA, ty)) (hv : Int32.ofNat x.1 = v) (hd : Dc μ pc (.arraylength) 1 pc') (k : Tr G μ R O cs ss pc' lv (.int v :: st) ws) : Tr G μ R O cs ss pc lv (.ref a :: st) ws := fun p l ev s m args below meth c A H locs ls C hl hP hD hS => by
  obtain ⟨hx, hb, hml, hown, hr, hlk, hAm, hA, hnm, hO⟩ := id C
  obtain ⟨hd, rfl⟩ := hd
  exact va_alen hx hb hAm.2.2.1 hP q0 t0 he ht hv hd (k p l ev s m args below meth c A H locs ls C hl hP hD hS)
theorem z_widen {G : GT} {μ : Mu} {R : Room} {O : OT} {cs ss pc pc' : Nat} {lv : List (Nat × Value)} {st : List Value} {ws : va_W} (cs' ss' : Nat) (h1 : cs ≤ cs') (h2 : ss ≤ ss') (k : Tr G μ R O cs' ss' pc lv (st) ws) : Tr G μ R O cs ss pc lv (st) ws := fun p l ev s m args below meth c A H locs ls C hl hP hD hS => by
  obtain ⟨hx, hb, hml, hown, hr, hlk, hAm, hA, hnm, hO⟩ := id C
  exact W.widen h1 h2 (k p l ev s m args below meth c A H locs ls C hl hP hD hS)
theorem z_iret {G : GT} {μ : Mu} {R : Room} {E : Option Value → va_W → Prop} {mc ms pc : Nat} {lv : List (Nat × Value)} {ws : va_W} {x : Int32} (pc' : Nat) (hd : Dc μ pc (.ireturn) 1 pc') (hr0 : μ.2.2.2 = some .int) (hE : E (some (.int x)) ws) : Tr G μ R (OM G E mc ms) mc ms pc lv ([.int x]) ws := fun p l ev s m args below meth c A H locs ls C hl hP hD hS => by
  obtain ⟨hx, hb, hml, hown, hr, hlk, hAm, hA, hnm, hO⟩ := id C
  exact W.iret hx hb (hr.trans hr0) (fun t ht hW => ⟨⟨some (.int x), ws, rfl, hE, by rw [ht]; exact hP, hD⟩, hS.F ht⟩) hS.2.2 hd.1 hlk
theorem z_zret {G : GT} {μ : Mu} {R : Room} {E : Option Value → va_W → Prop} {mc ms pc : Nat} {lv : List (Nat × Value)} {ws : va_W} {x : Int32} (pc' : Nat) (hd : Dc μ pc (.ireturn) 1 pc') (hr0 : μ.2.2.2 = some .boolean) (hx0 : narrow .boolean (.int x) = .int x) (hE : E (some (.int x)) ws) : Tr G μ R (OM G E mc ms) mc ms pc lv ([.int x]) ws := fun p l ev s m args below meth c A H locs ls C hl hP hD hS => by
  obtain ⟨hx, hb, hml, hown, hr, hlk, hAm, hA, hnm, hO⟩ := id C
  exact W.zret hx hb (hr.trans hr0) hx0 (fun t ht hW => ⟨⟨some (.int x), ws, rfl, hE, by rw [ht]; exact hP, hD⟩, hS.F ht⟩) hS.2.2 hd.1 hlk
theorem z_lret {G : GT} {μ : Mu} {R : Room} {E : Option Value → va_W → Prop} {mc ms pc : Nat} {lv : List (Nat × Value)} {ws : va_W} {x : Int64} (pc' : Nat) (hd : Dc μ pc (.lreturn) 1 pc') (hr0 : μ.2.2.2 = some .long) (hE : E (some (.long x)) ws) : Tr G μ R (OM G E mc ms) mc ms pc lv ([.long x]) ws := fun p l ev s m args below meth c A H locs ls C hl hP hD hS => by
  obtain ⟨hx, hb, hml, hown, hr, hlk, hAm, hA, hnm, hO⟩ := id C
  exact W.lret hx hb (hr.trans hr0) (fun t ht hW => ⟨⟨some (.long x), ws, rfl, hE, by rw [ht]; exact hP, hD⟩, hS.F ht⟩) hS.2.2 hd.1 hlk
theorem z_vret {G : GT} {μ : Mu} {R : Room} {E : Option Value → va_W → Prop} {mc ms pc : Nat} {lv : List (Nat × Value)} {ws : va_W} (pc' : Nat) (hd : Dc μ pc (.return_) 1 pc') (hr0 : μ.2.2.2 = none) (hE : E none ws) : Tr G μ R (OM G E mc ms) mc ms pc lv ([]) ws := fun p l ev s m args below meth c A H locs ls C hl hP hD hS => by
  obtain ⟨hx, hb, hml, hown, hr, hlk, hAm, hA, hnm, hO⟩ := id C
  exact W.vret hx hb (hr.trans hr0) (fun t ht hW => ⟨⟨none, ws, rfl, hE, by rw [ht]; exact hP, hD⟩, hS.F ht⟩) hS.2.2 hd.1 hlk
theorem z_sub {A : Nat → Prop} {s : State} {ws : va_W} {H : Heap} {locs : List Loc} (hD : va_D A ws) (hS : va_S A s.heap H locs) (hA : ∀ q, s.heap.size ≤ q → A q) : ∀ q, va_A ws H.size q → A q := by
  intro q h
  rcases h with ⟨k, e, h⟩ | h
  · exact hD.2 k (q, e) h
  · exact hA q (Nat.le_trans hS.1 h)
/-- behind a call -/
theorem z_after {p : Program} {l : Launch} {e : Env} {R : Room} {s : State} {m : MethodId} {args : Array Value} {below : List Frame} {meth : Method} {c : Code} {H : Heap} {locs : List Loc} {cs ss mc ms pc : Nat} {Q : State → Prop} {ls : Array Slot} {st0 rest : List Value} {G : GT} {E : Option Value → va_W → Prop} {A : Nat → Prop} {a : Array Value} {wc : va_W} {H0 : Heap}
    (hr : va_Run p l e R s m args below meth c H locs cs ss mc ms (F0 m pc ls st0) rest (Qg G E (va_A wc H.size) a) (va_A wc H.size)) (hsub : ∀ q, va_A wc H.size q → A q) (hS : va_S A H0 H locs)
    (kk : ∀ (v : Option Value) (ws' : va_W) (H1 : Heap) (locs1 : List Loc), E v ws' → va_P G.1 vwCl ws' H1 → va_D (va_A wc H.size) ws' → H.size ≤ H1.size → (∀ q : Nat, q < H.size → ¬ va_A wc H.size q → H1[q]? = H[q]?) → va_S A H0 H1 locs1 → W p l e R s m args below meth c H1 locs1 (cs + mc) (ss + ms) Q (F0 m (pc + 3) ls (v.toList ++ rest))) : W p l e R s m args below meth c H locs cs ss Q (F0 m pc ls st0) := by
  intro T hT X
  obtain ⟨v, st₀, t, T', L, h0, X', hL, e1, e2, ⟨⟨v', ws', hv, hE, hP', hD'⟩, hz, hk⟩, st⟩ := hr T hT X
  cases hv
  rw [h0] at hz hk
  rw [← e1] at hP' hz hk
  obtain ⟨t2, a1, b1⟩ := kk v ws' T'.heap (locs ++ L) hE hP' hD' hz hk
    ⟨Nat.le_trans hS.1 hz, fun q h1 h2 => by rw [hk q (Nat.lt_of_lt_of_le h1 hS.1) (fun z => h2 (hsub q z))]; exact hS.2.1 q h1 h2, fun q hq => by
      rcases List.mem_append.mp hq with h | h
      · exact hS.2.2 q h
      · exact hsub _ (hL q h)⟩ T' rfl X'
  exact ⟨t2, st t2 a1, b1⟩
theorem z_blind {G : GT} {av : List Value} {ws : va_W} {sz : Nat} : FrameBlind (va_Pc av (GSt G ws sz)) := by
  intro a U g mk h
  obtain ⟨rfl, h1, h2, h3, h4⟩ := h
  exact ⟨rfl, h1, h2, h3, Am.same (u := U) (U := U.calling g mk _) rfl h4⟩
theorem z_code1 {μ : Mu} : ∀ w ∈ [Cond.code μ.1 μ.2.1 μ.2.2.1 μ.2.2.2], w = Cond.code μ.1 μ.2.1 μ.2.2.1 μ.2.2.2 := fun w h => by simpa using h
/-- a method as the words of the tables have it: its code, its class, how many arguments -/
def Cm (μ : Mu) (n : Nat) : Prop := Wd (.code μ.1 μ.2.1 μ.2.2.1 μ.2.2.2) ∧ Wd (.initialized μ.1.cls) ∧ (μ.1.cls ≠ "java/lang/invoke/MethodHandle" ∧ μ.1.cls ≠ "java/lang/invoke/VarHandle") ∧ (parseMethodDescriptor μ.1.desc).map (fun d => d.parameters.length) = some n ∧ μ.2.2.1 ≤ 21
/-- a call's words: static; virtual on the class itself; a constructor -/
def CaS (own : String) (j : Nat) (μ : Mu) (n : Nat) : Prop := Cm μ n ∧ Wd (.static μ.1) ∧ (Wd (.methodLink own j μ.1) ∨ (own, j, μ.1) ∈ nestL)
def CaV (own : String) (j : Nat) (C : String) (μ : Mu) (n : Nat) : Prop := Cm μ n ∧ Wd (.instanceMethod μ.1) ∧ Wd (.selects C μ.1 μ.1) ∧ Wd (.methodLink own j μ.1)
def CaI (own : String) (j : Nat) (μ : Mu) (n : Nat) : Prop := Cm μ n ∧ Wd (.instanceMethod μ.1) ∧ μ.1.name = "<init>" ∧ μ.2.2.2 = none ∧ (Wd (.methodLink own j μ.1) ∨ (own, j, μ.1) ∈ nestL)
theorem Cm.ok {G : GT} {A : Nat → Prop} {H : Heap} {s : State} (hAm : Am G A s H) {args : Array Value} {own : String} {j : Nat} {μ : Mu} {n d mc ms : Nat} {R : Room} (h : Cm μ n) (hR1 : d + 1 ≤ R.frames) (hR2 : 40 * d + 40 ≤ R.locals) (hl : Wd (.methodLink own j μ.1)) :
    CallB R s args own j μ.1 μ.2.1 μ.2.2.1 μ.2.2.2 [Cond.code μ.1 μ.2.1 μ.2.2.1 μ.2.2.2] (Rm d mc ms) mc ms n := by
  obtain ⟨h1, h2, h3, h4, h5⟩ := h
  refine ⟨rfl, rfl, hR1, (by show 8 + (μ.2.2.1 + 11) + 40 * d ≤ R.locals; omega), ?_, List.mem_cons_self, hAm.1 _ h1 _, hAm.1 _ h2 _, h3, fun sig h => ?_, hAm.1 _ hl _⟩
  · intro w hw a' U hW
    rw [z_code1 w hw]
    exact (Am.warm hW hAm).1 _ h1 _
  · rw [h] at h4
    exact (Option.some.inj h4).symm
theorem Cm.okN {G : GT} {A : Nat → Prop} {H : Heap} {s : State} (hAm : Am G A s H) {args : Array Value} {own : String} {j : Nat} {μ : Mu} {n d mc ms : Nat} {R : Room} (h : Cm μ n) (hR1 : d + 1 ≤ R.frames) (hR2 : 40 * d + 40 ≤ R.locals) (hl : (own, j, μ.1) ∈ nestL) :
    va_CN R s args own j μ.1 "NestsByKnots" μ.2.1 μ.2.2.1 μ.2.2.2 [Cond.code μ.1 μ.2.1 μ.2.2.1 μ.2.2.2] (Rm d mc ms) mc ms n := by
  obtain ⟨h1, h2, h3, h4, h5⟩ := h
  refine ⟨⟨rfl, rfl, hR1, (by show 8 + (μ.2.2.1 + 11) + 40 * d ≤ R.locals; omega), ?_, List.mem_cons_self⟩, hAm.1 _ h1 _, hAm.1 _ h2 _, h3, fun sig h => ?_, va_Nw.use rfl (hAm.2.1.1 _ hl)⟩
  · intro w hw a' U hW
    rw [z_code1 w hw]
    exact (Am.warm hW hAm).1 _ h1 _
  · rw [h] at h4
    exact (Option.some.inj h4).symm
theorem z_PcS {G : GT} {A : Nat → Prop} {s : State} {H : Heap} {locs : List Loc} {ws : va_W} {av : List Value} (hAm : Am G A s s.heap) (hP : va_P G.1 vwCl ws H) (hD : va_D A ws) (hS : va_S A s.heap H locs) (hsub : ∀ q, va_A ws H.size q → A q) : ∀ U : State, U.heap = H → s.WarmedH U.vm → va_Pc av (GSt G ws H.size) av.toArray U := by
  intro U hU hW
  subst hU
  exact ⟨rfl, rfl, hP, hD.weaken (fun _ _ _ _ => trivial), Am.warm hW ((hAm.kept hS.2.1).narrow hsub)⟩

def Ei (F : Int32 → va_W → Prop) : Option Value → va_W → Prop := fun v w => ∃ r : Int32, v = some (.int r) ∧ F r w
def El (F : Int64 → va_W → Prop) : Option Value → va_W → Prop := fun v w => ∃ r : Int64, v = some (.long r) ∧ F r w
def Ea (F : Option Nat → va_W → Prop) : Option Value → va_W → Prop := fun v w => ∃ r : Option Nat, v = some (va_rf r) ∧ F r w
def Ev (F : va_W → Prop) : Option Value → va_W → Prop := fun v w => v = none ∧ F w
def rmok (d mc ms cs ss : Nat) (R : Room) : Bool := Nat.ble (d + 1) R.frames && (Nat.ble (40 * d + 40) R.locals && (Nat.ble (cs + mc) R.cells && Nat.ble (ss + ms) R.slots))
theorem rmok_spec {d mc ms cs ss : Nat} {R : Room} (h : rmok d mc ms cs ss R = true) : d + 1 ≤ R.frames ∧ 40 * d + 40 ≤ R.locals ∧ cs + mc ≤ R.cells ∧ ss + ms ≤ R.slots := by
  simp only [rmok, Bool.and_eq_true] at h
  exact ⟨Nat.le_of_ble_eq_true h.1, Nat.le_of_ble_eq_true h.2.1, Nat.le_of_ble_eq_true h.2.2.1, Nat.le_of_ble_eq_true h.2.2.2⟩
theorem z_callS {G : GT} {μ : Mu} {R : Room} {O : OT} {cs ss pc pc' : Nat} {lv : List (Nat × Value)} {st : List Value} {ws : va_W} {st0 : List Value} {μ' : Mu} {j n d mc ms : Nat} {E' : Option Value → va_W → Prop} {av : List Value} (hw : CaS μ.1.cls j μ' n) (hc : Ct G μ' d mc ms av ws E') (hst : st0 = av.reverse ++ st) (hn : av.length = n) (h8 : (st.map fun v => v.category).sum ≤ 8) (hR : rmok d mc ms cs ss R = true) (hd : Dc μ pc (.invokestatic j) 3 pc') (kk : ∀ v ws', E' v ws' → Tr G μ R O (cs + mc) (ss + ms) pc' lv (v.toList ++ st) ws') : Tr G μ R O cs ss pc lv st0 ws := fun p l ev s m args below meth c A H locs ls C hl hP hD hS => by
  obtain ⟨hx, hb, hml, hown, hr, hlk, hAm, hA, hnm, hO⟩ := id C
  obtain ⟨hd, rfl⟩ := hd
  obtain ⟨r1, r2, r3⟩ := rmok_spec hR
  obtain ⟨w1, w2, w3⟩ := hw
  subst hst
  rcases w3 with w3 | w3
  · exact z_after (va_runS (As := av) (rest := st) ⟨hx, hb, hml, hown, (fun w h => absurd h List.not_mem_nil : ∀ w ∈ ([] : List Cond), w.before args s = true)⟩ (hc l H.size) ⟨Cm.ok hAm w1 r1 r2 w3, hAm.1 _ w2 _⟩ ⟨z_blind, z_PcS (av := av) hAm hP hD hS (z_sub hD hS hA)⟩ rfl hn hl.1 rfl (lv_room h8) hd r3) (z_sub hD hS hA) hS (fun v ws' H1 locs1 hE hP1 hD1 hz hk hS1 => kk v ws' hE p l ev s m args below meth c A H1 locs1 ls C hl hP1 (hD1.weaken (fun _ _ _ h => z_sub hD hS hA _ h)) hS1)
  · exact z_after (va_runSN (As := av) (rest := st) ⟨hx, hb, hml, hown, (fun w h => absurd h List.not_mem_nil : ∀ w ∈ ([] : List Cond), w.before args s = true)⟩ (hc l H.size) ⟨Cm.okN hAm w1 r1 r2 w3, hAm.1 _ w2 _, trivial⟩ ⟨z_blind, z_PcS (av := av) hAm hP hD hS (z_sub hD hS hA)⟩ rfl hn hl.1 rfl (lv_room h8) hd r3) (z_sub hD hS hA) hS (fun v ws' H1 locs1 hE hP1 hD1 hz hk hS1 => kk v ws' hE p l ev s m args below meth c A H1 locs1 ls C hl hP1 (hD1.weaken (fun _ _ _ h => z_sub hD hS hA _ h)) hS1)
theorem z_callV {G : GT} {μ : Mu} {R : Room} {O : OT} {cs ss pc pc' : Nat} {lv : List (Nat × Value)} {st : List Value} {ws : va_W} {st0 : List Value} {μ' : Mu} {j n d mc ms : Nat} {E' : Option Value → va_W → Prop} {C1 : String} {a ci : Nat} {fs As : List Value} (q0 : Nat) (hw : CaV μ.1.cls j C1 μ' n) (he : ws[q0]? = some (a, .inr (ci, fs))) (hci : (vwCl[ci]?).map (fun q => q.1) = some C1) (hc : Ct G μ' d mc ms (.ref a :: As) ws E') (hst : st0 = As.reverse ++ .ref a :: st) (hn : As.length = n) (h8 : (st.map fun v => v.category).sum ≤ 8) (hR : rmok d mc ms cs ss R = true) (hd : Dc μ pc (.invokevirtual j) 3 pc') (kk : ∀ v ws', E' v ws' → Tr G μ R O (cs + mc) (ss + ms) pc' lv (v.toList ++ st) ws') : Tr G μ R O cs ss pc lv st0 ws := fun p l ev s m args below meth c A H locs ls C hl hP hD hS => by
  obtain ⟨hx, hb, hml, hown, hr, hlk, hAm, hA, hnm, hO⟩ := id C
  obtain ⟨hd, rfl⟩ := hd
  obtain ⟨r1, r2, r3⟩ := rmok_spec hR
  obtain ⟨w1, w2, w3, w4⟩ := hw
  subst hst
  obtain ⟨q, hq, rfl⟩ := Option.map_eq_some_iff.mp hci
  exact z_after (va_runV (As := As) (rest := st) ⟨hx, hb, hml, hown, (fun w h => absurd h List.not_mem_nil : ∀ w ∈ ([] : List Cond), w.before args s = true)⟩ (hc l H.size) ⟨Cm.ok hAm w1 r1 r2 w4, hAm.1 _ w2 _, hAm.1 _ w3 _⟩ ⟨z_blind, va_recv hAm.2.2.1 hP hq he, z_PcS (av := (.ref a :: As)) hAm hP hD hS (z_sub hD hS hA)⟩ rfl hn hl.1 rfl (lv_room h8) hd r3) (z_sub hD hS hA) hS (fun v ws' H1 locs1 hE hP1 hD1 hz hk hS1 => kk v ws' hE p l ev s m args below meth c A H1 locs1 ls C hl hP1 (hD1.weaken (fun _ _ _ h => z_sub hD hS hA _ h)) hS1)
theorem z_callI {G : GT} {μ : Mu} {R : Room} {O : OT} {cs ss pc pc' : Nat} {lv : List (Nat × Value)} {st : List Value} {ws : va_W} {st0 : List Value} {μ' : Mu} {j n d mc ms : Nat} {E' : Option Value → va_W → Prop} {a : Nat} {As : List Value} (hw : CaI μ.1.cls j μ' n) (hc : Ct G μ' d mc ms (.ref a :: As) ws E') (hst : st0 = As.reverse ++ .ref a :: st) (hn : As.length = n) (h8 : (st.map fun v => v.category).sum ≤ 8) (hR : rmok d mc ms cs ss R = true) (hd : Dc μ pc (.invokespecial j) 3 pc') (kk : ∀ v ws', E' v ws' → Tr G μ R O (cs + mc) (ss + ms) pc' lv (v.toList ++ st) ws') : Tr G μ R O cs ss pc lv st0 ws := fun p l ev s m args below meth c A H locs ls C hl hP hD hS => by
  obtain ⟨hx, hb, hml, hown, hr, hlk, hAm, hA, hnm, hO⟩ := id C
  obtain ⟨hd, rfl⟩ := hd
  obtain ⟨r1, r2, r3⟩ := rmok_spec hR
  obtain ⟨w1, w2, w5, w6, w3⟩ := hw
  subst hst
  obtain ⟨y', b', n', ret'⟩ := μ'
  dsimp only at w6
  subst w6
  rcases w3 with w3 | w3
  · exact z_after (va_runI (As := As) (rest := st) ⟨hx, hb, hml, hown, (fun w h => absurd h List.not_mem_nil : ∀ w ∈ ([] : List Cond), w.before args s = true)⟩ (hc l H.size) ⟨Cm.ok hAm w1 r1 r2 w3, w5, hAm.1 _ w2 _⟩ ⟨z_blind, z_PcS (av := (.ref a :: As)) hAm hP hD hS (z_sub hD hS hA)⟩ rfl hn hl.1 rfl (lv_room h8) hd r3) (z_sub hD hS hA) hS (fun v ws' H1 locs1 hE hP1 hD1 hz hk hS1 => kk v ws' hE p l ev s m args below meth c A H1 locs1 ls C hl hP1 (hD1.weaken (fun _ _ _ h => z_sub hD hS hA _ h)) hS1)
  · exact z_after (va_runIN (As := As) (rest := st) ⟨hx, hb, hml, hown, (fun w h => absurd h List.not_mem_nil : ∀ w ∈ ([] : List Cond), w.before args s = true)⟩ (hc l H.size) ⟨Cm.okN hAm w1 r1 r2 w3, w5, hAm.1 _ w2 _⟩ ⟨z_blind, z_PcS (av := (.ref a :: As)) hAm hP hD hS (z_sub hD hS hA)⟩ rfl hn hl.1 rfl (lv_room h8) hd r3) (z_sub hD hS hA) hS (fun v ws' H1 locs1 hE hP1 hD1 hz hk hS1 => kk v ws' hE p l ev s m args below meth c A H1 locs1 ls C hl hP1 (hD1.weaken (fun _ _ _ h => z_sub hD hS hA _ h)) hS1)
