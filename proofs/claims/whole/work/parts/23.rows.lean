/-! ROWS: references, null, what is new, Strings, overriding methods, super, calls over a part of the world -/
theorem z_aret {G : GT} {μ : Mu} {R : Room} {E : Option Value → va_W → Prop} {mc ms pc : Nat} {lv : List (Nat × Value)} {ws : va_W} {v : Value} {rt : FieldType} (pc' : Nat) (hd : Dc μ pc (.areturn) 1 pc') (hr0 : μ.2.2.2 = some rt) (hrt : (∃ n, rt = .object n) ∨ ∃ t, rt = .array t) (hv : v = .null ∨ ∃ a, v = .ref a) (hE : E (some v) ws) : Tr G μ R (OM G E mc ms) mc ms pc lv ([v]) ws := fun p l ev s m args below meth c A H locs ls C hl hP hD hS => by
  obtain ⟨hx, hb, hml, hown, hr, hlk, hAm, hA, hnm, hO⟩ := id C
  exact W.aret hx hb (hr.trans hr0) hrt hv (fun t ht hW => ⟨⟨some v, ws, rfl, hE, by rw [ht]; exact hP, hD⟩, hS.F ht⟩) hS.2.2 hd.1 hlk
theorem z_nret {G : GT} {μ : Mu} {R : Room} {E : Option Value → va_W → Prop} {mc ms pc : Nat} {lv : List (Nat × Value)} {ws : va_W} {x : Int32} {ty : FieldType} (pc' : Nat) (hd : Dc μ pc (.ireturn) 1 pc') (hr0 : μ.2.2.2 = some ty) (hx0 : narrow ty (.int x) = .int x) (hE : E (some (.int x)) ws) : Tr G μ R (OM G E mc ms) mc ms pc lv ([.int x]) ws := fun p l ev s m args below meth c A H locs ls C hl hP hD hS => by
  obtain ⟨hx, hb, hml, hown, hr, hlk, hAm, hA, hnm, hO⟩ := id C
  exact W.zret hx hb (hr.trans hr0) hx0 (fun t ht hW => ⟨⟨some (.int x), ws, rfl, hE, by rw [ht]; exact hP, hD⟩, hS.F ht⟩) hS.2.2 hd.1 hlk
theorem z_ifnullR {G : GT} {μ : Mu} {R : Room} {O : OT} {cs ss pc pc' tgt : Nat} {lv : List (Nat × Value)} {st : List Value} {ws : va_W} {off : Int} {x : Nat} (hd : Db μ pc (.ifnull off) off pc' tgt) (k : Tr G μ R O cs ss pc' lv (st) ws) : Tr G μ R O cs ss pc lv (.ref x :: st) ws := fun p l ev s m args below meth c A H locs ls C hl hP hD hS => by
  obtain ⟨hx, hb, hml, hown, hr, hlk, hAm, hA, hnm, hO⟩ := id C
  obtain ⟨hd, rfl, ht⟩ := hd
  exact lv_ifnull hx hb hd (k p l ev s m args below meth c A H locs ls C hl hP hD hS)
theorem z_ifnullN {G : GT} {μ : Mu} {R : Room} {O : OT} {cs ss pc pc' tgt : Nat} {lv : List (Nat × Value)} {st : List Value} {ws : va_W} {off : Int} (hd : Db μ pc (.ifnull off) off pc' tgt) (k : Tr G μ R O cs ss tgt lv (st) ws) : Tr G μ R O cs ss pc lv (.null :: st) ws := fun p l ev s m args below meth c A H locs ls C hl hP hD hS => by
  obtain ⟨hx, hb, hml, hown, hr, hlk, hAm, hA, hnm, hO⟩ := id C
  obtain ⟨hd, rfl, ht⟩ := hd
  exact lv_ifnullN hx hb hd ht (k p l ev s m args below meth c A H locs ls C hl hP hD hS)
theorem z_ifnonnullR {G : GT} {μ : Mu} {R : Room} {O : OT} {cs ss pc pc' tgt : Nat} {lv : List (Nat × Value)} {st : List Value} {ws : va_W} {off : Int} {x : Nat} (hd : Db μ pc (.ifnonnull off) off pc' tgt) (k : Tr G μ R O cs ss tgt lv (st) ws) : Tr G μ R O cs ss pc lv (.ref x :: st) ws := fun p l ev s m args below meth c A H locs ls C hl hP hD hS => by
  obtain ⟨hx, hb, hml, hown, hr, hlk, hAm, hA, hnm, hO⟩ := id C
  obtain ⟨hd, rfl, ht⟩ := hd
  exact lv_ifnonnull hx hb hd ht (k p l ev s m args below meth c A H locs ls C hl hP hD hS)
theorem z_ifnonnullN {G : GT} {μ : Mu} {R : Room} {O : OT} {cs ss pc pc' tgt : Nat} {lv : List (Nat × Value)} {st : List Value} {ws : va_W} {off : Int} (hd : Db μ pc (.ifnonnull off) off pc' tgt) (k : Tr G μ R O cs ss pc' lv (st) ws) : Tr G μ R O cs ss pc lv (.null :: st) ws := fun p l ev s m args below meth c A H locs ls C hl hP hD hS => by
  obtain ⟨hx, hb, hml, hown, hr, hlk, hAm, hA, hnm, hO⟩ := id C
  obtain ⟨hd, rfl, ht⟩ := hd
  exact lv_ifnonnullN hx hb hd (k p l ev s m args below meth c A H locs ls C hl hP hD hS)
theorem z_dup2 {G : GT} {μ : Mu} {R : Room} {O : OT} {cs ss pc pc' : Nat} {lv : List (Nat × Value)} {st : List Value} {ws : va_W} {va vb : Value} (hd : Dc μ pc (.dup2) 1 pc') (h1 : va.category = 1) (h2 : vb.category = 1) (k : Tr G μ R O cs ss pc' lv (va :: vb :: va :: vb :: st) ws) : Tr G μ R O cs ss pc lv (va :: vb :: st) ws := fun p l ev s m args below meth c A H locs ls C hl hP hD hS => by
  obtain ⟨hx, hb, hml, hown, hr, hlk, hAm, hA, hnm, hO⟩ := id C
  obtain ⟨hd, rfl⟩ := hd
  exact lv_dup2_11 hx hb hd h1 h2 (k p l ev s m args below meth c A H locs ls C hl hP hD hS)
theorem z_arr1 {G : GT} {s : State} {cA : ClassId} {ty : FieldType} {t0 : Nat} (hK : va_K G.1 vwCl (TYS G) s) (ht : (TYS G)[t0]? = some (G.2.1 t0, ty)) (h : va_RA s cA ty) : cA = G.2.1 t0 := by
  have h2 := (hK.2 _ _ ht).2
  cases ty with
  | object C =>
    obtain ⟨_, _, _, _, _, h3⟩ := h
    obtain ⟨_, _, _, _, _, h4⟩ := h2
    exact Option.some.inj (h3.symm.trans h4)
  | _ => exact Option.some.inj (Eq.trans (Eq.symm h) h2)
theorem z_last {G : GT} {cA : ClassId} {ty : FieldType} {s : State} (hK : va_K G.1 vwCl (TYS G ++ [(cA, ty)]) s) : va_RA s cA ty := (hK.2 6 _ rfl).2
theorem z_newa {G : GT} {μ : Mu} {R : Room} {O : OT} {cs ss pc pc' : Nat} {lv : List (Nat × Value)} {st : List Value} {ws : va_W} {atype : ArrayType} {ty : FieldType} {a0 : vp_A} {n : Int32} (t0 N : Nat) (hty : newarray.typeOf atype = ty) (ht : (TYS G)[t0]? = some (G.2.1 t0, ty)) (hw : Wd (.arrayClass ty)) (ha : ∀ cA : ClassId, vp_cell cA a0 = arrV cA N (fun _ => defaultValue ty)) (hi : n.toInt = (N : Int)) (hbytes : N * componentBytes ty ≤ 536870912) (hR : (Nat.ble (cs + 1) R.cells && Nat.ble (ss + N) R.slots) = true) (hd : Dc μ pc (.newarray atype) 2 pc') (k : ∀ q : Nat, Tr G μ R O (cs + 1) (ss + N) pc' lv (.ref q :: st) (ws ++ [(q, .inl (G.2.1 t0, a0))])) : Tr G μ R O cs ss pc lv (.int n :: st) ws := fun p l ev s m args below meth c A H locs ls C hl hP hD hS => by
  obtain ⟨hx, hb, hml, hown, hr, hlk, hAm, hA, hnm, hO⟩ := id C
  obtain ⟨hd, rfl⟩ := hd
  subst hty
  refine va_newa hx hb (hAm.1 _ hw _) rfl hAm.2.2.1 hP hD hS hA ha (by rw [Int32.lt_iff_toInt_lt]; show ¬ n.toInt < 0; omega) (by show n.toInt.toNat = N; omega) hbytes (Nat.le_of_ble_eq_true (Bool.and_eq_true_iff.mp hR).1) (Nat.le_of_ble_eq_true (Bool.and_eq_true_iff.mp hR).2) hd (fun q cA H1 hK1 hP1 hD1 hS1 => ?_)
  have hc := z_arr1 hAm.2.2.1 ht (z_last hK1)
  subst hc
  exact k q p l ev s m args below meth c A H1 locs ls C hl hP1 hD1 hS1
theorem z_newq {G : GT} {μ : Mu} {R : Room} {O : OT} {cs ss pc pc' : Nat} {lv : List (Nat × Value)} {st : List Value} {ws : va_W} {C0 : String} {n : Int32} {j : Nat} (t0 N : Nat) (ht : (TYS G)[t0]? = some (G.2.1 t0, .object C0)) (hm : C0 ∈ [RX10, RX9, RX7]) (hw : Wd (.classLink μ.1.cls j C0)) (hi : n.toInt = (N : Int)) (hbytes : N * 4 ≤ 536870912) (hR : (Nat.ble (cs + 1) R.cells && Nat.ble (ss + N) R.slots) = true) (hd : Dc μ pc (.anewarray j) 3 pc') (k : ∀ q : Nat, Tr G μ R O (cs + 1) (ss + N) pc' lv (.ref q :: st) (ws ++ [(q, .inl (G.2.1 t0, N, .inr (.inr (.inr (.inr (fun _ => none))))))])) : Tr G μ R O cs ss pc lv (.int n :: st) ws := fun p l ev s m args below meth c A H locs ls C hl hP hD hS => by
  obtain ⟨hx, hb, hml, hown, hr, hlk, hAm, hA, hnm, hO⟩ := id C
  obtain ⟨hd, rfl⟩ := hd
  refine va_newq hx hb hown (hAm.1 _ hw _) (hAm.2.1.2.2.2.2 C0 hm) hAm.2.2.1 hP hD hS hA (by rw [Int32.lt_iff_toInt_lt]; show ¬ n.toInt < 0; omega) (by show n.toInt.toNat = N; omega) hbytes (Nat.le_of_ble_eq_true (Bool.and_eq_true_iff.mp hR).1) (Nat.le_of_ble_eq_true (Bool.and_eq_true_iff.mp hR).2) hd (fun q cA H1 hK1 hP1 hD1 hS1 => ?_)
  have hc := z_arr1 hAm.2.2.1 ht (z_last hK1)
  subst hc
  exact k q p l ev s m args below meth c A H1 locs ls C hl hP1 hD1 hS1
theorem z_new {G : GT} {μ : Mu} {R : Room} {O : OT} {cs ss pc pc' : Nat} {lv : List (Nat × Value)} {st : List Value} {ws : va_W} {C0 : String} {T1 : u_T} {N j ci : Nat} {fs : List Value} (ty : Nat → FieldType) (hc : vwCl[ci]? = some (C0, T1, N)) (hu : ∀ w ∈ u_ws C0 T1 N, Wd w) (hty : ∀ k, k < N → parseFieldDescriptor (T1 k).2.2.1 = some (ty k)) (hw1 : Wd (.classLink μ.1.cls j C0)) (hw2 : Wd (.instantiable C0 N)) (hw3 : Wd (.initialized C0)) (hfs : ∀ j, j < N → defaultValue (ty j) = vp_V fs j) (hR : (Nat.ble (cs + 1) R.cells && Nat.ble (ss + N) R.slots) = true) (hd : Dc μ pc (.new j) 3 pc') (k : ∀ q : Nat, Tr G μ R O (cs + 1) (ss + N) pc' lv (.ref q :: st) (ws ++ [(q, .inr (ci, fs))])) : Tr G μ R O cs ss pc lv (st) ws := fun p l ev s m args below meth c A H locs ls C hl hP hD hS => by
  obtain ⟨hx, hb, hml, hown, hr, hlk, hAm, hA, hnm, hO⟩ := id C
  obtain ⟨hd, rfl⟩ := hd
  exact va_new (Ts := u_ws C0 T1 N) hx hb (fun w hw => hAm.1 w (hu w hw) _) (fun _ h => h) ty hty hown (hAm.1 _ hw1 _) (hAm.1 _ hw2 _) (hAm.1 _ hw3 _) hAm.2.2.1 hP hD hS hA hc hfs (Nat.le_of_ble_eq_true (Bool.and_eq_true_iff.mp hR).1) (Nat.le_of_ble_eq_true (Bool.and_eq_true_iff.mp hR).2) hd (fun q H1 hP1 hD1 hS1 => k q p l ev s m args below meth c A H1 locs ls C hl hP1 hD1 hS1)
theorem z_objInit {G : GT} {μ : Mu} {R : Room} {O : OT} {cs ss pc pc' : Nat} {lv : List (Nat × Value)} {st : List Value} {ws : va_W} {j a : Nat} (hw : Wd (.methodLink μ.1.cls j ⟨"java/lang/Object", "<init>", "()V"⟩)) (hR : (Nat.ble 1 R.frames && Nat.ble ((st.map fun v => v.category).sum + 12) R.locals) = true) (hd : Dc μ pc (.invokespecial j) 3 pc') (k : Tr G μ R O cs ss pc' lv (st) ws) : Tr G μ R O cs ss pc lv (.ref a :: st) ws := fun p l ev s m args below meth c A H locs ls C hl hP hD hS => by
  obtain ⟨hx, hb, hml, hown, hr, hlk, hAm, hA, hnm, hO⟩ := id C
  obtain ⟨hd, rfl⟩ := hd
  exact W.objInit hx hb hown (hAm.1 _ hw _) (hAm.1 _ w_0085 _) (hAm.1 _ w_0086 _) (g := F0 m pc ls (.ref a :: st)) rfl (hl.1.trans hml.symm) rfl hd (Nat.le_of_ble_eq_true (Bool.and_eq_true_iff.mp hR).1) (by have h9 := Nat.le_of_ble_eq_true (Bool.and_eq_true_iff.mp hR).2; show 2 * 0 + _ + _ ≤ _; omega) (k p l ev s m args below meth c A H locs ls C hl hP hD hS)
theorem z_astR {G : GT} {μ : Mu} {R : Room} {O : OT} {cs ss pc pc' : Nat} {lv : List (Nat × Value)} {st : List Value} {ws : va_W} {a n v ci : Nat} {vs : List Value} {f : Nat → Option Nat} {i : Int32} {C1 E0 : String} (q0 t0 qk j : Nat) (ws' : va_W) (he : ws[q0]? = some (a, .inl (G.2.1 t0, n, .inr (.inr (.inr (.inr (f))))))) (ht : (TYS G)[t0]? = some (G.2.1 t0, .object E0)) (hv : ws[qk]? = some (v, .inr (ci, vs))) (hci : (vwCl[ci]?).map (fun q => q.1) = some C1) (hsub : C1 = E0 ∨ (C1, E0) ∈ castL) (hi : i.toInt = (j : Int)) (hj : j < n) (hw : ws.set q0 (a, .inl (G.2.1 t0, n, .inr (.inr (.inr (.inr (va_up f j (some v))))))) = ws') (hd : Dc μ pc (.aastore) 1 pc') (k : Tr G μ R O cs ss pc' lv (st) ws') : Tr G μ R O cs ss pc lv (.ref v :: .int i :: .ref a :: st) ws := fun p l ev s m args below meth c A H locs ls C hl hP hD hS => by
  obtain ⟨hx, hb, hml, hown, hr, hlk, hAm, hA, hnm, hO⟩ := id C
  obtain ⟨hd, rfl⟩ := hd
  have e : i.toNatClampNeg = j := by
    show i.toInt.toNat = j
    omega
  subst hw
  obtain ⟨r, hr1, rfl⟩ := Option.map_eq_some_iff.mp hci
  rcases hsub with h9 | h9
  · refine va_astq (r := r) hx hb hAm.2.2.1 hP hD hS q0 t0 qk ci he (by rw [h9]; exact ht) hv hr1 (vp_in_iff.mpr ⟨by omega, by omega⟩) hd (fun H1 locs1 hP1 hD1 hS1 => ?_)
    rw [e] at hP1 hD1
    exact k p l ev s m args below meth c A H1 locs1 ls C hl hP1 hD1 hS1
  · refine va_astqO (r := r) hx hb hAm.2.2.1 hP hD hS q0 t0 qk ci he ht (hAm.2.1.2.1 _ h9) hv hr1 (vp_in_iff.mpr ⟨by omega, by omega⟩) hd (fun H1 locs1 hP1 hD1 hS1 => ?_)
    rw [e] at hP1 hD1
    exact k p l ev s m args below meth c A H1 locs1 ls C hl hP1 hD1 hS1
theorem z_astN {G : GT} {μ : Mu} {R : Room} {O : OT} {cs ss pc pc' : Nat} {lv : List (Nat × Value)} {st : List Value} {ws : va_W} {a n : Nat} {f : Nat → Option Nat} {i : Int32} {E0 : String} (q0 t0 j : Nat) (ws' : va_W) (he : ws[q0]? = some (a, .inl (G.2.1 t0, n, .inr (.inr (.inr (.inr (f))))))) (ht : (TYS G)[t0]? = some (G.2.1 t0, .object E0)) (hi : i.toInt = (j : Int)) (hj : j < n) (hw : ws.set q0 (a, .inl (G.2.1 t0, n, .inr (.inr (.inr (.inr (va_up f j none)))))) = ws') (hd : Dc μ pc (.aastore) 1 pc') (k : Tr G μ R O cs ss pc' lv (st) ws') : Tr G μ R O cs ss pc lv (.null :: .int i :: .ref a :: st) ws := fun p l ev s m args below meth c A H locs ls C hl hP hD hS => by
  obtain ⟨hx, hb, hml, hown, hr, hlk, hAm, hA, hnm, hO⟩ := id C
  obtain ⟨hd, rfl⟩ := hd
  have e : i.toNatClampNeg = j := by
    show i.toInt.toNat = j
    omega
  subst hw
  refine va_astqN hx hb hAm.2.2.1 hP hD hS q0 t0 he ht (vp_in_iff.mpr ⟨by omega, by omega⟩) hd (fun H1 locs1 hP1 hD1 hS1 => ?_)
  rw [e] at hP1 hD1
  exact k p l ev s m args below meth c A H1 locs1 ls C hl hP1 hD1 hS1
theorem z_intA {G : GT} {s : State} (hK : va_K G.1 vwCl (TYS G) s) : s.vm.findClass "[I" = some (G.2.1 0) := (hK.2 0 _ rfl).2
theorem z_ifit {cA : ClassId} {N : Nat} {f : Nat → Int32} (i : Nat) (v : Value) (h : (vp_cell cA (N, .inl f)).slots[i]? = some v) : fits .int v = true := by
  simp only [vp_cell, arrCell_eq, arrV] at h
  rw [Array.getElem?_ofFn] at h
  split at h
  · cases h; rfl
  · cases h
theorem z_clone {G : GT} {μ : Mu} {R : Room} {O : OT} {cs ss pc pc' : Nat} {lv : List (Nat × Value)} {st : List Value} {ws : va_W} {a N j : Nat} {f : Nat → Int32} (q0 : Nat) (he : ws[q0]? = some (a, .inl (G.2.1 0, N, .inl f))) (hw : Wd (.methodLink μ.1.cls j ⟨"[I", "clone", "()Ljava/lang/Object;"⟩)) (hF : Nat.ble 1 R.frames = true) (hL : Nat.ble ((st.map fun v => v.category).sum + 14) R.locals = true) (hR : (Nat.ble (cs + 1) R.cells && Nat.ble (ss + N) R.slots) = true) (hd : Dc μ pc (.invokevirtual j) 3 pc') (k : ∀ q : Nat, Tr G μ R O (cs + 1) (ss + N) pc' lv (.ref q :: st) (ws ++ [(q, .inl (G.2.1 0, N, .inl f))])) : Tr G μ R O cs ss pc lv (.ref a :: st) ws := fun p l ev s m args below meth c A H locs ls C hl hP hD hS => by
  obtain ⟨hx, hb, hml, hown, hr, hlk, hAm, hA, hnm, hO⟩ := id C
  obtain ⟨hd, rfl⟩ := hd
  exact va_clone hx hb (hml.trans hl.1.symm) hown (hAm.1 _ hw _) (hAm.1 _ w_0345 _) (hAm.1 _ w_0346 _) (hAm.1 _ w_0347 _) (hAm.1 _ w_0348 _) (hAm.2.1.2.1 ("[I", "java/lang/Cloneable") (List.mem_of_getElem? (i := 9) rfl)) hAm.2.2.1 hP hD hS hA q0 0 he rfl (z_intA hAm.2.2.1) z_ifit (Nat.le_of_ble_eq_true hF) (Nat.le_of_ble_eq_true hL) (Nat.le_of_ble_eq_true (Bool.and_eq_true_iff.mp hR).1) (Nat.le_of_ble_eq_true (Bool.and_eq_true_iff.mp hR).2) hd (fun q H1 _ hP1 hD1 hS1 => k q p l ev s m args below meth c A H1 locs ls C hl hP1 hD1 hS1)
theorem z_castI {G : GT} {μ : Mu} {R : Room} {O : OT} {cs ss pc pc' : Nat} {lv : List (Nat × Value)} {st : List Value} {ws : va_W} {a N j : Nat} {f : Nat → Int32} (q0 : Nat) (he : ws[q0]? = some (a, .inl (G.2.1 0, N, .inl f))) (hw : Wd (.classLink μ.1.cls j "[I")) (hd : Dc μ pc (.checkcast j) 3 pc') (k : Tr G μ R O cs ss pc' lv (.ref a :: st) ws) : Tr G μ R O cs ss pc lv (.ref a :: st) ws := fun p l ev s m args below meth c A H locs ls C hl hP hD hS => by
  obtain ⟨hx, hb, hml, hown, hr, hlk, hAm, hA, hnm, hO⟩ := id C
  obtain ⟨hd, rfl⟩ := hd
  exact va_castA hx hb hown (hAm.1 _ hw _) hP q0 he (z_intA hAm.2.2.1) hd (k p l ev s m args below meth c A H locs ls C hl hP hD hS)
theorem z_copyi {G : GT} {μ : Mu} {R : Room} {O : OT} {cs ss pc pc' : Nat} {lv : List (Nat × Value)} {st : List Value} {ws : va_W} {a a0 n0 n1 j : Nat} {f g : Nat → Int32} {sp dp n : Int32} (q0 q1 S0 D0 N0 : Nat) (ws' : va_W) (he0 : ws[q0]? = some (a0, .inl (G.2.1 0, n0, .inl f))) (he1 : ws[q1]? = some (a, .inl (G.2.1 0, n1, .inl g))) (h1 : sp.toInt = (S0 : Int)) (h2 : dp.toInt = (D0 : Int)) (h3 : n.toInt = (N0 : Int)) (h4 : S0 + N0 ≤ n0) (h5 : D0 + N0 ≤ n1) (hw : Wd (.methodLink μ.1.cls j ⟨"java/lang/System", "arraycopy", "(Ljava/lang/Object;ILjava/lang/Object;II)V"⟩)) (hF : Nat.ble 1 R.frames = true) (hL : Nat.ble ((st.map fun v => v.category).sum + (nativeFrameWords "java/lang/System" "arraycopy" 5 + 11)) R.locals = true) (hw' : ws.set q1 (a, .inl (G.2.1 0, n1, .inl (va_cpy f g S0 D0 N0))) = ws') (hd : Dc μ pc (.invokestatic j) 3 pc') (k : Tr G μ R O cs ss pc' lv (st) ws') : Tr G μ R O cs ss pc lv (.int n :: .int dp :: .ref a :: .int sp :: .ref a0 :: st) ws := fun p l ev s m args below meth c A H locs ls C hl hP hD hS => by
  obtain ⟨hx, hb, hml, hown, hr, hlk, hAm, hA, hnm, hO⟩ := id C
  obtain ⟨hd, rfl⟩ := hd
  have e1 : sp.toNatClampNeg = S0 := by
    show sp.toInt.toNat = S0
    omega
  have e2 : dp.toNatClampNeg = D0 := by
    show dp.toInt.toNat = D0
    omega
  have e3 : n.toNatClampNeg = N0 := by
    show n.toInt.toNat = N0
    omega
  subst hw'
  refine va_copyi hx hb (hml.trans hl.1.symm) hown (hAm.1 _ hw _) (hAm.1 _ w_0354 _) (hAm.1 _ w_0353 _) (hAm.1 _ w_0067 _) hAm.2.2.1 hP hD hS q0 q1 0 0 he0 he1 rfl rfl rfl (by rw [Int32.lt_iff_toInt_lt]; show ¬ sp.toInt < 0; omega) (by rw [Int32.lt_iff_toInt_lt]; show ¬ dp.toInt < 0; omega) (by rw [Int32.lt_iff_toInt_lt]; show ¬ n.toInt < 0; omega) (by omega) (by omega) (fun _ _ => rfl) (Nat.le_of_ble_eq_true hF) (Nat.le_of_ble_eq_true hL) hd (fun H1 locs1 hP1 hD1 hS1 => ?_)
  rw [e1, e2, e3] at hP1 hD1
  exact k p l ev s m args below meth c A H1 locs1 ls C hl hP1 hD1 hS1
theorem z_instT {G : GT} {μ : Mu} {R : Room} {O : OT} {cs ss pc pc' : Nat} {lv : List (Nat × Value)} {st : List Value} {ws : va_W} {a ci j : Nat} {fs : List Value} {C1 nm : String} (q0 : Nat) (he : ws[q0]? = some (a, .inr (ci, fs))) (hci : (vwCl[ci]?).map (fun q => q.1) = some C1) (hw : Wd (.classLink μ.1.cls j nm)) (hs : C1 = nm ∨ (C1, nm) ∈ castL) (hd : Dc μ pc (.instanceof j) 3 pc') (k : Tr G μ R O cs ss pc' lv (.int 1 :: st) ws) : Tr G μ R O cs ss pc lv (.ref a :: st) ws := fun p l ev s m args below meth c A H locs ls C hl hP hD hS => by
  obtain ⟨hx, hb, hml, hown, hr, hlk, hAm, hA, hnm, hO⟩ := id C
  obtain ⟨hd, rfl⟩ := hd
  obtain ⟨q, hq, rfl⟩ := Option.map_eq_some_iff.mp hci
  rcases hs with h9 | h9
  · exact va_instE hx hb hown (hAm.1 _ hw _) (by rw [← h9]; exact va_recv hAm.2.2.1 hP hq he) hd (k p l ev s m args below meth c A H locs ls C hl hP hD hS)
  · exact va_instY hx hb hown (hAm.1 _ hw _) (hAm.2.1.2.1 _ h9) (va_recv hAm.2.2.1 hP hq he) hd (k p l ev s m args below meth c A H locs ls C hl hP hD hS)
theorem z_instF {G : GT} {μ : Mu} {R : Room} {O : OT} {cs ss pc pc' : Nat} {lv : List (Nat × Value)} {st : List Value} {ws : va_W} {a ci j : Nat} {fs : List Value} {C1 nm : String} (q0 : Nat) (he : ws[q0]? = some (a, .inr (ci, fs))) (hci : (vwCl[ci]?).map (fun q => q.1) = some C1) (hw : Wd (.classLink μ.1.cls j nm)) (hs : (C1, nm) ∈ ncL) (hd : Dc μ pc (.instanceof j) 3 pc') (k : Tr G μ R O cs ss pc' lv (.int 0 :: st) ws) : Tr G μ R O cs ss pc lv (.ref a :: st) ws := fun p l ev s m args below meth c A H locs ls C hl hP hD hS => by
  obtain ⟨hx, hb, hml, hown, hr, hlk, hAm, hA, hnm, hO⟩ := id C
  obtain ⟨hd, rfl⟩ := hd
  obtain ⟨q, hq, rfl⟩ := Option.map_eq_some_iff.mp hci
  exact va_instNo hx hb hown (hAm.1 _ hw _) (hAm.2.1.2.2.1 _ hs) (va_recv hAm.2.2.1 hP hq he) hd (k p l ev s m args below meth c A H locs ls C hl hP hD hS)
theorem z_strF {G : GT} {A : Nat → Prop} {s : State} (hAm : Am G A s s.heap) {own : String} {j : Nat} {n d : String} (hw : Wd (.fieldLink own j RJ0 n d)) : ∀ x, s.fieldFound? "java/lang/String" n d = some x → s.fieldFound? RJ0 n d = some x := fun _ h => h
theorem z_strV {G : GT} {μ : Mu} {R : Room} {O : OT} {cs ss pc pc' : Nat} {lv : List (Nat × Value)} {st : List Value} {ws : va_W} {j i : Nat} (hi : i < 14) (hw : Wd (.fieldLink μ.1.cls j RJ0 "value" "[B")) (hd : Dc μ pc (.getfield j) 3 pc') (k : Tr G μ R O cs ss pc' lv (.ref (G.2.2.2 i) :: st) ws) : Tr G μ R O cs ss pc lv (.ref (G.2.2.1 i) :: st) ws := fun p l ev s m args below meth c A H locs ls C hl hP hD hS => by
  obtain ⟨hx, hb, hml, hown, hr, hlk, hAm, hA, hnm, hO⟩ := id C
  obtain ⟨hd, rfl⟩ := hd
  exact vk_getf hx hb (hAm.2.2.2.1.1 i hi).2.2.1 hS hown (hAm.1 _ hw _) (fun _ h => h) hd (k p l ev s m args below meth c A H locs ls C hl hP hD hS)
theorem z_strC {G : GT} {μ : Mu} {R : Room} {O : OT} {cs ss pc pc' : Nat} {lv : List (Nat × Value)} {st : List Value} {ws : va_W} {j i : Nat} (hi : i < 14) (hw : Wd (.fieldLink μ.1.cls j RJ0 "coder" "B")) (hd : Dc μ pc (.getfield j) 3 pc') (k : Tr G μ R O cs ss pc' lv (.int 0 :: st) ws) : Tr G μ R O cs ss pc lv (.ref (G.2.2.1 i) :: st) ws := fun p l ev s m args below meth c A H locs ls C hl hP hD hS => by
  obtain ⟨hx, hb, hml, hown, hr, hlk, hAm, hA, hnm, hO⟩ := id C
  obtain ⟨hd, rfl⟩ := hd
  exact vk_getf hx hb (hAm.2.2.2.1.1 i hi).2.1 hS hown (hAm.1 _ hw _) (fun _ h => h) hd (k p l ev s m args below meth c A H locs ls C hl hP hD hS)
theorem z_strL {G : GT} {μ : Mu} {R : Room} {O : OT} {cs ss pc pc' : Nat} {lv : List (Nat × Value)} {st : List Value} {ws : va_W} {i : Nat} {v : Int32} (hi : i < 14) (hv : nI (sLen.getD i 0) = v) (hd : Dc μ pc (.arraylength) 1 pc') (k : Tr G μ R O cs ss pc' lv (.int v :: st) ws) : Tr G μ R O cs ss pc lv (.ref (G.2.2.2 i) :: st) ws := fun p l ev s m args below meth c A H locs ls C hl hP hD hS => by
  obtain ⟨hx, hb, hml, hown, hr, hlk, hAm, hA, hnm, hO⟩ := id C
  obtain ⟨hd, rfl⟩ := hd
  exact va_tlen hx hb (hAm.2.2.2.1.1 i hi).2.2.2 hS hv hd (k p l ev s m args below meth c A H locs ls C hl hP hD hS)
theorem z_strB {G : GT} {μ : Mu} {R : Room} {O : OT} {cs ss pc pc' : Nat} {lv : List (Nat × Value)} {st : List Value} {ws : va_W} {i : Nat} {n : Int32} (j : Nat) (hi : i < 14) (hn : n.toInt = (j : Int)) (hj : j < sLen.getD i 0) (hd : Dc μ pc (.baload) 1 pc') (k : Tr G μ R O cs ss pc' lv (.int ((sByt.getD i []).getD j 0) :: st) ws) : Tr G μ R O cs ss pc lv (.int n :: .ref (G.2.2.2 i) :: st) ws := fun p l ev s m args below meth c A H locs ls C hl hP hD hS => by
  obtain ⟨hx, hb, hml, hown, hr, hlk, hAm, hA, hnm, hO⟩ := id C
  obtain ⟨hd, rfl⟩ := hd
  have e : n.toNatClampNeg = j := by
    show n.toInt.toNat = j
    omega
  exact va_tb (i := n) hx hb (hAm.2.2.2.1.1 i hi).2.2.2 hS (vp_in_iff.mpr ⟨by omega, by omega⟩) (by rw [e]) hd (k p l ev s m args below meth c A H locs ls C hl hP hD hS)
theorem z_getCS {G : GT} {μ : Mu} {R : Room} {O : OT} {cs ss pc pc' : Nat} {lv : List (Nat × Value)} {st : List Value} {ws : va_W} {j : Nat} (hw : Wd (.fieldLink μ.1.cls j RJ0 "COMPACT_STRINGS" "Z")) (hd : Dc μ pc (.getstatic j) 3 pc') (k : Tr G μ R O cs ss pc' lv (.int 1 :: st) ws) : Tr G μ R O cs ss pc lv (st) ws := fun p l ev s m args below meth c A H locs ls C hl hP hD hS => by
  obtain ⟨hx, hb, hml, hown, hr, hlk, hAm, hA, hnm, hO⟩ := id C
  obtain ⟨hd, rfl⟩ := hd
  exact va_gets hx hb hAm.2.2.2.2.1 hS hown (hAm.1 _ hw _) (fun _ h => h) hd (k p l ev s m args below meth c A H locs ls C hl hP hD hS)
theorem z_getSF {G : GT} {μ : Mu} {R : Room} {O : OT} {cs ss pc pc' : Nat} {lv : List (Nat × Value)} {st : List Value} {ws : va_W} {j : Nat} (hw : Wd (.fieldLink μ.1.cls j RJ3 "SIOOBE_FORMATTER" "Ljava/util/function/BiFunction;")) (hd : Dc μ pc (.getstatic j) 3 pc') (k0 : Tr G μ R O cs ss pc' lv (.null :: st) ws) (k1 : ∀ t : Nat, Tr G μ R O cs ss pc' lv (.ref t :: st) ws) : Tr G μ R O cs ss pc lv (st) ws := fun p l ev s m args below meth c A H locs ls C hl hP hD hS => by
  obtain ⟨hx, hb, hml, hown, hr, hlk, hAm, hA, hnm, hO⟩ := id C
  obtain ⟨hd, rfl⟩ := hd
  rcases hAm.2.2.2.2.2 with h9 | ⟨t, h9⟩
  · exact va_gets hx hb h9 hS hown (hAm.1 _ hw _) (fun _ h => h) hd (k0 p l ev s m args below meth c A H locs ls C hl hP hD hS)
  · exact va_gets hx hb h9 hS hown (hAm.1 _ hw _) (fun _ h => h) hd (k1 t p l ev s m args below meth c A H locs ls C hl hP hD hS)
theorem z_callK {G : GT} {μ : Mu} {R : Room} {O : OT} {cs ss pc pc' : Nat} {lv : List (Nat × Value)} {st : List Value} {ws : va_W} {st0 : List Value} {μ' : Mu} {j n d mc ms : Nat} {E' : Option Value → va_W → Prop} {i : Nat} {As : List Value} (hi : i < 14) (hw : CaV μ.1.cls j RJ0 μ' n) (hc : Ct G μ' d mc ms (.ref (G.2.2.1 i) :: As) ws E') (hst : st0 = As.reverse ++ .ref (G.2.2.1 i) :: st) (hn : As.length = n) (h8 : (st.map fun v => v.category).sum ≤ 8) (hR : rmok d mc ms cs ss R = true) (hd : Dc μ pc (.invokevirtual j) 3 pc') (kk : ∀ v ws', E' v ws' → Tr G μ R O (cs + mc) (ss + ms) pc' lv (v.toList ++ st) ws') : Tr G μ R O cs ss pc lv st0 ws := fun p l ev s m args below meth c A H locs ls C hl hP hD hS => by
  obtain ⟨hx, hb, hml, hown, hr, hlk, hAm, hA, hnm, hO⟩ := id C
  obtain ⟨hd, rfl⟩ := hd
  obtain ⟨r1, r2, r3⟩ := rmok_spec hR
  obtain ⟨w1, w2, w3, w4⟩ := hw
  subst hst
  exact z_after (va_runV (As := As) (rest := st) ⟨hx, hb, hml, hown, (fun w h => absurd h List.not_mem_nil : ∀ w ∈ ([] : List Cond), w.before args s = true)⟩ (hc l H.size) ⟨Cm.ok hAm w1 r1 r2 w4, hAm.1 _ w2 _, hAm.1 _ w3 _⟩ ⟨z_blind, vk_recv hAm.2.2.2.1 hi hS, z_PcS (av := (.ref (G.2.2.1 i) :: As)) hAm hP hD hS (z_sub hD hS hA)⟩ rfl hn hl.1 rfl (lv_room h8) hd r3) (z_sub hD hS hA) hS (fun v ws' H1 locs1 hE hP1 hD1 hz hk hS1 => kk v ws' hE p l ev s m args below meth c A H1 locs1 ls C hl hP1 (hD1.weaken (fun _ _ _ h => z_sub hD hS hA _ h)) hS1)
/-- a call of x, named by its own class, that the receiver's class C1 answers by μ -/
def CaU (own : String) (j : Nat) (C1 : String) (x : MethodName) (μ : Mu) (n : Nat) : Prop := Cm μ n ∧ Wd (.instanceMethod μ.1) ∧ Wd (.selects C1 x μ.1) ∧ Wd (.methodLink own j x) ∧ Wd (.sameMethod x.cls x.cls x.name x.desc) ∧ (x.cls ≠ "java/lang/invoke/MethodHandle" ∧ x.cls ≠ "java/lang/invoke/VarHandle") ∧ (parseMethodDescriptor x.desc).map (fun d => d.parameters.length) = some n ∧ Wd (.instanceMethod x) ∧ ∃ (b : ByteArray) (mx : Nat) (r : Option FieldType), Wd (.code x b mx r)
theorem CaU.ok {G : GT} {A : Nat → Prop} {H : Heap} {s : State} (hAm : Am G A s H) {args : Array Value} {own C1 : String} {x : MethodName} {j : Nat} {μ : Mu} {n d mc ms : Nat} {R : Room} (h : CaU own j C1 x μ n) (hR1 : d + 1 ≤ R.frames) (hR2 : 40 * d + 40 ≤ R.locals) :
    va_CU R s args own C1 x.cls j x μ.1 μ.2.1 μ.2.2.1 μ.2.2.2 [Cond.code μ.1 μ.2.1 μ.2.2.1 μ.2.2.2] (Rm d mc ms) mc ms n := by
  obtain ⟨⟨h1, h2, h3, h4, h5⟩, g1, g2, g3, g4, g5, g6, g7, b, mx, r, g8⟩ := h
  refine ⟨⟨rfl, rfl, hR1, (by show 8 + (μ.2.2.1 + 11) + 40 * d ≤ R.locals; omega), ?_, List.mem_cons_self⟩, hAm.1 _ h1 _, hAm.1 _ h2 _, g5, fun sig h => ?_, hAm.1 _ g3 _, hAm.1 _ g4 _, va_Decl.of (args := args) (hAm.1 _ g7 _) (hAm.1 _ g8 _), hAm.1 _ g2 _, hAm.1 _ g1 _⟩
  · intro w hw a' U hW
    rw [z_code1 w hw]
    exact (Am.warm hW hAm).1 _ h1 _
  · rw [h] at g6
    exact (Option.some.inj g6).symm
theorem z_callU {G : GT} {μ : Mu} {R : Room} {O : OT} {cs ss pc pc' : Nat} {lv : List (Nat × Value)} {st : List Value} {ws : va_W} {st0 : List Value} {μ' : Mu} {j n d mc ms : Nat} {E' : Option Value → va_W → Prop} {C1 : String} {x : MethodName} {a ci : Nat} {fs As : List Value} (q0 : Nat) (hw : CaU μ.1.cls j C1 x μ' n) (he : ws[q0]? = some (a, .inr (ci, fs))) (hci : (vwCl[ci]?).map (fun q => q.1) = some C1) (hc : Ct G μ' d mc ms (.ref a :: As) ws E') (hst : st0 = As.reverse ++ .ref a :: st) (hn : As.length = n) (h8 : (st.map fun v => v.category).sum ≤ 8) (hR : rmok d mc ms cs ss R = true) (hd : Dc μ pc (.invokevirtual j) 3 pc') (kk : ∀ v ws', E' v ws' → Tr G μ R O (cs + mc) (ss + ms) pc' lv (v.toList ++ st) ws') : Tr G μ R O cs ss pc lv st0 ws := fun p l ev s m args below meth c A H locs ls C hl hP hD hS => by
  obtain ⟨hx, hb, hml, hown, hr, hlk, hAm, hA, hnm, hO⟩ := id C
  obtain ⟨hd, rfl⟩ := hd
  obtain ⟨r1, r2, r3⟩ := rmok_spec hR
  subst hst
  obtain ⟨q, hq, rfl⟩ := Option.map_eq_some_iff.mp hci
  exact z_after (va_runU (As := As) (rest := st) ⟨hx, hb, hml, hown, (fun w h => absurd h List.not_mem_nil : ∀ w ∈ ([] : List Cond), w.before args s = true)⟩ (hc l H.size) (CaU.ok hAm hw r1 r2) ⟨z_blind, va_recv hAm.2.2.1 hP hq he, z_PcS (av := (.ref a :: As)) hAm hP hD hS (z_sub hD hS hA)⟩ rfl hn hl.1 rfl (lv_room h8) hd r3) (z_sub hD hS hA) hS (fun v ws' H1 locs1 hE hP1 hD1 hz hk hS1 => kk v ws' hE p l ev s m args below meth c A H1 locs1 ls C hl hP1 (hD1.weaken (fun _ _ _ h => z_sub hD hS hA _ h)) hS1)
/-- super's own method: the reference names it through the superclass xc, that has it or inherits it from its own superclass -/
def CaP (own : String) (j : Nat) (xc : String) (μ : Mu) (n : Nat) : Prop := Cm μ n ∧ Wd (.instanceMethod μ.1) ∧ Wd (.methodLink own j ⟨xc, μ.1.name, μ.1.desc⟩) ∧ Wd (.sameMethod xc μ.1.cls μ.1.name μ.1.desc) ∧ Wd (.superclass own xc) ∧ (xc = μ.1.cls ∨ Wd (.superclass xc μ.1.cls)) ∧ μ.1.name ≠ "<init>"
theorem z_isSub {vm : Vm} {a b : ClassId} {k : Class} (h : a = b ∨ (vm.classes[a]? = some k ∧ k.super = some b)) : vm.isSubclass a b = true := by
  rcases h with rfl | ⟨h1, h2⟩
  · simp [Vm.isSubclass, Vm.isSubclassAux]
  · have h3 : 0 < vm.classes.size := Nat.lt_of_le_of_lt (Nat.zero_le _) (Array.getElem?_eq_some_iff.mp h1).1
    obtain ⟨n, hn⟩ : ∃ n, vm.classes.size = n + 1 := ⟨vm.classes.size - 1, by omega⟩
    unfold Vm.isSubclass
    rw [hn]
    simp [Vm.isSubclassAux, h1, h2]
theorem z_callP {G : GT} {μ : Mu} {R : Room} {O : OT} {cs ss pc pc' : Nat} {lv : List (Nat × Value)} {st : List Value} {ws : va_W} {st0 : List Value} {μ' : Mu} {j n d mc ms : Nat} {E' : Option Value → va_W → Prop} {xc : String} {a ci : Nat} {fs As : List Value} {r9 : vw_C} (q0 : Nat) (hw : CaP μ.1.cls j xc μ' n) (he : ws[q0]? = some (a, .inr (ci, fs))) (hci : vwCl[ci]? = some r9) (hc : Ct G μ' d mc ms (.ref a :: As) ws E') (hst : st0 = As.reverse ++ .ref a :: st) (hn : As.length = n) (h8 : (st.map fun v => v.category).sum ≤ 8) (hR : rmok d mc ms cs ss R = true) (hd : Dc μ pc (.invokespecial j) 3 pc') (kk : ∀ v ws', E' v ws' → Tr G μ R O (cs + mc) (ss + ms) pc' lv (v.toList ++ st) ws') : Tr G μ R O cs ss pc lv st0 ws := fun p l ev s m args below meth c A H locs ls C hl hP hD hS => by
  obtain ⟨hx, hb, hml, hown, hr, hlk, hAm, hA, hnm, hO⟩ := id C
  obtain ⟨hd, rfl⟩ := hd
  obtain ⟨r1, r2, r3⟩ := rmok_spec hR
  obtain ⟨⟨h1, h2, h3, h4, h5⟩, g1, g2, g3, g4, g5, g6⟩ := hw
  subst hst
  have hcode := hAm.1 _ h1 args
  obtain ⟨mk, methM, hnamed, hmethM, hstM, habM⟩ := Cond.instanceMethod_spec (hAm.1 _ g1 args)
  obtain ⟨methM', cM, hmethM', -, -, -, -, -, -, hsigM⟩ := Cond.code_spec hnamed hcode
  cases hmethM.symm.trans hmethM'
  obtain ⟨ps, dk, kp, hps, hdk, hkp, hsuper, -, -, hnid⟩ := Cond.superclass_spec hown (hAm.1 _ g4 args)
  have hmc : s.vm.findClass μ'.1.cls = some mk.cls := findClass_of_methodNamed hnamed
  have hsub : s.vm.isSubclass ps mk.cls = true := by
    rcases g5 with e | g5
    · rw [e] at hps
      exact z_isSub (k := kp) (Or.inl (Option.some.inj (hps.symm.trans hmc)))
    · obtain ⟨ps2, dk2, kp2, hps2, hdk2, hkp2, hsuper2, -, -, hnid2⟩ := Cond.superclass_spec hps (hAm.1 _ g5 args)
      exact z_isSub (Or.inr ⟨hdk2, by rw [hsuper2]; exact hps2.symm.trans hmc⟩)
  obtain ⟨cellB, hcB, hoB, hclB⟩ := va_recv hAm.2.2.1 hP hci he
  obtain ⟨hfc, kB, hkB, -⟩ := (hAm.2.2.1.1 ci r9 hci).2
  have hcls := Option.some.inj (hfc.symm.trans hclB)
  rw [hcls] at hkB
  refine z_after (a := (Value.ref a :: As).toArray) (fun T hT X => ?_) (z_sub hD hS hA) hS (fun v ws' H1 locs1 hE hP1 hD1 hz hk hS1 => kk v ws' hE p l ev s m args below meth c A H1 locs1 ls C hl hP1 (hD1.weaken (fun _ _ _ h => z_sub hD hS hA _ h)) hS1)
  have hK : Back l R p ev below s args μ'.1 3 8 (PreOf R mc ms (va_Pc (.ref a :: As) (GSt G ws H.size))) (PostOf (Qg G E' (va_A ws H.size)) mc ms (va_A ws H.size)) := back_of (bytes := μ'.2.1) (maxL := μ'.2.2.1) (ret := μ'.2.2.2) (hc l H.size) z_blind rfl rfl r1 (by show 8 + (μ'.2.2.1 + 11) + 40 * d ≤ R.locals; omega) (fun w hw a' U hW => by rw [z_code1 w hw]; exact (Am.warm hW hAm).1 _ h1 _) List.mem_cons_self (fun a' U hW => (Am.warm hW hAm).1 _ h2 _)
  obtain ⟨vm₁, X₁, hstep₁⟩ := X.invokespecialUp hx (x := ⟨xc, μ'.1.name, μ'.1.desc⟩) hown (hAm.1 _ g2 args) (hAm.1 _ g3 args) (r0 := mk) hnamed hmethM hstM habM g6 hdk hnid hps hsuper hsub (a := a) (cell := cellB) (by rw [hT]; exact hcB)
    (fun z h => by rw [h] at hoB; cases hoB) hkB (g := F0 m pc ls (As.reverse ++ .ref a :: st)) rfl (argsL := As) (rest := st) (hn.trans (by rw [hsigM] at h4; exact (Option.some.inj h4).symm)) rfl (by rw [hb]; exact hd)
  obtain ⟨v, ⟨U', l2, c2, s2⟩, X', ⟨g', mk2, t, L, e1, e2, hq, q1, hL, q2, q3⟩, st9⟩ := hK m meth c ⟨T.setVm vm₁, locs, cs, ss⟩ { F0 m pc ls (As.reverse ++ .ref a :: st) with stack := st } (.invokespecial j) mk (Value.ref a :: As).toArray X₁ rfl (hl.1.trans hml.symm) (by rw [hb]; exact hd) (lv_room h8) (X₁.named hnamed) ⟨r3.1, r3.2, z_PcS (av := (.ref a :: As)) hAm hP hD hS (z_sub hD hS hA) (T.setVm vm₁) hT X₁.warmed⟩
  dsimp only [Pt.U, Pt.locs, Pt.cells, Pt.slots] at X' e1 e2 q1 q2 q3 st9
  subst q1; subst q2; subst q3
  exact ⟨v, (T.setVm vm₁).calling g' mk2 (Value.ref a :: As).toArray, t, U', L, hT, X', hL, e1, e2, hq, fun target h => hstep₁ _ (by rw [doInvoke_state]; exact st9.trans h)⟩
/-- the world's cells in another order, or some of them -/
theorem z_world {G : GT} {μ : Mu} {R : Room} {O : OT} {cs ss pc : Nat} {lv : List (Nat × Value)} {st : List Value} {ws ws' : va_W} (is : List Nat) (hn : va_nd is = true) (hs : is.map (fun i => ws[i]?) = ws'.map some) (k : Tr G μ R O cs ss pc lv st ws') : Tr G μ R O cs ss pc lv st ws := fun p l ev s m args below meth c A H locs ls C hl hP hD hS => by
  refine k p l ev s m args below meth c A H locs ls C hl (hP.sub is ?_) (hD.sub is hn hs) hS
  have h : ∀ (is : List Nat) (ws' : va_W), is.map (fun i => ws[i]?) = ws'.map some → is.filterMap (fun i => ws[i]?) = ws' := by
    intro is
    induction is with
    | nil => intro ws' h; cases ws' with
      | nil => rfl
      | cons a b => cases h
    | cons i is ih => intro ws' h; cases ws' with
      | nil => cases h
      | cons a b =>
        rw [List.map_cons, List.map_cons] at h
        injection h with h1 h2
        rw [List.filterMap_cons, h1, ih b h2]
  exact h is ws' hs
theorem z_swap {G : GT} {μ : Mu} {R : Room} {O : OT} {cs ss pc : Nat} {lv : List (Nat × Value)} {st : List Value} {a b : va_W} (k : Tr G μ R O cs ss pc lv st (b ++ a)) : Tr G μ R O cs ss pc lv st (a ++ b) := fun p l ev s m args below meth c A H locs ls C hl hP hD hS =>
  k p l ev s m args below meth c A H locs ls C hl (va_P.swap (a := []) hP) (va_D.swap (a := []) hD) hS
theorem z_appG {a b : va_W} : ∀ (k : Nat) (q : Nat × va_E), b[k]? = some q → (a ++ b)[a.length + k]? = some q := fun k q h => by rw [List.getElem?_append_right (by omega)]; rw [Nat.add_sub_cancel_left]; exact h
theorem z_appL {a b : va_W} : ∀ (k : Nat) (q : Nat × va_E), a[k]? = some q → (a ++ b)[k]? = some q := fun k q h => by rw [List.getElem?_append_left (List.getElem?_eq_some_iff.mp h).1]; exact h
/-- behind a call over the part wc of the world wr ++ wc -/
theorem z_joinR {G : GT} {A : Nat → Prop} {wr wc w1 : va_W} {H H1 : Heap} (hP : va_P G.1 vwCl (wr ++ wc) H) (hD : va_D A (wr ++ wc)) (hk : ∀ q : Nat, q < H.size → ¬ va_A wc H.size q → H1[q]? = H[q]?) (hF : ∀ q, va_A wc H.size q → A q) (hP1 : va_P G.1 vwCl w1 H1) (hD1 : va_D (va_A wc H.size) w1) : va_P G.1 vwCl (wr ++ w1) H1 ∧ va_D A (wr ++ w1) := by
  have apart : ∀ (k : Nat) (q : Nat × va_E), wr[k]? = some q → q.1 < H.size ∧ ¬ va_A wc H.size q.1 := by
    intro k q hq
    have h2 := z_appL (b := wc) k q hq
    have hl := (hP k q h2).lt
    refine ⟨hl, fun h => ?_⟩
    rcases h with ⟨k2, e, h⟩ | h
    · have h4 := z_appG (a := wr) k2 (q.1, e) h
      have hij := hD.1 k (wr.length + k2) q (q.1, e) h2 h4 rfl
      have := (List.getElem?_eq_some_iff.mp hq).1
      omega
    · omega
  have hDr : va_D A wr := ⟨fun i j x y hx hy h => hD.1 i j x y (z_appL i x hx) (z_appL j y hy) h, fun k q hq => hD.2 k q (z_appL k q hq)⟩
  refine ⟨va_P.app (fun k q hq => ?_) hP1, va_D.app hDr (hD1.weaken (fun k q _ h => hF q.1 h)) (fun i j x y hx hy hxy => ?_)⟩
  · obtain ⟨g1, g2⟩ := apart k q hq
    exact (hP k q (z_appL k q hq)).kept (hk q.1 g1 g2)
  · exact (apart i x hx).2 (by rw [hxy]; exact hD1.2 j y hy)
theorem z_partP {G : GT} {wr wc : va_W} {H : Heap} (hP : va_P G.1 vwCl (wr ++ wc) H) : va_P G.1 vwCl wc H := fun k q hk => hP _ q (z_appG k q hk)
theorem z_partD {A : Nat → Prop} {wr wc : va_W} (hD : va_D A (wr ++ wc)) : va_D A wc := ⟨fun i j x y hx hy h => by have := hD.1 _ _ x y (z_appG i x hx) (z_appG j y hy) h; omega, fun k q hk => hD.2 _ q (z_appG k q hk)⟩
theorem z_callVR {G : GT} {μ : Mu} {R : Room} {O : OT} {cs ss pc pc' : Nat} {lv : List (Nat × Value)} {st : List Value} {wr wc : va_W} {st0 : List Value} {μ' : Mu} {j n d mc ms : Nat} {E' : Option Value → va_W → Prop} {C1 : String} {a ci : Nat} {fs As : List Value} (q0 : Nat) (hw : CaV μ.1.cls j C1 μ' n) (he : wc[q0]? = some (a, .inr (ci, fs))) (hci : (vwCl[ci]?).map (fun q => q.1) = some C1) (hc : Ct G μ' d mc ms (.ref a :: As) wc E') (hst : st0 = As.reverse ++ .ref a :: st) (hn : As.length = n) (h8 : (st.map fun v => v.category).sum ≤ 8) (hR : rmok d mc ms cs ss R = true) (hd : Dc μ pc (.invokevirtual j) 3 pc') (kk : ∀ v w1, E' v w1 → Tr G μ R O (cs + mc) (ss + ms) pc' lv (v.toList ++ st) (wr ++ w1)) : Tr G μ R O cs ss pc lv st0 (wr ++ wc) := fun p l ev s m args below meth c A H locs ls C hl hP hD hS => by
  obtain ⟨hx, hb, hml, hown, hr, hlk, hAm, hA, hnm, hO⟩ := id C
  obtain ⟨hd, rfl⟩ := hd
  obtain ⟨r1, r2, r3⟩ := rmok_spec hR
  obtain ⟨w1, w2, w3, w4⟩ := hw
  subst hst
  obtain ⟨q, hq, rfl⟩ := Option.map_eq_some_iff.mp hci
  exact z_after (va_runV (As := As) (rest := st) ⟨hx, hb, hml, hown, (fun w h => absurd h List.not_mem_nil : ∀ w ∈ ([] : List Cond), w.before args s = true)⟩ (hc l H.size) ⟨Cm.ok hAm w1 r1 r2 w4, hAm.1 _ w2 _, hAm.1 _ w3 _⟩ ⟨z_blind, va_recv hAm.2.2.1 (z_partP hP) hq he, z_PcS (av := (.ref a :: As)) hAm (z_partP hP) (z_partD hD) hS (z_sub (z_partD hD) hS hA)⟩ rfl hn hl.1 rfl (lv_room h8) hd r3) (z_sub (z_partD hD) hS hA) hS (fun v ws' H1 locs1 hE hP1 hD1 hz hk hS1 => kk v ws' hE p l ev s m args below meth c A H1 locs1 ls C hl (z_joinR hP hD hk (z_sub (z_partD hD) hS hA) hP1 hD1).1 (z_joinR hP hD hk (z_sub (z_partD hD) hS hA) hP1 hD1).2 hS1)
theorem z_callIR {G : GT} {μ : Mu} {R : Room} {O : OT} {cs ss pc pc' : Nat} {lv : List (Nat × Value)} {st : List Value} {wr wc : va_W} {st0 : List Value} {μ' : Mu} {j n d mc ms : Nat} {E' : Option Value → va_W → Prop} {a : Nat} {As : List Value} (hw : CaI μ.1.cls j μ' n) (hc : Ct G μ' d mc ms (.ref a :: As) wc E') (hst : st0 = As.reverse ++ .ref a :: st) (hn : As.length = n) (h8 : (st.map fun v => v.category).sum ≤ 8) (hR : rmok d mc ms cs ss R = true) (hd : Dc μ pc (.invokespecial j) 3 pc') (kk : ∀ v w1, E' v w1 → Tr G μ R O (cs + mc) (ss + ms) pc' lv (v.toList ++ st) (wr ++ w1)) : Tr G μ R O cs ss pc lv st0 (wr ++ wc) := fun p l ev s m args below meth c A H locs ls C hl hP hD hS => by
  obtain ⟨hx, hb, hml, hown, hr, hlk, hAm, hA, hnm, hO⟩ := id C
  obtain ⟨hd, rfl⟩ := hd
  obtain ⟨r1, r2, r3⟩ := rmok_spec hR
  obtain ⟨w1, w2, w5, w6, w3⟩ := hw
  subst hst
  obtain ⟨y', b', n', ret'⟩ := μ'
  dsimp only at w6
  subst w6
  rcases w3 with w3 | w3
  · exact z_after (va_runI (As := As) (rest := st) ⟨hx, hb, hml, hown, (fun w h => absurd h List.not_mem_nil : ∀ w ∈ ([] : List Cond), w.before args s = true)⟩ (hc l H.size) ⟨Cm.ok hAm w1 r1 r2 w3, w5, hAm.1 _ w2 _⟩ ⟨z_blind, z_PcS (av := (.ref a :: As)) hAm (z_partP hP) (z_partD hD) hS (z_sub (z_partD hD) hS hA)⟩ rfl hn hl.1 rfl (lv_room h8) hd r3) (z_sub (z_partD hD) hS hA) hS (fun v ws' H1 locs1 hE hP1 hD1 hz hk hS1 => kk v ws' hE p l ev s m args below meth c A H1 locs1 ls C hl (z_joinR hP hD hk (z_sub (z_partD hD) hS hA) hP1 hD1).1 (z_joinR hP hD hk (z_sub (z_partD hD) hS hA) hP1 hD1).2 hS1)
  · exact z_after (va_runIN (As := As) (rest := st) ⟨hx, hb, hml, hown, (fun w h => absurd h List.not_mem_nil : ∀ w ∈ ([] : List Cond), w.before args s = true)⟩ (hc l H.size) ⟨Cm.okN hAm w1 r1 r2 w3, w5, hAm.1 _ w2 _⟩ ⟨z_blind, z_PcS (av := (.ref a :: As)) hAm (z_partP hP) (z_partD hD) hS (z_sub (z_partD hD) hS hA)⟩ rfl hn hl.1 rfl (lv_room h8) hd r3) (z_sub (z_partD hD) hS hA) hS (fun v ws' H1 locs1 hE hP1 hD1 hz hk hS1 => kk v ws' hE p l ev s m args below meth c A H1 locs1 ls C hl (z_joinR hP hD hk (z_sub (z_partD hD) hS hA) hP1 hD1).1 (z_joinR hP hD hk (z_sub (z_partD hD) hS hA) hP1 hD1).2 hS1)
