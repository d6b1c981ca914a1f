/-! THE CORE: a method's code run over one world; 'Tr' is a goal over a world, 'Ct' a method's contract over a world. -/
abbrev Mu : Type := MethodName × ByteArray × Nat × Option FieldType
/-- the tables' side: classes and slots, array classes (int, byte, boolean, and of Tuck, Text, Sheet), String constants' cells and their bytes' cells -/
abbrev GT : Type := va_G × (Nat → ClassId) × (Nat → Nat) × (Nat → Nat)
/-- what else holds at a method's start, and what its end is -/
abbrev OT : Type := (State → Array Value → (Nat → Prop) → Prop) × (List Frame → Array Value → State → (Nat → Prop) → State → Prop)
def TYS (G : GT) : List (ClassId × FieldType) := [(G.2.1 0, .int), (G.2.1 1, .byte), (G.2.1 2, .boolean), (G.2.1 3, .object RX10), (G.2.1 4, .object RX9), (G.2.1 5, .object RX7)]
def nestL : List (String × Nat × MethodName) := [(RX11, 9, yX6_init), (RX4, 39, yX0_init), (RX11, 67, yX7_init), (RX4, 60, yX11_longOf), (RX4, 63, yX11_firstOf), (RX4, 66, yX11_stepOf), (RX4, 148, yX11_placeOf), (RX4, 151, yX11_fits)]
def castL : List (String × String) := [(RX1, RX3), (RX2, RX3), (RX8, RX3), (RX1, RX2), (RX3, RX10), (RX2, RX10), (RX8, RX10), (RX1, RX10), (RX5, RX10), ("[I", "java/lang/Cloneable")]
def ncL : List (String × String) := [(RX5, RX3), (RX10, RX3), (RX3, RX2), (RX8, RX2), (RX5, RX2), (RX10, RX2), (RX3, RX8), (RX2, RX8), (RX1, RX8), (RX5, RX8), (RX10, RX8), (RX3, RX1), (RX2, RX1), (RX8, RX1), (RX5, RX1), (RX10, RX1), (RX3, RX5), (RX2, RX5), (RX8, RX5), (RX1, RX5), (RX10, RX5)]
def strL : List (String × Nat × String) := [(RX11, 28, "rub 3 ; next cross * 2 - y ; take 3 < y and 4 < x ;"), (RX6, 118, "x"), (RX6, 124, "y"), (RX6, 126, "cross"), (RX6, 128, "long"), (RX6, 130, "age"), (RX6, 132, "strips"), (RX6, 134, "rub"), (RX6, 136, "next"), (RX6, 138, "take"), (RX6, 140, "or"), (RX6, 142, "and"), (RX6, 144, "not"), (RX6, 154, "();+-*<=")]
def sLen : List Nat := [51, 1, 1, 5, 4, 3, 6, 3, 4, 4, 2, 3, 3, 8]
def sByt : List (List Int32) := [[114, 117, 98, 32, 51, 32, 59, 32, 110, 101, 120, 116, 32, 99, 114, 111, 115, 115, 32, 42, 32, 50, 32, 45, 32, 121, 32, 59, 32, 116, 97, 107, 101, 32, 51, 32, 60, 32, 121, 32, 97, 110, 100, 32, 52, 32, 60, 32, 120, 32, 59], [120], [121], [99, 114, 111, 115, 115], [108, 111, 110, 103], [97, 103, 101], [115, 116, 114, 105, 112, 115], [114, 117, 98], [110, 101, 120, 116], [116, 97, 107, 101], [111, 114], [97, 110, 100], [110, 111, 116], [40, 41, 59, 43, 45, 42, 60, 61]]
def XB (G : GT) (U : State) : Prop := (∀ q ∈ nestL, va_Nw (.methodLinkNest q.1 q.2.1 q.2.2 "NestsByKnots") U) ∧ (∀ q ∈ castL, va_Nw (.castable q.1 q.2) U) ∧ (∀ q ∈ ncL, va_Nc q.1 q.2 U) ∧ (∀ (i : Nat) (q : String × Nat × String), strL[i]? = some q → vk_R q.1 q.2.1 q.2.2 (G.2.2.1 i) U) ∧ (∀ C ∈ [RX10, RX9, RX7], va_AO C U)
def SK (G : GT) (A : Nat → Prop) (U : State) (H : Heap) : Prop := vk_S 14 sLen sByt G.2.2.1 G.2.2.2 A U H ∧ va_Z "java/lang/String" "COMPACT_STRINGS" "Z" (.int 1) A U H ∧ va_Zq "jdk/internal/util/Preconditions" "SIOOBE_FORMATTER" "Ljava/util/function/BiFunction;" A U H
def Am (G : GT) (A : Nat → Prop) (U : State) (H : Heap) : Prop := (∀ w, Wd w → ∀ a : Array Value, w.before a U = true) ∧ XB G U ∧ va_K G.1 vwCl (TYS G) U ∧ SK G A U H
theorem Am.warm {G : GT} {A : Nat → Prop} {s U : State} {H : Heap} (hW : s.WarmedH U.vm) (h : Am G A s H) : Am G A U H := by
  obtain ⟨h1, ⟨x1, x2, x3, x4, x5⟩, h3, h4, h5, h6⟩ := h
  exact ⟨fun w hw a => word_at hW (good_of_word hw.2) (h1 w hw #[]), ⟨fun q hq => va_Nw.warmM hW (x1 q hq), fun q hq => va_Nw.warmC hW (x2 q hq), fun q hq => va_Nc.moved hW.alike (x3 q hq), fun i q hq => vk_R.warm hW (x4 i q hq), fun C hC => va_AO.moved hW.alike (x5 C hC)⟩, va_K.moved hW.alike h3, vk_S.moved hW.alike h4, va_Z.moved hW.alike h5, va_Zq.moved hW.alike h6⟩
theorem Am.same {G : GT} {A : Nat → Prop} {u U : State} {H : Heap} (hv : u.vm = U.vm) (h : Am G A u H) : Am G A U H := Am.warm (by rw [← hv]; exact State.WarmedH.refl u) h
theorem Am.kept {G : GT} {A : Nat → Prop} {U : State} {H H1 : Heap} (h : Am G A U H) (hq : ∀ a : Nat, a < H.size → ¬ A a → H1[a]? = H[a]?) : Am G A U H1 := ⟨h.1, h.2.1, h.2.2.1, h.2.2.2.1.kept hq, h.2.2.2.2.1.kept hq, h.2.2.2.2.2.kept hq⟩
theorem Am.narrow {G : GT} {A B : Nat → Prop} {U : State} {H : Heap} (h : Am G A U H) (hAB : ∀ q, B q → A q) : Am G B U H := ⟨h.1, h.2.1, h.2.2.1, h.2.2.2.1.narrow hAB, h.2.2.2.2.1.narrow hAB, h.2.2.2.2.2.narrow hAB⟩
/-- what holds all through a method's body -/
def Cx (G : GT) (μ : Mu) (O : OT) (p : Program) (s : State) (m : MethodId) (args : Array Value) (meth : Method) (c : Code) (A : Nat → Prop) : Prop :=
  p.tables.exec = Jvm.exec ∧ c.code = μ.2.1 ∧ c.maxLocals = μ.2.2.1 ∧ s.vm.findClass μ.1.cls = some m.cls ∧ meth.sig.returnType = μ.2.2.2 ∧ meth.locks = false ∧ Am G A s s.heap ∧ (∀ q, s.heap.size ≤ q → A q) ∧ meth.name = μ.1.name ∧ O.1 s args A
def Tr (G : GT) (μ : Mu) (R : Room) (O : OT) (cs ss pc : Nat) (lv : List (Nat × Value)) (st : List Value) (ws : va_W) : Prop :=
  ∀ (p : Program) (l : Launch) (e : Env) (s : State) (m : MethodId) (args : Array Value) (below : List Frame) (meth : Method) (c : Code) (A : Nat → Prop) (H : Heap) (locs : List Loc) (ls : Array Slot),
    Cx G μ O p s m args meth c A → lv_has ls μ.2.2.1 lv → va_P G.1 vwCl ws H → va_D A ws → va_S A s.heap H locs → W p l e R s m args below meth c H locs cs ss (O.2 below args s A) (F0 m pc ls st)
def Qg (G : GT) (E : Option Value → va_W → Prop) (A : Nat → Prop) : Array Value → State → Outcome → State → Prop := fun _ st oc t => (∃ (v : Option Value) (ws : va_W), oc = .returned v ∧ E v ws ∧ va_P G.1 vwCl ws t.heap ∧ va_D A ws) ∧ va_F A st t
/-- a method's own end -/
def OM (G : GT) (E : Option Value → va_W → Prop) (mc ms : Nat) : OT := (fun _ _ _ => True, fun below args s A => MQ below (Qg G E A) args s mc ms A)
def Rm (d mc ms : Nat) : Room := { frames := d, cells := mc, slots := ms, locals := 40 * d }
def GSt (G : GT) (ws : va_W) (sz : Nat) (U : State) : Prop := U.heap.size = sz ∧ va_P G.1 vwCl ws U.heap ∧ va_D (fun _ => True) ws ∧ Am G (va_A ws sz) U U.heap
/-- a method's contract: at these arguments, over this world, it returns, with E of its answer and the world behind it -/
def Ct (G : GT) (μ : Mu) (d mc ms : Nat) (av : List Value) (ws : va_W) (E : Option Value → va_W → Prop) : Prop :=
  ∀ (l : Launch) (sz : Nat), Met l μ.1 [Cond.code μ.1 μ.2.1 μ.2.2.1 μ.2.2.2] (Rm d mc ms) (va_Pc av (GSt G ws sz)) (Qg G E (va_A ws sz)) mc ms (va_A ws sz)
theorem Ct.intro {G : GT} {μ : Mu} {d mc ms : Nat} {av : List Value} {ws : va_W} {E : Option Value → va_W → Prop} (lv : List (Nat × Value)) (hp : plainName μ.1.cls = true) (hl : lv_args 0 av = lv) (hn : (lg_sl av).length ≤ μ.2.2.1) (k : Tr G μ (Rm d mc ms) (OM G E mc ms) 0 0 0 lv [] ws) : Ct G μ d mc ms av ws E := by
  intro l sz
  refine Met.ofW (cc := μ.2.1) (maxL := μ.2.2.1) (ret := μ.2.2.2) hp rfl ?_
  intro p e s m args below meth c s₁ B hml hv
  obtain ⟨rfl, hsz, hP, hD0, hAm⟩ := hv
  subst hsz
  have hin : meth.name = μ.1.name := (name_of_methodNamed B.named B.method).1
  rw [lg_entry_eq]
  subst hl
  exact k p l e s m _ below meth c _ _ _ _ ⟨B.exec, B.bytes, hml, findClass_of_methodNamed B.named, B.returns, B.notSynchronized, hAm, fun q h => Or.inr h, hin, trivial⟩ (lv_entry av hn) hP hD0.self va_S.rf
/-- a weaker end -/
theorem Ct.mono {G : GT} {μ : Mu} {d mc ms : Nat} {av : List Value} {ws : va_W} {E E' : Option Value → va_W → Prop} (h : Ct G μ d mc ms av ws E) (hE : ∀ v w, E v w → E' v w) : Ct G μ d mc ms av ws E' := by
  intro l sz
  have hM := h l sz
  unfold Met at hM ⊢
  intro p e ha hc hk s m args below hf hap hP hKz
  obtain ⟨k, o, h0, h1, h2, h4, h5⟩ := hM p e ha hc hk s m args below hf hap hP hKz
  refine ⟨k, o, h0, h1, h2, ?_, h5⟩
  obtain ⟨⟨v, w, a1, a2, a3⟩, a4⟩ := h4
  exact ⟨⟨v, w, a1, hE v w a2, a3⟩, a4⟩
/-- an instruction's row: what it is, how long, what comes behind it -/
def Dc (μ : Mu) (pc : Nat) (i : Instr) (n pc' : Nat) : Prop := decode μ.2.1 pc = .ok (i, n) ∧ pc + n = pc'
def Db (μ : Mu) (pc : Nat) (i : Instr) (off : Int) (pc' tgt : Nat) : Prop := decode μ.2.1 pc = .ok (i, 3) ∧ pc + 3 = pc' ∧ (pc : Int) + off = (tgt : Int)


theorem z_iconst {G : GT} {μ : Mu} {R : Room} {O : OT} {cs ss pc pc' : Nat} {lv : List (Nat × Value)} {st : List Value} {ws : va_W} {n : Int} {v : Int32} (hd : Dc μ pc (.iconst n) 1 pc') (hv : Int32.ofInt n = v) (k : Tr G μ R O cs ss pc' lv (.int v :: st) ws) : Tr G μ R O cs ss pc lv (st) ws := fun p l ev s m args below meth c A H locs ls C hl hP hD hS => by
  obtain ⟨hx, hb, hml, hown, hr, hlk, hAm, hA, hnm, hO⟩ := id C
  obtain ⟨hd, rfl⟩ := hd
  exact lv_iconst hx hb hd hv (k p l ev s m args below meth c A H locs ls C hl hP hD hS)
theorem z_bipush {G : GT} {μ : Mu} {R : Room} {O : OT} {cs ss pc pc' : Nat} {lv : List (Nat × Value)} {st : List Value} {ws : va_W} {n : Int} {v : Int32} (hd : Dc μ pc (.bipush n) 2 pc') (hv : (Int8.ofInt n).toInt32 = v) (k : Tr G μ R O cs ss pc' lv (.int v :: st) ws) : Tr G μ R O cs ss pc lv (st) ws := fun p l ev s m args below meth c A H locs ls C hl hP hD hS => by
  obtain ⟨hx, hb, hml, hown, hr, hlk, hAm, hA, hnm, hO⟩ := id C
  obtain ⟨hd, rfl⟩ := hd
  exact lv_bipush hx hb hd hv (k p l ev s m args below meth c A H locs ls C hl hP hD hS)
theorem z_sipush {G : GT} {μ : Mu} {R : Room} {O : OT} {cs ss pc pc' : Nat} {lv : List (Nat × Value)} {st : List Value} {ws : va_W} {n : Int} {v : Int32} (hd : Dc μ pc (.sipush n) 3 pc') (hv : (Int16.ofInt n).toInt32 = v) (k : Tr G μ R O cs ss pc' lv (.int v :: st) ws) : Tr G μ R O cs ss pc lv (st) ws := fun p l ev s m args below meth c A H locs ls C hl hP hD hS => by
  obtain ⟨hx, hb, hml, hown, hr, hlk, hAm, hA, hnm, hO⟩ := id C
  obtain ⟨hd, rfl⟩ := hd
  exact lv_sipush hx hb hd hv (k p l ev s m args below meth c A H locs ls C hl hP hD hS)
theorem z_lconst {G : GT} {μ : Mu} {R : Room} {O : OT} {cs ss pc pc' : Nat} {lv : List (Nat × Value)} {st : List Value} {ws : va_W} {n : Fin 2} {v : Int64} (hd : Dc μ pc (.lconst n) 1 pc') (hv : Int64.ofNat (n : Nat) = v) (k : Tr G μ R O cs ss pc' lv (.long v :: st) ws) : Tr G μ R O cs ss pc lv (st) ws := fun p l ev s m args below meth c A H locs ls C hl hP hD hS => by
  obtain ⟨hx, hb, hml, hown, hr, hlk, hAm, hA, hnm, hO⟩ := id C
  obtain ⟨hd, rfl⟩ := hd
  exact lv_lconst hx hb hd hv (k p l ev s m args below meth c A H locs ls C hl hP hD hS)
theorem z_null {G : GT} {μ : Mu} {R : Room} {O : OT} {cs ss pc pc' : Nat} {lv : List (Nat × Value)} {st : List Value} {ws : va_W}  (hd : Dc μ pc (.aconst_null) 1 pc')  (k : Tr G μ R O cs ss pc' lv (.null :: st) ws) : Tr G μ R O cs ss pc lv (st) ws := fun p l ev s m args below meth c A H locs ls C hl hP hD hS => by
  obtain ⟨hx, hb, hml, hown, hr, hlk, hAm, hA, hnm, hO⟩ := id C
  obtain ⟨hd, rfl⟩ := hd
  exact lv_null hx hb hd (k p l ev s m args below meth c A H locs ls C hl hP hD hS)
theorem z_iload_n {G : GT} {μ : Mu} {R : Room} {O : OT} {cs ss pc pc' : Nat} {lv : List (Nat × Value)} {st : List Value} {ws : va_W} {j : Fin 4} {x : Int32} (hd : Dc μ pc (.iload_n j) 1 pc') (i : Nat) (hi : lv[i]? = some (j.val, .int x)) (k : Tr G μ R O cs ss pc' lv (.int x :: st) ws) : Tr G μ R O cs ss pc lv (st) ws := fun p l ev s m args below meth c A H locs ls C hl hP hD hS => by
  obtain ⟨hx, hb, hml, hown, hr, hlk, hAm, hA, hnm, hO⟩ := id C
  obtain ⟨hd, rfl⟩ := hd
  exact lv_iload_n hx hb hd rfl (hl.2.2 _ (List.mem_of_getElem? hi)) (k p l ev s m args below meth c A H locs ls C hl hP hD hS)
theorem z_iload {G : GT} {μ : Mu} {R : Room} {O : OT} {cs ss pc pc' : Nat} {lv : List (Nat × Value)} {st : List Value} {ws : va_W} {j : Nat} {x : Int32} (hd : Dc μ pc (.iload j) 2 pc') (i : Nat) (hi : lv[i]? = some (j, .int x)) (k : Tr G μ R O cs ss pc' lv (.int x :: st) ws) : Tr G μ R O cs ss pc lv (st) ws := fun p l ev s m args below meth c A H locs ls C hl hP hD hS => by
  obtain ⟨hx, hb, hml, hown, hr, hlk, hAm, hA, hnm, hO⟩ := id C
  obtain ⟨hd, rfl⟩ := hd
  exact lv_iload hx hb hd (hl.2.2 _ (List.mem_of_getElem? hi)) (k p l ev s m args below meth c A H locs ls C hl hP hD hS)
theorem z_aload_n {G : GT} {μ : Mu} {R : Room} {O : OT} {cs ss pc pc' : Nat} {lv : List (Nat × Value)} {st : List Value} {ws : va_W} {j : Fin 4} {x : Nat} (hd : Dc μ pc (.aload_n j) 1 pc') (i : Nat) (hi : lv[i]? = some (j.val, .ref x)) (k : Tr G μ R O cs ss pc' lv (.ref x :: st) ws) : Tr G μ R O cs ss pc lv (st) ws := fun p l ev s m args below meth c A H locs ls C hl hP hD hS => by
  obtain ⟨hx, hb, hml, hown, hr, hlk, hAm, hA, hnm, hO⟩ := id C
  obtain ⟨hd, rfl⟩ := hd
  exact lv_aload_n hx hb hd rfl (hl.2.2 _ (List.mem_of_getElem? hi)) (k p l ev s m args below meth c A H locs ls C hl hP hD hS)
theorem z_aload {G : GT} {μ : Mu} {R : Room} {O : OT} {cs ss pc pc' : Nat} {lv : List (Nat × Value)} {st : List Value} {ws : va_W} {j : Nat} {x : Nat} (hd : Dc μ pc (.aload j) 2 pc') (i : Nat) (hi : lv[i]? = some (j, .ref x)) (k : Tr G μ R O cs ss pc' lv (.ref x :: st) ws) : Tr G μ R O cs ss pc lv (st) ws := fun p l ev s m args below meth c A H locs ls C hl hP hD hS => by
  obtain ⟨hx, hb, hml, hown, hr, hlk, hAm, hA, hnm, hO⟩ := id C
  obtain ⟨hd, rfl⟩ := hd
  exact lv_aload hx hb hd (hl.2.2 _ (List.mem_of_getElem? hi)) (k p l ev s m args below meth c A H locs ls C hl hP hD hS)
theorem z_lload_n {G : GT} {μ : Mu} {R : Room} {O : OT} {cs ss pc pc' : Nat} {lv : List (Nat × Value)} {st : List Value} {ws : va_W} {j : Fin 4} {x : Int64} (hd : Dc μ pc (.lload_n j) 1 pc') (i : Nat) (hi : lv[i]? = some (j.val, .long x)) (k : Tr G μ R O cs ss pc' lv (.long x :: st) ws) : Tr G μ R O cs ss pc lv (st) ws := fun p l ev s m args below meth c A H locs ls C hl hP hD hS => by
  obtain ⟨hx, hb, hml, hown, hr, hlk, hAm, hA, hnm, hO⟩ := id C
  obtain ⟨hd, rfl⟩ := hd
  exact lv_lload_n hx hb hd rfl (hl.2.2 _ (List.mem_of_getElem? hi)) (k p l ev s m args below meth c A H locs ls C hl hP hD hS)
theorem z_lload {G : GT} {μ : Mu} {R : Room} {O : OT} {cs ss pc pc' : Nat} {lv : List (Nat × Value)} {st : List Value} {ws : va_W} {j : Nat} {x : Int64} (hd : Dc μ pc (.lload j) 2 pc') (i : Nat) (hi : lv[i]? = some (j, .long x)) (k : Tr G μ R O cs ss pc' lv (.long x :: st) ws) : Tr G μ R O cs ss pc lv (st) ws := fun p l ev s m args below meth c A H locs ls C hl hP hD hS => by
  obtain ⟨hx, hb, hml, hown, hr, hlk, hAm, hA, hnm, hO⟩ := id C
  obtain ⟨hd, rfl⟩ := hd
  exact lv_lload hx hb hd (hl.2.2 _ (List.mem_of_getElem? hi)) (k p l ev s m args below meth c A H locs ls C hl hP hD hS)
theorem z_iadd {G : GT} {μ : Mu} {R : Room} {O : OT} {cs ss pc pc' : Nat} {lv : List (Nat × Value)} {st : List Value} {ws : va_W} {x y : Int32} (hd : Dc μ pc (.iadd) 1 pc')  (k : Tr G μ R O cs ss pc' lv (.int (x + y) :: st) ws) : Tr G μ R O cs ss pc lv (.int y :: .int x :: st) ws := fun p l ev s m args below meth c A H locs ls C hl hP hD hS => by
  obtain ⟨hx, hb, hml, hown, hr, hlk, hAm, hA, hnm, hO⟩ := id C
  obtain ⟨hd, rfl⟩ := hd
  exact lv_iadd hx hb hd (k p l ev s m args below meth c A H locs ls C hl hP hD hS)
theorem z_isub {G : GT} {μ : Mu} {R : Room} {O : OT} {cs ss pc pc' : Nat} {lv : List (Nat × Value)} {st : List Value} {ws : va_W} {x y : Int32} (hd : Dc μ pc (.isub) 1 pc')  (k : Tr G μ R O cs ss pc' lv (.int (x - y) :: st) ws) : Tr G μ R O cs ss pc lv (.int y :: .int x :: st) ws := fun p l ev s m args below meth c A H locs ls C hl hP hD hS => by
  obtain ⟨hx, hb, hml, hown, hr, hlk, hAm, hA, hnm, hO⟩ := id C
  obtain ⟨hd, rfl⟩ := hd
  exact lv_isub hx hb hd (k p l ev s m args below meth c A H locs ls C hl hP hD hS)
theorem z_imul {G : GT} {μ : Mu} {R : Room} {O : OT} {cs ss pc pc' : Nat} {lv : List (Nat × Value)} {st : List Value} {ws : va_W} {x y : Int32} (hd : Dc μ pc (.imul) 1 pc')  (k : Tr G μ R O cs ss pc' lv (.int (x * y) :: st) ws) : Tr G μ R O cs ss pc lv (.int y :: .int x :: st) ws := fun p l ev s m args below meth c A H locs ls C hl hP hD hS => by
  obtain ⟨hx, hb, hml, hown, hr, hlk, hAm, hA, hnm, hO⟩ := id C
  obtain ⟨hd, rfl⟩ := hd
  exact lv_imul hx hb hd (k p l ev s m args below meth c A H locs ls C hl hP hD hS)
theorem z_iand {G : GT} {μ : Mu} {R : Room} {O : OT} {cs ss pc pc' : Nat} {lv : List (Nat × Value)} {st : List Value} {ws : va_W} {x y : Int32} (hd : Dc μ pc (.iand) 1 pc')  (k : Tr G μ R O cs ss pc' lv (.int (x &&& y) :: st) ws) : Tr G μ R O cs ss pc lv (.int y :: .int x :: st) ws := fun p l ev s m args below meth c A H locs ls C hl hP hD hS => by
  obtain ⟨hx, hb, hml, hown, hr, hlk, hAm, hA, hnm, hO⟩ := id C
  obtain ⟨hd, rfl⟩ := hd
  exact lv_iand hx hb hd (k p l ev s m args below meth c A H locs ls C hl hP hD hS)
theorem z_ior {G : GT} {μ : Mu} {R : Room} {O : OT} {cs ss pc pc' : Nat} {lv : List (Nat × Value)} {st : List Value} {ws : va_W} {x y : Int32} (hd : Dc μ pc (.ior) 1 pc')  (k : Tr G μ R O cs ss pc' lv (.int (x ||| y) :: st) ws) : Tr G μ R O cs ss pc lv (.int y :: .int x :: st) ws := fun p l ev s m args below meth c A H locs ls C hl hP hD hS => by
  obtain ⟨hx, hb, hml, hown, hr, hlk, hAm, hA, hnm, hO⟩ := id C
  obtain ⟨hd, rfl⟩ := hd
  exact lv_ior hx hb hd (k p l ev s m args below meth c A H locs ls C hl hP hD hS)
theorem z_ixor {G : GT} {μ : Mu} {R : Room} {O : OT} {cs ss pc pc' : Nat} {lv : List (Nat × Value)} {st : List Value} {ws : va_W} {x y : Int32} (hd : Dc μ pc (.ixor) 1 pc')  (k : Tr G μ R O cs ss pc' lv (.int (x ^^^ y) :: st) ws) : Tr G μ R O cs ss pc lv (.int y :: .int x :: st) ws := fun p l ev s m args below meth c A H locs ls C hl hP hD hS => by
  obtain ⟨hx, hb, hml, hown, hr, hlk, hAm, hA, hnm, hO⟩ := id C
  obtain ⟨hd, rfl⟩ := hd
  exact lv_ixor hx hb hd (k p l ev s m args below meth c A H locs ls C hl hP hD hS)
theorem z_ishl {G : GT} {μ : Mu} {R : Room} {O : OT} {cs ss pc pc' : Nat} {lv : List (Nat × Value)} {st : List Value} {ws : va_W} {x y : Int32} (hd : Dc μ pc (.ishl) 1 pc')  (k : Tr G μ R O cs ss pc' lv (.int (x <<< (y &&& 31)) :: st) ws) : Tr G μ R O cs ss pc lv (.int y :: .int x :: st) ws := fun p l ev s m args below meth c A H locs ls C hl hP hD hS => by
  obtain ⟨hx, hb, hml, hown, hr, hlk, hAm, hA, hnm, hO⟩ := id C
  obtain ⟨hd, rfl⟩ := hd
  exact lv_ishl hx hb hd (k p l ev s m args below meth c A H locs ls C hl hP hD hS)
theorem z_ishr {G : GT} {μ : Mu} {R : Room} {O : OT} {cs ss pc pc' : Nat} {lv : List (Nat × Value)} {st : List Value} {ws : va_W} {x y : Int32} (hd : Dc μ pc (.ishr) 1 pc')  (k : Tr G μ R O cs ss pc' lv (.int (x >>> (y &&& 31)) :: st) ws) : Tr G μ R O cs ss pc lv (.int y :: .int x :: st) ws := fun p l ev s m args below meth c A H locs ls C hl hP hD hS => by
  obtain ⟨hx, hb, hml, hown, hr, hlk, hAm, hA, hnm, hO⟩ := id C
  obtain ⟨hd, rfl⟩ := hd
  exact lv_ishr hx hb hd (k p l ev s m args below meth c A H locs ls C hl hP hD hS)
theorem z_idiv {G : GT} {μ : Mu} {R : Room} {O : OT} {cs ss pc pc' : Nat} {lv : List (Nat × Value)} {st : List Value} {ws : va_W} {x y : Int32} (hd : Dc μ pc (.idiv) 1 pc') (hne : ¬ y = 0) (k : Tr G μ R O cs ss pc' lv (.int (x / y) :: st) ws) : Tr G μ R O cs ss pc lv (.int y :: .int x :: st) ws := fun p l ev s m args below meth c A H locs ls C hl hP hD hS => by
  obtain ⟨hx, hb, hml, hown, hr, hlk, hAm, hA, hnm, hO⟩ := id C
  obtain ⟨hd, rfl⟩ := hd
  exact lv_idiv hx hb hd hne (k p l ev s m args below meth c A H locs ls C hl hP hD hS)
theorem z_irem {G : GT} {μ : Mu} {R : Room} {O : OT} {cs ss pc pc' : Nat} {lv : List (Nat × Value)} {st : List Value} {ws : va_W} {x y : Int32} (hd : Dc μ pc (.irem) 1 pc') (hne : ¬ y = 0) (k : Tr G μ R O cs ss pc' lv (.int (x - x / y * y) :: st) ws) : Tr G μ R O cs ss pc lv (.int y :: .int x :: st) ws := fun p l ev s m args below meth c A H locs ls C hl hP hD hS => by
  obtain ⟨hx, hb, hml, hown, hr, hlk, hAm, hA, hnm, hO⟩ := id C
  obtain ⟨hd, rfl⟩ := hd
  exact lv_irem hx hb hd hne (k p l ev s m args below meth c A H locs ls C hl hP hD hS)
theorem z_ineg {G : GT} {μ : Mu} {R : Room} {O : OT} {cs ss pc pc' : Nat} {lv : List (Nat × Value)} {st : List Value} {ws : va_W} {x : Int32} (hd : Dc μ pc (.ineg) 1 pc')  (k : Tr G μ R O cs ss pc' lv (.int (-x) :: st) ws) : Tr G μ R O cs ss pc lv (.int x :: st) ws := fun p l ev s m args below meth c A H locs ls C hl hP hD hS => by
  obtain ⟨hx, hb, hml, hown, hr, hlk, hAm, hA, hnm, hO⟩ := id C
  obtain ⟨hd, rfl⟩ := hd
  exact lv_ineg hx hb hd (k p l ev s m args below meth c A H locs ls C hl hP hD hS)
theorem z_iushr {G : GT} {μ : Mu} {R : Room} {O : OT} {cs ss pc pc' : Nat} {lv : List (Nat × Value)} {st : List Value} {ws : va_W} {x y : Int32} (hd : Dc μ pc (.iushr) 1 pc')  (k : Tr G μ R O cs ss pc' lv (.int ((x.toUInt32 >>> (y.toUInt32 &&& Int32.toUInt32 31)).toInt32) :: st) ws) : Tr G μ R O cs ss pc lv (.int y :: .int x :: st) ws := fun p l ev s m args below meth c A H locs ls C hl hP hD hS => by
  obtain ⟨hx, hb, hml, hown, hr, hlk, hAm, hA, hnm, hO⟩ := id C
  obtain ⟨hd, rfl⟩ := hd
  exact lv_iushr hx hb hd rfl (k p l ev s m args below meth c A H locs ls C hl hP hD hS)
theorem z_i2l {G : GT} {μ : Mu} {R : Room} {O : OT} {cs ss pc pc' : Nat} {lv : List (Nat × Value)} {st : List Value} {ws : va_W} {x : Int32} (hd : Dc μ pc (.i2l) 1 pc')  (k : Tr G μ R O cs ss pc' lv (.long x.toInt64 :: st) ws) : Tr G μ R O cs ss pc lv (.int x :: st) ws := fun p l ev s m args below meth c A H locs ls C hl hP hD hS => by
  obtain ⟨hx, hb, hml, hown, hr, hlk, hAm, hA, hnm, hO⟩ := id C
  obtain ⟨hd, rfl⟩ := hd
  exact lv_i2l hx hb hd rfl (k p l ev s m args below meth c A H locs ls C hl hP hD hS)
theorem z_i2b {G : GT} {μ : Mu} {R : Room} {O : OT} {cs ss pc pc' : Nat} {lv : List (Nat × Value)} {st : List Value} {ws : va_W} {x : Int32} (hd : Dc μ pc (.i2b) 1 pc')  (k : Tr G μ R O cs ss pc' lv (.int x.toInt8.toInt32 :: st) ws) : Tr G μ R O cs ss pc lv (.int x :: st) ws := fun p l ev s m args below meth c A H locs ls C hl hP hD hS => by
  obtain ⟨hx, hb, hml, hown, hr, hlk, hAm, hA, hnm, hO⟩ := id C
  obtain ⟨hd, rfl⟩ := hd
  exact lv_i2b hx hb hd rfl (k p l ev s m args below meth c A H locs ls C hl hP hD hS)
theorem z_i2s {G : GT} {μ : Mu} {R : Room} {O : OT} {cs ss pc pc' : Nat} {lv : List (Nat × Value)} {st : List Value} {ws : va_W} {x : Int32} (hd : Dc μ pc (.i2s) 1 pc')  (k : Tr G μ R O cs ss pc' lv (.int x.toInt16.toInt32 :: st) ws) : Tr G μ R O cs ss pc lv (.int x :: st) ws := fun p l ev s m args below meth c A H locs ls C hl hP hD hS => by
  obtain ⟨hx, hb, hml, hown, hr, hlk, hAm, hA, hnm, hO⟩ := id C
  obtain ⟨hd, rfl⟩ := hd
  exact lv_i2s hx hb hd rfl (k p l ev s m args below meth c A H locs ls C hl hP hD hS)
theorem z_i2c {G : GT} {μ : Mu} {R : Room} {O : OT} {cs ss pc pc' : Nat} {lv : List (Nat × Value)} {st : List Value} {ws : va_W} {x : Int32} (hd : Dc μ pc (.i2c) 1 pc')  (k : Tr G μ R O cs ss pc' lv (.int ((x.toUInt32 % 65536).toInt32) :: st) ws) : Tr G μ R O cs ss pc lv (.int x :: st) ws := fun p l ev s m args below meth c A H locs ls C hl hP hD hS => by
  obtain ⟨hx, hb, hml, hown, hr, hlk, hAm, hA, hnm, hO⟩ := id C
  obtain ⟨hd, rfl⟩ := hd
  exact lv_i2c hx hb hd rfl (k p l ev s m args below meth c A H locs ls C hl hP hD hS)
theorem z_l2i {G : GT} {μ : Mu} {R : Room} {O : OT} {cs ss pc pc' : Nat} {lv : List (Nat × Value)} {st : List Value} {ws : va_W} {x : Int64} (hd : Dc μ pc (.l2i) 1 pc')  (k : Tr G μ R O cs ss pc' lv (.int x.toInt32 :: st) ws) : Tr G μ R O cs ss pc lv (.long x :: st) ws := fun p l ev s m args below meth c A H locs ls C hl hP hD hS => by
  obtain ⟨hx, hb, hml, hown, hr, hlk, hAm, hA, hnm, hO⟩ := id C
  obtain ⟨hd, rfl⟩ := hd
  exact lv_l2i hx hb hd rfl (k p l ev s m args below meth c A H locs ls C hl hP hD hS)
theorem z_ladd {G : GT} {μ : Mu} {R : Room} {O : OT} {cs ss pc pc' : Nat} {lv : List (Nat × Value)} {st : List Value} {ws : va_W} {x y : Int64} (hd : Dc μ pc (.ladd) 1 pc')  (k : Tr G μ R O cs ss pc' lv (.long (x + y) :: st) ws) : Tr G μ R O cs ss pc lv (.long y :: .long x :: st) ws := fun p l ev s m args below meth c A H locs ls C hl hP hD hS => by
  obtain ⟨hx, hb, hml, hown, hr, hlk, hAm, hA, hnm, hO⟩ := id C
  obtain ⟨hd, rfl⟩ := hd
  exact lv_ladd hx hb hd (k p l ev s m args below meth c A H locs ls C hl hP hD hS)
theorem z_lsub {G : GT} {μ : Mu} {R : Room} {O : OT} {cs ss pc pc' : Nat} {lv : List (Nat × Value)} {st : List Value} {ws : va_W} {x y : Int64} (hd : Dc μ pc (.lsub) 1 pc')  (k : Tr G μ R O cs ss pc' lv (.long (x - y) :: st) ws) : Tr G μ R O cs ss pc lv (.long y :: .long x :: st) ws := fun p l ev s m args below meth c A H locs ls C hl hP hD hS => by
  obtain ⟨hx, hb, hml, hown, hr, hlk, hAm, hA, hnm, hO⟩ := id C
  obtain ⟨hd, rfl⟩ := hd
  exact lv_lsub hx hb hd (k p l ev s m args below meth c A H locs ls C hl hP hD hS)
theorem z_lmul {G : GT} {μ : Mu} {R : Room} {O : OT} {cs ss pc pc' : Nat} {lv : List (Nat × Value)} {st : List Value} {ws : va_W} {x y : Int64} (hd : Dc μ pc (.lmul) 1 pc')  (k : Tr G μ R O cs ss pc' lv (.long (x * y) :: st) ws) : Tr G μ R O cs ss pc lv (.long y :: .long x :: st) ws := fun p l ev s m args below meth c A H locs ls C hl hP hD hS => by
  obtain ⟨hx, hb, hml, hown, hr, hlk, hAm, hA, hnm, hO⟩ := id C
  obtain ⟨hd, rfl⟩ := hd
  exact lv_lmul hx hb hd (k p l ev s m args below meth c A H locs ls C hl hP hD hS)
theorem z_land {G : GT} {μ : Mu} {R : Room} {O : OT} {cs ss pc pc' : Nat} {lv : List (Nat × Value)} {st : List Value} {ws : va_W} {x y : Int64} (hd : Dc μ pc (.land) 1 pc')  (k : Tr G μ R O cs ss pc' lv (.long (x &&& y) :: st) ws) : Tr G μ R O cs ss pc lv (.long y :: .long x :: st) ws := fun p l ev s m args below meth c A H locs ls C hl hP hD hS => by
  obtain ⟨hx, hb, hml, hown, hr, hlk, hAm, hA, hnm, hO⟩ := id C
  obtain ⟨hd, rfl⟩ := hd
  exact lv_land hx hb hd (k p l ev s m args below meth c A H locs ls C hl hP hD hS)
theorem z_lor {G : GT} {μ : Mu} {R : Room} {O : OT} {cs ss pc pc' : Nat} {lv : List (Nat × Value)} {st : List Value} {ws : va_W} {x y : Int64} (hd : Dc μ pc (.lor) 1 pc')  (k : Tr G μ R O cs ss pc' lv (.long (x ||| y) :: st) ws) : Tr G μ R O cs ss pc lv (.long y :: .long x :: st) ws := fun p l ev s m args below meth c A H locs ls C hl hP hD hS => by
  obtain ⟨hx, hb, hml, hown, hr, hlk, hAm, hA, hnm, hO⟩ := id C
  obtain ⟨hd, rfl⟩ := hd
  exact lv_lor hx hb hd (k p l ev s m args below meth c A H locs ls C hl hP hD hS)
theorem z_lshl {G : GT} {μ : Mu} {R : Room} {O : OT} {cs ss pc pc' : Nat} {lv : List (Nat × Value)} {st : List Value} {ws : va_W} {x : Int64} {y : Int32} (hd : Dc μ pc (.lshl) 1 pc')  (k : Tr G μ R O cs ss pc' lv (.long (x <<< (y.toInt64 &&& 63)) :: st) ws) : Tr G μ R O cs ss pc lv (.int y :: .long x :: st) ws := fun p l ev s m args below meth c A H locs ls C hl hP hD hS => by
  obtain ⟨hx, hb, hml, hown, hr, hlk, hAm, hA, hnm, hO⟩ := id C
  obtain ⟨hd, rfl⟩ := hd
  exact lv_lshl hx hb hd rfl (k p l ev s m args below meth c A H locs ls C hl hP hD hS)
theorem z_lshr {G : GT} {μ : Mu} {R : Room} {O : OT} {cs ss pc pc' : Nat} {lv : List (Nat × Value)} {st : List Value} {ws : va_W} {x : Int64} {y : Int32} (hd : Dc μ pc (.lshr) 1 pc')  (k : Tr G μ R O cs ss pc' lv (.long (x >>> (y.toInt64 &&& 63)) :: st) ws) : Tr G μ R O cs ss pc lv (.int y :: .long x :: st) ws := fun p l ev s m args below meth c A H locs ls C hl hP hD hS => by
  obtain ⟨hx, hb, hml, hown, hr, hlk, hAm, hA, hnm, hO⟩ := id C
  obtain ⟨hd, rfl⟩ := hd
  exact lv_lshr hx hb hd rfl (k p l ev s m args below meth c A H locs ls C hl hP hD hS)
theorem z_lcmp {G : GT} {μ : Mu} {R : Room} {O : OT} {cs ss pc pc' : Nat} {lv : List (Nat × Value)} {st : List Value} {ws : va_W} {x y : Int64} (hd : Dc μ pc (.lcmp) 1 pc')  (k : Tr G μ R O cs ss pc' lv (.int (lg_cmp x y) :: st) ws) : Tr G μ R O cs ss pc lv (.long y :: .long x :: st) ws := fun p l ev s m args below meth c A H locs ls C hl hP hD hS => by
  obtain ⟨hx, hb, hml, hown, hr, hlk, hAm, hA, hnm, hO⟩ := id C
  obtain ⟨hd, rfl⟩ := hd
  exact W.lcmp hx hb hd (k p l ev s m args below meth c A H locs ls C hl hP hD hS)
theorem z_dup {G : GT} {μ : Mu} {R : Room} {O : OT} {cs ss pc pc' : Nat} {lv : List (Nat × Value)} {st : List Value} {ws : va_W} {v : Value} (hd : Dc μ pc (.dup) 1 pc') (hv : v.category = 1) (k : Tr G μ R O cs ss pc' lv (v :: v :: st) ws) : Tr G μ R O cs ss pc lv (v :: st) ws := fun p l ev s m args below meth c A H locs ls C hl hP hD hS => by
  obtain ⟨hx, hb, hml, hown, hr, hlk, hAm, hA, hnm, hO⟩ := id C
  obtain ⟨hd, rfl⟩ := hd
  exact lv_dup hx hb hd hv (k p l ev s m args below meth c A H locs ls C hl hP hD hS)
theorem z_pop {G : GT} {μ : Mu} {R : Room} {O : OT} {cs ss pc pc' : Nat} {lv : List (Nat × Value)} {st : List Value} {ws : va_W} {v : Value} (hd : Dc μ pc (.pop) 1 pc') (hv : v.category = 1) (k : Tr G μ R O cs ss pc' lv (st) ws) : Tr G μ R O cs ss pc lv (v :: st) ws := fun p l ev s m args below meth c A H locs ls C hl hP hD hS => by
  obtain ⟨hx, hb, hml, hown, hr, hlk, hAm, hA, hnm, hO⟩ := id C
  obtain ⟨hd, rfl⟩ := hd
  exact lv_pop hx hb hd hv (k p l ev s m args below meth c A H locs ls C hl hP hD hS)
theorem z_ldc {G : GT} {μ : Mu} {R : Room} {O : OT} {cs ss pc pc' : Nat} {lv : List (Nat × Value)} {st : List Value} {ws : va_W} {j : Nat} {v : Int32} (hd : Dc μ pc (.ldc j) 2 pc') (hw : Wd (.constant μ.1.cls j v)) (k : Tr G μ R O cs ss pc' lv (.int v :: st) ws) : Tr G μ R O cs ss pc lv (st) ws := fun p l ev s m args below meth c A H locs ls C hl hP hD hS => by
  obtain ⟨hx, hb, hml, hown, hr, hlk, hAm, hA, hnm, hO⟩ := id C
  obtain ⟨hd, rfl⟩ := hd
  exact lv_ldc hx hb hown (hAm.1 _ hw _) hd (k p l ev s m args below meth c A H locs ls C hl hP hD hS)
theorem z_ldcw {G : GT} {μ : Mu} {R : Room} {O : OT} {cs ss pc pc' : Nat} {lv : List (Nat × Value)} {st : List Value} {ws : va_W} {j : Nat} {v : Int32} (hd : Dc μ pc (.ldc_w j) 3 pc') (hw : Wd (.constant μ.1.cls j v)) (k : Tr G μ R O cs ss pc' lv (.int v :: st) ws) : Tr G μ R O cs ss pc lv (st) ws := fun p l ev s m args below meth c A H locs ls C hl hP hD hS => by
  obtain ⟨hx, hb, hml, hown, hr, hlk, hAm, hA, hnm, hO⟩ := id C
  obtain ⟨hd, rfl⟩ := hd
  exact lv_ldcw hx hb hown (hAm.1 _ hw _) hd (k p l ev s m args below meth c A H locs ls C hl hP hD hS)
theorem z_ldc2 {G : GT} {μ : Mu} {R : Room} {O : OT} {cs ss pc pc' : Nat} {lv : List (Nat × Value)} {st : List Value} {ws : va_W} {j : Nat} {v : Int64} (hd : Dc μ pc (.ldc2_w j) 3 pc') (hw : Wd (.constantLong μ.1.cls j v)) (k : Tr G μ R O cs ss pc' lv (.long v :: st) ws) : Tr G μ R O cs ss pc lv (st) ws := fun p l ev s m args below meth c A H locs ls C hl hP hD hS => by
  obtain ⟨hx, hb, hml, hown, hr, hlk, hAm, hA, hnm, hO⟩ := id C
  obtain ⟨hd, rfl⟩ := hd
  exact lv_ldc2 hx hb hown (hAm.1 _ hw _) hd (k p l ev s m args below meth c A H locs ls C hl hP hD hS)
theorem z_ldcs {G : GT} {μ : Mu} {R : Room} {O : OT} {cs ss pc pc' : Nat} {lv : List (Nat × Value)} {st : List Value} {ws : va_W} {j : Nat} {tx : String} (hd : Dc μ pc (.ldc j) 2 pc') (i : Nat) (hw : strL[i]? = some (μ.1.cls, j, tx)) (k : Tr G μ R O cs ss pc' lv (.ref (G.2.2.1 i) :: st) ws) : Tr G μ R O cs ss pc lv (st) ws := fun p l ev s m args below meth c A H locs ls C hl hP hD hS => by
  obtain ⟨hx, hb, hml, hown, hr, hlk, hAm, hA, hnm, hO⟩ := id C
  obtain ⟨hd, rfl⟩ := hd
  exact va_ldcS hx hb hown (hAm.2.1.2.2.2.1 i _ hw) hd (k p l ev s m args below meth c A H locs ls C hl hP hD hS)
theorem z_istore_n {G : GT} {μ : Mu} {R : Room} {O : OT} {cs ss pc pc' : Nat} {lv : List (Nat × Value)} {st : List Value} {ws : va_W} {j : Fin 4} {x : Int32} (lv' : List (Nat × Value)) (hd : Dc μ pc (.istore_n j) 1 pc') (hn : j.val < μ.2.2.1) (hl' : (j.val, Value.int x) :: lv.filter (fun q => !(q.1 == j.val) && !(q.1 + 1 == j.val && q.2.category == 2)) = lv') (k : Tr G μ R O cs ss pc' lv' (st) ws) : Tr G μ R O cs ss pc lv (.int x :: st) ws := fun p l ev s m args below meth c A H locs ls C hl hP hD hS => by
  obtain ⟨hx, hb, hml, hown, hr, hlk, hAm, hA, hnm, hO⟩ := id C
  obtain ⟨hd, rfl⟩ := hd
  exact lv_istore_n hx hb hd rfl hl hn hl' (fun ls' hl2 => k p l ev s m args below meth c A H locs ls' C hl2 hP hD hS)
theorem z_istore {G : GT} {μ : Mu} {R : Room} {O : OT} {cs ss pc pc' : Nat} {lv : List (Nat × Value)} {st : List Value} {ws : va_W} {j : Nat} {x : Int32} (lv' : List (Nat × Value)) (hd : Dc μ pc (.istore j) 2 pc') (hn : j < μ.2.2.1) (hl' : (j, Value.int x) :: lv.filter (fun q => !(q.1 == j) && !(q.1 + 1 == j && q.2.category == 2)) = lv') (k : Tr G μ R O cs ss pc' lv' (st) ws) : Tr G μ R O cs ss pc lv (.int x :: st) ws := fun p l ev s m args below meth c A H locs ls C hl hP hD hS => by
  obtain ⟨hx, hb, hml, hown, hr, hlk, hAm, hA, hnm, hO⟩ := id C
  obtain ⟨hd, rfl⟩ := hd
  exact lv_istore hx hb hd hl hn hl' (fun ls' hl2 => k p l ev s m args below meth c A H locs ls' C hl2 hP hD hS)
theorem z_astore_n {G : GT} {μ : Mu} {R : Room} {O : OT} {cs ss pc pc' : Nat} {lv : List (Nat × Value)} {st : List Value} {ws : va_W} {j : Fin 4} {x : Nat} (lv' : List (Nat × Value)) (hd : Dc μ pc (.astore_n j) 1 pc') (hn : j.val < μ.2.2.1) (hl' : (j.val, Value.ref x) :: lv.filter (fun q => !(q.1 == j.val) && !(q.1 + 1 == j.val && q.2.category == 2)) = lv') (k : Tr G μ R O cs ss pc' lv' (st) ws) : Tr G μ R O cs ss pc lv (.ref x :: st) ws := fun p l ev s m args below meth c A H locs ls C hl hP hD hS => by
  obtain ⟨hx, hb, hml, hown, hr, hlk, hAm, hA, hnm, hO⟩ := id C
  obtain ⟨hd, rfl⟩ := hd
  exact lv_astore_n hx hb hd rfl hl hn hl' (fun ls' hl2 => k p l ev s m args below meth c A H locs ls' C hl2 hP hD hS)
theorem z_astore {G : GT} {μ : Mu} {R : Room} {O : OT} {cs ss pc pc' : Nat} {lv : List (Nat × Value)} {st : List Value} {ws : va_W} {j : Nat} {x : Nat} (lv' : List (Nat × Value)) (hd : Dc μ pc (.astore j) 2 pc') (hn : j < μ.2.2.1) (hl' : (j, Value.ref x) :: lv.filter (fun q => !(q.1 == j) && !(q.1 + 1 == j && q.2.category == 2)) = lv') (k : Tr G μ R O cs ss pc' lv' (st) ws) : Tr G μ R O cs ss pc lv (.ref x :: st) ws := fun p l ev s m args below meth c A H locs ls C hl hP hD hS => by
  obtain ⟨hx, hb, hml, hown, hr, hlk, hAm, hA, hnm, hO⟩ := id C
  obtain ⟨hd, rfl⟩ := hd
  exact lv_astore hx hb hd hl hn hl' (fun ls' hl2 => k p l ev s m args below meth c A H locs ls' C hl2 hP hD hS)
theorem z_iinc {G : GT} {μ : Mu} {R : Room} {O : OT} {cs ss pc pc' : Nat} {lv : List (Nat × Value)} {st : List Value} {ws : va_W} {j : Nat} {d : Int} {x : Int32} (v : Int32) (lv' : List (Nat × Value)) (i : Nat) (hd : Dc μ pc (.iinc j d) 3 pc') (hi : lv[i]? = some (j, .int x)) (hv : x + Int32.ofInt d = v) (hn : j < μ.2.2.1) (hl' : (j, Value.int v) :: lv.filter (fun q => !(q.1 == j) && !(q.1 + 1 == j && q.2.category == 2)) = lv') (k : Tr G μ R O cs ss pc' lv' (st) ws) : Tr G μ R O cs ss pc lv (st) ws := fun p l ev s m args below meth c A H locs ls C hl hP hD hS => by
  obtain ⟨hx, hb, hml, hown, hr, hlk, hAm, hA, hnm, hO⟩ := id C
  obtain ⟨hd, rfl⟩ := hd
  exact lv_iinc hx hb hd hl hi hv hn hl' (fun ls' hl2 => k p l ev s m args below meth c A H locs ls' C hl2 hP hD hS)
theorem z_icmp_eq {G : GT} {μ : Mu} {R : Room} {O : OT} {cs ss pc pc' tgt : Nat} {lv : List (Nat × Value)} {st : List Value} {ws : va_W} {off : Int} {x y : Int32} (hd : Db μ pc (.if_icmp .eq off) off pc' tgt) (kt : x = y → Tr G μ R O cs ss tgt lv (st) ws) (kf : ¬ x = y → Tr G μ R O cs ss pc' lv (st) ws) : Tr G μ R O cs ss pc lv (.int y :: .int x :: st) ws := fun p l ev s m args below meth c A H locs ls C hl hP hD hS => by
  obtain ⟨hx, hb, hml, hown, hr, hlk, hAm, hA, hnm, hO⟩ := id C
  obtain ⟨hd, rfl, ht⟩ := hd
  exact lv_icmp_eq hx hb hd ht (fun q => kt q p l ev s m args below meth c A H locs ls C hl hP hD hS) (fun q => kf q p l ev s m args below meth c A H locs ls C hl hP hD hS)
theorem z_if_eq {G : GT} {μ : Mu} {R : Room} {O : OT} {cs ss pc pc' tgt : Nat} {lv : List (Nat × Value)} {st : List Value} {ws : va_W} {off : Int} {x : Int32} (hd : Db μ pc (.ifCond .eq off) off pc' tgt) (kt : x = 0 → Tr G μ R O cs ss tgt lv (st) ws) (kf : ¬ x = 0 → Tr G μ R O cs ss pc' lv (st) ws) : Tr G μ R O cs ss pc lv (.int x :: st) ws := fun p l ev s m args below meth c A H locs ls C hl hP hD hS => by
  obtain ⟨hx, hb, hml, hown, hr, hlk, hAm, hA, hnm, hO⟩ := id C
  obtain ⟨hd, rfl, ht⟩ := hd
  exact lv_if_eq hx hb hd ht (fun q => kt q p l ev s m args below meth c A H locs ls C hl hP hD hS) (fun q => kf q p l ev s m args below meth c A H locs ls C hl hP hD hS)
theorem z_icmp_ne {G : GT} {μ : Mu} {R : Room} {O : OT} {cs ss pc pc' tgt : Nat} {lv : List (Nat × Value)} {st : List Value} {ws : va_W} {off : Int} {x y : Int32} (hd : Db μ pc (.if_icmp .ne off) off pc' tgt) (kt : ¬ x = y → Tr G μ R O cs ss tgt lv (st) ws) (kf : x = y → Tr G μ R O cs ss pc' lv (st) ws) : Tr G μ R O cs ss pc lv (.int y :: .int x :: st) ws := fun p l ev s m args below meth c A H locs ls C hl hP hD hS => by
  obtain ⟨hx, hb, hml, hown, hr, hlk, hAm, hA, hnm, hO⟩ := id C
  obtain ⟨hd, rfl, ht⟩ := hd
  exact lv_icmp_ne hx hb hd ht (fun q => kt q p l ev s m args below meth c A H locs ls C hl hP hD hS) (fun q => kf q p l ev s m args below meth c A H locs ls C hl hP hD hS)
theorem z_if_ne {G : GT} {μ : Mu} {R : Room} {O : OT} {cs ss pc pc' tgt : Nat} {lv : List (Nat × Value)} {st : List Value} {ws : va_W} {off : Int} {x : Int32} (hd : Db μ pc (.ifCond .ne off) off pc' tgt) (kt : ¬ x = 0 → Tr G μ R O cs ss tgt lv (st) ws) (kf : x = 0 → Tr G μ R O cs ss pc' lv (st) ws) : Tr G μ R O cs ss pc lv (.int x :: st) ws := fun p l ev s m args below meth c A H locs ls C hl hP hD hS => by
  obtain ⟨hx, hb, hml, hown, hr, hlk, hAm, hA, hnm, hO⟩ := id C
  obtain ⟨hd, rfl, ht⟩ := hd
  exact lv_if_ne hx hb hd ht (fun q => kt q p l ev s m args below meth c A H locs ls C hl hP hD hS) (fun q => kf q p l ev s m args below meth c A H locs ls C hl hP hD hS)
theorem z_icmp_lt {G : GT} {μ : Mu} {R : Room} {O : OT} {cs ss pc pc' tgt : Nat} {lv : List (Nat × Value)} {st : List Value} {ws : va_W} {off : Int} {x y : Int32} (hd : Db μ pc (.if_icmp .lt off) off pc' tgt) (kt : x < y → Tr G μ R O cs ss tgt lv (st) ws) (kf : ¬ x < y → Tr G μ R O cs ss pc' lv (st) ws) : Tr G μ R O cs ss pc lv (.int y :: .int x :: st) ws := fun p l ev s m args below meth c A H locs ls C hl hP hD hS => by
  obtain ⟨hx, hb, hml, hown, hr, hlk, hAm, hA, hnm, hO⟩ := id C
  obtain ⟨hd, rfl, ht⟩ := hd
  exact lv_icmp_lt hx hb hd ht (fun q => kt q p l ev s m args below meth c A H locs ls C hl hP hD hS) (fun q => kf q p l ev s m args below meth c A H locs ls C hl hP hD hS)
theorem z_if_lt {G : GT} {μ : Mu} {R : Room} {O : OT} {cs ss pc pc' tgt : Nat} {lv : List (Nat × Value)} {st : List Value} {ws : va_W} {off : Int} {x : Int32} (hd : Db μ pc (.ifCond .lt off) off pc' tgt) (kt : x < 0 → Tr G μ R O cs ss tgt lv (st) ws) (kf : ¬ x < 0 → Tr G μ R O cs ss pc' lv (st) ws) : Tr G μ R O cs ss pc lv (.int x :: st) ws := fun p l ev s m args below meth c A H locs ls C hl hP hD hS => by
  obtain ⟨hx, hb, hml, hown, hr, hlk, hAm, hA, hnm, hO⟩ := id C
  obtain ⟨hd, rfl, ht⟩ := hd
  exact lv_if_lt hx hb hd ht (fun q => kt q p l ev s m args below meth c A H locs ls C hl hP hD hS) (fun q => kf q p l ev s m args below meth c A H locs ls C hl hP hD hS)
theorem z_icmp_ge {G : GT} {μ : Mu} {R : Room} {O : OT} {cs ss pc pc' tgt : Nat} {lv : List (Nat × Value)} {st : List Value} {ws : va_W} {off : Int} {x y : Int32} (hd : Db μ pc (.if_icmp .ge off) off pc' tgt) (kt : ¬ x < y → Tr G μ R O cs ss tgt lv (st) ws) (kf : x < y → Tr G μ R O cs ss pc' lv (st) ws) : Tr G μ R O cs ss pc lv (.int y :: .int x :: st) ws := fun p l ev s m args below meth c A H locs ls C hl hP hD hS => by
  obtain ⟨hx, hb, hml, hown, hr, hlk, hAm, hA, hnm, hO⟩ := id C
  obtain ⟨hd, rfl, ht⟩ := hd
  exact lv_icmp_ge hx hb hd ht (fun q => kt (Int32.not_lt.mpr q) p l ev s m args below meth c A H locs ls C hl hP hD hS) (fun q => kf (Int32.not_le.mp q) p l ev s m args below meth c A H locs ls C hl hP hD hS)
theorem z_if_ge {G : GT} {μ : Mu} {R : Room} {O : OT} {cs ss pc pc' tgt : Nat} {lv : List (Nat × Value)} {st : List Value} {ws : va_W} {off : Int} {x : Int32} (hd : Db μ pc (.ifCond .ge off) off pc' tgt) (kt : ¬ x < 0 → Tr G μ R O cs ss tgt lv (st) ws) (kf : x < 0 → Tr G μ R O cs ss pc' lv (st) ws) : Tr G μ R O cs ss pc lv (.int x :: st) ws := fun p l ev s m args below meth c A H locs ls C hl hP hD hS => by
  obtain ⟨hx, hb, hml, hown, hr, hlk, hAm, hA, hnm, hO⟩ := id C
  obtain ⟨hd, rfl, ht⟩ := hd
  exact lv_if_ge hx hb hd ht (fun q => kt (Int32.not_lt.mpr q) p l ev s m args below meth c A H locs ls C hl hP hD hS) (fun q => kf (Int32.not_le.mp q) p l ev s m args below meth c A H locs ls C hl hP hD hS)
theorem z_icmp_gt {G : GT} {μ : Mu} {R : Room} {O : OT} {cs ss pc pc' tgt : Nat} {lv : List (Nat × Value)} {st : List Value} {ws : va_W} {off : Int} {x y : Int32} (hd : Db μ pc (.if_icmp .gt off) off pc' tgt) (kt : y < x → Tr G μ R O cs ss tgt lv (st) ws) (kf : ¬ y < x → Tr G μ R O cs ss pc' lv (st) ws) : Tr G μ R O cs ss pc lv (.int y :: .int x :: st) ws := fun p l ev s m args below meth c A H locs ls C hl hP hD hS => by
  obtain ⟨hx, hb, hml, hown, hr, hlk, hAm, hA, hnm, hO⟩ := id C
  obtain ⟨hd, rfl, ht⟩ := hd
  exact lv_icmp_gt hx hb hd ht (fun q => kt q p l ev s m args below meth c A H locs ls C hl hP hD hS) (fun q => kf q p l ev s m args below meth c A H locs ls C hl hP hD hS)
theorem z_if_gt {G : GT} {μ : Mu} {R : Room} {O : OT} {cs ss pc pc' tgt : Nat} {lv : List (Nat × Value)} {st : List Value} {ws : va_W} {off : Int} {x : Int32} (hd : Db μ pc (.ifCond .gt off) off pc' tgt) (kt : 0 < x → Tr G μ R O cs ss tgt lv (st) ws) (kf : ¬ 0 < x → Tr G μ R O cs ss pc' lv (st) ws) : Tr G μ R O cs ss pc lv (.int x :: st) ws := fun p l ev s m args below meth c A H locs ls C hl hP hD hS => by
  obtain ⟨hx, hb, hml, hown, hr, hlk, hAm, hA, hnm, hO⟩ := id C
  obtain ⟨hd, rfl, ht⟩ := hd
  exact lv_if_gt hx hb hd ht (fun q => kt q p l ev s m args below meth c A H locs ls C hl hP hD hS) (fun q => kf q p l ev s m args below meth c A H locs ls C hl hP hD hS)
theorem z_icmp_le {G : GT} {μ : Mu} {R : Room} {O : OT} {cs ss pc pc' tgt : Nat} {lv : List (Nat × Value)} {st : List Value} {ws : va_W} {off : Int} {x y : Int32} (hd : Db μ pc (.if_icmp .le off) off pc' tgt) (kt : ¬ y < x → Tr G μ R O cs ss tgt lv (st) ws) (kf : y < x → Tr G μ R O cs ss pc' lv (st) ws) : Tr G μ R O cs ss pc lv (.int y :: .int x :: st) ws := fun p l ev s m args below meth c A H locs ls C hl hP hD hS => by
  obtain ⟨hx, hb, hml, hown, hr, hlk, hAm, hA, hnm, hO⟩ := id C
  obtain ⟨hd, rfl, ht⟩ := hd
  exact lv_icmp_le hx hb hd ht (fun q => kt (Int32.not_lt.mpr q) p l ev s m args below meth c A H locs ls C hl hP hD hS) (fun q => kf (Int32.not_le.mp q) p l ev s m args below meth c A H locs ls C hl hP hD hS)
theorem z_if_le {G : GT} {μ : Mu} {R : Room} {O : OT} {cs ss pc pc' tgt : Nat} {lv : List (Nat × Value)} {st : List Value} {ws : va_W} {off : Int} {x : Int32} (hd : Db μ pc (.ifCond .le off) off pc' tgt) (kt : ¬ 0 < x → Tr G μ R O cs ss tgt lv (st) ws) (kf : 0 < x → Tr G μ R O cs ss pc' lv (st) ws) : Tr G μ R O cs ss pc lv (.int x :: st) ws := fun p l ev s m args below meth c A H locs ls C hl hP hD hS => by
  obtain ⟨hx, hb, hml, hown, hr, hlk, hAm, hA, hnm, hO⟩ := id C
  obtain ⟨hd, rfl, ht⟩ := hd
  exact lv_if_le hx hb hd ht (fun q => kt (Int32.not_lt.mpr q) p l ev s m args below meth c A H locs ls C hl hP hD hS) (fun q => kf (Int32.not_le.mp q) p l ev s m args below meth c A H locs ls C hl hP hD hS)
theorem z_goto {G : GT} {μ : Mu} {R : Room} {O : OT} {cs ss pc pc' tgt : Nat} {lv : List (Nat × Value)} {st : List Value} {ws : va_W} {off : Int} (hd : Db μ pc (.goto off) off pc' tgt) (k : Tr G μ R O cs ss tgt lv (st) ws) : Tr G μ R O cs ss pc lv (st) ws := fun p l ev s m args below meth c A H locs ls C hl hP hD hS => by
  obtain ⟨hx, hb, hml, hown, hr, hlk, hAm, hA, hnm, hO⟩ := id C
  obtain ⟨hd, -, ht⟩ := hd
  exact lv_goto hx hb hd ht (k p l ev s m args below meth c A H locs ls C hl hP hD hS)
