/-! my layer: a walk over worlds and whole numbers; the heap itself stays hidden -/
abbrev gD : Type := va_G × ClassId × ClassId
abbrev gX : Type := (Program × Launch × Env × Room × State × MethodId × Array Value × List Frame × Method × Code) × ((Nat → Prop) × Heap × Nat × (State → Prop))
abbrev gT (g : gD) : List (ClassId × FieldType) := [(g.2.1, .int), (g.2.2, .int)]
abbrev cA (g : gD) (n : Nat) (F : Int → Int) : va_E := .inl (g.2.1, n, .inl (aI F))
abbrev cJ (g : gD) (n : Nat) (F : Int → Int) : va_E := .inl (g.2.2, n, .inr (.inl (aJ F)))
abbrev cO (k : Nat) (fs : List Value) : va_E := .inr (k, fs)
def gE (g : gD) (U : State) : Prop := va_K g.1 vwCl (gT g) U ∧ ∀ w ∈ wNest, va_Nw w U
theorem gE.moved {g : gD} {s U : State} (hW : s.WarmedH U.vm) (h : gE g s) : gE g U := by
  refine ⟨va_K.moved hW.alike h.1, ?_⟩
  have q : ∀ w, (∃ a i b n d k, w = Cond.fieldLinkNest a i b n d k) ∨ (∃ a i y k, w = Cond.methodLinkNest a i y k) → va_Nw w s → va_Nw w U := by
    rintro w (⟨a, i, b, n, d, k, rfl⟩ | ⟨a, i, y, k, rfl⟩) z
    · exact va_Nw.warmF hW z
    · exact va_Nw.warmM hW z
  have f : ∀ w ∈ wNest, (∃ a i b n d k, w = Cond.fieldLinkNest a i b n d k) ∨ (∃ a i y k, w = Cond.methodLinkNest a i y k) := by
    intro w hw
    simp only [wNest, List.mem_cons, List.not_mem_nil, or_false] at hw
    rcases hw with rfl | rfl | rfl | rfl | rfl | rfl | rfl | rfl | rfl | rfl | rfl | rfl | rfl | rfl | rfl | rfl | rfl | rfl | rfl <;> first | exact Or.inl ⟨_, _, _, _, _, _, rfl⟩ | exact Or.inr ⟨_, _, _, _, rfl⟩
  exact fun w hw => q w (f w hw) (h.2 w hw)
/-- the walk: in every heap that holds the world, with these locals, from pc with this stack -/
def gW (g : gD) (x : gX) (ws : va_W) (k n : Nat) (lv : List (Nat × Value)) (pc : Nat) (st : List Value) : Prop := match x with
  | ((p, l, e, R, s, m, args, below, meth, c), (A, H0, nL, Q)) => ∀ (H : Heap) (locs : List Loc) (ls : Array Slot), va_P g.1 vwCl ws H → va_D A ws → va_S A H0 H locs → lv_has ls nL lv → W p l e R s m args below meth c H locs k n Q (F0 m pc ls st)
/-- what a walk may use -/
def gC (g : gD) (x : gX) (own : String) (cc : ByteArray) (nL : Nat) (fr ce sl lo : Nat) : Prop := match x with
  | ((p, l, e, R, s, m, args, below, meth, c), (A, H0, nL', Q)) => p.tables.exec = Jvm.exec ∧ c.code = cc ∧ c.maxLocals = nL' ∧ nL' = nL ∧ s.vm.findClass own = some m.cls ∧ (∀ w ∈ wAll, w.before args s = true) ∧ gE g s ∧ (∀ q, H0.size ≤ q → A q) ∧ R = { frames := fr, cells := ce, slots := sl, locals := lo }
/-- what a method's end is -/
def gQ (g : gD) (ws0 : va_W) (Post : Option Value → va_W → Prop) (A : Nat → Prop) : Array Value → State → Outcome → State → Prop := fun _ st oc t =>
  (∃ (v : Option Value) (w1 : va_W), oc = .returned v ∧ Post v w1 ∧ w1.map Prod.fst = ws0.map Prod.fst ++ (w1.map Prod.fst).drop ws0.length ∧ va_P g.1 vwCl w1 t.heap ∧ va_D A w1) ∧ va_F A st t
def gR (g : gD) (x : gX) (ret : Option FieldType) (mc ms : Nat) (ws0 : va_W) (Post : Option Value → va_W → Prop) : Prop := match x with
  | ((p, l, e, R, s, m, args, below, meth, c), (A, H0, nL, Q)) => Q = MQ below (gQ g ws0 Post A) args s mc ms A ∧ H0 = s.heap ∧ meth.sig.returnType = ret ∧ meth.locks = false
def gMet (l : Launch) (g : gD) (y : MethodName) (cc : ByteArray) (maxL : Nat) (ret : Option FieldType) (fr mc ms lo : Nat) (args : List Value) (ws : va_W) (Post : Option Value → va_W → Prop) : Prop :=
  ∀ sz : Nat, Met l y (.code y cc maxL ret :: wAll) { frames := fr, cells := mc, slots := ms, locals := lo } (va_Pc args (fun U => gE g U ∧ U.heap.size = sz ∧ va_P g.1 vwCl ws U.heap ∧ va_D (fun _ => True) ws)) (gQ g ws Post (va_A ws sz)) mc ms (va_A ws sz)
theorem gMet.of {l : Launch} {g : gD} {y : MethodName} {cc : ByteArray} {maxL : Nat} {ret : Option FieldType} {fr mc ms lo : Nat} {args : List Value} {ws : va_W} {Post : Option Value → va_W → Prop} (hy : plainName y.cls = true) (hlen : (lg_sl args).length ≤ maxL)
    (body : ∀ x : gX, x.1.2.1 = l → gC g x y.cls cc maxL fr mc ms lo → gR g x ret mc ms ws Post → (y.name = x.1.2.2.2.2.2.2.2.2.1.name) → gW g x ws 0 0 (lv_args 0 args) 0 []) : gMet l g y cc maxL ret fr mc ms lo args ws Post := by
  intro sz
  refine Met.ofW (cc := cc) (maxL := maxL) (ret := ret) hy rfl ?_
  intro p e s m args' below meth c s₁ B hml hv
  obtain ⟨rfl, hE, hsz, hP, hD⟩ := hv
  subst hsz
  have hts := atoms_spec (ws := Cond.code y cc maxL ret :: wAll) B.pre
  have hown : s.vm.findClass y.cls = some m.cls := findClass_of_methodNamed B.named
  have hl := lv_entry args (n := maxL) hlen
  rw [lg_entry_eq]
  exact body ((p, l, e, _, s, m, args.toArray, below, meth, c), (va_A ws s.heap.size, s.heap, maxL, _)) rfl
    ⟨B.exec, B.bytes, hml, rfl, hown, fun w h => hts w (List.mem_cons_of_mem _ h), hE, fun q h => Or.inr h, rfl⟩
    ⟨rfl, rfl, B.returns, B.notSynchronized⟩ (name_of_methodNamed B.named B.method).1.symm s.heap [] _ hP hD.self va_S.rf hl
section rows
variable {g : gD} {x : gX} {own : String} {cc : ByteArray} {nL fr ce sl lo : Nat} {ws : va_W} {k n : Nat} {lv : List (Nat × Value)} {pc : Nat} {st : List Value}
theorem g_iconst (C : gC g x own cc nL fr ce sl lo) {z : Int} (hd : decode cc pc = .ok (.iconst z, 1)) (kk : gW g x ws k n lv (pc + 1) (vi z :: st)) : gW g x ws k n lv pc st := by
  obtain ⟨⟨p, l, e, R, s, m, args, below, meth, c⟩, A, H0, nL', Q⟩ := x
  intro H locs ls hP hD hS hl
  exact lv_iconst C.1 C.2.1 hd rfl (kk H locs ls hP hD hS hl)
theorem g_bipush (C : gC g x own cc nL fr ce sl lo) {z : Int} (hd : decode cc pc = .ok (.bipush z, 2)) (hz : (Int8.ofInt z).toInt32 = iI z) (kk : gW g x ws k n lv (pc + 2) (vi z :: st)) : gW g x ws k n lv pc st := by
  obtain ⟨⟨p, l, e, R, s, m, args, below, meth, c⟩, A, H0, nL', Q⟩ := x
  intro H locs ls hP hD hS hl
  exact lv_bipush C.1 C.2.1 hd hz (kk H locs ls hP hD hS hl)
theorem g_sipush (C : gC g x own cc nL fr ce sl lo) {z : Int} (hd : decode cc pc = .ok (.sipush z, 3)) (hz : (Int16.ofInt z).toInt32 = iI z) (kk : gW g x ws k n lv (pc + 3) (vi z :: st)) : gW g x ws k n lv pc st := by
  obtain ⟨⟨p, l, e, R, s, m, args, below, meth, c⟩, A, H0, nL', Q⟩ := x
  intro H locs ls hP hD hS hl
  exact lv_sipush C.1 C.2.1 hd hz (kk H locs ls hP hD hS hl)
theorem g_lconst (C : gC g x own cc nL fr ce sl lo) {z : Fin 2} (hd : decode cc pc = .ok (.lconst z, 1)) (w : Int) (hz : Int64.ofNat (z : Nat) = jI w) (kk : gW g x ws k n lv (pc + 1) (vl w :: st)) : gW g x ws k n lv pc st := by
  obtain ⟨⟨p, l, e, R, s, m, args, below, meth, c⟩, A, H0, nL', Q⟩ := x
  intro H locs ls hP hD hS hl
  exact lv_lconst C.1 C.2.1 hd hz (kk H locs ls hP hD hS hl)
theorem g_ldc (C : gC g x own cc nL fr ce sl lo) {ix : Nat} {v : Int32} (z : Int) (hw : Cond.constant own ix v ∈ wAll) (hz : v = iI z) (hd : decode cc pc = .ok (.ldc ix, 2)) (kk : gW g x ws k n lv (pc + 2) (vi z :: st)) : gW g x ws k n lv pc st := by
  obtain ⟨⟨p, l, e, R, s, m, args, below, meth, c⟩, A, H0, nL', Q⟩ := x
  intro H locs ls hP hD hS hl
  subst hz
  exact lv_ldc C.1 C.2.1 C.2.2.2.2.1 (C.2.2.2.2.2.1 _ hw) hd (kk H locs ls hP hD hS hl)
theorem g_ldc2 (C : gC g x own cc nL fr ce sl lo) {ix : Nat} {v : Int64} (z : Int) (hw : Cond.constantLong own ix v ∈ wAll) (hz : v = jI z) (hd : decode cc pc = .ok (.ldc2_w ix, 3)) (kk : gW g x ws k n lv (pc + 3) (vl z :: st)) : gW g x ws k n lv pc st := by
  obtain ⟨⟨p, l, e, R, s, m, args, below, meth, c⟩, A, H0, nL', Q⟩ := x
  intro H locs ls hP hD hS hl
  subst hz
  exact lv_ldc2 C.1 C.2.1 C.2.2.2.2.1 (C.2.2.2.2.2.1 _ hw) hd (kk H locs ls hP hD hS hl)
theorem g_iload_n (C : gC g x own cc nL fr ce sl lo) {i : Fin 4} {v : Int32} (q : Nat) (hd : decode cc pc = .ok (.iload_n i, 1)) (hv : lv[q]? = some ((i : Nat), .int v)) (kk : gW g x ws k n lv (pc + 1) (.int v :: st)) : gW g x ws k n lv pc st := by
  obtain ⟨⟨p, l, e, R, s, m, args, below, meth, c⟩, A, H0, nL', Q⟩ := x
  intro H locs ls hP hD hS hl
  exact lv_iload_n C.1 C.2.1 hd rfl (lv_at hl q hv) (kk H locs ls hP hD hS hl)
theorem g_iload (C : gC g x own cc nL fr ce sl lo) {i : Nat} {v : Int32} (q : Nat) (hd : decode cc pc = .ok (.iload i, 2)) (hv : lv[q]? = some (i, .int v)) (kk : gW g x ws k n lv (pc + 2) (.int v :: st)) : gW g x ws k n lv pc st := by
  obtain ⟨⟨p, l, e, R, s, m, args, below, meth, c⟩, A, H0, nL', Q⟩ := x
  intro H locs ls hP hD hS hl
  exact lv_iload C.1 C.2.1 hd (lv_at hl q hv) (kk H locs ls hP hD hS hl)
theorem g_lload_n (C : gC g x own cc nL fr ce sl lo) {i : Fin 4} {v : Int64} (q : Nat) (hd : decode cc pc = .ok (.lload_n i, 1)) (hv : lv[q]? = some ((i : Nat), .long v)) (kk : gW g x ws k n lv (pc + 1) (.long v :: st)) : gW g x ws k n lv pc st := by
  obtain ⟨⟨p, l, e, R, s, m, args, below, meth, c⟩, A, H0, nL', Q⟩ := x
  intro H locs ls hP hD hS hl
  exact lv_lload_n C.1 C.2.1 hd rfl (lv_at hl q hv) (kk H locs ls hP hD hS hl)
theorem g_lload (C : gC g x own cc nL fr ce sl lo) {i : Nat} {v : Int64} (q : Nat) (hd : decode cc pc = .ok (.lload i, 2)) (hv : lv[q]? = some (i, .long v)) (kk : gW g x ws k n lv (pc + 2) (.long v :: st)) : gW g x ws k n lv pc st := by
  obtain ⟨⟨p, l, e, R, s, m, args, below, meth, c⟩, A, H0, nL', Q⟩ := x
  intro H locs ls hP hD hS hl
  exact lv_lload C.1 C.2.1 hd (lv_at hl q hv) (kk H locs ls hP hD hS hl)
theorem g_aload_n (C : gC g x own cc nL fr ce sl lo) {i : Fin 4} {v : Nat} (q : Nat) (hd : decode cc pc = .ok (.aload_n i, 1)) (hv : lv[q]? = some ((i : Nat), .ref v)) (kk : gW g x ws k n lv (pc + 1) (.ref v :: st)) : gW g x ws k n lv pc st := by
  obtain ⟨⟨p, l, e, R, s, m, args, below, meth, c⟩, A, H0, nL', Q⟩ := x
  intro H locs ls hP hD hS hl
  exact lv_aload_n C.1 C.2.1 hd rfl (lv_at hl q hv) (kk H locs ls hP hD hS hl)
theorem g_aload (C : gC g x own cc nL fr ce sl lo) {i : Nat} {v : Nat} (q : Nat) (hd : decode cc pc = .ok (.aload i, 2)) (hv : lv[q]? = some (i, .ref v)) (kk : gW g x ws k n lv (pc + 2) (.ref v :: st)) : gW g x ws k n lv pc st := by
  obtain ⟨⟨p, l, e, R, s, m, args, below, meth, c⟩, A, H0, nL', Q⟩ := x
  intro H locs ls hP hD hS hl
  exact lv_aload C.1 C.2.1 hd (lv_at hl q hv) (kk H locs ls hP hD hS hl)
theorem g_istore_n (C : gC g x own cc nL fr ce sl lo) {i : Fin 4} {v : Int32} (lv' : List (Nat × Value)) (hd : decode cc pc = .ok (.istore_n i, 1)) (hn : (i : Nat) < nL) (hl' : ((i : Nat), Value.int v) :: lv.filter (fun q => !(q.1 == (i : Nat)) && !(q.1 + 1 == (i : Nat) && q.2.category == 2)) = lv') (kk : gW g x ws k n lv' (pc + 1) st) : gW g x ws k n lv pc (.int v :: st) := by
  obtain ⟨⟨p, l, e, R, s, m, args, below, meth, c⟩, A, H0, nL', Q⟩ := x
  intro H locs ls hP hD hS hl
  obtain ⟨h1, h2, h3, h4, -⟩ := C
  exact lv_istore_n h1 h2 hd rfl hl (by rw [h4]; exact hn) hl' (fun ls hl => kk H locs ls hP hD hS hl)
theorem g_istore (C : gC g x own cc nL fr ce sl lo) {i : Nat} {v : Int32} (lv' : List (Nat × Value)) (hd : decode cc pc = .ok (.istore i, 2)) (hn : i < nL) (hl' : (i, Value.int v) :: lv.filter (fun q => !(q.1 == i) && !(q.1 + 1 == i && q.2.category == 2)) = lv') (kk : gW g x ws k n lv' (pc + 2) st) : gW g x ws k n lv pc (.int v :: st) := by
  obtain ⟨⟨p, l, e, R, s, m, args, below, meth, c⟩, A, H0, nL', Q⟩ := x
  intro H locs ls hP hD hS hl
  obtain ⟨h1, h2, h3, h4, -⟩ := C
  exact lv_istore h1 h2 hd hl (by rw [h4]; exact hn) hl' (fun ls hl => kk H locs ls hP hD hS hl)
theorem g_astore_n (C : gC g x own cc nL fr ce sl lo) {i : Fin 4} {v : Nat} (lv' : List (Nat × Value)) (hd : decode cc pc = .ok (.astore_n i, 1)) (hn : (i : Nat) < nL) (hl' : ((i : Nat), Value.ref v) :: lv.filter (fun q => !(q.1 == (i : Nat)) && !(q.1 + 1 == (i : Nat) && q.2.category == 2)) = lv') (kk : gW g x ws k n lv' (pc + 1) st) : gW g x ws k n lv pc (.ref v :: st) := by
  obtain ⟨⟨p, l, e, R, s, m, args, below, meth, c⟩, A, H0, nL', Q⟩ := x
  intro H locs ls hP hD hS hl
  obtain ⟨h1, h2, h3, h4, -⟩ := C
  exact lv_astore_n h1 h2 hd rfl hl (by rw [h4]; exact hn) hl' (fun ls hl => kk H locs ls hP hD hS hl)
theorem g_astore (C : gC g x own cc nL fr ce sl lo) {i : Nat} {v : Nat} (lv' : List (Nat × Value)) (hd : decode cc pc = .ok (.astore i, 2)) (hn : i < nL) (hl' : (i, Value.ref v) :: lv.filter (fun q => !(q.1 == i) && !(q.1 + 1 == i && q.2.category == 2)) = lv') (kk : gW g x ws k n lv' (pc + 2) st) : gW g x ws k n lv pc (.ref v :: st) := by
  obtain ⟨⟨p, l, e, R, s, m, args, below, meth, c⟩, A, H0, nL', Q⟩ := x
  intro H locs ls hP hD hS hl
  obtain ⟨h1, h2, h3, h4, -⟩ := C
  exact lv_astore h1 h2 hd hl (by rw [h4]; exact hn) hl' (fun ls hl => kk H locs ls hP hD hS hl)
theorem g_lstore_n (C : gC g x own cc nL fr ce sl lo) {i : Fin 4} {v : Int64} (lv' : List (Nat × Value)) (hd : decode cc pc = .ok (.lstore_n i, 1)) (hn : (i : Nat) + 1 < nL) (hl' : ((i : Nat), Value.long v) :: lv.filter (fun q => !(q.1 == (i : Nat)) && (!(q.1 == (i : Nat) + 1) && !(q.1 + 1 == (i : Nat) && q.2.category == 2))) = lv') (kk : gW g x ws k n lv' (pc + 1) st) : gW g x ws k n lv pc (.long v :: st) := by
  obtain ⟨⟨p, l, e, R, s, m, args, below, meth, c⟩, A, H0, nL', Q⟩ := x
  intro H locs ls hP hD hS hl
  obtain ⟨h1, h2, h3, h4, -⟩ := C
  exact lv_lstore_n h1 h2 hd rfl hl (by rw [h4]; exact hn) hl' (fun ls hl => kk H locs ls hP hD hS hl)
theorem g_lstore (C : gC g x own cc nL fr ce sl lo) {i : Nat} {v : Int64} (lv' : List (Nat × Value)) (hd : decode cc pc = .ok (.lstore i, 2)) (hn : i + 1 < nL) (hl' : (i, Value.long v) :: lv.filter (fun q => !(q.1 == i) && (!(q.1 == i + 1) && !(q.1 + 1 == i && q.2.category == 2))) = lv') (kk : gW g x ws k n lv' (pc + 2) st) : gW g x ws k n lv pc (.long v :: st) := by
  obtain ⟨⟨p, l, e, R, s, m, args, below, meth, c⟩, A, H0, nL', Q⟩ := x
  intro H locs ls hP hD hS hl
  obtain ⟨h1, h2, h3, h4, -⟩ := C
  exact lv_lstore h1 h2 hd hl (by rw [h4]; exact hn) hl' (fun ls hl => kk H locs ls hP hD hS hl)
theorem g_iinc (C : gC g x own cc nL fr ce sl lo) {i : Nat} {d z : Int} (q : Nat) (lv' : List (Nat × Value)) (hd : decode cc pc = .ok (.iinc i d, 3)) (hv : lv[q]? = some (i, vi z)) (hn : i < nL) (hl' : (i, vi (z + d)) :: lv.filter (fun q => !(q.1 == i) && !(q.1 + 1 == i && q.2.category == 2)) = lv') (kk : gW g x ws k n lv' (pc + 3) st) : gW g x ws k n lv pc st := by
  obtain ⟨⟨p, l, e, R, s, m, args, below, meth, c⟩, A, H0, nL', Q⟩ := x
  intro H locs ls hP hD hS hl
  obtain ⟨h1, h2, h3, h4, -⟩ := C
  exact lv_iinc h1 h2 hd hl hv (iI_add z d) (by rw [h4]; exact hn) hl' (fun ls hl => kk H locs ls hP hD hS hl)
theorem g_iadd (C : gC g x own cc nL fr ce sl lo) {a b : Int} (hd : decode cc pc = .ok (.iadd, 1)) (kk : gW g x ws k n lv (pc + 1) (vi (a + b) :: st)) : gW g x ws k n lv pc (vi b :: vi a :: st) := by
  obtain ⟨⟨p, l, e, R, s, m, args, below, meth, c⟩, A, H0, nL', Q⟩ := x
  intro H locs ls hP hD hS hl
  refine lv_iadd C.1 C.2.1 hd ?_
  rw [iI_add]
  exact kk H locs ls hP hD hS hl
theorem g_isub (C : gC g x own cc nL fr ce sl lo) {a b : Int} (hd : decode cc pc = .ok (.isub, 1)) (kk : gW g x ws k n lv (pc + 1) (vi (a - b) :: st)) : gW g x ws k n lv pc (vi b :: vi a :: st) := by
  obtain ⟨⟨p, l, e, R, s, m, args, below, meth, c⟩, A, H0, nL', Q⟩ := x
  intro H locs ls hP hD hS hl
  refine lv_isub C.1 C.2.1 hd ?_
  rw [iI_sub]
  exact kk H locs ls hP hD hS hl
theorem g_imul (C : gC g x own cc nL fr ce sl lo) {a b : Int} (hd : decode cc pc = .ok (.imul, 1)) (kk : gW g x ws k n lv (pc + 1) (vi (a * b) :: st)) : gW g x ws k n lv pc (vi b :: vi a :: st) := by
  obtain ⟨⟨p, l, e, R, s, m, args, below, meth, c⟩, A, H0, nL', Q⟩ := x
  intro H locs ls hP hD hS hl
  refine lv_imul C.1 C.2.1 hd ?_
  rw [iI_mul]
  exact kk H locs ls hP hD hS hl
theorem g_ineg (C : gC g x own cc nL fr ce sl lo) {a : Int} (hd : decode cc pc = .ok (.ineg, 1)) (kk : gW g x ws k n lv (pc + 1) (vi (-a) :: st)) : gW g x ws k n lv pc (vi a :: st) := by
  obtain ⟨⟨p, l, e, R, s, m, args, below, meth, c⟩, A, H0, nL', Q⟩ := x
  intro H locs ls hP hD hS hl
  refine lv_ineg C.1 C.2.1 hd ?_
  rw [iI_neg]
  exact kk H locs ls hP hD hS hl
theorem g_idiv (C : gC g x own cc nL fr ce sl lo) {a b : Int} (hd : decode cc pc = .ok (.idiv, 1)) (ha : 0 ≤ a ∧ a < 2147483648) (hb : 0 < b ∧ b < 2147483648) (kk : gW g x ws k n lv (pc + 1) (vi (a / b) :: st)) : gW g x ws k n lv pc (vi b :: vi a :: st) := by
  obtain ⟨⟨p, l, e, R, s, m, args, below, meth, c⟩, A, H0, nL', Q⟩ := x
  intro H locs ls hP hD hS hl
  refine lv_idiv C.1 C.2.1 hd (fun q => ?_) ?_
  · have := (iI_eq (a := b) (b := 0) (by omega) (by omega)).mp q; omega
  · rw [iI_div ha hb]
    exact kk H locs ls hP hD hS hl
theorem g_irem (C : gC g x own cc nL fr ce sl lo) {a b : Int} (hd : decode cc pc = .ok (.irem, 1)) (ha : 0 ≤ a ∧ a < 2147483648) (hb : 0 < b ∧ b < 2147483648) (kk : gW g x ws k n lv (pc + 1) (vi (a % b) :: st)) : gW g x ws k n lv pc (vi b :: vi a :: st) := by
  obtain ⟨⟨p, l, e, R, s, m, args, below, meth, c⟩, A, H0, nL', Q⟩ := x
  intro H locs ls hP hD hS hl
  refine lv_irem C.1 C.2.1 hd (fun q => ?_) ?_
  · have := (iI_eq (a := b) (b := 0) (by omega) (by omega)).mp q; omega
  · rw [iI_rem ha hb]
    exact kk H locs ls hP hD hS hl
theorem g_ishr (C : gC g x own cc nL fr ce sl lo) {a b : Int} (hd : decode cc pc = .ok (.ishr, 1)) (ha : 0 ≤ a ∧ a < 2147483648) (hb : 0 ≤ b ∧ b < 31) (kk : gW g x ws k n lv (pc + 1) (vi (a / 2 ^ b.toNat) :: st)) : gW g x ws k n lv pc (vi b :: vi a :: st) := by
  obtain ⟨⟨p, l, e, R, s, m, args, below, meth, c⟩, A, H0, nL', Q⟩ := x
  intro H locs ls hP hD hS hl
  refine lv_ishr C.1 C.2.1 hd ?_
  rw [iI_shr ha hb]
  exact kk H locs ls hP hD hS hl
theorem g_iand1 (C : gC g x own cc nL fr ce sl lo) {a : Int} (hd : decode cc pc = .ok (.iand, 1)) (ha : 0 ≤ a ∧ a < 2147483648) (kk : gW g x ws k n lv (pc + 1) (vi (a % 2) :: st)) : gW g x ws k n lv pc (vi 1 :: vi a :: st) := by
  obtain ⟨⟨p, l, e, R, s, m, args, below, meth, c⟩, A, H0, nL', Q⟩ := x
  intro H locs ls hP hD hS hl
  refine lv_iand C.1 C.2.1 hd ?_
  rw [iI_and1 ha]
  exact kk H locs ls hP hD hS hl
theorem g_ladd (C : gC g x own cc nL fr ce sl lo) {a b : Int} (hd : decode cc pc = .ok (.ladd, 1)) (kk : gW g x ws k n lv (pc + 1) (vl (a + b) :: st)) : gW g x ws k n lv pc (vl b :: vl a :: st) := by
  obtain ⟨⟨p, l, e, R, s, m, args, below, meth, c⟩, A, H0, nL', Q⟩ := x
  intro H locs ls hP hD hS hl
  refine lv_ladd C.1 C.2.1 hd ?_
  rw [jI_add]
  exact kk H locs ls hP hD hS hl
theorem g_lsub (C : gC g x own cc nL fr ce sl lo) {a b : Int} (hd : decode cc pc = .ok (.lsub, 1)) (kk : gW g x ws k n lv (pc + 1) (vl (a - b) :: st)) : gW g x ws k n lv pc (vl b :: vl a :: st) := by
  obtain ⟨⟨p, l, e, R, s, m, args, below, meth, c⟩, A, H0, nL', Q⟩ := x
  intro H locs ls hP hD hS hl
  refine lv_lsub C.1 C.2.1 hd ?_
  rw [jI_sub]
  exact kk H locs ls hP hD hS hl
theorem g_lmul (C : gC g x own cc nL fr ce sl lo) {a b : Int} (hd : decode cc pc = .ok (.lmul, 1)) (kk : gW g x ws k n lv (pc + 1) (vl (a * b) :: st)) : gW g x ws k n lv pc (vl b :: vl a :: st) := by
  obtain ⟨⟨p, l, e, R, s, m, args, below, meth, c⟩, A, H0, nL', Q⟩ := x
  intro H locs ls hP hD hS hl
  refine lv_lmul C.1 C.2.1 hd ?_
  rw [jI_mul]
  exact kk H locs ls hP hD hS hl
theorem g_ldiv (C : gC g x own cc nL fr ce sl lo) {a b : Int} (hd : decode cc pc = .ok (.ldiv, 1)) (ha : 0 ≤ a ∧ a < 9223372036854775808) (hb : 0 < b ∧ b < 9223372036854775808) (kk : gW g x ws k n lv (pc + 1) (vl (a / b) :: st)) : gW g x ws k n lv pc (vl b :: vl a :: st) := by
  obtain ⟨⟨p, l, e, R, s, m, args, below, meth, c⟩, A, H0, nL', Q⟩ := x
  intro H locs ls hP hD hS hl
  refine lv_ldiv C.1 C.2.1 hd (fun q => ?_) ?_
  · have := (jI_eq (a := b) (b := 0) (by omega) (by omega)).mp q; omega
  · rw [jI_div ha hb]
    exact kk H locs ls hP hD hS hl
theorem g_lrem (C : gC g x own cc nL fr ce sl lo) {a b : Int} (hd : decode cc pc = .ok (.lrem, 1)) (ha : 0 ≤ a ∧ a < 9223372036854775808) (hb : 0 < b ∧ b < 9223372036854775808) (kk : gW g x ws k n lv (pc + 1) (vl (a % b) :: st)) : gW g x ws k n lv pc (vl b :: vl a :: st) := by
  obtain ⟨⟨p, l, e, R, s, m, args, below, meth, c⟩, A, H0, nL', Q⟩ := x
  intro H locs ls hP hD hS hl
  refine lv_lrem C.1 C.2.1 hd (fun q => ?_) ?_
  · have := (jI_eq (a := b) (b := 0) (by omega) (by omega)).mp q; omega
  · rw [jI_rem ha hb]
    exact kk H locs ls hP hD hS hl
theorem g_i2l (C : gC g x own cc nL fr ce sl lo) {a : Int} (hd : decode cc pc = .ok (.i2l, 1)) (ha : -2147483648 ≤ a ∧ a < 2147483648) (kk : gW g x ws k n lv (pc + 1) (vl a :: st)) : gW g x ws k n lv pc (vi a :: st) := by
  obtain ⟨⟨p, l, e, R, s, m, args, below, meth, c⟩, A, H0, nL', Q⟩ := x
  intro H locs ls hP hD hS hl
  exact lv_i2l C.1 C.2.1 hd (iI_i2l ha) (kk H locs ls hP hD hS hl)
theorem g_l2i (C : gC g x own cc nL fr ce sl lo) {a : Int} (hd : decode cc pc = .ok (.l2i, 1)) (kk : gW g x ws k n lv (pc + 1) (vi a :: st)) : gW g x ws k n lv pc (vl a :: st) := by
  obtain ⟨⟨p, l, e, R, s, m, args, below, meth, c⟩, A, H0, nL', Q⟩ := x
  intro H locs ls hP hD hS hl
  exact lv_l2i C.1 C.2.1 hd (jI_l2i a) (kk H locs ls hP hD hS hl)
theorem g_lcmp (C : gC g x own cc nL fr ce sl lo) {a b : Int} (hd : decode cc pc = .ok (.lcmp, 1)) (ha : -9223372036854775808 ≤ a ∧ a < 9223372036854775808) (hb : -9223372036854775808 ≤ b ∧ b < 9223372036854775808) (kk : gW g x ws k n lv (pc + 1) (vi (if b < a then 1 else if a = b then 0 else -1) :: st)) : gW g x ws k n lv pc (vl b :: vl a :: st) := by
  obtain ⟨⟨p, l, e, R, s, m, args, below, meth, c⟩, A, H0, nL', Q⟩ := x
  intro H locs ls hP hD hS hl
  refine W.lcmp C.1 C.2.1 hd ?_
  rw [jI_cmp_lt ha hb]
  exact kk H locs ls hP hD hS hl
theorem g_dup (C : gC g x own cc nL fr ce sl lo) {v : Value} (hd : decode cc pc = .ok (.dup, 1)) (hv : v.category = 1) (kk : gW g x ws k n lv (pc + 1) (v :: v :: st)) : gW g x ws k n lv pc (v :: st) := by
  obtain ⟨⟨p, l, e, R, s, m, args, below, meth, c⟩, A, H0, nL', Q⟩ := x
  intro H locs ls hP hD hS hl
  exact lv_dup C.1 C.2.1 hd hv (kk H locs ls hP hD hS hl)
theorem g_dup2 (C : gC g x own cc nL fr ce sl lo) {v w : Value} (hd : decode cc pc = .ok (.dup2, 1)) (hv : v.category = 1) (hw : w.category = 1) (kk : gW g x ws k n lv (pc + 1) (v :: w :: v :: w :: st)) : gW g x ws k n lv pc (v :: w :: st) := by
  obtain ⟨⟨p, l, e, R, s, m, args, below, meth, c⟩, A, H0, nL', Q⟩ := x
  intro H locs ls hP hD hS hl
  exact lv_dup2_11 C.1 C.2.1 hd hv hw (kk H locs ls hP hD hS hl)
theorem g_pop (C : gC g x own cc nL fr ce sl lo) {v : Value} (hd : decode cc pc = .ok (.pop, 1)) (hv : v.category = 1) (kk : gW g x ws k n lv (pc + 1) st) : gW g x ws k n lv pc (v :: st) := by
  obtain ⟨⟨p, l, e, R, s, m, args, below, meth, c⟩, A, H0, nL', Q⟩ := x
  intro H locs ls hP hD hS hl
  exact lv_pop C.1 C.2.1 hd hv (kk H locs ls hP hD hS hl)
theorem g_goto (C : gC g x own cc nL fr ce sl lo) {off : Int} (tgt : Nat) (hd : decode cc pc = .ok (.goto off, 3)) (ht : (pc : Int) + off = (tgt : Int)) (kk : gW g x ws k n lv tgt st) : gW g x ws k n lv pc st := by
  obtain ⟨⟨p, l, e, R, s, m, args, below, meth, c⟩, A, H0, nL', Q⟩ := x
  intro H locs ls hP hD hS hl
  exact lv_goto C.1 C.2.1 hd ht (kk H locs ls hP hD hS hl)
theorem g_icmp_eq (C : gC g x own cc nL fr ce sl lo) {a b : Int} {off : Int} (tgt : Nat) (hd : decode cc pc = .ok (.if_icmp .eq off, 3)) (ht : (pc : Int) + off = (tgt : Int)) (ha : -2147483648 ≤ a ∧ a < 2147483648) (hb : -2147483648 ≤ b ∧ b < 2147483648) (kt : a = b → gW g x ws k n lv tgt st) (kf : ¬ (a = b) → gW g x ws k n lv (pc + 3) st) : gW g x ws k n lv pc (vi b :: vi a :: st) := by
  obtain ⟨⟨p, l, e, R, s, m, args, below, meth, c⟩, A, H0, nL', Q⟩ := x
  intro H locs ls hP hD hS hl
  have e1 := iI_eq (a := a) (b := b) ha hb
  have e2 := iI_lt (a := a) (b := b) ha hb
  have e3 := iI_le (a := a) (b := b) ha hb
  have e4 := iI_lt (a := b) (b := a) hb ha
  have e5 := iI_le (a := b) (b := a) hb ha
  try rw [iI_0] at e1 e2 e3 e4 e5
  refine lv_icmp_eq C.1 C.2.1 hd ht (fun q => kt ?_ H locs ls hP hD hS hl) (fun q => kf ?_ H locs ls hP hD hS hl)
  · simp only [GT.gt, GE.ge, e1, e2, e3, e4, e5, ne_eq] at q; omega
  · simp only [GT.gt, GE.ge, e1, e2, e3, e4, e5, ne_eq] at q; omega
theorem g_if_eq (C : gC g x own cc nL fr ce sl lo) {a : Int} {off : Int} (tgt : Nat) (hd : decode cc pc = .ok (.ifCond .eq off, 3)) (ht : (pc : Int) + off = (tgt : Int)) (ha : -2147483648 ≤ a ∧ a < 2147483648) (kt : a = 0 → gW g x ws k n lv tgt st) (kf : ¬ (a = 0) → gW g x ws k n lv (pc + 3) st) : gW g x ws k n lv pc (vi a :: st) := by
  obtain ⟨⟨p, l, e, R, s, m, args, below, meth, c⟩, A, H0, nL', Q⟩ := x
  intro H locs ls hP hD hS hl
  have e1 := iI_eq (a := a) (b := 0) ha (by omega)
  have e2 := iI_lt (a := a) (b := 0) ha (by omega)
  have e3 := iI_le (a := a) (b := 0) ha (by omega)
  have e4 := iI_lt (a := 0) (b := a) (by omega) ha
  have e5 := iI_le (a := 0) (b := a) (by omega) ha
  try rw [iI_0] at e1 e2 e3 e4 e5
  refine lv_if_eq C.1 C.2.1 hd ht (fun q => kt ?_ H locs ls hP hD hS hl) (fun q => kf ?_ H locs ls hP hD hS hl)
  · simp only [GT.gt, GE.ge, e1, e2, e3, e4, e5, ne_eq] at q; omega
  · simp only [GT.gt, GE.ge, e1, e2, e3, e4, e5, ne_eq] at q; omega
theorem g_icmp_ne (C : gC g x own cc nL fr ce sl lo) {a b : Int} {off : Int} (tgt : Nat) (hd : decode cc pc = .ok (.if_icmp .ne off, 3)) (ht : (pc : Int) + off = (tgt : Int)) (ha : -2147483648 ≤ a ∧ a < 2147483648) (hb : -2147483648 ≤ b ∧ b < 2147483648) (kt : ¬ a = b → gW g x ws k n lv tgt st) (kf : ¬ (¬ a = b) → gW g x ws k n lv (pc + 3) st) : gW g x ws k n lv pc (vi b :: vi a :: st) := by
  obtain ⟨⟨p, l, e, R, s, m, args, below, meth, c⟩, A, H0, nL', Q⟩ := x
  intro H locs ls hP hD hS hl
  have e1 := iI_eq (a := a) (b := b) ha hb
  have e2 := iI_lt (a := a) (b := b) ha hb
  have e3 := iI_le (a := a) (b := b) ha hb
  have e4 := iI_lt (a := b) (b := a) hb ha
  have e5 := iI_le (a := b) (b := a) hb ha
  try rw [iI_0] at e1 e2 e3 e4 e5
  refine lv_icmp_ne C.1 C.2.1 hd ht (fun q => kt ?_ H locs ls hP hD hS hl) (fun q => kf ?_ H locs ls hP hD hS hl)
  · simp only [GT.gt, GE.ge, e1, e2, e3, e4, e5, ne_eq] at q; omega
  · simp only [GT.gt, GE.ge, e1, e2, e3, e4, e5, ne_eq] at q; omega
theorem g_if_ne (C : gC g x own cc nL fr ce sl lo) {a : Int} {off : Int} (tgt : Nat) (hd : decode cc pc = .ok (.ifCond .ne off, 3)) (ht : (pc : Int) + off = (tgt : Int)) (ha : -2147483648 ≤ a ∧ a < 2147483648) (kt : ¬ a = 0 → gW g x ws k n lv tgt st) (kf : ¬ (¬ a = 0) → gW g x ws k n lv (pc + 3) st) : gW g x ws k n lv pc (vi a :: st) := by
  obtain ⟨⟨p, l, e, R, s, m, args, below, meth, c⟩, A, H0, nL', Q⟩ := x
  intro H locs ls hP hD hS hl
  have e1 := iI_eq (a := a) (b := 0) ha (by omega)
  have e2 := iI_lt (a := a) (b := 0) ha (by omega)
  have e3 := iI_le (a := a) (b := 0) ha (by omega)
  have e4 := iI_lt (a := 0) (b := a) (by omega) ha
  have e5 := iI_le (a := 0) (b := a) (by omega) ha
  try rw [iI_0] at e1 e2 e3 e4 e5
  refine lv_if_ne C.1 C.2.1 hd ht (fun q => kt ?_ H locs ls hP hD hS hl) (fun q => kf ?_ H locs ls hP hD hS hl)
  · simp only [GT.gt, GE.ge, e1, e2, e3, e4, e5, ne_eq] at q; omega
  · simp only [GT.gt, GE.ge, e1, e2, e3, e4, e5, ne_eq] at q; omega
theorem g_icmp_lt (C : gC g x own cc nL fr ce sl lo) {a b : Int} {off : Int} (tgt : Nat) (hd : decode cc pc = .ok (.if_icmp .lt off, 3)) (ht : (pc : Int) + off = (tgt : Int)) (ha : -2147483648 ≤ a ∧ a < 2147483648) (hb : -2147483648 ≤ b ∧ b < 2147483648) (kt : a < b → gW g x ws k n lv tgt st) (kf : ¬ (a < b) → gW g x ws k n lv (pc + 3) st) : gW g x ws k n lv pc (vi b :: vi a :: st) := by
  obtain ⟨⟨p, l, e, R, s, m, args, below, meth, c⟩, A, H0, nL', Q⟩ := x
  intro H locs ls hP hD hS hl
  have e1 := iI_eq (a := a) (b := b) ha hb
  have e2 := iI_lt (a := a) (b := b) ha hb
  have e3 := iI_le (a := a) (b := b) ha hb
  have e4 := iI_lt (a := b) (b := a) hb ha
  have e5 := iI_le (a := b) (b := a) hb ha
  try rw [iI_0] at e1 e2 e3 e4 e5
  refine lv_icmp_lt C.1 C.2.1 hd ht (fun q => kt ?_ H locs ls hP hD hS hl) (fun q => kf ?_ H locs ls hP hD hS hl)
  · simp only [GT.gt, GE.ge, e1, e2, e3, e4, e5, ne_eq] at q; omega
  · simp only [GT.gt, GE.ge, e1, e2, e3, e4, e5, ne_eq] at q; omega
theorem g_if_lt (C : gC g x own cc nL fr ce sl lo) {a : Int} {off : Int} (tgt : Nat) (hd : decode cc pc = .ok (.ifCond .lt off, 3)) (ht : (pc : Int) + off = (tgt : Int)) (ha : -2147483648 ≤ a ∧ a < 2147483648) (kt : a < 0 → gW g x ws k n lv tgt st) (kf : ¬ (a < 0) → gW g x ws k n lv (pc + 3) st) : gW g x ws k n lv pc (vi a :: st) := by
  obtain ⟨⟨p, l, e, R, s, m, args, below, meth, c⟩, A, H0, nL', Q⟩ := x
  intro H locs ls hP hD hS hl
  have e1 := iI_eq (a := a) (b := 0) ha (by omega)
  have e2 := iI_lt (a := a) (b := 0) ha (by omega)
  have e3 := iI_le (a := a) (b := 0) ha (by omega)
  have e4 := iI_lt (a := 0) (b := a) (by omega) ha
  have e5 := iI_le (a := 0) (b := a) (by omega) ha
  try rw [iI_0] at e1 e2 e3 e4 e5
  refine lv_if_lt C.1 C.2.1 hd ht (fun q => kt ?_ H locs ls hP hD hS hl) (fun q => kf ?_ H locs ls hP hD hS hl)
  · simp only [GT.gt, GE.ge, e1, e2, e3, e4, e5, ne_eq] at q; omega
  · simp only [GT.gt, GE.ge, e1, e2, e3, e4, e5, ne_eq] at q; omega
theorem g_icmp_ge (C : gC g x own cc nL fr ce sl lo) {a b : Int} {off : Int} (tgt : Nat) (hd : decode cc pc = .ok (.if_icmp .ge off, 3)) (ht : (pc : Int) + off = (tgt : Int)) (ha : -2147483648 ≤ a ∧ a < 2147483648) (hb : -2147483648 ≤ b ∧ b < 2147483648) (kt : b ≤ a → gW g x ws k n lv tgt st) (kf : ¬ (b ≤ a) → gW g x ws k n lv (pc + 3) st) : gW g x ws k n lv pc (vi b :: vi a :: st) := by
  obtain ⟨⟨p, l, e, R, s, m, args, below, meth, c⟩, A, H0, nL', Q⟩ := x
  intro H locs ls hP hD hS hl
  have e1 := iI_eq (a := a) (b := b) ha hb
  have e2 := iI_lt (a := a) (b := b) ha hb
  have e3 := iI_le (a := a) (b := b) ha hb
  have e4 := iI_lt (a := b) (b := a) hb ha
  have e5 := iI_le (a := b) (b := a) hb ha
  try rw [iI_0] at e1 e2 e3 e4 e5
  refine lv_icmp_ge C.1 C.2.1 hd ht (fun q => kt ?_ H locs ls hP hD hS hl) (fun q => kf ?_ H locs ls hP hD hS hl)
  · simp only [GT.gt, GE.ge, e1, e2, e3, e4, e5, ne_eq] at q; omega
  · simp only [GT.gt, GE.ge, e1, e2, e3, e4, e5, ne_eq] at q; omega
theorem g_if_ge (C : gC g x own cc nL fr ce sl lo) {a : Int} {off : Int} (tgt : Nat) (hd : decode cc pc = .ok (.ifCond .ge off, 3)) (ht : (pc : Int) + off = (tgt : Int)) (ha : -2147483648 ≤ a ∧ a < 2147483648) (kt : 0 ≤ a → gW g x ws k n lv tgt st) (kf : ¬ (0 ≤ a) → gW g x ws k n lv (pc + 3) st) : gW g x ws k n lv pc (vi a :: st) := by
  obtain ⟨⟨p, l, e, R, s, m, args, below, meth, c⟩, A, H0, nL', Q⟩ := x
  intro H locs ls hP hD hS hl
  have e1 := iI_eq (a := a) (b := 0) ha (by omega)
  have e2 := iI_lt (a := a) (b := 0) ha (by omega)
  have e3 := iI_le (a := a) (b := 0) ha (by omega)
  have e4 := iI_lt (a := 0) (b := a) (by omega) ha
  have e5 := iI_le (a := 0) (b := a) (by omega) ha
  try rw [iI_0] at e1 e2 e3 e4 e5
  refine lv_if_ge C.1 C.2.1 hd ht (fun q => kt ?_ H locs ls hP hD hS hl) (fun q => kf ?_ H locs ls hP hD hS hl)
  · simp only [GT.gt, GE.ge, e1, e2, e3, e4, e5, ne_eq] at q; omega
  · simp only [GT.gt, GE.ge, e1, e2, e3, e4, e5, ne_eq] at q; omega
theorem g_icmp_gt (C : gC g x own cc nL fr ce sl lo) {a b : Int} {off : Int} (tgt : Nat) (hd : decode cc pc = .ok (.if_icmp .gt off, 3)) (ht : (pc : Int) + off = (tgt : Int)) (ha : -2147483648 ≤ a ∧ a < 2147483648) (hb : -2147483648 ≤ b ∧ b < 2147483648) (kt : b < a → gW g x ws k n lv tgt st) (kf : ¬ (b < a) → gW g x ws k n lv (pc + 3) st) : gW g x ws k n lv pc (vi b :: vi a :: st) := by
  obtain ⟨⟨p, l, e, R, s, m, args, below, meth, c⟩, A, H0, nL', Q⟩ := x
  intro H locs ls hP hD hS hl
  have e1 := iI_eq (a := a) (b := b) ha hb
  have e2 := iI_lt (a := a) (b := b) ha hb
  have e3 := iI_le (a := a) (b := b) ha hb
  have e4 := iI_lt (a := b) (b := a) hb ha
  have e5 := iI_le (a := b) (b := a) hb ha
  try rw [iI_0] at e1 e2 e3 e4 e5
  refine lv_icmp_gt C.1 C.2.1 hd ht (fun q => kt ?_ H locs ls hP hD hS hl) (fun q => kf ?_ H locs ls hP hD hS hl)
  · simp only [GT.gt, GE.ge, e1, e2, e3, e4, e5, ne_eq] at q; omega
  · simp only [GT.gt, GE.ge, e1, e2, e3, e4, e5, ne_eq] at q; omega
theorem g_if_gt (C : gC g x own cc nL fr ce sl lo) {a : Int} {off : Int} (tgt : Nat) (hd : decode cc pc = .ok (.ifCond .gt off, 3)) (ht : (pc : Int) + off = (tgt : Int)) (ha : -2147483648 ≤ a ∧ a < 2147483648) (kt : 0 < a → gW g x ws k n lv tgt st) (kf : ¬ (0 < a) → gW g x ws k n lv (pc + 3) st) : gW g x ws k n lv pc (vi a :: st) := by
  obtain ⟨⟨p, l, e, R, s, m, args, below, meth, c⟩, A, H0, nL', Q⟩ := x
  intro H locs ls hP hD hS hl
  have e1 := iI_eq (a := a) (b := 0) ha (by omega)
  have e2 := iI_lt (a := a) (b := 0) ha (by omega)
  have e3 := iI_le (a := a) (b := 0) ha (by omega)
  have e4 := iI_lt (a := 0) (b := a) (by omega) ha
  have e5 := iI_le (a := 0) (b := a) (by omega) ha
  try rw [iI_0] at e1 e2 e3 e4 e5
  refine lv_if_gt C.1 C.2.1 hd ht (fun q => kt ?_ H locs ls hP hD hS hl) (fun q => kf ?_ H locs ls hP hD hS hl)
  · simp only [GT.gt, GE.ge, e1, e2, e3, e4, e5, ne_eq] at q; omega
  · simp only [GT.gt, GE.ge, e1, e2, e3, e4, e5, ne_eq] at q; omega
theorem g_icmp_le (C : gC g x own cc nL fr ce sl lo) {a b : Int} {off : Int} (tgt : Nat) (hd : decode cc pc = .ok (.if_icmp .le off, 3)) (ht : (pc : Int) + off = (tgt : Int)) (ha : -2147483648 ≤ a ∧ a < 2147483648) (hb : -2147483648 ≤ b ∧ b < 2147483648) (kt : a ≤ b → gW g x ws k n lv tgt st) (kf : ¬ (a ≤ b) → gW g x ws k n lv (pc + 3) st) : gW g x ws k n lv pc (vi b :: vi a :: st) := by
  obtain ⟨⟨p, l, e, R, s, m, args, below, meth, c⟩, A, H0, nL', Q⟩ := x
  intro H locs ls hP hD hS hl
  have e1 := iI_eq (a := a) (b := b) ha hb
  have e2 := iI_lt (a := a) (b := b) ha hb
  have e3 := iI_le (a := a) (b := b) ha hb
  have e4 := iI_lt (a := b) (b := a) hb ha
  have e5 := iI_le (a := b) (b := a) hb ha
  try rw [iI_0] at e1 e2 e3 e4 e5
  refine lv_icmp_le C.1 C.2.1 hd ht (fun q => kt ?_ H locs ls hP hD hS hl) (fun q => kf ?_ H locs ls hP hD hS hl)
  · simp only [GT.gt, GE.ge, e1, e2, e3, e4, e5, ne_eq] at q; omega
  · simp only [GT.gt, GE.ge, e1, e2, e3, e4, e5, ne_eq] at q; omega
theorem g_if_le (C : gC g x own cc nL fr ce sl lo) {a : Int} {off : Int} (tgt : Nat) (hd : decode cc pc = .ok (.ifCond .le off, 3)) (ht : (pc : Int) + off = (tgt : Int)) (ha : -2147483648 ≤ a ∧ a < 2147483648) (kt : a ≤ 0 → gW g x ws k n lv tgt st) (kf : ¬ (a ≤ 0) → gW g x ws k n lv (pc + 3) st) : gW g x ws k n lv pc (vi a :: st) := by
  obtain ⟨⟨p, l, e, R, s, m, args, below, meth, c⟩, A, H0, nL', Q⟩ := x
  intro H locs ls hP hD hS hl
  have e1 := iI_eq (a := a) (b := 0) ha (by omega)
  have e2 := iI_lt (a := a) (b := 0) ha (by omega)
  have e3 := iI_le (a := a) (b := 0) ha (by omega)
  have e4 := iI_lt (a := 0) (b := a) (by omega) ha
  have e5 := iI_le (a := 0) (b := a) (by omega) ha
  try rw [iI_0] at e1 e2 e3 e4 e5
  refine lv_if_le C.1 C.2.1 hd ht (fun q => kt ?_ H locs ls hP hD hS hl) (fun q => kf ?_ H locs ls hP hD hS hl)
  · simp only [GT.gt, GE.ge, e1, e2, e3, e4, e5, ne_eq] at q; omega
  · simp only [GT.gt, GE.ge, e1, e2, e3, e4, e5, ne_eq] at q; omega
end rows
