/-! a method with handlers that never throws -/
def gMetZ (l : Launch) (g : gD) (y : MethodName) (cc : ByteArray) (maxL : Nat) (ret : Option FieldType) (hh : List (Nat × Nat × Nat × Nat)) (fr mc ms lo : Nat) (args : List Value) (ws : va_W) (Post : Option Value → va_W → Prop) : Prop :=
  ∀ sz : Nat, Met l y (.codeWith y cc maxL ret hh :: wAll) { frames := fr, cells := mc, slots := ms, locals := lo } (va_Pc args (fun U => gE g U ∧ gZ (va_A ws sz) U U.heap ∧ U.heap.size = sz ∧ va_P g.1 vwCl ws U.heap ∧ va_D (fun _ => True) ws)) (gQ g ws Post (va_A ws sz)) mc ms (va_A ws sz)
theorem gMetZ.of {l : Launch} {g : gD} {y : MethodName} {cc : ByteArray} {maxL : Nat} {ret : Option FieldType} {hh : List (Nat × Nat × Nat × Nat)} {fr mc ms lo : Nat} {args : List Value} {ws : va_W} {Post : Option Value → va_W → Prop} (hy : plainName y.cls = true) (hlen : (lg_sl args).length ≤ maxL)
    (body : ∀ x : gX, x.1.2.1 = l → gC g x y.cls cc maxL fr mc ms lo → gR g x ret mc ms ws Post → gZx x → gTab x (tableOf hh) → gW g x ws 0 0 (lv_args 0 args) 0 []) : gMetZ l g y cc maxL ret hh fr mc ms lo args ws Post := by
  intro sz
  refine MetFree.of_bodyS (code := cc) (maxLocals := maxL) (ret := ret) hy ?_ ?_
  · intro args s m h hn
    obtain ⟨m9, meth, c, h0, h1, h2, h3, h4, -, h5, h6, -⟩ := Cond.codeWith_spec (atoms_spec (ws := Cond.codeWith y cc maxL ret hh :: wAll) h _ List.mem_cons_self)
    cases Option.some.inj (h0.symm.trans hn)
    exact ⟨meth, c, h1, h2, h3, h4, h5, h6⟩
  · intro p e s m args' below meth c s₁ B hml hv _
    obtain ⟨rfl, hE, hZ, hsz, hP, hD⟩ := hv
    subst hsz
    have hh0 : s₁.heap = s.heap := by rw [B.state]; rfl
    have hts := atoms_spec (ws := Cond.codeWith y cc maxL ret hh :: wAll) B.pre
    have hown : s.vm.findClass y.cls = some m.cls := findClass_of_methodNamed B.named
    have hl := lv_entry args (n := maxL) hlen
    have ht := vx_table (x := y) B (hts _ List.mem_cons_self)
    obtain ⟨t, a1, o, b1, b2, b3⟩ := body ((p, l, e, _, s, m, args.toArray, below, meth, c), (va_A ws s.heap.size, s.heap, maxL, _)) rfl
      ⟨B.exec, B.bytes, hml, rfl, hown, fun w h => hts w (List.mem_cons_of_mem _ h), hE, fun q h => Or.inr h, rfl⟩
      ⟨rfl, rfl, B.returns, B.notSynchronized⟩ hZ ht s.heap [] _ hP hD.self va_S.rf hl s₁ hh0 (Stand.of_body B)
    rw [← lg_entry_eq] at a1
    exact ⟨t, o, a1, b1, b2, b3⟩
