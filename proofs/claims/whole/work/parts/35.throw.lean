/-! throws -/
def E1 : String := "java/lang/IllegalArgumentException"
def E2 : String := "java/lang/IllegalStateException"
def E3 : String := "java/lang/IndexOutOfBoundsException"
def eN : List String := ["java/lang/RuntimeException", "java/lang/Exception"]
def wStr : List (String × Nat × String) := [("Stormbond", 86, "peril, hour or units is out of range"), ("Stormbond", 97, "there are 40 LOSSES"), ("Stormbond", 109, "there is no such LOSS"), ("Stormbond", 112, "units is out of range"), ("Stormbond", 126, "peril, first or last is out of range, or the window is too long"), ("Stormbond", 132, "there are 8 OCCURRENCES, or one has an HOUR in common"), ("Stormbond", 138, "there is no OCCURRENCE"), ("Stormbond", 144, "percent is out of range"), ("Stormbond", 150, "an argument is out of range"), ("Stormbond", 153, "there are 5 LAYERS"), ("Stormbond", 162, "there is no such LAYER or REINSURER"), ("Stormbond", 167, "PARTS would be above 100 together"), ("Stormbond", 172, "there is no such REINSURER"), ("Stormbond", 174, "both are the same, or floor or depth is out of range"), ("Stormbond", 180, "cell is out of range"), ("Stormbond", 183, "there are 6 STATIONS"), ("Stormbond", 188, "there is no such STATION"), ("Stormbond", 190, "hour, peril or strength is out of range"), ("Stormbond", 195, "there are 60 READINGS"), ("Stormbond", 200, "hour is out of range"), ("Stormbond", 205, "that was told of it before"), ("Stormbond", 216, "there are 5 BONDS, or the last HOUR has passed"), ("Stormbond", 222, "there is no such BOND"), ("Stormbond", 224, "hours is out of range"), ("Stormbond", 232, "it was extended, or is not in TRUST any more"), ("Stormbond", 237, "it would be above 2199"), ("Stormbond", 242, "there is no such MODEL"), ("Stormbond", 244, "weight or units is out of range"), ("Stormbond", 248, "it has 12 SCENARIOS"), ("Stormbond", 252, "there is no such OCCURRENCE"), ("Stormbond", 254, "what is out of range"), ("Stormbond", 263, "there is no such LAYER or OCCURRENCE"), ("Stormbond", 298, "peril is out of range"), ("Stormbond", 311, "the LOSSES are at more than 7 HOURS"), ("Stormbond", 333, "there is no such LAYER or MODEL"), ("Stormbond", 338, "the MODEL has no SCENARIOS"), ("Stormbond", 352, "there is no such LAYER")]
def wCast : List Cond := [.castable E1 E1, .castable E2 E2, .castable E3 E3, .declares ⟨"java/lang/RuntimeException", "<init>", "()V"⟩, .declares ⟨"java/lang/RuntimeException", "<init>", "(Ljava/lang/String;)V"⟩, .declares ⟨"java/lang/Exception", "<init>", "()V"⟩, .declares ⟨"java/lang/Exception", "<init>", "(Ljava/lang/String;)V"⟩, .declares ⟨"java/lang/Throwable", "<init>", "()V"⟩, .declares ⟨"java/lang/Throwable", "<init>", "(Ljava/lang/String;)V"⟩]
def wNc : List (String × String) := [(E1, E2), (E1, E3), (E2, E1), (E2, E3), (E3, E1), (E3, E2)]
/-- what a throw needs of the start -/
def gZ (A : Nat → Prop) (U : State) (H : Heap) : Prop := vx_Zq Bundle.tN "UNASSIGNED_STACK" Bundle.steD A U H ∧ vx_Zq Bundle.tN "SUPPRESSED_SENTINEL" Bundle.listD A U H ∧ (∀ w ∈ wCast, va_Nw w U) ∧ (∀ q ∈ wStr, ∃ sa : Nat, vk_R q.1 q.2.1 q.2.2 sa U) ∧ (∀ q ∈ wNc, va_Nc q.1 q.2 U)
theorem gZ.moved {A : Nat → Prop} {s U : State} {H : Heap} (hW : s.WarmedH U.vm) (h : gZ A s H) : gZ A U H := by
  obtain ⟨h1, h2, h3, h4, h5⟩ := h
  refine ⟨vx_Zq.moved hW.alike h1, vx_Zq.moved hW.alike h2, fun w hw => ?_, fun q hq => ?_, fun q hq => va_Nc.moved hW.alike (h5 q hq)⟩
  · have h9 := h3 w hw
    have e : (∃ a b, w = Cond.castable a b) ∨ ∃ a, w = Cond.declares a := by
      simp only [wCast, List.mem_cons, List.not_mem_nil, or_false] at hw
      rcases hw with rfl | rfl | rfl | rfl | rfl | rfl | rfl | rfl | rfl <;> first | exact Or.inl ⟨_, _, rfl⟩ | exact Or.inr ⟨_, rfl⟩
    rcases e with ⟨a, b, rfl⟩ | ⟨a, rfl⟩
    · have h10 : (Cond.castable a b).before #[] (s.setVm U.vm) = true := by rw [Cond.castable_setVm hW.alike]; exact h9
      exact va_tabs rfl (rfl : (s.setVm U.vm).vm = U.vm) h10
    · have h10 : (Cond.declares a).before #[] (s.setVm U.vm) = true := by rw [Cond.declares_setVm hW.alike]; exact h9
      exact va_tabs rfl (rfl : (s.setVm U.vm).vm = U.vm) h10
  · obtain ⟨sa, h9⟩ := h4 q hq
    exact ⟨sa, vk_R.warm hW h9⟩
theorem gZ.kept {A : Nat → Prop} {U : State} {H H1 : Heap} (h : gZ A U H) (hq : ∀ a : Nat, a < H.size → ¬ A a → H1[a]? = H[a]?) : gZ A U H1 := ⟨h.1.kept hq, h.2.1.kept hq, h.2.2⟩
theorem gZ.narrow {A B : Nat → Prop} {U : State} {H : Heap} (h : gZ A U H) (hAB : ∀ q, B q → A q) : gZ B U H := ⟨h.1.narrow hAB, h.2.1.narrow hAB, h.2.2⟩
/-- where a method has thrown: the class, and the world behind it -/
def gXC (g : gD) (ws0 : va_W) (PX : String → va_W → Prop) (A : Nat → Prop) : String → State → State → Prop := fun E st t => (∃ w1, PX E w1 ∧ w1.map Prod.fst = ws0.map Prod.fst ∧ va_P g.1 vwCl w1 t.heap ∧ va_D A w1) ∧ va_F A st t
def gMetX (l : Launch) (g : gD) (y : MethodName) (cc : ByteArray) (maxL : Nat) (ret : Option FieldType) (fr mc ms lo : Nat) (args : List Value) (ws : va_W) (Post : Option Value → va_W → Prop) (PX : String → va_W → Prop) : Prop :=
  ∀ sz : Nat, vx_Met l y (.code y cc maxL ret :: wAll) { frames := fr, cells := mc, slots := ms, locals := lo } (va_Pc args (fun U => gE g U ∧ gZ (va_A ws sz) U U.heap ∧ U.heap.size = sz ∧ va_P g.1 vwCl ws U.heap ∧ va_D (fun _ => True) ws)) (gQ g ws Post (va_A ws sz)) (gXC g ws PX (va_A ws sz)) mc ms (va_A ws sz)
/-- a body that may throw: its end, its start's words -/
def gRX (g : gD) (x : gX) (ret : Option FieldType) (mc ms : Nat) (ws0 : va_W) (Post : Option Value → va_W → Prop) (PX : String → va_W → Prop) : Prop := match x with
  | ((p, l, e, R, s, m, args, below, meth, c), (A, H0, nL, Q)) => Q = vx_MQ below (gQ g ws0 Post A) (gXC g ws0 PX A) args s mc ms A ∧ H0 = s.heap ∧ meth.sig.returnType = ret ∧ meth.locks = false ∧ gZ A s s.heap ∧ (∀ z ∈ c.exceptionTable.toList, False) ∧ l.stackTraces = false
theorem gMetX.of {l : Launch} {g : gD} {y : MethodName} {cc : ByteArray} {maxL : Nat} {ret : Option FieldType} {fr mc ms lo : Nat} {args : List Value} {ws : va_W} {Post : Option Value → va_W → Prop} {PX : String → va_W → Prop} (hy : plainName y.cls = true) (hlen : (lg_sl args).length ≤ maxL) (hst : l.stackTraces = false)
    (body : ∀ x : gX, x.1.2.1 = l → gC g x y.cls cc maxL fr mc ms lo → gRX g x ret mc ms ws Post PX → gW g x ws 0 0 (lv_args 0 args) 0 []) : gMetX l g y cc maxL ret fr mc ms lo args ws Post PX := by
  intro sz
  refine vx_ofW (cc := cc) (maxL := maxL) (ret := ret) hy rfl ?_
  intro p e s m args' below meth c s₁ B hml hout hv
  obtain ⟨rfl, hE, hZ, hsz, hP, hD⟩ := hv
  subst hsz
  have hts := atoms_spec (ws := Cond.code y cc maxL ret :: wAll) B.pre
  have hown : s.vm.findClass y.cls = some m.cls := findClass_of_methodNamed B.named
  have hl := lv_entry args (n := maxL) hlen
  rw [lg_entry_eq]
  exact body ((p, l, e, _, s, m, args.toArray, below, meth, c), (va_A ws s.heap.size, s.heap, maxL, _)) rfl
    ⟨B.exec, B.bytes, hml, rfl, hown, fun w h => hts w (List.mem_cons_of_mem _ h), hE, fun q h => Or.inr h, rfl⟩
    ⟨rfl, rfl, B.returns, B.notSynchronized, hZ, hout, hst⟩ s.heap [] _ hP hD.self va_S.rf hl
def gThr (own cls : String) (ic : Nat) : Prop := (∀ w ∈ vx_atS own ic cls eN, w ∈ wAll ∨ w ∈ wCast) ∧ Bundle.fit cls = true ∧ (∀ n ∈ eN, Bundle.fit n = true)
section rows
variable {g : gD} {x : gX} {own : String} {cc : ByteArray} {nL fr ce sl lo : Nat} {ws : va_W} {k n : Nat} {lv : List (Nat × Value)} {pc : Nat} {st : List Value}
theorem g_outX (C : gC g x own cc nL fr ce sl lo) {ret : Option FieldType} {mc ms : Nat} {ws0 : va_W} {Post : Option Value → va_W → Prop} {PX : String → va_W → Prop} (hR : gRX g x ret mc ms ws0 Post PX) (kk : ∀ x' : gX, gC g x' own cc nL fr ce sl lo → gR g x' ret mc ms ws0 Post → gW g x' ws k n lv pc st) : gW g x ws k n lv pc st := by
  obtain ⟨⟨p, l, e, R, s, m, args, below, meth, c⟩, A, H0, nL', Q⟩ := x
  obtain ⟨h1, h2, h3, h4, h5, h6, h7⟩ := hR
  intro H locs ls hP hD hS hl
  subst h1
  exact vx_ret (kk ((p, l, e, R, s, m, args, below, meth, c), (A, H0, nL', MQ below (gQ g ws0 Post A) args s mc ms A)) C ⟨rfl, h2, h3, h4⟩ H locs ls hP hD hS hl)
theorem g_throw (C : gC g x own cc nL fr ce sl lo) {ret : Option FieldType} {mc ms : Nat} {ws0 : va_W} {Post : Option Value → va_W → Prop} {PX : String → va_W → Prop} (hR : gRX g x ret mc ms ws0 Post PX) {cls text : String} {ik is ic : Nat} (hT : gThr own cls ic) (hk : Cond.classLink own ik cls ∈ wAll) (hini : Cond.initialized cls ∈ wAll) (hstr : (own, is, text) ∈ wStr)
    (d0 : decode cc pc = .ok (.new ik, 3)) (d3 : decode cc (pc + 3) = .ok (.dup, 1)) (d4 : decode cc (pc + 4) = .ok (.ldc is, 2)) (d6 : decode cc (pc + 6) = .ok (.invokespecial ic, 3)) (d9 : decode cc (pc + 9) = .ok (.athrow, 1)) (hroom : 5 < fr ∧ (st.map fun v => v.category).sum + 82 ≤ lo ∧ k + 1 ≤ ce ∧ n + 6 ≤ sl ∧ k + 1 ≤ mc ∧ n + 6 ≤ ms)
    (hp : PX cls ws) (ha : ws.map Prod.fst = ws0.map Prod.fst) : gW g x ws k n lv pc st := by
  obtain ⟨⟨p, l, e, R, s, m, args, below, meth, c⟩, A, H0, nL', Q⟩ := x
  obtain ⟨h1, h2, h3, h4, h5, h6, h7⟩ := hR
  obtain ⟨c1, c2, c3, c4, c5, c6, c7, c8, c9⟩ := C
  intro H locs ls hP hD hS hl
  subst h1; subst h2; subst c9
  obtain ⟨z1, z2, z3, z4, z5⟩ := h5
  obtain ⟨sa, hsa⟩ := z4 _ hstr
  have hin : ∀ w ∈ vx_atS own ic cls eN, w.before args s = true := fun w hw => by
    rcases hT.1 w hw with q | q
    · exact c6 w q
    · have e : w.onTables = true := by
        simp only [wCast, List.mem_cons, List.not_mem_nil, or_false] at q
        rcases q with rfl | rfl | rfl | rfl | rfl | rfl | rfl | rfl | rfl <;> rfl
      exact va_Nw.use e (z3 _ q)
  have hgood : ∀ w ∈ Cond.classLink own ik cls :: Cond.initialized cls :: vx_atS own ic cls eN, vx_ot w = true := fun w hw => by
    have q : ∀ w, w ∈ wAll → vx_ot w = true := fun w h => by unfold vx_ot; rw [wAll_good w h]; exact Bool.or_true _
    rcases List.mem_cons.mp hw with rfl | hw
    · exact q _ hk
    · rcases List.mem_cons.mp hw with rfl | hw
      · exact q _ hini
      · rcases hT.1 w hw with r | r
        · exact q w r
        · simp only [wCast, List.mem_cons, List.not_mem_nil, or_false] at r
          rcases r with rfl | rfl | rfl | rfl | rfl | rfl | rfl | rfl | rfl <;> rfl
  exact vx_throwS c1 c2 h7 c5 hT.2.1 hT.2.2 (c6 _ hk) (c6 _ hini) hsa hin hgood z1 z2 hS (by rw [hl.1, c3]) d0 d3 d4 d6 d9 (fun z hz => (h6 z hz).elim) hroom.1 hroom.2.1 hroom.2.2.1 hroom.2.2.2.1 h4
    (fun t hal hsz hkp => ⟨⟨ws, hp, ha, hP.kept (fun j q hq => hkp q.1 (hP j q hq).lt), hD⟩, Nat.le_trans hS.1 hsz, fun q q1 q2 => (hkp q (Nat.lt_of_lt_of_le q1 hS.1)).trans (hS.2.1 q q1 q2)⟩) hS.2.2 hroom.2.2.2.2.1 hroom.2.2.2.2.2
theorem g_throwW (C : gC g x own cc nL fr ce sl lo) {ret : Option FieldType} {mc ms : Nat} {ws0 : va_W} {Post : Option Value → va_W → Prop} {PX : String → va_W → Prop} (hR : gRX g x ret mc ms ws0 Post PX) {cls text : String} {ik is ic : Nat} (hT : gThr own cls ic) (hk : Cond.classLink own ik cls ∈ wAll) (hini : Cond.initialized cls ∈ wAll) (hstr : (own, is, text) ∈ wStr)
    (d0 : decode cc pc = .ok (.new ik, 3)) (d3 : decode cc (pc + 3) = .ok (.dup, 1)) (d4 : decode cc (pc + 4) = .ok (.ldc_w is, 3)) (d7 : decode cc (pc + 7) = .ok (.invokespecial ic, 3)) (d10 : decode cc (pc + 10) = .ok (.athrow, 1)) (hroom : 5 < fr ∧ (st.map fun v => v.category).sum + 82 ≤ lo ∧ k + 1 ≤ ce ∧ n + 6 ≤ sl ∧ k + 1 ≤ mc ∧ n + 6 ≤ ms)
    (hp : PX cls ws) (ha : ws.map Prod.fst = ws0.map Prod.fst) : gW g x ws k n lv pc st := by
  obtain ⟨⟨p, l, e, R, s, m, args, below, meth, c⟩, A, H0, nL', Q⟩ := x
  obtain ⟨h1, h2, h3, h4, h5, h6, h7⟩ := hR
  obtain ⟨c1, c2, c3, c4, c5, c6, c7, c8, c9⟩ := C
  intro H locs ls hP hD hS hl
  subst h1; subst h2; subst c9
  obtain ⟨z1, z2, z3, z4, z5⟩ := h5
  obtain ⟨sa, hsa⟩ := z4 _ hstr
  have hin : ∀ w ∈ vx_atS own ic cls eN, w.before args s = true := fun w hw => by
    rcases hT.1 w hw with q | q
    · exact c6 w q
    · have e : w.onTables = true := by
        simp only [wCast, List.mem_cons, List.not_mem_nil, or_false] at q
        rcases q with rfl | rfl | rfl | rfl | rfl | rfl | rfl | rfl | rfl <;> rfl
      exact va_Nw.use e (z3 _ q)
  have hgood : ∀ w ∈ Cond.classLink own ik cls :: Cond.initialized cls :: vx_atS own ic cls eN, vx_ot w = true := fun w hw => by
    have q : ∀ w, w ∈ wAll → vx_ot w = true := fun w h => by unfold vx_ot; rw [wAll_good w h]; exact Bool.or_true _
    rcases List.mem_cons.mp hw with rfl | hw
    · exact q _ hk
    · rcases List.mem_cons.mp hw with rfl | hw
      · exact q _ hini
      · rcases hT.1 w hw with r | r
        · exact q w r
        · simp only [wCast, List.mem_cons, List.not_mem_nil, or_false] at r
          rcases r with rfl | rfl | rfl | rfl | rfl | rfl | rfl | rfl | rfl <;> rfl
  exact vx_throwSW c1 c2 h7 c5 hT.2.1 hT.2.2 (c6 _ hk) (c6 _ hini) hsa hin hgood z1 z2 hS (by rw [hl.1, c3]) d0 d3 d4 d7 d10 (fun z hz => (h6 z hz).elim) hroom.1 hroom.2.1 hroom.2.2.1 hroom.2.2.2.1 h4
    (fun t hal hsz hkp => ⟨⟨ws, hp, ha, hP.kept (fun j q hq => hkp q.1 (hP j q hq).lt), hD⟩, Nat.le_trans hS.1 hsz, fun q q1 q2 => (hkp q (Nat.lt_of_lt_of_le q1 hS.1)).trans (hS.2.1 q q1 q2)⟩) hS.2.2 hroom.2.2.2.2.1 hroom.2.2.2.2.2
end rows
theorem t_84 : gThr RX9 E1 88 := ⟨fun w hw => by
  have h1 : ∀ w ∈ (vx_atS RX9 88 E1 eN).filter goodWord, w ∈ lw_tbl := (by decide +kernel)
  have h2 : ∀ w ∈ (vx_atS RX9 88 E1 eN).filter (fun w => !goodWord w), w ∈ wCast := (by decide +kernel)
  by_cases q : goodWord w = true
  · exact Or.inl (List.mem_filter.mpr ⟨h1 w (List.mem_filter.mpr ⟨hw, q⟩), q⟩)
  · exact Or.inr (h2 w (List.mem_filter.mpr ⟨hw, by cases h : goodWord w; rfl; exact absurd h q⟩)), (by decide +kernel), (by decide +kernel)⟩
theorem t_84k : Cond.classLink RX9 84 E1 ∈ wAll := wAll_in 562 (by decide +kernel) (by decide +kernel)
theorem t_84i : Cond.initialized E1 ∈ wAll := wAll_in 66 (by decide +kernel) (by decide +kernel)
theorem t_95 : gThr RX9 E2 99 := ⟨fun w hw => by
  have h1 : ∀ w ∈ (vx_atS RX9 99 E2 eN).filter goodWord, w ∈ lw_tbl := (by decide +kernel)
  have h2 : ∀ w ∈ (vx_atS RX9 99 E2 eN).filter (fun w => !goodWord w), w ∈ wCast := (by decide +kernel)
  by_cases q : goodWord w = true
  · exact Or.inl (List.mem_filter.mpr ⟨h1 w (List.mem_filter.mpr ⟨hw, q⟩), q⟩)
  · exact Or.inr (h2 w (List.mem_filter.mpr ⟨hw, by cases h : goodWord w; rfl; exact absurd h q⟩)), (by decide +kernel), (by decide +kernel)⟩
theorem t_95k : Cond.classLink RX9 95 E2 ∈ wAll := wAll_in 634 (by decide +kernel) (by decide +kernel)
theorem t_95i : Cond.initialized E2 ∈ wAll := wAll_in 67 (by decide +kernel) (by decide +kernel)
theorem t_107 : gThr RX9 E3 111 := ⟨fun w hw => by
  have h1 : ∀ w ∈ (vx_atS RX9 111 E3 eN).filter goodWord, w ∈ lw_tbl := (by decide +kernel)
  have h2 : ∀ w ∈ (vx_atS RX9 111 E3 eN).filter (fun w => !goodWord w), w ∈ wCast := (by decide +kernel)
  by_cases q : goodWord w = true
  · exact Or.inl (List.mem_filter.mpr ⟨h1 w (List.mem_filter.mpr ⟨hw, q⟩), q⟩)
  · exact Or.inr (h2 w (List.mem_filter.mpr ⟨hw, by cases h : goodWord w; rfl; exact absurd h q⟩)), (by decide +kernel), (by decide +kernel)⟩
theorem t_107k : Cond.classLink RX9 107 E3 ∈ wAll := wAll_in 666 (by decide +kernel) (by decide +kernel)
theorem t_107i : Cond.initialized E3 ∈ wAll := wAll_in 68 (by decide +kernel) (by decide +kernel)
