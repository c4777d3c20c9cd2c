/-! contracts over a wider world -/
theorem f_sub {g : gD} {ws wc : va_W} {H : Heap} {isC : List Nat} (hP : va_P g.1 vwCl ws H) (hC : isC.map (fun i => ws[i]?) = wc.map some) : va_P g.1 vwCl wc H := fun j q hq => by
  have h0 : (isC.map (fun i => ws[i]?))[j]? = some (some q) := by rw [hC, List.getElem?_map, hq]; rfl
  rw [List.getElem?_map] at h0
  cases hi : isC[j]? with
  | none => rw [hi] at h0; cases h0
  | some i => rw [hi] at h0; exact hP i q (Option.some.inj h0)
theorem f_free {ws wc : va_W} {isC : List Nat} (hC : isC.map (fun i => ws[i]?) = wc.map some) (hD : va_D (fun _ => True) ws) (H : Heap) : ∀ q, va_A wc H.size q → va_A ws H.size q :=
  va_free (A0 := va_A ws H.size) (H0 := H) (H := H) (locs := []) hD.self va_S.rf (fun _ h => Or.inr h) isC hC
theorem gQ_wide {g : gD} {ws wc : va_W} {isC : List Nat} (hC : isC.map (fun i => ws[i]?) = wc.map some) {st : State} (hP : va_P g.1 vwCl ws st.heap) (hD : va_D (fun _ => True) ws) {Post Post' : Option Value → va_W → Prop} (hp : ∀ v w1, Post v w1 → Post' v (putAll ws isC w1) ∧ (putAll ws isC w1).map Prod.fst = ws.map Prod.fst) {a : Array Value} {oc : Outcome} {t : State} (h : gQ g wc Post (va_A wc st.heap.size) a st oc t) : gQ g ws Post' (va_A ws st.heap.size) a st oc t := by
  obtain ⟨⟨v, w1, hv, hpo, ha, hP1, hD1⟩, hz, hk⟩ := h
  have hF := f_free hC hD st.heap
  have J := g_join (A0 := va_A ws st.heap.size) (H1 := t.heap) hP hD.self isC hC hk hF hP1 hD1 ha
  obtain ⟨h1, h2⟩ := hp v w1 hpo
  exact ⟨⟨v, _, hv, h1, by rw [h2]; simp, J.1, J.2⟩, hz, fun q q1 q2 => hk q q1 (fun z => q2 (hF q z))⟩
theorem gXC_wide {g : gD} {ws wc : va_W} {isC : List Nat} (hC : isC.map (fun i => ws[i]?) = wc.map some) {st : State} (hP : va_P g.1 vwCl ws st.heap) (hD : va_D (fun _ => True) ws) {PX PX' : String → va_W → Prop} (hp : ∀ E w1, PX E w1 → PX' E (putAll ws isC w1) ∧ (putAll ws isC w1).map Prod.fst = ws.map Prod.fst) {E : String} {t : State} (h : gXC g wc PX (va_A wc st.heap.size) E st t) : gXC g ws PX' (va_A ws st.heap.size) E st t := by
  obtain ⟨⟨w1, hpo, ha, hP1, hD1⟩, hz, hk⟩ := h
  have hF := f_free hC hD st.heap
  have J := g_join (A0 := va_A ws st.heap.size) (H1 := t.heap) hP hD.self isC hC hk hF hP1 hD1 (by rw [ha]; simp)
  obtain ⟨h1, h2⟩ := hp E w1 hpo
  exact ⟨⟨_, h1, h2, J.1, J.2⟩, hz, fun q q1 q2 => hk q q1 (fun z => q2 (hF q z))⟩
theorem gMet.frame {l : Launch} {g : gD} {y : MethodName} {cc : ByteArray} {maxL : Nat} {ret : Option FieldType} {fr mc ms lo : Nat} {args : List Value} {wc : va_W} (ws : va_W) {Post Post' : Option Value → va_W → Prop} (hM : gMet l g y cc maxL ret fr mc ms lo args wc Post) (isC : List Nat) (hC : isC.map (fun i => ws[i]?) = wc.map some) (hnd : va_nd isC = true)
    (hp : ∀ v w1, Post v w1 → Post' v (putAll ws isC w1) ∧ (putAll ws isC w1).map Prod.fst = ws.map Prod.fst) : gMet l g y cc maxL ret fr mc ms lo args ws Post' := by
  intro sz p e ha hc hk s m as below hf happ hP hK
  obtain ⟨rfl, hE, hsz, hPw, hD⟩ := hP
  subst hsz
  have hM' := hM s.heap.size
  unfold Met MetFree at hM'
  obtain ⟨n, o, h1, h2, h3, h4, L, h5, h6⟩ := hM' p e ha hc hk s m _ below hf happ ⟨rfl, hE, rfl, f_sub hPw hC, hD.sub isC hnd hC⟩ hK
  exact ⟨n, o, h1, h2, h3, gQ_wide hC hPw hD hp h4, L, h5, fun q hq => f_free hC hD s.heap _ (h6 q hq)⟩
theorem gMetX.frame {l : Launch} {g : gD} {y : MethodName} {cc : ByteArray} {maxL : Nat} {ret : Option FieldType} {fr mc ms lo : Nat} {args : List Value} {wc : va_W} (ws : va_W) {Post Post' : Option Value → va_W → Prop} {PX PX' : String → va_W → Prop} (hM : gMetX l g y cc maxL ret fr mc ms lo args wc Post PX) (isC : List Nat) (hC : isC.map (fun i => ws[i]?) = wc.map some) (hnd : va_nd isC = true)
    (hp : ∀ v w1, Post v w1 → Post' v (putAll ws isC w1) ∧ (putAll ws isC w1).map Prod.fst = ws.map Prod.fst) (hx : ∀ E w1, PX E w1 → PX' E (putAll ws isC w1) ∧ (putAll ws isC w1).map Prod.fst = ws.map Prod.fst) : gMetX l g y cc maxL ret fr mc ms lo args ws Post' PX' := by
  intro sz p e ha hc hk s m as below hf happ hP hK
  obtain ⟨rfl, hE, hZ, hsz, hPw, hD⟩ := hP
  subst hsz
  have hF := f_free hC hD s.heap
  have hM' := hM s.heap.size
  unfold vx_Met MetFree at hM'
  obtain ⟨n, o, h1, h2, h3, h4⟩ := hM' p e ha hc hk s m _ below hf happ ⟨rfl, hE, hZ.narrow hF, rfl, f_sub hPw hC, hD.sub isC hnd hC⟩ hK
  refine ⟨n, o, h1, h2, h3, ?_⟩
  rcases h4 with ⟨h4, L, h5, h6⟩ | ⟨q, h4, E, ce, L, h5, h6, h7, h8, h9, h10, h11⟩
  · exact Or.inl ⟨gQ_wide hC hPw hD hp h4, L, h5, fun q hq => hF _ (h6 q hq)⟩
  · exact Or.inr ⟨q, h4, E, ce, L, gXC_wide hC hPw hD hx h5, h6, h7, h8, h9, h10, fun z hz => hF _ (h11 z hz)⟩
theorem gMetZ.frame {l : Launch} {g : gD} {y : MethodName} {cc : ByteArray} {maxL : Nat} {ret : Option FieldType} {hh : List (Nat × Nat × Nat × Nat)} {fr mc ms lo : Nat} {args : List Value} {wc : va_W} (ws : va_W) {Post Post' : Option Value → va_W → Prop} (hM : gMetZ l g y cc maxL ret hh fr mc ms lo args wc Post) (isC : List Nat) (hC : isC.map (fun i => ws[i]?) = wc.map some) (hnd : va_nd isC = true)
    (hp : ∀ v w1, Post v w1 → Post' v (putAll ws isC w1) ∧ (putAll ws isC w1).map Prod.fst = ws.map Prod.fst) : gMetZ l g y cc maxL ret hh fr mc ms lo args ws Post' := by
  intro sz p e ha hc hk s m as below hf happ hP hK
  obtain ⟨rfl, hE, hZ, hsz, hPw, hD⟩ := hP
  subst hsz
  have hF := f_free hC hD s.heap
  have hM' := hM s.heap.size
  unfold Met MetFree at hM'
  obtain ⟨n, o, h1, h2, h3, h4, L, h5, h6⟩ := hM' p e ha hc hk s m _ below hf happ ⟨rfl, hE, hZ.narrow hF, rfl, f_sub hPw hC, hD.sub isC hnd hC⟩ hK
  exact ⟨n, o, h1, h2, h3, gQ_wide hC hPw hD hp h4, L, h5, fun q hq => hF _ (h6 q hq)⟩
/-- a method without handlers whose callees may throw and catch -/
def gMetQ (l : Launch) (g : gD) (y : MethodName) (cc : ByteArray) (maxL : Nat) (ret : Option FieldType) (fr mc ms lo : Nat) (args : List Value) (ws : va_W) (Post : Option Value → va_W → Prop) : Prop :=
  ∀ sz : Nat, Met l y (.code y cc maxL ret :: wAll) { frames := fr, cells := mc, slots := ms, locals := lo } (va_Pc args (fun U => gE g U ∧ gZ (va_A ws sz) U U.heap ∧ U.heap.size = sz ∧ va_P g.1 vwCl ws U.heap ∧ va_D (fun _ => True) ws)) (gQ g ws Post (va_A ws sz)) mc ms (va_A ws sz)
theorem gMetQ.of {l : Launch} {g : gD} {y : MethodName} {cc : ByteArray} {maxL : Nat} {ret : Option FieldType} {fr mc ms lo : Nat} {args : List Value} {ws : va_W} {Post : Option Value → va_W → Prop} (hy : plainName y.cls = true) (hlen : (lg_sl args).length ≤ maxL)
    (body : ∀ x : gX, x.1.2.1 = l → gC g x y.cls cc maxL fr mc ms lo → gR g x ret mc ms ws Post → gZx x → gW g x ws 0 0 (lv_args 0 args) 0 []) : gMetQ l g y cc maxL ret fr mc ms lo args ws Post := by
  intro sz
  refine Met.ofW (cc := cc) (maxL := maxL) (ret := ret) hy rfl ?_
  intro p e s m args' below meth c s₁ B hml hv
  obtain ⟨rfl, hE, hZ, hsz, hP, hD⟩ := hv
  subst hsz
  have hts := atoms_spec (ws := Cond.code y cc maxL ret :: wAll) B.pre
  have hown : s.vm.findClass y.cls = some m.cls := findClass_of_methodNamed B.named
  have hl := lv_entry args (n := maxL) hlen
  rw [lg_entry_eq]
  exact body ((p, l, e, _, s, m, args.toArray, below, meth, c), (va_A ws s.heap.size, s.heap, maxL, _)) rfl
    ⟨B.exec, B.bytes, hml, rfl, hown, fun w h => hts w (List.mem_cons_of_mem _ h), hE, fun q h => Or.inr h, rfl⟩
    ⟨rfl, rfl, B.returns, B.notSynchronized⟩ hZ s.heap [] _ hP hD.self va_S.rf hl
theorem gMetQ.frame {l : Launch} {g : gD} {y : MethodName} {cc : ByteArray} {maxL : Nat} {ret : Option FieldType} {fr mc ms lo : Nat} {args : List Value} {wc : va_W} (ws : va_W) {Post Post' : Option Value → va_W → Prop} (hM : gMetQ l g y cc maxL ret fr mc ms lo args wc Post) (isC : List Nat) (hC : isC.map (fun i => ws[i]?) = wc.map some) (hnd : va_nd isC = true)
    (hp : ∀ v w1, Post v w1 → Post' v (putAll ws isC w1) ∧ (putAll ws isC w1).map Prod.fst = ws.map Prod.fst) : gMetQ l g y cc maxL ret fr mc ms lo args ws Post' := by
  intro sz p e ha hc hk s m as below hf happ hP hK
  obtain ⟨rfl, hE, hZ, hsz, hPw, hD⟩ := hP
  subst hsz
  have hF := f_free hC hD s.heap
  have hM' := hM s.heap.size
  unfold Met MetFree at hM'
  obtain ⟨n, o, h1, h2, h3, h4, L, h5, h6⟩ := hM' p e ha hc hk s m _ below hf happ ⟨rfl, hE, hZ.narrow hF, rfl, f_sub hPw hC, hD.sub isC hnd hC⟩ hK
  exact ⟨n, o, h1, h2, h3, gQ_wide hC hPw hD hp h4, L, h5, fun q hq => hF _ (h6 q hq)⟩
section rows
variable {g : gD} {x : gX} {own : String} {cc : ByteArray} {nL fr ce sl lo : Nat} {ws wc : va_W} {k n : Nat} {lv : List (Nat × Value)} {pc : Nat} {st : List Value}
theorem g_callSQ (C : gC g x own cc nL fr ce sl lo) (hZ : gZx x) {y : MethodName} {cy : ByteArray} {mL n' fr' mc ms lo' ix : Nat} {ret : Option FieldType} {Post : Option Value → va_W → Prop} (As rest : List Value) (hM : gMetQ x.1.2.1 g y cy mL ret fr' mc ms lo' As wc Post) (hY : gYs y cy mL ret n') (hl : Cond.methodLink own ix y ∈ wAll) (isC : List Nat) (hC : isC.map (fun i => ws[i]?) = wc.map some) (hnd : va_nd isC = true) (hst : st = As.reverse ++ rest) (hcat : (rest.map fun v => v.category).sum ≤ 8) (hn : As.length = n') (hroom : fr' + 1 ≤ fr ∧ 8 + (mL + 11) + lo' ≤ lo ∧ k + mc ≤ ce ∧ n + ms ≤ sl) (hd : decode cc pc = .ok (.invokestatic ix, 3))
    (kk : ∀ (v : Option Value) (w1 : va_W), Post v w1 → gW g x (putAll ws isC w1) (k + mc) (n + ms) lv (pc + 3) (v.toList ++ rest)) : gW g x ws k n lv pc st := by
  obtain ⟨⟨p, l, e, R, s, m, args, below, meth, c⟩, A, H0, nL', Q⟩ := x
  intro H locs ls hP hD hS hlv
  obtain ⟨h1, h2, h3, h4, h5, h6, h7, h8, h9⟩ := C
  subst h9; subst hst
  have hDc := hD.sub isC hnd hC
  have hF := va_free hD hS h8 isC hC
  have hPc := f_sub hP hC
  have hZH : gZ A s H := gZ.kept hZ (fun q h1 h2 => hS.2.1 q h1 h2)
  refine g_after (va_runS (As := As) (rest := rest) ⟨h1, h2, h3, h5, h6⟩ (hM H.size) (va_cwS n' h6 (g_goodS hl hY) rfl rfl rfl ⟨hY.2.2.2.2.1, hY.2.2.2.2.2.1, hY.2.2.2.2.2.2⟩ ⟨hroom.1, hroom.2.1⟩)
    ⟨?_, fun U hU hW => ⟨rfl, gE.moved hW h7, by rw [hU]; exact (gZ.moved hW hZH).narrow hF, by rw [hU], by rw [hU]; exact hPc, hDc.weaken (fun _ _ _ _ => trivial)⟩⟩ rfl hn hlv.1 rfl (lv_room hcat) hd ⟨hroom.2.2.1, hroom.2.2.2⟩) hP hD hS h8 hlv isC hC kk
  exact fun _ U _ _ q => ⟨q.1, gE.moved (State.WarmedH.refl U) q.2.1, gZ.moved (State.WarmedH.refl U) q.2.2.1, q.2.2.2⟩
end rows
