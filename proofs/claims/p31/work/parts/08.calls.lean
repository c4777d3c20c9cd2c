/-! calls -/
theorem g_blind {g : gD} {args : List Value} {ws : va_W} {sz : Nat} : FrameBlind (va_Pc args (fun U => gE g U ∧ U.heap.size = sz ∧ va_P g.1 vwCl ws U.heap ∧ va_D (fun _ => True) ws)) :=
  fun _ U _ _ q => ⟨q.1, gE.moved (State.WarmedH.refl U) q.2.1, q.2.2⟩
theorem g_good {own : String} {ix : Nat} {y : MethodName} {cc : ByteArray} {mL : Nat} {ret : Option FieldType} {n : Nat} (hl : Cond.methodLink own ix y ∈ wAll) (hY : gYv y cc mL ret n) : GoodIn wAll (wsV own ix y.cls y (.code y cc mL ret :: wAll)) := by
  obtain ⟨h1, h2, h3, h4, -⟩ := hY
  intro w hw
  have hm : w ∈ wAll := by
    simp only [wsV, List.mem_append, List.mem_cons, List.not_mem_nil, or_false] at hw
    rcases hw with (rfl | rfl | rfl | rfl) | rfl | hw <;> assumption
  exact ⟨hm, good_of_word (wAll_good w hm)⟩
theorem g_goodS {own : String} {ix : Nat} {y : MethodName} {cc : ByteArray} {mL : Nat} {ret : Option FieldType} {n : Nat} (hl : Cond.methodLink own ix y ∈ wAll) (hY : gYs y cc mL ret n) : GoodIn wAll (va_wsS own ix y (.code y cc mL ret :: wAll)) := by
  obtain ⟨h1, h2, h3, -⟩ := hY
  intro w hw
  have hm : w ∈ wAll := by
    simp only [va_wsS, List.mem_append, List.mem_cons, List.not_mem_nil, or_false] at hw
    rcases hw with (rfl | rfl | rfl) | rfl | hw <;> assumption
  exact ⟨hm, good_of_word (wAll_good w hm)⟩
theorem g_goodC {y : MethodName} {cc : ByteArray} {mL : Nat} {ret : Option FieldType} (h3 : Cond.code y cc mL ret ∈ wAll) : GoodIn wAll (.code y cc mL ret :: wAll) := by
  intro w hw
  have hm : w ∈ wAll := by
    rcases List.mem_cons.mp hw with rfl | hw <;> assumption
  exact ⟨hm, good_of_word (wAll_good w hm)⟩
section rows
variable {p : Program} {l : Launch} {e : Env} {R : Room} {s : State} {m : MethodId} {args : Array Value} {below : List Frame} {meth : Method} {c : Code} {H : Heap} {locs : List Loc} {k n : Nat} {Q : State → Prop} {g : gD} {A : Nat → Prop} {H0 : Heap} {nL pc mc ms : Nat} {ls : Array Slot} {st0 rest : List Value} {ws wc : va_W} {lv : List (Nat × Value)} {a : Array Value}
theorem g_after {Post : Option Value → va_W → Prop} (hr : va_Run p l e R s m args below meth c H locs k n mc ms (F0 m pc ls st0) rest (gQ g wc Post (va_A wc H.size) a) (va_A wc H.size)) (hP : va_P g.1 vwCl ws H) (hD : va_D A ws) (hS : va_S A H0 H locs) (hA : ∀ q, H0.size ≤ q → A q) (hl : lv_has ls nL lv) (isC : List Nat) (hC : isC.map (fun i => ws[i]?) = wc.map some)
    (kk : ∀ (v : Option Value) (w1 : va_W), Post v w1 → gW g ((p, l, e, R, s, m, args, below, meth, c), (A, H0, nL, Q)) (putAll ws isC w1) (k + mc) (n + ms) lv (pc + 3) (v.toList ++ rest)) : W p l e R s m args below meth c H locs k n Q (F0 m pc ls st0) := by
  intro T hT X
  obtain ⟨v, st₀, t, T', L, h0, X', hL, e1, e2, ⟨⟨v', w1, hv, hp, ha, hP1, hD1⟩, hz, hk⟩, st⟩ := hr T hT X
  cases hv
  rw [h0] at hz hk
  have hF := va_free hD hS hA isC hC
  have J := g_join (H1 := T'.heap) hP hD isC hC (fun q h1 h2 => by rw [e1]; exact hk q h1 h2) hF (by rw [e1]; exact hP1) hD1 ha
  obtain ⟨t2, a1, b1⟩ := kk v w1 hp T'.heap (locs ++ L) ls J.1 J.2
    ⟨Nat.le_trans hS.1 (by rw [e1]; exact hz), fun q h1 h2 => by rw [e1, hk q (Nat.lt_of_lt_of_le h1 hS.1) (fun z => h2 (hF q z))]; exact hS.2.1 q h1 h2, fun q hq => by
      rcases List.mem_append.mp hq with h | h
      · exact hS.2.2 q h
      · exact hF _ (hL q h)⟩ hl T' rfl X'
  exact ⟨t2, st t2 a1, b1⟩
end rows
section rows
variable {g : gD} {x : gX} {own : String} {cc : ByteArray} {nL fr ce sl lo : Nat} {ws wc : va_W} {k n : Nat} {lv : List (Nat × Value)} {pc : Nat} {st : List Value}
theorem g_callV (C : gC g x own cc nL fr ce sl lo) {y : MethodName} {cy : ByteArray} {mL n' fr' mc ms lo' ix b ci N : Nat} {ret : Option FieldType} {T : u_T} {fs : List Value} {Post : Option Value → va_W → Prop} (As rest : List Value) (hM : gMet x.1.2.1 g y cy mL ret fr' mc ms lo' (.ref b :: As) wc Post) (hY : gYv y cy mL ret n') (hl : Cond.methodLink own ix y ∈ wAll) (isC : List Nat) (hC : isC.map (fun i => ws[i]?) = wc.map some) (hnd : va_nd isC = true) (q0 : Nat) (he : ws[q0]? = some (b, .inr (ci, fs))) (hcl : vwCl[ci]? = some (y.cls, T, N)) (hst : st = As.reverse ++ .ref b :: rest) (hcat : (rest.map fun v => v.category).sum ≤ 8) (hn : As.length = n') (hroom : fr' + 1 ≤ fr ∧ 8 + (mL + 11) + lo' ≤ lo ∧ k + mc ≤ ce ∧ n + ms ≤ sl) (hd : decode cc pc = .ok (.invokevirtual ix, 3))
    (kk : ∀ (v : Option Value) (w1 : va_W), Post v w1 → gW g x (putAll ws isC w1) (k + mc) (n + ms) lv (pc + 3) (v.toList ++ rest)) : gW g x ws k n lv pc st := by
  obtain ⟨⟨p, l, e, R, s, m, args, below, meth, c⟩, A, H0, nL', Q⟩ := x
  intro H locs ls hP hD hS hlv
  obtain ⟨h1, h2, h3, h4, h5, h6, h7, h8, h9⟩ := C
  subst h9; subst hst
  have hDc := hD.sub isC hnd hC
  have hPc : va_P g.1 vwCl wc H := fun j q hq => by
    have h0 : (isC.map (fun i => ws[i]?))[j]? = some (some q) := by rw [hC, List.getElem?_map, hq]; rfl
    rw [List.getElem?_map] at h0
    cases hi : isC[j]? with
    | none => rw [hi] at h0; cases h0
    | some i => rw [hi] at h0; exact hP i q (Option.some.inj h0)
  refine g_after (va_runV (As := As) (rest := rest) ⟨h1, h2, h3, h5, h6⟩ (hM H.size) (cwV n' h6 (g_good hl hY) rfl rfl rfl ⟨rfl, hY.2.2.2.2.2.1, hY.2.2.2.2.2.2.1, hY.2.2.2.2.2.2.2⟩ ⟨hroom.1, hroom.2.1⟩)
    ⟨g_blind, va_recv h7.1 hP hcl he, fun U hU hW => ⟨rfl, gE.moved hW h7, by rw [hU], by rw [hU]; exact hPc, hDc.weaken (fun _ _ _ _ => trivial)⟩⟩ rfl hn hlv.1 rfl (lv_room hcat) hd ⟨hroom.2.2.1, hroom.2.2.2⟩) hP hD hS h8 hlv isC hC kk
theorem g_callS (C : gC g x own cc nL fr ce sl lo) {y : MethodName} {cy : ByteArray} {mL n' fr' mc ms lo' ix : Nat} {ret : Option FieldType} {Post : Option Value → va_W → Prop} (As rest : List Value) (hM : gMet x.1.2.1 g y cy mL ret fr' mc ms lo' As wc Post) (hY : gYs y cy mL ret n') (hl : Cond.methodLink own ix y ∈ wAll) (isC : List Nat) (hC : isC.map (fun i => ws[i]?) = wc.map some) (hnd : va_nd isC = true) (hst : st = As.reverse ++ rest) (hcat : (rest.map fun v => v.category).sum ≤ 8) (hn : As.length = n') (hroom : fr' + 1 ≤ fr ∧ 8 + (mL + 11) + lo' ≤ lo ∧ k + mc ≤ ce ∧ n + ms ≤ sl) (hd : decode cc pc = .ok (.invokestatic ix, 3))
    (kk : ∀ (v : Option Value) (w1 : va_W), Post v w1 → gW g x (putAll ws isC w1) (k + mc) (n + ms) lv (pc + 3) (v.toList ++ rest)) : gW g x ws k n lv pc st := by
  obtain ⟨⟨p, l, e, R, s, m, args, below, meth, c⟩, A, H0, nL', Q⟩ := x
  intro H locs ls hP hD hS hlv
  obtain ⟨h1, h2, h3, h4, h5, h6, h7, h8, h9⟩ := C
  subst h9; subst hst
  have hDc := hD.sub isC hnd hC
  have hPc : va_P g.1 vwCl wc H := fun j q hq => by
    have h0 : (isC.map (fun i => ws[i]?))[j]? = some (some q) := by rw [hC, List.getElem?_map, hq]; rfl
    rw [List.getElem?_map] at h0
    cases hi : isC[j]? with
    | none => rw [hi] at h0; cases h0
    | some i => rw [hi] at h0; exact hP i q (Option.some.inj h0)
  refine g_after (va_runS (As := As) (rest := rest) ⟨h1, h2, h3, h5, h6⟩ (hM H.size) (va_cwS n' h6 (g_goodS hl hY) rfl rfl rfl ⟨hY.2.2.2.2.1, hY.2.2.2.2.2.1, hY.2.2.2.2.2.2⟩ ⟨hroom.1, hroom.2.1⟩)
    ⟨g_blind, fun U hU hW => ⟨rfl, gE.moved hW h7, by rw [hU], by rw [hU]; exact hPc, hDc.weaken (fun _ _ _ _ => trivial)⟩⟩ rfl hn hlv.1 rfl (lv_room hcat) hd ⟨hroom.2.2.1, hroom.2.2.2⟩) hP hD hS h8 hlv isC hC kk
theorem g_callSN (C : gC g x own cc nL fr ce sl lo) {y : MethodName} {cy : ByteArray} {mL n' fr' mc ms lo' ix : Nat} {host : String} {ret : Option FieldType} {Post : Option Value → va_W → Prop} (As rest : List Value) (hM : gMet x.1.2.1 g y cy mL ret fr' mc ms lo' As wc Post) (hY : gYs y cy mL ret n') (hl : Cond.methodLinkNest own ix y host ∈ wNest) (isC : List Nat) (hC : isC.map (fun i => ws[i]?) = wc.map some) (hnd : va_nd isC = true) (hst : st = As.reverse ++ rest) (hcat : (rest.map fun v => v.category).sum ≤ 8) (hn : As.length = n') (hroom : fr' + 1 ≤ fr ∧ 8 + (mL + 11) + lo' ≤ lo ∧ k + mc ≤ ce ∧ n + ms ≤ sl) (hd : decode cc pc = .ok (.invokestatic ix, 3))
    (kk : ∀ (v : Option Value) (w1 : va_W), Post v w1 → gW g x (putAll ws isC w1) (k + mc) (n + ms) lv (pc + 3) (v.toList ++ rest)) : gW g x ws k n lv pc st := by
  obtain ⟨⟨p, l, e, R, s, m, args, below, meth, c⟩, A, H0, nL', Q⟩ := x
  intro H locs ls hP hD hS hlv
  obtain ⟨h1, h2, h3, h4, h5, h6, h7, h8, h9⟩ := C
  subst h9; subst hst
  have hDc := hD.sub isC hnd hC
  have hPc : va_P g.1 vwCl wc H := fun j q hq => by
    have h0 : (isC.map (fun i => ws[i]?))[j]? = some (some q) := by rw [hC, List.getElem?_map, hq]; rfl
    rw [List.getElem?_map] at h0
    cases hi : isC[j]? with
    | none => rw [hi] at h0; cases h0
    | some i => rw [hi] at h0; exact hP i q (Option.some.inj h0)
  refine g_after (va_runSN (As := As) (rest := rest) ⟨h1, h2, h3, h5, h6⟩ (hM H.size) ⟨va_cnB n' h6 (g_goodC hY.2.2.1) rfl rfl rfl (h7.2 _ hl) (h6 _ hY.2.1) ⟨hY.2.2.2.2.1, hY.2.2.2.2.2.1, hY.2.2.2.2.2.2⟩ ⟨hroom.1, hroom.2.1⟩, h6 _ hY.1, trivial⟩
    ⟨g_blind, fun U hU hW => ⟨rfl, gE.moved hW h7, by rw [hU], by rw [hU]; exact hPc, hDc.weaken (fun _ _ _ _ => trivial)⟩⟩ rfl hn hlv.1 rfl (lv_room hcat) hd ⟨hroom.2.2.1, hroom.2.2.2⟩) hP hD hS h8 hlv isC hC kk
theorem g_callI (C : gC g x own cc nL fr ce sl lo) {y : MethodName} {cy : ByteArray} {mL n' fr' mc ms lo' ix b : Nat} {Post : Option Value → va_W → Prop} (As rest : List Value) (hM : gMet x.1.2.1 g y cy mL none fr' mc ms lo' (.ref b :: As) wc Post) (hY : gYi y cy mL n') (hl : Cond.methodLink own ix y ∈ wAll) (isC : List Nat) (hC : isC.map (fun i => ws[i]?) = wc.map some) (hnd : va_nd isC = true) (hst : st = As.reverse ++ .ref b :: rest) (hcat : (rest.map fun v => v.category).sum ≤ 8) (hn : As.length = n') (hroom : fr' + 1 ≤ fr ∧ 8 + (mL + 11) + lo' ≤ lo ∧ k + mc ≤ ce ∧ n + ms ≤ sl) (hd : decode cc pc = .ok (.invokespecial ix, 3))
    (kk : ∀ (v : Option Value) (w1 : va_W), Post v w1 → gW g x (putAll ws isC w1) (k + mc) (n + ms) lv (pc + 3) (v.toList ++ rest)) : gW g x ws k n lv pc st := by
  obtain ⟨⟨p, l, e, R, s, m, args, below, meth, c⟩, A, H0, nL', Q⟩ := x
  intro H locs ls hP hD hS hlv
  obtain ⟨h1, h2, h3, h4, h5, h6, h7, h8, h9⟩ := C
  subst h9; subst hst
  have hDc := hD.sub isC hnd hC
  have hPc : va_P g.1 vwCl wc H := fun j q hq => by
    have h0 : (isC.map (fun i => ws[i]?))[j]? = some (some q) := by rw [hC, List.getElem?_map, hq]; rfl
    rw [List.getElem?_map] at h0
    cases hi : isC[j]? with
    | none => rw [hi] at h0; cases h0
    | some i => rw [hi] at h0; exact hP i q (Option.some.inj h0)
  refine g_after (va_runI (As := As) (rest := rest) ⟨h1, h2, h3, h5, h6⟩ (hM H.size) (cwI n' h6 (g_goodC hY.2.2.1) rfl rfl rfl (h6 _ hY.2.1) (h6 _ hl) (h6 _ hY.1) hY.2.2.2.2.2.2.2 ⟨hY.2.2.2.2.1, hY.2.2.2.2.2.1, hY.2.2.2.2.2.2.1⟩ ⟨hroom.1, hroom.2.1⟩)
    ⟨g_blind, fun U hU hW => ⟨rfl, gE.moved hW h7, by rw [hU], by rw [hU]; exact hPc, hDc.weaken (fun _ _ _ _ => trivial)⟩⟩ rfl hn hlv.1 rfl (lv_room hcat) hd ⟨hroom.2.2.1, hroom.2.2.2⟩) hP hD hS h8 hlv isC hC kk
theorem g_callIN (C : gC g x own cc nL fr ce sl lo) {y : MethodName} {cy : ByteArray} {mL n' fr' mc ms lo' ix b : Nat} {host : String} {Post : Option Value → va_W → Prop} (As rest : List Value) (hM : gMet x.1.2.1 g y cy mL none fr' mc ms lo' (.ref b :: As) wc Post) (hY : gYi y cy mL n') (hl : Cond.methodLinkNest own ix y host ∈ wNest) (isC : List Nat) (hC : isC.map (fun i => ws[i]?) = wc.map some) (hnd : va_nd isC = true) (hst : st = As.reverse ++ .ref b :: rest) (hcat : (rest.map fun v => v.category).sum ≤ 8) (hn : As.length = n') (hroom : fr' + 1 ≤ fr ∧ 8 + (mL + 11) + lo' ≤ lo ∧ k + mc ≤ ce ∧ n + ms ≤ sl) (hd : decode cc pc = .ok (.invokespecial ix, 3))
    (kk : ∀ (v : Option Value) (w1 : va_W), Post v w1 → gW g x (putAll ws isC w1) (k + mc) (n + ms) lv (pc + 3) (v.toList ++ rest)) : gW g x ws k n lv pc st := by
  obtain ⟨⟨p, l, e, R, s, m, args, below, meth, c⟩, A, H0, nL', Q⟩ := x
  intro H locs ls hP hD hS hlv
  obtain ⟨h1, h2, h3, h4, h5, h6, h7, h8, h9⟩ := C
  subst h9; subst hst
  have hDc := hD.sub isC hnd hC
  have hPc : va_P g.1 vwCl wc H := fun j q hq => by
    have h0 : (isC.map (fun i => ws[i]?))[j]? = some (some q) := by rw [hC, List.getElem?_map, hq]; rfl
    rw [List.getElem?_map] at h0
    cases hi : isC[j]? with
    | none => rw [hi] at h0; cases h0
    | some i => rw [hi] at h0; exact hP i q (Option.some.inj h0)
  refine g_after (va_runIN (As := As) (rest := rest) ⟨h1, h2, h3, h5, h6⟩ (hM H.size) ⟨va_cnB n' h6 (g_goodC hY.2.2.1) rfl rfl rfl (h7.2 _ hl) (h6 _ hY.2.1) ⟨hY.2.2.2.2.1, hY.2.2.2.2.2.1, hY.2.2.2.2.2.2.1⟩ ⟨hroom.1, hroom.2.1⟩, hY.2.2.2.2.2.2.2, h6 _ hY.1⟩
    ⟨g_blind, fun U hU hW => ⟨rfl, gE.moved hW h7, by rw [hU], by rw [hU]; exact hPc, hDc.weaken (fun _ _ _ _ => trivial)⟩⟩ rfl hn hlv.1 rfl (lv_room hcat) hd ⟨hroom.2.2.1, hroom.2.2.2⟩) hP hD hS h8 hlv isC hC kk
theorem g_objInit (C : gC g x own cc nL fr ce sl lo) {ix a : Nat} (hl : Cond.methodLink own ix Lib.objectInit ∈ wAll) (hin : Cond.instanceMethod Lib.objectInit ∈ wAll) (hco : Cond.code Lib.objectInit ⟨#[0xb1]⟩ 1 none ∈ wAll) (hd : decode cc pc = .ok (.invokespecial ix, 3)) (hroom : 1 ≤ fr ∧ (st.map fun v => v.category).sum + 12 ≤ lo) (hk : k ≤ ce) (hn : n ≤ sl) (kk : gW g x ws k n lv (pc + 3) st) : gW g x ws k n lv pc (.ref a :: st) := by
  obtain ⟨⟨p, l, e, R, s, m, args, below, meth, c⟩, A, H0, nL', Q⟩ := x
  intro H locs ls hP hD hS hlv
  obtain ⟨h1, h2, h3, h4, h5, h6, h7, h8, h9⟩ := C
  subst h9
  refine W.objInit h1 h2 h5 (h6 _ hl) (h6 _ hin) (h6 _ hco) rfl (by rw [h3]; exact hlv.1) rfl hd hroom.1 (by show 2 * 0 + _ + 12 ≤ lo; have := hroom.2; omega) ?_
  exact kk H locs ls hP hD hS hlv
theorem g_mmax (C : gC g x own cc nL fr ce sl lo) {ix : Nat} {a b : Int} (hl : Cond.methodLink own ix Lib.Math.max.name ∈ wAll) (hst : Cond.static Lib.Math.max.name ∈ wAll) (hini : Cond.initialized "java/lang/Math" ∈ wAll) (hco : Cond.code Lib.Math.max.name Lib.Math.max.code 2 (some .int) ∈ wAll) (ha : -2147483648 ≤ a ∧ a < 2147483648) (hb : -2147483648 ≤ b ∧ b < 2147483648) (hd : decode cc pc = .ok (.invokestatic ix, 3)) (hroom : 1 ≤ fr ∧ (st.map fun v => v.category).sum + 13 ≤ lo) (hk : k ≤ ce) (hn : n ≤ sl) (kk : gW g x ws k n lv (pc + 3) (vi (if a < b then b else a) :: st)) : gW g x ws k n lv pc (vi b :: vi a :: st) := by
  obtain ⟨⟨p, l, e, R, s, m, args, below, meth, c⟩, A, H0, nL', Q⟩ := x
  intro H locs ls hP hD hS hlv
  obtain ⟨h1, h2, h3, h4, h5, h6, h7, h8, h9⟩ := C
  subst h9
  refine va_mmax h1 h2 (by rw [h3]; exact hlv.1.symm) h5 (h6 _ hl) (h6 _ hst) (h6 _ hini) (h6 _ hco) hroom.1 hroom.2 hk hn hd ?_
  have e9 : (if iI a < iI b then iI b else iI a) = iI (if a < b then b else a) := by
    by_cases q : a < b
    · rw [if_pos q, if_pos ((iI_lt ha hb).mpr q)]
    · rw [if_neg q, if_neg (fun z => q ((iI_lt ha hb).mp z))]
  rw [e9]
  exact kk H locs ls hP hD hS hlv
theorem g_mmin (C : gC g x own cc nL fr ce sl lo) {ix : Nat} {a b : Int} (hl : Cond.methodLink own ix Lib.Math.min.name ∈ wAll) (hst : Cond.static Lib.Math.min.name ∈ wAll) (hini : Cond.initialized "java/lang/Math" ∈ wAll) (hco : Cond.code Lib.Math.min.name Lib.Math.min.code 2 (some .int) ∈ wAll) (ha : -2147483648 ≤ a ∧ a < 2147483648) (hb : -2147483648 ≤ b ∧ b < 2147483648) (hd : decode cc pc = .ok (.invokestatic ix, 3)) (hroom : 1 ≤ fr ∧ (st.map fun v => v.category).sum + 13 ≤ lo) (hk : k ≤ ce) (hn : n ≤ sl) (kk : gW g x ws k n lv (pc + 3) (vi (if b < a then b else a) :: st)) : gW g x ws k n lv pc (vi b :: vi a :: st) := by
  obtain ⟨⟨p, l, e, R, s, m, args, below, meth, c⟩, A, H0, nL', Q⟩ := x
  intro H locs ls hP hD hS hlv
  obtain ⟨h1, h2, h3, h4, h5, h6, h7, h8, h9⟩ := C
  subst h9
  refine va_mmin h1 h2 (by rw [h3]; exact hlv.1.symm) h5 (h6 _ hl) (h6 _ hst) (h6 _ hini) (h6 _ hco) hroom.1 hroom.2 hk hn hd ?_
  have e9 : (if iI b < iI a then iI b else iI a) = iI (if b < a then b else a) := by
    by_cases q : b < a
    · rw [if_pos q, if_pos ((iI_lt hb ha).mpr q)]
    · rw [if_neg q, if_neg (fun z => q ((iI_lt hb ha).mp z))]
  rw [e9]
  exact kk H locs ls hP hD hS hlv
theorem g_mabs (C : gC g x own cc nL fr ce sl lo) {ix : Nat} {a : Int} (hl : Cond.methodLink own ix Lib.Math.abs.name ∈ wAll) (hst : Cond.static Lib.Math.abs.name ∈ wAll) (hini : Cond.initialized "java/lang/Math" ∈ wAll) (hco : Cond.code Lib.Math.abs.name Lib.Math.abs.code 1 (some .int) ∈ wAll) (ha : -2147483648 ≤ a ∧ a < 2147483648) (hd : decode cc pc = .ok (.invokestatic ix, 3)) (hroom : 1 ≤ fr ∧ (st.map fun v => v.category).sum + 13 ≤ lo) (hk : k ≤ ce) (hn : n ≤ sl) (kk : gW g x ws k n lv (pc + 3) (vi (if 0 ≤ a then a else 0 - a) :: st)) : gW g x ws k n lv pc (vi a :: st) := by
  obtain ⟨⟨p, l, e, R, s, m, args, below, meth, c⟩, A, H0, nL', Q⟩ := x
  intro H locs ls hP hD hS hlv
  obtain ⟨h1, h2, h3, h4, h5, h6, h7, h8, h9⟩ := C
  subst h9
  refine va_mabs h1 h2 (by rw [h3]; exact hlv.1.symm) h5 (h6 _ hl) (h6 _ hst) (h6 _ hini) (h6 _ hco) hroom.1 hroom.2 hk hn hd ?_
  have e9 : (if 0 ≤ iI a then iI a else 0 - iI a) = iI (if 0 ≤ a then a else 0 - a) := by
    have h0 := iI_le (a := 0) (b := a) (by omega) ha
    rw [iI_0] at h0
    by_cases q : 0 ≤ a
    · rw [if_pos q, if_pos (h0.mpr q)]
    · rw [if_neg q, if_neg (fun z => q (h0.mp z)), ← iI_0, iI_sub]
  rw [e9]
  exact kk H locs ls hP hD hS hlv
/-- the copy of a whole row of ints into another of the same length -/
def cpy (F G : Int → Int) (n : Int) : Int → Int := fun j => if 0 ≤ j ∧ j < n then F j else G j
theorem g_copy (C : gC g x own cc nL fr ce sl lo) {ix a0 a N0 N1 : Nat} {F G : Int → Int} {w : Int} (hl : Cond.methodLink own ix arraycopyName ∈ wAll) (hnat : Cond.native arraycopyName ∈ wAll) (hst : Cond.static arraycopyName ∈ wAll) (hini : Cond.initialized "java/lang/System" ∈ wAll) (q0 q1 : Nat) (he0 : ws[q0]? = some (a0, cA g N0 F)) (he1 : ws[q1]? = some (a, cA g N1 G)) (hw : 0 ≤ w ∧ w ≤ (N0 : Int) ∧ w ≤ (N1 : Int) ∧ w < 2147483648) (ws' : va_W) (hws : ws.set q1 (a, cA g N1 (cpy F G w)) = ws') (hd : decode cc pc = .ok (.invokestatic ix, 3)) (hroom : 1 ≤ fr ∧ (st.map fun v => v.category).sum + (nativeFrameWords "java/lang/System" "arraycopy" 5 + 11) ≤ lo) (kk : gW g x ws' k n lv (pc + 3) st) : gW g x ws k n lv pc (vi w :: vi 0 :: .ref a :: vi 0 :: .ref a0 :: st) := by
  obtain ⟨⟨p, l, e, R, s, m, args, below, meth, c⟩, A, H0, nL', Q⟩ := x
  intro H locs ls hP hD hS hlv
  obtain ⟨h1, h2, h3, h4, h5, h6, h7, h8, h9⟩ := C
  subst h9; subst hws
  have c0 : (iI 0).toNatClampNeg = 0 := by decide
  have cw := iI_clamp hw.1 hw.2.2.2
  have n0 : ¬ iI w < 0 := fun q => by have := (iI_ge0 (by omega)).mp q; omega
  refine va_copyi h1 h2 (by rw [h3]; exact hlv.1.symm) h5 (h6 _ hl) (h6 _ hnat) (h6 _ hst) (h6 _ hini) h7.1 hP hD hS q0 q1 0 0 he0 he1 rfl rfl rfl (by decide) (by decide) n0 (by rw [c0]; omega) (by rw [c0]; omega) (fun i _ => rfl) hroom.1 hroom.2 hd (fun H1 locs1 hP hD hS => ?_)
  have e9 : va_cpy (aI F) (aI G) (iI 0).toNatClampNeg (iI 0).toNatClampNeg (iI w).toNatClampNeg = aI (cpy F G w) := by
    funext j
    rw [c0]
    simp only [va_cpy, aI, cpy]
    by_cases q : j < (iI w).toNatClampNeg
    · rw [if_pos (by omega), if_pos (by omega)]
      congr 1
      congr 1
      omega
    · rw [if_neg (by omega), if_neg (by omega)]
  rw [e9] at hP hD
  exact kk H1 locs1 ls hP hD hS hlv
theorem g_newa (C : gC g x own cc nL fr ce sl lo) {N : Nat} (harr : Cond.arrayClass .int ∈ wAll) (hN : (N : Int) < 100000) (hk : k + 1 ≤ ce) (hn : n + N ≤ sl) (hd : decode cc pc = .ok (.newarray .int, 2)) (kk : ∀ q : Nat, gW g x (ws ++ [(q, cA g N (fun _ => 0))]) (k + 1) (n + N) lv (pc + 2) (.ref q :: st)) : gW g x ws k n lv pc (vi (N : Int) :: st) := by
  obtain ⟨⟨p, l, e, R, s, m, args, below, meth, c⟩, A, H0, nL', Q⟩ := x
  intro H locs ls hP hD hS hlv
  obtain ⟨h1, h2, h3, h4, h5, h6, h7, h8, h9⟩ := C
  subst h9
  have cN := iI_clamp (z := N) (by omega) (by omega)
  refine va_newa (atype := .int) (ty := .int) (a0 := (N, .inl (aI fun _ => 0))) h1 h2 (h6 _ harr) rfl h7.1 hP hD hS h8 (fun cA => rfl) (fun q => by have := (iI_ge0 (a := (N : Int)) (by omega)).mp q; omega) (N' := N) (by omega) (by show N * 4 ≤ _; omega) hk hn hd (fun q cA H1 hK hP hD hS => ?_)
  have e9 : cA = g.2.1 := by
    have a1 := (hK.2 0 (g.2.1, .int) rfl).2
    have a2 := (hK.2 2 (cA, .int) rfl).2
    exact Option.some.inj (a2.symm.trans a1)
  subst e9
  exact kk q H1 locs ls hP hD hS hlv
theorem g_new (C : gC g x own cc nL fr ce sl lo) {Cn : String} {T : u_T} {N ci ix : Nat} {ty0 : Nat → FieldType} (hkw : ∀ w ∈ u_ws Cn T N, w ∈ wAll) (hty : ∀ k, k < N → parseFieldDescriptor (T k).2.2.1 = some (ty0 k)) (hc : vwCl[ci]? = some (Cn, T, N)) (hcl : Cond.classLink own ix Cn ∈ wAll) (hins : Cond.instantiable Cn N ∈ wAll) (hini : Cond.initialized Cn ∈ wAll) (fs : List Value) (hfs : ∀ j, j < N → defaultValue (ty0 j) = vp_V fs j) (hk : k + 1 ≤ ce) (hn : n + N ≤ sl) (hd : decode cc pc = .ok (.new ix, 3)) (kk : ∀ q : Nat, gW g x (ws ++ [(q, cO ci fs)]) (k + 1) (n + N) lv (pc + 3) (.ref q :: st)) : gW g x ws k n lv pc st := by
  obtain ⟨⟨p, l, e, R, s, m, args, below, meth, c⟩, A, H0, nL', Q⟩ := x
  intro H locs ls hP hD hS hlv
  obtain ⟨h1, h2, h3, h4, h5, h6, h7, h8, h9⟩ := C
  subst h9
  exact va_new h1 h2 h6 hkw ty0 hty h5 (h6 _ hcl) (h6 _ hins) (h6 _ hini) h7.1 hP hD hS h8 hc hfs hk hn hd (fun q H1 hP hD hS => kk q H1 locs ls hP hD hS hlv)
end rows
