/-! a call that may throw -/
section rows
variable {p : Program} {l : Launch} {e : Env} {R : Room} {s : State} {m : MethodId} {args : Array Value} {below : List Frame} {meth : Method} {c : Code} {H : Heap} {locs : List Loc} {k n : Nat} {Q : State → Prop} {A : Nat → Prop} {H0 : Heap} {ls : Array Slot} {g : gD} {ws wc : va_W} {nL pc mc ms : Nat} {lv : List (Nat × Value)} {st0 rest : List Value} {a : Array Value}
theorem g_afterX {Post : Option Value → va_W → Prop} {PX : String → va_W → Prop} (hr : vx_Run p l e R s m args below meth c H locs k n mc ms (F0 m pc ls st0) rest (gQ g wc Post (va_A wc H.size) a) (gXC g wc PX (va_A wc H.size)) (va_A wc H.size)) (hP : va_P g.1 vwCl ws H) (hD : va_D A ws) (hS : va_S A H0 H locs) (hA : ∀ q, H0.size ≤ q → A q) (hl : lv_has ls nL lv) (isC : List Nat) (hC : isC.map (fun i => ws[i]?) = wc.map some)
    (kk : ∀ (v : Option Value) (w1 : va_W), Post v w1 → gW g ((p, l, e, R, s, m, args, below, meth, c), (A, H0, nL, Q)) (putAll ws isC w1) (k + mc) (n + ms) lv (pc + 3) (v.toList ++ rest))
    (kx : ∀ (E : String) (w1 : va_W) (q : Addr) (ce : Cell) (H1 : Heap) (locs1 : List Loc), PX E w1 → H1[q]? = some ce → ce.vm = .none → s.vm.findClass E = some ce.cls → va_P g.1 vwCl (putAll ws isC w1) H1 → va_D A (putAll ws isC w1) → va_S A H0 H1 locs1 → vx_W p l e R s m args below meth c H1 locs1 (k + mc) (n + ms) Q (F0 m pc ls rest) q) : W p l e R s m args below meth c H locs k n Q (F0 m pc ls st0) := by
  intro T hT X
  have hF := va_free hD hS hA isC hC
  rcases hr T hT X with ⟨v, st₀, t, T', L, h0, X', hL, e1, e2, ⟨⟨v', w1, hv, hp, ha, hP1, hD1⟩, hz, hk⟩, st⟩ | ⟨q, st₀, t, T', L, E, ce, h0, X', hL, e1, e2, ⟨⟨w1, hp, ha, hP1, hD1⟩, hz, hk⟩, hce, hcv, hcl, st⟩
  · cases hv
    rw [h0] at hz hk
    have J := g_join (H1 := T'.heap) hP hD isC hC (fun q h1 h2 => by rw [e1]; exact hk q h1 h2) hF (by rw [e1]; exact hP1) hD1 ha
    obtain ⟨t2, a1, b1⟩ := kk v w1 hp T'.heap (locs ++ L) ls J.1 J.2
      ⟨Nat.le_trans hS.1 (by rw [e1]; exact hz), fun q h1 h2 => by rw [e1, hk q (Nat.lt_of_lt_of_le h1 hS.1) (fun z => h2 (hF q z))]; exact hS.2.1 q h1 h2, fun q hq => by
        rcases List.mem_append.mp hq with h | h
        · exact hS.2.2 q h
        · exact hF _ (hL q h)⟩ hl T' rfl X'
    exact ⟨t2, st t2 a1, b1⟩
  · rw [h0] at hz hk
    have J := g_join (H1 := T'.heap) hP hD isC hC (fun q h1 h2 => by rw [e1]; exact hk q h1 h2) hF (by rw [e1]; exact hP1) hD1 (by rw [ha]; simp)
    obtain ⟨t2, a1, b1⟩ := kx E w1 q ce T'.heap (locs ++ L) hp (by rw [e1]; exact hce) hcv hcl J.1 J.2
      ⟨Nat.le_trans hS.1 (by rw [e1]; exact hz), fun q h1 h2 => by rw [e1, hk q (Nat.lt_of_lt_of_le h1 hS.1) (fun z => h2 (hF q z))]; exact hS.2.1 q h1 h2, fun q hq => by
        rcases List.mem_append.mp hq with h | h
        · exact hS.2.2 q h
        · exact hF _ (hL q h)⟩ T' rfl X'
    exact ⟨t2, st.trans a1, b1⟩
end rows
/-- what a call that may throw needs of the start -/
def gZx (x : gX) : Prop := match x with
  | ((p, l, e, R, s, m, args, below, meth, c), (A, H0, nL, Q)) => gZ A s H0
/-- on, at a throw -/
def gV (g : gD) (x : gX) (E : String) (ws : va_W) (k n : Nat) (lv : List (Nat × Value)) (pc : Nat) (rest : List Value) : Prop := match x with
  | ((p, l, e, R, s, m, args, below, meth, c), (A, H0, nL, Q)) => ∀ (H : Heap) (locs : List Loc) (ls : Array Slot) (q : Addr) (ce : Cell), H[q]? = some ce → ce.vm = .none → s.vm.findClass E = some ce.cls → va_P g.1 vwCl ws H → va_D A ws → va_S A H0 H locs → lv_has ls nL lv → vx_W p l e R s m args below meth c H locs k n Q (F0 m pc ls rest) q
section rows
variable {g : gD} {x : gX} {own : String} {cc : ByteArray} {nL fr ce sl lo : Nat} {ws wc : va_W} {k n : Nat} {lv : List (Nat × Value)} {pc : Nat} {st : List Value}
theorem g_callVX (C : gC g x own cc nL fr ce sl lo) (hZ : gZx x) {y : MethodName} {cy : ByteArray} {mL n' fr' mc ms lo' ix b ci N : Nat} {ret : Option FieldType} {T : u_T} {fs : List Value} {Post : Option Value → va_W → Prop} {PX : String → va_W → Prop} (As rest : List Value) (hM : gMetX x.1.2.1 g y cy mL ret fr' mc ms lo' (.ref b :: As) wc Post PX) (hY : gYv y cy mL ret n') (hl : Cond.methodLink own ix y ∈ wAll) (isC : List Nat) (hC : isC.map (fun i => ws[i]?) = wc.map some) (hnd : va_nd isC = true) (q0 : Nat) (he : ws[q0]? = some (b, .inr (ci, fs))) (hcl : vwCl[ci]? = some (y.cls, T, N)) (hst : st = As.reverse ++ .ref b :: rest) (hcat : (rest.map fun v => v.category).sum ≤ 8) (hn : As.length = n') (hroom : fr' + 1 ≤ fr ∧ 8 + (mL + 11) + lo' ≤ lo ∧ k + mc ≤ ce ∧ n + ms ≤ sl) (hd : decode cc pc = .ok (.invokevirtual ix, 3))
    (kk : ∀ (v : Option Value) (w1 : va_W), Post v w1 → gW g x (putAll ws isC w1) (k + mc) (n + ms) lv (pc + 3) (v.toList ++ rest))
    (kx : ∀ (E : String) (w1 : va_W), PX E w1 → gV g x E (putAll ws isC w1) (k + mc) (n + ms) lv pc rest) : gW g x ws k n lv pc st := by
  obtain ⟨⟨p, l, e, R, s, m, args, below, meth, c⟩, A, H0, nL', Q⟩ := x
  intro H locs ls hP hD hS hlv
  obtain ⟨h1, h2, h3, h4, h5, h6, h7, h8, h9⟩ := C
  subst h9; subst hst
  have hDc := hD.sub isC hnd hC
  have hF := va_free hD hS h8 isC hC
  have hPc : va_P g.1 vwCl wc H := fun j q hq => by
    have h0 : (isC.map (fun i => ws[i]?))[j]? = some (some q) := by rw [hC, List.getElem?_map, hq]; rfl
    rw [List.getElem?_map] at h0
    cases hi : isC[j]? with
    | none => rw [hi] at h0; cases h0
    | some i => rw [hi] at h0; exact hP i q (Option.some.inj h0)
  have hZH : gZ A s H := gZ.kept hZ (fun q h1 h2 => hS.2.1 q h1 h2)
  refine g_afterX (vx_runV (As := As) (rest := rest) ⟨h1, h2, h3, h5, h6⟩ (hM H.size) (cwV n' h6 (g_good hl hY) rfl rfl rfl ⟨rfl, hY.2.2.2.2.2.1, hY.2.2.2.2.2.2.1, hY.2.2.2.2.2.2.2⟩ ⟨hroom.1, hroom.2.1⟩)
    ⟨?_, va_recv h7.1 hP hcl he, fun U hU hW => ⟨rfl, gE.moved hW h7, by rw [hU]; exact (gZ.moved hW hZH).narrow hF, by rw [hU], by rw [hU]; exact hPc, hDc.weaken (fun _ _ _ _ => trivial)⟩⟩ rfl hn hlv.1 rfl (lv_room hcat) hd ⟨hroom.2.2.1, hroom.2.2.2⟩) hP hD hS h8 hlv isC hC kk (fun E w1 q ce H1 locs1 hp hce hcv hcl hP1 hD1 hS1 => kx E w1 hp H1 locs1 ls q ce hce hcv hcl hP1 hD1 hS1 hlv)
  exact fun _ U _ _ q => ⟨q.1, gE.moved (State.WarmedH.refl U) q.2.1, gZ.moved (State.WarmedH.refl U) q.2.2.1, q.2.2.2⟩
end rows
