/-! rows that read and write the world, ends, calls -/
section rows
variable {g : gD} {x : gX} {own : String} {cc : ByteArray} {nL fr ce sl lo : Nat} {ws : va_W} {k n : Nat} {lv : List (Nat × Value)} {pc : Nat} {st : List Value}
theorem g_getf (C : gC g x own cc nL fr ce sl lo) {Cn : String} {T : u_T} {N ci ix a : Nat} {fs : List Value} {v : Value} (hk : ∀ w ∈ u_ws Cn T N, w ∈ wAll) (kx : Nat) (hf : Cond.fieldLink own ix Cn (T kx).2.1 (T kx).2.2.1 ∈ wAll) (q0 : Nat) (he : ws[q0]? = some (a, .inr (ci, fs))) (hc : vwCl[ci]? = some (Cn, T, N)) (hkx : kx < N) (h1 : (T kx).1 = Cn) (hv : fs[kx]? = some v) (hd : decode cc pc = .ok (.getfield ix, 3)) (kk : gW g x ws k n lv (pc + 3) (v :: st)) : gW g x ws k n lv pc (.ref a :: st) := by
  obtain ⟨⟨p, l, e, R, s, m, args, below, meth, c⟩, A, H0, nL', Q⟩ := x
  intro H locs ls hP hD hS hl
  obtain ⟨h1', h2, h3, h4, h5, h6, h7, h8, h9⟩ := C
  exact va_get h1' h2 h6 hk h5 h7.1 hP q0 he hc kx hkx (h6 _ hf) (fun y hy => by rw [h1] at hy; exact hy) hv hd (kk H locs ls hP hD hS hl)
theorem g_getfN (C : gC g x own cc nL fr ce sl lo) {Cn host : String} {T : u_T} {N ci ix a : Nat} {fs : List Value} {v : Value} (hk : ∀ w ∈ u_ws Cn T N, w ∈ wAll) (kx : Nat) (hf : Cond.fieldLinkNest own ix Cn (T kx).2.1 (T kx).2.2.1 host ∈ wNest) (q0 : Nat) (he : ws[q0]? = some (a, .inr (ci, fs))) (hc : vwCl[ci]? = some (Cn, T, N)) (hkx : kx < N) (h1 : (T kx).1 = Cn) (hv : fs[kx]? = some v) (hd : decode cc pc = .ok (.getfield ix, 3)) (kk : gW g x ws k n lv (pc + 3) (v :: st)) : gW g x ws k n lv pc (.ref a :: st) := by
  obtain ⟨⟨p, l, e, R, s, m, args, below, meth, c⟩, A, H0, nL', Q⟩ := x
  intro H locs ls hP hD hS hl
  obtain ⟨h1', h2, h3, h4, h5, h6, h7, h8, h9⟩ := C
  exact va_getN h1' h2 h6 hk h5 h7.1 hP q0 he hc kx hkx (va_Nw.use rfl (h7.2 _ hf)) (fun y hy => by rw [h1] at hy; exact hy) hv hd (kk H locs ls hP hD hS hl)
theorem g_putf (C : gC g x own cc nL fr ce sl lo) {Cn : String} {T : u_T} {N ci ix a : Nat} {fs : List Value} {v : Value} {ty0 : Nat → FieldType} (hk : ∀ w ∈ u_ws Cn T N, w ∈ wAll) (hty : ∀ k, k < N → parseFieldDescriptor (T k).2.2.1 = some (ty0 k)) (hnm : ∀ a, a < N → ∀ b, b < N → a ≠ b → (T a).2.1 ≠ (T b).2.1) (kx : Nat) (hf : Cond.fieldLink own ix Cn (T kx).2.1 (T kx).2.2.1 ∈ wAll) (q0 : Nat) (he : ws[q0]? = some (a, .inr (ci, fs))) (hc : vwCl[ci]? = some (Cn, T, N)) (hkx : kx < N) (h1 : (T kx).1 = Cn) (hfin : (T kx).2.2.2 = false) (hn : narrow (ty0 kx) v = v) (hfit : fits (ty0 kx) v = true) (hl9 : kx < fs.length) (ws' : va_W) (hws : ws.set q0 (a, .inr (ci, fs.set kx v)) = ws') (hd : decode cc pc = .ok (.putfield ix, 3)) (kk : gW g x ws' k n lv (pc + 3) st) : gW g x ws k n lv pc (v :: .ref a :: st) := by
  obtain ⟨⟨p, l, e, R, s, m, args, below, meth, c⟩, A, H0, nL', Q⟩ := x
  intro H locs ls hP hD hS hl
  obtain ⟨h1', h2, h3, h4, h5, h6, h7, h8, h9⟩ := C
  subst hws
  exact va_put h1' h2 h6 hk ty0 hty hnm h5 h7.1 hP hD hS q0 he hc kx hkx (h6 _ hf) (fun y hy => by rw [h1] at hy; exact hy) hfin (hty kx hkx) hn hfit hl9 hd (fun H1 locs1 hP hD hS => kk H1 locs1 ls hP hD hS hl)
theorem g_putfF (C : gC g x own cc nL fr ce sl lo) {Cn : String} {T : u_T} {N ci ix a : Nat} {fs : List Value} {v : Value} {ty0 : Nat → FieldType} (hin : x.1.2.2.2.2.2.2.2.2.1.name = "<init>") (hk : ∀ w ∈ u_ws Cn T N, w ∈ wAll) (hty : ∀ k, k < N → parseFieldDescriptor (T k).2.2.1 = some (ty0 k)) (hnm : ∀ a, a < N → ∀ b, b < N → a ≠ b → (T a).2.1 ≠ (T b).2.1) (kx : Nat) (hf : Cond.fieldLink own ix Cn (T kx).2.1 (T kx).2.2.1 ∈ wAll) (q0 : Nat) (he : ws[q0]? = some (a, .inr (ci, fs))) (hc : vwCl[ci]? = some (Cn, T, N)) (hkx : kx < N) (h1 : (T kx).1 = Cn) (how : Cn = own) (hfin : (T kx).2.2.2 = true) (hn : narrow (ty0 kx) v = v) (hfit : fits (ty0 kx) v = true) (hl9 : kx < fs.length) (ws' : va_W) (hws : ws.set q0 (a, .inr (ci, fs.set kx v)) = ws') (hd : decode cc pc = .ok (.putfield ix, 3)) (kk : gW g x ws' k n lv (pc + 3) st) : gW g x ws k n lv pc (v :: .ref a :: st) := by
  obtain ⟨⟨p, l, e, R, s, m, args, below, meth, c⟩, A, H0, nL', Q⟩ := x
  intro H locs ls hP hD hS hl
  obtain ⟨h1', h2, h3, h4, h5, h6, h7, h8, h9⟩ := C
  subst hws
  exact va_putF h1' h2 h6 hk ty0 hty hnm h5 h7.1 hP hD hS q0 he hc kx hkx (h6 _ hf) (fun y hy => by rw [h1] at hy; exact hy) hfin hin (h1.trans how) (hty kx hkx) hn hfit hl9 hd (fun H1 locs1 hP hD hS => kk H1 locs1 ls hP hD hS hl)
theorem g_iald (C : gC g x own cc nL fr ce sl lo) {a N : Nat} {F : Int → Int} {z : Int} (q0 : Nat) (he : ws[q0]? = some (a, cA g N F)) (hz : 0 ≤ z ∧ z < (N : Int) ∧ (N : Int) < 2147483648) (hd : decode cc pc = .ok (.iaload, 1)) (kk : gW g x ws k n lv (pc + 1) (vi (F z) :: st)) : gW g x ws k n lv pc (vi z :: .ref a :: st) := by
  obtain ⟨⟨p, l, e, R, s, m, args, below, meth, c⟩, A, H0, nL', Q⟩ := x
  intro H locs ls hP hD hS hl
  refine va_iald C.1 C.2.1 C.2.2.2.2.2.2.1.1 hP q0 0 he rfl (iI_in hz.1 hz.2.1 (by omega)) hd ?_
  rw [aI_get hz.1 (by omega)]
  exact kk H locs ls hP hD hS hl
theorem g_iast (C : gC g x own cc nL fr ce sl lo) {a N : Nat} {F : Int → Int} {z v : Int} (q0 : Nat) (he : ws[q0]? = some (a, cA g N F)) (hz : 0 ≤ z ∧ z < (N : Int) ∧ (N : Int) < 2147483648) (ws' : va_W) (hws : ws.set q0 (a, cA g N (up F z v)) = ws') (hd : decode cc pc = .ok (.iastore, 1)) (kk : gW g x ws' k n lv (pc + 1) st) : gW g x ws k n lv pc (vi v :: vi z :: .ref a :: st) := by
  obtain ⟨⟨p, l, e, R, s, m, args, below, meth, c⟩, A, H0, nL', Q⟩ := x
  intro H locs ls hP hD hS hl
  subst hws
  refine va_iast C.1 C.2.1 C.2.2.2.2.2.2.1.1 hP hD hS q0 0 he rfl (iI_in hz.1 hz.2.1 (by omega)) hd (fun H1 locs1 hP hD hS => ?_)
  rw [aI_set hz.1 (by omega)] at hP hD
  exact kk H1 locs1 ls hP hD hS hl
theorem g_alen (C : gC g x own cc nL fr ce sl lo) {a N : Nat} {F : Int → Int} (q0 : Nat) (he : ws[q0]? = some (a, cA g N F)) (hd : decode cc pc = .ok (.arraylength, 1)) (kk : gW g x ws k n lv (pc + 1) (vi (N : Int) :: st)) : gW g x ws k n lv pc (.ref a :: st) := by
  obtain ⟨⟨p, l, e, R, s, m, args, below, meth, c⟩, A, H0, nL', Q⟩ := x
  intro H locs ls hP hD hS hl
  exact va_alen C.1 C.2.1 C.2.2.2.2.2.2.1.1 hP q0 0 he (ty := .int) rfl (v := iI (N : Int)) (Int32.ofInt_eq_ofNat).symm hd (kk H locs ls hP hD hS hl)
theorem g_widen {k' n' : Nat} (hk : k ≤ k') (hn : n ≤ n') (kk : gW g x ws k' n' lv pc st) : gW g x ws k n lv pc st := by
  obtain ⟨⟨p, l, e, R, s, m, args, below, meth, c⟩, A, H0, nL', Q⟩ := x
  intro H locs ls hP hD hS hl
  exact W.widen hk hn (kk H locs ls hP hD hS hl)
theorem g_lv (lv' : List (Nat × Value)) (ps : List Nat) (h : lv_pick lv ps = lv') (kk : gW g x ws k n lv' pc st) : gW g x ws k n lv pc st := by
  obtain ⟨⟨p, l, e, R, s, m, args, below, meth, c⟩, A, H0, nL', Q⟩ := x
  intro H locs ls hP hD hS hl
  exact kk H locs ls hP hD hS (lv_sub hl ps h)
theorem g_fin {Post : Option Value → va_W → Prop} {ws0 : va_W} {g : gD} {A : Nat → Prop} {s t : State} {args : Array Value} {H : Heap} {locs : List Loc} (v : Option Value) (hP : va_P g.1 vwCl ws H) (hD : va_D A ws) (hS : va_S A s.heap H locs) (hp : Post v ws) (ha : ws.map Prod.fst = ws0.map Prod.fst ++ (ws.map Prod.fst).drop ws0.length) (ht : t.heap = H) : gQ g ws0 Post A args s (.returned v) t := ⟨⟨v, ws, rfl, hp, ha, by rw [ht]; exact hP, hD⟩, hS.F ht⟩
theorem g_iret (C : gC g x own cc nL fr ce sl lo) {Post : Option Value → va_W → Prop} {ws0 : va_W} (hR : gR g x (some .int) k n ws0 Post) {z : Int} (hd : decode cc pc = .ok (.ireturn, 1)) (hp : Post (some (vi z)) ws) (ha : ws.map Prod.fst = ws0.map Prod.fst ++ (ws.map Prod.fst).drop ws0.length) : gW g x ws k n lv pc [vi z] := by
  obtain ⟨⟨p, l, e, R, s, m, args, below, meth, c⟩, A, H0, nL', Q⟩ := x
  intro H locs ls hP hD hS hl
  obtain ⟨h1, h2, h3, h4⟩ := hR
  subst h1; subst h2
  exact W.iret C.1 C.2.1 h3 (fun t ht hW => g_fin _ hP hD hS hp ha ht) hS.2.2 hd h4
theorem g_zret (C : gC g x own cc nL fr ce sl lo) {Post : Option Value → va_W → Prop} {ws0 : va_W} (hR : gR g x (some .boolean) k n ws0 Post) {z : Int} (hd : decode cc pc = .ok (.ireturn, 1)) (hz : z = 0 ∨ z = 1) (hp : Post (some (vi z)) ws) (ha : ws.map Prod.fst = ws0.map Prod.fst ++ (ws.map Prod.fst).drop ws0.length) : gW g x ws k n lv pc [vi z] := by
  obtain ⟨⟨p, l, e, R, s, m, args, below, meth, c⟩, A, H0, nL', Q⟩ := x
  intro H locs ls hP hD hS hl
  obtain ⟨h1, h2, h3, h4⟩ := hR
  subst h1; subst h2
  exact W.zret C.1 C.2.1 h3 (by rcases hz with rfl | rfl <;> rfl) (fun t ht hW => g_fin _ hP hD hS hp ha ht) hS.2.2 hd h4
theorem g_lret (C : gC g x own cc nL fr ce sl lo) {Post : Option Value → va_W → Prop} {ws0 : va_W} (hR : gR g x (some .long) k n ws0 Post) {z : Int} (hd : decode cc pc = .ok (.lreturn, 1)) (hp : Post (some (vl z)) ws) (ha : ws.map Prod.fst = ws0.map Prod.fst ++ (ws.map Prod.fst).drop ws0.length) : gW g x ws k n lv pc [vl z] := by
  obtain ⟨⟨p, l, e, R, s, m, args, below, meth, c⟩, A, H0, nL', Q⟩ := x
  intro H locs ls hP hD hS hl
  obtain ⟨h1, h2, h3, h4⟩ := hR
  subst h1; subst h2
  exact W.lret C.1 C.2.1 h3 (fun t ht hW => g_fin _ hP hD hS hp ha ht) hS.2.2 hd h4
theorem g_dret (C : gC g x own cc nL fr ce sl lo) {Post : Option Value → va_W → Prop} {ws0 : va_W} (hR : gR g x (some .double) k n ws0 Post) {z : UInt64} (hd : decode cc pc = .ok (.dreturn, 1)) (hp : Post (some (.double z)) ws) (ha : ws.map Prod.fst = ws0.map Prod.fst ++ (ws.map Prod.fst).drop ws0.length) : gW g x ws k n lv pc [.double z] := by
  obtain ⟨⟨p, l, e, R, s, m, args, below, meth, c⟩, A, H0, nL', Q⟩ := x
  intro H locs ls hP hD hS hl
  obtain ⟨h1, h2, h3, h4⟩ := hR
  subst h1; subst h2
  exact W.dret C.1 C.2.1 h3 (fun t ht hW => g_fin _ hP hD hS hp ha ht) hS.2.2 hd h4
theorem g_vret (C : gC g x own cc nL fr ce sl lo) {Post : Option Value → va_W → Prop} {ws0 : va_W} (hR : gR g x none k n ws0 Post) (hd : decode cc pc = .ok (.return_, 1)) (hp : Post none ws) (ha : ws.map Prod.fst = ws0.map Prod.fst ++ (ws.map Prod.fst).drop ws0.length) : gW g x ws k n lv pc [] := by
  obtain ⟨⟨p, l, e, R, s, m, args, below, meth, c⟩, A, H0, nL', Q⟩ := x
  intro H locs ls hP hD hS hl
  obtain ⟨h1, h2, h3, h4⟩ := hR
  subst h1; subst h2
  exact W.vret C.1 C.2.1 h3 (fun t ht hW => g_fin _ hP hD hS hp ha ht) hS.2.2 hd h4
end rows
/-! behind a call: the callee's cells in their places, what it made at the end -/
def putAll : va_W → List Nat → va_W → va_W
  | ws, [], w1 => ws ++ w1
  | ws, _ :: _, [] => ws
  | ws, i :: is, c :: w1 => putAll (ws.set i c) is w1
theorem putAll_get : ∀ (is : List Nat) (ws w1 : va_W), is.length ≤ w1.length → (∀ i ∈ is, i < ws.length) → ∀ (k : Nat) (q : Nat × va_E), (putAll ws is w1)[k]? = some q →
    (∃ j : Nat, is[j]? = some k ∧ w1[j]? = some q) ∨ (k ∉ is ∧ ws[k]? = some q) ∨ (ws.length ≤ k ∧ w1[is.length + (k - ws.length)]? = some q)
  | [], ws, w1, _, _, k, q, h => by
    simp only [putAll] at h
    rcases Nat.lt_or_ge k ws.length with hk | hk
    · rw [List.getElem?_append_left hk] at h
      exact Or.inr (Or.inl ⟨List.not_mem_nil, h⟩)
    · rw [List.getElem?_append_right hk] at h
      exact Or.inr (Or.inr ⟨hk, by simpa using h⟩)
  | i :: is, ws, [], hl, _, k, q, h => by simp at hl
  | i :: is, ws, c :: w1, hl, hi, k, q, h => by
    simp only [putAll] at h
    have hlen : (ws.set i c).length = ws.length := List.length_set
    rcases putAll_get is (ws.set i c) w1 (by simpa using hl) (fun j hj => by rw [hlen]; exact hi j (List.mem_cons_of_mem _ hj)) k q h with ⟨j, h1, h2⟩ | ⟨h1, h2⟩ | ⟨h1, h2⟩
    · exact Or.inl ⟨j + 1, by simpa using h1, by simpa using h2⟩
    · by_cases hk : k = i
      · subst hk
        have hlt := hi k List.mem_cons_self
        rw [List.getElem?_set_self hlt] at h2
        exact Or.inl ⟨0, rfl, by simpa using h2⟩
      · rw [List.getElem?_set_ne (Ne.symm hk)] at h2
        exact Or.inr (Or.inl ⟨fun z => (List.mem_cons.mp z).elim hk h1, h2⟩)
    · rw [hlen] at h1 h2
      refine Or.inr (Or.inr ⟨h1, ?_⟩)
      rw [List.length_cons, show is.length + 1 + (k - ws.length) = (is.length + (k - ws.length)) + 1 by omega, List.getElem?_cons_succ]
      exact h2
theorem g_join {A0 : Nat → Prop} {D : va_G} {cl : List vw_C} {ws wc w1 : va_W} {H H1 : Heap} (hP : va_P D cl ws H) (hD : va_D A0 ws) (isC : List Nat) (hC : isC.map (fun i => ws[i]?) = wc.map some)
    (hk : ∀ q : Nat, q < H.size → ¬ va_A wc H.size q → H1[q]? = H[q]?) (hF : ∀ q, va_A wc H.size q → A0 q) (hP1 : va_P D cl w1 H1) (hD1 : va_D (va_A wc H.size) w1) (ha : w1.map Prod.fst = wc.map Prod.fst ++ (w1.map Prod.fst).drop wc.length) : va_P D cl (putAll ws isC w1) H1 ∧ va_D A0 (putAll ws isC w1) := by
  have hlen : isC.length = wc.length := by have := congrArg List.length hC; simpa using this
  have hlen1 : wc.length ≤ w1.length := by
    have := congrArg List.length ha
    simp only [List.length_append, List.length_map, List.length_drop] at this
    omega
  have hat : ∀ j i : Nat, isC[j]? = some i → ∃ e, wc[j]? = some e ∧ ws[i]? = some e := by
    intro j i hj
    have h1 : (isC.map (fun i => ws[i]?))[j]? = some (ws[i]?) := by rw [List.getElem?_map, hj]; rfl
    rw [hC, List.getElem?_map] at h1
    cases hw : wc[j]? with
    | none => rw [hw] at h1; cases h1
    | some e => rw [hw] at h1; exact ⟨e, rfl, (Option.some.inj h1).symm⟩
  have hfst : ∀ (j : Nat) (e q : Nat × va_E), wc[j]? = some e → w1[j]? = some q → q.1 = e.1 := by
    intro j e q he hq
    have h1 : (w1.map Prod.fst)[j]? = some q.1 := by rw [List.getElem?_map, hq]; rfl
    have hj : j < wc.length := (List.getElem?_eq_some_iff.mp he).1
    rw [ha, List.getElem?_append_left (by simpa using hj), List.getElem?_map, he] at h1
    exact (Option.some.inj h1).symm
  have hlt : ∀ i ∈ isC, i < ws.length := by
    intro i hi
    obtain ⟨j, hj⟩ := List.getElem?_of_mem hi
    obtain ⟨e, -, h2⟩ := hat j i hj
    exact (List.getElem?_eq_some_iff.mp h2).1
  have G := putAll_get isC ws w1 (by omega) hlt
  have apart : ∀ (i : Nat) (q : Nat × va_E), i ∉ isC → ws[i]? = some q → q.1 < H.size ∧ ¬ va_A wc H.size q.1 := by
    intro i q hi hq
    have hl := (hP i q hq).lt
    refine ⟨hl, fun h => ?_⟩
    rcases h with ⟨k2, e, h⟩ | h
    · have hk2 : k2 < isC.length := by rw [hlen]; exact (List.getElem?_eq_some_iff.mp h).1
      obtain ⟨i2, hi2⟩ : ∃ i2, isC[k2]? = some i2 := ⟨_, List.getElem?_eq_getElem hk2⟩
      obtain ⟨e2, h3, h4⟩ := hat k2 i2 hi2
      rw [h] at h3
      cases h3
      have := hD.1 i i2 q (q.1, e) hq h4 rfl
      subst this
      exact hi (List.mem_of_getElem? hi2)
    · omega
  have inws : ∀ (i : Nat) (q : Nat × va_E), ((∃ j : Nat, isC[j]? = some i ∧ w1[j]? = some q) ∨ (i ∉ isC ∧ ws[i]? = some q)) → ∃ e, ws[i]? = some e ∧ e.1 = q.1 := by
    rintro i q (⟨j, h1, h2⟩ | ⟨h1, h2⟩)
    · obtain ⟨e, h3, h4⟩ := hat j i h1
      exact ⟨e, h4, (hfst j e q h3 h2).symm⟩
    · exact ⟨q, h2, rfl⟩
  have newc : ∀ (i : Nat) (q e : Nat × va_E) (i0 : Nat), ws.length ≤ i → w1[isC.length + (i - ws.length)]? = some q → ws[i0]? = some e → e.1 = q.1 → False := by
    intro i q e i0 hi hq he heq
    have hl := (hP i0 e he).lt
    rcases hD1.2 _ q hq with ⟨k2, e2, h⟩ | h
    · have hk2 : k2 < wc.length := (List.getElem?_eq_some_iff.mp h).1
      obtain ⟨q2, hq2⟩ : ∃ q2, w1[k2]? = some q2 := ⟨_, List.getElem?_eq_getElem (by omega)⟩
      have h9 := hfst k2 _ q2 h hq2
      have := hD1.1 k2 _ q2 q hq2 hq h9
      omega
    · omega
  refine ⟨fun i q hq => ?_, fun i j p q hp hq hpq => ?_, fun i q hq => ?_⟩
  · rcases G i q hq with ⟨j, h1, h2⟩ | ⟨h1, h2⟩ | ⟨h1, h2⟩
    · exact hP1 j q h2
    · obtain ⟨g1, g2⟩ := apart i q h1 h2
      exact (hP i q h2).kept (hk q.1 g1 g2)
    · exact hP1 _ q h2
  · have Gp := G i p hp
    have Gq := G j q hq
    rw [← or_assoc] at Gp Gq
    rcases Gp with Gp | ⟨p1, p2⟩ <;> rcases Gq with Gq | ⟨q1, q2⟩
    · obtain ⟨e1, a1, b1⟩ := inws i p Gp
      obtain ⟨e2, a2, b2⟩ := inws j q Gq
      exact hD.1 i j e1 e2 a1 a2 (by rw [b1, b2, hpq])
    · obtain ⟨e1, a1, b1⟩ := inws i p Gp
      exact (newc j q e1 i q1 q2 a1 (by rw [b1, hpq])).elim
    · obtain ⟨e1, a1, b1⟩ := inws j q Gq
      exact (newc i p e1 j p1 p2 a1 (by rw [b1, hpq])).elim
    · have := hD1.1 _ _ p q p2 q2 hpq
      omega
  · rcases G i q hq with ⟨j, h1, h2⟩ | ⟨h1, h2⟩ | ⟨h1, h2⟩
    · exact hF _ (hD1.2 j q h2)
    · exact hD.2 i q h2
    · exact hF _ (hD1.2 _ q h2)
