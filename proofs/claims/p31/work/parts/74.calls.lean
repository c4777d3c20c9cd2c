/-! a static call of a method with handlers -/
def gYz (y : MethodName) (cc : ByteArray) (mL : Nat) (ret : Option FieldType) (hh : List (Nat × Nat × Nat × Nat)) (n : Nat) : Prop := Cond.static y ∈ wAll ∧ Cond.initialized y.cls ∈ wAll ∧ Cond.codeWith y cc mL ret hh ∈ wAll ∧ (y.cls ≠ "java/lang/invoke/MethodHandle" ∧ y.cls ≠ "java/lang/invoke/VarHandle" ∧ (parseMethodDescriptor y.desc).map (fun d => d.parameters.length) = some n)
theorem g_goodZ {own : String} {ix : Nat} {y : MethodName} {cc : ByteArray} {mL : Nat} {ret : Option FieldType} {hh : List (Nat × Nat × Nat × Nat)} {n : Nat} (hl : Cond.methodLink own ix y ∈ wAll) (hY : gYz y cc mL ret hh n) : GoodIn wAll (va_wsS own ix y (.codeWith y cc mL ret hh :: wAll)) := by
  obtain ⟨h1, h2, h3, -⟩ := hY
  intro w hw
  have hm : w ∈ wAll := by
    simp only [va_wsS, List.mem_append, List.mem_cons, List.not_mem_nil, or_false] at hw
    rcases hw with (rfl | rfl | rfl) | rfl | hw <;> assumption
  exact ⟨hm, good_of_word (wAll_good w hm)⟩
section rows
variable {g : gD} {x : gX} {own : String} {cc : ByteArray} {nL fr ce sl lo : Nat} {ws wc : va_W} {k n : Nat} {lv : List (Nat × Value)} {pc : Nat} {st : List Value}
theorem g_callSZ (C : gC g x own cc nL fr ce sl lo) (hZ : gZx x) {y : MethodName} {cy : ByteArray} {mL n' fr' mc ms lo' ix : Nat} {ret : Option FieldType} {hh : List (Nat × Nat × Nat × Nat)} {Post : Option Value → va_W → Prop} (As rest : List Value) (hM : gMetZ x.1.2.1 g y cy mL ret hh fr' mc ms lo' As wc Post) (hY : gYz y cy mL ret hh n') (hl : Cond.methodLink own ix y ∈ wAll) (isC : List Nat) (hC : isC.map (fun i => ws[i]?) = wc.map some) (hnd : va_nd isC = true) (hst : st = As.reverse ++ rest) (hcat : (rest.map fun v => v.category).sum ≤ 8) (hn : As.length = n') (hroom : fr' + 1 ≤ fr ∧ 8 + (mL + 11) + lo' ≤ lo ∧ k + mc ≤ ce ∧ n + ms ≤ sl) (hd : decode cc pc = .ok (.invokestatic ix, 3))
    (kk : ∀ (v : Option Value) (w1 : va_W), Post v w1 → gW g x (putAll ws isC w1) (k + mc) (n + ms) lv (pc + 3) (v.toList ++ rest)) : gW g x ws k n lv pc st := by
  obtain ⟨⟨p, l, e, R, s, m, args, below, meth, c⟩, A, H0, nL', Q⟩ := x
  intro H locs ls hP hD hS hlv
  obtain ⟨h1, h2, h3, h4, h5, h6, h7, h8, h9⟩ := C
  subst h9; subst hst
  have hDc := hD.sub isC hnd hC
  have hF := va_free hD hS h8 isC hC
  have hPc : va_P g.1 vwCl wc H := fun j q hq => by
    have h0 : (isC.map (fun i => ws[i]?))[j]? = some (some q) := by rw [hC, List.getElem?_map, hq]; rfl
    rw [List.getElem?_map] at h0
    cases hi : isC[j]? with
    | none => rw [hi] at h0; cases h0
    | some i => rw [hi] at h0; exact hP i q (Option.some.inj h0)
  have hZH : gZ A s H := gZ.kept hZ (fun q h1 h2 => hS.2.1 q h1 h2)
  refine g_after (vx_runSW (As := As) (rest := rest) ⟨h1, h2, h3, h5, h6⟩ (hM H.size) (vx_cwSW n' h6 (g_goodZ hl hY) rfl rfl rfl hY.2.2.2 ⟨hroom.1, hroom.2.1⟩)
    ⟨?_, fun U hU hW => ⟨rfl, gE.moved hW h7, by rw [hU]; exact (gZ.moved hW hZH).narrow hF, by rw [hU], by rw [hU]; exact hPc, hDc.weaken (fun _ _ _ _ => trivial)⟩⟩ rfl hn hlv.1 rfl (lv_room hcat) hd ⟨hroom.2.2.1, hroom.2.2.2⟩) hP hD hS h8 hlv isC hC kk
  exact fun _ U _ _ q => ⟨q.1, gE.moved (State.WarmedH.refl U) q.2.1, gZ.moved (State.WarmedH.refl U) q.2.2.1, q.2.2.2⟩
end rows
