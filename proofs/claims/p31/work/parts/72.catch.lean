/-! a handler takes it -/
def gTab (x : gX) (tbl : List ExceptionTableEntry) : Prop := match x with
  | ((p, l, e, R, s, m, args, below, meth, c), (A, H0, nL, Q)) => c.exceptionTable.toList = tbl
section rows
variable {g : gD} {x : gX} {own : String} {cc : ByteArray} {nL fr ce sl lo : Nat} {ws : va_W} {k n : Nat} {lv : List (Nat × Value)} {pc : Nat} {rest : List Value}
theorem g_catch (C : gC g x own cc nL fr ce sl lo) (hZ : gZx x) {tbl : List ExceptionTableEntry} (hT : gTab x tbl) {E name : String} (pre : List ExceptionTableEntry) (x9 : ExceptionTableEntry) (suf : List ExceptionTableEntry) (hsplit : tbl = pre ++ x9 :: suf)
    (hpass : ∀ z ∈ pre, covers z pc = false ∨ (z.catchType ≠ 0 ∧ ∃ nm : String, Cond.classLink own z.catchType nm ∈ wAll ∧ (E, nm) ∈ wNc)) (hx : covers x9 pc = true) (h0 : x9.catchType ≠ 0) (hlink : Cond.classLink own x9.catchType name ∈ wAll) (hcast : Cond.castable E name ∈ wCast)
    (kk : ∀ q : Nat, gW g x ws k n lv x9.handlerPc [.ref q]) : gV g x E ws k n lv pc rest := by
  obtain ⟨⟨p, l, e, R, s, m, args, below, meth, c⟩, A, H0, nL', Q⟩ := x
  intro H locs ls q ce2 hce hcv hcl hP hD hS hl
  obtain ⟨h1, h2, h3, h4, h5, h6, h7, h8, h9⟩ := C
  obtain ⟨z1, z2, z3, z4, z5⟩ := hZ
  have hk : (Cond.castable E name).before args s = true := z3 _ hcast
  exact vx_catch h5 pre x9 suf (hT.trans hsplit) (fun z hz => (hpass z hz).imp id (fun ⟨a, nm, b, d⟩ => ⟨a, nm, h6 _ b, z5 _ d⟩)) hx h0 (h6 _ hlink) hk hce hcv hcl (kk q H locs ls hP hD hS hl)
end rows
