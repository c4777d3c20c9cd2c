/-! doubles: the rows -/
abbrev U6 : Type := UInt64
def dI (a : Int) : UInt64 := FP.l2d (jI a)
/-- the double nearest to a quotient of whole numbers -/
def qB (a b : Int) : UInt64 := FP.ddiv (dI a) (dI b)
theorem nn64 {r : UInt64} (h : FP.Core.val64 r ≠ .nan) : vf_n64 r := by
  unfold vf_n64
  have h1 := (FP.Core.ne_nan r).mp h
  rw [UInt64.le_iff_toNat_le, UInt64.toNat_and]
  have e : (0x7fffffffffffffff : UInt64).toNat = 2 ^ 63 - 1 := by decide +kernel
  have e2 : (0x7ff0000000000000 : UInt64).toNat = 9218868437227405312 := by decide +kernel
  rw [e, e2, Nat.and_two_pow_sub_one_eq_mod]
  exact h1
theorem i2d_dI {a : Int} (h : -2147483648 ≤ a ∧ a < 2147483648) : FP.i2d (iI a) = dI a := by
  unfold dI
  show FP.Core.i2d (iI a) = FP.Core.l2d (jI a)
  unfold FP.Core.i2d FP.Core.l2d
  rw [iI_t h, jI_t (by omega)]
def dcz (x y : UInt64) (op : CmpOp) : Int := (Op.cmpValue (FP.dcmp x y) op).toInt
theorem dcz_r (x y : UInt64) (op : CmpOp) : -1 ≤ dcz x y op ∧ dcz x y op ≤ 1 := by
  unfold dcz Op.cmpValue
  cases FP.dcmp x y with
  | none => cases op <;> decide
  | some o => cases op <;> cases o <;> decide
theorem dcz_gt {x y : UInt64} : 0 < dcz x y .l ↔ FP.dcmp x y = some .gt := by
  unfold dcz Op.cmpValue
  cases FP.dcmp x y with
  | none => decide
  | some o => cases o <;> decide
theorem dcz_g {x y : UInt64} (h : FP.Core.val64 x ≠ .nan) (h2 : FP.Core.val64 y ≠ .nan) : (0 < dcz x y .g ↔ FP.Core.dkey y < FP.Core.dkey x) ∧ (dcz x y .g < 0 ↔ FP.Core.dkey x < FP.Core.dkey y) := by
  have e : FP.dcmp x y = some (compare (FP.Core.dkey x) (FP.Core.dkey y)) := FP.Core.dcmp_key h h2
  unfold dcz
  rw [e]
  rcases Int.lt_trichotomy (FP.Core.dkey x) (FP.Core.dkey y) with q | q | q
  · rw [(FP.Core.compare_lt_iff _ _).mpr q]; exact ⟨⟨fun z => absurd z (by decide), fun z => by omega⟩, fun _ => q, fun _ => by decide⟩
  · rw [(FP.Core.compare_eq_iff _ _).mpr q]; exact ⟨⟨fun z => absurd z (by decide), fun z => by omega⟩, fun z => absurd z (by decide), fun z => by omega⟩
  · rw [(FP.Core.compare_gt_iff _ _).mpr q]; exact ⟨⟨fun _ => q, fun _ => by decide⟩, fun z => absurd z (by decide), fun z => by omega⟩
section drows
variable {g : gD} {x : gX} {own : String} {cc : ByteArray} {nL fr ce sl lo : Nat} {ws : va_W} {k n : Nat} {lv : List (Nat × Value)} {pc : Nat} {st : List Value}
theorem g_l2d (C : gC g x own cc nL fr ce sl lo) {a : Int} (hd : decode cc pc = .ok (.l2d, 1)) (kk : gW g x ws k n lv (pc + 1) (.double (dI a) :: st)) : gW g x ws k n lv pc (vl a :: st) := by
  obtain ⟨⟨p, l, e, R, s, m, args, below, meth, c⟩, A, H0, nL', Q⟩ := x
  intro H locs ls hP hD hS hl
  exact lv_l2d C.1 C.2.1 hd (kk H locs ls hP hD hS hl)
theorem g_i2d (C : gC g x own cc nL fr ce sl lo) {a : Int} (hd : decode cc pc = .ok (.i2d, 1)) (ha : -2147483648 ≤ a ∧ a < 2147483648) (kk : gW g x ws k n lv (pc + 1) (.double (dI a) :: st)) : gW g x ws k n lv pc (vi a :: st) := by
  obtain ⟨⟨p, l, e, R, s, m, args, below, meth, c⟩, A, H0, nL', Q⟩ := x
  intro H locs ls hP hD hS hl
  refine lv_i2d C.1 C.2.1 hd ?_
  rw [i2d_dI ha]
  exact kk H locs ls hP hD hS hl
theorem g_ddiv (C : gC g x own cc nL fr ce sl lo) {a b : UInt64} (hd : decode cc pc = .ok (.ddiv, 1)) (hn : FP.Core.val64 (FP.ddiv a b) ≠ .nan) (kk : gW g x ws k n lv (pc + 1) (.double (FP.ddiv a b) :: st)) : gW g x ws k n lv pc (.double b :: .double a :: st) := by
  obtain ⟨⟨p, l, e, R, s, m, args, below, meth, c⟩, A, H0, nL', Q⟩ := x
  intro H locs ls hP hD hS hl
  exact lv_ddiv C.1 C.2.1 hd (nn64 hn) (kk H locs ls hP hD hS hl)
theorem g_dquo (C : gC g x own cc nL fr ce sl lo) {a b : Int} (hd : decode cc pc = .ok (.ddiv, 1)) (hn : FP.Core.val64 (qB a b) ≠ .nan) (kk : gW g x ws k n lv (pc + 1) (.double (qB a b) :: st)) : gW g x ws k n lv pc (.double (dI b) :: .double (dI a) :: st) := g_ddiv C hd hn kk
theorem g_dmul (C : gC g x own cc nL fr ce sl lo) {a b : UInt64} (hd : decode cc pc = .ok (.dmul, 1)) (hn : FP.Core.val64 (FP.dmul a b) ≠ .nan) (kk : gW g x ws k n lv (pc + 1) (.double (FP.dmul a b) :: st)) : gW g x ws k n lv pc (.double b :: .double a :: st) := by
  obtain ⟨⟨p, l, e, R, s, m, args, below, meth, c⟩, A, H0, nL', Q⟩ := x
  intro H locs ls hP hD hS hl
  exact lv_dmul C.1 C.2.1 hd (nn64 hn) (kk H locs ls hP hD hS hl)
theorem g_dcmp (C : gC g x own cc nL fr ce sl lo) {a b : UInt64} {op : CmpOp} (hd : decode cc pc = .ok (.dcmp op, 1)) (kk : gW g x ws k n lv (pc + 1) (vi (dcz a b op) :: st)) : gW g x ws k n lv pc (.double b :: .double a :: st) := by
  obtain ⟨⟨p, l, e, R, s, m, args, below, meth, c⟩, A, H0, nL', Q⟩ := x
  intro H locs ls hP hD hS hl
  have q := kk H locs ls hP hD hS hl
  unfold dcz at q
  rw [show vi ((Op.cmpValue (FP.dcmp a b) op).toInt) = Value.int (Op.cmpValue (FP.dcmp a b) op) from congrArg Value.int (iI_of _)] at q
  exact lv_dcmp C.1 C.2.1 hd q
theorem g_d2l (C : gC g x own cc nL fr ce sl lo) {a : UInt64} (hd : decode cc pc = .ok (.d2l, 1)) {z : Int} (hz : FP.d2l a = jI z) (kk : gW g x ws k n lv (pc + 1) (vl z :: st)) : gW g x ws k n lv pc (.double a :: st) := by
  obtain ⟨⟨p, l, e, R, s, m, args, below, meth, c⟩, A, H0, nL', Q⟩ := x
  intro H locs ls hP hD hS hl
  refine lv_d2l C.1 C.2.1 hd ?_
  rw [hz]
  exact kk H locs ls hP hD hS hl
theorem g_dconst0 (C : gC g x own cc nL fr ce sl lo) (hd : decode cc pc = .ok (.dconst 0, 1)) (kk : gW g x ws k n lv (pc + 1) (.double 0 :: st)) : gW g x ws k n lv pc st := by
  obtain ⟨⟨p, l, e, R, s, m, args, below, meth, c⟩, A, H0, nL', Q⟩ := x
  intro H locs ls hP hD hS hl
  exact lv_dconst0 C.1 C.2.1 hd (kk H locs ls hP hD hS hl)
theorem g_ldc2d (C : gC g x own cc nL fr ce sl lo) {ix : Nat} {v : UInt64} (hw : Cond.constantDouble own ix v ∈ wAll) (hd : decode cc pc = .ok (.ldc2_w ix, 3)) (kk : gW g x ws k n lv (pc + 3) (.double v :: st)) : gW g x ws k n lv pc st := by
  obtain ⟨⟨p, l, e, R, s, m, args, below, meth, c⟩, A, H0, nL', Q⟩ := x
  intro H locs ls hP hD hS hl
  exact lv_ldc2d C.1 C.2.1 C.2.2.2.2.1 (C.2.2.2.2.2.1 _ hw) hd (kk H locs ls hP hD hS hl)
theorem g_dload_n (C : gC g x own cc nL fr ce sl lo) {i : Fin 4} {v : UInt64} (q : Nat) (hd : decode cc pc = .ok (.dload_n i, 1)) (hv : lv[q]? = some ((i : Nat), .double v)) (kk : gW g x ws k n lv (pc + 1) (.double v :: st)) : gW g x ws k n lv pc st := by
  obtain ⟨⟨p, l, e, R, s, m, args, below, meth, c⟩, A, H0, nL', Q⟩ := x
  intro H locs ls hP hD hS hl
  exact lv_dload_n C.1 C.2.1 hd rfl (lv_at hl q hv) (kk H locs ls hP hD hS hl)
theorem g_dload (C : gC g x own cc nL fr ce sl lo) {i : Nat} {v : UInt64} (q : Nat) (hd : decode cc pc = .ok (.dload i, 2)) (hv : lv[q]? = some (i, .double v)) (kk : gW g x ws k n lv (pc + 2) (.double v :: st)) : gW g x ws k n lv pc st := by
  obtain ⟨⟨p, l, e, R, s, m, args, below, meth, c⟩, A, H0, nL', Q⟩ := x
  intro H locs ls hP hD hS hl
  exact lv_dload C.1 C.2.1 hd (lv_at hl q hv) (kk H locs ls hP hD hS hl)
theorem g_dstore_n (C : gC g x own cc nL fr ce sl lo) {i : Fin 4} {v : UInt64} (lv' : List (Nat × Value)) (hd : decode cc pc = .ok (.dstore_n i, 1)) (hn : (i : Nat) + 1 < nL) (hl' : ((i : Nat), Value.double v) :: lv.filter (fun q => !(q.1 == (i : Nat)) && (!(q.1 == (i : Nat) + 1) && !(q.1 + 1 == (i : Nat) && q.2.category == 2))) = lv') (kk : gW g x ws k n lv' (pc + 1) st) : gW g x ws k n lv pc (.double v :: st) := by
  obtain ⟨⟨p, l, e, R, s, m, args, below, meth, c⟩, A, H0, nL', Q⟩ := x
  intro H locs ls hP hD hS hl
  obtain ⟨h1, h2, h3, h4, -⟩ := C
  exact lv_dstore_n h1 h2 hd rfl hl (by rw [h4]; exact hn) hl' (fun ls hl => kk H locs ls hP hD hS hl)
theorem g_dstore (C : gC g x own cc nL fr ce sl lo) {i : Nat} {v : UInt64} (lv' : List (Nat × Value)) (hd : decode cc pc = .ok (.dstore i, 2)) (hn : i + 1 < nL) (hl' : (i, Value.double v) :: lv.filter (fun q => !(q.1 == i) && (!(q.1 == i + 1) && !(q.1 + 1 == i && q.2.category == 2))) = lv') (kk : gW g x ws k n lv' (pc + 2) st) : gW g x ws k n lv pc (.double v :: st) := by
  obtain ⟨⟨p, l, e, R, s, m, args, below, meth, c⟩, A, H0, nL', Q⟩ := x
  intro H locs ls hP hD hS hl
  obtain ⟨h1, h2, h3, h4, -⟩ := C
  exact lv_dstore h1 h2 hd hl (by rw [h4]; exact hn) hl' (fun ls hl => kk H locs ls hP hD hS hl)
theorem g_lshl (C : gC g x own cc nL fr ce sl lo) {a : Int} (hd : decode cc pc = .ok (.lshl, 1)) (z : Int) (hz : jI a <<< ((iI 52).toInt64 &&& 63) = jI z) (kk : gW g x ws k n lv (pc + 1) (vl z :: st)) : gW g x ws k n lv pc (vi 52 :: vl a :: st) := by
  obtain ⟨⟨p, l, e, R, s, m, args, below, meth, c⟩, A, H0, nL', Q⟩ := x
  intro H locs ls hP hD hS hl
  exact lv_lshl C.1 C.2.1 hd hz (kk H locs ls hP hD hS hl)
theorem g_land (C : gC g x own cc nL fr ce sl lo) {a b : Int} (hd : decode cc pc = .ok (.land, 1)) (z : Int) (hz : jI a &&& jI b = jI z) (kk : gW g x ws k n lv (pc + 1) (vl z :: st)) : gW g x ws k n lv pc (vl b :: vl a :: st) := by
  obtain ⟨⟨p, l, e, R, s, m, args, below, meth, c⟩, A, H0, nL', Q⟩ := x
  intro H locs ls hP hD hS hl
  refine lv_land C.1 C.2.1 hd ?_
  rw [hz]
  exact kk H locs ls hP hD hS hl
theorem g_lor (C : gC g x own cc nL fr ce sl lo) {a b : Int} (hd : decode cc pc = .ok (.lor, 1)) (z : Int) (hz : jI a ||| jI b = jI z) (kk : gW g x ws k n lv (pc + 1) (vl z :: st)) : gW g x ws k n lv pc (vl b :: vl a :: st) := by
  obtain ⟨⟨p, l, e, R, s, m, args, below, meth, c⟩, A, H0, nL', Q⟩ := x
  intro H locs ls hP hD hS hl
  refine lv_lor C.1 C.2.1 hd ?_
  rw [hz]
  exact kk H locs ls hP hD hS hl
theorem g_dretM (C : gC g x own cc nL fr ce sl lo) {ws0 w : va_W} {r z : UInt64} (hR : gR g x (some .double) k n ws0 (gM (some (.double r)) w)) (hd : decode cc pc = .ok (.dreturn, 1)) (hz : z = r) (hw : ws = w) (ha : w.map Prod.fst = ws0.map Prod.fst) : gW g x ws k n lv pc [.double z] := by
  subst hz; subst hw
  exact g_dret C hR hd ⟨rfl, rfl⟩ (by rw [ha]; simp)
end drows
theorem jI_nat {a : Int} (h : 0 ≤ a ∧ a < 9223372036854775808) : (jI a).toBitVec.toNat = a.toNat := by
  have e := jI_t (z := a) (by omega)
  have e2 : (jI a).toBitVec.toInt = a := e
  have := BitVec.toInt_eq_toNat_cond (jI a).toBitVec
  rw [e2] at this
  have h9 := (jI a).toBitVec.isLt
  split at this <;> omega
theorem jI_bv {x : Int64} {z : Int} (h : 0 ≤ z ∧ z < 9223372036854775808) (e : x.toBitVec.toNat = z.toNat) : x = jI z := by
  have : x.toBitVec = (jI z).toBitVec := BitVec.eq_of_toNat_eq (by rw [jI_nat h]; exact e)
  exact Int64.toBitVec_inj.mp this
theorem jI_and52 {a : Int} (h : 0 ≤ a ∧ a < 9223372036854775808) : jI a &&& jI 4503599627370495 = jI (a % 4503599627370496) := by
  refine jI_bv (by omega) ?_
  rw [Int64.toBitVec_and, BitVec.toNat_and, jI_nat h, jI_nat (by omega)]
  have e : (4503599627370495 : Int).toNat = 2 ^ 52 - 1 := by decide +kernel
  rw [e, Nat.and_two_pow_sub_one_eq_mod]
  omega
theorem jI_shl52 {a : Int} (h : 0 ≤ a ∧ a < 2048) : jI a <<< ((iI 52).toInt64 &&& 63) = jI (a * 4503599627370496) := by
  have e : (iI 52).toInt64 &&& 63 = 52 := by decide +kernel
  rw [e, ← jI_mul]
  refine Int64.toBitVec_inj.mp ?_
  rw [Int64.toBitVec_mul, Int64.toBitVec_shiftLeft]
  have e2 : (jI 4503599627370496).toBitVec = BitVec.twoPow 64 52 := by decide +kernel
  rw [e2, BitVec.mul_twoPow_eq_shiftLeft]
  rfl
theorem jI_or52 {a b : Int} (ha : 0 ≤ a ∧ a < 2048) (hb : 0 ≤ b ∧ b < 4503599627370496) : jI (a * 4503599627370496) ||| jI b = jI (a * 4503599627370496 + b) := by
  refine jI_bv (by omega) ?_
  rw [Int64.toBitVec_or, BitVec.toNat_or, jI_nat (by omega), jI_nat (by omega)]
  have e : (a * 4503599627370496).toNat = a.toNat <<< 52 := by rw [Nat.shiftLeft_eq]; omega
  rw [e, ← Nat.shiftLeft_add_eq_or_of_lt (by omega), Nat.shiftLeft_eq]
  omega
