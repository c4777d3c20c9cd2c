/-! bits, as the law takes them -/
def an9 (a b : Int) : Int := (iI a &&& iI b).toInt
def sh9 (a b : Int) : Int := (iI a >>> (iI b &&& 31)).toInt
theorem an9_r (a b : Int) : -2147483648 ≤ an9 a b ∧ an9 a b < 2147483648 := iI_r _
theorem sh9_r (a b : Int) : -2147483648 ≤ sh9 a b ∧ sh9 a b < 2147483648 := iI_r _
theorem an9_m (v : Int) : 0 ≤ an9 v 2147483647 ∧ an9 v 2147483647 < 2147483648 := by
  have h2 := pk_and (iI v) (m := 2147483647) 31 (by decide)
  have e9 : iI 2147483647 = (2147483647 : Int32) := by decide +kernel
  have e0 : iI v &&& iI 2147483647 = nI ((iI v).toBitVec.toNat % 2 ^ 31) := by rw [e9]; exact h2
  have e1 : nI ((iI v).toBitVec.toNat % 2 ^ 31) = iI (((iI v).toBitVec.toNat % 2 ^ 31 : Nat) : Int) := Int32.ofInt_eq_ofNat.symm
  have e2 : (iI v).toBitVec.toNat % 2 ^ 31 < 2147483648 := Nat.mod_lt _ (by decide)
  have e3 : (iI (((iI v).toBitVec.toNat % 2 ^ 31 : Nat) : Int)).toInt = (((iI v).toBitVec.toNat % 2 ^ 31 : Nat) : Int) := by
    generalize (iI v).toBitVec.toNat % 2 ^ 31 = q at e2 ⊢
    exact iI_t (by omega)
  have e4 : an9 v 2147483647 = (((iI v).toBitVec.toNat % 2 ^ 31 : Nat) : Int) := by unfold an9; rw [e0, e1]; exact e3
  rw [e4]
  generalize (iI v).toBitVec.toNat % 2 ^ 31 = q at e2 ⊢
  omega
def wJ (z : Int) : Int := (jI z).toInt
theorem wJ_r (z : Int) : -9223372036854775808 ≤ wJ z ∧ wJ z < 9223372036854775808 := jI_r (jI z)
def lo9 (v n : Int) : Int := an9 v 2147483647 % n
theorem lo9_r (v : Int) {n : Int} (hn : 0 < n) : 0 ≤ lo9 v n ∧ lo9 v n < n := ⟨Int.emod_nonneg _ (by omega), Int.emod_lt_of_pos _ hn⟩
section rows
variable {g : gD} {x : gX} {own : String} {cc : ByteArray} {nL fr ce sl lo : Nat} {ws : va_W} {k n : Nat} {lv : List (Nat × Value)} {pc : Nat} {st : List Value}
theorem g_iandY (C : gC g x own cc nL fr ce sl lo) {a b : Int} (hd : decode cc pc = .ok (.iand, 1)) (kk : gW g x ws k n lv (pc + 1) (vi (an9 a b) :: st)) : gW g x ws k n lv pc (vi b :: vi a :: st) := by
  obtain ⟨⟨p, l, e, R, s, m, args, below, meth, c⟩, A, H0, nL', Q⟩ := x
  intro H locs ls hP hD hS hl
  refine lv_iand C.1 C.2.1 hd ?_
  have e := (iI_of (iI a &&& iI b)).symm
  rw [e]
  exact kk H locs ls hP hD hS hl
theorem g_ishrY (C : gC g x own cc nL fr ce sl lo) {a b : Int} (hd : decode cc pc = .ok (.ishr, 1)) (kk : gW g x ws k n lv (pc + 1) (vi (sh9 a b) :: st)) : gW g x ws k n lv pc (vi b :: vi a :: st) := by
  obtain ⟨⟨p, l, e, R, s, m, args, below, meth, c⟩, A, H0, nL', Q⟩ := x
  intro H locs ls hP hD hS hl
  refine lv_ishr C.1 C.2.1 hd ?_
  have e := (iI_of (iI a >>> (iI b &&& 31))).symm
  rw [e]
  exact kk H locs ls hP hD hS hl
theorem g_wrap {a : Int} (kk : gW g x ws k n lv pc (vi (wI a) :: st)) : gW g x ws k n lv pc (vi a :: st) := by
  have e : vi a = vi (wI a) := by show Value.int (iI a) = Value.int (iI (wI a)); rw [iI_wI]
  rw [e]; exact kk
theorem g_wrapl {a : Int} (kk : gW g x ws k n lv pc (vl (wJ a) :: st)) : gW g x ws k n lv pc (vl a :: st) := by
  have e : vl a = vl (wJ a) := by show Value.long (jI a) = Value.long (jI (jI a).toInt); rw [jI_of]
  rw [e]; exact kk
/-- equal, whatever they are -/
theorem g_icmpSn (C : gC g x own cc nL fr ce sl lo) {a off : Int} (tgt : Nat) (hd : decode cc pc = .ok (.if_icmp .ne off, 3)) (ht : (pc : Int) + off = (tgt : Int)) (kk : gW g x ws k n lv (pc + 3) st) : gW g x ws k n lv pc (vi a :: vi a :: st) := by
  have e : vi a = vi (wI a) := by show Value.int (iI a) = Value.int (iI (wI a)); rw [iI_wI]
  rw [e]
  exact g_icmp_ne C tgt hd ht (wI_r a) (wI_r a) (fun c => absurd rfl c) (fun _ => kk)
end rows
/-! the calls over two worlds -/
def pOa (g : gD) (B : Nat → Nat) (S2 : Nat → Int → Int) (r : Value) (c : Prop) (R : va_W) : Option Value → va_W → Prop := fun v9 w9 => c ∧ ∃ X2, v9 = some r ∧ w9 = wP g B S2 X2 ++ R ∧ iv9 S2 X2
def pOb (g : gD) (B : Nat → Nat) (S2 : Nat → Int → Int) (r : Value) (c : Prop) (R : va_W) : Option Value → va_W → Prop := fun v9 w9 => c ∧ ∃ X2, v9 = some r ∧ w9 = R ++ wP g B S2 X2 ∧ iv9 S2 X2
section two
variable {l : Launch} {g : gD} {y : MethodName} {cc : ByteArray} {maxL : Nat} {ret : Option FieldType} {hh : List (Nat × Nat × Nat × Nat)} {fr mc ms lo : Nat} {args : List Value} {B : Nat → Nat} {S X S2 : Nat → Int → Int} {r : Value} {c : Prop}
theorem wZ_a (hM : gMetZ l g y cc maxL ret hh fr mc ms lo args (wP g B S X) (pO g B S2 r c)) (D : Nat → Nat) (T Y : Nat → Int → Int) : gMetZ l g y cc maxL ret hh fr mc ms lo args (wP g B S X ++ wP g D T Y) (pOa g B S2 r c (wP g D T Y)) :=
  hM.frame _ isP (hCA g B D S X T Y) ndP (by rintro v9 w9 ⟨hc, X2, rfl, rfl, hI⟩; rw [puA]; exact ⟨⟨hc, X2, rfl, rfl, hI⟩, rfl⟩)
theorem wZ_b (hM : gMetZ l g y cc maxL ret hh fr mc ms lo args (wP g B S X) (pO g B S2 r c)) (D : Nat → Nat) (T Y : Nat → Int → Int) : gMetZ l g y cc maxL ret hh fr mc ms lo args (wP g D T Y ++ wP g B S X) (pOb g B S2 r c (wP g D T Y)) :=
  hM.frame _ isQ (hCB g B D S X T Y) ndQ (by rintro v9 w9 ⟨hc, X2, rfl, rfl, hI⟩; rw [puB]; exact ⟨⟨hc, X2, rfl, rfl, hI⟩, rfl⟩)
theorem wM_a (hM : gMet l g y cc maxL ret fr mc ms lo args (wP g B S X) (pO g B S2 r c)) (D : Nat → Nat) (T Y : Nat → Int → Int) : gMet l g y cc maxL ret fr mc ms lo args (wP g B S X ++ wP g D T Y) (pOa g B S2 r c (wP g D T Y)) :=
  hM.frame _ isP (hCA g B D S X T Y) ndP (by rintro v9 w9 ⟨hc, X2, rfl, rfl, hI⟩; rw [puA]; exact ⟨⟨hc, X2, rfl, rfl, hI⟩, rfl⟩)
theorem wM_b (hM : gMet l g y cc maxL ret fr mc ms lo args (wP g B S X) (pO g B S2 r c)) (D : Nat → Nat) (T Y : Nat → Int → Int) : gMet l g y cc maxL ret fr mc ms lo args (wP g D T Y ++ wP g B S X) (pOb g B S2 r c (wP g D T Y)) :=
  hM.frame _ isQ (hCB g B D S X T Y) ndQ (by rintro v9 w9 ⟨hc, X2, rfl, rfl, hI⟩; rw [puB]; exact ⟨⟨hc, X2, rfl, rfl, hI⟩, rfl⟩)
theorem wQ_a (hM : gMetQ l g y cc maxL ret fr mc ms lo args (wP g B S X) (pO g B S2 r c)) (D : Nat → Nat) (T Y : Nat → Int → Int) : gMetQ l g y cc maxL ret fr mc ms lo args (wP g B S X ++ wP g D T Y) (pOa g B S2 r c (wP g D T Y)) :=
  hM.frame _ isP (hCA g B D S X T Y) ndP (by rintro v9 w9 ⟨hc, X2, rfl, rfl, hI⟩; rw [puA]; exact ⟨⟨hc, X2, rfl, rfl, hI⟩, rfl⟩)
theorem wQ_b (hM : gMetQ l g y cc maxL ret fr mc ms lo args (wP g B S X) (pO g B S2 r c)) (D : Nat → Nat) (T Y : Nat → Int → Int) : gMetQ l g y cc maxL ret fr mc ms lo args (wP g D T Y ++ wP g B S X) (pOb g B S2 r c (wP g D T Y)) :=
  hM.frame _ isQ (hCB g B D S X T Y) ndQ (by rintro v9 w9 ⟨hc, X2, rfl, rfl, hI⟩; rw [puB]; exact ⟨⟨hc, X2, rfl, rfl, hI⟩, rfl⟩)
end two

set_option maxHeartbeats 4000000 in
set_option maxRecDepth 100000 in
theorem c_L_low (l : Launch) (g : gD) (v : Int) (n : Int) (hn : 0 < n ∧ n < 2147483648) : gMet l g yL_low cL_low 2 (some .int) 0 0 0 0 [vi v, vi n] [] (gM (some (vi (lo9 v n))) []) := by
  refine gMet.of y_L_low.2.2.2.1 (Nat.le_of_ble_eq_true rfl) ?_
  intro x hlx C hR hnm
  subst hlx
  have C : gC g x RL cL_low 2 0 0 0 0 := C
  show gW g x [] 0 0 [(0, vi v), (1, vi n)] 0 []
  refine g_iload_n C 0 dL_low_0 rfl ?_
  refine g_ldc C (2147483647) n_L_7 (by decide) dL_low_1 ?_
  refine g_iandY C dL_low_3 ?_
  refine g_iload_n C 1 dL_low_4 rfl ?_
  refine g_irem C dL_low_5 (an9_m v) (by omega) ?_
  exact g_iretM C hR dL_low_6 (by first | rfl | omega) rfl rfl

def od9 (v : Int) : Int := if lo9 (sh9 v 26) 14 = 0 then 1 else 0
def pe9 (v : Int) : Int := if od9 v = 0 then lo9 (sh9 v 4) 3 else lo9 (sh9 v 4) 6 - 1
def ho9 (v : Int) : Int := if od9 v = 0 then 40 * lo9 (sh9 v 6) 12 + lo9 (sh9 v 9) 40 else sh9 v 6
def la9 (v : Int) : Int := if od9 v = 0 then lo9 (sh9 v 7) 3 else lo9 (sh9 v 7) 8 - 1
def on9 (v : Int) : Int := if od9 v = 0 then lo9 (sh9 v 10) 4 else lo9 (sh9 v 10) 9 - 1
def ot9 (v : Int) : Int := if od9 v = 0 then lo9 (sh9 v 13) 5 else lo9 (sh9 v 13) 9 - 1
def mu9 (v : Int) : Int := if od9 v = 0 then lo9 (sh9 v 5) 4000 else sh9 v 5
def fe9 (v : Int) : Int := if od9 v = 0 then lo9 (sh9 v 12) 4 else lo9 (sh9 v 12) 14 - 2
theorem pe9_r (v : Int) : -2147483648 ≤ pe9 v ∧ pe9 v < 2147483648 := by
  have h0 := lo9_r (sh9 v 4) (n := 3) (by decide); have h1 := lo9_r (sh9 v 4) (n := 6) (by decide); have h2 := sh9_r v 4
  unfold pe9; split <;> omega
theorem ho9_r (v : Int) : -2147483648 ≤ ho9 v ∧ ho9 v < 2147483648 := by
  have h0 := lo9_r (sh9 v 6) (n := 12) (by decide); have h1 := lo9_r (sh9 v 9) (n := 40) (by decide); have h2 := sh9_r v 6; have h3 := sh9_r v 9
  unfold ho9; split <;> omega
theorem la9_r (v : Int) : -2147483648 ≤ la9 v ∧ la9 v < 2147483648 := by
  have h0 := lo9_r (sh9 v 7) (n := 3) (by decide); have h1 := lo9_r (sh9 v 7) (n := 8) (by decide); have h2 := sh9_r v 7
  unfold la9; split <;> omega
theorem on9_r (v : Int) : -2147483648 ≤ on9 v ∧ on9 v < 2147483648 := by
  have h0 := lo9_r (sh9 v 10) (n := 4) (by decide); have h1 := lo9_r (sh9 v 10) (n := 9) (by decide); have h2 := sh9_r v 10
  unfold on9; split <;> omega
theorem ot9_r (v : Int) : -2147483648 ≤ ot9 v ∧ ot9 v < 2147483648 := by
  have h0 := lo9_r (sh9 v 13) (n := 5) (by decide); have h1 := lo9_r (sh9 v 13) (n := 9) (by decide); have h2 := sh9_r v 13
  unfold ot9; split <;> omega
theorem mu9_r (v : Int) : -2147483648 ≤ mu9 v ∧ mu9 v < 2147483648 := by
  have h0 := lo9_r (sh9 v 5) (n := 4000) (by decide); have h1 := sh9_r v 5
  unfold mu9; split <;> omega
theorem fe9_r (v : Int) : -2147483648 ≤ fe9 v ∧ fe9 v < 2147483648 := by
  have h0 := lo9_r (sh9 v 12) (n := 4) (by decide); have h1 := lo9_r (sh9 v 12) (n := 14) (by decide); have h2 := sh9_r v 12
  unfold fe9; split <;> omega
theorem ho9_nn {v : Int} (h : od9 v = 0) : 0 ≤ ho9 v ∧ ho9 v < 2147483648 := by
  have h1 := lo9_r (sh9 v 6) (n := 12) (by decide)
  have h2 := lo9_r (sh9 v 9) (n := 40) (by decide)
  unfold ho9; rw [if_pos h]; omega
theorem mu9_b {v : Int} : od9 v = 0 → 0 ≤ mu9 v ∧ mu9 v < 4000 := fun h => by
  have h1 := lo9_r (sh9 v 5) (n := 4000) (by decide)
  unfold mu9; rw [if_pos h]; omega
theorem od9_r (v : Int) : 0 ≤ od9 v ∧ od9 v ≤ 1 := by unfold od9; split <;> omega

