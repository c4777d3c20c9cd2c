/-! numbers: values of the machine as images of whole numbers -/
def iI (z : Int) : Int32 := Int32.ofInt z
def jI (z : Int) : Int64 := Int64.ofInt z
abbrev vi (z : Int) : Value := .int (iI z)
abbrev vl (z : Int) : Value := .long (jI z)
def aI (F : Int → Int) : Nat → Int32 := fun k => iI (F k)
def aJ (F : Int → Int) : Nat → Int64 := fun k => jI (F k)
def up (F : Int → Int) (i v : Int) : Int → Int := fun j => if j = i then v else F j
theorem up_s {F : Int → Int} {i v : Int} : up F i v i = v := by simp [up]
theorem up_n {F : Int → Int} {i j v : Int} (h : j ≠ i) : up F i v j = F j := by simp [up, h]
theorem iI_of (x : Int32) : iI x.toInt = x := Int32.ofInt_toInt x
theorem jI_of (x : Int64) : jI x.toInt = x := Int64.ofInt_toInt x
theorem iI_t {z : Int} (h : -2147483648 ≤ z ∧ z < 2147483648) : (iI z).toInt = z := Int32.toInt_ofInt_of_le (by omega) (by omega)
theorem jI_t {z : Int} (h : -9223372036854775808 ≤ z ∧ z < 9223372036854775808) : (jI z).toInt = z := Int64.toInt_ofInt_of_le (by omega) (by omega)
theorem iI_r (x : Int32) : -2147483648 ≤ x.toInt ∧ x.toInt < 2147483648 := ⟨by have := x.minValue_le_toInt; simpa using this, by have := x.toInt_lt; simpa using this⟩
theorem iI_add (a b : Int) : iI a + iI b = iI (a + b) := (Int32.ofInt_add a b).symm
theorem iI_sub (a b : Int) : iI a - iI b = iI (a - b) := (Int32.ofInt_sub a b).symm
theorem iI_mul (a b : Int) : iI a * iI b = iI (a * b) := (Int32.ofInt_mul a b).symm
theorem iI_neg (a : Int) : - iI a = iI (-a) := (Int32.ofInt_neg a).symm
theorem jI_add (a b : Int) : jI a + jI b = jI (a + b) := (Int64.ofInt_add a b).symm
theorem jI_sub (a b : Int) : jI a - jI b = jI (a - b) := (Int64.ofInt_sub a b).symm
theorem jI_mul (a b : Int) : jI a * jI b = jI (a * b) := (Int64.ofInt_mul a b).symm
theorem iI_lt {a b : Int} (ha : -2147483648 ≤ a ∧ a < 2147483648) (hb : -2147483648 ≤ b ∧ b < 2147483648) : iI a < iI b ↔ a < b := by rw [Int32.lt_iff_toInt_lt, iI_t ha, iI_t hb]
theorem iI_le {a b : Int} (ha : -2147483648 ≤ a ∧ a < 2147483648) (hb : -2147483648 ≤ b ∧ b < 2147483648) : iI a ≤ iI b ↔ a ≤ b := by rw [Int32.le_iff_toInt_le, iI_t ha, iI_t hb]
theorem iI_eq {a b : Int} (ha : -2147483648 ≤ a ∧ a < 2147483648) (hb : -2147483648 ≤ b ∧ b < 2147483648) : iI a = iI b ↔ a = b := by rw [← Int32.toInt_inj, iI_t ha, iI_t hb]
theorem jI_lt {a b : Int} (ha : -9223372036854775808 ≤ a ∧ a < 9223372036854775808) (hb : -9223372036854775808 ≤ b ∧ b < 9223372036854775808) : jI a < jI b ↔ a < b := by rw [Int64.lt_iff_toInt_lt, jI_t ha, jI_t hb]
theorem jI_eq {a b : Int} (ha : -9223372036854775808 ≤ a ∧ a < 9223372036854775808) (hb : -9223372036854775808 ≤ b ∧ b < 9223372036854775808) : jI a = jI b ↔ a = b := by rw [← Int64.toInt_inj, jI_t ha, jI_t hb]
theorem iI_0 : iI 0 = 0 := rfl
theorem iI_ge0 {a : Int} (ha : -2147483648 ≤ a ∧ a < 2147483648) : iI a < 0 ↔ a < 0 := iI_lt (b := 0) ha (by omega)
theorem iI_clamp {z : Int} (h0 : 0 ≤ z) (h : z < 2147483648) : (((iI z).toNatClampNeg : Nat) : Int) = z := by
  rw [show (iI z).toNatClampNeg = z.toNat from Int32.toNatClampNeg_ofInt_of_le (by omega) (by omega)]
  omega
theorem iI_in {z : Int} {n : Nat} (h0 : 0 ≤ z) (h : z < n) (hn : n < 2147483648) : vp_in (iI z) n := by
  rintro (q | q)
  · rw [iI_ge0 (by omega)] at q; omega
  · have := iI_clamp h0 (by omega : z < 2147483648); omega
theorem iI_div {a b : Int} (ha : 0 ≤ a ∧ a < 2147483648) (hb : 0 < b ∧ b < 2147483648) : iI a / iI b = iI (a / b) := by
  rw [← Int32.toInt_inj, Int32.toInt_div_of_ne_left, iI_t (by omega), iI_t (by omega), Int.tdiv_eq_ediv_of_nonneg ha.1]
  · have h1 : 0 ≤ a / b := Int.ediv_nonneg ha.1 (by omega)
    have h2 : a / b ≤ a := Int.ediv_le_self _ ha.1
    rw [iI_t (by omega)]
  · intro h
    have h2 := congrArg Int32.toInt h
    rw [iI_t (by omega)] at h2
    rw [show Int32.minValue.toInt = -2147483648 by decide] at h2
    omega
theorem jI_div {a b : Int} (ha : 0 ≤ a ∧ a < 9223372036854775808) (hb : 0 < b ∧ b < 9223372036854775808) : jI a / jI b = jI (a / b) := by
  rw [← Int64.toInt_inj, Int64.toInt_div_of_ne_left, jI_t (by omega), jI_t (by omega), Int.tdiv_eq_ediv_of_nonneg ha.1]
  · have h1 : 0 ≤ a / b := Int.ediv_nonneg ha.1 (by omega)
    have h2 : a / b ≤ a := Int.ediv_le_self _ ha.1
    rw [jI_t (by omega)]
  · intro h
    have h2 := congrArg Int64.toInt h
    rw [jI_t (by omega)] at h2
    rw [show Int64.minValue.toInt = -9223372036854775808 by decide] at h2
    omega
theorem iI_rem {a b : Int} (ha : 0 ≤ a ∧ a < 2147483648) (hb : 0 < b ∧ b < 2147483648) : iI a - iI a / iI b * iI b = iI (a % b) := by
  rw [iI_div ha hb, iI_mul, iI_sub]
  congr 1
  have := Int.emod_add_mul_ediv a b
  rw [Int.mul_comm] at this
  omega
theorem jI_rem {a b : Int} (ha : 0 ≤ a ∧ a < 9223372036854775808) (hb : 0 < b ∧ b < 9223372036854775808) : jI a - jI a / jI b * jI b = jI (a % b) := by
  rw [jI_div ha hb, jI_mul, jI_sub]
  congr 1
  have := Int.emod_add_mul_ediv a b
  rw [Int.mul_comm] at this
  omega
theorem iI_i2l {a : Int} (ha : -2147483648 ≤ a ∧ a < 2147483648) : (iI a).toInt64 = jI a := by
  rw [← Int64.toInt_inj, Int32.toInt_toInt64, iI_t ha, jI_t (by omega)]
theorem jI_l2i (a : Int) : (jI a).toInt32 = iI a := Int64.toInt32_ofInt
theorem jI_cmp_lt {a b : Int} (ha : -9223372036854775808 ≤ a ∧ a < 9223372036854775808) (hb : -9223372036854775808 ≤ b ∧ b < 9223372036854775808) : lg_cmp (jI a) (jI b) = iI (if b < a then 1 else if a = b then 0 else -1) := by
  unfold lg_cmp
  by_cases h : b < a
  · rw [if_pos ((jI_lt hb ha).mpr h), if_pos h]; rfl
  · rw [if_neg (fun q => h ((jI_lt hb ha).mp q)), if_neg h]
    by_cases h2 : a = b
    · rw [if_pos ((jI_eq ha hb).mpr h2), if_pos h2]; rfl
    · rw [if_neg (fun q => h2 ((jI_eq ha hb).mp q)), if_neg h2]; rfl
theorem aI_get {F : Int → Int} {z : Int} (h0 : 0 ≤ z) (h : z < 2147483648) : aI F (iI z).toNatClampNeg = iI (F z) := by
  show iI (F _) = _
  rw [iI_clamp h0 h]
theorem aJ_get {F : Int → Int} {z : Int} (h0 : 0 ≤ z) (h : z < 2147483648) : aJ F (iI z).toNatClampNeg = jI (F z) := by
  show jI (F _) = _
  rw [iI_clamp h0 h]
theorem aI_set {F : Int → Int} {z v : Int} (h0 : 0 ≤ z) (h : z < 2147483648) : upd (aI F) (iI z).toNatClampNeg (iI v) = aI (up F z v) := by
  funext k
  have e := iI_clamp h0 h
  simp only [upd, aI, up]
  by_cases hk : k = (iI z).toNatClampNeg
  · rw [if_pos hk, if_pos (by rw [hk]; exact e)]
  · rw [if_neg hk, if_neg (fun q => hk (by omega))]
theorem aJ_set {F : Int → Int} {z v : Int} (h0 : 0 ≤ z) (h : z < 2147483648) : vp_updL (aJ F) (iI z).toNatClampNeg (jI v) = aJ (up F z v) := by
  funext k
  have e := iI_clamp h0 h
  simp only [vp_updL, aJ, up]
  by_cases hk : k = (iI z).toNatClampNeg
  · rw [if_pos hk, if_pos (by rw [hk]; exact e)]
  · rw [if_neg hk, if_neg (fun q => hk (by omega))]
theorem iI_shr {a c : Int} (ha : 0 ≤ a ∧ a < 2147483648) (hc : 0 ≤ c ∧ c < 31) : iI a >>> (iI c &&& 31) = iI (a / 2 ^ c.toNat) := by
  obtain ⟨n, rfl⟩ : ∃ n : Nat, a = n := ⟨a.toNat, by omega⟩
  obtain ⟨k, rfl⟩ : ∃ k : Nat, c = k := ⟨c.toNat, by omega⟩
  have h1 : ∀ k, k < 31 → ((iI (k : Nat) &&& 31).toBitVec.smod 32).toNat = k := by decide +kernel
  have h2 := pk_shrN (n := n) (by omega) (iI k &&& 31) k (h1 k (by omega))
  have e1 : iI (n : Int) = nI n := Int32.ofInt_eq_ofNat
  rw [e1, h2]
  have e2 : iI ((n : Int) / 2 ^ (k : Int).toNat) = nI (n / 2 ^ k) := by
    rw [show ((n : Int) / 2 ^ (k : Int).toNat) = ((n / 2 ^ k : Nat) : Int) by simp]
    exact Int32.ofInt_eq_ofNat
  exact e2.symm
theorem iI_and1 {a : Int} (ha : 0 ≤ a ∧ a < 2147483648) : iI a &&& iI 1 = iI (a % 2) := by
  obtain ⟨n, rfl⟩ : ∃ n : Nat, a = n := ⟨a.toNat, by omega⟩
  have h2 := pk_andN (n := n) (by omega) (m := 1) 1 (by decide)
  have e1 : iI (n : Int) = nI n := Int32.ofInt_eq_ofNat
  rw [e1]
  show nI n &&& 1 = _
  rw [h2]
  exact (Int32.ofInt_eq_ofNat (n := n % 2)).symm.trans (by rw [Int.natCast_emod]; rfl)
theorem iI_and31 (x : Int32) : x &&& iI 31 = iI (x.toInt % 32) := by
  have h2 := pk_and x (m := 31) 5 (by decide)
  show x &&& 31 = _
  rw [h2]
  have e : x.toInt % 32 = ((x.toBitVec.toNat % 2 ^ 5 : Nat) : Int) := by
    have h3 : x.toInt = x.toBitVec.toInt := rfl
    rw [h3, BitVec.toInt_eq_toNat_bmod, Int.bmod_def]
    have := x.toBitVec.isLt
    split <;> omega
  rw [e]
  exact Int32.ofInt_eq_ofNat.symm
