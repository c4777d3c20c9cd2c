/-! the bits of a quotient -/
/-- z is the bits of the double d, which is nought or of ordinary size -/
def bt9 (d : U6) (z : Int) : Prop := (FP.Core.val64 d = .fin false 0 FP.Core.b64.qmin ∧ z = 0) ∨ ∃ (c : Nat) (q : Int), FP.Core.val64 d = .fin false c q ∧ (4503599627370496 ≤ c ∧ c < 9007199254740992) ∧ (-64 ≤ q ∧ q ≤ 0) ∧ z = (1075 + q) * 4503599627370496 + ((c : Int) - 4503599627370496)
theorem bt9_one {d : U6} {z w : Int} (h : bt9 d z) (k : bt9 d w) : z = w := by
  rcases h with ⟨h1, rfl⟩ | ⟨c, q, h1, h2, h3, rfl⟩ <;> rcases k with ⟨k1, rfl⟩ | ⟨c2, q2, k1, k2, k3, rfl⟩
  · rfl
  · rw [h1] at k1; injection k1 with _ e _; omega
  · rw [h1] at k1; injection k1 with _ e _; omega
  · rw [h1] at k1; injection k1 with _ e e2; subst e e2; rfl
theorem dcz_z {x y : UInt64} (h : FP.Core.val64 x ≠ .nan) (h2 : FP.Core.val64 y ≠ .nan) : (0 < dcz x y .g ↔ FP.Core.zval FP.Core.b64 (FP.Core.val64 y) < FP.Core.zval FP.Core.b64 (FP.Core.val64 x)) ∧ (dcz x y .g < 0 ↔ FP.Core.zval FP.Core.b64 (FP.Core.val64 x) < FP.Core.zval FP.Core.b64 (FP.Core.val64 y)) := by
  have e : FP.dcmp x y = some (compare (FP.Core.zval FP.Core.b64 (FP.Core.val64 x)) (FP.Core.zval FP.Core.b64 (FP.Core.val64 y))) := FP.Core.dcmp_zval h h2
  unfold dcz
  rw [e]
  rcases Int.lt_trichotomy (FP.Core.zval FP.Core.b64 (FP.Core.val64 x)) (FP.Core.zval FP.Core.b64 (FP.Core.val64 y)) with q | q | q
  · rw [(FP.Core.compare_lt_iff _ _).mpr q]; exact ⟨⟨fun z => absurd z (by decide), fun z => by omega⟩, fun _ => q, fun _ => by decide⟩
  · rw [(FP.Core.compare_eq_iff _ _).mpr q]; exact ⟨⟨fun z => absurd z (by decide), fun z => by omega⟩, fun z => absurd z (by decide), fun z => by omega⟩
  · rw [(FP.Core.compare_gt_iff _ _).mpr q]; exact ⟨⟨fun _ => q, fun _ => by decide⟩, fun z => absurd z (by decide), fun z => by omega⟩
theorem zv9 (c : Nat) (q : Int) : FP.Core.zval FP.Core.b64 (.fin false c q) = ((c * 2 ^ (q - FP.Core.b64.qmin).toNat : Nat) : Int) := rfl
theorem pw_up {c n K : Nat} (hc : c < 9007199254740992) (h : n + 1 ≤ K) : c * 2 ^ n < 4503599627370496 * 2 ^ K := by
  have h1 : 2 ^ (n + 1) ≤ 2 ^ K := Nat.pow_le_pow_right (by decide) h
  have h2 : c * 2 ^ n < 9007199254740992 * 2 ^ n := Nat.mul_lt_mul_of_pos_right hc (Nat.two_pow_pos n)
  have h3 : 4503599627370496 * 2 ^ (n + 1) ≤ 4503599627370496 * 2 ^ K := Nat.mul_le_mul_left _ h1
  rw [Nat.pow_succ] at h3
  omega
theorem cmp_least {x L : UInt64} {c : Nat} {q : Int} (hL : FP.Core.val64 L = .fin false 4503599627370496 0) (h : FP.Core.val64 x = .fin false c q) (hc : 4503599627370496 ≤ c ∧ c < 9007199254740992) (hq : -1000 ≤ q ∧ q ≤ 0) : dcz x L .g < 0 ↔ q < 0 := by
  have hm : FP.Core.b64.qmin = -1074 := FP.Core.qmin_b64
  rw [(dcz_z (by rw [h]; exact fun z => by cases z) (by rw [hL]; exact fun z => by cases z)).2, h, hL, zv9, zv9]
  constructor
  · intro z
    refine Classical.byContradiction fun w => ?_
    have e : q = 0 := by omega
    subst e
    have := Nat.mul_le_mul_right (2 ^ ((0 : Int) - FP.Core.b64.qmin).toNat) hc.1
    omega
  · intro z
    have := pw_up (n := (q - FP.Core.b64.qmin).toNat) (K := ((0 : Int) - FP.Core.b64.qmin).toNat) hc.2 (by omega)
    omega
theorem cmp_none {x : UInt64} {c : Nat} {q : Int} (h : FP.Core.val64 x = .fin false c q) (hc : 1 ≤ c) : 0 < dcz x 0 .g := by
  have h0 : FP.Core.val64 0 = .fin false 0 FP.Core.b64.qmin := FP.Core.val64_zero
  rw [(dcz_z (by rw [h]; exact fun z => by cases z) (by rw [h0]; exact fun z => by cases z)).1, h, h0, zv9, zv9]
  have := Nat.mul_pos (show 0 < c by omega) (Nat.two_pow_pos (q - FP.Core.b64.qmin).toNat)
  omega
theorem cmp_zero {x : UInt64} (h : FP.Core.val64 x = .fin false 0 FP.Core.b64.qmin) : ¬ 0 < dcz x 0 .g := by
  have h0 : FP.Core.val64 0 = .fin false 0 FP.Core.b64.qmin := FP.Core.val64_zero
  rw [(dcz_z (by rw [h]; exact fun z => by cases z) (by rw [h0]; exact fun z => by cases z)).1, h, h0]
  omega
theorem dbl2 {x T : UInt64} {c : Nat} {q : Int} (hT : FP.Core.val64 T = .fin false 4503599627370496 (-51)) (h : FP.Core.val64 x = .fin false c q) (hc : 4503599627370496 ≤ c ∧ c < 9007199254740992) (hq : -1000 ≤ q ∧ q ≤ 0) : FP.Core.val64 (FP.dmul x T) = .fin false c (q + 1) := by
  have hm : FP.Core.b64.qmin = -1074 := FP.Core.qmin_b64
  have hM : FP.Core.b64.qmax = 971 := by decide
  have e : FP.Core.val64 (FP.dmul x T) = FP.Core.round FP.Core.b64 (FP.Core.exactProduct (FP.Core.val64 x) (FP.Core.val64 T)) := FP.Core.val64_dmul _ _
  rw [e, h, hT]
  show FP.Core.roundRatio FP.Core.b64 false (c * 4503599627370496) 1 (q + -51) = _
  refine FP.Core.roundRatio_exact FP.Core.good_b64 (by decide) ⟨by show c < 2 ^ 53; omega, by omega, by omega, Or.inr (by show 2 ^ 52 ≤ c; omega)⟩ ?_
  rw [show (q + -51 - (q + 1)).toNat = 0 by omega, show (q + 1 - (q + -51)).toNat = 52 by omega, Nat.pow_zero, Nat.mul_one, Nat.mul_one]
theorem d2l_c {x : UInt64} {c : Nat} (h : FP.Core.val64 x = .fin false c 0) (hc : c < 9007199254740992) : FP.d2l x = jI (c : Int) := by
  have e : FP.d2l x = FP.Core.toL (FP.Core.val64 x) := rfl
  rw [e, h]
  unfold FP.Core.toL FP.Core.toInt FP.Core.truncate FP.Core.signed jI
  have e1 : (c * 2 ^ (0 : Int).toNat / 2 ^ (-(0 : Int)).toNat : Nat) = c := by show c * 2 ^ 0 / 2 ^ 0 = c; rw [Nat.pow_zero, Nat.mul_one, Nat.div_one]
  show Int64.ofInt (max (-2 ^ 63) (min (2 ^ 63 - 1) (((c * 2 ^ (0 : Int).toNat / 2 ^ (-(0 : Int)).toNat : Nat)) : Int))) = _
  rw [e1]
  congr 1
  have h1 : (2 : Int) ^ 63 = 9223372036854775808 := by decide +kernel
  rw [h1]
  omega
theorem k_ex {a b : Nat} (ha : 1 ≤ a ∧ a < 2147483648) (hb : 1 ≤ b ∧ b ≤ 2000) : ∃ k, k ≤ 63 ∧ b * 2 ^ 52 ≤ a * 2 ^ k ∧ a * 2 ^ k < b * 2 ^ 53 := by
  have key : ∀ j, (∃ k, k ≤ j ∧ b * 2 ^ 52 ≤ a * 2 ^ k ∧ a * 2 ^ k < b * 2 ^ 53) ∨ a * 2 ^ j < b * 2 ^ 52 := by
    intro j
    induction j with
    | zero => right; omega
    | succ j ih =>
      rcases ih with ⟨k, k1, k2⟩ | ih
      · exact Or.inl ⟨k, by omega, k2⟩
      · by_cases q : b * 2 ^ 52 ≤ a * 2 ^ (j + 1)
        · refine Or.inl ⟨j + 1, Nat.le_refl _, q, ?_⟩
          rw [Nat.pow_succ, ← Nat.mul_assoc]; omega
        · right; omega
  rcases key 63 with h | h
  · exact h
  · omega
theorem bt9_k {a b : Int} {k : Nat} (ha : 1 ≤ a ∧ a < 2147483648) (hb : 1 ≤ b ∧ b ≤ 2000) (hk : k ≤ 63) (h1 : b.toNat * 2 ^ 52 ≤ a.toNat * 2 ^ k) (h2 : a.toNat * 2 ^ k < b.toNat * 2 ^ 53) (hk1 : 1 ≤ k) : bt9 (qB a b) ((1075 - (k : Int)) * 4503599627370496 + ((FP.Core.nearest (a.toNat * 2 ^ k) b.toNat : Nat) - 4503599627370496)) := by
  obtain ⟨c, q, e1, e2, e3, e4⟩ := qB_bits (by omega) (by omega) (by omega) h1 h2
  exact Or.inr ⟨c, q, e1, e2, by omega, e4.symm⟩
theorem k_pos {a b k : Nat} (ha : a < 2147483648) (hb : 1 ≤ b) (h1 : b * 2 ^ 52 ≤ a * 2 ^ k) : 1 ≤ k := by
  refine Classical.byContradiction fun z => ?_
  have e : k = 0 := by omega
  subst e
  omega
theorem bt9_ex {a b : Int} (ha : 0 ≤ a ∧ a < 2147483648) (hb : 1 ≤ b ∧ b ≤ 2000) : ∃ z, bt9 (qB a b) z := by
  by_cases q : a = 0
  · subst q; exact ⟨0, Or.inl ⟨qB_0 (by omega), rfl⟩⟩
  · obtain ⟨k, k1, k2, k3⟩ := k_ex (a := a.toNat) (b := b.toNat) (by omega) (by omega)
    exact ⟨_, bt9_k (by omega) hb k1 k2 k3 (k_pos (by omega) (by omega) k2)⟩
