/-! the double nearest to a quotient -/
theorem dI_fin {a : Int} (ha : 1 ≤ a ∧ a < 9007199254740992) : ∃ c q, FP.Core.val64 (dI a) = .fin false c q ∧ FP.Core.inUnits c q FP.Core.b64.qmin = FP.Core.inUnits a.toNat 0 FP.Core.b64.qmin := by
  have e : FP.Core.val64 (dI a) = FP.Core.round FP.Core.b64 (FP.Core.ofInt a) := by
    have h := FP.Core.val64_l2d (jI a)
    rw [jI_t (by omega)] at h
    exact h
  have e2 : FP.Core.ofInt a = .fin false a.toNat 0 := by
    unfold FP.Core.ofInt
    rw [decide_eq_false (by omega), show a.natAbs = a.toNat by omega]
  obtain ⟨c, q, h1, h2⟩ := FP.Core.round_exact FP.Core.good_b64 false (c := a.toNat) (q := 0) (by show a.toNat < 2 ^ 53; omega) (by decide) (by decide)
  exact ⟨c, q, by rw [e, e2, h1], h2⟩
theorem qq_pow {a b c d A B K : Nat} (h1 : c * 2 ^ A = a * 2 ^ K) (h2 : d * 2 ^ B = b * 2 ^ K) : c * b * 2 ^ (A - B) = a * d * 2 ^ (B - A) := by
  have e1 : 2 ^ (A - B) * 2 ^ (min A B) = 2 ^ A := by rw [← Nat.pow_add]; congr 1; omega
  have e2 : 2 ^ (B - A) * 2 ^ (min A B) = 2 ^ B := by rw [← Nat.pow_add]; congr 1; omega
  have p : 0 < 2 ^ K * 2 ^ (min A B) := Nat.mul_pos (Nat.two_pow_pos _) (Nat.two_pow_pos _)
  refine Nat.eq_of_mul_eq_mul_right p ?_
  calc c * b * 2 ^ (A - B) * (2 ^ K * 2 ^ (min A B)) = (c * (2 ^ (A - B) * 2 ^ (min A B))) * (b * 2 ^ K) := by ac_rfl
    _ = (c * 2 ^ A) * (b * 2 ^ K) := by rw [e1]
    _ = (a * 2 ^ K) * (d * 2 ^ B) := by rw [h1, ← h2]
    _ = (a * 2 ^ K) * (d * (2 ^ (B - A) * 2 ^ (min A B))) := by rw [e2]
    _ = a * d * 2 ^ (B - A) * (2 ^ K * 2 ^ (min A B)) := by ac_rfl
theorem qB_rr {a b : Int} (ha : 1 ≤ a ∧ a < 9007199254740992) (hb : 1 ≤ b ∧ b < 9007199254740992) : FP.Core.val64 (qB a b) = FP.Core.roundRatio FP.Core.b64 false a.toNat b.toNat 0 := by
  obtain ⟨c, q, h1, h2⟩ := dI_fin ha
  obtain ⟨d, r, h3, h4⟩ := dI_fin hb
  have hq : FP.Core.b64.qmin ≤ q := by have h := FP.Core.val64_fits (dI a); rw [h1] at h; exact h.2.1
  have hr : FP.Core.b64.qmin ≤ r := by have h := FP.Core.val64_fits (dI b); rw [h3] at h; exact h.2.1
  have hm : FP.Core.b64.qmin = -1074 := FP.Core.qmin_b64
  unfold FP.Core.inUnits at h2 h4
  have hd : d ≠ 0 := fun z => by
    rw [z, Nat.zero_mul] at h4
    have := Nat.mul_pos (show 0 < b.toNat by omega) (Nat.two_pow_pos (0 - FP.Core.b64.qmin).toNat)
    omega
  have e : FP.Core.val64 (qB a b) = FP.Core.quotient FP.Core.b64 (FP.Core.val64 (dI a)) (FP.Core.val64 (dI b)) := FP.Core.val64_ddiv _ _
  rw [e, h1, h3]
  have e2 : FP.Core.quotient FP.Core.b64 (.fin false c q) (.fin false d r) = FP.Core.roundRatio FP.Core.b64 false c d (q - r) := by
    show (if d = 0 then _ else _) = _
    rw [if_neg hd]
    rfl
  rw [e2]
  refine FP.Core.roundRatio_congr (Nat.pos_of_ne_zero hd) (by omega) ?_
  have h9 := qq_pow h2 h4
  rw [show (q - r - 0).toNat = (q - FP.Core.b64.qmin).toNat - (r - FP.Core.b64.qmin).toNat by omega, show (0 - (q - r)).toNat = (r - FP.Core.b64.qmin).toNat - (q - FP.Core.b64.qmin).toNat by omega]
  exact h9
theorem qB_k {a b : Int} {k : Nat} (ha : 1 ≤ a ∧ a < 9007199254740992) (hb : 1 ≤ b ∧ b < 9007199254740992) (hk : k ≤ 1000) (h1 : b.toNat * 2 ^ 52 ≤ a.toNat * 2 ^ k) (h2 : a.toNat * 2 ^ k < b.toNat * 2 ^ 53) : FP.Core.val64 (qB a b) = FP.Core.settle FP.Core.b64 false (FP.Core.nearest (a.toNat * 2 ^ k) b.toNat) (-(k : Int)) := by
  rw [qB_rr ha hb]
  unfold FP.Core.roundRatio
  rw [if_neg (by omega)]
  have hm : FP.Core.b64.qmin = -1074 := FP.Core.qmin_b64
  have hq : FP.Core.quantum FP.Core.b64 a.toNat b.toNat 0 = -(k : Int) := by
    refine FP.Core.quantum_eq (by omega) (by omega) (by omega) ?_ (Or.inr ?_)
    · rw [show -(k : Int) - 0 + (FP.Core.b64.p : Int) = ((53 : Nat) : Int) - (k : Nat) by show -(k : Int) - 0 + ((53 : Nat) : Int) = _; omega, FP.Core.below_iff]
      exact h2
    · rw [show -(k : Int) - 0 + ((FP.Core.b64.p : Int) - 1) = ((52 : Nat) : Int) - (k : Nat) by show -(k : Int) - 0 + (((53 : Nat) : Int) - 1) = _; omega, FP.Core.below_iff]
      omega
  rw [hq]
  unfold FP.Core.roundAt FP.Core.unitsNum FP.Core.unitsDen
  rw [show (0 - -(k : Int)).toNat = k by omega, show (-(k : Int) - 0).toNat = 0 by omega, Nat.pow_zero, Nat.mul_one]
/-- the bits, from the digits -/
theorem qB_bits {a b : Int} {k : Nat} (ha : 1 ≤ a ∧ a < 9007199254740992) (hb : 1 ≤ b ∧ b < 9007199254740992) (hk : k ≤ 1000) (h1 : b.toNat * 2 ^ 52 ≤ a.toNat * 2 ^ k) (h2 : a.toNat * 2 ^ k < b.toNat * 2 ^ 53) : ∃ (c : Nat) (q : Int), FP.Core.val64 (qB a b) = .fin false c q ∧ (4503599627370496 ≤ c ∧ c < 9007199254740992) ∧ (-(k : Int) ≤ q ∧ q ≤ -(k : Int) + 1) ∧ (1075 + q) * 4503599627370496 + ((c : Int) - 4503599627370496) = (1075 - (k : Int)) * 4503599627370496 + ((FP.Core.nearest (a.toNat * 2 ^ k) b.toNat : Nat) - 4503599627370496) := by
  have hN1 : 4503599627370496 ≤ FP.Core.nearest (a.toNat * 2 ^ k) b.toNat := FP.Core.nearest_ge (by omega) (by rw [Nat.mul_comm]; exact h1)
  have hN2 : FP.Core.nearest (a.toNat * 2 ^ k) b.toNat ≤ 9007199254740992 := FP.Core.nearest_le (by omega) (Nat.le_of_lt (by rw [Nat.mul_comm b.toNat] at h2; exact h2))
  have e := qB_k ha hb hk h1 h2
  have hM : FP.Core.b64.qmax = 971 := by decide
  have hp : 2 ^ FP.Core.b64.p = 9007199254740992 := by decide
  by_cases q : FP.Core.nearest (a.toNat * 2 ^ k) b.toNat < 9007199254740992
  · refine ⟨_, _, ?_, ⟨hN1, q⟩, ⟨Int.le_refl _, by omega⟩, by omega⟩
    rw [e]; unfold FP.Core.settle
    rw [hp, if_pos q]
    unfold FP.Core.bound
    rw [if_pos (by omega)]
  · refine ⟨4503599627370496, -(k : Int) + 1, ?_, ⟨Nat.le_refl _, by decide⟩, ⟨by omega, Int.le_refl _⟩, by omega⟩
    rw [e]; unfold FP.Core.settle
    rw [hp, if_neg q]
    unfold FP.Core.bound
    rw [if_pos (by omega)]
    rfl
theorem dI_0 : FP.Core.val64 (dI 0) = .fin false 0 FP.Core.b64.qmin := by decide +kernel
theorem qB_0 {b : Int} (hb : 1 ≤ b ∧ b < 9007199254740992) : FP.Core.val64 (qB 0 b) = .fin false 0 FP.Core.b64.qmin := by
  obtain ⟨d, r, h3, h4⟩ := dI_fin hb
  have hd : d ≠ 0 := fun z => by
    unfold FP.Core.inUnits at h4
    rw [z, Nat.zero_mul] at h4
    have := Nat.mul_pos (show 0 < b.toNat by omega) (Nat.two_pow_pos (0 - FP.Core.b64.qmin).toNat)
    omega
  have e : FP.Core.val64 (qB 0 b) = FP.Core.quotient FP.Core.b64 (FP.Core.val64 (dI 0)) (FP.Core.val64 (dI b)) := FP.Core.val64_ddiv _ _
  rw [e, dI_0, h3]
  show (if d = 0 then _ else _) = _
  rw [if_neg hd]
  rfl
theorem qB_nn {a b : Int} (ha : 0 ≤ a ∧ a < 9007199254740992) (hb : 1 ≤ b ∧ b < 9007199254740992) : FP.Core.val64 (qB a b) ≠ .nan ∧ 0 ≤ FP.Core.dkey (qB a b) := by
  have hs : FP.Core.val64 (qB a b) ≠ .nan ∧ FP.Core.sgn (FP.Core.val64 (qB a b)) = false := by
    by_cases z : a = 0
    · subst z; rw [qB_0 hb]; exact ⟨(fun q => by cases q), rfl⟩
    · rw [qB_rr (by omega) hb]; exact ⟨FP.Core.roundRatio_ne_nan _ _ _ _ _, FP.Core.sgn_roundRatio _ _ _ _ _⟩
  refine ⟨hs.1, ?_⟩
  have h := FP.Core.sgn_bits hs.1
  rw [hs.2] at h
  have h2 : ¬ 2 ^ 63 ≤ (qB a b).toNat := of_decide_eq_false h.symm
  unfold FP.Core.dkey
  rw [if_neg h2]
  exact Int.natCast_nonneg _
