theorem k_lt {a b k : Nat} {wh re : Int} (ha : 1 ≤ a) (hb : b ≤ 2000) (hT : ((a * 2 ^ k : Nat) : Int) = wh * b + re) (hre : re < b) (hw : wh < 4503599627370496) (hk : k ≤ 63) : k < 63 := by
  refine Classical.byContradiction fun z => ?_
  have e : k = 63 := by omega
  subst e
  have h := Int.mul_le_mul_of_nonneg_right (show wh ≤ 4503599627370495 by omega) (show (0 : Int) ≤ b by omega)
  omega
theorem T_s {a b k : Nat} {wh re w1 w2 : Int} (hT : ((a * 2 ^ k : Nat) : Int) = wh * b + re) (h1 : w1 = if (b : Int) ≤ re * 2 then 1 else 0) (h2 : w2 = if (b : Int) ≤ re * 2 then (b : Int) else 0) : ((a * 2 ^ (k + 1) : Nat) : Int) = (2 * wh + w1) * b + (re * 2 - w2) := by
  rw [Nat.pow_succ, ← Nat.mul_assoc, Int.add_mul, Int.mul_assoc]
  by_cases q : (b : Int) ≤ re * 2
  · rw [if_pos q] at h1 h2; subst h1 h2; omega
  · rw [if_neg q] at h1 h2; subst h1 h2; omega
theorem near_e {T B : Nat} {wh re x : Int} (hT : (T : Int) = wh * B + re) (h0 : 0 ≤ wh) (hr : 0 ≤ re ∧ re < B) (hx : x = if (B : Int) < 2 * re ∨ (2 * re = (B : Int) ∧ wh % 2 = 1) then 1 else 0) : ((FP.Core.nearest T B : Nat) : Int) = wh + x := by
  obtain ⟨w, rfl⟩ : ∃ w : Nat, wh = w := ⟨wh.toNat, by omega⟩
  obtain ⟨r, rfl⟩ : ∃ r : Nat, re = r := ⟨re.toNat, by omega⟩
  have e : T = r + w * B := by
    have h2 : ((r + w * B : Nat) : Int) = (w : Int) * B + r := by rw [Int.natCast_add, Int.natCast_mul]; omega
    omega
  have hB : 0 < B := by omega
  have d : T / B = w := by rw [e, Nat.add_mul_div_right _ _ hB, Nat.div_eq_of_lt (by omega)]; omega
  have m : T % B = r := by rw [e, Nat.add_mul_mod_self_right, Nat.mod_eq_of_lt (by omega)]
  unfold FP.Core.nearest
  rw [d, m]
  by_cases c1 : 2 * r < B
  · rw [if_pos c1]; rw [if_neg (by omega)] at hx; omega
  · rw [if_neg c1]
    by_cases c2 : B < 2 * r
    · rw [if_pos c2]; rw [if_pos (by omega)] at hx; omega
    · rw [if_neg c2]
      by_cases c3 : w % 2 = 1
      · rw [if_pos (by omega)] at hx; omega
      · rw [if_neg (by omega)] at hx; omega
theorem T_end {a k : Nat} {b wh re : Int} (hT : ((a * 2 ^ k : Nat) : Int) = wh * b + re) (hb : 1 ≤ b) (hr : 0 ≤ re ∧ re < b) (h0 : 4503599627370496 ≤ wh ∧ wh < 9007199254740992) : b.toNat * 2 ^ 52 ≤ a * 2 ^ k ∧ a * 2 ^ k < b.toNat * 2 ^ 53 := by
  have h1 := Int.mul_le_mul_of_nonneg_right h0.1 (show 0 ≤ b by omega)
  have h2 := Int.mul_le_mul_of_nonneg_right (show wh ≤ 9007199254740991 by omega) (show 0 ≤ b by omega)
  omega

set_option maxHeartbeats 4000000 in
set_option maxRecDepth 100000 in
theorem c_X10_bitsOf (l : Launch) (g : gD) (a : Int) (b : Int) (ha : 0 ≤ a ∧ a < 2147483648) (hb : 1 ≤ b ∧ b ≤ 2000) : gMet l g yX10_bitsOf cX10_bitsOf 11 (some .long) 0 0 0 0 [vl a, vl b] [] (fun v9 w9 => ∃ (z9 : Int), v9 = (some (vl z9)) ∧ w9 = [] ∧ (bt9 (qB a b) z9)) := by
  refine gMet.of y_X10_bitsOf.2.2.2.1 (Nat.le_of_ble_eq_true rfl) ?_
  intro x hlx C hR hnm
  subst hlx
  have C : gC g x RX10 cX10_bitsOf 11 0 0 0 0 := C
  show gW g x [] 0 0 [(0, vl a), (2, vl b)] 0 []
  refine g_lload_n C 0 dX10_bitsOf_0 rfl ?_
  refine g_lconst C dX10_bitsOf_1 0 (by decide) ?_
  refine g_lcmp C dX10_bitsOf_2 (by omega) (by omega) ?_
  refine g_if_ne C 8 dX10_bitsOf_3 (by decide) (by omega) (fun c3 => ?_) (fun c3 => ?_)
  · refine g_lload_n C 0 dX10_bitsOf_8 rfl ?_
    refine g_lload_n C 1 dX10_bitsOf_9 rfl ?_
    refine g_ldiv C dX10_bitsOf_10 (by omega) (by omega) ?_
    refine g_lstore C [(4, vl (a / b)), (0, vl a), (2, vl b)] dX10_bitsOf_11 (by decide) rfl ?_
    refine g_lload_n C 1 dX10_bitsOf_13 rfl ?_
    refine g_lload_n C 2 dX10_bitsOf_14 rfl ?_
    refine g_lrem C dX10_bitsOf_15 (by omega) (by omega) ?_
    refine g_lstore C [(6, vl (a % b)), (4, vl (a / b)), (0, vl a), (2, vl b)] dX10_bitsOf_16 (by decide) rfl ?_
    refine g_ldc2 C (1075) n_X10_308 (by decide) dX10_bitsOf_18 ?_
    refine g_lstore C [(8, vl 1075), (6, vl (a % b)), (4, vl (a / b)), (0, vl a), (2, vl b)] dX10_bitsOf_21 (by decide) rfl ?_
    have L23 : ∀ (f : Nat) (wh : Int) (re : Int) (po : Int) (k : Nat), ((0 ≤ wh ∧ wh < 9007199254740992) ∧ (0 ≤ re ∧ re < b) ∧ (((a.toNat * 2 ^ k : Nat) : Int) = wh * b + re) ∧ po = 1075 - (k : Int) ∧ k ≤ 63) → (63 - (k : Int)).toNat < f → gW g x [] 0 0 [(8, vl po), (6, vl re), (4, vl wh), (0, vl a), (2, vl b)] 23 [] := by
      intro f
      induction f with
      | zero => intro wh re po k hI23 hf; exact absurd hf (Nat.not_lt_zero _)
      | succ f ih23 =>
        intro wh re po k hI23 hf23
        obtain ⟨hw, hre, hT, hpo, hk⟩ := hI23
        have hT2 : ((a.toNat * 2 ^ k : Nat) : Int) = wh * (b.toNat : Int) + re := by rw [show ((b.toNat : Nat) : Int) = b by omega]; exact hT
        refine g_lload C 2 dX10_bitsOf_23 rfl ?_
        refine g_ldc2 C (4503599627370496) n_X10_310 (by decide) dX10_bitsOf_25 ?_
        refine g_lcmp C dX10_bitsOf_28 (by omega) (by omega) ?_
        refine g_if_ge C 87 dX10_bitsOf_29 (by decide) (by omega) (fun c29 => ?_) (fun c29 => ?_)
        · have J125 : ∀ (u9 : Int), (u9 = if b < 2 * re ∨ (2 * re = b ∧ wh % 2 = 1) then 1 else 0) → gW g x [] 0 0 [(8, vl po), (6, vl re), (4, vl wh), (0, vl a), (2, vl b)] 125 [vi u9] := by
            intro u9 hJ125
            have hu9 := hJ125
            have he9 := T_end hT hb.1 hre (by omega)
            refine g_istore C [(10, vi u9), (8, vl po), (6, vl re), (4, vl wh), (0, vl a), (2, vl b)] dX10_bitsOf_125 (by decide) rfl ?_
            refine g_lload C 3 dX10_bitsOf_127 rfl ?_
            have J139 : ∀ (x9 : Int), (x9 = u9) → gW g x [] 0 0 [(10, vi u9), (8, vl po), (6, vl re), (4, vl wh), (0, vl a), (2, vl b)] 139 [vl x9, vl wh] := by
              intro x9 hJ139
              refine g_ladd C dX10_bitsOf_139 ?_
              refine g_lstore C [(4, vl (wh + x9)), (10, vi u9), (8, vl po), (6, vl re), (0, vl a), (2, vl b)] dX10_bitsOf_140 (by decide) rfl ?_
              refine g_lload C 2 dX10_bitsOf_142 rfl ?_
              refine g_bipush C dX10_bitsOf_144 (by decide) ?_
              refine g_lshl C dX10_bitsOf_146 (po * 4503599627370496) (jI_shl52 (by omega)) ?_
              refine g_lload C 0 dX10_bitsOf_147 rfl ?_
              refine g_ldc2 C (4503599627370496) n_X10_310 (by decide) dX10_bitsOf_149 ?_
              refine g_lsub C dX10_bitsOf_152 ?_
              refine g_ladd C dX10_bitsOf_153 ?_
              have hne := near_e (x := x9) hT2 hw.1 (by omega) (by rw [show ((b.toNat : Nat) : Int) = b by omega, hJ139]; exact hu9)
              have hbt := bt9_k (by omega) hb hk he9.1 he9.2 (k_pos (by omega) (by omega) he9.1)
              rw [hne, ← hpo] at hbt
              exact g_lret C hR dX10_bitsOf_154 ⟨(po * 4503599627370496 + (wh + x9 - 4503599627370496)), rfl, rfl, hbt⟩ rfl
            refine g_iload C 0 dX10_bitsOf_129 rfl ?_
            refine g_if_eq C 138 dX10_bitsOf_131 (by decide) (by omega) (fun c131 => ?_) (fun c131 => ?_)
            · refine g_lconst C dX10_bitsOf_138 0 (by decide) ?_
              exact J139 0 (by omega)
            refine g_lconst C dX10_bitsOf_134 1 (by decide) ?_
            refine g_goto C 139 dX10_bitsOf_135 (by decide) ?_
            exact J139 1 (by omega)
          refine g_ldc2 C (2) n_X10_312 (by decide) dX10_bitsOf_87 ?_
          refine g_lload C 1 dX10_bitsOf_90 rfl ?_
          refine g_lmul C dX10_bitsOf_92 ?_
          refine g_lload_n C 4 dX10_bitsOf_93 rfl ?_
          refine g_lcmp C dX10_bitsOf_94 (by omega) (by omega) ?_
          refine g_if_gt C 120 dX10_bitsOf_95 (by decide) (by omega) (fun c95 => ?_) (fun c95 => ?_)
          · refine g_iconst C dX10_bitsOf_120 ?_
            refine g_goto C 125 dX10_bitsOf_121 (by decide) ?_
            exact J125 1 (by omega)
          refine g_ldc2 C (2) n_X10_312 (by decide) dX10_bitsOf_98 ?_
          refine g_lload C 1 dX10_bitsOf_101 rfl ?_
          refine g_lmul C dX10_bitsOf_103 ?_
          refine g_lload_n C 4 dX10_bitsOf_104 rfl ?_
          refine g_lcmp C dX10_bitsOf_105 (by omega) (by omega) ?_
          refine g_if_ne C 124 dX10_bitsOf_106 (by decide) (by omega) (fun c106 => ?_) (fun c106 => ?_)
          · refine g_iconst C dX10_bitsOf_124 ?_
            exact J125 0 (by omega)
          refine g_lload C 2 dX10_bitsOf_109 rfl ?_
          refine g_ldc2 C (2) n_X10_312 (by decide) dX10_bitsOf_111 ?_
          refine g_lrem C dX10_bitsOf_114 (by omega) (by omega) ?_
          refine g_lconst C dX10_bitsOf_115 1 (by decide) ?_
          refine g_lcmp C dX10_bitsOf_116 (by omega) (by omega) ?_
          refine g_if_ne C 124 dX10_bitsOf_117 (by decide) (by omega) (fun c117 => ?_) (fun c117 => ?_)
          · refine g_iconst C dX10_bitsOf_124 ?_
            exact J125 0 (by omega)
          refine g_iconst C dX10_bitsOf_120 ?_
          refine g_goto C 125 dX10_bitsOf_121 (by decide) ?_
          exact J125 1 (by omega)
        have hk2 := k_lt (show 1 ≤ a.toNat by omega) (show b.toNat ≤ 2000 by omega) hT2 (by omega) (by omega) hk
        refine g_lload C 1 dX10_bitsOf_32 rfl ?_
        refine g_ldc2 C (2) n_X10_312 (by decide) dX10_bitsOf_34 ?_
        refine g_lmul C dX10_bitsOf_37 ?_
        refine g_lstore C [(6, vl (re * 2)), (8, vl po), (4, vl wh), (0, vl a), (2, vl b)] dX10_bitsOf_38 (by decide) rfl ?_
        refine g_ldc2 C (2) n_X10_312 (by decide) dX10_bitsOf_40 ?_
        refine g_lload C 2 dX10_bitsOf_43 rfl ?_
        refine g_lmul C dX10_bitsOf_45 ?_
        have J58 : ∀ (w1 : Int), (w1 = if b ≤ re * 2 then 1 else 0) → gW g x [] 0 0 [(6, vl (re * 2)), (8, vl po), (4, vl wh), (0, vl a), (2, vl b)] 58 [vl w1, vl (2 * wh)] := by
          intro w1 hJ58
          have hw1 := hJ58
          refine g_ladd C dX10_bitsOf_58 ?_
          refine g_lstore C [(4, vl ((2 * wh) + w1)), (6, vl (re * 2)), (8, vl po), (0, vl a), (2, vl b)] dX10_bitsOf_59 (by decide) rfl ?_
          refine g_lload C 1 dX10_bitsOf_61 rfl ?_
          have J75 : ∀ (w2 : Int), (w2 = if b ≤ re * 2 then b else 0) → gW g x [] 0 0 [(4, vl ((2 * wh) + w1)), (6, vl (re * 2)), (8, vl po), (0, vl a), (2, vl b)] 75 [vl w2, vl (re * 2)] := by
            intro w2 hJ75
            have hw2 := hJ75
            refine g_lsub C dX10_bitsOf_75 ?_
            refine g_lstore C [(6, vl ((re * 2) - w2)), (4, vl ((2 * wh) + w1)), (8, vl po), (0, vl a), (2, vl b)] dX10_bitsOf_76 (by decide) rfl ?_
            have hTs : ((a.toNat * 2 ^ (k + 1) : Nat) : Int) = (2 * wh + w1) * b + (re * 2 - w2) := by
              have h := T_s hT2 (w1 := w1) (w2 := w2) (by rw [show ((b.toNat : Nat) : Int) = b by omega]; exact hw1) (by rw [show ((b.toNat : Nat) : Int) = b by omega]; exact hw2)
              rw [show ((b.toNat : Nat) : Int) = b by omega] at h; exact h
            refine g_lload C 2 dX10_bitsOf_78 rfl ?_
            refine g_lconst C dX10_bitsOf_80 1 (by decide) ?_
            refine g_lsub C dX10_bitsOf_81 ?_
            refine g_lstore C [(8, vl (po - 1)), (6, vl ((re * 2) - w2)), (4, vl ((2 * wh) + w1)), (0, vl a), (2, vl b)] dX10_bitsOf_82 (by decide) rfl ?_
            refine g_goto C 23 dX10_bitsOf_84 (by decide) ?_
            exact ih23 ((2 * wh) + w1) ((re * 2) - w2) (po - 1) (k + 1) ⟨by omega, by omega, hTs, by omega, by omega⟩ (by omega)
          refine g_lload C 1 dX10_bitsOf_63 rfl ?_
          refine g_lload_n C 4 dX10_bitsOf_65 rfl ?_
          refine g_lcmp C dX10_bitsOf_66 (by omega) (by omega) ?_
          refine g_if_lt C 74 dX10_bitsOf_67 (by decide) (by omega) (fun c67 => ?_) (fun c67 => ?_)
          · refine g_lconst C dX10_bitsOf_74 0 (by decide) ?_
            exact J75 0 (by omega)
          refine g_lload_n C 4 dX10_bitsOf_70 rfl ?_
          refine g_goto C 75 dX10_bitsOf_71 (by decide) ?_
          exact J75 b (by omega)
        refine g_lload C 0 dX10_bitsOf_46 rfl ?_
        refine g_lload_n C 4 dX10_bitsOf_48 rfl ?_
        refine g_lcmp C dX10_bitsOf_49 (by omega) (by omega) ?_
        refine g_if_lt C 57 dX10_bitsOf_50 (by decide) (by omega) (fun c50 => ?_) (fun c50 => ?_)
        · refine g_lconst C dX10_bitsOf_57 0 (by decide) ?_
          exact J58 0 (by omega)
        refine g_lconst C dX10_bitsOf_53 1 (by decide) ?_
        refine g_goto C 58 dX10_bitsOf_54 (by decide) ?_
        exact J58 1 (by omega)
    exact L23 _ (a / b) (a % b) 1075 0 ⟨⟨Int.ediv_nonneg ha.1 (by omega), by have := Int.ediv_le_self b ha.1; omega⟩, ⟨Int.emod_nonneg _ (by omega), Int.emod_lt_of_pos _ (by omega)⟩, by rw [Nat.pow_zero, Nat.mul_one, show ((a.toNat : Nat) : Int) = a by omega, Int.mul_comm]; exact (Int.mul_ediv_add_emod a b).symm, rfl, by omega⟩ (Nat.lt_succ_self _)
  refine g_lconst C dX10_bitsOf_6 0 (by decide) ?_
  exact g_lret C hR dX10_bitsOf_7 ⟨0, rfl, rfl, (Or.inl ⟨by rw [show a = 0 by omega]; exact qB_0 (by omega), rfl⟩)⟩ rfl

set_option maxHeartbeats 4000000 in
set_option maxRecDepth 100000 in
theorem c_X10_dearest (l : Launch) (g : gD) (ko : Nat) (A : Nat → Nat) (th : Int) (hr : Int) (nL : Int) (nO : Int) (Q : Int) (nY : Int) (nE : Int) (nR : Int) (nB : Int) (FL : Int → Int) (DP : Int → Int) (SH : Int → Int) (MC : Int → Int) (MW : Int → Int) (MU : Int → Int) (y : Int) (bb : Int) (hFL : ∀ k, 0 ≤ FL k ∧ FL k ≤ 999999) (hDP : ∀ k, 0 ≤ DP k ∧ DP k ≤ 999999) (hSH : ∀ k, 0 ≤ SH k ∧ SH k ≤ 100) (hnY : 0 ≤ nY ∧ nY ≤ 5) (hQ : 0 ≤ Q ∧ Q ≤ 90) (hMW : ∀ k, 0 ≤ MW k ∧ MW k ≤ 99) (hMU : ∀ k, 0 ≤ MU k ∧ MU k ≤ 999999) (hMC : ∀ k, 0 ≤ MC k ∧ MC k ≤ 12) (hMW1 : ∀ q k, 0 ≤ q → q < 3 → 0 ≤ k → k < MC q → 1 ≤ MW (q * 12 + k)) (hb01 : 0 ≤ bb ∧ bb ≤ 1) (hy : -2147483648 ≤ y ∧ y < 2147483648) (hbb : -2147483648 ≤ bb ∧ bb < 2147483648) : gMet l g yX10_dearest cX10_dearest 5 (some .long) 4 0 0 94 [.ref ko, vi y, vi bb] [(ko, cO 10 (kF th hr nL nO Q nY nE nR nB A)), (A 12, cA g 5 FL), (A 13, cA g 5 DP), (A 14, cA g 5 SH), (A 39, cA g 3 MC), (A 40, cA g 36 MW), (A 41, cA g 36 MU)] (fun v9 w9 => (∃ (z9 : Int), (0 ≤ y ∧ y < nY) ∧ v9 = some (vl (z9)) ∧ w9 = [(ko, cO 10 (kF 0 hr nL nO Q nY nE nR nB A)), (A 12, cA g 5 FL), (A 13, cA g 5 DP), (A 14, cA g 5 SH), (A 39, cA g 3 MC), (A 40, cA g 36 MW), (A 41, cA g 36 MU)] ∧ (((dr9 MC (qF FL DP SH Q MW MU MC y) 3 = -1 ∨ bb = 0) ∧ z9 = dr9 MC (qF FL DP SH Q MW MU MC y) 3) ∨ ((dr9 MC (qF FL DP SH Q MW MU MC y) 3 ≠ -1 ∧ bb = 1) ∧ bt9 (qF FL DP SH Q MW MU MC y (dr9 MC (qF FL DP SH Q MW MU MC y) 3)) z9))) ∨ ((¬ (0 ≤ y ∧ y < nY)) ∧ v9 = some (vl 0) ∧ w9 = [(ko, cO 10 (kF 1 hr nL nO Q nY nE nR nB A)), (A 12, cA g 5 FL), (A 13, cA g 5 DP), (A 14, cA g 5 SH), (A 39, cA g 3 MC), (A 40, cA g 36 MW), (A 41, cA g 36 MU)])) := by
  refine gMet.of y_X10_dearest.2.2.2.2.1 (Nat.le_of_ble_eq_true rfl) ?_
  intro x hlx C hR hnm
  subst hlx
  have C : gC g x RX10 cX10_dearest 5 4 0 0 94 := C
  show gW g x [(ko, cO 10 (kF th hr nL nO Q nY nE nR nB A)), (A 12, cA g 5 FL), (A 13, cA g 5 DP), (A 14, cA g 5 SH), (A 39, cA g 3 MC), (A 40, cA g 36 MW), (A 41, cA g 36 MU)] 0 0 [(0, .ref ko), (1, vi y), (2, vi bb)] 0 []
  refine g_aload_n C 0 dX10_dearest_0 rfl ?_
  have J14 : ∀ (cd : Int), ((cd = 0 ∧ 0 ≤ y ∧ y < nY) ∨ (cd = 1 ∧ ¬ (0 ≤ y ∧ y < nY))) → gW g x [(ko, cO 10 (kF th hr nL nO Q nY nE nR nB A)), (A 12, cA g 5 FL), (A 13, cA g 5 DP), (A 14, cA g 5 SH), (A 39, cA g 3 MC), (A 40, cA g 36 MW), (A 41, cA g 36 MU)] 0 0 [(0, .ref ko), (1, vi y), (2, vi bb)] 14 [vi cd, .ref ko] := by
    intro cd hJ14
    refine g_callV C [vi cd] [] (c_X10_goesWell x.1.2.1 g ko A th hr nL nO Q nY nE nR nB cd (by omega)) y_X10_goesWell l_X10_156 [0] rfl (by decide) 0 rfl rfl rfl (Nat.le_of_ble_eq_true rfl) rfl (by decide) dX10_dearest_14 (fun v9 w9 hp9 => ?_)
    obtain ⟨rfl, rfl⟩ := hp9
    simp only [putAll, List.set_cons_succ, List.set_cons_zero, List.cons_append, List.nil_append, List.append_nil, Option.toList]
    show gW g x [(ko, cO 10 (kF cd hr nL nO Q nY nE nR nB A)), (A 12, cA g 5 FL), (A 13, cA g 5 DP), (A 14, cA g 5 SH), (A 39, cA g 3 MC), (A 40, cA g 36 MW), (A 41, cA g 36 MU)] 0 0 [(0, .ref ko), (1, vi y), (2, vi bb)] 17 [vi (if cd = 0 then 1 else 0)]
    refine g_if_ne C 22 dX10_dearest_17 (by decide) (by omega) (fun c17 => ?_) (fun c17 => ?_)
    · obtain ⟨rfl, hok⟩ : cd = 0 ∧ (0 ≤ y ∧ y < nY) := by
        rcases hJ14 with ⟨e9, h9⟩ | ⟨e9, h9⟩
        · exact ⟨e9, h9⟩
        · exfalso; omega
      refine g_iconst C dX10_dearest_22 ?_
      refine g_istore_n C [(3, vi (-1)), (0, .ref ko), (1, vi y), (2, vi bb)] dX10_dearest_23 (by decide) rfl ?_
      refine g_iconst C dX10_dearest_24 ?_
      refine g_istore C [(4, vi 0), (3, vi (-1)), (0, .ref ko), (1, vi y), (2, vi bb)] dX10_dearest_25 (by decide) rfl ?_
      have L27 : ∀ (f : Nat) (fo : Int) (i : Int), (0 ≤ i ∧ i ≤ 3 ∧ fo = dr9 MC (qF FL DP SH Q MW MU MC y) i) → (3 - i).toNat < f → gW g x [(ko, cO 10 (kF 0 hr nL nO Q nY nE nR nB A)), (A 12, cA g 5 FL), (A 13, cA g 5 DP), (A 14, cA g 5 SH), (A 39, cA g 3 MC), (A 40, cA g 36 MW), (A 41, cA g 36 MU)] 0 0 [(4, vi i), (3, vi fo), (0, .ref ko), (1, vi y), (2, vi bb)] 27 [] := by
        intro f
        induction f with
        | zero => intro fo i hI27 hf; exact absurd hf (Nat.not_lt_zero _)
        | succ f ih27 =>
          intro fo i hI27 hf27
          obtain ⟨hi0, hi1, hfo⟩ := hI27
          have hfr := dr9_r MC (qF FL DP SH Q MW MU MC y) hi0
          rw [← hfo] at hfr
          have hci := hMC i
          have hcf := hMC fo
          refine g_iload C 0 dX10_dearest_27 rfl ?_
          refine g_iconst C dX10_dearest_29 ?_
          refine g_icmp_ge C 78 dX10_dearest_30 (by decide) (by omega) (by omega) (fun c30 => ?_) (fun c30 => ?_)
          · have hfo3 : fo = dr9 MC (qF FL DP SH Q MW MU MC y) 3 := by rw [hfo, show i = 3 by omega]
            refine g_iload_n C 1 dX10_dearest_78 rfl ?_
            refine g_iconst C dX10_dearest_79 ?_
            refine g_icmp_ne C 89 dX10_dearest_80 (by decide) (by omega) (by omega) (fun c80 => ?_) (fun c80 => ?_)
            · refine g_iload_n C 4 dX10_dearest_89 rfl ?_
              refine g_if_eq C 110 dX10_dearest_90 (by decide) (by omega) (fun c90 => ?_) (fun c90 => ?_)
              · refine g_iload_n C 1 dX10_dearest_110 rfl ?_
                refine g_i2l C dX10_dearest_111 (by omega) ?_
                first
                | exact g_lret C hR dX10_dearest_112 (Or.inl ⟨z9104, hok, rfl, rfl, Or.inr ⟨by omega, by rw [← hfo3]; exact hz_104⟩⟩) rfl
                | exact g_lret C hR dX10_dearest_112 (Or.inl ⟨_, hok, rfl, rfl, Or.inl ⟨by omega, by omega⟩⟩) rfl
              refine g_aload_n C 2 dX10_dearest_93 rfl ?_
              refine g_iload_n C 3 dX10_dearest_94 rfl ?_
              refine g_iload_n C 1 dX10_dearest_95 rfl ?_
              have ht2 := twt_pos hMW (fun k => hMW1 fo k (by omega) (by omega)) (show 1 ≤ MC fo by omega)
              have hp9 := wpy_r (FL := FL) hMW hDP hSH Q MU fo y hcf
              have ht9 := twt_r hMW fo hcf
              refine g_callVp C [vi y, vi fo] [] (c_X10_weighed x.1.2.1 g ko A 0 hr nL nO Q nY nE nR nB FL DP SH MC MW MU y fo hFL hDP hSH hQ hMW hMU hMC (by omega) (by omega) hy (by omega)) y_X10_weighed l_X10_297 [0, 1, 2, 3, 4, 5, 6] rfl (by decide) 0 rfl rfl rfl (Nat.le_of_ble_eq_true rfl) rfl (by decide) dX10_dearest_96 ?_
              refine g_aload_n C 2 dX10_dearest_99 rfl ?_
              refine g_iload_n C 1 dX10_dearest_100 rfl ?_
              refine g_callVp C [vi fo] [vl (sm (wpy FL DP SH Q MW MU fo y) (MC fo))] (c_X10_weights x.1.2.1 g ko A 0 hr nL nO Q nY nE nR nB MC MW fo hMW hMC (by omega) (by omega)) y_X10_weights l_X10_301 [0, 4, 5] rfl (by decide) 0 rfl rfl rfl (Nat.le_of_ble_eq_true rfl) rfl (by decide) dX10_dearest_101 ?_
              refine g_callS C [vl (sm (wpy FL DP SH Q MW MU fo y) (MC fo)), vl (sm (twt MW fo) (MC fo))] [] (c_X10_bitsOf x.1.2.1 g (sm (wpy FL DP SH Q MW MU fo y) (MC fo)) (sm (twt MW fo) (MC fo)) (by omega) (by omega)) y_X10_bitsOf l_X10_320 [] rfl (by decide) rfl (Nat.le_of_ble_eq_true rfl) rfl (by decide) dX10_dearest_104 (fun v9 w9 hp9 => ?_)
              obtain ⟨z9104, rfl, rfl, hz_104⟩ := hp9
              simp only [putAll, List.set_cons_succ, List.set_cons_zero, List.cons_append, List.nil_append, List.append_nil, Option.toList]
              show gW g x [(ko, cO 10 (kF 0 hr nL nO Q nY nE nR nB A)), (A 12, cA g 5 FL), (A 13, cA g 5 DP), (A 14, cA g 5 SH), (A 39, cA g 3 MC), (A 40, cA g 36 MW), (A 41, cA g 36 MU)] 0 0 [(4, vi i), (3, vi fo), (0, .ref ko), (1, vi y), (2, vi bb)] 107 [vl z9104]
              refine g_goto C 112 dX10_dearest_107 (by decide) ?_
              first
              | exact g_lret C hR dX10_dearest_112 (Or.inl ⟨z9104, hok, rfl, rfl, Or.inr ⟨by omega, by rw [← hfo3]; exact hz_104⟩⟩) rfl
              | exact g_lret C hR dX10_dearest_112 (Or.inl ⟨_, hok, rfl, rfl, Or.inl ⟨by omega, by omega⟩⟩) rfl
            refine g_ldc2 C (-1) n_X10_318 (by decide) dX10_dearest_83 ?_
            refine g_goto C 112 dX10_dearest_86 (by decide) ?_
            first
            | exact g_lret C hR dX10_dearest_112 (Or.inl ⟨z9104, hok, rfl, rfl, Or.inr ⟨by omega, by rw [← hfo3]; exact hz_104⟩⟩) rfl
            | exact g_lret C hR dX10_dearest_112 (Or.inl ⟨_, hok, rfl, rfl, Or.inl ⟨by omega, by omega⟩⟩) rfl
          have J71 : ∀ (w9 : Int), (w9 = if 0 < MC i ∧ (fo = -1 ∨ 0 < dcz (qF FL DP SH Q MW MU MC y i) (qF FL DP SH Q MW MU MC y fo) .l) then i else fo) → gW g x [(ko, cO 10 (kF 0 hr nL nO Q nY nE nR nB A)), (A 12, cA g 5 FL), (A 13, cA g 5 DP), (A 14, cA g 5 SH), (A 39, cA g 3 MC), (A 40, cA g 36 MW), (A 41, cA g 36 MU)] 0 0 [(4, vi i), (3, vi fo), (0, .ref ko), (1, vi y), (2, vi bb)] 71 [vi w9] := by
            intro w9 hJ71
            refine g_istore_n C [(3, vi w9), (4, vi i), (0, .ref ko), (1, vi y), (2, vi bb)] dX10_dearest_71 (by decide) rfl ?_
            refine g_iinc C 1 [(4, vi (i + 1)), (3, vi w9), (0, .ref ko), (1, vi y), (2, vi bb)] dX10_dearest_72 rfl (by decide) rfl ?_
            refine g_goto C 27 dX10_dearest_75 (by decide) ?_
            exact ih27 w9 (i + 1) ⟨by omega, by omega, by rw [hJ71, hfo, dr9_s _ _ hi0]⟩ (by omega)
          refine g_aload_n C 2 dX10_dearest_33 rfl ?_
          refine g_getf C k_X10 39 f_X10_100 0 rfl rfl (by decide) rfl rfl dX10_dearest_34 ?_
          refine g_iload C 0 dX10_dearest_37 rfl ?_
          refine g_iald C 4 rfl (by omega) dX10_dearest_39 ?_
          have r1_39 := hMC i
          refine g_if_le C 70 dX10_dearest_40 (by decide) (by omega) (fun c40 => ?_) (fun c40 => ?_)
          · refine g_iload_n C 1 dX10_dearest_70 rfl ?_
            exact J71 fo (by first | (rw [if_pos (by omega)]; done) | (rw [if_neg (by omega)]; done))
          refine g_iload_n C 1 dX10_dearest_43 rfl ?_
          refine g_iconst C dX10_dearest_44 ?_
          refine g_icmp_eq C 65 dX10_dearest_45 (by decide) (by omega) (by omega) (fun c45 => ?_) (fun c45 => ?_)
          · refine g_iload C 0 dX10_dearest_65 rfl ?_
            refine g_goto C 71 dX10_dearest_67 (by decide) ?_
            exact J71 i (by first | (rw [if_pos (by omega)]; done) | (rw [if_neg (by omega)]; done))
          refine g_aload_n C 2 dX10_dearest_48 rfl ?_
          refine g_iload_n C 3 dX10_dearest_49 rfl ?_
          refine g_iload C 0 dX10_dearest_50 rfl ?_
          have ht1 := twt_pos hMW (fun k => hMW1 i k (by omega) (by omega)) (show 1 ≤ MC i by omega)
          refine g_callVp C [vi y, vi i] [] (c_X10_quotient x.1.2.1 g ko A 0 hr nL nO Q nY nE nR nB FL DP SH MC MW MU y i hFL hDP hSH hQ hMW hMU hMC (by omega) (by omega) ht1 hy (by omega)) y_X10_quotient l_X10_314 [0, 1, 2, 3, 4, 5, 6] rfl (by decide) 0 rfl rfl rfl (Nat.le_of_ble_eq_true rfl) rfl (by decide) dX10_dearest_52 ?_
          refine g_aload_n C 2 dX10_dearest_55 rfl ?_
          refine g_iload_n C 3 dX10_dearest_56 rfl ?_
          refine g_iload_n C 1 dX10_dearest_57 rfl ?_
          have ht2 := twt_pos hMW (fun k => hMW1 fo k (by omega) (by omega)) (show 1 ≤ MC fo by omega)
          refine g_callVp C [vi y, vi fo] [.double (qF FL DP SH Q MW MU MC y i)] (c_X10_quotient x.1.2.1 g ko A 0 hr nL nO Q nY nE nR nB FL DP SH MC MW MU y fo hFL hDP hSH hQ hMW hMU hMC (by omega) (by omega) ht2 hy (by omega)) y_X10_quotient l_X10_314 [0, 1, 2, 3, 4, 5, 6] rfl (by decide) 0 rfl rfl rfl (Nat.le_of_ble_eq_true rfl) rfl (by decide) dX10_dearest_58 ?_
          refine g_dcmp C dX10_dearest_61 ?_
          have r2_61 := dcz_r (qF FL DP SH Q MW MU MC y i) (qF FL DP SH Q MW MU MC y fo) .l
          refine g_if_le C 70 dX10_dearest_62 (by decide) (by omega) (fun c62 => ?_) (fun c62 => ?_)
          · refine g_iload_n C 1 dX10_dearest_70 rfl ?_
            exact J71 fo (by first | (rw [if_pos (by omega)]; done) | (rw [if_neg (by omega)]; done))
          refine g_iload C 0 dX10_dearest_65 rfl ?_
          refine g_goto C 71 dX10_dearest_67 (by decide) ?_
          exact J71 i (by first | (rw [if_pos (by omega)]; done) | (rw [if_neg (by omega)]; done))
      exact L27 _ (-1) 0 ⟨by omega, by omega, rfl⟩ (Nat.lt_succ_self _)
    refine g_lconst C dX10_dearest_20 0 (by decide) ?_
    rcases hJ14 with ⟨e9, h9⟩ | ⟨e9, h9⟩
    · exfalso; omega
    · subst e9; exact g_lret C hR dX10_dearest_21 (Or.inr (⟨h9, rfl, rfl⟩)) rfl
  refine g_aload_n C 0 dX10_dearest_1 rfl ?_
  refine g_iload_n C 1 dX10_dearest_2 rfl ?_
  refine g_callVp C [vi y] [.ref ko] (c_X10_isLayer x.1.2.1 g ko A th hr nL nO Q nY nE nR nB y hnY hy) y_X10_isLayer l_X10_179 [0] rfl (by decide) 0 rfl rfl rfl (Nat.le_of_ble_eq_true rfl) rfl (by decide) dX10_dearest_3 ?_
  refine g_if_eq C 13 dX10_dearest_6 (by decide) (by omega) (fun c6 => ?_) (fun c6 => ?_)
  · refine g_iconst C dX10_dearest_13 ?_
    exact J14 1 (by omega)
  refine g_iconst C dX10_dearest_9 ?_
  refine g_goto C 14 dX10_dearest_10 (by decide) ?_
  exact J14 0 (by omega)

