/-- the dearest among the first models -/
def drN (MC : Int → Int) (q : Int → U6) : Nat → Int
  | 0 => -1
  | n + 1 => if 0 < MC n ∧ (drN MC q n = -1 ∨ 0 < dcz (q n) (q (drN MC q n)) .l) then n else drN MC q n
def dr9 (MC : Int → Int) (q : Int → U6) (n : Int) : Int := drN MC q n.toNat
theorem dr9_s (MC : Int → Int) (q : Int → U6) {n : Int} (h : 0 ≤ n) : dr9 MC q (n + 1) = if 0 < MC n ∧ (dr9 MC q n = -1 ∨ 0 < dcz (q n) (q (dr9 MC q n)) .l) then n else dr9 MC q n := by
  obtain ⟨k, rfl⟩ : ∃ k : Nat, n = k := ⟨n.toNat, by omega⟩
  have e : ((k : Int) + 1).toNat = k + 1 := by omega
  have e2 : (k : Int).toNat = k := by omega
  simp only [dr9, e, e2, drN]
theorem dr9_r (MC : Int → Int) (q : Int → U6) {n : Int} (h : 0 ≤ n) : (dr9 MC q n = -1 ∨ (0 ≤ dr9 MC q n ∧ dr9 MC q n < n ∧ 0 < MC (dr9 MC q n))) := by
  refine sm_ind (P := fun n => dr9 MC q n = -1 ∨ (0 ≤ dr9 MC q n ∧ dr9 MC q n < n ∧ 0 < MC (dr9 MC q n))) (Or.inl rfl) (fun i hi ih => ?_) n h
  rw [dr9_s _ _ hi]
  by_cases z : 0 < MC i ∧ (dr9 MC q i = -1 ∨ 0 < dcz (q i) (q (dr9 MC q i)) .l)
  · rw [if_pos z]; exact Or.inr ⟨hi, by omega, z.1⟩
  · rw [if_neg z]
    rcases ih with ih | ih
    · exact Or.inl ih
    · exact Or.inr ⟨ih.1, by omega, ih.2.2⟩
def qF (FL DP SH : Int → Int) (Q : Int) (MW MU MC : Int → Int) (y q : Int) : U6 := qB (sm (wpy FL DP SH Q MW MU q y) (MC q)) (sm (twt MW q) (MC q))
theorem qB_m1 {a b : Int} (ha : 0 ≤ a ∧ a < 9007199254740992) (hb : 1 ≤ b ∧ b < 9007199254740992) : 0 < dcz (qB a b) 13830554455654793216 .l := by
  refine dcz_gt.mpr ?_
  have h := qB_nn ha hb
  have h1 : FP.Core.val64 13830554455654793216 ≠ .nan := by decide +kernel
  have h2 : FP.Core.dkey 13830554455654793216 < 0 := by decide +kernel
  have e : FP.dcmp (qB a b) 13830554455654793216 = some (compare (FP.Core.dkey (qB a b)) (FP.Core.dkey 13830554455654793216)) := FP.Core.dcmp_key h.1 h1
  rw [e, (FP.Core.compare_gt_iff _ _).mpr (by omega)]

set_option maxHeartbeats 4000000 in
set_option maxRecDepth 100000 in
theorem c_X3_quotientOf (l : Launch) (g : gD) (mo : Nat) (mw : Nat) (mu : Nat) (mc : Nat) (MW : Int → Int) (MU : Int → Int) (MC : Int → Int) (to : Nat) (tf : Nat) (td : Nat) (tS : Nat) (tr : Nat) (tp : Nat) (tt : Nat) (FL : Int → Int) (DP : Int → Int) (SH : Int → Int) (nY : Int) (Q : Int) (q : Int) (y : Int) (hMW : ∀ k, 0 ≤ MW k ∧ MW k ≤ 99) (hMU : ∀ k, 0 ≤ MU k ∧ MU k ≤ 999999) (hMC : ∀ k, 0 ≤ MC k ∧ MC k ≤ 12) (hFL : ∀ k, 0 ≤ FL k ∧ FL k ≤ 999999) (hDP : ∀ k, 0 ≤ DP k ∧ DP k ≤ 999999) (hSH : ∀ k, 0 ≤ SH k ∧ SH k ≤ 100) (hQ : 0 ≤ Q ∧ Q ≤ 90) (hq : 0 ≤ q ∧ q < 3) (hy : 0 ≤ y ∧ y < 5) (ht1 : 1 ≤ sm (twt MW q) (MC q)) : gMet l g yX3_quotientOf cX3_quotientOf 5 (some .double) 4 0 0 95 [.ref mo, vi q, .ref to, vi y] [(mo, cO 3 [.ref mw, .ref mu, .ref mc]), (mw, cA g 36 MW), (mu, cA g 36 MU), (mc, cA g 3 MC), (to, cO 7 [.ref tf, .ref td, .ref tS, .ref tr, .ref tp, .ref tt, vi nY, vi Q]), (tf, cA g 5 FL), (td, cA g 5 DP), (tS, cA g 5 SH)] (gM (some (.double (qF FL DP SH Q MW MU MC y q))) [(mo, cO 3 [.ref mw, .ref mu, .ref mc]), (mw, cA g 36 MW), (mu, cA g 36 MU), (mc, cA g 3 MC), (to, cO 7 [.ref tf, .ref td, .ref tS, .ref tr, .ref tp, .ref tt, vi nY, vi Q]), (tf, cA g 5 FL), (td, cA g 5 DP), (tS, cA g 5 SH)]) := by
  refine gMet.of y_X3_quotientOf.2.2.2.2.1 (Nat.le_of_ble_eq_true rfl) ?_
  intro x hlx C hR hnm
  subst hlx
  have C : gC g x RX3 cX3_quotientOf 5 4 0 0 95 := C
  show gW g x [(mo, cO 3 [.ref mw, .ref mu, .ref mc]), (mw, cA g 36 MW), (mu, cA g 36 MU), (mc, cA g 3 MC), (to, cO 7 [.ref tf, .ref td, .ref tS, .ref tr, .ref tp, .ref tt, vi nY, vi Q]), (tf, cA g 5 FL), (td, cA g 5 DP), (tS, cA g 5 SH)] 0 0 [(0, .ref mo), (1, vi q), (2, .ref to), (3, vi y)] 0 []
  refine g_aload_n C 0 dX3_quotientOf_0 rfl ?_
  refine g_iload_n C 1 dX3_quotientOf_1 rfl ?_
  refine g_callVp C [vi q] [] (c_X3_totalWeight x.1.2.1 g mo mw mu mc MW MC q hMC hq) y_X3_totalWeight l_X3_34 [0, 1, 3] rfl (by decide) 0 rfl rfl rfl (Nat.le_of_ble_eq_true rfl) rfl (by decide) dX3_quotientOf_2 ?_
  refine g_istore C [(4, vi (sm (twt MW q) (MC q))), (0, .ref mo), (1, vi q), (2, .ref to), (3, vi y)] dX3_quotientOf_5 (by decide) rfl ?_
  refine g_iload C 0 dX3_quotientOf_7 rfl ?_
  refine g_iconst C dX3_quotientOf_9 ?_
  have hc9 := hMC q
  have ht9 := twt_r hMW q hc9
  refine g_icmp_ge C 15 dX3_quotientOf_10 (by decide) (by omega) (by omega) (fun c10 => ?_) (fun c10 => (absurd c10 (by omega)))
  refine g_aload_n C 1 dX3_quotientOf_15 rfl ?_
  refine g_iload_n C 2 dX3_quotientOf_16 rfl ?_
  refine g_aload_n C 3 dX3_quotientOf_17 rfl ?_
  refine g_iload_n C 4 dX3_quotientOf_18 rfl ?_
  refine g_callVp C [vi q, .ref to, vi y] [] (c_X3_weighedPay x.1.2.1 g mo mw mu mc MW MU MC to tf td tS tr tp tt FL DP SH nY Q q y hMW hMU hMC hFL hDP hSH hQ hq hy) y_X3_weighedPay l_X3_43 [0, 1, 2, 3, 4, 5, 6, 7] rfl (by decide) 0 rfl rfl rfl (Nat.le_of_ble_eq_true rfl) rfl (by decide) dX3_quotientOf_19 ?_
  refine g_l2d C dX3_quotientOf_22 ?_
  have hp9 := wpy_r (FL := FL) hMW hDP hSH Q MU q y (hMC q)
  refine g_iload C 0 dX3_quotientOf_23 rfl ?_
  refine g_i2d C dX3_quotientOf_25 (by omega) ?_
  refine g_dquo C dX3_quotientOf_26 (qB_nn (by omega) (by omega)).1 ?_
  exact g_dretM C hR dX3_quotientOf_27 rfl rfl rfl

set_option maxHeartbeats 4000000 in
set_option maxRecDepth 100000 in
theorem c_X3_dearestFor (l : Launch) (g : gD) (mo : Nat) (mw : Nat) (mu : Nat) (mc : Nat) (MW : Int → Int) (MU : Int → Int) (MC : Int → Int) (to : Nat) (tf : Nat) (td : Nat) (tS : Nat) (tr : Nat) (tp : Nat) (tt : Nat) (FL : Int → Int) (DP : Int → Int) (SH : Int → Int) (nY : Int) (Q : Int) (y : Int) (hMW : ∀ k, 0 ≤ MW k ∧ MW k ≤ 99) (hMU : ∀ k, 0 ≤ MU k ∧ MU k ≤ 999999) (hMC : ∀ k, 0 ≤ MC k ∧ MC k ≤ 12) (hFL : ∀ k, 0 ≤ FL k ∧ FL k ≤ 999999) (hDP : ∀ k, 0 ≤ DP k ∧ DP k ≤ 999999) (hSH : ∀ k, 0 ≤ SH k ∧ SH k ≤ 100) (hQ : 0 ≤ Q ∧ Q ≤ 90) (hy : 0 ≤ y ∧ y < 5) (hMW1 : ∀ q k, 0 ≤ q → q < 3 → 0 ≤ k → k < MC q → 1 ≤ MW (q * 12 + k)) : gMet l g yX3_dearestFor cX3_dearestFor 9 (some .int) 5 0 0 119 [.ref mo, .ref to, vi y] [(mo, cO 3 [.ref mw, .ref mu, .ref mc]), (mw, cA g 36 MW), (mu, cA g 36 MU), (mc, cA g 3 MC), (to, cO 7 [.ref tf, .ref td, .ref tS, .ref tr, .ref tp, .ref tt, vi nY, vi Q]), (tf, cA g 5 FL), (td, cA g 5 DP), (tS, cA g 5 SH)] (gM (some (vi (dr9 MC (qF FL DP SH Q MW MU MC y) 3))) [(mo, cO 3 [.ref mw, .ref mu, .ref mc]), (mw, cA g 36 MW), (mu, cA g 36 MU), (mc, cA g 3 MC), (to, cO 7 [.ref tf, .ref td, .ref tS, .ref tr, .ref tp, .ref tt, vi nY, vi Q]), (tf, cA g 5 FL), (td, cA g 5 DP), (tS, cA g 5 SH)]) := by
  refine gMet.of y_X3_dearestFor.2.2.2.2.1 (Nat.le_of_ble_eq_true rfl) ?_
  intro x hlx C hR hnm
  subst hlx
  have C : gC g x RX3 cX3_dearestFor 9 5 0 0 119 := C
  show gW g x [(mo, cO 3 [.ref mw, .ref mu, .ref mc]), (mw, cA g 36 MW), (mu, cA g 36 MU), (mc, cA g 3 MC), (to, cO 7 [.ref tf, .ref td, .ref tS, .ref tr, .ref tp, .ref tt, vi nY, vi Q]), (tf, cA g 5 FL), (td, cA g 5 DP), (tS, cA g 5 SH)] 0 0 [(0, .ref mo), (1, .ref to), (2, vi y)] 0 []
  refine g_iconst C dX3_dearestFor_0 ?_
  refine g_istore_n C [(3, vi (-1)), (0, .ref mo), (1, .ref to), (2, vi y)] dX3_dearestFor_1 (by decide) rfl ?_
  refine g_ldc2d C n_X3_47 dX3_dearestFor_2 ?_
  refine g_dstore C [(4, .double 13830554455654793216), (3, vi (-1)), (0, .ref mo), (1, .ref to), (2, vi y)] dX3_dearestFor_5 (by decide) rfl ?_
  refine g_iconst C dX3_dearestFor_7 ?_
  refine g_istore C [(6, vi 0), (4, .double 13830554455654793216), (3, vi (-1)), (0, .ref mo), (1, .ref to), (2, vi y)] dX3_dearestFor_8 (by decide) rfl ?_
  have L10 : ∀ (f : Nat) (de : Int) (i : Int) (gr : U6), (0 ≤ i ∧ i ≤ 3 ∧ de = dr9 MC (qF FL DP SH Q MW MU MC y) i ∧ gr = (if de = -1 then 13830554455654793216 else qF FL DP SH Q MW MU MC y de)) → (3 - i).toNat < f → gW g x [(mo, cO 3 [.ref mw, .ref mu, .ref mc]), (mw, cA g 36 MW), (mu, cA g 36 MU), (mc, cA g 3 MC), (to, cO 7 [.ref tf, .ref td, .ref tS, .ref tr, .ref tp, .ref tt, vi nY, vi Q]), (tf, cA g 5 FL), (td, cA g 5 DP), (tS, cA g 5 SH)] 0 0 [(6, vi i), (4, .double gr), (3, vi de), (0, .ref mo), (1, .ref to), (2, vi y)] 10 [] := by
    intro f
    induction f with
    | zero => intro de i gr hI10 hf; exact absurd hf (Nat.not_lt_zero _)
    | succ f ih10 =>
      intro de i gr hI10 hf10
      obtain ⟨hi0, hi1, hde, hgr⟩ := hI10
      have hr9 := dr9_r MC (qF FL DP SH Q MW MU MC y) hi0
      rw [← hde] at hr9
      refine g_iload C 0 dX3_dearestFor_10 rfl ?_
      refine g_iconst C dX3_dearestFor_12 ?_
      refine g_icmp_ge C 59 dX3_dearestFor_13 (by decide) (by omega) (by omega) (fun c13 => ?_) (fun c13 => ?_)
      · refine g_iload_n C 2 dX3_dearestFor_59 rfl ?_
        exact g_iretM C hR dX3_dearestFor_60 (by rw [hde, show i = 3 by omega]) rfl rfl
      refine g_aload_n C 3 dX3_dearestFor_16 rfl ?_
      refine g_iload C 0 dX3_dearestFor_17 rfl ?_
      refine g_callVp C [vi i] [] (c_X3_isEmpty x.1.2.1 g mo mw mu mc MC i hMC (by omega)) y_X3_isEmpty l_X3_49 [0, 3] rfl (by decide) 0 rfl rfl rfl (Nat.le_of_ble_eq_true rfl) rfl (by decide) dX3_dearestFor_19 ?_
      refine g_if_eq C 28 dX3_dearestFor_22 (by decide) (by omega) (fun c22 => ?_) (fun c22 => ?_)
      · refine g_aload_n C 3 dX3_dearestFor_28 rfl ?_
        refine g_iload C 0 dX3_dearestFor_29 rfl ?_
        refine g_aload_n C 4 dX3_dearestFor_31 rfl ?_
        refine g_iload_n C 5 dX3_dearestFor_32 rfl ?_
        have hci := hMC i
        have ht1 := twt_pos hMW (fun k => hMW1 i k (by omega) (by omega)) (show 1 ≤ MC i by omega)
        refine g_callVp C [vi i, .ref to, vi y] [] (c_X3_quotientOf x.1.2.1 g mo mw mu mc MW MU MC to tf td tS tr tp tt FL DP SH nY Q i y hMW hMU hMC hFL hDP hSH hQ (by omega) hy ht1) y_X3_quotientOf l_X3_53 [0, 1, 2, 3, 4, 5, 6, 7] rfl (by decide) 0 rfl rfl rfl (Nat.le_of_ble_eq_true rfl) rfl (by decide) dX3_dearestFor_33 ?_
        refine g_dstore C [(7, .double (qF FL DP SH Q MW MU MC y i)), (6, vi i), (4, .double gr), (3, vi de), (0, .ref mo), (1, .ref to), (2, vi y)] dX3_dearestFor_36 (by decide) rfl ?_
        have hp9 := wpy_r (FL := FL) hMW hDP hSH Q MU i y hci
        have ht9 := twt_r hMW i hci
        have hm1 : 0 < dcz (qF FL DP SH Q MW MU MC y i) 13830554455654793216 .l := qB_m1 (by omega) (by omega)
        refine g_dload C 0 dX3_dearestFor_38 rfl ?_
        refine g_dload C 2 dX3_dearestFor_40 rfl ?_
        refine g_dcmp C dX3_dearestFor_42 ?_
        have r1_42 := dcz_r (qF FL DP SH Q MW MU MC y i) gr .l
        have hcm : de = -1 → 0 < dcz (qF FL DP SH Q MW MU MC y i) gr .l := fun z => by rw [hgr, if_pos z]; exact hm1
        have hcn : de ≠ -1 → 0 < dcz (qF FL DP SH Q MW MU MC y i) (qF FL DP SH Q MW MU MC y de) .l → 0 < dcz (qF FL DP SH Q MW MU MC y i) gr .l := fun z w => by rw [hgr, if_neg z]; exact w
        have hcx : 0 < dcz (qF FL DP SH Q MW MU MC y i) gr .l → (de = -1 ∨ 0 < dcz (qF FL DP SH Q MW MU MC y i) (qF FL DP SH Q MW MU MC y de) .l) := fun w => by by_cases z : de = -1; exact Or.inl z; rw [hgr, if_neg z] at w; exact Or.inr w
        refine g_if_le C 53 dX3_dearestFor_43 (by decide) (by omega) (fun c43 => ?_) (fun c43 => ?_)
        · refine g_iinc C 1 [(6, vi (i + 1)), (7, .double (qF FL DP SH Q MW MU MC y i)), (4, .double gr), (3, vi de), (0, .ref mo), (1, .ref to), (2, vi y)] dX3_dearestFor_53 rfl (by decide) rfl ?_
          refine g_goto C 10 dX3_dearestFor_56 (by decide) ?_
          refine g_lv [(6, vi (i + 1)), (4, .double gr), (3, vi de), (0, .ref mo), (1, .ref to), (2, vi y)] [0, 2, 3, 4, 5, 6] rfl ?_
          exact ih10 de (i + 1) gr (by first | exact ⟨by omega, by omega, by rw [dr9_s _ _ hi0, ← hde, if_neg (by omega)], hgr⟩ | exact ⟨by omega, by omega, by rw [dr9_s _ _ hi0, ← hde, if_neg (by rintro ⟨_, z | z⟩; exact absurd (hcm z) (by omega); exact absurd (hcn (by omega) z) (by omega))], hgr⟩ | exact ⟨by omega, by omega, by rw [dr9_s _ _ hi0, ← hde, if_pos ⟨by omega, hcx (by omega)⟩], by rw [if_neg (by omega)]⟩) (by omega)
        refine g_dload C 0 dX3_dearestFor_46 rfl ?_
        refine g_dstore C [(4, .double (qF FL DP SH Q MW MU MC y i)), (7, .double (qF FL DP SH Q MW MU MC y i)), (6, vi i), (3, vi de), (0, .ref mo), (1, .ref to), (2, vi y)] dX3_dearestFor_48 (by decide) rfl ?_
        refine g_iload C 2 dX3_dearestFor_50 rfl ?_
        refine g_istore_n C [(3, vi i), (4, .double (qF FL DP SH Q MW MU MC y i)), (7, .double (qF FL DP SH Q MW MU MC y i)), (6, vi i), (0, .ref mo), (1, .ref to), (2, vi y)] dX3_dearestFor_52 (by decide) rfl ?_
        refine g_iinc C 3 [(6, vi (i + 1)), (3, vi i), (4, .double (qF FL DP SH Q MW MU MC y i)), (7, .double (qF FL DP SH Q MW MU MC y i)), (0, .ref mo), (1, .ref to), (2, vi y)] dX3_dearestFor_53 rfl (by decide) rfl ?_
        refine g_goto C 10 dX3_dearestFor_56 (by decide) ?_
        refine g_lv [(6, vi (i + 1)), (4, .double (qF FL DP SH Q MW MU MC y i)), (3, vi i), (0, .ref mo), (1, .ref to), (2, vi y)] [0, 2, 1, 4, 5, 6] rfl ?_
        exact ih10 i (i + 1) (qF FL DP SH Q MW MU MC y i) (by first | exact ⟨by omega, by omega, by rw [dr9_s _ _ hi0, ← hde, if_neg (by omega)], hgr⟩ | exact ⟨by omega, by omega, by rw [dr9_s _ _ hi0, ← hde, if_neg (by rintro ⟨_, z | z⟩; exact absurd (hcm z) (by omega); exact absurd (hcn (by omega) z) (by omega))], hgr⟩ | exact ⟨by omega, by omega, by rw [dr9_s _ _ hi0, ← hde, if_pos ⟨by omega, hcx (by omega)⟩], by rw [if_neg (by omega)]⟩) (by omega)
      refine g_goto C 53 dX3_dearestFor_25 (by decide) ?_
      refine g_iinc C 0 [(6, vi (i + 1)), (4, .double gr), (3, vi de), (0, .ref mo), (1, .ref to), (2, vi y)] dX3_dearestFor_53 rfl (by decide) rfl ?_
      refine g_goto C 10 dX3_dearestFor_56 (by decide) ?_
      exact ih10 de (i + 1) gr (by first | exact ⟨by omega, by omega, by rw [dr9_s _ _ hi0, ← hde, if_neg (by omega)], hgr⟩ | exact ⟨by omega, by omega, by rw [dr9_s _ _ hi0, ← hde, if_neg (by rintro ⟨_, z | z⟩; exact absurd (hcm z) (by omega); exact absurd (hcn (by omega) z) (by omega))], hgr⟩ | exact ⟨by omega, by omega, by rw [dr9_s _ _ hi0, ← hde, if_pos ⟨by omega, hcx (by omega)⟩], by rw [if_neg (by omega)]⟩) (by omega)
  exact L10 _ (-1) 0 13830554455654793216 ⟨by omega, by omega, rfl, rfl⟩ (Nat.lt_succ_self _)

