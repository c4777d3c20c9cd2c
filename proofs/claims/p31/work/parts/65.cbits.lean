theorem lw_v : FP.Core.val64 4841369599423283200 = .fin false 4503599627370496 0 := by decide +kernel
theorem tw_v : FP.Core.val64 4611686018427387904 = .fin false 4503599627370496 (-51) := by decide +kernel
theorem fin_nn {x : U6} {c : Nat} {q : Int} (h : FP.Core.val64 x = .fin false c q) : FP.Core.val64 x ≠ .nan := by rw [h]; exact fun z => by cases z

set_option maxHeartbeats 4000000 in
set_option maxRecDepth 100000 in
theorem c_X9_bitsOf (l : Launch) (g : gD) (dd : U6) (z : Int) (hbt : bt9 dd z) : gMet l g yX9_bitsOf cX9_bitsOf 9 (some .long) 0 0 0 0 [.double dd] [] (gM (some (vl z)) []) := by
  refine gMet.of y_X9_bitsOf.2.2.2.1 (Nat.le_of_ble_eq_true rfl) ?_
  intro x hlx C hR hnm
  subst hlx
  have C : gC g x RX9 cX9_bitsOf 9 0 0 0 0 := C
  show gW g x [] 0 0 [(0, .double dd)] 0 []
  refine g_ldc2d C n_X9_369 dX9_bitsOf_0 ?_
  refine g_dstore_n C [(2, .double 4841369599423283200), (0, .double dd)] dX9_bitsOf_3 (by decide) rfl ?_
  refine g_dload_n C 1 dX9_bitsOf_4 rfl ?_
  refine g_dconst0 C dX9_bitsOf_5 ?_
  refine g_dcmp C dX9_bitsOf_6 ?_
  have r1_6 := dcz_r dd 0 .g
  refine g_if_gt C 12 dX9_bitsOf_7 (by decide) (by omega) (fun c7 => ?_) (fun c7 => ?_)
  · have hnz : ∃ (c : Nat) (q : Int), FP.Core.val64 dd = .fin false c q ∧ (4503599627370496 ≤ c ∧ c < 9007199254740992) ∧ (-64 ≤ q ∧ q ≤ 0) ∧ z = (1075 + q) * 4503599627370496 + ((c : Int) - 4503599627370496) := by
      rcases hbt with ⟨h1, h2⟩ | h
      · exact absurd (by omega) (cmp_zero h1)
      · exact h
    obtain ⟨c, q, h1, h2, h3, h4⟩ := hnz
    refine g_dload_n C 1 dX9_bitsOf_12 rfl ?_
    refine g_dstore C [(4, .double dd), (2, .double 4841369599423283200), (0, .double dd)] dX9_bitsOf_13 (by decide) rfl ?_
    refine g_ldc2 C (1075) n_X9_371 (by decide) dX9_bitsOf_15 ?_
    refine g_lstore C [(6, vl 1075), (4, .double dd), (2, .double 4841369599423283200), (0, .double dd)] dX9_bitsOf_18 (by decide) rfl ?_
    refine g_iconst C dX9_bitsOf_20 ?_
    refine g_istore C [(8, vi 0), (6, vl 1075), (4, .double dd), (2, .double 4841369599423283200), (0, .double dd)] dX9_bitsOf_21 (by decide) rfl ?_
    have L23 : ∀ (f : Nat) (i : Int) (ex9 : Int) (wh : U6), (0 ≤ i ∧ i ≤ -q ∧ FP.Core.val64 wh = .fin false c (q + i) ∧ ex9 = 1075 - i) → (100 - i).toNat < f → gW g x [] 0 0 [(8, vi i), (6, vl ex9), (4, .double wh), (2, .double 4841369599423283200), (0, .double dd)] 23 [] := by
      intro f
      induction f with
      | zero => intro i ex9 wh hI23 hf; exact absurd hf (Nat.not_lt_zero _)
      | succ f ih23 =>
        intro i ex9 wh hI23 hf23
        obtain ⟨hi0, hi1, hw, hex⟩ := hI23
        have hcl := cmp_least lw_v hw h2 (by omega)
        refine g_iload C 0 dX9_bitsOf_23 rfl ?_
        refine g_bipush C dX9_bitsOf_25 (by decide) ?_
        refine g_icmp_ge C 57 dX9_bitsOf_27 (by decide) (by omega) (by omega) (fun c27 => absurd c27 (by omega)) (fun c27 => ?_)
        refine g_dload C 2 dX9_bitsOf_30 rfl ?_
        refine g_dload_n C 3 dX9_bitsOf_32 rfl ?_
        refine g_dcmp C dX9_bitsOf_33 ?_
        have r2_33 := dcz_r wh 4841369599423283200 .g
        refine g_if_ge C 57 dX9_bitsOf_34 (by decide) (by omega) (fun c34 => ?_) (fun c34 => ?_)
        · have hie : i = -q := by
            refine Classical.byContradiction fun z9 => ?_
            have := hcl.mpr (by omega)
            omega
          have hw0 : FP.Core.val64 wh = .fin false c 0 := by rw [hw, show q + i = 0 by omega]
          refine g_lload C 1 dX9_bitsOf_57 rfl ?_
          refine g_bipush C dX9_bitsOf_59 (by decide) ?_
          refine g_lshl C dX9_bitsOf_61 (ex9 * 4503599627370496) (jI_shl52 (by omega)) ?_
          refine g_dload C 2 dX9_bitsOf_62 rfl ?_
          refine g_d2l C dX9_bitsOf_64 (z := (c : Int)) (d2l_c hw0 h2.2) ?_
          refine g_ldc2 C (4503599627370495) n_X9_375 (by decide) dX9_bitsOf_65 ?_
          refine g_land C dX9_bitsOf_68 ((c : Int) % 4503599627370496) (jI_and52 (by omega)) ?_
          refine g_lor C dX9_bitsOf_69 (ex9 * 4503599627370496 + (c : Int) % 4503599627370496) (jI_or52 (by omega) (by omega)) ?_
          exact g_lretM C hR dX9_bitsOf_70 (by rw [h4, hex, hie]; omega) rfl rfl
        refine g_dload C 2 dX9_bitsOf_37 rfl ?_
        refine g_ldc2d C n_X9_373 dX9_bitsOf_39 ?_
        refine g_dmul C dX9_bitsOf_42 (fin_nn (dbl2 tw_v hw h2 (by omega))) ?_
        refine g_dstore C [(4, .double (FP.dmul wh 4611686018427387904)), (8, vi i), (6, vl ex9), (2, .double 4841369599423283200), (0, .double dd)] dX9_bitsOf_43 (by decide) rfl ?_
        refine g_lload C 2 dX9_bitsOf_45 rfl ?_
        refine g_lconst C dX9_bitsOf_47 1 (by decide) ?_
        refine g_lsub C dX9_bitsOf_48 ?_
        refine g_lstore C [(6, vl (ex9 - 1)), (4, .double (FP.dmul wh 4611686018427387904)), (8, vi i), (2, .double 4841369599423283200), (0, .double dd)] dX9_bitsOf_49 (by decide) rfl ?_
        refine g_iinc C 2 [(8, vi (i + 1)), (6, vl (ex9 - 1)), (4, .double (FP.dmul wh 4611686018427387904)), (2, .double 4841369599423283200), (0, .double dd)] dX9_bitsOf_51 rfl (by decide) rfl ?_
        refine g_goto C 23 dX9_bitsOf_54 (by decide) ?_
        exact ih23 (i + 1) (ex9 - 1) (FP.dmul wh 4611686018427387904) ⟨by omega, by omega, by rw [dbl2 tw_v hw h2 (by omega)]; congr 1; omega, by omega⟩ (by omega)
    exact L23 _ 0 1075 dd ⟨by omega, by omega, by rw [Int.add_zero]; exact h1, by omega⟩ (Nat.lt_succ_self _)
  have hz9 : z = 0 := by
    rcases hbt with ⟨h1, h2⟩ | ⟨c, q, h1, h2, h3, h4⟩
    · exact h2
    · have := cmp_none h1 (by omega)
      omega
  refine g_lconst C dX9_bitsOf_10 0 (by decide) ?_
  exact g_lretM C hR dX9_bitsOf_11 (by rw [hz9]) rfl rfl

set_option maxHeartbeats 4000000 in
set_option maxRecDepth 100000 in
theorem c_X9_dearest (l : Launch) (hst9 : l.stackTraces = false) (g : gD) (zo : Nat) (lo : Nat) (wo : Nat) (to : Nat) (so : Nat) (ro : Nat) (vo : Nat) (eo : Nat) (bo : Nat) (mo : Nat) (tn : Int) (mw : Nat) (mu : Nat) (mc : Nat) (MW : Int → Int) (MU : Int → Int) (MC : Int → Int) (tf : Nat) (td : Nat) (tS : Nat) (tr : Nat) (tp : Nat) (tt : Nat) (FL : Int → Int) (DP : Int → Int) (SH : Int → Int) (nY : Int) (Q : Int) (y : Int) (bb : Int) (hMW : ∀ k, 0 ≤ MW k ∧ MW k ≤ 99) (hMU : ∀ k, 0 ≤ MU k ∧ MU k ≤ 999999) (hMC : ∀ k, 0 ≤ MC k ∧ MC k ≤ 12) (hFL : ∀ k, 0 ≤ FL k ∧ FL k ≤ 999999) (hDP : ∀ k, 0 ≤ DP k ∧ DP k ≤ 999999) (hSH : ∀ k, 0 ≤ SH k ∧ SH k ≤ 100) (hnY : 0 ≤ nY ∧ nY ≤ 5) (hQ : 0 ≤ Q ∧ Q ≤ 90) (hMW1 : ∀ q k, 0 ≤ q → q < 3 → 0 ≤ k → k < MC q → 1 ≤ MW (q * 12 + k)) (hy : -2147483648 ≤ y ∧ y < 2147483648) (hbb : 0 ≤ bb ∧ bb ≤ 1) : gMetX l g yX9_dearest cX9_dearest 4 (some .long) 6 1 6 147 [.ref zo, vi y, vi bb] [(zo, cO 9 [.ref lo, .ref wo, .ref to, .ref so, .ref ro, .ref vo, .ref eo, .ref bo, .ref mo, vi tn]), (mo, cO 3 [.ref mw, .ref mu, .ref mc]), (mw, cA g 36 MW), (mu, cA g 36 MU), (mc, cA g 3 MC), (to, cO 7 [.ref tf, .ref td, .ref tS, .ref tr, .ref tp, .ref tt, vi nY, vi Q]), (tf, cA g 5 FL), (td, cA g 5 DP), (tS, cA g 5 SH)] (fun v9 w9 => ∃ (z9 : Int), v9 = (some (vl z9)) ∧ w9 = [(zo, cO 9 [.ref lo, .ref wo, .ref to, .ref so, .ref ro, .ref vo, .ref eo, .ref bo, .ref mo, vi tn]), (mo, cO 3 [.ref mw, .ref mu, .ref mc]), (mw, cA g 36 MW), (mu, cA g 36 MU), (mc, cA g 3 MC), (to, cO 7 [.ref tf, .ref td, .ref tS, .ref tr, .ref tp, .ref tt, vi nY, vi Q]), (tf, cA g 5 FL), (td, cA g 5 DP), (tS, cA g 5 SH)] ∧ (0 ≤ y ∧ y < nY) ∧ (((dr9 MC (qF FL DP SH Q MW MU MC y) 3 = -1 ∨ bb = 0) ∧ z9 = dr9 MC (qF FL DP SH Q MW MU MC y) 3) ∨ ((dr9 MC (qF FL DP SH Q MW MU MC y) 3 ≠ -1 ∧ bb = 1) ∧ bt9 (qF FL DP SH Q MW MU MC y (dr9 MC (qF FL DP SH Q MW MU MC y) 3)) z9))) (fun E9 w9 => w9 = [(zo, cO 9 [.ref lo, .ref wo, .ref to, .ref so, .ref ro, .ref vo, .ref eo, .ref bo, .ref mo, vi tn]), (mo, cO 3 [.ref mw, .ref mu, .ref mc]), (mw, cA g 36 MW), (mu, cA g 36 MU), (mc, cA g 3 MC), (to, cO 7 [.ref tf, .ref td, .ref tS, .ref tr, .ref tp, .ref tt, vi nY, vi Q]), (tf, cA g 5 FL), (td, cA g 5 DP), (tS, cA g 5 SH)] ∧ ((E9 = E3 ∧ (¬ (0 ≤ y ∧ y < nY))))) := by
  refine gMetX.of y_X9_dearest.2.2.2.2.1 (Nat.le_of_ble_eq_true rfl) hst9 ?_
  intro x hlx C hR
  subst hlx
  have C : gC g x RX9 cX9_dearest 4 6 1 6 147 := C
  show gW g x [(zo, cO 9 [.ref lo, .ref wo, .ref to, .ref so, .ref ro, .ref vo, .ref eo, .ref bo, .ref mo, vi tn]), (mo, cO 3 [.ref mw, .ref mu, .ref mc]), (mw, cA g 36 MW), (mu, cA g 36 MU), (mc, cA g 3 MC), (to, cO 7 [.ref tf, .ref td, .ref tS, .ref tr, .ref tp, .ref tt, vi nY, vi Q]), (tf, cA g 5 FL), (td, cA g 5 DP), (tS, cA g 5 SH)] 0 0 [(0, .ref zo), (1, vi y), (2, vi bb)] 0 []
  refine g_aload_n C 0 dX9_dearest_0 rfl ?_
  refine g_getf C k_X9 2 f_X9_26 0 rfl rfl (by decide) rfl rfl dX9_dearest_1 ?_
  refine g_iload_n C 1 dX9_dearest_4 rfl ?_
  refine g_callVp C [vi y] [] (c_X7_has x.1.2.1 g to tf td tS tr tp tt nY Q y hnY hy) y_X7_has l_X9_158 [5] rfl (by decide) 5 rfl rfl rfl (Nat.le_of_ble_eq_true rfl) rfl (by decide) dX9_dearest_5 ?_
  refine g_if_ne C 22 dX9_dearest_8 (by decide) (by omega) (fun c8 => ?_) (fun c8 => ?_)
  · refine g_aload_n C 0 dX9_dearest_22 rfl ?_
    refine g_getf C k_X9 8 f_X9_68 0 rfl rfl (by decide) rfl rfl dX9_dearest_23 ?_
    refine g_aload_n C 0 dX9_dearest_26 rfl ?_
    refine g_getf C k_X9 2 f_X9_26 0 rfl rfl (by decide) rfl rfl dX9_dearest_27 ?_
    refine g_iload_n C 1 dX9_dearest_30 rfl ?_
    refine g_callVp C [.ref to, vi y] [] (c_X3_dearestFor x.1.2.1 g mo mw mu mc MW MU MC to tf td tS tr tp tt FL DP SH nY Q y hMW hMU hMC hFL hDP hSH hQ (by omega) hMW1) y_X3_dearestFor l_X9_354 [1, 2, 3, 4, 5, 6, 7, 8] rfl (by decide) 1 rfl rfl rfl (Nat.le_of_ble_eq_true rfl) rfl (by decide) dX9_dearest_31 ?_
    have hd9 := dr9_r MC (qF FL DP SH Q MW MU MC y) (n := 3) (by omega)
    refine g_istore_n C [(3, vi (dr9 MC (qF FL DP SH Q MW MU MC y) 3)), (0, .ref zo), (1, vi y), (2, vi bb)] dX9_dearest_34 (by decide) rfl ?_
    refine g_iload_n C 0 dX9_dearest_35 rfl ?_
    refine g_iconst C dX9_dearest_36 ?_
    refine g_icmp_eq C 44 dX9_dearest_37 (by decide) (by omega) (by omega) (fun c37 => ?_) (fun c37 => ?_)
    · refine g_iload_n C 0 dX9_dearest_44 rfl ?_
      refine g_i2l C dX9_dearest_45 (by omega) ?_
      refine g_widen (k' := 1) (n' := 6) (by decide) (by decide) ?_
      refine g_outX C hR (fun x' C hR => ?_)
      exact g_lret C hR dX9_dearest_46 ⟨dr9 MC (qF FL DP SH Q MW MU MC y) 3, rfl, rfl, (by omega), (Or.inl ⟨by omega, rfl⟩)⟩ rfl
    refine g_iload_n C 3 dX9_dearest_40 rfl ?_
    refine g_if_ne C 47 dX9_dearest_41 (by decide) (by omega) (fun c41 => ?_) (fun c41 => ?_)
    · have hci := hMC (dr9 MC (qF FL DP SH Q MW MU MC y) 3)
      have ht1 := twt_pos hMW (fun k => hMW1 (dr9 MC (qF FL DP SH Q MW MU MC y) 3) k (by omega) (by omega)) (show 1 ≤ MC (dr9 MC (qF FL DP SH Q MW MU MC y) 3) by omega)
      have hp9 := wpy_r (FL := FL) hMW hDP hSH Q MU (dr9 MC (qF FL DP SH Q MW MU MC y) 3) y hci
      have ht9 := twt_r hMW (dr9 MC (qF FL DP SH Q MW MU MC y) 3) hci
      obtain ⟨z8, hz8⟩ : ∃ z8, bt9 (qF FL DP SH Q MW MU MC y (dr9 MC (qF FL DP SH Q MW MU MC y) 3)) z8 := bt9_ex (by omega) (by omega)
      refine g_aload_n C 1 dX9_dearest_47 rfl ?_
      refine g_getf C k_X9 8 f_X9_68 0 rfl rfl (by decide) rfl rfl dX9_dearest_48 ?_
      refine g_iload_n C 0 dX9_dearest_51 rfl ?_
      refine g_aload_n C 1 dX9_dearest_52 rfl ?_
      refine g_getf C k_X9 2 f_X9_26 0 rfl rfl (by decide) rfl rfl dX9_dearest_53 ?_
      refine g_iload_n C 2 dX9_dearest_56 rfl ?_
      refine g_callVp C [vi (dr9 MC (qF FL DP SH Q MW MU MC y) 3), .ref to, vi y] [] (c_X3_quotientOf x.1.2.1 g mo mw mu mc MW MU MC to tf td tS tr tp tt FL DP SH nY Q (dr9 MC (qF FL DP SH Q MW MU MC y) 3) y hMW hMU hMC hFL hDP hSH hQ (by omega) (by omega) ht1) y_X3_quotientOf l_X9_357 [1, 2, 3, 4, 5, 6, 7, 8] rfl (by decide) 1 rfl rfl rfl (Nat.le_of_ble_eq_true rfl) rfl (by decide) dX9_dearest_57 ?_
      refine g_callSp C [.double (qF FL DP SH Q MW MU MC y (dr9 MC (qF FL DP SH Q MW MU MC y) 3))] [] (c_X9_bitsOf x.1.2.1 g (qF FL DP SH Q MW MU MC y (dr9 MC (qF FL DP SH Q MW MU MC y) 3)) z8 hz8) y_X9_bitsOf l_X9_361 [] rfl (by decide) rfl (Nat.le_of_ble_eq_true rfl) rfl (by decide) dX9_dearest_60 ?_
      refine g_widen (k' := 1) (n' := 6) (by decide) (by decide) ?_
      refine g_outX C hR (fun x' C hR => ?_)
      exact g_lret C hR dX9_dearest_63 ⟨z8, rfl, rfl, (by omega), (Or.inr ⟨by omega, hz8⟩)⟩ rfl
    refine g_iload_n C 0 dX9_dearest_44 rfl ?_
    refine g_i2l C dX9_dearest_45 (by omega) ?_
    refine g_widen (k' := 1) (n' := 6) (by decide) (by decide) ?_
    refine g_outX C hR (fun x' C hR => ?_)
    exact g_lret C hR dX9_dearest_46 ⟨dr9 MC (qF FL DP SH Q MW MU MC y) 3, rfl, rfl, (by omega), (Or.inl ⟨by omega, rfl⟩)⟩ rfl
  exact g_throwW C hR t_107 t_107k t_107i (List.mem_of_getElem? (i := 36) rfl) dX9_dearest_11 dX9_dearest_14 dX9_dearest_15 dX9_dearest_18 dX9_dearest_21 ⟨by decide, Nat.le_of_ble_eq_true rfl, by decide, by decide, by decide, by decide⟩ ⟨rfl, ⟨rfl, (by omega)⟩⟩ rfl

