set_option maxHeartbeats 4000000 in
set_option maxRecDepth 100000 in
theorem c_X9_loss (l : Launch) (hst9 : l.stackTraces = false) (g : gD) (zo : Nat) (lo : Nat) (wo : Nat) (to : Nat) (so : Nat) (ro : Nat) (vo : Nat) (eo : Nat) (bo : Nat) (mo : Nat) (tn : Int) (lp : Nat) (lh : Nat) (lu : Nat) (LP : Int → Int) (LH : Int → Int) (LU : Int → Int) (nL : Int) (p : Int) (h : Int) (u : Int) (hnL : 0 ≤ nL ∧ nL ≤ 40) (hp : -2147483648 ≤ p ∧ p < 2147483648) (hh : -2147483648 ≤ h ∧ h < 2147483648) (hu : -2147483648 ≤ u ∧ u < 2147483648) : gMetX l g yX9_loss cX9_loss 4 (some .int) 6 1 6 100 [.ref zo, vi p, vi h, vi u] [(zo, cO 9 [.ref lo, .ref wo, .ref to, .ref so, .ref ro, .ref vo, .ref eo, .ref bo, .ref mo, vi tn]), (lo, cO 2 [.ref lp, .ref lh, .ref lu, vi nL]), (lp, cA g 40 LP), (lh, cA g 40 LH), (lu, cA g 40 LU)] (fun v9 w9 => v9 = (some (vi nL)) ∧ w9 = [(zo, cO 9 [.ref lo, .ref wo, .ref to, .ref so, .ref ro, .ref vo, .ref eo, .ref bo, .ref mo, vi tn]), (lo, cO 2 [.ref lp, .ref lh, .ref lu, vi (nL + 1)]), (lp, cA g 40 (up LP nL p)), (lh, cA g 40 (up LH nL h)), (lu, cA g 40 (up LU nL u))] ∧ ((0 ≤ p ∧ p ≤ 2 ∧ 0 ≤ h ∧ h ≤ 2199 ∧ 0 ≤ u ∧ u ≤ 99999) ∧ nL < 40)) (fun E9 w9 => w9 = [(zo, cO 9 [.ref lo, .ref wo, .ref to, .ref so, .ref ro, .ref vo, .ref eo, .ref bo, .ref mo, vi tn]), (lo, cO 2 [.ref lp, .ref lh, .ref lu, vi nL]), (lp, cA g 40 LP), (lh, cA g 40 LH), (lu, cA g 40 LU)] ∧ ((E9 = E1 ∧ (¬ (0 ≤ p ∧ p ≤ 2 ∧ 0 ≤ h ∧ h ≤ 2199 ∧ 0 ≤ u ∧ u ≤ 99999))) ∨ (E9 = E2 ∧ ((0 ≤ p ∧ p ≤ 2 ∧ 0 ≤ h ∧ h ≤ 2199 ∧ 0 ≤ u ∧ u ≤ 99999) ∧ nL = 40)))) := by
  refine gMetX.of y_X9_loss.2.2.2.2.1 (Nat.le_of_ble_eq_true rfl) hst9 ?_
  intro x hlx C hR
  subst hlx
  have C : gC g x RX9 cX9_loss 4 6 1 6 100 := C
  show gW g x [(zo, cO 9 [.ref lo, .ref wo, .ref to, .ref so, .ref ro, .ref vo, .ref eo, .ref bo, .ref mo, vi tn]), (lo, cO 2 [.ref lp, .ref lh, .ref lu, vi nL]), (lp, cA g 40 LP), (lh, cA g 40 LH), (lu, cA g 40 LU)] 0 0 [(0, .ref zo), (1, vi p), (2, vi h), (3, vi u)] 0 []
  refine g_iload_n C 1 dX9_loss_0 rfl ?_
  refine g_callSp C [vi p] [] (c_X9_isPeril x.1.2.1 g p hp) y_X9_isPeril l_X9_72 [] rfl (by decide) rfl (Nat.le_of_ble_eq_true rfl) rfl (by decide) dX9_loss_1 ?_
  refine g_if_eq C 24 dX9_loss_4 (by decide) (by omega) (fun c4 => ?_) (fun c4 => ?_)
  · exact g_throw C hR t_84 t_84k t_84i (List.mem_of_getElem? (i := 0) rfl) dX9_loss_24 dX9_loss_27 dX9_loss_28 dX9_loss_30 dX9_loss_33 ⟨by decide, Nat.le_of_ble_eq_true rfl, by decide, by decide, by decide, by decide⟩ ⟨rfl, Or.inl ⟨rfl, (by omega)⟩⟩ rfl
  refine g_iload_n C 2 dX9_loss_7 rfl ?_
  refine g_callSp C [vi h] [] (c_X9_isHour x.1.2.1 g h hh) y_X9_isHour l_X9_76 [] rfl (by decide) rfl (Nat.le_of_ble_eq_true rfl) rfl (by decide) dX9_loss_8 ?_
  refine g_if_eq C 24 dX9_loss_11 (by decide) (by omega) (fun c11 => ?_) (fun c11 => ?_)
  · exact g_throw C hR t_84 t_84k t_84i (List.mem_of_getElem? (i := 0) rfl) dX9_loss_24 dX9_loss_27 dX9_loss_28 dX9_loss_30 dX9_loss_33 ⟨by decide, Nat.le_of_ble_eq_true rfl, by decide, by decide, by decide, by decide⟩ ⟨rfl, Or.inl ⟨rfl, (by omega)⟩⟩ rfl
  refine g_iload_n C 3 dX9_loss_14 rfl ?_
  refine g_iconst C dX9_loss_15 ?_
  refine g_ldc C (99999) n_X9_79 (by decide) dX9_loss_16 ?_
  refine g_callSp C [vi u, vi 0, vi 99999] [] (c_X9_isIn x.1.2.1 g u 0 99999 hu (by omega) (by omega)) y_X9_isIn l_X9_80 [] rfl (by decide) rfl (Nat.le_of_ble_eq_true rfl) rfl (by decide) dX9_loss_18 ?_
  refine g_if_ne C 34 dX9_loss_21 (by decide) (by omega) (fun c21 => ?_) (fun c21 => ?_)
  · refine g_aload_n C 0 dX9_loss_34 rfl ?_
    refine g_getf C k_X9 0 f_X9_12 0 rfl rfl (by decide) rfl rfl dX9_loss_35 ?_
    refine g_callVp C [] [] (c_X2_isFull x.1.2.1 g lo lp lh lu nL hnL) y_X2_isFull l_X9_91 [1] rfl (by decide) 1 rfl rfl rfl (Nat.le_of_ble_eq_true rfl) rfl (by decide) dX9_loss_38 ?_
    refine g_if_eq C 54 dX9_loss_41 (by decide) (by omega) (fun c41 => ?_) (fun c41 => ?_)
    · refine g_aload_n C 0 dX9_loss_54 rfl ?_
      refine g_getf C k_X9 0 f_X9_12 0 rfl rfl (by decide) rfl rfl dX9_loss_55 ?_
      refine g_iload_n C 1 dX9_loss_58 rfl ?_
      refine g_iload_n C 2 dX9_loss_59 rfl ?_
      refine g_iload_n C 3 dX9_loss_60 rfl ?_
      refine g_callV C [vi p, vi h, vi u] [] (c_X2_add x.1.2.1 g lo lp lh lu LP LH LU nL p h u (by omega)) y_X2_add l_X9_100 [1, 2, 3, 4] rfl (by decide) 1 rfl rfl rfl (Nat.le_of_ble_eq_true rfl) rfl (by decide) dX9_loss_61 (fun v9 w9 hp9 => ?_)
      obtain ⟨rfl, rfl⟩ := hp9
      simp only [putAll, List.set_cons_succ, List.set_cons_zero, List.cons_append, List.nil_append, List.append_nil, Option.toList]
      show gW g x [(zo, cO 9 [.ref lo, .ref wo, .ref to, .ref so, .ref ro, .ref vo, .ref eo, .ref bo, .ref mo, vi tn]), (lo, cO 2 [.ref lp, .ref lh, .ref lu, vi (nL + 1)]), (lp, cA g 40 (up LP nL p)), (lh, cA g 40 (up LH nL h)), (lu, cA g 40 (up LU nL u))] 0 0 [(0, .ref zo), (1, vi p), (2, vi h), (3, vi u)] 64 [vi nL]
      refine g_widen (k' := 1) (n' := 6) (by decide) (by decide) ?_
      refine g_outX C hR (fun x' C hR => ?_)
      exact g_iret C hR dX9_loss_64 ⟨rfl, rfl, (by omega)⟩ rfl
    exact g_throw C hR t_95 t_95k t_95i (List.mem_of_getElem? (i := 1) rfl) dX9_loss_44 dX9_loss_47 dX9_loss_48 dX9_loss_50 dX9_loss_53 ⟨by decide, Nat.le_of_ble_eq_true rfl, by decide, by decide, by decide, by decide⟩ ⟨rfl, Or.inr (⟨rfl, (by omega)⟩)⟩ rfl
  exact g_throw C hR t_84 t_84k t_84i (List.mem_of_getElem? (i := 0) rfl) dX9_loss_24 dX9_loss_27 dX9_loss_28 dX9_loss_30 dX9_loss_33 ⟨by decide, Nat.le_of_ble_eq_true rfl, by decide, by decide, by decide, by decide⟩ ⟨rfl, Or.inl ⟨rfl, (by omega)⟩⟩ rfl

set_option maxHeartbeats 4000000 in
set_option maxRecDepth 100000 in
theorem c_X9_creep (l : Launch) (hst9 : l.stackTraces = false) (g : gD) (zo : Nat) (lo : Nat) (wo : Nat) (to : Nat) (so : Nat) (ro : Nat) (vo : Nat) (eo : Nat) (bo : Nat) (mo : Nat) (tn : Int) (lp : Nat) (lh : Nat) (lu : Nat) (LU : Int → Int) (nL : Int) (v : Int) (u : Int) (hnL : 0 ≤ nL ∧ nL ≤ 40) (hv : -2147483648 ≤ v ∧ v < 2147483648) (hu : -2147483648 ≤ u ∧ u < 2147483648) : gMetX l g yX9_creep cX9_creep 3 (some .int) 6 1 6 100 [.ref zo, vi v, vi u] [(zo, cO 9 [.ref lo, .ref wo, .ref to, .ref so, .ref ro, .ref vo, .ref eo, .ref bo, .ref mo, vi tn]), (lo, cO 2 [.ref lp, .ref lh, .ref lu, vi nL]), (lu, cA g 40 LU)] (fun v9 w9 => v9 = (some (vi (LU v))) ∧ w9 = [(zo, cO 9 [.ref lo, .ref wo, .ref to, .ref so, .ref ro, .ref vo, .ref eo, .ref bo, .ref mo, vi tn]), (lo, cO 2 [.ref lp, .ref lh, .ref lu, vi nL]), (lu, cA g 40 (up LU v u))] ∧ ((0 ≤ v ∧ v < nL) ∧ 0 ≤ u ∧ u ≤ 99999)) (fun E9 w9 => w9 = [(zo, cO 9 [.ref lo, .ref wo, .ref to, .ref so, .ref ro, .ref vo, .ref eo, .ref bo, .ref mo, vi tn]), (lo, cO 2 [.ref lp, .ref lh, .ref lu, vi nL]), (lu, cA g 40 LU)] ∧ ((E9 = E3 ∧ (¬ (0 ≤ v ∧ v < nL))) ∨ (E9 = E1 ∧ ((0 ≤ v ∧ v < nL) ∧ ¬ (0 ≤ u ∧ u ≤ 99999))))) := by
  refine gMetX.of y_X9_creep.2.2.2.2.1 (Nat.le_of_ble_eq_true rfl) hst9 ?_
  intro x hlx C hR
  subst hlx
  have C : gC g x RX9 cX9_creep 3 6 1 6 100 := C
  show gW g x [(zo, cO 9 [.ref lo, .ref wo, .ref to, .ref so, .ref ro, .ref vo, .ref eo, .ref bo, .ref mo, vi tn]), (lo, cO 2 [.ref lp, .ref lh, .ref lu, vi nL]), (lu, cA g 40 LU)] 0 0 [(0, .ref zo), (1, vi v), (2, vi u)] 0 []
  refine g_aload_n C 0 dX9_creep_0 rfl ?_
  refine g_getf C k_X9 0 f_X9_12 0 rfl rfl (by decide) rfl rfl dX9_creep_1 ?_
  refine g_iload_n C 1 dX9_creep_4 rfl ?_
  refine g_callVp C [vi v] [] (c_X2_has x.1.2.1 g lo lp lh lu nL v hnL hv) y_X2_has l_X9_104 [1] rfl (by decide) 1 rfl rfl rfl (Nat.le_of_ble_eq_true rfl) rfl (by decide) dX9_creep_5 ?_
  refine g_if_ne C 21 dX9_creep_8 (by decide) (by omega) (fun c8 => ?_) (fun c8 => ?_)
  · refine g_iload_n C 2 dX9_creep_21 rfl ?_
    refine g_iconst C dX9_creep_22 ?_
    refine g_ldc C (99999) n_X9_79 (by decide) dX9_creep_23 ?_
    refine g_callSp C [vi u, vi 0, vi 99999] [] (c_X9_isIn x.1.2.1 g u 0 99999 hu (by omega) (by omega)) y_X9_isIn l_X9_80 [] rfl (by decide) rfl (Nat.le_of_ble_eq_true rfl) rfl (by decide) dX9_creep_25 ?_
    refine g_if_ne C 41 dX9_creep_28 (by decide) (by omega) (fun c28 => ?_) (fun c28 => ?_)
    · refine g_aload_n C 0 dX9_creep_41 rfl ?_
      refine g_getf C k_X9 0 f_X9_12 0 rfl rfl (by decide) rfl rfl dX9_creep_42 ?_
      refine g_iload_n C 1 dX9_creep_45 rfl ?_
      refine g_iload_n C 2 dX9_creep_46 rfl ?_
      refine g_callV C [vi v, vi u] [] (c_X2_change x.1.2.1 g lo lp lh lu LU nL v u hnL (by omega)) y_X2_change l_X9_114 [1, 2] rfl (by decide) 1 rfl rfl rfl (Nat.le_of_ble_eq_true rfl) rfl (by decide) dX9_creep_47 (fun v9 w9 hp9 => ?_)
      obtain ⟨rfl, rfl⟩ := hp9
      simp only [putAll, List.set_cons_succ, List.set_cons_zero, List.cons_append, List.nil_append, List.append_nil, Option.toList]
      show gW g x [(zo, cO 9 [.ref lo, .ref wo, .ref to, .ref so, .ref ro, .ref vo, .ref eo, .ref bo, .ref mo, vi tn]), (lo, cO 2 [.ref lp, .ref lh, .ref lu, vi nL]), (lu, cA g 40 (up LU v u))] 0 0 [(0, .ref zo), (1, vi v), (2, vi u)] 50 [vi (LU v)]
      refine g_widen (k' := 1) (n' := 6) (by decide) (by decide) ?_
      refine g_outX C hR (fun x' C hR => ?_)
      exact g_iret C hR dX9_creep_50 ⟨rfl, rfl, (by omega)⟩ rfl
    exact g_throw C hR t_84 t_84k t_84i (List.mem_of_getElem? (i := 3) rfl) dX9_creep_31 dX9_creep_34 dX9_creep_35 dX9_creep_37 dX9_creep_40 ⟨by decide, Nat.le_of_ble_eq_true rfl, by decide, by decide, by decide, by decide⟩ ⟨rfl, Or.inr (⟨rfl, (by omega)⟩)⟩ rfl
  exact g_throw C hR t_107 t_107k t_107i (List.mem_of_getElem? (i := 2) rfl) dX9_creep_11 dX9_creep_14 dX9_creep_15 dX9_creep_17 dX9_creep_20 ⟨by decide, Nat.le_of_ble_eq_true rfl, by decide, by decide, by decide, by decide⟩ ⟨rfl, Or.inl ⟨rfl, (by omega)⟩⟩ rfl

set_option maxHeartbeats 4000000 in
set_option maxRecDepth 100000 in
theorem c_X9_choose (l : Launch) (hst9 : l.stackTraces = false) (g : gD) (zo : Nat) (lo : Nat) (wo : Nat) (to : Nat) (so : Nat) (ro : Nat) (vo : Nat) (eo : Nat) (bo : Nat) (mo : Nat) (tn : Int) (wp : Nat) (wf : Nat) (wl : Nat) (OP : Int → Int) (OF : Int → Int) (OT : Int → Int) (nO : Int) (p : Int) (a : Int) (b : Int) (hOP : ∀ k, 0 ≤ OP k ∧ OP k ≤ 2) (hOF : ∀ k, 0 ≤ OF k ∧ OF k ≤ 2199) (hOT : ∀ k, 0 ≤ OT k ∧ OT k ≤ 2199) (hnO : 0 ≤ nO ∧ nO ≤ 8) (hp : -2147483648 ≤ p ∧ p < 2147483648) (ha : -2147483648 ≤ a ∧ a < 2147483648) (hb : -2147483648 ≤ b ∧ b < 2147483648) : gMetX l g yX9_choose cX9_choose 4 (some .int) 6 1 6 100 [.ref zo, vi p, vi a, vi b] [(zo, cO 9 [.ref lo, .ref wo, .ref to, .ref so, .ref ro, .ref vo, .ref eo, .ref bo, .ref mo, vi tn]), (wo, cO 8 [.ref wp, .ref wf, .ref wl, vi nO]), (wp, cA g 8 OP), (wf, cA g 8 OF), (wl, cA g 8 OT)] (fun v9 w9 => v9 = (some (vi nO)) ∧ w9 = [(zo, cO 9 [.ref lo, .ref wo, .ref to, .ref so, .ref ro, .ref vo, .ref eo, .ref bo, .ref mo, vi tn]), (wo, cO 8 [.ref wp, .ref wf, .ref wl, vi (nO + 1)]), (wp, cA g 8 (up OP nO p)), (wf, cA g 8 (up OF nO a)), (wl, cA g 8 (up OT nO b))] ∧ ((0 ≤ p ∧ p ≤ 2 ∧ 0 ≤ a ∧ a ≤ b ∧ b ≤ 2199 ∧ b - a < (if p = 0 then 72 else 168)) ∧ nO < 8 ∧ ¬ hic OP OF OT p a b nO)) (fun E9 w9 => w9 = [(zo, cO 9 [.ref lo, .ref wo, .ref to, .ref so, .ref ro, .ref vo, .ref eo, .ref bo, .ref mo, vi tn]), (wo, cO 8 [.ref wp, .ref wf, .ref wl, vi nO]), (wp, cA g 8 OP), (wf, cA g 8 OF), (wl, cA g 8 OT)] ∧ ((E9 = E1 ∧ (¬ (0 ≤ p ∧ p ≤ 2 ∧ 0 ≤ a ∧ a ≤ b ∧ b ≤ 2199 ∧ b - a < (if p = 0 then 72 else 168)))) ∨ (E9 = E2 ∧ ((0 ≤ p ∧ p ≤ 2 ∧ 0 ≤ a ∧ a ≤ b ∧ b ≤ 2199 ∧ b - a < (if p = 0 then 72 else 168)) ∧ (nO = 8 ∨ hic OP OF OT p a b nO))))) := by
  refine gMetX.of y_X9_choose.2.2.2.2.1 (Nat.le_of_ble_eq_true rfl) hst9 ?_
  intro x hlx C hR
  subst hlx
  have C : gC g x RX9 cX9_choose 4 6 1 6 100 := C
  show gW g x [(zo, cO 9 [.ref lo, .ref wo, .ref to, .ref so, .ref ro, .ref vo, .ref eo, .ref bo, .ref mo, vi tn]), (wo, cO 8 [.ref wp, .ref wf, .ref wl, vi nO]), (wp, cA g 8 OP), (wf, cA g 8 OF), (wl, cA g 8 OT)] 0 0 [(0, .ref zo), (1, vi p), (2, vi a), (3, vi b)] 0 []
  refine g_iload_n C 1 dX9_choose_0 rfl ?_
  refine g_callSp C [vi p] [] (c_X9_isPeril x.1.2.1 g p hp) y_X9_isPeril l_X9_72 [] rfl (by decide) rfl (Nat.le_of_ble_eq_true rfl) rfl (by decide) dX9_choose_1 ?_
  refine g_if_eq C 25 dX9_choose_4 (by decide) (by omega) (fun c4 => ?_) (fun c4 => ?_)
  · exact g_throw C hR t_84 t_84k t_84i (List.mem_of_getElem? (i := 4) rfl) dX9_choose_25 dX9_choose_28 dX9_choose_29 dX9_choose_31 dX9_choose_34 ⟨by decide, Nat.le_of_ble_eq_true rfl, by decide, by decide, by decide, by decide⟩ ⟨rfl, Or.inl ⟨rfl, (by omega)⟩⟩ rfl
  refine g_iload_n C 2 dX9_choose_7 rfl ?_
  refine g_iload_n C 3 dX9_choose_8 rfl ?_
  refine g_callSp C [vi a, vi b] [] (c_X9_isSpan x.1.2.1 g a b ha hb) y_X9_isSpan l_X9_118 [] rfl (by decide) rfl (Nat.le_of_ble_eq_true rfl) rfl (by decide) dX9_choose_9 ?_
  refine g_if_eq C 25 dX9_choose_12 (by decide) (by omega) (fun c12 => ?_) (fun c12 => ?_)
  · exact g_throw C hR t_84 t_84k t_84i (List.mem_of_getElem? (i := 4) rfl) dX9_choose_25 dX9_choose_28 dX9_choose_29 dX9_choose_31 dX9_choose_34 ⟨by decide, Nat.le_of_ble_eq_true rfl, by decide, by decide, by decide, by decide⟩ ⟨rfl, Or.inl ⟨rfl, (by omega)⟩⟩ rfl
  refine g_iload_n C 3 dX9_choose_15 rfl ?_
  refine g_iload_n C 2 dX9_choose_16 rfl ?_
  refine g_isub C dX9_choose_17 ?_
  refine g_iload_n C 1 dX9_choose_18 rfl ?_
  refine g_callSp C [vi p] [vi (b - a)] (c_X9_clauseOf x.1.2.1 g p hp) y_X9_clauseOf l_X9_122 [] rfl (by decide) rfl (Nat.le_of_ble_eq_true rfl) rfl (by decide) dX9_choose_19 ?_
  refine g_icmp_lt C 35 dX9_choose_22 (by decide) (by omega) (by omega) (fun c22 => ?_) (fun c22 => ?_)
  · refine g_aload_n C 0 dX9_choose_35 rfl ?_
    refine g_getf C k_X9 1 f_X9_19 0 rfl rfl (by decide) rfl rfl dX9_choose_36 ?_
    refine g_callVp C [] [] (c_X8_isFull x.1.2.1 g wo wp wf wl nO hnO) y_X8_isFull l_X9_128 [1] rfl (by decide) 1 rfl rfl rfl (Nat.le_of_ble_eq_true rfl) rfl (by decide) dX9_choose_39 ?_
    refine g_if_ne C 58 dX9_choose_42 (by decide) (by omega) (fun c42 => ?_) (fun c42 => ?_)
    · exact g_throw C hR t_95 t_95k t_95i (List.mem_of_getElem? (i := 5) rfl) dX9_choose_58 dX9_choose_61 dX9_choose_62 dX9_choose_64 dX9_choose_67 ⟨by decide, Nat.le_of_ble_eq_true rfl, by decide, by decide, by decide, by decide⟩ ⟨rfl, Or.inr (⟨rfl, (by first | exact ⟨by omega, Or.inl (by omega)⟩ | exact ⟨by omega, Or.inr hy9⟩)⟩)⟩ rfl
    refine g_aload_n C 0 dX9_choose_45 rfl ?_
    refine g_getf C k_X9 1 f_X9_19 0 rfl rfl (by decide) rfl rfl dX9_choose_46 ?_
    refine g_iload_n C 1 dX9_choose_49 rfl ?_
    refine g_iload_n C 2 dX9_choose_50 rfl ?_
    refine g_iload_n C 3 dX9_choose_51 rfl ?_
    refine g_callVp C [vi p, vi a, vi b] [] (c_X8_hasInCommon x.1.2.1 g wo wp wf wl OP OF OT nO p a b hOP hOF hOT hnO hp ha hb) y_X8_hasInCommon l_X9_129 [1, 2, 3, 4] rfl (by decide) 1 rfl rfl rfl (Nat.le_of_ble_eq_true rfl) rfl (by decide) dX9_choose_52 ?_
    have b9 := bI_01 (hic OP OF OT p a b nO)
    refine g_if_eq C 68 dX9_choose_55 (by decide) (by omega) (fun c55 => ?_) (fun c55 => ?_)
    · have hn9 : ¬ hic OP OF OT p a b nO := fun q => by rw [bI_t q] at c55; omega
      refine g_aload_n C 0 dX9_choose_68 rfl ?_
      refine g_getf C k_X9 1 f_X9_19 0 rfl rfl (by decide) rfl rfl dX9_choose_69 ?_
      refine g_iload_n C 1 dX9_choose_72 rfl ?_
      refine g_iload_n C 2 dX9_choose_73 rfl ?_
      refine g_iload_n C 3 dX9_choose_74 rfl ?_
      refine g_callV C [vi p, vi a, vi b] [] (c_X8_add x.1.2.1 g wo wp wf wl OP OF OT nO p a b (by omega)) y_X8_add l_X9_134 [1, 2, 3, 4] rfl (by decide) 1 rfl rfl rfl (Nat.le_of_ble_eq_true rfl) rfl (by decide) dX9_choose_75 (fun v9 w9 hp9 => ?_)
      obtain ⟨rfl, rfl⟩ := hp9
      simp only [putAll, List.set_cons_succ, List.set_cons_zero, List.cons_append, List.nil_append, List.append_nil, Option.toList]
      show gW g x [(zo, cO 9 [.ref lo, .ref wo, .ref to, .ref so, .ref ro, .ref vo, .ref eo, .ref bo, .ref mo, vi tn]), (wo, cO 8 [.ref wp, .ref wf, .ref wl, vi (nO + 1)]), (wp, cA g 8 (up OP nO p)), (wf, cA g 8 (up OF nO a)), (wl, cA g 8 (up OT nO b))] 0 0 [(0, .ref zo), (1, vi p), (2, vi a), (3, vi b)] 78 [vi nO]
      refine g_widen (k' := 1) (n' := 6) (by decide) (by decide) ?_
      refine g_outX C hR (fun x' C hR => ?_)
      exact g_iret C hR dX9_choose_78 ⟨rfl, rfl, ⟨by omega, by omega, hn9⟩⟩ rfl
    have hy9 : hic OP OF OT p a b nO := by
      rcases bI_c (hic OP OF OT p a b nO) with ⟨q, _⟩ | ⟨_, q⟩
      · exact absurd q c55
      · exact q
    exact g_throw C hR t_95 t_95k t_95i (List.mem_of_getElem? (i := 5) rfl) dX9_choose_58 dX9_choose_61 dX9_choose_62 dX9_choose_64 dX9_choose_67 ⟨by decide, Nat.le_of_ble_eq_true rfl, by decide, by decide, by decide, by decide⟩ ⟨rfl, Or.inr (⟨rfl, (by first | exact ⟨by omega, Or.inl (by omega)⟩ | exact ⟨by omega, Or.inr hy9⟩)⟩)⟩ rfl
  exact g_throw C hR t_84 t_84k t_84i (List.mem_of_getElem? (i := 4) rfl) dX9_choose_25 dX9_choose_28 dX9_choose_29 dX9_choose_31 dX9_choose_34 ⟨by decide, Nat.le_of_ble_eq_true rfl, by decide, by decide, by decide, by decide⟩ ⟨rfl, Or.inl ⟨rfl, (by omega)⟩⟩ rfl

set_option maxHeartbeats 4000000 in
set_option maxRecDepth 100000 in
theorem c_X9_unchoose (l : Launch) (hst9 : l.stackTraces = false) (g : gD) (zo : Nat) (lo : Nat) (wo : Nat) (to : Nat) (so : Nat) (ro : Nat) (vo : Nat) (eo : Nat) (bo : Nat) (mo : Nat) (tn : Int) (wp : Nat) (wf : Nat) (wl : Nat) (nO : Int) (hnO : 0 ≤ nO ∧ nO ≤ 8) : gMetX l g yX9_unchoose cX9_unchoose 1 (some .int) 6 1 6 100 [.ref zo] [(zo, cO 9 [.ref lo, .ref wo, .ref to, .ref so, .ref ro, .ref vo, .ref eo, .ref bo, .ref mo, vi tn]), (wo, cO 8 [.ref wp, .ref wf, .ref wl, vi nO])] (fun v9 w9 => v9 = (some (vi (nO - 1))) ∧ w9 = [(zo, cO 9 [.ref lo, .ref wo, .ref to, .ref so, .ref ro, .ref vo, .ref eo, .ref bo, .ref mo, vi tn]), (wo, cO 8 [.ref wp, .ref wf, .ref wl, vi (nO - 1)])] ∧ (1 ≤ nO)) (fun E9 w9 => w9 = [(zo, cO 9 [.ref lo, .ref wo, .ref to, .ref so, .ref ro, .ref vo, .ref eo, .ref bo, .ref mo, vi tn]), (wo, cO 8 [.ref wp, .ref wf, .ref wl, vi nO])] ∧ ((E9 = E2 ∧ (nO = 0)))) := by
  refine gMetX.of y_X9_unchoose.2.2.2.2.1 (Nat.le_of_ble_eq_true rfl) hst9 ?_
  intro x hlx C hR
  subst hlx
  have C : gC g x RX9 cX9_unchoose 1 6 1 6 100 := C
  show gW g x [(zo, cO 9 [.ref lo, .ref wo, .ref to, .ref so, .ref ro, .ref vo, .ref eo, .ref bo, .ref mo, vi tn]), (wo, cO 8 [.ref wp, .ref wf, .ref wl, vi nO])] 0 0 [(0, .ref zo)] 0 []
  refine g_aload_n C 0 dX9_unchoose_0 rfl ?_
  refine g_getf C k_X9 1 f_X9_19 0 rfl rfl (by decide) rfl rfl dX9_unchoose_1 ?_
  refine g_callVp C [] [] (c_X8_isEmpty x.1.2.1 g wo wp wf wl nO hnO) y_X8_isEmpty l_X9_135 [1] rfl (by decide) 1 rfl rfl rfl (Nat.le_of_ble_eq_true rfl) rfl (by decide) dX9_unchoose_4 ?_
  refine g_if_eq C 20 dX9_unchoose_7 (by decide) (by omega) (fun c7 => ?_) (fun c7 => ?_)
  · refine g_aload_n C 0 dX9_unchoose_20 rfl ?_
    refine g_getf C k_X9 1 f_X9_19 0 rfl rfl (by decide) rfl rfl dX9_unchoose_21 ?_
    refine g_callV C [] [] (c_X8_removeLast x.1.2.1 g wo wp wf wl nO (by omega)) y_X8_removeLast l_X9_140 [1] rfl (by decide) 1 rfl rfl rfl (Nat.le_of_ble_eq_true rfl) rfl (by decide) dX9_unchoose_24 (fun v9 w9 hp9 => ?_)
    obtain ⟨rfl, rfl⟩ := hp9
    simp only [putAll, List.set_cons_succ, List.set_cons_zero, List.cons_append, List.nil_append, List.append_nil, Option.toList]
    show gW g x [(zo, cO 9 [.ref lo, .ref wo, .ref to, .ref so, .ref ro, .ref vo, .ref eo, .ref bo, .ref mo, vi tn]), (wo, cO 8 [.ref wp, .ref wf, .ref wl, vi (nO - 1)])] 0 0 [(0, .ref zo)] 27 [vi (nO - 1)]
    refine g_widen (k' := 1) (n' := 6) (by decide) (by decide) ?_
    refine g_outX C hR (fun x' C hR => ?_)
    exact g_iret C hR dX9_unchoose_27 ⟨rfl, rfl, (by omega)⟩ rfl
  exact g_throw C hR t_95 t_95k t_95i (List.mem_of_getElem? (i := 6) rfl) dX9_unchoose_10 dX9_unchoose_13 dX9_unchoose_14 dX9_unchoose_16 dX9_unchoose_19 ⟨by decide, Nat.le_of_ble_eq_true rfl, by decide, by decide, by decide, by decide⟩ ⟨rfl, ⟨rfl, (by omega)⟩⟩ rfl

set_option maxHeartbeats 4000000 in
set_option maxRecDepth 100000 in
theorem c_X9_quota (l : Launch) (hst9 : l.stackTraces = false) (g : gD) (zo : Nat) (lo : Nat) (wo : Nat) (to : Nat) (so : Nat) (ro : Nat) (vo : Nat) (eo : Nat) (bo : Nat) (mo : Nat) (tn : Int) (tf : Nat) (td : Nat) (tS : Nat) (tr : Nat) (tp : Nat) (tt : Nat) (nY : Int) (Q : Int) (v : Int) (hv : -2147483648 ≤ v ∧ v < 2147483648) : gMetX l g yX9_quota cX9_quota 2 (some .int) 6 1 6 100 [.ref zo, vi v] [(zo, cO 9 [.ref lo, .ref wo, .ref to, .ref so, .ref ro, .ref vo, .ref eo, .ref bo, .ref mo, vi tn]), (to, cO 7 [.ref tf, .ref td, .ref tS, .ref tr, .ref tp, .ref tt, vi nY, vi Q])] (fun v9 w9 => v9 = (some (vi Q)) ∧ w9 = [(zo, cO 9 [.ref lo, .ref wo, .ref to, .ref so, .ref ro, .ref vo, .ref eo, .ref bo, .ref mo, vi tn]), (to, cO 7 [.ref tf, .ref td, .ref tS, .ref tr, .ref tp, .ref tt, vi nY, vi v])] ∧ (0 ≤ v ∧ v ≤ 90)) (fun E9 w9 => w9 = [(zo, cO 9 [.ref lo, .ref wo, .ref to, .ref so, .ref ro, .ref vo, .ref eo, .ref bo, .ref mo, vi tn]), (to, cO 7 [.ref tf, .ref td, .ref tS, .ref tr, .ref tp, .ref tt, vi nY, vi Q])] ∧ ((E9 = E1 ∧ (¬ (0 ≤ v ∧ v ≤ 90))))) := by
  refine gMetX.of y_X9_quota.2.2.2.2.1 (Nat.le_of_ble_eq_true rfl) hst9 ?_
  intro x hlx C hR
  subst hlx
  have C : gC g x RX9 cX9_quota 2 6 1 6 100 := C
  show gW g x [(zo, cO 9 [.ref lo, .ref wo, .ref to, .ref so, .ref ro, .ref vo, .ref eo, .ref bo, .ref mo, vi tn]), (to, cO 7 [.ref tf, .ref td, .ref tS, .ref tr, .ref tp, .ref tt, vi nY, vi Q])] 0 0 [(0, .ref zo), (1, vi v)] 0 []
  refine g_iload_n C 1 dX9_quota_0 rfl ?_
  refine g_iconst C dX9_quota_1 ?_
  refine g_bipush C dX9_quota_2 (by decide) ?_
  refine g_callSp C [vi v, vi 0, vi 90] [] (c_X9_isIn x.1.2.1 g v 0 90 hv (by omega) (by omega)) y_X9_isIn l_X9_80 [] rfl (by decide) rfl (Nat.le_of_ble_eq_true rfl) rfl (by decide) dX9_quota_4 ?_
  refine g_if_ne C 20 dX9_quota_7 (by decide) (by omega) (fun c7 => ?_) (fun c7 => ?_)
  · refine g_aload_n C 0 dX9_quota_20 rfl ?_
    refine g_getf C k_X9 2 f_X9_26 0 rfl rfl (by decide) rfl rfl dX9_quota_21 ?_
    refine g_iload_n C 1 dX9_quota_24 rfl ?_
    refine g_callV C [vi v] [] (c_X7_changeQuota x.1.2.1 g to tf td tS tr tp tt nY Q v) y_X7_changeQuota l_X9_146 [1] rfl (by decide) 1 rfl rfl rfl (Nat.le_of_ble_eq_true rfl) rfl (by decide) dX9_quota_25 (fun v9 w9 hp9 => ?_)
    obtain ⟨rfl, rfl⟩ := hp9
    simp only [putAll, List.set_cons_succ, List.set_cons_zero, List.cons_append, List.nil_append, List.append_nil, Option.toList]
    show gW g x [(zo, cO 9 [.ref lo, .ref wo, .ref to, .ref so, .ref ro, .ref vo, .ref eo, .ref bo, .ref mo, vi tn]), (to, cO 7 [.ref tf, .ref td, .ref tS, .ref tr, .ref tp, .ref tt, vi nY, vi v])] 0 0 [(0, .ref zo), (1, vi v)] 28 [vi Q]
    refine g_widen (k' := 1) (n' := 6) (by decide) (by decide) ?_
    refine g_outX C hR (fun x' C hR => ?_)
    exact g_iret C hR dX9_quota_28 ⟨rfl, rfl, (by omega)⟩ rfl
  exact g_throw C hR t_84 t_84k t_84i (List.mem_of_getElem? (i := 7) rfl) dX9_quota_10 dX9_quota_13 dX9_quota_14 dX9_quota_16 dX9_quota_19 ⟨by decide, Nat.le_of_ble_eq_true rfl, by decide, by decide, by decide, by decide⟩ ⟨rfl, ⟨rfl, (by omega)⟩⟩ rfl

set_option maxHeartbeats 4000000 in
set_option maxRecDepth 100000 in
theorem c_X9_layer (l : Launch) (hst9 : l.stackTraces = false) (g : gD) (zo : Nat) (lo : Nat) (wo : Nat) (to : Nat) (so : Nat) (ro : Nat) (vo : Nat) (eo : Nat) (bo : Nat) (mo : Nat) (tn : Int) (tf : Nat) (td : Nat) (tS : Nat) (tr : Nat) (tp : Nat) (tt : Nat) (FL : Int → Int) (DP : Int → Int) (SH : Int → Int) (RE : Int → Int) (PR : Int → Int) (RA : Int → Int) (nY : Int) (Q : Int) (a1 : Int) (a2 : Int) (a3 : Int) (a4 : Int) (a5 : Int) (a6 : Int) (hnY : 0 ≤ nY ∧ nY ≤ 5) (ha1 : -2147483648 ≤ a1 ∧ a1 < 2147483648) (ha2 : -2147483648 ≤ a2 ∧ a2 < 2147483648) (ha3 : -2147483648 ≤ a3 ∧ a3 < 2147483648) (ha4 : -2147483648 ≤ a4 ∧ a4 < 2147483648) (ha5 : -2147483648 ≤ a5 ∧ a5 < 2147483648) (ha6 : -2147483648 ≤ a6 ∧ a6 < 2147483648) : gMetX l g yX9_layer cX9_layer 8 (some .int) 6 1 6 100 [.ref zo, vi a1, vi a2, vi a3, vi a4, vi a5, vi a6] [(zo, cO 9 [.ref lo, .ref wo, .ref to, .ref so, .ref ro, .ref vo, .ref eo, .ref bo, .ref mo, vi tn]), (to, cO 7 [.ref tf, .ref td, .ref tS, .ref tr, .ref tp, .ref tt, vi nY, vi Q]), (tf, cA g 5 FL), (td, cA g 5 DP), (tS, cA g 5 SH), (tr, cA g 5 RE), (tp, cA g 5 PR), (tt, cA g 5 RA)] (fun v9 w9 => v9 = (some (vi nY)) ∧ w9 = [(zo, cO 9 [.ref lo, .ref wo, .ref to, .ref so, .ref ro, .ref vo, .ref eo, .ref bo, .ref mo, vi tn]), (to, cO 7 [.ref tf, .ref td, .ref tS, .ref tr, .ref tp, .ref tt, vi (nY + 1), vi Q]), (tf, cA g 5 (up FL nY a1)), (td, cA g 5 (up DP nY a2)), (tS, cA g 5 (up SH nY a3)), (tr, cA g 5 (up RE nY a4)), (tp, cA g 5 (up PR nY a5)), (tt, cA g 5 (up RA nY a6))] ∧ (((0 ≤ a1 ∧ a1 ≤ 999999) ∧ (1 ≤ a2 ∧ a2 ≤ 999999) ∧ (1 ≤ a3 ∧ a3 ≤ 100) ∧ (0 ≤ a4 ∧ a4 ≤ 3) ∧ (0 ≤ a5 ∧ a5 ≤ 99999) ∧ (0 ≤ a6 ∧ a6 ≤ 150)) ∧ nY < 5)) (fun E9 w9 => w9 = [(zo, cO 9 [.ref lo, .ref wo, .ref to, .ref so, .ref ro, .ref vo, .ref eo, .ref bo, .ref mo, vi tn]), (to, cO 7 [.ref tf, .ref td, .ref tS, .ref tr, .ref tp, .ref tt, vi nY, vi Q]), (tf, cA g 5 FL), (td, cA g 5 DP), (tS, cA g 5 SH), (tr, cA g 5 RE), (tp, cA g 5 PR), (tt, cA g 5 RA)] ∧ ((E9 = E1 ∧ (¬ ((0 ≤ a1 ∧ a1 ≤ 999999) ∧ (1 ≤ a2 ∧ a2 ≤ 999999) ∧ (1 ≤ a3 ∧ a3 ≤ 100) ∧ (0 ≤ a4 ∧ a4 ≤ 3) ∧ (0 ≤ a5 ∧ a5 ≤ 99999) ∧ (0 ≤ a6 ∧ a6 ≤ 150)))) ∨ (E9 = E2 ∧ (((0 ≤ a1 ∧ a1 ≤ 999999) ∧ (1 ≤ a2 ∧ a2 ≤ 999999) ∧ (1 ≤ a3 ∧ a3 ≤ 100) ∧ (0 ≤ a4 ∧ a4 ≤ 3) ∧ (0 ≤ a5 ∧ a5 ≤ 99999) ∧ (0 ≤ a6 ∧ a6 ≤ 150)) ∧ nY = 5)))) := by
  refine gMetX.of y_X9_layer.2.2.2.2.1 (Nat.le_of_ble_eq_true rfl) hst9 ?_
  intro x hlx C hR
  subst hlx
  have C : gC g x RX9 cX9_layer 8 6 1 6 100 := C
  show gW g x [(zo, cO 9 [.ref lo, .ref wo, .ref to, .ref so, .ref ro, .ref vo, .ref eo, .ref bo, .ref mo, vi tn]), (to, cO 7 [.ref tf, .ref td, .ref tS, .ref tr, .ref tp, .ref tt, vi nY, vi Q]), (tf, cA g 5 FL), (td, cA g 5 DP), (tS, cA g 5 SH), (tr, cA g 5 RE), (tp, cA g 5 PR), (tt, cA g 5 RA)] 0 0 [(0, .ref zo), (1, vi a1), (2, vi a2), (3, vi a3), (4, vi a4), (5, vi a5), (6, vi a6)] 0 []
  refine g_iload_n C 1 dX9_layer_0 rfl ?_
  refine g_iconst C dX9_layer_1 ?_
  refine g_ldc C (999999) n_X9_149 (by decide) dX9_layer_2 ?_
  refine g_callSp C [vi a1, vi 0, vi 999999] [] (c_X9_isIn x.1.2.1 g a1 0 999999 ha1 (by omega) (by omega)) y_X9_isIn l_X9_80 [] rfl (by decide) rfl (Nat.le_of_ble_eq_true rfl) rfl (by decide) dX9_layer_4 ?_
  refine g_if_eq C 34 dX9_layer_7 (by decide) (by omega) (fun c7 => ?_) (fun c7 => ?_)
  · refine g_iconst C dX9_layer_34 ?_
    refine g_istore C [(7, vi 0), (0, .ref zo), (1, vi a1), (2, vi a2), (3, vi a3), (4, vi a4), (5, vi a5), (6, vi a6)] dX9_layer_35 (by decide) rfl ?_
    refine g_iload C 0 dX9_layer_37 rfl ?_
    refine g_if_eq C 75 dX9_layer_39 (by decide) (by omega) (fun c39 => ?_) (fun c39 => ?_)
    · exact g_throw C hR t_84 t_84k t_84i (List.mem_of_getElem? (i := 8) rfl) dX9_layer_75 dX9_layer_78 dX9_layer_79 dX9_layer_81 dX9_layer_84 ⟨by decide, Nat.le_of_ble_eq_true rfl, by decide, by decide, by decide, by decide⟩ ⟨rfl, Or.inl ⟨rfl, (by omega)⟩⟩ rfl
    refine g_iload C 5 dX9_layer_42 rfl ?_
    refine g_iconst C dX9_layer_44 ?_
    refine g_iconst C dX9_layer_45 ?_
    refine g_callSp C [vi a4, vi 0, vi 3] [] (c_X9_isIn x.1.2.1 g a4 0 3 ha4 (by omega) (by omega)) y_X9_isIn l_X9_80 [] rfl (by decide) rfl (Nat.le_of_ble_eq_true rfl) rfl (by decide) dX9_layer_46 ?_
    refine g_if_eq C 75 dX9_layer_49 (by decide) (by omega) (fun c49 => ?_) (fun c49 => ?_)
    · exact g_throw C hR t_84 t_84k t_84i (List.mem_of_getElem? (i := 8) rfl) dX9_layer_75 dX9_layer_78 dX9_layer_79 dX9_layer_81 dX9_layer_84 ⟨by decide, Nat.le_of_ble_eq_true rfl, by decide, by decide, by decide, by decide⟩ ⟨rfl, Or.inl ⟨rfl, (by omega)⟩⟩ rfl
    refine g_iload C 6 dX9_layer_52 rfl ?_
    refine g_iconst C dX9_layer_54 ?_
    refine g_ldc C (99999) n_X9_79 (by decide) dX9_layer_55 ?_
    refine g_callSp C [vi a5, vi 0, vi 99999] [] (c_X9_isIn x.1.2.1 g a5 0 99999 ha5 (by omega) (by omega)) y_X9_isIn l_X9_80 [] rfl (by decide) rfl (Nat.le_of_ble_eq_true rfl) rfl (by decide) dX9_layer_57 ?_
    refine g_if_eq C 75 dX9_layer_60 (by decide) (by omega) (fun c60 => ?_) (fun c60 => ?_)
    · exact g_throw C hR t_84 t_84k t_84i (List.mem_of_getElem? (i := 8) rfl) dX9_layer_75 dX9_layer_78 dX9_layer_79 dX9_layer_81 dX9_layer_84 ⟨by decide, Nat.le_of_ble_eq_true rfl, by decide, by decide, by decide, by decide⟩ ⟨rfl, Or.inl ⟨rfl, (by omega)⟩⟩ rfl
    refine g_iload C 7 dX9_layer_63 rfl ?_
    refine g_iconst C dX9_layer_65 ?_
    refine g_sipush C dX9_layer_66 (by decide) ?_
    refine g_callSp C [vi a6, vi 0, vi 150] [] (c_X9_isIn x.1.2.1 g a6 0 150 ha6 (by omega) (by omega)) y_X9_isIn l_X9_80 [] rfl (by decide) rfl (Nat.le_of_ble_eq_true rfl) rfl (by decide) dX9_layer_69 ?_
    refine g_if_ne C 85 dX9_layer_72 (by decide) (by omega) (fun c72 => ?_) (fun c72 => ?_)
    · refine g_aload_n C 1 dX9_layer_85 rfl ?_
      refine g_getf C k_X9 2 f_X9_26 0 rfl rfl (by decide) rfl rfl dX9_layer_86 ?_
      refine g_callVp C [] [] (c_X7_isFull x.1.2.1 g to tf td tS tr tp tt nY Q hnY) y_X7_isFull l_X9_152 [1] rfl (by decide) 1 rfl rfl rfl (Nat.le_of_ble_eq_true rfl) rfl (by decide) dX9_layer_89 ?_
      refine g_if_eq C 105 dX9_layer_92 (by decide) (by omega) (fun c92 => ?_) (fun c92 => ?_)
      · refine g_aload_n C 1 dX9_layer_105 rfl ?_
        refine g_getf C k_X9 2 f_X9_26 0 rfl rfl (by decide) rfl rfl dX9_layer_106 ?_
        refine g_iload_n C 2 dX9_layer_109 rfl ?_
        refine g_iload_n C 3 dX9_layer_110 rfl ?_
        refine g_iload_n C 4 dX9_layer_111 rfl ?_
        refine g_iload C 5 dX9_layer_112 rfl ?_
        refine g_iload C 6 dX9_layer_114 rfl ?_
        refine g_iload C 7 dX9_layer_116 rfl ?_
        refine g_callV C [vi a1, vi a2, vi a3, vi a4, vi a5, vi a6] [] (c_X7_add x.1.2.1 g to tf td tS tr tp tt FL DP SH RE PR RA nY Q a1 a2 a3 a4 a5 a6 (by omega)) y_X7_add l_X9_155 [1, 2, 3, 4, 5, 6, 7] rfl (by decide) 1 rfl rfl rfl (Nat.le_of_ble_eq_true rfl) rfl (by decide) dX9_layer_118 (fun v9 w9 hp9 => ?_)
        obtain ⟨rfl, rfl⟩ := hp9
        simp only [putAll, List.set_cons_succ, List.set_cons_zero, List.cons_append, List.nil_append, List.append_nil, Option.toList]
        show gW g x [(zo, cO 9 [.ref lo, .ref wo, .ref to, .ref so, .ref ro, .ref vo, .ref eo, .ref bo, .ref mo, vi tn]), (to, cO 7 [.ref tf, .ref td, .ref tS, .ref tr, .ref tp, .ref tt, vi (nY + 1), vi Q]), (tf, cA g 5 (up FL nY a1)), (td, cA g 5 (up DP nY a2)), (tS, cA g 5 (up SH nY a3)), (tr, cA g 5 (up RE nY a4)), (tp, cA g 5 (up PR nY a5)), (tt, cA g 5 (up RA nY a6))] 0 0 [(7, vi 0), (0, .ref zo), (1, vi a1), (2, vi a2), (3, vi a3), (4, vi a4), (5, vi a5), (6, vi a6)] 121 [vi nY]
        refine g_widen (k' := 1) (n' := 6) (by decide) (by decide) ?_
        refine g_outX C hR (fun x' C hR => ?_)
        exact g_iret C hR dX9_layer_121 ⟨rfl, rfl, (by omega)⟩ rfl
      exact g_throw C hR t_95 t_95k t_95i (List.mem_of_getElem? (i := 9) rfl) dX9_layer_95 dX9_layer_98 dX9_layer_99 dX9_layer_101 dX9_layer_104 ⟨by decide, Nat.le_of_ble_eq_true rfl, by decide, by decide, by decide, by decide⟩ ⟨rfl, Or.inr (⟨rfl, (by omega)⟩)⟩ rfl
    exact g_throw C hR t_84 t_84k t_84i (List.mem_of_getElem? (i := 8) rfl) dX9_layer_75 dX9_layer_78 dX9_layer_79 dX9_layer_81 dX9_layer_84 ⟨by decide, Nat.le_of_ble_eq_true rfl, by decide, by decide, by decide, by decide⟩ ⟨rfl, Or.inl ⟨rfl, (by omega)⟩⟩ rfl
  refine g_iload_n C 2 dX9_layer_10 rfl ?_
  refine g_iconst C dX9_layer_11 ?_
  refine g_ldc C (999999) n_X9_149 (by decide) dX9_layer_12 ?_
  refine g_callSp C [vi a2, vi 1, vi 999999] [] (c_X9_isIn x.1.2.1 g a2 1 999999 ha2 (by omega) (by omega)) y_X9_isIn l_X9_80 [] rfl (by decide) rfl (Nat.le_of_ble_eq_true rfl) rfl (by decide) dX9_layer_14 ?_
  refine g_if_eq C 34 dX9_layer_17 (by decide) (by omega) (fun c17 => ?_) (fun c17 => ?_)
  · refine g_iconst C dX9_layer_34 ?_
    refine g_istore C [(7, vi 0), (0, .ref zo), (1, vi a1), (2, vi a2), (3, vi a3), (4, vi a4), (5, vi a5), (6, vi a6)] dX9_layer_35 (by decide) rfl ?_
    refine g_iload C 0 dX9_layer_37 rfl ?_
    refine g_if_eq C 75 dX9_layer_39 (by decide) (by omega) (fun c39 => ?_) (fun c39 => ?_)
    · exact g_throw C hR t_84 t_84k t_84i (List.mem_of_getElem? (i := 8) rfl) dX9_layer_75 dX9_layer_78 dX9_layer_79 dX9_layer_81 dX9_layer_84 ⟨by decide, Nat.le_of_ble_eq_true rfl, by decide, by decide, by decide, by decide⟩ ⟨rfl, Or.inl ⟨rfl, (by omega)⟩⟩ rfl
    refine g_iload C 5 dX9_layer_42 rfl ?_
    refine g_iconst C dX9_layer_44 ?_
    refine g_iconst C dX9_layer_45 ?_
    refine g_callSp C [vi a4, vi 0, vi 3] [] (c_X9_isIn x.1.2.1 g a4 0 3 ha4 (by omega) (by omega)) y_X9_isIn l_X9_80 [] rfl (by decide) rfl (Nat.le_of_ble_eq_true rfl) rfl (by decide) dX9_layer_46 ?_
    refine g_if_eq C 75 dX9_layer_49 (by decide) (by omega) (fun c49 => ?_) (fun c49 => ?_)
    · exact g_throw C hR t_84 t_84k t_84i (List.mem_of_getElem? (i := 8) rfl) dX9_layer_75 dX9_layer_78 dX9_layer_79 dX9_layer_81 dX9_layer_84 ⟨by decide, Nat.le_of_ble_eq_true rfl, by decide, by decide, by decide, by decide⟩ ⟨rfl, Or.inl ⟨rfl, (by omega)⟩⟩ rfl
    refine g_iload C 6 dX9_layer_52 rfl ?_
    refine g_iconst C dX9_layer_54 ?_
    refine g_ldc C (99999) n_X9_79 (by decide) dX9_layer_55 ?_
    refine g_callSp C [vi a5, vi 0, vi 99999] [] (c_X9_isIn x.1.2.1 g a5 0 99999 ha5 (by omega) (by omega)) y_X9_isIn l_X9_80 [] rfl (by decide) rfl (Nat.le_of_ble_eq_true rfl) rfl (by decide) dX9_layer_57 ?_
    refine g_if_eq C 75 dX9_layer_60 (by decide) (by omega) (fun c60 => ?_) (fun c60 => ?_)
    · exact g_throw C hR t_84 t_84k t_84i (List.mem_of_getElem? (i := 8) rfl) dX9_layer_75 dX9_layer_78 dX9_layer_79 dX9_layer_81 dX9_layer_84 ⟨by decide, Nat.le_of_ble_eq_true rfl, by decide, by decide, by decide, by decide⟩ ⟨rfl, Or.inl ⟨rfl, (by omega)⟩⟩ rfl
    refine g_iload C 7 dX9_layer_63 rfl ?_
    refine g_iconst C dX9_layer_65 ?_
    refine g_sipush C dX9_layer_66 (by decide) ?_
    refine g_callSp C [vi a6, vi 0, vi 150] [] (c_X9_isIn x.1.2.1 g a6 0 150 ha6 (by omega) (by omega)) y_X9_isIn l_X9_80 [] rfl (by decide) rfl (Nat.le_of_ble_eq_true rfl) rfl (by decide) dX9_layer_69 ?_
    refine g_if_ne C 85 dX9_layer_72 (by decide) (by omega) (fun c72 => ?_) (fun c72 => ?_)
    · refine g_aload_n C 1 dX9_layer_85 rfl ?_
      refine g_getf C k_X9 2 f_X9_26 0 rfl rfl (by decide) rfl rfl dX9_layer_86 ?_
      refine g_callVp C [] [] (c_X7_isFull x.1.2.1 g to tf td tS tr tp tt nY Q hnY) y_X7_isFull l_X9_152 [1] rfl (by decide) 1 rfl rfl rfl (Nat.le_of_ble_eq_true rfl) rfl (by decide) dX9_layer_89 ?_
      refine g_if_eq C 105 dX9_layer_92 (by decide) (by omega) (fun c92 => ?_) (fun c92 => ?_)
      · refine g_aload_n C 1 dX9_layer_105 rfl ?_
        refine g_getf C k_X9 2 f_X9_26 0 rfl rfl (by decide) rfl rfl dX9_layer_106 ?_
        refine g_iload_n C 2 dX9_layer_109 rfl ?_
        refine g_iload_n C 3 dX9_layer_110 rfl ?_
        refine g_iload_n C 4 dX9_layer_111 rfl ?_
        refine g_iload C 5 dX9_layer_112 rfl ?_
        refine g_iload C 6 dX9_layer_114 rfl ?_
        refine g_iload C 7 dX9_layer_116 rfl ?_
        refine g_callV C [vi a1, vi a2, vi a3, vi a4, vi a5, vi a6] [] (c_X7_add x.1.2.1 g to tf td tS tr tp tt FL DP SH RE PR RA nY Q a1 a2 a3 a4 a5 a6 (by omega)) y_X7_add l_X9_155 [1, 2, 3, 4, 5, 6, 7] rfl (by decide) 1 rfl rfl rfl (Nat.le_of_ble_eq_true rfl) rfl (by decide) dX9_layer_118 (fun v9 w9 hp9 => ?_)
        obtain ⟨rfl, rfl⟩ := hp9
        simp only [putAll, List.set_cons_succ, List.set_cons_zero, List.cons_append, List.nil_append, List.append_nil, Option.toList]
        show gW g x [(zo, cO 9 [.ref lo, .ref wo, .ref to, .ref so, .ref ro, .ref vo, .ref eo, .ref bo, .ref mo, vi tn]), (to, cO 7 [.ref tf, .ref td, .ref tS, .ref tr, .ref tp, .ref tt, vi (nY + 1), vi Q]), (tf, cA g 5 (up FL nY a1)), (td, cA g 5 (up DP nY a2)), (tS, cA g 5 (up SH nY a3)), (tr, cA g 5 (up RE nY a4)), (tp, cA g 5 (up PR nY a5)), (tt, cA g 5 (up RA nY a6))] 0 0 [(7, vi 0), (0, .ref zo), (1, vi a1), (2, vi a2), (3, vi a3), (4, vi a4), (5, vi a5), (6, vi a6)] 121 [vi nY]
        refine g_widen (k' := 1) (n' := 6) (by decide) (by decide) ?_
        refine g_outX C hR (fun x' C hR => ?_)
        exact g_iret C hR dX9_layer_121 ⟨rfl, rfl, (by omega)⟩ rfl
      exact g_throw C hR t_95 t_95k t_95i (List.mem_of_getElem? (i := 9) rfl) dX9_layer_95 dX9_layer_98 dX9_layer_99 dX9_layer_101 dX9_layer_104 ⟨by decide, Nat.le_of_ble_eq_true rfl, by decide, by decide, by decide, by decide⟩ ⟨rfl, Or.inr (⟨rfl, (by omega)⟩)⟩ rfl
    exact g_throw C hR t_84 t_84k t_84i (List.mem_of_getElem? (i := 8) rfl) dX9_layer_75 dX9_layer_78 dX9_layer_79 dX9_layer_81 dX9_layer_84 ⟨by decide, Nat.le_of_ble_eq_true rfl, by decide, by decide, by decide, by decide⟩ ⟨rfl, Or.inl ⟨rfl, (by omega)⟩⟩ rfl
  refine g_iload_n C 3 dX9_layer_20 rfl ?_
  refine g_iconst C dX9_layer_21 ?_
  refine g_bipush C dX9_layer_22 (by decide) ?_
  refine g_callSp C [vi a3, vi 1, vi 100] [] (c_X9_isIn x.1.2.1 g a3 1 100 ha3 (by omega) (by omega)) y_X9_isIn l_X9_80 [] rfl (by decide) rfl (Nat.le_of_ble_eq_true rfl) rfl (by decide) dX9_layer_24 ?_
  refine g_if_eq C 34 dX9_layer_27 (by decide) (by omega) (fun c27 => ?_) (fun c27 => ?_)
  · refine g_iconst C dX9_layer_34 ?_
    refine g_istore C [(7, vi 0), (0, .ref zo), (1, vi a1), (2, vi a2), (3, vi a3), (4, vi a4), (5, vi a5), (6, vi a6)] dX9_layer_35 (by decide) rfl ?_
    refine g_iload C 0 dX9_layer_37 rfl ?_
    refine g_if_eq C 75 dX9_layer_39 (by decide) (by omega) (fun c39 => ?_) (fun c39 => ?_)
    · exact g_throw C hR t_84 t_84k t_84i (List.mem_of_getElem? (i := 8) rfl) dX9_layer_75 dX9_layer_78 dX9_layer_79 dX9_layer_81 dX9_layer_84 ⟨by decide, Nat.le_of_ble_eq_true rfl, by decide, by decide, by decide, by decide⟩ ⟨rfl, Or.inl ⟨rfl, (by omega)⟩⟩ rfl
    refine g_iload C 5 dX9_layer_42 rfl ?_
    refine g_iconst C dX9_layer_44 ?_
    refine g_iconst C dX9_layer_45 ?_
    refine g_callSp C [vi a4, vi 0, vi 3] [] (c_X9_isIn x.1.2.1 g a4 0 3 ha4 (by omega) (by omega)) y_X9_isIn l_X9_80 [] rfl (by decide) rfl (Nat.le_of_ble_eq_true rfl) rfl (by decide) dX9_layer_46 ?_
    refine g_if_eq C 75 dX9_layer_49 (by decide) (by omega) (fun c49 => ?_) (fun c49 => ?_)
    · exact g_throw C hR t_84 t_84k t_84i (List.mem_of_getElem? (i := 8) rfl) dX9_layer_75 dX9_layer_78 dX9_layer_79 dX9_layer_81 dX9_layer_84 ⟨by decide, Nat.le_of_ble_eq_true rfl, by decide, by decide, by decide, by decide⟩ ⟨rfl, Or.inl ⟨rfl, (by omega)⟩⟩ rfl
    refine g_iload C 6 dX9_layer_52 rfl ?_
    refine g_iconst C dX9_layer_54 ?_
    refine g_ldc C (99999) n_X9_79 (by decide) dX9_layer_55 ?_
    refine g_callSp C [vi a5, vi 0, vi 99999] [] (c_X9_isIn x.1.2.1 g a5 0 99999 ha5 (by omega) (by omega)) y_X9_isIn l_X9_80 [] rfl (by decide) rfl (Nat.le_of_ble_eq_true rfl) rfl (by decide) dX9_layer_57 ?_
    refine g_if_eq C 75 dX9_layer_60 (by decide) (by omega) (fun c60 => ?_) (fun c60 => ?_)
    · exact g_throw C hR t_84 t_84k t_84i (List.mem_of_getElem? (i := 8) rfl) dX9_layer_75 dX9_layer_78 dX9_layer_79 dX9_layer_81 dX9_layer_84 ⟨by decide, Nat.le_of_ble_eq_true rfl, by decide, by decide, by decide, by decide⟩ ⟨rfl, Or.inl ⟨rfl, (by omega)⟩⟩ rfl
    refine g_iload C 7 dX9_layer_63 rfl ?_
    refine g_iconst C dX9_layer_65 ?_
    refine g_sipush C dX9_layer_66 (by decide) ?_
    refine g_callSp C [vi a6, vi 0, vi 150] [] (c_X9_isIn x.1.2.1 g a6 0 150 ha6 (by omega) (by omega)) y_X9_isIn l_X9_80 [] rfl (by decide) rfl (Nat.le_of_ble_eq_true rfl) rfl (by decide) dX9_layer_69 ?_
    refine g_if_ne C 85 dX9_layer_72 (by decide) (by omega) (fun c72 => ?_) (fun c72 => ?_)
    · refine g_aload_n C 1 dX9_layer_85 rfl ?_
      refine g_getf C k_X9 2 f_X9_26 0 rfl rfl (by decide) rfl rfl dX9_layer_86 ?_
      refine g_callVp C [] [] (c_X7_isFull x.1.2.1 g to tf td tS tr tp tt nY Q hnY) y_X7_isFull l_X9_152 [1] rfl (by decide) 1 rfl rfl rfl (Nat.le_of_ble_eq_true rfl) rfl (by decide) dX9_layer_89 ?_
      refine g_if_eq C 105 dX9_layer_92 (by decide) (by omega) (fun c92 => ?_) (fun c92 => ?_)
      · refine g_aload_n C 1 dX9_layer_105 rfl ?_
        refine g_getf C k_X9 2 f_X9_26 0 rfl rfl (by decide) rfl rfl dX9_layer_106 ?_
        refine g_iload_n C 2 dX9_layer_109 rfl ?_
        refine g_iload_n C 3 dX9_layer_110 rfl ?_
        refine g_iload_n C 4 dX9_layer_111 rfl ?_
        refine g_iload C 5 dX9_layer_112 rfl ?_
        refine g_iload C 6 dX9_layer_114 rfl ?_
        refine g_iload C 7 dX9_layer_116 rfl ?_
        refine g_callV C [vi a1, vi a2, vi a3, vi a4, vi a5, vi a6] [] (c_X7_add x.1.2.1 g to tf td tS tr tp tt FL DP SH RE PR RA nY Q a1 a2 a3 a4 a5 a6 (by omega)) y_X7_add l_X9_155 [1, 2, 3, 4, 5, 6, 7] rfl (by decide) 1 rfl rfl rfl (Nat.le_of_ble_eq_true rfl) rfl (by decide) dX9_layer_118 (fun v9 w9 hp9 => ?_)
        obtain ⟨rfl, rfl⟩ := hp9
        simp only [putAll, List.set_cons_succ, List.set_cons_zero, List.cons_append, List.nil_append, List.append_nil, Option.toList]
        show gW g x [(zo, cO 9 [.ref lo, .ref wo, .ref to, .ref so, .ref ro, .ref vo, .ref eo, .ref bo, .ref mo, vi tn]), (to, cO 7 [.ref tf, .ref td, .ref tS, .ref tr, .ref tp, .ref tt, vi (nY + 1), vi Q]), (tf, cA g 5 (up FL nY a1)), (td, cA g 5 (up DP nY a2)), (tS, cA g 5 (up SH nY a3)), (tr, cA g 5 (up RE nY a4)), (tp, cA g 5 (up PR nY a5)), (tt, cA g 5 (up RA nY a6))] 0 0 [(7, vi 0), (0, .ref zo), (1, vi a1), (2, vi a2), (3, vi a3), (4, vi a4), (5, vi a5), (6, vi a6)] 121 [vi nY]
        refine g_widen (k' := 1) (n' := 6) (by decide) (by decide) ?_
        refine g_outX C hR (fun x' C hR => ?_)
        exact g_iret C hR dX9_layer_121 ⟨rfl, rfl, (by omega)⟩ rfl
      exact g_throw C hR t_95 t_95k t_95i (List.mem_of_getElem? (i := 9) rfl) dX9_layer_95 dX9_layer_98 dX9_layer_99 dX9_layer_101 dX9_layer_104 ⟨by decide, Nat.le_of_ble_eq_true rfl, by decide, by decide, by decide, by decide⟩ ⟨rfl, Or.inr (⟨rfl, (by omega)⟩)⟩ rfl
    exact g_throw C hR t_84 t_84k t_84i (List.mem_of_getElem? (i := 8) rfl) dX9_layer_75 dX9_layer_78 dX9_layer_79 dX9_layer_81 dX9_layer_84 ⟨by decide, Nat.le_of_ble_eq_true rfl, by decide, by decide, by decide, by decide⟩ ⟨rfl, Or.inl ⟨rfl, (by omega)⟩⟩ rfl
  refine g_iconst C dX9_layer_30 ?_
  refine g_goto C 35 dX9_layer_31 (by decide) ?_
  refine g_istore C [(7, vi 1), (0, .ref zo), (1, vi a1), (2, vi a2), (3, vi a3), (4, vi a4), (5, vi a5), (6, vi a6)] dX9_layer_35 (by decide) rfl ?_
  refine g_iload C 0 dX9_layer_37 rfl ?_
  refine g_if_eq C 75 dX9_layer_39 (by decide) (by omega) (fun c39 => ?_) (fun c39 => ?_)
  · exact g_throw C hR t_84 t_84k t_84i (List.mem_of_getElem? (i := 8) rfl) dX9_layer_75 dX9_layer_78 dX9_layer_79 dX9_layer_81 dX9_layer_84 ⟨by decide, Nat.le_of_ble_eq_true rfl, by decide, by decide, by decide, by decide⟩ ⟨rfl, Or.inl ⟨rfl, (by omega)⟩⟩ rfl
  refine g_iload C 5 dX9_layer_42 rfl ?_
  refine g_iconst C dX9_layer_44 ?_
  refine g_iconst C dX9_layer_45 ?_
  refine g_callSp C [vi a4, vi 0, vi 3] [] (c_X9_isIn x.1.2.1 g a4 0 3 ha4 (by omega) (by omega)) y_X9_isIn l_X9_80 [] rfl (by decide) rfl (Nat.le_of_ble_eq_true rfl) rfl (by decide) dX9_layer_46 ?_
  refine g_if_eq C 75 dX9_layer_49 (by decide) (by omega) (fun c49 => ?_) (fun c49 => ?_)
  · exact g_throw C hR t_84 t_84k t_84i (List.mem_of_getElem? (i := 8) rfl) dX9_layer_75 dX9_layer_78 dX9_layer_79 dX9_layer_81 dX9_layer_84 ⟨by decide, Nat.le_of_ble_eq_true rfl, by decide, by decide, by decide, by decide⟩ ⟨rfl, Or.inl ⟨rfl, (by omega)⟩⟩ rfl
  refine g_iload C 6 dX9_layer_52 rfl ?_
  refine g_iconst C dX9_layer_54 ?_
  refine g_ldc C (99999) n_X9_79 (by decide) dX9_layer_55 ?_
  refine g_callSp C [vi a5, vi 0, vi 99999] [] (c_X9_isIn x.1.2.1 g a5 0 99999 ha5 (by omega) (by omega)) y_X9_isIn l_X9_80 [] rfl (by decide) rfl (Nat.le_of_ble_eq_true rfl) rfl (by decide) dX9_layer_57 ?_
  refine g_if_eq C 75 dX9_layer_60 (by decide) (by omega) (fun c60 => ?_) (fun c60 => ?_)
  · exact g_throw C hR t_84 t_84k t_84i (List.mem_of_getElem? (i := 8) rfl) dX9_layer_75 dX9_layer_78 dX9_layer_79 dX9_layer_81 dX9_layer_84 ⟨by decide, Nat.le_of_ble_eq_true rfl, by decide, by decide, by decide, by decide⟩ ⟨rfl, Or.inl ⟨rfl, (by omega)⟩⟩ rfl
  refine g_iload C 7 dX9_layer_63 rfl ?_
  refine g_iconst C dX9_layer_65 ?_
  refine g_sipush C dX9_layer_66 (by decide) ?_
  refine g_callSp C [vi a6, vi 0, vi 150] [] (c_X9_isIn x.1.2.1 g a6 0 150 ha6 (by omega) (by omega)) y_X9_isIn l_X9_80 [] rfl (by decide) rfl (Nat.le_of_ble_eq_true rfl) rfl (by decide) dX9_layer_69 ?_
  refine g_if_ne C 85 dX9_layer_72 (by decide) (by omega) (fun c72 => ?_) (fun c72 => ?_)
  · refine g_aload_n C 1 dX9_layer_85 rfl ?_
    refine g_getf C k_X9 2 f_X9_26 0 rfl rfl (by decide) rfl rfl dX9_layer_86 ?_
    refine g_callVp C [] [] (c_X7_isFull x.1.2.1 g to tf td tS tr tp tt nY Q hnY) y_X7_isFull l_X9_152 [1] rfl (by decide) 1 rfl rfl rfl (Nat.le_of_ble_eq_true rfl) rfl (by decide) dX9_layer_89 ?_
    refine g_if_eq C 105 dX9_layer_92 (by decide) (by omega) (fun c92 => ?_) (fun c92 => ?_)
    · refine g_aload_n C 1 dX9_layer_105 rfl ?_
      refine g_getf C k_X9 2 f_X9_26 0 rfl rfl (by decide) rfl rfl dX9_layer_106 ?_
      refine g_iload_n C 2 dX9_layer_109 rfl ?_
      refine g_iload_n C 3 dX9_layer_110 rfl ?_
      refine g_iload_n C 4 dX9_layer_111 rfl ?_
      refine g_iload C 5 dX9_layer_112 rfl ?_
      refine g_iload C 6 dX9_layer_114 rfl ?_
      refine g_iload C 7 dX9_layer_116 rfl ?_
      refine g_callV C [vi a1, vi a2, vi a3, vi a4, vi a5, vi a6] [] (c_X7_add x.1.2.1 g to tf td tS tr tp tt FL DP SH RE PR RA nY Q a1 a2 a3 a4 a5 a6 (by omega)) y_X7_add l_X9_155 [1, 2, 3, 4, 5, 6, 7] rfl (by decide) 1 rfl rfl rfl (Nat.le_of_ble_eq_true rfl) rfl (by decide) dX9_layer_118 (fun v9 w9 hp9 => ?_)
      obtain ⟨rfl, rfl⟩ := hp9
      simp only [putAll, List.set_cons_succ, List.set_cons_zero, List.cons_append, List.nil_append, List.append_nil, Option.toList]
      show gW g x [(zo, cO 9 [.ref lo, .ref wo, .ref to, .ref so, .ref ro, .ref vo, .ref eo, .ref bo, .ref mo, vi tn]), (to, cO 7 [.ref tf, .ref td, .ref tS, .ref tr, .ref tp, .ref tt, vi (nY + 1), vi Q]), (tf, cA g 5 (up FL nY a1)), (td, cA g 5 (up DP nY a2)), (tS, cA g 5 (up SH nY a3)), (tr, cA g 5 (up RE nY a4)), (tp, cA g 5 (up PR nY a5)), (tt, cA g 5 (up RA nY a6))] 0 0 [(7, vi 1), (0, .ref zo), (1, vi a1), (2, vi a2), (3, vi a3), (4, vi a4), (5, vi a5), (6, vi a6)] 121 [vi nY]
      refine g_widen (k' := 1) (n' := 6) (by decide) (by decide) ?_
      refine g_outX C hR (fun x' C hR => ?_)
      exact g_iret C hR dX9_layer_121 ⟨rfl, rfl, (by omega)⟩ rfl
    exact g_throw C hR t_95 t_95k t_95i (List.mem_of_getElem? (i := 9) rfl) dX9_layer_95 dX9_layer_98 dX9_layer_99 dX9_layer_101 dX9_layer_104 ⟨by decide, Nat.le_of_ble_eq_true rfl, by decide, by decide, by decide, by decide⟩ ⟨rfl, Or.inr (⟨rfl, (by omega)⟩)⟩ rfl
  exact g_throw C hR t_84 t_84k t_84i (List.mem_of_getElem? (i := 8) rfl) dX9_layer_75 dX9_layer_78 dX9_layer_79 dX9_layer_81 dX9_layer_84 ⟨by decide, Nat.le_of_ble_eq_true rfl, by decide, by decide, by decide, by decide⟩ ⟨rfl, Or.inl ⟨rfl, (by omega)⟩⟩ rfl

set_option maxHeartbeats 4000000 in
set_option maxRecDepth 100000 in
theorem c_X9_part (l : Launch) (hst9 : l.stackTraces = false) (g : gD) (zo : Nat) (lo : Nat) (wo : Nat) (to : Nat) (so : Nat) (ro : Nat) (vo : Nat) (eo : Nat) (bo : Nat) (mo : Nat) (tn : Int) (tf : Nat) (td : Nat) (tS : Nat) (tr : Nat) (tp : Nat) (tt : Nat) (nY : Int) (Q : Int) (rp : Nat) (rt : Nat) (rf : Nat) (rd : Nat) (rb : Nat) (rh : Nat) (rn : Nat) (PA : Int → Int) (y : Int) (z : Int) (v : Int) (hnY : 0 ≤ nY ∧ nY ≤ 5) (hPA : ∀ k, 0 ≤ PA k ∧ PA k ≤ 100) (hy : -2147483648 ≤ y ∧ y < 2147483648) (hz : -2147483648 ≤ z ∧ z < 2147483648) (hv : -2147483648 ≤ v ∧ v < 2147483648) : gMetX l g yX9_part cX9_part 4 (some .int) 6 1 6 100 [.ref zo, vi y, vi z, vi v] [(zo, cO 9 [.ref lo, .ref wo, .ref to, .ref so, .ref ro, .ref vo, .ref eo, .ref bo, .ref mo, vi tn]), (to, cO 7 [.ref tf, .ref td, .ref tS, .ref tr, .ref tp, .ref tt, vi nY, vi Q]), (ro, cO 4 [.ref rp, .ref rt, .ref rf, .ref rd, .ref rb, .ref rh, .ref rn]), (rp, cA g 30 PA)] (fun v9 w9 => v9 = (some (vi (100 - sm (bes (up PA (y * 6 + z) v) y (-1)) 6))) ∧ w9 = [(zo, cO 9 [.ref lo, .ref wo, .ref to, .ref so, .ref ro, .ref vo, .ref eo, .ref bo, .ref mo, vi tn]), (to, cO 7 [.ref tf, .ref td, .ref tS, .ref tr, .ref tp, .ref tt, vi nY, vi Q]), (ro, cO 4 [.ref rp, .ref rt, .ref rf, .ref rd, .ref rb, .ref rh, .ref rn]), (rp, cA g 30 (up PA (y * 6 + z) v))] ∧ (((0 ≤ y ∧ y < nY) ∧ (0 ≤ z ∧ z ≤ 5)) ∧ (0 ≤ v ∧ v ≤ 100) ∧ sm (bes PA y z) 6 + v ≤ 100)) (fun E9 w9 => w9 = [(zo, cO 9 [.ref lo, .ref wo, .ref to, .ref so, .ref ro, .ref vo, .ref eo, .ref bo, .ref mo, vi tn]), (to, cO 7 [.ref tf, .ref td, .ref tS, .ref tr, .ref tp, .ref tt, vi nY, vi Q]), (ro, cO 4 [.ref rp, .ref rt, .ref rf, .ref rd, .ref rb, .ref rh, .ref rn]), (rp, cA g 30 PA)] ∧ ((E9 = E3 ∧ (¬ ((0 ≤ y ∧ y < nY) ∧ (0 ≤ z ∧ z ≤ 5)))) ∨ (E9 = E1 ∧ (((0 ≤ y ∧ y < nY) ∧ (0 ≤ z ∧ z ≤ 5)) ∧ ¬ (0 ≤ v ∧ v ≤ 100))) ∨ (E9 = E2 ∧ (((0 ≤ y ∧ y < nY) ∧ (0 ≤ z ∧ z ≤ 5)) ∧ (0 ≤ v ∧ v ≤ 100) ∧ 100 < sm (bes PA y z) 6 + v)))) := by
  refine gMetX.of y_X9_part.2.2.2.2.1 (Nat.le_of_ble_eq_true rfl) hst9 ?_
  intro x hlx C hR
  subst hlx
  have C : gC g x RX9 cX9_part 4 6 1 6 100 := C
  show gW g x [(zo, cO 9 [.ref lo, .ref wo, .ref to, .ref so, .ref ro, .ref vo, .ref eo, .ref bo, .ref mo, vi tn]), (to, cO 7 [.ref tf, .ref td, .ref tS, .ref tr, .ref tp, .ref tt, vi nY, vi Q]), (ro, cO 4 [.ref rp, .ref rt, .ref rf, .ref rd, .ref rb, .ref rh, .ref rn]), (rp, cA g 30 PA)] 0 0 [(0, .ref zo), (1, vi y), (2, vi z), (3, vi v)] 0 []
  refine g_aload_n C 0 dX9_part_0 rfl ?_
  refine g_getf C k_X9 2 f_X9_26 0 rfl rfl (by decide) rfl rfl dX9_part_1 ?_
  refine g_iload_n C 1 dX9_part_4 rfl ?_
  refine g_callVp C [vi y] [] (c_X7_has x.1.2.1 g to tf td tS tr tp tt nY Q y hnY hy) y_X7_has l_X9_158 [1] rfl (by decide) 1 rfl rfl rfl (Nat.le_of_ble_eq_true rfl) rfl (by decide) dX9_part_5 ?_
  refine g_if_eq C 18 dX9_part_8 (by decide) (by omega) (fun c8 => ?_) (fun c8 => ?_)
  · exact g_throw C hR t_107 t_107k t_107i (List.mem_of_getElem? (i := 10) rfl) dX9_part_18 dX9_part_21 dX9_part_22 dX9_part_24 dX9_part_27 ⟨by decide, Nat.le_of_ble_eq_true rfl, by decide, by decide, by decide, by decide⟩ ⟨rfl, Or.inl ⟨rfl, (by omega)⟩⟩ rfl
  refine g_iload_n C 2 dX9_part_11 rfl ?_
  refine g_callSp C [vi z] [] (c_X9_isReinsurer x.1.2.1 g z hz) y_X9_isReinsurer l_X9_159 [] rfl (by decide) rfl (Nat.le_of_ble_eq_true rfl) rfl (by decide) dX9_part_12 ?_
  refine g_if_ne C 28 dX9_part_15 (by decide) (by omega) (fun c15 => ?_) (fun c15 => ?_)
  · refine g_iload_n C 3 dX9_part_28 rfl ?_
    refine g_iconst C dX9_part_29 ?_
    refine g_bipush C dX9_part_30 (by decide) ?_
    refine g_callSp C [vi v, vi 0, vi 100] [] (c_X9_isIn x.1.2.1 g v 0 100 hv (by omega) (by omega)) y_X9_isIn l_X9_80 [] rfl (by decide) rfl (Nat.le_of_ble_eq_true rfl) rfl (by decide) dX9_part_32 ?_
    refine g_if_ne C 48 dX9_part_35 (by decide) (by omega) (fun c35 => ?_) (fun c35 => ?_)
    · refine g_aload_n C 0 dX9_part_48 rfl ?_
      refine g_getf C k_X9 4 f_X9_40 0 rfl rfl (by decide) rfl rfl dX9_part_49 ?_
      refine g_iload_n C 1 dX9_part_52 rfl ?_
      refine g_iload_n C 2 dX9_part_53 rfl ?_
      refine g_callVp C [vi y, vi z] [] (c_X4_placedBeside x.1.2.1 g ro rp rt rf rd rb rh rn PA y z hPA (by omega) hz) y_X4_placedBeside l_X9_164 [2, 3] rfl (by decide) 2 rfl rfl rfl (Nat.le_of_ble_eq_true rfl) rfl (by decide) dX9_part_54 ?_
      refine g_iload_n C 3 dX9_part_57 rfl ?_
      have hs9 := sm_bound (F := bes PA y z) (lo := 0) (hi := 100) (n := 6) (by omega) (fun i _ _ => by have := hPA (y * 6 + i); unfold bes; split <;> omega)
      refine g_iadd C dX9_part_58 ?_
      refine g_bipush C dX9_part_59 (by decide) ?_
      refine g_icmp_le C 74 dX9_part_61 (by decide) (by omega) (by omega) (fun c61 => ?_) (fun c61 => ?_)
      · refine g_aload_n C 0 dX9_part_74 rfl ?_
        refine g_getf C k_X9 4 f_X9_40 0 rfl rfl (by decide) rfl rfl dX9_part_75 ?_
        refine g_iload_n C 1 dX9_part_78 rfl ?_
        refine g_iload_n C 2 dX9_part_79 rfl ?_
        refine g_iload_n C 3 dX9_part_80 rfl ?_
        refine g_callV C [vi y, vi z, vi v] [] (c_X4_place x.1.2.1 g ro rp rt rf rd rb rh rn PA y z v hPA (by omega) (by omega) (by omega)) y_X4_place l_X9_169 [2, 3] rfl (by decide) 2 rfl rfl rfl (Nat.le_of_ble_eq_true rfl) rfl (by decide) dX9_part_81 (fun v9 w9 hp9 => ?_)
        obtain ⟨rfl, rfl⟩ := hp9
        simp only [putAll, List.set_cons_succ, List.set_cons_zero, List.cons_append, List.nil_append, List.append_nil, Option.toList]
        show gW g x [(zo, cO 9 [.ref lo, .ref wo, .ref to, .ref so, .ref ro, .ref vo, .ref eo, .ref bo, .ref mo, vi tn]), (to, cO 7 [.ref tf, .ref td, .ref tS, .ref tr, .ref tp, .ref tt, vi nY, vi Q]), (ro, cO 4 [.ref rp, .ref rt, .ref rf, .ref rd, .ref rb, .ref rh, .ref rn]), (rp, cA g 30 (up PA (y * 6 + z) v))] 0 0 [(0, .ref zo), (1, vi y), (2, vi z), (3, vi v)] 84 [vi (100 - sm (bes (up PA (y * 6 + z) v) y (-1)) 6)]
        refine g_widen (k' := 1) (n' := 6) (by decide) (by decide) ?_
        refine g_outX C hR (fun x' C hR => ?_)
        exact g_iret C hR dX9_part_84 ⟨rfl, rfl, (by omega)⟩ rfl
      exact g_throw C hR t_95 t_95k t_95i (List.mem_of_getElem? (i := 11) rfl) dX9_part_64 dX9_part_67 dX9_part_68 dX9_part_70 dX9_part_73 ⟨by decide, Nat.le_of_ble_eq_true rfl, by decide, by decide, by decide, by decide⟩ ⟨rfl, Or.inr (Or.inr (⟨rfl, (by omega)⟩))⟩ rfl
    exact g_throw C hR t_84 t_84k t_84i (List.mem_of_getElem? (i := 7) rfl) dX9_part_38 dX9_part_41 dX9_part_42 dX9_part_44 dX9_part_47 ⟨by decide, Nat.le_of_ble_eq_true rfl, by decide, by decide, by decide, by decide⟩ ⟨rfl, Or.inr (Or.inl ⟨rfl, (by omega)⟩)⟩ rfl
  exact g_throw C hR t_107 t_107k t_107i (List.mem_of_getElem? (i := 10) rfl) dX9_part_18 dX9_part_21 dX9_part_22 dX9_part_24 dX9_part_27 ⟨by decide, Nat.le_of_ble_eq_true rfl, by decide, by decide, by decide, by decide⟩ ⟨rfl, Or.inl ⟨rfl, (by omega)⟩⟩ rfl

set_option maxHeartbeats 4000000 in
set_option maxRecDepth 100000 in
theorem c_X9_retro (l : Launch) (hst9 : l.stackTraces = false) (g : gD) (zo : Nat) (lo : Nat) (wo : Nat) (to : Nat) (so : Nat) (ro : Nat) (vo : Nat) (eo : Nat) (bo : Nat) (mo : Nat) (tn : Int) (rp : Nat) (rt : Nat) (rf : Nat) (rd : Nat) (rb : Nat) (rh : Nat) (rn : Nat) (RT : Int → Int) (RF : Int → Int) (RD : Int → Int) (y : Int) (z : Int) (a : Int) (b : Int) (hy : -2147483648 ≤ y ∧ y < 2147483648) (hz : -2147483648 ≤ z ∧ z < 2147483648) (ha : -2147483648 ≤ a ∧ a < 2147483648) (hb : -2147483648 ≤ b ∧ b < 2147483648) : gMetX l g yX9_retro cX9_retro 5 (some .int) 6 1 6 100 [.ref zo, vi y, vi z, vi a, vi b] [(zo, cO 9 [.ref lo, .ref wo, .ref to, .ref so, .ref ro, .ref vo, .ref eo, .ref bo, .ref mo, vi tn]), (ro, cO 4 [.ref rp, .ref rt, .ref rf, .ref rd, .ref rb, .ref rh, .ref rn]), (rt, cA g 6 RT), (rf, cA g 6 RF), (rd, cA g 6 RD)] (fun v9 w9 => v9 = (some (vi (RD y))) ∧ w9 = [(zo, cO 9 [.ref lo, .ref wo, .ref to, .ref so, .ref ro, .ref vo, .ref eo, .ref bo, .ref mo, vi tn]), (ro, cO 4 [.ref rp, .ref rt, .ref rf, .ref rd, .ref rb, .ref rh, .ref rn]), (rt, cA g 6 (up RT y z)), (rf, cA g 6 (up RF y a)), (rd, cA g 6 (up RD y b))] ∧ (((0 ≤ y ∧ y ≤ 5) ∧ (0 ≤ z ∧ z ≤ 5)) ∧ (y ≠ z ∧ (0 ≤ a ∧ a ≤ 999999) ∧ (0 ≤ b ∧ b ≤ 999999)))) (fun E9 w9 => w9 = [(zo, cO 9 [.ref lo, .ref wo, .ref to, .ref so, .ref ro, .ref vo, .ref eo, .ref bo, .ref mo, vi tn]), (ro, cO 4 [.ref rp, .ref rt, .ref rf, .ref rd, .ref rb, .ref rh, .ref rn]), (rt, cA g 6 RT), (rf, cA g 6 RF), (rd, cA g 6 RD)] ∧ ((E9 = E3 ∧ (¬ ((0 ≤ y ∧ y ≤ 5) ∧ (0 ≤ z ∧ z ≤ 5)))) ∨ (E9 = E1 ∧ (((0 ≤ y ∧ y ≤ 5) ∧ (0 ≤ z ∧ z ≤ 5)) ∧ ¬ (y ≠ z ∧ (0 ≤ a ∧ a ≤ 999999) ∧ (0 ≤ b ∧ b ≤ 999999)))))) := by
  refine gMetX.of y_X9_retro.2.2.2.2.1 (Nat.le_of_ble_eq_true rfl) hst9 ?_
  intro x hlx C hR
  subst hlx
  have C : gC g x RX9 cX9_retro 5 6 1 6 100 := C
  show gW g x [(zo, cO 9 [.ref lo, .ref wo, .ref to, .ref so, .ref ro, .ref vo, .ref eo, .ref bo, .ref mo, vi tn]), (ro, cO 4 [.ref rp, .ref rt, .ref rf, .ref rd, .ref rb, .ref rh, .ref rn]), (rt, cA g 6 RT), (rf, cA g 6 RF), (rd, cA g 6 RD)] 0 0 [(0, .ref zo), (1, vi y), (2, vi z), (3, vi a), (4, vi b)] 0 []
  refine g_iload_n C 1 dX9_retro_0 rfl ?_
  refine g_callSp C [vi y] [] (c_X9_isReinsurer x.1.2.1 g y hy) y_X9_isReinsurer l_X9_159 [] rfl (by decide) rfl (Nat.le_of_ble_eq_true rfl) rfl (by decide) dX9_retro_1 ?_
  refine g_if_eq C 14 dX9_retro_4 (by decide) (by omega) (fun c4 => ?_) (fun c4 => ?_)
  · exact g_throw C hR t_107 t_107k t_107i (List.mem_of_getElem? (i := 12) rfl) dX9_retro_14 dX9_retro_17 dX9_retro_18 dX9_retro_20 dX9_retro_23 ⟨by decide, Nat.le_of_ble_eq_true rfl, by decide, by decide, by decide, by decide⟩ ⟨rfl, Or.inl ⟨rfl, (by omega)⟩⟩ rfl
  refine g_iload_n C 2 dX9_retro_7 rfl ?_
  refine g_callSp C [vi z] [] (c_X9_isReinsurer x.1.2.1 g z hz) y_X9_isReinsurer l_X9_159 [] rfl (by decide) rfl (Nat.le_of_ble_eq_true rfl) rfl (by decide) dX9_retro_8 ?_
  refine g_if_ne C 24 dX9_retro_11 (by decide) (by omega) (fun c11 => ?_) (fun c11 => ?_)
  · refine g_iload_n C 1 dX9_retro_24 rfl ?_
    refine g_iload_n C 2 dX9_retro_25 rfl ?_
    refine g_icmp_eq C 50 dX9_retro_26 (by decide) (by omega) (by omega) (fun c26 => ?_) (fun c26 => ?_)
    · exact g_throw C hR t_84 t_84k t_84i (List.mem_of_getElem? (i := 13) rfl) dX9_retro_50 dX9_retro_53 dX9_retro_54 dX9_retro_56 dX9_retro_59 ⟨by decide, Nat.le_of_ble_eq_true rfl, by decide, by decide, by decide, by decide⟩ ⟨rfl, Or.inr (⟨rfl, (by omega)⟩)⟩ rfl
    refine g_iload_n C 3 dX9_retro_29 rfl ?_
    refine g_iconst C dX9_retro_30 ?_
    refine g_ldc C (999999) n_X9_149 (by decide) dX9_retro_31 ?_
    refine g_callSp C [vi a, vi 0, vi 999999] [] (c_X9_isIn x.1.2.1 g a 0 999999 ha (by omega) (by omega)) y_X9_isIn l_X9_80 [] rfl (by decide) rfl (Nat.le_of_ble_eq_true rfl) rfl (by decide) dX9_retro_33 ?_
    refine g_if_eq C 50 dX9_retro_36 (by decide) (by omega) (fun c36 => ?_) (fun c36 => ?_)
    · exact g_throw C hR t_84 t_84k t_84i (List.mem_of_getElem? (i := 13) rfl) dX9_retro_50 dX9_retro_53 dX9_retro_54 dX9_retro_56 dX9_retro_59 ⟨by decide, Nat.le_of_ble_eq_true rfl, by decide, by decide, by decide, by decide⟩ ⟨rfl, Or.inr (⟨rfl, (by omega)⟩)⟩ rfl
    refine g_iload C 4 dX9_retro_39 rfl ?_
    refine g_iconst C dX9_retro_41 ?_
    refine g_ldc C (999999) n_X9_149 (by decide) dX9_retro_42 ?_
    refine g_callSp C [vi b, vi 0, vi 999999] [] (c_X9_isIn x.1.2.1 g b 0 999999 hb (by omega) (by omega)) y_X9_isIn l_X9_80 [] rfl (by decide) rfl (Nat.le_of_ble_eq_true rfl) rfl (by decide) dX9_retro_44 ?_
    refine g_if_ne C 60 dX9_retro_47 (by decide) (by omega) (fun c47 => ?_) (fun c47 => ?_)
    · refine g_aload_n C 0 dX9_retro_60 rfl ?_
      refine g_getf C k_X9 4 f_X9_40 0 rfl rfl (by decide) rfl rfl dX9_retro_61 ?_
      refine g_iload_n C 1 dX9_retro_64 rfl ?_
      refine g_iload_n C 2 dX9_retro_65 rfl ?_
      refine g_iload_n C 3 dX9_retro_66 rfl ?_
      refine g_iload C 4 dX9_retro_67 rfl ?_
      refine g_callV C [vi y, vi z, vi a, vi b] [] (c_X4_changeRetro x.1.2.1 g ro rp rt rf rd rb rh rn RT RF RD y z a b (by omega)) y_X4_changeRetro l_X9_176 [1, 2, 3, 4] rfl (by decide) 1 rfl rfl rfl (Nat.le_of_ble_eq_true rfl) rfl (by decide) dX9_retro_69 (fun v9 w9 hp9 => ?_)
      obtain ⟨rfl, rfl⟩ := hp9
      simp only [putAll, List.set_cons_succ, List.set_cons_zero, List.cons_append, List.nil_append, List.append_nil, Option.toList]
      show gW g x [(zo, cO 9 [.ref lo, .ref wo, .ref to, .ref so, .ref ro, .ref vo, .ref eo, .ref bo, .ref mo, vi tn]), (ro, cO 4 [.ref rp, .ref rt, .ref rf, .ref rd, .ref rb, .ref rh, .ref rn]), (rt, cA g 6 (up RT y z)), (rf, cA g 6 (up RF y a)), (rd, cA g 6 (up RD y b))] 0 0 [(0, .ref zo), (1, vi y), (2, vi z), (3, vi a), (4, vi b)] 72 [vi (RD y)]
      refine g_widen (k' := 1) (n' := 6) (by decide) (by decide) ?_
      refine g_outX C hR (fun x' C hR => ?_)
      exact g_iret C hR dX9_retro_72 ⟨rfl, rfl, (by omega)⟩ rfl
    exact g_throw C hR t_84 t_84k t_84i (List.mem_of_getElem? (i := 13) rfl) dX9_retro_50 dX9_retro_53 dX9_retro_54 dX9_retro_56 dX9_retro_59 ⟨by decide, Nat.le_of_ble_eq_true rfl, by decide, by decide, by decide, by decide⟩ ⟨rfl, Or.inr (⟨rfl, (by omega)⟩)⟩ rfl
  exact g_throw C hR t_107 t_107k t_107i (List.mem_of_getElem? (i := 12) rfl) dX9_retro_14 dX9_retro_17 dX9_retro_18 dX9_retro_20 dX9_retro_23 ⟨by decide, Nat.le_of_ble_eq_true rfl, by decide, by decide, by decide, by decide⟩ ⟨rfl, Or.inl ⟨rfl, (by omega)⟩⟩ rfl

set_option maxHeartbeats 4000000 in
set_option maxRecDepth 100000 in
theorem c_X9_station (l : Launch) (hst9 : l.stackTraces = false) (g : gD) (zo : Nat) (lo : Nat) (wo : Nat) (to : Nat) (so : Nat) (ro : Nat) (vo : Nat) (eo : Nat) (bo : Nat) (mo : Nat) (tn : Int) (ec : Nat) (ef : Nat) (es : Nat) (eh : Nat) (ep : Nat) (ex : Nat) (EC : Int → Int) (EF : Int → Int) (nE : Int) (nR : Int) (v : Int) (hnE : 0 ≤ nE ∧ nE ≤ 6) (hv : -2147483648 ≤ v ∧ v < 2147483648) : gMetX l g yX9_station cX9_station 2 (some .int) 6 1 6 100 [.ref zo, vi v] [(zo, cO 9 [.ref lo, .ref wo, .ref to, .ref so, .ref ro, .ref vo, .ref eo, .ref bo, .ref mo, vi tn]), (eo, cO 6 [.ref ec, .ref ef, .ref es, .ref eh, .ref ep, .ref ex, vi nE, vi nR]), (ec, cA g 6 EC), (ef, cA g 6 EF)] (fun v9 w9 => v9 = (some (vi nE)) ∧ w9 = [(zo, cO 9 [.ref lo, .ref wo, .ref to, .ref so, .ref ro, .ref vo, .ref eo, .ref bo, .ref mo, vi tn]), (eo, cO 6 [.ref ec, .ref ef, .ref es, .ref eh, .ref ep, .ref ex, vi (nE + 1), vi nR]), (ec, cA g 6 (up EC nE v)), (ef, cA g 6 (up EF nE 2200))] ∧ ((0 ≤ v ∧ v ≤ 15) ∧ nE < 6)) (fun E9 w9 => w9 = [(zo, cO 9 [.ref lo, .ref wo, .ref to, .ref so, .ref ro, .ref vo, .ref eo, .ref bo, .ref mo, vi tn]), (eo, cO 6 [.ref ec, .ref ef, .ref es, .ref eh, .ref ep, .ref ex, vi nE, vi nR]), (ec, cA g 6 EC), (ef, cA g 6 EF)] ∧ ((E9 = E1 ∧ (¬ (0 ≤ v ∧ v ≤ 15))) ∨ (E9 = E2 ∧ ((0 ≤ v ∧ v ≤ 15) ∧ nE = 6)))) := by
  refine gMetX.of y_X9_station.2.2.2.2.1 (Nat.le_of_ble_eq_true rfl) hst9 ?_
  intro x hlx C hR
  subst hlx
  have C : gC g x RX9 cX9_station 2 6 1 6 100 := C
  show gW g x [(zo, cO 9 [.ref lo, .ref wo, .ref to, .ref so, .ref ro, .ref vo, .ref eo, .ref bo, .ref mo, vi tn]), (eo, cO 6 [.ref ec, .ref ef, .ref es, .ref eh, .ref ep, .ref ex, vi nE, vi nR]), (ec, cA g 6 EC), (ef, cA g 6 EF)] 0 0 [(0, .ref zo), (1, vi v)] 0 []
  refine g_iload_n C 1 dX9_station_0 rfl ?_
  refine g_iconst C dX9_station_1 ?_
  refine g_bipush C dX9_station_2 (by decide) ?_
  refine g_callSp C [vi v, vi 0, vi 15] [] (c_X9_isIn x.1.2.1 g v 0 15 hv (by omega) (by omega)) y_X9_isIn l_X9_80 [] rfl (by decide) rfl (Nat.le_of_ble_eq_true rfl) rfl (by decide) dX9_station_4 ?_
  refine g_if_ne C 20 dX9_station_7 (by decide) (by omega) (fun c7 => ?_) (fun c7 => ?_)
  · refine g_aload_n C 0 dX9_station_20 rfl ?_
    refine g_getf C k_X9 6 f_X9_54 0 rfl rfl (by decide) rfl rfl dX9_station_21 ?_
    refine g_callVp C [] [] (c_X6_isFull x.1.2.1 g eo ec ef es eh ep ex nE nR hnE) y_X6_isFull l_X9_182 [1] rfl (by decide) 1 rfl rfl rfl (Nat.le_of_ble_eq_true rfl) rfl (by decide) dX9_station_24 ?_
    refine g_if_eq C 40 dX9_station_27 (by decide) (by omega) (fun c27 => ?_) (fun c27 => ?_)
    · refine g_aload_n C 0 dX9_station_40 rfl ?_
      refine g_getf C k_X9 6 f_X9_54 0 rfl rfl (by decide) rfl rfl dX9_station_41 ?_
      refine g_iload_n C 1 dX9_station_44 rfl ?_
      refine g_callV C [vi v] [] (c_X6_add x.1.2.1 g eo ec ef es eh ep ex EC EF nE nR v (by omega)) y_X6_add l_X9_185 [1, 2, 3] rfl (by decide) 1 rfl rfl rfl (Nat.le_of_ble_eq_true rfl) rfl (by decide) dX9_station_45 (fun v9 w9 hp9 => ?_)
      obtain ⟨rfl, rfl⟩ := hp9
      simp only [putAll, List.set_cons_succ, List.set_cons_zero, List.cons_append, List.nil_append, List.append_nil, Option.toList]
      show gW g x [(zo, cO 9 [.ref lo, .ref wo, .ref to, .ref so, .ref ro, .ref vo, .ref eo, .ref bo, .ref mo, vi tn]), (eo, cO 6 [.ref ec, .ref ef, .ref es, .ref eh, .ref ep, .ref ex, vi (nE + 1), vi nR]), (ec, cA g 6 (up EC nE v)), (ef, cA g 6 (up EF nE 2200))] 0 0 [(0, .ref zo), (1, vi v)] 48 [vi nE]
      refine g_widen (k' := 1) (n' := 6) (by decide) (by decide) ?_
      refine g_outX C hR (fun x' C hR => ?_)
      exact g_iret C hR dX9_station_48 ⟨rfl, rfl, (by omega)⟩ rfl
    exact g_throw C hR t_95 t_95k t_95i (List.mem_of_getElem? (i := 15) rfl) dX9_station_30 dX9_station_33 dX9_station_34 dX9_station_36 dX9_station_39 ⟨by decide, Nat.le_of_ble_eq_true rfl, by decide, by decide, by decide, by decide⟩ ⟨rfl, Or.inr (⟨rfl, (by omega)⟩)⟩ rfl
  exact g_throw C hR t_84 t_84k t_84i (List.mem_of_getElem? (i := 14) rfl) dX9_station_10 dX9_station_13 dX9_station_14 dX9_station_16 dX9_station_19 ⟨by decide, Nat.le_of_ble_eq_true rfl, by decide, by decide, by decide, by decide⟩ ⟨rfl, Or.inl ⟨rfl, (by omega)⟩⟩ rfl

set_option maxHeartbeats 4000000 in
set_option maxRecDepth 100000 in
theorem c_X9_reading (l : Launch) (hst9 : l.stackTraces = false) (g : gD) (zo : Nat) (lo : Nat) (wo : Nat) (to : Nat) (so : Nat) (ro : Nat) (vo : Nat) (eo : Nat) (bo : Nat) (mo : Nat) (tn : Int) (ec : Nat) (ef : Nat) (es : Nat) (eh : Nat) (ep : Nat) (ex : Nat) (ES : Int → Int) (EH : Int → Int) (EP : Int → Int) (EX : Int → Int) (nE : Int) (nR : Int) (a1 : Int) (a2 : Int) (a3 : Int) (a4 : Int) (hnE : 0 ≤ nE ∧ nE ≤ 6) (hnR : 0 ≤ nR ∧ nR ≤ 60) (ha1 : -2147483648 ≤ a1 ∧ a1 < 2147483648) (ha2 : -2147483648 ≤ a2 ∧ a2 < 2147483648) (ha3 : -2147483648 ≤ a3 ∧ a3 < 2147483648) (ha4 : -2147483648 ≤ a4 ∧ a4 < 2147483648) : gMetX l g yX9_reading cX9_reading 5 (some .int) 6 1 6 100 [.ref zo, vi a1, vi a2, vi a3, vi a4] [(zo, cO 9 [.ref lo, .ref wo, .ref to, .ref so, .ref ro, .ref vo, .ref eo, .ref bo, .ref mo, vi tn]), (eo, cO 6 [.ref ec, .ref ef, .ref es, .ref eh, .ref ep, .ref ex, vi nE, vi nR]), (es, cA g 60 ES), (eh, cA g 60 EH), (ep, cA g 60 EP), (ex, cA g 60 EX)] (fun v9 w9 => v9 = (some (vi (nR + 1))) ∧ w9 = [(zo, cO 9 [.ref lo, .ref wo, .ref to, .ref so, .ref ro, .ref vo, .ref eo, .ref bo, .ref mo, vi tn]), (eo, cO 6 [.ref ec, .ref ef, .ref es, .ref eh, .ref ep, .ref ex, vi nE, vi (nR + 1)]), (es, cA g 60 (up ES nR a1)), (eh, cA g 60 (up EH nR a2)), (ep, cA g 60 (up EP nR a3)), (ex, cA g 60 (up EX nR a4))] ∧ ((0 ≤ a1 ∧ a1 < nE) ∧ ((0 ≤ a2 ∧ a2 ≤ 2199) ∧ (0 ≤ a3 ∧ a3 ≤ 2) ∧ (0 ≤ a4 ∧ a4 ≤ 9)) ∧ nR < 60)) (fun E9 w9 => w9 = [(zo, cO 9 [.ref lo, .ref wo, .ref to, .ref so, .ref ro, .ref vo, .ref eo, .ref bo, .ref mo, vi tn]), (eo, cO 6 [.ref ec, .ref ef, .ref es, .ref eh, .ref ep, .ref ex, vi nE, vi nR]), (es, cA g 60 ES), (eh, cA g 60 EH), (ep, cA g 60 EP), (ex, cA g 60 EX)] ∧ ((E9 = E3 ∧ (¬ (0 ≤ a1 ∧ a1 < nE))) ∨ (E9 = E1 ∧ ((0 ≤ a1 ∧ a1 < nE) ∧ ¬ ((0 ≤ a2 ∧ a2 ≤ 2199) ∧ (0 ≤ a3 ∧ a3 ≤ 2) ∧ (0 ≤ a4 ∧ a4 ≤ 9)))) ∨ (E9 = E2 ∧ ((0 ≤ a1 ∧ a1 < nE) ∧ ((0 ≤ a2 ∧ a2 ≤ 2199) ∧ (0 ≤ a3 ∧ a3 ≤ 2) ∧ (0 ≤ a4 ∧ a4 ≤ 9)) ∧ nR = 60)))) := by
  refine gMetX.of y_X9_reading.2.2.2.2.1 (Nat.le_of_ble_eq_true rfl) hst9 ?_
  intro x hlx C hR
  subst hlx
  have C : gC g x RX9 cX9_reading 5 6 1 6 100 := C
  show gW g x [(zo, cO 9 [.ref lo, .ref wo, .ref to, .ref so, .ref ro, .ref vo, .ref eo, .ref bo, .ref mo, vi tn]), (eo, cO 6 [.ref ec, .ref ef, .ref es, .ref eh, .ref ep, .ref ex, vi nE, vi nR]), (es, cA g 60 ES), (eh, cA g 60 EH), (ep, cA g 60 EP), (ex, cA g 60 EX)] 0 0 [(0, .ref zo), (1, vi a1), (2, vi a2), (3, vi a3), (4, vi a4)] 0 []
  refine g_aload_n C 0 dX9_reading_0 rfl ?_
  refine g_getf C k_X9 6 f_X9_54 0 rfl rfl (by decide) rfl rfl dX9_reading_1 ?_
  refine g_iload_n C 1 dX9_reading_4 rfl ?_
  refine g_callVp C [vi a1] [] (c_X6_has x.1.2.1 g eo ec ef es eh ep ex nE nR a1 hnE ha1) y_X6_has l_X9_187 [1] rfl (by decide) 1 rfl rfl rfl (Nat.le_of_ble_eq_true rfl) rfl (by decide) dX9_reading_5 ?_
  refine g_if_ne C 21 dX9_reading_8 (by decide) (by omega) (fun c8 => ?_) (fun c8 => ?_)
  · refine g_iload_n C 2 dX9_reading_21 rfl ?_
    refine g_callSp C [vi a2] [] (c_X9_isHour x.1.2.1 g a2 ha2) y_X9_isHour l_X9_76 [] rfl (by decide) rfl (Nat.le_of_ble_eq_true rfl) rfl (by decide) dX9_reading_22 ?_
    refine g_if_eq C 46 dX9_reading_25 (by decide) (by omega) (fun c25 => ?_) (fun c25 => ?_)
    · exact g_throw C hR t_84 t_84k t_84i (List.mem_of_getElem? (i := 17) rfl) dX9_reading_46 dX9_reading_49 dX9_reading_50 dX9_reading_52 dX9_reading_55 ⟨by decide, Nat.le_of_ble_eq_true rfl, by decide, by decide, by decide, by decide⟩ ⟨rfl, Or.inr (Or.inl ⟨rfl, (by omega)⟩)⟩ rfl
    refine g_iload_n C 3 dX9_reading_28 rfl ?_
    refine g_callSp C [vi a3] [] (c_X9_isPeril x.1.2.1 g a3 ha3) y_X9_isPeril l_X9_72 [] rfl (by decide) rfl (Nat.le_of_ble_eq_true rfl) rfl (by decide) dX9_reading_29 ?_
    refine g_if_eq C 46 dX9_reading_32 (by decide) (by omega) (fun c32 => ?_) (fun c32 => ?_)
    · exact g_throw C hR t_84 t_84k t_84i (List.mem_of_getElem? (i := 17) rfl) dX9_reading_46 dX9_reading_49 dX9_reading_50 dX9_reading_52 dX9_reading_55 ⟨by decide, Nat.le_of_ble_eq_true rfl, by decide, by decide, by decide, by decide⟩ ⟨rfl, Or.inr (Or.inl ⟨rfl, (by omega)⟩)⟩ rfl
    refine g_iload C 4 dX9_reading_35 rfl ?_
    refine g_iconst C dX9_reading_37 ?_
    refine g_bipush C dX9_reading_38 (by decide) ?_
    refine g_callSp C [vi a4, vi 0, vi 9] [] (c_X9_isIn x.1.2.1 g a4 0 9 ha4 (by omega) (by omega)) y_X9_isIn l_X9_80 [] rfl (by decide) rfl (Nat.le_of_ble_eq_true rfl) rfl (by decide) dX9_reading_40 ?_
    refine g_if_ne C 56 dX9_reading_43 (by decide) (by omega) (fun c43 => ?_) (fun c43 => ?_)
    · refine g_aload_n C 0 dX9_reading_56 rfl ?_
      refine g_getf C k_X9 6 f_X9_54 0 rfl rfl (by decide) rfl rfl dX9_reading_57 ?_
      refine g_callVp C [] [] (c_X6_isFullOfReadings x.1.2.1 g eo ec ef es eh ep ex nE nR hnR) y_X6_isFullOfReadings l_X9_192 [1] rfl (by decide) 1 rfl rfl rfl (Nat.le_of_ble_eq_true rfl) rfl (by decide) dX9_reading_60 ?_
      refine g_if_eq C 76 dX9_reading_63 (by decide) (by omega) (fun c63 => ?_) (fun c63 => ?_)
      · refine g_aload_n C 0 dX9_reading_76 rfl ?_
        refine g_getf C k_X9 6 f_X9_54 0 rfl rfl (by decide) rfl rfl dX9_reading_77 ?_
        refine g_iload_n C 1 dX9_reading_80 rfl ?_
        refine g_iload_n C 2 dX9_reading_81 rfl ?_
        refine g_iload_n C 3 dX9_reading_82 rfl ?_
        refine g_iload C 4 dX9_reading_83 rfl ?_
        refine g_callV C [vi a1, vi a2, vi a3, vi a4] [] (c_X6_addReading x.1.2.1 g eo ec ef es eh ep ex ES EH EP EX nE nR a1 a2 a3 a4 (by omega)) y_X6_addReading l_X9_197 [1, 2, 3, 4, 5] rfl (by decide) 1 rfl rfl rfl (Nat.le_of_ble_eq_true rfl) rfl (by decide) dX9_reading_85 (fun v9 w9 hp9 => ?_)
        obtain ⟨rfl, rfl⟩ := hp9
        simp only [putAll, List.set_cons_succ, List.set_cons_zero, List.cons_append, List.nil_append, List.append_nil, Option.toList]
        show gW g x [(zo, cO 9 [.ref lo, .ref wo, .ref to, .ref so, .ref ro, .ref vo, .ref eo, .ref bo, .ref mo, vi tn]), (eo, cO 6 [.ref ec, .ref ef, .ref es, .ref eh, .ref ep, .ref ex, vi nE, vi (nR + 1)]), (es, cA g 60 (up ES nR a1)), (eh, cA g 60 (up EH nR a2)), (ep, cA g 60 (up EP nR a3)), (ex, cA g 60 (up EX nR a4))] 0 0 [(0, .ref zo), (1, vi a1), (2, vi a2), (3, vi a3), (4, vi a4)] 88 [vi (nR + 1)]
        refine g_widen (k' := 1) (n' := 6) (by decide) (by decide) ?_
        refine g_outX C hR (fun x' C hR => ?_)
        exact g_iret C hR dX9_reading_88 ⟨rfl, rfl, (by omega)⟩ rfl
      exact g_throw C hR t_95 t_95k t_95i (List.mem_of_getElem? (i := 18) rfl) dX9_reading_66 dX9_reading_69 dX9_reading_70 dX9_reading_72 dX9_reading_75 ⟨by decide, Nat.le_of_ble_eq_true rfl, by decide, by decide, by decide, by decide⟩ ⟨rfl, Or.inr (Or.inr (⟨rfl, (by omega)⟩))⟩ rfl
    exact g_throw C hR t_84 t_84k t_84i (List.mem_of_getElem? (i := 17) rfl) dX9_reading_46 dX9_reading_49 dX9_reading_50 dX9_reading_52 dX9_reading_55 ⟨by decide, Nat.le_of_ble_eq_true rfl, by decide, by decide, by decide, by decide⟩ ⟨rfl, Or.inr (Or.inl ⟨rfl, (by omega)⟩)⟩ rfl
  exact g_throw C hR t_107 t_107k t_107i (List.mem_of_getElem? (i := 16) rfl) dX9_reading_11 dX9_reading_14 dX9_reading_15 dX9_reading_17 dX9_reading_20 ⟨by decide, Nat.le_of_ble_eq_true rfl, by decide, by decide, by decide, by decide⟩ ⟨rfl, Or.inl ⟨rfl, (by omega)⟩⟩ rfl

set_option maxHeartbeats 4000000 in
set_option maxRecDepth 100000 in
theorem c_X9_fails (l : Launch) (hst9 : l.stackTraces = false) (g : gD) (zo : Nat) (lo : Nat) (wo : Nat) (to : Nat) (so : Nat) (ro : Nat) (vo : Nat) (eo : Nat) (bo : Nat) (mo : Nat) (tn : Int) (ec : Nat) (ef : Nat) (es : Nat) (eh : Nat) (ep : Nat) (ex : Nat) (EF : Int → Int) (ES : Int → Int) (EH : Int → Int) (nE : Int) (nR : Int) (s : Int) (h : Int) (hEF : ∀ k, 0 ≤ EF k ∧ EF k ≤ 2200) (hES : ∀ k, 0 ≤ ES k ∧ ES k ≤ 5) (hEH : ∀ k, 0 ≤ EH k ∧ EH k ≤ 2199) (hnE : 0 ≤ nE ∧ nE ≤ 6) (hnR : 0 ≤ nR ∧ nR ≤ 60) (hs : -2147483648 ≤ s ∧ s < 2147483648) (hh : -2147483648 ≤ h ∧ h < 2147483648) : gMetX l g yX9_fails cX9_fails 3 (some .int) 6 1 6 100 [.ref zo, vi s, vi h] [(zo, cO 9 [.ref lo, .ref wo, .ref to, .ref so, .ref ro, .ref vo, .ref eo, .ref bo, .ref mo, vi tn]), (eo, cO 6 [.ref ec, .ref ef, .ref es, .ref eh, .ref ep, .ref ex, vi nE, vi nR]), (ef, cA g 6 EF), (es, cA g 60 ES), (eh, cA g 60 EH)] (fun v9 w9 => v9 = (some (vi (sm (fcn ES EH s h) nR))) ∧ w9 = [(zo, cO 9 [.ref lo, .ref wo, .ref to, .ref so, .ref ro, .ref vo, .ref eo, .ref bo, .ref mo, vi tn]), (eo, cO 6 [.ref ec, .ref ef, .ref es, .ref eh, .ref ep, .ref ex, vi nE, vi nR]), (ef, cA g 6 (up EF s h)), (es, cA g 60 ES), (eh, cA g 60 EH)] ∧ ((0 ≤ s ∧ s < nE) ∧ (0 ≤ h ∧ h ≤ 2199) ∧ 2199 < EF s)) (fun E9 w9 => w9 = [(zo, cO 9 [.ref lo, .ref wo, .ref to, .ref so, .ref ro, .ref vo, .ref eo, .ref bo, .ref mo, vi tn]), (eo, cO 6 [.ref ec, .ref ef, .ref es, .ref eh, .ref ep, .ref ex, vi nE, vi nR]), (ef, cA g 6 EF), (es, cA g 60 ES), (eh, cA g 60 EH)] ∧ ((E9 = E3 ∧ (¬ (0 ≤ s ∧ s < nE))) ∨ (E9 = E1 ∧ ((0 ≤ s ∧ s < nE) ∧ ¬ (0 ≤ h ∧ h ≤ 2199))) ∨ (E9 = E2 ∧ ((0 ≤ s ∧ s < nE) ∧ (0 ≤ h ∧ h ≤ 2199) ∧ EF s ≤ 2199)))) := by
  refine gMetX.of y_X9_fails.2.2.2.2.1 (Nat.le_of_ble_eq_true rfl) hst9 ?_
  intro x hlx C hR
  subst hlx
  have C : gC g x RX9 cX9_fails 3 6 1 6 100 := C
  show gW g x [(zo, cO 9 [.ref lo, .ref wo, .ref to, .ref so, .ref ro, .ref vo, .ref eo, .ref bo, .ref mo, vi tn]), (eo, cO 6 [.ref ec, .ref ef, .ref es, .ref eh, .ref ep, .ref ex, vi nE, vi nR]), (ef, cA g 6 EF), (es, cA g 60 ES), (eh, cA g 60 EH)] 0 0 [(0, .ref zo), (1, vi s), (2, vi h)] 0 []
  refine g_aload_n C 0 dX9_fails_0 rfl ?_
  refine g_getf C k_X9 6 f_X9_54 0 rfl rfl (by decide) rfl rfl dX9_fails_1 ?_
  refine g_iload_n C 1 dX9_fails_4 rfl ?_
  refine g_callVp C [vi s] [] (c_X6_has x.1.2.1 g eo ec ef es eh ep ex nE nR s hnE hs) y_X6_has l_X9_187 [1] rfl (by decide) 1 rfl rfl rfl (Nat.le_of_ble_eq_true rfl) rfl (by decide) dX9_fails_5 ?_
  refine g_if_ne C 21 dX9_fails_8 (by decide) (by omega) (fun c8 => ?_) (fun c8 => ?_)
  · refine g_iload_n C 2 dX9_fails_21 rfl ?_
    refine g_callSp C [vi h] [] (c_X9_isHour x.1.2.1 g h hh) y_X9_isHour l_X9_76 [] rfl (by decide) rfl (Nat.le_of_ble_eq_true rfl) rfl (by decide) dX9_fails_22 ?_
    refine g_if_ne C 38 dX9_fails_25 (by decide) (by omega) (fun c25 => ?_) (fun c25 => ?_)
    · refine g_aload_n C 0 dX9_fails_38 rfl ?_
      refine g_getf C k_X9 6 f_X9_54 0 rfl rfl (by decide) rfl rfl dX9_fails_39 ?_
      refine g_iload_n C 1 dX9_fails_42 rfl ?_
      refine g_sipush C dX9_fails_43 (by decide) ?_
      refine g_callVp C [vi s, vi 2199] [] (c_X6_hasFailedBy x.1.2.1 g eo ec ef es eh ep ex EF nE nR s 2199 hEF (by omega) (by omega)) y_X6_hasFailedBy l_X9_202 [1, 2] rfl (by decide) 1 rfl rfl rfl (Nat.le_of_ble_eq_true rfl) rfl (by decide) dX9_fails_46 ?_
      refine g_if_eq C 62 dX9_fails_49 (by decide) (by omega) (fun c49 => ?_) (fun c49 => ?_)
      · refine g_aload_n C 0 dX9_fails_62 rfl ?_
        refine g_getf C k_X9 6 f_X9_54 0 rfl rfl (by decide) rfl rfl dX9_fails_63 ?_
        refine g_iload_n C 1 dX9_fails_66 rfl ?_
        refine g_iload_n C 2 dX9_fails_67 rfl ?_
        refine g_callV C [vi s, vi h] [] (c_X6_failFrom x.1.2.1 g eo ec ef es eh ep ex EF ES EH nE nR s h hEF hES hEH hnR (by omega) (by omega)) y_X6_failFrom l_X9_207 [1, 2, 3, 4] rfl (by decide) 1 rfl rfl rfl (Nat.le_of_ble_eq_true rfl) rfl (by decide) dX9_fails_68 (fun v9 w9 hp9 => ?_)
        obtain ⟨rfl, rfl⟩ := hp9
        simp only [putAll, List.set_cons_succ, List.set_cons_zero, List.cons_append, List.nil_append, List.append_nil, Option.toList]
        show gW g x [(zo, cO 9 [.ref lo, .ref wo, .ref to, .ref so, .ref ro, .ref vo, .ref eo, .ref bo, .ref mo, vi tn]), (eo, cO 6 [.ref ec, .ref ef, .ref es, .ref eh, .ref ep, .ref ex, vi nE, vi nR]), (ef, cA g 6 (up EF s h)), (es, cA g 60 ES), (eh, cA g 60 EH)] 0 0 [(0, .ref zo), (1, vi s), (2, vi h)] 71 [vi (sm (fcn ES EH s h) nR)]
        refine g_widen (k' := 1) (n' := 6) (by decide) (by decide) ?_
        refine g_outX C hR (fun x' C hR => ?_)
        exact g_iret C hR dX9_fails_71 ⟨rfl, rfl, (by omega)⟩ rfl
      exact g_throw C hR t_95 t_95k t_95i (List.mem_of_getElem? (i := 20) rfl) dX9_fails_52 dX9_fails_55 dX9_fails_56 dX9_fails_58 dX9_fails_61 ⟨by decide, Nat.le_of_ble_eq_true rfl, by decide, by decide, by decide, by decide⟩ ⟨rfl, Or.inr (Or.inr (⟨rfl, (by omega)⟩))⟩ rfl
    exact g_throw C hR t_84 t_84k t_84i (List.mem_of_getElem? (i := 19) rfl) dX9_fails_28 dX9_fails_31 dX9_fails_32 dX9_fails_34 dX9_fails_37 ⟨by decide, Nat.le_of_ble_eq_true rfl, by decide, by decide, by decide, by decide⟩ ⟨rfl, Or.inr (Or.inl ⟨rfl, (by omega)⟩)⟩ rfl
  exact g_throw C hR t_107 t_107k t_107i (List.mem_of_getElem? (i := 16) rfl) dX9_fails_11 dX9_fails_14 dX9_fails_15 dX9_fails_17 dX9_fails_20 ⟨by decide, Nat.le_of_ble_eq_true rfl, by decide, by decide, by decide, by decide⟩ ⟨rfl, Or.inl ⟨rfl, (by omega)⟩⟩ rfl

set_option maxHeartbeats 4000000 in
set_option maxRecDepth 100000 in
theorem c_X9_bond (l : Launch) (hst9 : l.stackTraces = false) (g : gD) (zo : Nat) (lo : Nat) (wo : Nat) (to : Nat) (so : Nat) (ro : Nat) (vo : Nat) (eo : Nat) (bo : Nat) (mo : Nat) (tn : Int) (bp : Nat) (bq : Nat) (bx : Nat) (bf : Nat) (bl : Nat) (bt : Nat) (bc : Nat) (be : Nat) (BP : Int → Int) (BQ : Int → Int) (BX : Int → Int) (BF : Int → Int) (BL : Int → Int) (BT : Int → Int) (BC : Int → Int) (BE : Int → Int) (nB : Int) (a1 : Int) (a2 : Int) (a3 : Int) (a4 : Int) (a5 : Int) (a6 : Int) (a7 : Int) (hnB : 0 ≤ nB ∧ nB ≤ 5) (htn : 0 ≤ tn ∧ tn ≤ 2199) (ha1 : -2147483648 ≤ a1 ∧ a1 < 2147483648) (ha2 : -2147483648 ≤ a2 ∧ a2 < 2147483648) (ha3 : -2147483648 ≤ a3 ∧ a3 < 2147483648) (ha4 : -2147483648 ≤ a4 ∧ a4 < 2147483648) (ha5 : -2147483648 ≤ a5 ∧ a5 < 2147483648) (ha6 : -2147483648 ≤ a6 ∧ a6 < 2147483648) (ha7 : -2147483648 ≤ a7 ∧ a7 < 2147483648) : gMetX l g yX9_bond cX9_bond 10 (some .int) 6 1 6 100 [.ref zo, vi a1, vi a2, vi a3, vi a4, vi a5, vi a6, vi a7] [(zo, cO 9 [.ref lo, .ref wo, .ref to, .ref so, .ref ro, .ref vo, .ref eo, .ref bo, .ref mo, vi tn]), (bo, cO 1 [.ref bp, .ref bq, .ref bx, .ref bf, .ref bl, .ref bt, .ref bc, .ref be, vi nB]), (bp, cA g 5 BP), (bq, cA g 5 BQ), (bx, cA g 5 BX), (bf, cA g 5 BF), (bl, cA g 5 BL), (bt, cA g 5 BT), (bc, cA g 5 BC), (be, cA g 5 BE)] (fun v9 w9 => v9 = (some (vi nB)) ∧ w9 = [(zo, cO 9 [.ref lo, .ref wo, .ref to, .ref so, .ref ro, .ref vo, .ref eo, .ref bo, .ref mo, vi tn]), (bo, cO 1 [.ref bp, .ref bq, .ref bx, .ref bf, .ref bl, .ref bt, .ref bc, .ref be, vi (nB + 1)]), (bp, cA g 5 (up BP nB a1)), (bq, cA g 5 (up BQ nB a2)), (bx, cA g 5 (up BX nB a3)), (bf, cA g 5 (up BF nB a4)), (bl, cA g 5 (up BL nB a5)), (bt, cA g 5 (up BT nB a6)), (bc, cA g 5 (up BC nB a7)), (be, cA g 5 (up BE nB a5))] ∧ (((1 ≤ a1 ∧ a1 ≤ 999999) ∧ (0 ≤ a2 ∧ a2 ≤ 2) ∧ (1 ≤ a3 ∧ a3 ≤ 65535) ∧ (0 ≤ a4 ∧ a4 ≤ a5 ∧ a5 ≤ 2199) ∧ (1 ≤ a6 ∧ a6 ≤ 9) ∧ (1 ≤ a7 ∧ a7 ≤ 100)) ∧ nB < 5 ∧ tn ≤ a5)) (fun E9 w9 => w9 = [(zo, cO 9 [.ref lo, .ref wo, .ref to, .ref so, .ref ro, .ref vo, .ref eo, .ref bo, .ref mo, vi tn]), (bo, cO 1 [.ref bp, .ref bq, .ref bx, .ref bf, .ref bl, .ref bt, .ref bc, .ref be, vi nB]), (bp, cA g 5 BP), (bq, cA g 5 BQ), (bx, cA g 5 BX), (bf, cA g 5 BF), (bl, cA g 5 BL), (bt, cA g 5 BT), (bc, cA g 5 BC), (be, cA g 5 BE)] ∧ ((E9 = E1 ∧ (¬ ((1 ≤ a1 ∧ a1 ≤ 999999) ∧ (0 ≤ a2 ∧ a2 ≤ 2) ∧ (1 ≤ a3 ∧ a3 ≤ 65535) ∧ (0 ≤ a4 ∧ a4 ≤ a5 ∧ a5 ≤ 2199) ∧ (1 ≤ a6 ∧ a6 ≤ 9) ∧ (1 ≤ a7 ∧ a7 ≤ 100)))) ∨ (E9 = E2 ∧ (((1 ≤ a1 ∧ a1 ≤ 999999) ∧ (0 ≤ a2 ∧ a2 ≤ 2) ∧ (1 ≤ a3 ∧ a3 ≤ 65535) ∧ (0 ≤ a4 ∧ a4 ≤ a5 ∧ a5 ≤ 2199) ∧ (1 ≤ a6 ∧ a6 ≤ 9) ∧ (1 ≤ a7 ∧ a7 ≤ 100)) ∧ (nB = 5 ∨ a5 < tn))))) := by
  refine gMetX.of y_X9_bond.2.2.2.2.1 (Nat.le_of_ble_eq_true rfl) hst9 ?_
  intro x hlx C hR
  subst hlx
  have C : gC g x RX9 cX9_bond 10 6 1 6 100 := C
  show gW g x [(zo, cO 9 [.ref lo, .ref wo, .ref to, .ref so, .ref ro, .ref vo, .ref eo, .ref bo, .ref mo, vi tn]), (bo, cO 1 [.ref bp, .ref bq, .ref bx, .ref bf, .ref bl, .ref bt, .ref bc, .ref be, vi nB]), (bp, cA g 5 BP), (bq, cA g 5 BQ), (bx, cA g 5 BX), (bf, cA g 5 BF), (bl, cA g 5 BL), (bt, cA g 5 BT), (bc, cA g 5 BC), (be, cA g 5 BE)] 0 0 [(0, .ref zo), (1, vi a1), (2, vi a2), (3, vi a3), (4, vi a4), (5, vi a5), (6, vi a6), (7, vi a7)] 0 []
  refine g_iload_n C 2 dX9_bond_0 rfl ?_
  refine g_callSp C [vi a2] [] (c_X9_isPeril x.1.2.1 g a2 ha2) y_X9_isPeril l_X9_72 [] rfl (by decide) rfl (Nat.le_of_ble_eq_true rfl) rfl (by decide) dX9_bond_1 ?_
  refine g_if_eq C 31 dX9_bond_4 (by decide) (by omega) (fun c4 => ?_) (fun c4 => ?_)
  · refine g_iconst C dX9_bond_31 ?_
    refine g_istore C [(8, vi 0), (0, .ref zo), (1, vi a1), (2, vi a2), (3, vi a3), (4, vi a4), (5, vi a5), (6, vi a6), (7, vi a7)] dX9_bond_32 (by decide) rfl ?_
    refine g_iload C 7 dX9_bond_34 rfl ?_
    refine g_iconst C dX9_bond_36 ?_
    refine g_bipush C dX9_bond_37 (by decide) ?_
    refine g_callSp C [vi a6, vi 1, vi 9] [] (c_X9_isIn x.1.2.1 g a6 1 9 ha6 (by omega) (by omega)) y_X9_isIn l_X9_80 [] rfl (by decide) rfl (Nat.le_of_ble_eq_true rfl) rfl (by decide) dX9_bond_39 ?_
    refine g_if_eq C 60 dX9_bond_42 (by decide) (by omega) (fun c42 => ?_) (fun c42 => ?_)
    · refine g_iconst C dX9_bond_60 ?_
      refine g_istore C [(9, vi 0), (8, vi 0), (0, .ref zo), (1, vi a1), (2, vi a2), (3, vi a3), (4, vi a4), (5, vi a5), (6, vi a6), (7, vi a7)] dX9_bond_61 (by decide) rfl ?_
      refine g_iload_n C 3 dX9_bond_63 rfl ?_
      refine g_iconst C dX9_bond_64 ?_
      refine g_ldc C (999999) n_X9_149 (by decide) dX9_bond_65 ?_
      refine g_callSp C [vi a1, vi 1, vi 999999] [] (c_X9_isIn x.1.2.1 g a1 1 999999 ha1 (by omega) (by omega)) y_X9_isIn l_X9_80 [] rfl (by decide) rfl (Nat.le_of_ble_eq_true rfl) rfl (by decide) dX9_bond_67 ?_
      refine g_if_eq C 83 dX9_bond_70 (by decide) (by omega) (fun c70 => ?_) (fun c70 => ?_)
      · exact g_throw C hR t_84 t_84k t_84i (List.mem_of_getElem? (i := 8) rfl) dX9_bond_83 dX9_bond_86 dX9_bond_87 dX9_bond_89 dX9_bond_92 ⟨by decide, Nat.le_of_ble_eq_true rfl, by decide, by decide, by decide, by decide⟩ ⟨rfl, Or.inl ⟨rfl, (by omega)⟩⟩ rfl
      refine g_iload C 1 dX9_bond_73 rfl ?_
      refine g_if_eq C 83 dX9_bond_75 (by decide) (by omega) (fun c75 => ?_) (fun c75 => ?_)
      · exact g_throw C hR t_84 t_84k t_84i (List.mem_of_getElem? (i := 8) rfl) dX9_bond_83 dX9_bond_86 dX9_bond_87 dX9_bond_89 dX9_bond_92 ⟨by decide, Nat.le_of_ble_eq_true rfl, by decide, by decide, by decide, by decide⟩ ⟨rfl, Or.inl ⟨rfl, (by omega)⟩⟩ rfl
      refine g_iload C 0 dX9_bond_78 rfl ?_
      refine g_if_ne C 93 dX9_bond_80 (by decide) (by omega) (fun c80 => ?_) (fun c80 => ?_)
      · refine g_aload_n C 2 dX9_bond_93 rfl ?_
        refine g_getf C k_X9 7 f_X9_61 0 rfl rfl (by decide) rfl rfl dX9_bond_94 ?_
        refine g_callVp C [] [] (c_X1_isFull x.1.2.1 g bo bp bq bx bf bl bt bc be nB hnB) y_X1_isFull l_X9_211 [1] rfl (by decide) 1 rfl rfl rfl (Nat.le_of_ble_eq_true rfl) rfl (by decide) dX9_bond_97 ?_
        refine g_if_ne C 112 dX9_bond_100 (by decide) (by omega) (fun c100 => ?_) (fun c100 => ?_)
        · exact g_throw C hR t_95 t_95k t_95i (List.mem_of_getElem? (i := 21) rfl) dX9_bond_112 dX9_bond_115 dX9_bond_116 dX9_bond_118 dX9_bond_121 ⟨by decide, Nat.le_of_ble_eq_true rfl, by decide, by decide, by decide, by decide⟩ ⟨rfl, Or.inr (⟨rfl, (by omega)⟩)⟩ rfl
        refine g_iload C 7 dX9_bond_103 rfl ?_
        refine g_aload_n C 2 dX9_bond_105 rfl ?_
        refine g_getf C k_X9 9 f_X9_212 0 rfl rfl (by decide) rfl rfl dX9_bond_106 ?_
        refine g_icmp_ge C 122 dX9_bond_109 (by decide) (by omega) (by omega) (fun c109 => ?_) (fun c109 => ?_)
        · refine g_aload_n C 2 dX9_bond_122 rfl ?_
          refine g_getf C k_X9 7 f_X9_61 0 rfl rfl (by decide) rfl rfl dX9_bond_123 ?_
          refine g_iload_n C 3 dX9_bond_126 rfl ?_
          refine g_iload_n C 4 dX9_bond_127 rfl ?_
          refine g_iload_n C 5 dX9_bond_128 rfl ?_
          refine g_iload C 6 dX9_bond_129 rfl ?_
          refine g_iload C 7 dX9_bond_131 rfl ?_
          refine g_iload C 8 dX9_bond_133 rfl ?_
          refine g_iload C 9 dX9_bond_135 rfl ?_
          refine g_callV C [vi a1, vi a2, vi a3, vi a4, vi a5, vi a6, vi a7] [] (c_X1_add x.1.2.1 g bo bp bq bx bf bl bt bc be BP BQ BX BF BL BT BC BE nB a1 a2 a3 a4 a5 a6 a7 (by omega)) y_X1_add l_X9_218 [1, 2, 3, 4, 5, 6, 7, 8, 9] rfl (by decide) 1 rfl rfl rfl (Nat.le_of_ble_eq_true rfl) rfl (by decide) dX9_bond_137 (fun v9 w9 hp9 => ?_)
          obtain ⟨rfl, rfl⟩ := hp9
          simp only [putAll, List.set_cons_succ, List.set_cons_zero, List.cons_append, List.nil_append, List.append_nil, Option.toList]
          show gW g x [(zo, cO 9 [.ref lo, .ref wo, .ref to, .ref so, .ref ro, .ref vo, .ref eo, .ref bo, .ref mo, vi tn]), (bo, cO 1 [.ref bp, .ref bq, .ref bx, .ref bf, .ref bl, .ref bt, .ref bc, .ref be, vi (nB + 1)]), (bp, cA g 5 (up BP nB a1)), (bq, cA g 5 (up BQ nB a2)), (bx, cA g 5 (up BX nB a3)), (bf, cA g 5 (up BF nB a4)), (bl, cA g 5 (up BL nB a5)), (bt, cA g 5 (up BT nB a6)), (bc, cA g 5 (up BC nB a7)), (be, cA g 5 (up BE nB a5))] 0 0 [(9, vi 0), (8, vi 0), (0, .ref zo), (1, vi a1), (2, vi a2), (3, vi a3), (4, vi a4), (5, vi a5), (6, vi a6), (7, vi a7)] 140 [vi nB]
          refine g_widen (k' := 1) (n' := 6) (by decide) (by decide) ?_
          refine g_outX C hR (fun x' C hR => ?_)
          exact g_iret C hR dX9_bond_140 ⟨rfl, rfl, (by omega)⟩ rfl
        exact g_throw C hR t_95 t_95k t_95i (List.mem_of_getElem? (i := 21) rfl) dX9_bond_112 dX9_bond_115 dX9_bond_116 dX9_bond_118 dX9_bond_121 ⟨by decide, Nat.le_of_ble_eq_true rfl, by decide, by decide, by decide, by decide⟩ ⟨rfl, Or.inr (⟨rfl, (by omega)⟩)⟩ rfl
      exact g_throw C hR t_84 t_84k t_84i (List.mem_of_getElem? (i := 8) rfl) dX9_bond_83 dX9_bond_86 dX9_bond_87 dX9_bond_89 dX9_bond_92 ⟨by decide, Nat.le_of_ble_eq_true rfl, by decide, by decide, by decide, by decide⟩ ⟨rfl, Or.inl ⟨rfl, (by omega)⟩⟩ rfl
    refine g_iload C 8 dX9_bond_45 rfl ?_
    refine g_iconst C dX9_bond_47 ?_
    refine g_bipush C dX9_bond_48 (by decide) ?_
    refine g_callSp C [vi a7, vi 1, vi 100] [] (c_X9_isIn x.1.2.1 g a7 1 100 ha7 (by omega) (by omega)) y_X9_isIn l_X9_80 [] rfl (by decide) rfl (Nat.le_of_ble_eq_true rfl) rfl (by decide) dX9_bond_50 ?_
    refine g_if_eq C 60 dX9_bond_53 (by decide) (by omega) (fun c53 => ?_) (fun c53 => ?_)
    · refine g_iconst C dX9_bond_60 ?_
      refine g_istore C [(9, vi 0), (8, vi 0), (0, .ref zo), (1, vi a1), (2, vi a2), (3, vi a3), (4, vi a4), (5, vi a5), (6, vi a6), (7, vi a7)] dX9_bond_61 (by decide) rfl ?_
      refine g_iload_n C 3 dX9_bond_63 rfl ?_
      refine g_iconst C dX9_bond_64 ?_
      refine g_ldc C (999999) n_X9_149 (by decide) dX9_bond_65 ?_
      refine g_callSp C [vi a1, vi 1, vi 999999] [] (c_X9_isIn x.1.2.1 g a1 1 999999 ha1 (by omega) (by omega)) y_X9_isIn l_X9_80 [] rfl (by decide) rfl (Nat.le_of_ble_eq_true rfl) rfl (by decide) dX9_bond_67 ?_
      refine g_if_eq C 83 dX9_bond_70 (by decide) (by omega) (fun c70 => ?_) (fun c70 => ?_)
      · exact g_throw C hR t_84 t_84k t_84i (List.mem_of_getElem? (i := 8) rfl) dX9_bond_83 dX9_bond_86 dX9_bond_87 dX9_bond_89 dX9_bond_92 ⟨by decide, Nat.le_of_ble_eq_true rfl, by decide, by decide, by decide, by decide⟩ ⟨rfl, Or.inl ⟨rfl, (by omega)⟩⟩ rfl
      refine g_iload C 1 dX9_bond_73 rfl ?_
      refine g_if_eq C 83 dX9_bond_75 (by decide) (by omega) (fun c75 => ?_) (fun c75 => ?_)
      · exact g_throw C hR t_84 t_84k t_84i (List.mem_of_getElem? (i := 8) rfl) dX9_bond_83 dX9_bond_86 dX9_bond_87 dX9_bond_89 dX9_bond_92 ⟨by decide, Nat.le_of_ble_eq_true rfl, by decide, by decide, by decide, by decide⟩ ⟨rfl, Or.inl ⟨rfl, (by omega)⟩⟩ rfl
      refine g_iload C 0 dX9_bond_78 rfl ?_
      refine g_if_ne C 93 dX9_bond_80 (by decide) (by omega) (fun c80 => ?_) (fun c80 => ?_)
      · refine g_aload_n C 2 dX9_bond_93 rfl ?_
        refine g_getf C k_X9 7 f_X9_61 0 rfl rfl (by decide) rfl rfl dX9_bond_94 ?_
        refine g_callVp C [] [] (c_X1_isFull x.1.2.1 g bo bp bq bx bf bl bt bc be nB hnB) y_X1_isFull l_X9_211 [1] rfl (by decide) 1 rfl rfl rfl (Nat.le_of_ble_eq_true rfl) rfl (by decide) dX9_bond_97 ?_
        refine g_if_ne C 112 dX9_bond_100 (by decide) (by omega) (fun c100 => ?_) (fun c100 => ?_)
        · exact g_throw C hR t_95 t_95k t_95i (List.mem_of_getElem? (i := 21) rfl) dX9_bond_112 dX9_bond_115 dX9_bond_116 dX9_bond_118 dX9_bond_121 ⟨by decide, Nat.le_of_ble_eq_true rfl, by decide, by decide, by decide, by decide⟩ ⟨rfl, Or.inr (⟨rfl, (by omega)⟩)⟩ rfl
        refine g_iload C 7 dX9_bond_103 rfl ?_
        refine g_aload_n C 2 dX9_bond_105 rfl ?_
        refine g_getf C k_X9 9 f_X9_212 0 rfl rfl (by decide) rfl rfl dX9_bond_106 ?_
        refine g_icmp_ge C 122 dX9_bond_109 (by decide) (by omega) (by omega) (fun c109 => ?_) (fun c109 => ?_)
        · refine g_aload_n C 2 dX9_bond_122 rfl ?_
          refine g_getf C k_X9 7 f_X9_61 0 rfl rfl (by decide) rfl rfl dX9_bond_123 ?_
          refine g_iload_n C 3 dX9_bond_126 rfl ?_
          refine g_iload_n C 4 dX9_bond_127 rfl ?_
          refine g_iload_n C 5 dX9_bond_128 rfl ?_
          refine g_iload C 6 dX9_bond_129 rfl ?_
          refine g_iload C 7 dX9_bond_131 rfl ?_
          refine g_iload C 8 dX9_bond_133 rfl ?_
          refine g_iload C 9 dX9_bond_135 rfl ?_
          refine g_callV C [vi a1, vi a2, vi a3, vi a4, vi a5, vi a6, vi a7] [] (c_X1_add x.1.2.1 g bo bp bq bx bf bl bt bc be BP BQ BX BF BL BT BC BE nB a1 a2 a3 a4 a5 a6 a7 (by omega)) y_X1_add l_X9_218 [1, 2, 3, 4, 5, 6, 7, 8, 9] rfl (by decide) 1 rfl rfl rfl (Nat.le_of_ble_eq_true rfl) rfl (by decide) dX9_bond_137 (fun v9 w9 hp9 => ?_)
          obtain ⟨rfl, rfl⟩ := hp9
          simp only [putAll, List.set_cons_succ, List.set_cons_zero, List.cons_append, List.nil_append, List.append_nil, Option.toList]
          show gW g x [(zo, cO 9 [.ref lo, .ref wo, .ref to, .ref so, .ref ro, .ref vo, .ref eo, .ref bo, .ref mo, vi tn]), (bo, cO 1 [.ref bp, .ref bq, .ref bx, .ref bf, .ref bl, .ref bt, .ref bc, .ref be, vi (nB + 1)]), (bp, cA g 5 (up BP nB a1)), (bq, cA g 5 (up BQ nB a2)), (bx, cA g 5 (up BX nB a3)), (bf, cA g 5 (up BF nB a4)), (bl, cA g 5 (up BL nB a5)), (bt, cA g 5 (up BT nB a6)), (bc, cA g 5 (up BC nB a7)), (be, cA g 5 (up BE nB a5))] 0 0 [(9, vi 0), (8, vi 0), (0, .ref zo), (1, vi a1), (2, vi a2), (3, vi a3), (4, vi a4), (5, vi a5), (6, vi a6), (7, vi a7)] 140 [vi nB]
          refine g_widen (k' := 1) (n' := 6) (by decide) (by decide) ?_
          refine g_outX C hR (fun x' C hR => ?_)
          exact g_iret C hR dX9_bond_140 ⟨rfl, rfl, (by omega)⟩ rfl
        exact g_throw C hR t_95 t_95k t_95i (List.mem_of_getElem? (i := 21) rfl) dX9_bond_112 dX9_bond_115 dX9_bond_116 dX9_bond_118 dX9_bond_121 ⟨by decide, Nat.le_of_ble_eq_true rfl, by decide, by decide, by decide, by decide⟩ ⟨rfl, Or.inr (⟨rfl, (by omega)⟩)⟩ rfl
      exact g_throw C hR t_84 t_84k t_84i (List.mem_of_getElem? (i := 8) rfl) dX9_bond_83 dX9_bond_86 dX9_bond_87 dX9_bond_89 dX9_bond_92 ⟨by decide, Nat.le_of_ble_eq_true rfl, by decide, by decide, by decide, by decide⟩ ⟨rfl, Or.inl ⟨rfl, (by omega)⟩⟩ rfl
    refine g_iconst C dX9_bond_56 ?_
    refine g_goto C 61 dX9_bond_57 (by decide) ?_
    refine g_istore C [(9, vi 1), (8, vi 0), (0, .ref zo), (1, vi a1), (2, vi a2), (3, vi a3), (4, vi a4), (5, vi a5), (6, vi a6), (7, vi a7)] dX9_bond_61 (by decide) rfl ?_
    refine g_iload_n C 3 dX9_bond_63 rfl ?_
    refine g_iconst C dX9_bond_64 ?_
    refine g_ldc C (999999) n_X9_149 (by decide) dX9_bond_65 ?_
    refine g_callSp C [vi a1, vi 1, vi 999999] [] (c_X9_isIn x.1.2.1 g a1 1 999999 ha1 (by omega) (by omega)) y_X9_isIn l_X9_80 [] rfl (by decide) rfl (Nat.le_of_ble_eq_true rfl) rfl (by decide) dX9_bond_67 ?_
    refine g_if_eq C 83 dX9_bond_70 (by decide) (by omega) (fun c70 => ?_) (fun c70 => ?_)
    · exact g_throw C hR t_84 t_84k t_84i (List.mem_of_getElem? (i := 8) rfl) dX9_bond_83 dX9_bond_86 dX9_bond_87 dX9_bond_89 dX9_bond_92 ⟨by decide, Nat.le_of_ble_eq_true rfl, by decide, by decide, by decide, by decide⟩ ⟨rfl, Or.inl ⟨rfl, (by omega)⟩⟩ rfl
    refine g_iload C 1 dX9_bond_73 rfl ?_
    refine g_if_eq C 83 dX9_bond_75 (by decide) (by omega) (fun c75 => ?_) (fun c75 => ?_)
    · exact g_throw C hR t_84 t_84k t_84i (List.mem_of_getElem? (i := 8) rfl) dX9_bond_83 dX9_bond_86 dX9_bond_87 dX9_bond_89 dX9_bond_92 ⟨by decide, Nat.le_of_ble_eq_true rfl, by decide, by decide, by decide, by decide⟩ ⟨rfl, Or.inl ⟨rfl, (by omega)⟩⟩ rfl
    refine g_iload C 0 dX9_bond_78 rfl ?_
    refine g_if_ne C 93 dX9_bond_80 (by decide) (by omega) (fun c80 => ?_) (fun c80 => ?_)
    · refine g_aload_n C 2 dX9_bond_93 rfl ?_
      refine g_getf C k_X9 7 f_X9_61 0 rfl rfl (by decide) rfl rfl dX9_bond_94 ?_
      refine g_callVp C [] [] (c_X1_isFull x.1.2.1 g bo bp bq bx bf bl bt bc be nB hnB) y_X1_isFull l_X9_211 [1] rfl (by decide) 1 rfl rfl rfl (Nat.le_of_ble_eq_true rfl) rfl (by decide) dX9_bond_97 ?_
      refine g_if_ne C 112 dX9_bond_100 (by decide) (by omega) (fun c100 => ?_) (fun c100 => ?_)
      · exact g_throw C hR t_95 t_95k t_95i (List.mem_of_getElem? (i := 21) rfl) dX9_bond_112 dX9_bond_115 dX9_bond_116 dX9_bond_118 dX9_bond_121 ⟨by decide, Nat.le_of_ble_eq_true rfl, by decide, by decide, by decide, by decide⟩ ⟨rfl, Or.inr (⟨rfl, (by omega)⟩)⟩ rfl
      refine g_iload C 7 dX9_bond_103 rfl ?_
      refine g_aload_n C 2 dX9_bond_105 rfl ?_
      refine g_getf C k_X9 9 f_X9_212 0 rfl rfl (by decide) rfl rfl dX9_bond_106 ?_
      refine g_icmp_ge C 122 dX9_bond_109 (by decide) (by omega) (by omega) (fun c109 => ?_) (fun c109 => ?_)
      · refine g_aload_n C 2 dX9_bond_122 rfl ?_
        refine g_getf C k_X9 7 f_X9_61 0 rfl rfl (by decide) rfl rfl dX9_bond_123 ?_
        refine g_iload_n C 3 dX9_bond_126 rfl ?_
        refine g_iload_n C 4 dX9_bond_127 rfl ?_
        refine g_iload_n C 5 dX9_bond_128 rfl ?_
        refine g_iload C 6 dX9_bond_129 rfl ?_
        refine g_iload C 7 dX9_bond_131 rfl ?_
        refine g_iload C 8 dX9_bond_133 rfl ?_
        refine g_iload C 9 dX9_bond_135 rfl ?_
        refine g_callV C [vi a1, vi a2, vi a3, vi a4, vi a5, vi a6, vi a7] [] (c_X1_add x.1.2.1 g bo bp bq bx bf bl bt bc be BP BQ BX BF BL BT BC BE nB a1 a2 a3 a4 a5 a6 a7 (by omega)) y_X1_add l_X9_218 [1, 2, 3, 4, 5, 6, 7, 8, 9] rfl (by decide) 1 rfl rfl rfl (Nat.le_of_ble_eq_true rfl) rfl (by decide) dX9_bond_137 (fun v9 w9 hp9 => ?_)
        obtain ⟨rfl, rfl⟩ := hp9
        simp only [putAll, List.set_cons_succ, List.set_cons_zero, List.cons_append, List.nil_append, List.append_nil, Option.toList]
        show gW g x [(zo, cO 9 [.ref lo, .ref wo, .ref to, .ref so, .ref ro, .ref vo, .ref eo, .ref bo, .ref mo, vi tn]), (bo, cO 1 [.ref bp, .ref bq, .ref bx, .ref bf, .ref bl, .ref bt, .ref bc, .ref be, vi (nB + 1)]), (bp, cA g 5 (up BP nB a1)), (bq, cA g 5 (up BQ nB a2)), (bx, cA g 5 (up BX nB a3)), (bf, cA g 5 (up BF nB a4)), (bl, cA g 5 (up BL nB a5)), (bt, cA g 5 (up BT nB a6)), (bc, cA g 5 (up BC nB a7)), (be, cA g 5 (up BE nB a5))] 0 0 [(9, vi 1), (8, vi 0), (0, .ref zo), (1, vi a1), (2, vi a2), (3, vi a3), (4, vi a4), (5, vi a5), (6, vi a6), (7, vi a7)] 140 [vi nB]
        refine g_widen (k' := 1) (n' := 6) (by decide) (by decide) ?_
        refine g_outX C hR (fun x' C hR => ?_)
        exact g_iret C hR dX9_bond_140 ⟨rfl, rfl, (by omega)⟩ rfl
      exact g_throw C hR t_95 t_95k t_95i (List.mem_of_getElem? (i := 21) rfl) dX9_bond_112 dX9_bond_115 dX9_bond_116 dX9_bond_118 dX9_bond_121 ⟨by decide, Nat.le_of_ble_eq_true rfl, by decide, by decide, by decide, by decide⟩ ⟨rfl, Or.inr (⟨rfl, (by omega)⟩)⟩ rfl
    exact g_throw C hR t_84 t_84k t_84i (List.mem_of_getElem? (i := 8) rfl) dX9_bond_83 dX9_bond_86 dX9_bond_87 dX9_bond_89 dX9_bond_92 ⟨by decide, Nat.le_of_ble_eq_true rfl, by decide, by decide, by decide, by decide⟩ ⟨rfl, Or.inl ⟨rfl, (by omega)⟩⟩ rfl
  refine g_iload_n C 3 dX9_bond_7 rfl ?_
  refine g_iconst C dX9_bond_8 ?_
  refine g_ldc C (65535) n_X9_210 (by decide) dX9_bond_9 ?_
  refine g_callSp C [vi a3, vi 1, vi 65535] [] (c_X9_isIn x.1.2.1 g a3 1 65535 ha3 (by omega) (by omega)) y_X9_isIn l_X9_80 [] rfl (by decide) rfl (Nat.le_of_ble_eq_true rfl) rfl (by decide) dX9_bond_11 ?_
  refine g_if_eq C 31 dX9_bond_14 (by decide) (by omega) (fun c14 => ?_) (fun c14 => ?_)
  · refine g_iconst C dX9_bond_31 ?_
    refine g_istore C [(8, vi 0), (0, .ref zo), (1, vi a1), (2, vi a2), (3, vi a3), (4, vi a4), (5, vi a5), (6, vi a6), (7, vi a7)] dX9_bond_32 (by decide) rfl ?_
    refine g_iload C 7 dX9_bond_34 rfl ?_
    refine g_iconst C dX9_bond_36 ?_
    refine g_bipush C dX9_bond_37 (by decide) ?_
    refine g_callSp C [vi a6, vi 1, vi 9] [] (c_X9_isIn x.1.2.1 g a6 1 9 ha6 (by omega) (by omega)) y_X9_isIn l_X9_80 [] rfl (by decide) rfl (Nat.le_of_ble_eq_true rfl) rfl (by decide) dX9_bond_39 ?_
    refine g_if_eq C 60 dX9_bond_42 (by decide) (by omega) (fun c42 => ?_) (fun c42 => ?_)
    · refine g_iconst C dX9_bond_60 ?_
      refine g_istore C [(9, vi 0), (8, vi 0), (0, .ref zo), (1, vi a1), (2, vi a2), (3, vi a3), (4, vi a4), (5, vi a5), (6, vi a6), (7, vi a7)] dX9_bond_61 (by decide) rfl ?_
      refine g_iload_n C 3 dX9_bond_63 rfl ?_
      refine g_iconst C dX9_bond_64 ?_
      refine g_ldc C (999999) n_X9_149 (by decide) dX9_bond_65 ?_
      refine g_callSp C [vi a1, vi 1, vi 999999] [] (c_X9_isIn x.1.2.1 g a1 1 999999 ha1 (by omega) (by omega)) y_X9_isIn l_X9_80 [] rfl (by decide) rfl (Nat.le_of_ble_eq_true rfl) rfl (by decide) dX9_bond_67 ?_
      refine g_if_eq C 83 dX9_bond_70 (by decide) (by omega) (fun c70 => ?_) (fun c70 => ?_)
      · exact g_throw C hR t_84 t_84k t_84i (List.mem_of_getElem? (i := 8) rfl) dX9_bond_83 dX9_bond_86 dX9_bond_87 dX9_bond_89 dX9_bond_92 ⟨by decide, Nat.le_of_ble_eq_true rfl, by decide, by decide, by decide, by decide⟩ ⟨rfl, Or.inl ⟨rfl, (by omega)⟩⟩ rfl
      refine g_iload C 1 dX9_bond_73 rfl ?_
      refine g_if_eq C 83 dX9_bond_75 (by decide) (by omega) (fun c75 => ?_) (fun c75 => ?_)
      · exact g_throw C hR t_84 t_84k t_84i (List.mem_of_getElem? (i := 8) rfl) dX9_bond_83 dX9_bond_86 dX9_bond_87 dX9_bond_89 dX9_bond_92 ⟨by decide, Nat.le_of_ble_eq_true rfl, by decide, by decide, by decide, by decide⟩ ⟨rfl, Or.inl ⟨rfl, (by omega)⟩⟩ rfl
      refine g_iload C 0 dX9_bond_78 rfl ?_
      refine g_if_ne C 93 dX9_bond_80 (by decide) (by omega) (fun c80 => ?_) (fun c80 => ?_)
      · refine g_aload_n C 2 dX9_bond_93 rfl ?_
        refine g_getf C k_X9 7 f_X9_61 0 rfl rfl (by decide) rfl rfl dX9_bond_94 ?_
        refine g_callVp C [] [] (c_X1_isFull x.1.2.1 g bo bp bq bx bf bl bt bc be nB hnB) y_X1_isFull l_X9_211 [1] rfl (by decide) 1 rfl rfl rfl (Nat.le_of_ble_eq_true rfl) rfl (by decide) dX9_bond_97 ?_
        refine g_if_ne C 112 dX9_bond_100 (by decide) (by omega) (fun c100 => ?_) (fun c100 => ?_)
        · exact g_throw C hR t_95 t_95k t_95i (List.mem_of_getElem? (i := 21) rfl) dX9_bond_112 dX9_bond_115 dX9_bond_116 dX9_bond_118 dX9_bond_121 ⟨by decide, Nat.le_of_ble_eq_true rfl, by decide, by decide, by decide, by decide⟩ ⟨rfl, Or.inr (⟨rfl, (by omega)⟩)⟩ rfl
        refine g_iload C 7 dX9_bond_103 rfl ?_
        refine g_aload_n C 2 dX9_bond_105 rfl ?_
        refine g_getf C k_X9 9 f_X9_212 0 rfl rfl (by decide) rfl rfl dX9_bond_106 ?_
        refine g_icmp_ge C 122 dX9_bond_109 (by decide) (by omega) (by omega) (fun c109 => ?_) (fun c109 => ?_)
        · refine g_aload_n C 2 dX9_bond_122 rfl ?_
          refine g_getf C k_X9 7 f_X9_61 0 rfl rfl (by decide) rfl rfl dX9_bond_123 ?_
          refine g_iload_n C 3 dX9_bond_126 rfl ?_
          refine g_iload_n C 4 dX9_bond_127 rfl ?_
          refine g_iload_n C 5 dX9_bond_128 rfl ?_
          refine g_iload C 6 dX9_bond_129 rfl ?_
          refine g_iload C 7 dX9_bond_131 rfl ?_
          refine g_iload C 8 dX9_bond_133 rfl ?_
          refine g_iload C 9 dX9_bond_135 rfl ?_
          refine g_callV C [vi a1, vi a2, vi a3, vi a4, vi a5, vi a6, vi a7] [] (c_X1_add x.1.2.1 g bo bp bq bx bf bl bt bc be BP BQ BX BF BL BT BC BE nB a1 a2 a3 a4 a5 a6 a7 (by omega)) y_X1_add l_X9_218 [1, 2, 3, 4, 5, 6, 7, 8, 9] rfl (by decide) 1 rfl rfl rfl (Nat.le_of_ble_eq_true rfl) rfl (by decide) dX9_bond_137 (fun v9 w9 hp9 => ?_)
          obtain ⟨rfl, rfl⟩ := hp9
          simp only [putAll, List.set_cons_succ, List.set_cons_zero, List.cons_append, List.nil_append, List.append_nil, Option.toList]
          show gW g x [(zo, cO 9 [.ref lo, .ref wo, .ref to, .ref so, .ref ro, .ref vo, .ref eo, .ref bo, .ref mo, vi tn]), (bo, cO 1 [.ref bp, .ref bq, .ref bx, .ref bf, .ref bl, .ref bt, .ref bc, .ref be, vi (nB + 1)]), (bp, cA g 5 (up BP nB a1)), (bq, cA g 5 (up BQ nB a2)), (bx, cA g 5 (up BX nB a3)), (bf, cA g 5 (up BF nB a4)), (bl, cA g 5 (up BL nB a5)), (bt, cA g 5 (up BT nB a6)), (bc, cA g 5 (up BC nB a7)), (be, cA g 5 (up BE nB a5))] 0 0 [(9, vi 0), (8, vi 0), (0, .ref zo), (1, vi a1), (2, vi a2), (3, vi a3), (4, vi a4), (5, vi a5), (6, vi a6), (7, vi a7)] 140 [vi nB]
          refine g_widen (k' := 1) (n' := 6) (by decide) (by decide) ?_
          refine g_outX C hR (fun x' C hR => ?_)
          exact g_iret C hR dX9_bond_140 ⟨rfl, rfl, (by omega)⟩ rfl
        exact g_throw C hR t_95 t_95k t_95i (List.mem_of_getElem? (i := 21) rfl) dX9_bond_112 dX9_bond_115 dX9_bond_116 dX9_bond_118 dX9_bond_121 ⟨by decide, Nat.le_of_ble_eq_true rfl, by decide, by decide, by decide, by decide⟩ ⟨rfl, Or.inr (⟨rfl, (by omega)⟩)⟩ rfl
      exact g_throw C hR t_84 t_84k t_84i (List.mem_of_getElem? (i := 8) rfl) dX9_bond_83 dX9_bond_86 dX9_bond_87 dX9_bond_89 dX9_bond_92 ⟨by decide, Nat.le_of_ble_eq_true rfl, by decide, by decide, by decide, by decide⟩ ⟨rfl, Or.inl ⟨rfl, (by omega)⟩⟩ rfl
    refine g_iload C 8 dX9_bond_45 rfl ?_
    refine g_iconst C dX9_bond_47 ?_
    refine g_bipush C dX9_bond_48 (by decide) ?_
    refine g_callSp C [vi a7, vi 1, vi 100] [] (c_X9_isIn x.1.2.1 g a7 1 100 ha7 (by omega) (by omega)) y_X9_isIn l_X9_80 [] rfl (by decide) rfl (Nat.le_of_ble_eq_true rfl) rfl (by decide) dX9_bond_50 ?_
    refine g_if_eq C 60 dX9_bond_53 (by decide) (by omega) (fun c53 => ?_) (fun c53 => ?_)
    · refine g_iconst C dX9_bond_60 ?_
      refine g_istore C [(9, vi 0), (8, vi 0), (0, .ref zo), (1, vi a1), (2, vi a2), (3, vi a3), (4, vi a4), (5, vi a5), (6, vi a6), (7, vi a7)] dX9_bond_61 (by decide) rfl ?_
      refine g_iload_n C 3 dX9_bond_63 rfl ?_
      refine g_iconst C dX9_bond_64 ?_
      refine g_ldc C (999999) n_X9_149 (by decide) dX9_bond_65 ?_
      refine g_callSp C [vi a1, vi 1, vi 999999] [] (c_X9_isIn x.1.2.1 g a1 1 999999 ha1 (by omega) (by omega)) y_X9_isIn l_X9_80 [] rfl (by decide) rfl (Nat.le_of_ble_eq_true rfl) rfl (by decide) dX9_bond_67 ?_
      refine g_if_eq C 83 dX9_bond_70 (by decide) (by omega) (fun c70 => ?_) (fun c70 => ?_)
      · exact g_throw C hR t_84 t_84k t_84i (List.mem_of_getElem? (i := 8) rfl) dX9_bond_83 dX9_bond_86 dX9_bond_87 dX9_bond_89 dX9_bond_92 ⟨by decide, Nat.le_of_ble_eq_true rfl, by decide, by decide, by decide, by decide⟩ ⟨rfl, Or.inl ⟨rfl, (by omega)⟩⟩ rfl
      refine g_iload C 1 dX9_bond_73 rfl ?_
      refine g_if_eq C 83 dX9_bond_75 (by decide) (by omega) (fun c75 => ?_) (fun c75 => ?_)
      · exact g_throw C hR t_84 t_84k t_84i (List.mem_of_getElem? (i := 8) rfl) dX9_bond_83 dX9_bond_86 dX9_bond_87 dX9_bond_89 dX9_bond_92 ⟨by decide, Nat.le_of_ble_eq_true rfl, by decide, by decide, by decide, by decide⟩ ⟨rfl, Or.inl ⟨rfl, (by omega)⟩⟩ rfl
      refine g_iload C 0 dX9_bond_78 rfl ?_
      refine g_if_ne C 93 dX9_bond_80 (by decide) (by omega) (fun c80 => ?_) (fun c80 => ?_)
      · refine g_aload_n C 2 dX9_bond_93 rfl ?_
        refine g_getf C k_X9 7 f_X9_61 0 rfl rfl (by decide) rfl rfl dX9_bond_94 ?_
        refine g_callVp C [] [] (c_X1_isFull x.1.2.1 g bo bp bq bx bf bl bt bc be nB hnB) y_X1_isFull l_X9_211 [1] rfl (by decide) 1 rfl rfl rfl (Nat.le_of_ble_eq_true rfl) rfl (by decide) dX9_bond_97 ?_
        refine g_if_ne C 112 dX9_bond_100 (by decide) (by omega) (fun c100 => ?_) (fun c100 => ?_)
        · exact g_throw C hR t_95 t_95k t_95i (List.mem_of_getElem? (i := 21) rfl) dX9_bond_112 dX9_bond_115 dX9_bond_116 dX9_bond_118 dX9_bond_121 ⟨by decide, Nat.le_of_ble_eq_true rfl, by decide, by decide, by decide, by decide⟩ ⟨rfl, Or.inr (⟨rfl, (by omega)⟩)⟩ rfl
        refine g_iload C 7 dX9_bond_103 rfl ?_
        refine g_aload_n C 2 dX9_bond_105 rfl ?_
        refine g_getf C k_X9 9 f_X9_212 0 rfl rfl (by decide) rfl rfl dX9_bond_106 ?_
        refine g_icmp_ge C 122 dX9_bond_109 (by decide) (by omega) (by omega) (fun c109 => ?_) (fun c109 => ?_)
        · refine g_aload_n C 2 dX9_bond_122 rfl ?_
          refine g_getf C k_X9 7 f_X9_61 0 rfl rfl (by decide) rfl rfl dX9_bond_123 ?_
          refine g_iload_n C 3 dX9_bond_126 rfl ?_
          refine g_iload_n C 4 dX9_bond_127 rfl ?_
          refine g_iload_n C 5 dX9_bond_128 rfl ?_
          refine g_iload C 6 dX9_bond_129 rfl ?_
          refine g_iload C 7 dX9_bond_131 rfl ?_
          refine g_iload C 8 dX9_bond_133 rfl ?_
          refine g_iload C 9 dX9_bond_135 rfl ?_
          refine g_callV C [vi a1, vi a2, vi a3, vi a4, vi a5, vi a6, vi a7] [] (c_X1_add x.1.2.1 g bo bp bq bx bf bl bt bc be BP BQ BX BF BL BT BC BE nB a1 a2 a3 a4 a5 a6 a7 (by omega)) y_X1_add l_X9_218 [1, 2, 3, 4, 5, 6, 7, 8, 9] rfl (by decide) 1 rfl rfl rfl (Nat.le_of_ble_eq_true rfl) rfl (by decide) dX9_bond_137 (fun v9 w9 hp9 => ?_)
          obtain ⟨rfl, rfl⟩ := hp9
          simp only [putAll, List.set_cons_succ, List.set_cons_zero, List.cons_append, List.nil_append, List.append_nil, Option.toList]
          show gW g x [(zo, cO 9 [.ref lo, .ref wo, .ref to, .ref so, .ref ro, .ref vo, .ref eo, .ref bo, .ref mo, vi tn]), (bo, cO 1 [.ref bp, .ref bq, .ref bx, .ref bf, .ref bl, .ref bt, .ref bc, .ref be, vi (nB + 1)]), (bp, cA g 5 (up BP nB a1)), (bq, cA g 5 (up BQ nB a2)), (bx, cA g 5 (up BX nB a3)), (bf, cA g 5 (up BF nB a4)), (bl, cA g 5 (up BL nB a5)), (bt, cA g 5 (up BT nB a6)), (bc, cA g 5 (up BC nB a7)), (be, cA g 5 (up BE nB a5))] 0 0 [(9, vi 0), (8, vi 0), (0, .ref zo), (1, vi a1), (2, vi a2), (3, vi a3), (4, vi a4), (5, vi a5), (6, vi a6), (7, vi a7)] 140 [vi nB]
          refine g_widen (k' := 1) (n' := 6) (by decide) (by decide) ?_
          refine g_outX C hR (fun x' C hR => ?_)
          exact g_iret C hR dX9_bond_140 ⟨rfl, rfl, (by omega)⟩ rfl
        exact g_throw C hR t_95 t_95k t_95i (List.mem_of_getElem? (i := 21) rfl) dX9_bond_112 dX9_bond_115 dX9_bond_116 dX9_bond_118 dX9_bond_121 ⟨by decide, Nat.le_of_ble_eq_true rfl, by decide, by decide, by decide, by decide⟩ ⟨rfl, Or.inr (⟨rfl, (by omega)⟩)⟩ rfl
      exact g_throw C hR t_84 t_84k t_84i (List.mem_of_getElem? (i := 8) rfl) dX9_bond_83 dX9_bond_86 dX9_bond_87 dX9_bond_89 dX9_bond_92 ⟨by decide, Nat.le_of_ble_eq_true rfl, by decide, by decide, by decide, by decide⟩ ⟨rfl, Or.inl ⟨rfl, (by omega)⟩⟩ rfl
    refine g_iconst C dX9_bond_56 ?_
    refine g_goto C 61 dX9_bond_57 (by decide) ?_
    refine g_istore C [(9, vi 1), (8, vi 0), (0, .ref zo), (1, vi a1), (2, vi a2), (3, vi a3), (4, vi a4), (5, vi a5), (6, vi a6), (7, vi a7)] dX9_bond_61 (by decide) rfl ?_
    refine g_iload_n C 3 dX9_bond_63 rfl ?_
    refine g_iconst C dX9_bond_64 ?_
    refine g_ldc C (999999) n_X9_149 (by decide) dX9_bond_65 ?_
    refine g_callSp C [vi a1, vi 1, vi 999999] [] (c_X9_isIn x.1.2.1 g a1 1 999999 ha1 (by omega) (by omega)) y_X9_isIn l_X9_80 [] rfl (by decide) rfl (Nat.le_of_ble_eq_true rfl) rfl (by decide) dX9_bond_67 ?_
    refine g_if_eq C 83 dX9_bond_70 (by decide) (by omega) (fun c70 => ?_) (fun c70 => ?_)
    · exact g_throw C hR t_84 t_84k t_84i (List.mem_of_getElem? (i := 8) rfl) dX9_bond_83 dX9_bond_86 dX9_bond_87 dX9_bond_89 dX9_bond_92 ⟨by decide, Nat.le_of_ble_eq_true rfl, by decide, by decide, by decide, by decide⟩ ⟨rfl, Or.inl ⟨rfl, (by omega)⟩⟩ rfl
    refine g_iload C 1 dX9_bond_73 rfl ?_
    refine g_if_eq C 83 dX9_bond_75 (by decide) (by omega) (fun c75 => ?_) (fun c75 => ?_)
    · exact g_throw C hR t_84 t_84k t_84i (List.mem_of_getElem? (i := 8) rfl) dX9_bond_83 dX9_bond_86 dX9_bond_87 dX9_bond_89 dX9_bond_92 ⟨by decide, Nat.le_of_ble_eq_true rfl, by decide, by decide, by decide, by decide⟩ ⟨rfl, Or.inl ⟨rfl, (by omega)⟩⟩ rfl
    refine g_iload C 0 dX9_bond_78 rfl ?_
    refine g_if_ne C 93 dX9_bond_80 (by decide) (by omega) (fun c80 => ?_) (fun c80 => ?_)
    · refine g_aload_n C 2 dX9_bond_93 rfl ?_
      refine g_getf C k_X9 7 f_X9_61 0 rfl rfl (by decide) rfl rfl dX9_bond_94 ?_
      refine g_callVp C [] [] (c_X1_isFull x.1.2.1 g bo bp bq bx bf bl bt bc be nB hnB) y_X1_isFull l_X9_211 [1] rfl (by decide) 1 rfl rfl rfl (Nat.le_of_ble_eq_true rfl) rfl (by decide) dX9_bond_97 ?_
      refine g_if_ne C 112 dX9_bond_100 (by decide) (by omega) (fun c100 => ?_) (fun c100 => ?_)
      · exact g_throw C hR t_95 t_95k t_95i (List.mem_of_getElem? (i := 21) rfl) dX9_bond_112 dX9_bond_115 dX9_bond_116 dX9_bond_118 dX9_bond_121 ⟨by decide, Nat.le_of_ble_eq_true rfl, by decide, by decide, by decide, by decide⟩ ⟨rfl, Or.inr (⟨rfl, (by omega)⟩)⟩ rfl
      refine g_iload C 7 dX9_bond_103 rfl ?_
      refine g_aload_n C 2 dX9_bond_105 rfl ?_
      refine g_getf C k_X9 9 f_X9_212 0 rfl rfl (by decide) rfl rfl dX9_bond_106 ?_
      refine g_icmp_ge C 122 dX9_bond_109 (by decide) (by omega) (by omega) (fun c109 => ?_) (fun c109 => ?_)
      · refine g_aload_n C 2 dX9_bond_122 rfl ?_
        refine g_getf C k_X9 7 f_X9_61 0 rfl rfl (by decide) rfl rfl dX9_bond_123 ?_
        refine g_iload_n C 3 dX9_bond_126 rfl ?_
        refine g_iload_n C 4 dX9_bond_127 rfl ?_
        refine g_iload_n C 5 dX9_bond_128 rfl ?_
        refine g_iload C 6 dX9_bond_129 rfl ?_
        refine g_iload C 7 dX9_bond_131 rfl ?_
        refine g_iload C 8 dX9_bond_133 rfl ?_
        refine g_iload C 9 dX9_bond_135 rfl ?_
        refine g_callV C [vi a1, vi a2, vi a3, vi a4, vi a5, vi a6, vi a7] [] (c_X1_add x.1.2.1 g bo bp bq bx bf bl bt bc be BP BQ BX BF BL BT BC BE nB a1 a2 a3 a4 a5 a6 a7 (by omega)) y_X1_add l_X9_218 [1, 2, 3, 4, 5, 6, 7, 8, 9] rfl (by decide) 1 rfl rfl rfl (Nat.le_of_ble_eq_true rfl) rfl (by decide) dX9_bond_137 (fun v9 w9 hp9 => ?_)
        obtain ⟨rfl, rfl⟩ := hp9
        simp only [putAll, List.set_cons_succ, List.set_cons_zero, List.cons_append, List.nil_append, List.append_nil, Option.toList]
        show gW g x [(zo, cO 9 [.ref lo, .ref wo, .ref to, .ref so, .ref ro, .ref vo, .ref eo, .ref bo, .ref mo, vi tn]), (bo, cO 1 [.ref bp, .ref bq, .ref bx, .ref bf, .ref bl, .ref bt, .ref bc, .ref be, vi (nB + 1)]), (bp, cA g 5 (up BP nB a1)), (bq, cA g 5 (up BQ nB a2)), (bx, cA g 5 (up BX nB a3)), (bf, cA g 5 (up BF nB a4)), (bl, cA g 5 (up BL nB a5)), (bt, cA g 5 (up BT nB a6)), (bc, cA g 5 (up BC nB a7)), (be, cA g 5 (up BE nB a5))] 0 0 [(9, vi 1), (8, vi 0), (0, .ref zo), (1, vi a1), (2, vi a2), (3, vi a3), (4, vi a4), (5, vi a5), (6, vi a6), (7, vi a7)] 140 [vi nB]
        refine g_widen (k' := 1) (n' := 6) (by decide) (by decide) ?_
        refine g_outX C hR (fun x' C hR => ?_)
        exact g_iret C hR dX9_bond_140 ⟨rfl, rfl, (by omega)⟩ rfl
      exact g_throw C hR t_95 t_95k t_95i (List.mem_of_getElem? (i := 21) rfl) dX9_bond_112 dX9_bond_115 dX9_bond_116 dX9_bond_118 dX9_bond_121 ⟨by decide, Nat.le_of_ble_eq_true rfl, by decide, by decide, by decide, by decide⟩ ⟨rfl, Or.inr (⟨rfl, (by omega)⟩)⟩ rfl
    exact g_throw C hR t_84 t_84k t_84i (List.mem_of_getElem? (i := 8) rfl) dX9_bond_83 dX9_bond_86 dX9_bond_87 dX9_bond_89 dX9_bond_92 ⟨by decide, Nat.le_of_ble_eq_true rfl, by decide, by decide, by decide, by decide⟩ ⟨rfl, Or.inl ⟨rfl, (by omega)⟩⟩ rfl
  refine g_iload C 4 dX9_bond_17 rfl ?_
  refine g_iload C 5 dX9_bond_19 rfl ?_
  refine g_callSp C [vi a4, vi a5] [] (c_X9_isSpan x.1.2.1 g a4 a5 ha4 ha5) y_X9_isSpan l_X9_118 [] rfl (by decide) rfl (Nat.le_of_ble_eq_true rfl) rfl (by decide) dX9_bond_21 ?_
  refine g_if_eq C 31 dX9_bond_24 (by decide) (by omega) (fun c24 => ?_) (fun c24 => ?_)
  · refine g_iconst C dX9_bond_31 ?_
    refine g_istore C [(8, vi 0), (0, .ref zo), (1, vi a1), (2, vi a2), (3, vi a3), (4, vi a4), (5, vi a5), (6, vi a6), (7, vi a7)] dX9_bond_32 (by decide) rfl ?_
    refine g_iload C 7 dX9_bond_34 rfl ?_
    refine g_iconst C dX9_bond_36 ?_
    refine g_bipush C dX9_bond_37 (by decide) ?_
    refine g_callSp C [vi a6, vi 1, vi 9] [] (c_X9_isIn x.1.2.1 g a6 1 9 ha6 (by omega) (by omega)) y_X9_isIn l_X9_80 [] rfl (by decide) rfl (Nat.le_of_ble_eq_true rfl) rfl (by decide) dX9_bond_39 ?_
    refine g_if_eq C 60 dX9_bond_42 (by decide) (by omega) (fun c42 => ?_) (fun c42 => ?_)
    · refine g_iconst C dX9_bond_60 ?_
      refine g_istore C [(9, vi 0), (8, vi 0), (0, .ref zo), (1, vi a1), (2, vi a2), (3, vi a3), (4, vi a4), (5, vi a5), (6, vi a6), (7, vi a7)] dX9_bond_61 (by decide) rfl ?_
      refine g_iload_n C 3 dX9_bond_63 rfl ?_
      refine g_iconst C dX9_bond_64 ?_
      refine g_ldc C (999999) n_X9_149 (by decide) dX9_bond_65 ?_
      refine g_callSp C [vi a1, vi 1, vi 999999] [] (c_X9_isIn x.1.2.1 g a1 1 999999 ha1 (by omega) (by omega)) y_X9_isIn l_X9_80 [] rfl (by decide) rfl (Nat.le_of_ble_eq_true rfl) rfl (by decide) dX9_bond_67 ?_
      refine g_if_eq C 83 dX9_bond_70 (by decide) (by omega) (fun c70 => ?_) (fun c70 => ?_)
      · exact g_throw C hR t_84 t_84k t_84i (List.mem_of_getElem? (i := 8) rfl) dX9_bond_83 dX9_bond_86 dX9_bond_87 dX9_bond_89 dX9_bond_92 ⟨by decide, Nat.le_of_ble_eq_true rfl, by decide, by decide, by decide, by decide⟩ ⟨rfl, Or.inl ⟨rfl, (by omega)⟩⟩ rfl
      refine g_iload C 1 dX9_bond_73 rfl ?_
      refine g_if_eq C 83 dX9_bond_75 (by decide) (by omega) (fun c75 => ?_) (fun c75 => ?_)
      · exact g_throw C hR t_84 t_84k t_84i (List.mem_of_getElem? (i := 8) rfl) dX9_bond_83 dX9_bond_86 dX9_bond_87 dX9_bond_89 dX9_bond_92 ⟨by decide, Nat.le_of_ble_eq_true rfl, by decide, by decide, by decide, by decide⟩ ⟨rfl, Or.inl ⟨rfl, (by omega)⟩⟩ rfl
      refine g_iload C 0 dX9_bond_78 rfl ?_
      refine g_if_ne C 93 dX9_bond_80 (by decide) (by omega) (fun c80 => ?_) (fun c80 => ?_)
      · refine g_aload_n C 2 dX9_bond_93 rfl ?_
        refine g_getf C k_X9 7 f_X9_61 0 rfl rfl (by decide) rfl rfl dX9_bond_94 ?_
        refine g_callVp C [] [] (c_X1_isFull x.1.2.1 g bo bp bq bx bf bl bt bc be nB hnB) y_X1_isFull l_X9_211 [1] rfl (by decide) 1 rfl rfl rfl (Nat.le_of_ble_eq_true rfl) rfl (by decide) dX9_bond_97 ?_
        refine g_if_ne C 112 dX9_bond_100 (by decide) (by omega) (fun c100 => ?_) (fun c100 => ?_)
        · exact g_throw C hR t_95 t_95k t_95i (List.mem_of_getElem? (i := 21) rfl) dX9_bond_112 dX9_bond_115 dX9_bond_116 dX9_bond_118 dX9_bond_121 ⟨by decide, Nat.le_of_ble_eq_true rfl, by decide, by decide, by decide, by decide⟩ ⟨rfl, Or.inr (⟨rfl, (by omega)⟩)⟩ rfl
        refine g_iload C 7 dX9_bond_103 rfl ?_
        refine g_aload_n C 2 dX9_bond_105 rfl ?_
        refine g_getf C k_X9 9 f_X9_212 0 rfl rfl (by decide) rfl rfl dX9_bond_106 ?_
        refine g_icmp_ge C 122 dX9_bond_109 (by decide) (by omega) (by omega) (fun c109 => ?_) (fun c109 => ?_)
        · refine g_aload_n C 2 dX9_bond_122 rfl ?_
          refine g_getf C k_X9 7 f_X9_61 0 rfl rfl (by decide) rfl rfl dX9_bond_123 ?_
          refine g_iload_n C 3 dX9_bond_126 rfl ?_
          refine g_iload_n C 4 dX9_bond_127 rfl ?_
          refine g_iload_n C 5 dX9_bond_128 rfl ?_
          refine g_iload C 6 dX9_bond_129 rfl ?_
          refine g_iload C 7 dX9_bond_131 rfl ?_
          refine g_iload C 8 dX9_bond_133 rfl ?_
          refine g_iload C 9 dX9_bond_135 rfl ?_
          refine g_callV C [vi a1, vi a2, vi a3, vi a4, vi a5, vi a6, vi a7] [] (c_X1_add x.1.2.1 g bo bp bq bx bf bl bt bc be BP BQ BX BF BL BT BC BE nB a1 a2 a3 a4 a5 a6 a7 (by omega)) y_X1_add l_X9_218 [1, 2, 3, 4, 5, 6, 7, 8, 9] rfl (by decide) 1 rfl rfl rfl (Nat.le_of_ble_eq_true rfl) rfl (by decide) dX9_bond_137 (fun v9 w9 hp9 => ?_)
          obtain ⟨rfl, rfl⟩ := hp9
          simp only [putAll, List.set_cons_succ, List.set_cons_zero, List.cons_append, List.nil_append, List.append_nil, Option.toList]
          show gW g x [(zo, cO 9 [.ref lo, .ref wo, .ref to, .ref so, .ref ro, .ref vo, .ref eo, .ref bo, .ref mo, vi tn]), (bo, cO 1 [.ref bp, .ref bq, .ref bx, .ref bf, .ref bl, .ref bt, .ref bc, .ref be, vi (nB + 1)]), (bp, cA g 5 (up BP nB a1)), (bq, cA g 5 (up BQ nB a2)), (bx, cA g 5 (up BX nB a3)), (bf, cA g 5 (up BF nB a4)), (bl, cA g 5 (up BL nB a5)), (bt, cA g 5 (up BT nB a6)), (bc, cA g 5 (up BC nB a7)), (be, cA g 5 (up BE nB a5))] 0 0 [(9, vi 0), (8, vi 0), (0, .ref zo), (1, vi a1), (2, vi a2), (3, vi a3), (4, vi a4), (5, vi a5), (6, vi a6), (7, vi a7)] 140 [vi nB]
          refine g_widen (k' := 1) (n' := 6) (by decide) (by decide) ?_
          refine g_outX C hR (fun x' C hR => ?_)
          exact g_iret C hR dX9_bond_140 ⟨rfl, rfl, (by omega)⟩ rfl
        exact g_throw C hR t_95 t_95k t_95i (List.mem_of_getElem? (i := 21) rfl) dX9_bond_112 dX9_bond_115 dX9_bond_116 dX9_bond_118 dX9_bond_121 ⟨by decide, Nat.le_of_ble_eq_true rfl, by decide, by decide, by decide, by decide⟩ ⟨rfl, Or.inr (⟨rfl, (by omega)⟩)⟩ rfl
      exact g_throw C hR t_84 t_84k t_84i (List.mem_of_getElem? (i := 8) rfl) dX9_bond_83 dX9_bond_86 dX9_bond_87 dX9_bond_89 dX9_bond_92 ⟨by decide, Nat.le_of_ble_eq_true rfl, by decide, by decide, by decide, by decide⟩ ⟨rfl, Or.inl ⟨rfl, (by omega)⟩⟩ rfl
    refine g_iload C 8 dX9_bond_45 rfl ?_
    refine g_iconst C dX9_bond_47 ?_
    refine g_bipush C dX9_bond_48 (by decide) ?_
    refine g_callSp C [vi a7, vi 1, vi 100] [] (c_X9_isIn x.1.2.1 g a7 1 100 ha7 (by omega) (by omega)) y_X9_isIn l_X9_80 [] rfl (by decide) rfl (Nat.le_of_ble_eq_true rfl) rfl (by decide) dX9_bond_50 ?_
    refine g_if_eq C 60 dX9_bond_53 (by decide) (by omega) (fun c53 => ?_) (fun c53 => ?_)
    · refine g_iconst C dX9_bond_60 ?_
      refine g_istore C [(9, vi 0), (8, vi 0), (0, .ref zo), (1, vi a1), (2, vi a2), (3, vi a3), (4, vi a4), (5, vi a5), (6, vi a6), (7, vi a7)] dX9_bond_61 (by decide) rfl ?_
      refine g_iload_n C 3 dX9_bond_63 rfl ?_
      refine g_iconst C dX9_bond_64 ?_
      refine g_ldc C (999999) n_X9_149 (by decide) dX9_bond_65 ?_
      refine g_callSp C [vi a1, vi 1, vi 999999] [] (c_X9_isIn x.1.2.1 g a1 1 999999 ha1 (by omega) (by omega)) y_X9_isIn l_X9_80 [] rfl (by decide) rfl (Nat.le_of_ble_eq_true rfl) rfl (by decide) dX9_bond_67 ?_
      refine g_if_eq C 83 dX9_bond_70 (by decide) (by omega) (fun c70 => ?_) (fun c70 => ?_)
      · exact g_throw C hR t_84 t_84k t_84i (List.mem_of_getElem? (i := 8) rfl) dX9_bond_83 dX9_bond_86 dX9_bond_87 dX9_bond_89 dX9_bond_92 ⟨by decide, Nat.le_of_ble_eq_true rfl, by decide, by decide, by decide, by decide⟩ ⟨rfl, Or.inl ⟨rfl, (by omega)⟩⟩ rfl
      refine g_iload C 1 dX9_bond_73 rfl ?_
      refine g_if_eq C 83 dX9_bond_75 (by decide) (by omega) (fun c75 => ?_) (fun c75 => ?_)
      · exact g_throw C hR t_84 t_84k t_84i (List.mem_of_getElem? (i := 8) rfl) dX9_bond_83 dX9_bond_86 dX9_bond_87 dX9_bond_89 dX9_bond_92 ⟨by decide, Nat.le_of_ble_eq_true rfl, by decide, by decide, by decide, by decide⟩ ⟨rfl, Or.inl ⟨rfl, (by omega)⟩⟩ rfl
      refine g_iload C 0 dX9_bond_78 rfl ?_
      refine g_if_ne C 93 dX9_bond_80 (by decide) (by omega) (fun c80 => ?_) (fun c80 => ?_)
      · refine g_aload_n C 2 dX9_bond_93 rfl ?_
        refine g_getf C k_X9 7 f_X9_61 0 rfl rfl (by decide) rfl rfl dX9_bond_94 ?_
        refine g_callVp C [] [] (c_X1_isFull x.1.2.1 g bo bp bq bx bf bl bt bc be nB hnB) y_X1_isFull l_X9_211 [1] rfl (by decide) 1 rfl rfl rfl (Nat.le_of_ble_eq_true rfl) rfl (by decide) dX9_bond_97 ?_
        refine g_if_ne C 112 dX9_bond_100 (by decide) (by omega) (fun c100 => ?_) (fun c100 => ?_)
        · exact g_throw C hR t_95 t_95k t_95i (List.mem_of_getElem? (i := 21) rfl) dX9_bond_112 dX9_bond_115 dX9_bond_116 dX9_bond_118 dX9_bond_121 ⟨by decide, Nat.le_of_ble_eq_true rfl, by decide, by decide, by decide, by decide⟩ ⟨rfl, Or.inr (⟨rfl, (by omega)⟩)⟩ rfl
        refine g_iload C 7 dX9_bond_103 rfl ?_
        refine g_aload_n C 2 dX9_bond_105 rfl ?_
        refine g_getf C k_X9 9 f_X9_212 0 rfl rfl (by decide) rfl rfl dX9_bond_106 ?_
        refine g_icmp_ge C 122 dX9_bond_109 (by decide) (by omega) (by omega) (fun c109 => ?_) (fun c109 => ?_)
        · refine g_aload_n C 2 dX9_bond_122 rfl ?_
          refine g_getf C k_X9 7 f_X9_61 0 rfl rfl (by decide) rfl rfl dX9_bond_123 ?_
          refine g_iload_n C 3 dX9_bond_126 rfl ?_
          refine g_iload_n C 4 dX9_bond_127 rfl ?_
          refine g_iload_n C 5 dX9_bond_128 rfl ?_
          refine g_iload C 6 dX9_bond_129 rfl ?_
          refine g_iload C 7 dX9_bond_131 rfl ?_
          refine g_iload C 8 dX9_bond_133 rfl ?_
          refine g_iload C 9 dX9_bond_135 rfl ?_
          refine g_callV C [vi a1, vi a2, vi a3, vi a4, vi a5, vi a6, vi a7] [] (c_X1_add x.1.2.1 g bo bp bq bx bf bl bt bc be BP BQ BX BF BL BT BC BE nB a1 a2 a3 a4 a5 a6 a7 (by omega)) y_X1_add l_X9_218 [1, 2, 3, 4, 5, 6, 7, 8, 9] rfl (by decide) 1 rfl rfl rfl (Nat.le_of_ble_eq_true rfl) rfl (by decide) dX9_bond_137 (fun v9 w9 hp9 => ?_)
          obtain ⟨rfl, rfl⟩ := hp9
          simp only [putAll, List.set_cons_succ, List.set_cons_zero, List.cons_append, List.nil_append, List.append_nil, Option.toList]
          show gW g x [(zo, cO 9 [.ref lo, .ref wo, .ref to, .ref so, .ref ro, .ref vo, .ref eo, .ref bo, .ref mo, vi tn]), (bo, cO 1 [.ref bp, .ref bq, .ref bx, .ref bf, .ref bl, .ref bt, .ref bc, .ref be, vi (nB + 1)]), (bp, cA g 5 (up BP nB a1)), (bq, cA g 5 (up BQ nB a2)), (bx, cA g 5 (up BX nB a3)), (bf, cA g 5 (up BF nB a4)), (bl, cA g 5 (up BL nB a5)), (bt, cA g 5 (up BT nB a6)), (bc, cA g 5 (up BC nB a7)), (be, cA g 5 (up BE nB a5))] 0 0 [(9, vi 0), (8, vi 0), (0, .ref zo), (1, vi a1), (2, vi a2), (3, vi a3), (4, vi a4), (5, vi a5), (6, vi a6), (7, vi a7)] 140 [vi nB]
          refine g_widen (k' := 1) (n' := 6) (by decide) (by decide) ?_
          refine g_outX C hR (fun x' C hR => ?_)
          exact g_iret C hR dX9_bond_140 ⟨rfl, rfl, (by omega)⟩ rfl
        exact g_throw C hR t_95 t_95k t_95i (List.mem_of_getElem? (i := 21) rfl) dX9_bond_112 dX9_bond_115 dX9_bond_116 dX9_bond_118 dX9_bond_121 ⟨by decide, Nat.le_of_ble_eq_true rfl, by decide, by decide, by decide, by decide⟩ ⟨rfl, Or.inr (⟨rfl, (by omega)⟩)⟩ rfl
      exact g_throw C hR t_84 t_84k t_84i (List.mem_of_getElem? (i := 8) rfl) dX9_bond_83 dX9_bond_86 dX9_bond_87 dX9_bond_89 dX9_bond_92 ⟨by decide, Nat.le_of_ble_eq_true rfl, by decide, by decide, by decide, by decide⟩ ⟨rfl, Or.inl ⟨rfl, (by omega)⟩⟩ rfl
    refine g_iconst C dX9_bond_56 ?_
    refine g_goto C 61 dX9_bond_57 (by decide) ?_
    refine g_istore C [(9, vi 1), (8, vi 0), (0, .ref zo), (1, vi a1), (2, vi a2), (3, vi a3), (4, vi a4), (5, vi a5), (6, vi a6), (7, vi a7)] dX9_bond_61 (by decide) rfl ?_
    refine g_iload_n C 3 dX9_bond_63 rfl ?_
    refine g_iconst C dX9_bond_64 ?_
    refine g_ldc C (999999) n_X9_149 (by decide) dX9_bond_65 ?_
    refine g_callSp C [vi a1, vi 1, vi 999999] [] (c_X9_isIn x.1.2.1 g a1 1 999999 ha1 (by omega) (by omega)) y_X9_isIn l_X9_80 [] rfl (by decide) rfl (Nat.le_of_ble_eq_true rfl) rfl (by decide) dX9_bond_67 ?_
    refine g_if_eq C 83 dX9_bond_70 (by decide) (by omega) (fun c70 => ?_) (fun c70 => ?_)
    · exact g_throw C hR t_84 t_84k t_84i (List.mem_of_getElem? (i := 8) rfl) dX9_bond_83 dX9_bond_86 dX9_bond_87 dX9_bond_89 dX9_bond_92 ⟨by decide, Nat.le_of_ble_eq_true rfl, by decide, by decide, by decide, by decide⟩ ⟨rfl, Or.inl ⟨rfl, (by omega)⟩⟩ rfl
    refine g_iload C 1 dX9_bond_73 rfl ?_
    refine g_if_eq C 83 dX9_bond_75 (by decide) (by omega) (fun c75 => ?_) (fun c75 => ?_)
    · exact g_throw C hR t_84 t_84k t_84i (List.mem_of_getElem? (i := 8) rfl) dX9_bond_83 dX9_bond_86 dX9_bond_87 dX9_bond_89 dX9_bond_92 ⟨by decide, Nat.le_of_ble_eq_true rfl, by decide, by decide, by decide, by decide⟩ ⟨rfl, Or.inl ⟨rfl, (by omega)⟩⟩ rfl
    refine g_iload C 0 dX9_bond_78 rfl ?_
    refine g_if_ne C 93 dX9_bond_80 (by decide) (by omega) (fun c80 => ?_) (fun c80 => ?_)
    · refine g_aload_n C 2 dX9_bond_93 rfl ?_
      refine g_getf C k_X9 7 f_X9_61 0 rfl rfl (by decide) rfl rfl dX9_bond_94 ?_
      refine g_callVp C [] [] (c_X1_isFull x.1.2.1 g bo bp bq bx bf bl bt bc be nB hnB) y_X1_isFull l_X9_211 [1] rfl (by decide) 1 rfl rfl rfl (Nat.le_of_ble_eq_true rfl) rfl (by decide) dX9_bond_97 ?_
      refine g_if_ne C 112 dX9_bond_100 (by decide) (by omega) (fun c100 => ?_) (fun c100 => ?_)
      · exact g_throw C hR t_95 t_95k t_95i (List.mem_of_getElem? (i := 21) rfl) dX9_bond_112 dX9_bond_115 dX9_bond_116 dX9_bond_118 dX9_bond_121 ⟨by decide, Nat.le_of_ble_eq_true rfl, by decide, by decide, by decide, by decide⟩ ⟨rfl, Or.inr (⟨rfl, (by omega)⟩)⟩ rfl
      refine g_iload C 7 dX9_bond_103 rfl ?_
      refine g_aload_n C 2 dX9_bond_105 rfl ?_
      refine g_getf C k_X9 9 f_X9_212 0 rfl rfl (by decide) rfl rfl dX9_bond_106 ?_
      refine g_icmp_ge C 122 dX9_bond_109 (by decide) (by omega) (by omega) (fun c109 => ?_) (fun c109 => ?_)
      · refine g_aload_n C 2 dX9_bond_122 rfl ?_
        refine g_getf C k_X9 7 f_X9_61 0 rfl rfl (by decide) rfl rfl dX9_bond_123 ?_
        refine g_iload_n C 3 dX9_bond_126 rfl ?_
        refine g_iload_n C 4 dX9_bond_127 rfl ?_
        refine g_iload_n C 5 dX9_bond_128 rfl ?_
        refine g_iload C 6 dX9_bond_129 rfl ?_
        refine g_iload C 7 dX9_bond_131 rfl ?_
        refine g_iload C 8 dX9_bond_133 rfl ?_
        refine g_iload C 9 dX9_bond_135 rfl ?_
        refine g_callV C [vi a1, vi a2, vi a3, vi a4, vi a5, vi a6, vi a7] [] (c_X1_add x.1.2.1 g bo bp bq bx bf bl bt bc be BP BQ BX BF BL BT BC BE nB a1 a2 a3 a4 a5 a6 a7 (by omega)) y_X1_add l_X9_218 [1, 2, 3, 4, 5, 6, 7, 8, 9] rfl (by decide) 1 rfl rfl rfl (Nat.le_of_ble_eq_true rfl) rfl (by decide) dX9_bond_137 (fun v9 w9 hp9 => ?_)
        obtain ⟨rfl, rfl⟩ := hp9
        simp only [putAll, List.set_cons_succ, List.set_cons_zero, List.cons_append, List.nil_append, List.append_nil, Option.toList]
        show gW g x [(zo, cO 9 [.ref lo, .ref wo, .ref to, .ref so, .ref ro, .ref vo, .ref eo, .ref bo, .ref mo, vi tn]), (bo, cO 1 [.ref bp, .ref bq, .ref bx, .ref bf, .ref bl, .ref bt, .ref bc, .ref be, vi (nB + 1)]), (bp, cA g 5 (up BP nB a1)), (bq, cA g 5 (up BQ nB a2)), (bx, cA g 5 (up BX nB a3)), (bf, cA g 5 (up BF nB a4)), (bl, cA g 5 (up BL nB a5)), (bt, cA g 5 (up BT nB a6)), (bc, cA g 5 (up BC nB a7)), (be, cA g 5 (up BE nB a5))] 0 0 [(9, vi 1), (8, vi 0), (0, .ref zo), (1, vi a1), (2, vi a2), (3, vi a3), (4, vi a4), (5, vi a5), (6, vi a6), (7, vi a7)] 140 [vi nB]
        refine g_widen (k' := 1) (n' := 6) (by decide) (by decide) ?_
        refine g_outX C hR (fun x' C hR => ?_)
        exact g_iret C hR dX9_bond_140 ⟨rfl, rfl, (by omega)⟩ rfl
      exact g_throw C hR t_95 t_95k t_95i (List.mem_of_getElem? (i := 21) rfl) dX9_bond_112 dX9_bond_115 dX9_bond_116 dX9_bond_118 dX9_bond_121 ⟨by decide, Nat.le_of_ble_eq_true rfl, by decide, by decide, by decide, by decide⟩ ⟨rfl, Or.inr (⟨rfl, (by omega)⟩)⟩ rfl
    exact g_throw C hR t_84 t_84k t_84i (List.mem_of_getElem? (i := 8) rfl) dX9_bond_83 dX9_bond_86 dX9_bond_87 dX9_bond_89 dX9_bond_92 ⟨by decide, Nat.le_of_ble_eq_true rfl, by decide, by decide, by decide, by decide⟩ ⟨rfl, Or.inl ⟨rfl, (by omega)⟩⟩ rfl
  refine g_iconst C dX9_bond_27 ?_
  refine g_goto C 32 dX9_bond_28 (by decide) ?_
  refine g_istore C [(8, vi 1), (0, .ref zo), (1, vi a1), (2, vi a2), (3, vi a3), (4, vi a4), (5, vi a5), (6, vi a6), (7, vi a7)] dX9_bond_32 (by decide) rfl ?_
  refine g_iload C 7 dX9_bond_34 rfl ?_
  refine g_iconst C dX9_bond_36 ?_
  refine g_bipush C dX9_bond_37 (by decide) ?_
  refine g_callSp C [vi a6, vi 1, vi 9] [] (c_X9_isIn x.1.2.1 g a6 1 9 ha6 (by omega) (by omega)) y_X9_isIn l_X9_80 [] rfl (by decide) rfl (Nat.le_of_ble_eq_true rfl) rfl (by decide) dX9_bond_39 ?_
  refine g_if_eq C 60 dX9_bond_42 (by decide) (by omega) (fun c42 => ?_) (fun c42 => ?_)
  · refine g_iconst C dX9_bond_60 ?_
    refine g_istore C [(9, vi 0), (8, vi 1), (0, .ref zo), (1, vi a1), (2, vi a2), (3, vi a3), (4, vi a4), (5, vi a5), (6, vi a6), (7, vi a7)] dX9_bond_61 (by decide) rfl ?_
    refine g_iload_n C 3 dX9_bond_63 rfl ?_
    refine g_iconst C dX9_bond_64 ?_
    refine g_ldc C (999999) n_X9_149 (by decide) dX9_bond_65 ?_
    refine g_callSp C [vi a1, vi 1, vi 999999] [] (c_X9_isIn x.1.2.1 g a1 1 999999 ha1 (by omega) (by omega)) y_X9_isIn l_X9_80 [] rfl (by decide) rfl (Nat.le_of_ble_eq_true rfl) rfl (by decide) dX9_bond_67 ?_
    refine g_if_eq C 83 dX9_bond_70 (by decide) (by omega) (fun c70 => ?_) (fun c70 => ?_)
    · exact g_throw C hR t_84 t_84k t_84i (List.mem_of_getElem? (i := 8) rfl) dX9_bond_83 dX9_bond_86 dX9_bond_87 dX9_bond_89 dX9_bond_92 ⟨by decide, Nat.le_of_ble_eq_true rfl, by decide, by decide, by decide, by decide⟩ ⟨rfl, Or.inl ⟨rfl, (by omega)⟩⟩ rfl
    refine g_iload C 1 dX9_bond_73 rfl ?_
    refine g_if_eq C 83 dX9_bond_75 (by decide) (by omega) (fun c75 => ?_) (fun c75 => ?_)
    · exact g_throw C hR t_84 t_84k t_84i (List.mem_of_getElem? (i := 8) rfl) dX9_bond_83 dX9_bond_86 dX9_bond_87 dX9_bond_89 dX9_bond_92 ⟨by decide, Nat.le_of_ble_eq_true rfl, by decide, by decide, by decide, by decide⟩ ⟨rfl, Or.inl ⟨rfl, (by omega)⟩⟩ rfl
    refine g_iload C 0 dX9_bond_78 rfl ?_
    refine g_if_ne C 93 dX9_bond_80 (by decide) (by omega) (fun c80 => ?_) (fun c80 => ?_)
    · refine g_aload_n C 2 dX9_bond_93 rfl ?_
      refine g_getf C k_X9 7 f_X9_61 0 rfl rfl (by decide) rfl rfl dX9_bond_94 ?_
      refine g_callVp C [] [] (c_X1_isFull x.1.2.1 g bo bp bq bx bf bl bt bc be nB hnB) y_X1_isFull l_X9_211 [1] rfl (by decide) 1 rfl rfl rfl (Nat.le_of_ble_eq_true rfl) rfl (by decide) dX9_bond_97 ?_
      refine g_if_ne C 112 dX9_bond_100 (by decide) (by omega) (fun c100 => ?_) (fun c100 => ?_)
      · exact g_throw C hR t_95 t_95k t_95i (List.mem_of_getElem? (i := 21) rfl) dX9_bond_112 dX9_bond_115 dX9_bond_116 dX9_bond_118 dX9_bond_121 ⟨by decide, Nat.le_of_ble_eq_true rfl, by decide, by decide, by decide, by decide⟩ ⟨rfl, Or.inr (⟨rfl, (by omega)⟩)⟩ rfl
      refine g_iload C 7 dX9_bond_103 rfl ?_
      refine g_aload_n C 2 dX9_bond_105 rfl ?_
      refine g_getf C k_X9 9 f_X9_212 0 rfl rfl (by decide) rfl rfl dX9_bond_106 ?_
      refine g_icmp_ge C 122 dX9_bond_109 (by decide) (by omega) (by omega) (fun c109 => ?_) (fun c109 => ?_)
      · refine g_aload_n C 2 dX9_bond_122 rfl ?_
        refine g_getf C k_X9 7 f_X9_61 0 rfl rfl (by decide) rfl rfl dX9_bond_123 ?_
        refine g_iload_n C 3 dX9_bond_126 rfl ?_
        refine g_iload_n C 4 dX9_bond_127 rfl ?_
        refine g_iload_n C 5 dX9_bond_128 rfl ?_
        refine g_iload C 6 dX9_bond_129 rfl ?_
        refine g_iload C 7 dX9_bond_131 rfl ?_
        refine g_iload C 8 dX9_bond_133 rfl ?_
        refine g_iload C 9 dX9_bond_135 rfl ?_
        refine g_callV C [vi a1, vi a2, vi a3, vi a4, vi a5, vi a6, vi a7] [] (c_X1_add x.1.2.1 g bo bp bq bx bf bl bt bc be BP BQ BX BF BL BT BC BE nB a1 a2 a3 a4 a5 a6 a7 (by omega)) y_X1_add l_X9_218 [1, 2, 3, 4, 5, 6, 7, 8, 9] rfl (by decide) 1 rfl rfl rfl (Nat.le_of_ble_eq_true rfl) rfl (by decide) dX9_bond_137 (fun v9 w9 hp9 => ?_)
        obtain ⟨rfl, rfl⟩ := hp9
        simp only [putAll, List.set_cons_succ, List.set_cons_zero, List.cons_append, List.nil_append, List.append_nil, Option.toList]
        show gW g x [(zo, cO 9 [.ref lo, .ref wo, .ref to, .ref so, .ref ro, .ref vo, .ref eo, .ref bo, .ref mo, vi tn]), (bo, cO 1 [.ref bp, .ref bq, .ref bx, .ref bf, .ref bl, .ref bt, .ref bc, .ref be, vi (nB + 1)]), (bp, cA g 5 (up BP nB a1)), (bq, cA g 5 (up BQ nB a2)), (bx, cA g 5 (up BX nB a3)), (bf, cA g 5 (up BF nB a4)), (bl, cA g 5 (up BL nB a5)), (bt, cA g 5 (up BT nB a6)), (bc, cA g 5 (up BC nB a7)), (be, cA g 5 (up BE nB a5))] 0 0 [(9, vi 0), (8, vi 1), (0, .ref zo), (1, vi a1), (2, vi a2), (3, vi a3), (4, vi a4), (5, vi a5), (6, vi a6), (7, vi a7)] 140 [vi nB]
        refine g_widen (k' := 1) (n' := 6) (by decide) (by decide) ?_
        refine g_outX C hR (fun x' C hR => ?_)
        exact g_iret C hR dX9_bond_140 ⟨rfl, rfl, (by omega)⟩ rfl
      exact g_throw C hR t_95 t_95k t_95i (List.mem_of_getElem? (i := 21) rfl) dX9_bond_112 dX9_bond_115 dX9_bond_116 dX9_bond_118 dX9_bond_121 ⟨by decide, Nat.le_of_ble_eq_true rfl, by decide, by decide, by decide, by decide⟩ ⟨rfl, Or.inr (⟨rfl, (by omega)⟩)⟩ rfl
    exact g_throw C hR t_84 t_84k t_84i (List.mem_of_getElem? (i := 8) rfl) dX9_bond_83 dX9_bond_86 dX9_bond_87 dX9_bond_89 dX9_bond_92 ⟨by decide, Nat.le_of_ble_eq_true rfl, by decide, by decide, by decide, by decide⟩ ⟨rfl, Or.inl ⟨rfl, (by omega)⟩⟩ rfl
  refine g_iload C 8 dX9_bond_45 rfl ?_
  refine g_iconst C dX9_bond_47 ?_
  refine g_bipush C dX9_bond_48 (by decide) ?_
  refine g_callSp C [vi a7, vi 1, vi 100] [] (c_X9_isIn x.1.2.1 g a7 1 100 ha7 (by omega) (by omega)) y_X9_isIn l_X9_80 [] rfl (by decide) rfl (Nat.le_of_ble_eq_true rfl) rfl (by decide) dX9_bond_50 ?_
  refine g_if_eq C 60 dX9_bond_53 (by decide) (by omega) (fun c53 => ?_) (fun c53 => ?_)
  · refine g_iconst C dX9_bond_60 ?_
    refine g_istore C [(9, vi 0), (8, vi 1), (0, .ref zo), (1, vi a1), (2, vi a2), (3, vi a3), (4, vi a4), (5, vi a5), (6, vi a6), (7, vi a7)] dX9_bond_61 (by decide) rfl ?_
    refine g_iload_n C 3 dX9_bond_63 rfl ?_
    refine g_iconst C dX9_bond_64 ?_
    refine g_ldc C (999999) n_X9_149 (by decide) dX9_bond_65 ?_
    refine g_callSp C [vi a1, vi 1, vi 999999] [] (c_X9_isIn x.1.2.1 g a1 1 999999 ha1 (by omega) (by omega)) y_X9_isIn l_X9_80 [] rfl (by decide) rfl (Nat.le_of_ble_eq_true rfl) rfl (by decide) dX9_bond_67 ?_
    refine g_if_eq C 83 dX9_bond_70 (by decide) (by omega) (fun c70 => ?_) (fun c70 => ?_)
    · exact g_throw C hR t_84 t_84k t_84i (List.mem_of_getElem? (i := 8) rfl) dX9_bond_83 dX9_bond_86 dX9_bond_87 dX9_bond_89 dX9_bond_92 ⟨by decide, Nat.le_of_ble_eq_true rfl, by decide, by decide, by decide, by decide⟩ ⟨rfl, Or.inl ⟨rfl, (by omega)⟩⟩ rfl
    refine g_iload C 1 dX9_bond_73 rfl ?_
    refine g_if_eq C 83 dX9_bond_75 (by decide) (by omega) (fun c75 => ?_) (fun c75 => ?_)
    · exact g_throw C hR t_84 t_84k t_84i (List.mem_of_getElem? (i := 8) rfl) dX9_bond_83 dX9_bond_86 dX9_bond_87 dX9_bond_89 dX9_bond_92 ⟨by decide, Nat.le_of_ble_eq_true rfl, by decide, by decide, by decide, by decide⟩ ⟨rfl, Or.inl ⟨rfl, (by omega)⟩⟩ rfl
    refine g_iload C 0 dX9_bond_78 rfl ?_
    refine g_if_ne C 93 dX9_bond_80 (by decide) (by omega) (fun c80 => ?_) (fun c80 => ?_)
    · refine g_aload_n C 2 dX9_bond_93 rfl ?_
      refine g_getf C k_X9 7 f_X9_61 0 rfl rfl (by decide) rfl rfl dX9_bond_94 ?_
      refine g_callVp C [] [] (c_X1_isFull x.1.2.1 g bo bp bq bx bf bl bt bc be nB hnB) y_X1_isFull l_X9_211 [1] rfl (by decide) 1 rfl rfl rfl (Nat.le_of_ble_eq_true rfl) rfl (by decide) dX9_bond_97 ?_
      refine g_if_ne C 112 dX9_bond_100 (by decide) (by omega) (fun c100 => ?_) (fun c100 => ?_)
      · exact g_throw C hR t_95 t_95k t_95i (List.mem_of_getElem? (i := 21) rfl) dX9_bond_112 dX9_bond_115 dX9_bond_116 dX9_bond_118 dX9_bond_121 ⟨by decide, Nat.le_of_ble_eq_true rfl, by decide, by decide, by decide, by decide⟩ ⟨rfl, Or.inr (⟨rfl, (by omega)⟩)⟩ rfl
      refine g_iload C 7 dX9_bond_103 rfl ?_
      refine g_aload_n C 2 dX9_bond_105 rfl ?_
      refine g_getf C k_X9 9 f_X9_212 0 rfl rfl (by decide) rfl rfl dX9_bond_106 ?_
      refine g_icmp_ge C 122 dX9_bond_109 (by decide) (by omega) (by omega) (fun c109 => ?_) (fun c109 => ?_)
      · refine g_aload_n C 2 dX9_bond_122 rfl ?_
        refine g_getf C k_X9 7 f_X9_61 0 rfl rfl (by decide) rfl rfl dX9_bond_123 ?_
        refine g_iload_n C 3 dX9_bond_126 rfl ?_
        refine g_iload_n C 4 dX9_bond_127 rfl ?_
        refine g_iload_n C 5 dX9_bond_128 rfl ?_
        refine g_iload C 6 dX9_bond_129 rfl ?_
        refine g_iload C 7 dX9_bond_131 rfl ?_
        refine g_iload C 8 dX9_bond_133 rfl ?_
        refine g_iload C 9 dX9_bond_135 rfl ?_
        refine g_callV C [vi a1, vi a2, vi a3, vi a4, vi a5, vi a6, vi a7] [] (c_X1_add x.1.2.1 g bo bp bq bx bf bl bt bc be BP BQ BX BF BL BT BC BE nB a1 a2 a3 a4 a5 a6 a7 (by omega)) y_X1_add l_X9_218 [1, 2, 3, 4, 5, 6, 7, 8, 9] rfl (by decide) 1 rfl rfl rfl (Nat.le_of_ble_eq_true rfl) rfl (by decide) dX9_bond_137 (fun v9 w9 hp9 => ?_)
        obtain ⟨rfl, rfl⟩ := hp9
        simp only [putAll, List.set_cons_succ, List.set_cons_zero, List.cons_append, List.nil_append, List.append_nil, Option.toList]
        show gW g x [(zo, cO 9 [.ref lo, .ref wo, .ref to, .ref so, .ref ro, .ref vo, .ref eo, .ref bo, .ref mo, vi tn]), (bo, cO 1 [.ref bp, .ref bq, .ref bx, .ref bf, .ref bl, .ref bt, .ref bc, .ref be, vi (nB + 1)]), (bp, cA g 5 (up BP nB a1)), (bq, cA g 5 (up BQ nB a2)), (bx, cA g 5 (up BX nB a3)), (bf, cA g 5 (up BF nB a4)), (bl, cA g 5 (up BL nB a5)), (bt, cA g 5 (up BT nB a6)), (bc, cA g 5 (up BC nB a7)), (be, cA g 5 (up BE nB a5))] 0 0 [(9, vi 0), (8, vi 1), (0, .ref zo), (1, vi a1), (2, vi a2), (3, vi a3), (4, vi a4), (5, vi a5), (6, vi a6), (7, vi a7)] 140 [vi nB]
        refine g_widen (k' := 1) (n' := 6) (by decide) (by decide) ?_
        refine g_outX C hR (fun x' C hR => ?_)
        exact g_iret C hR dX9_bond_140 ⟨rfl, rfl, (by omega)⟩ rfl
      exact g_throw C hR t_95 t_95k t_95i (List.mem_of_getElem? (i := 21) rfl) dX9_bond_112 dX9_bond_115 dX9_bond_116 dX9_bond_118 dX9_bond_121 ⟨by decide, Nat.le_of_ble_eq_true rfl, by decide, by decide, by decide, by decide⟩ ⟨rfl, Or.inr (⟨rfl, (by omega)⟩)⟩ rfl
    exact g_throw C hR t_84 t_84k t_84i (List.mem_of_getElem? (i := 8) rfl) dX9_bond_83 dX9_bond_86 dX9_bond_87 dX9_bond_89 dX9_bond_92 ⟨by decide, Nat.le_of_ble_eq_true rfl, by decide, by decide, by decide, by decide⟩ ⟨rfl, Or.inl ⟨rfl, (by omega)⟩⟩ rfl
  refine g_iconst C dX9_bond_56 ?_
  refine g_goto C 61 dX9_bond_57 (by decide) ?_
  refine g_istore C [(9, vi 1), (8, vi 1), (0, .ref zo), (1, vi a1), (2, vi a2), (3, vi a3), (4, vi a4), (5, vi a5), (6, vi a6), (7, vi a7)] dX9_bond_61 (by decide) rfl ?_
  refine g_iload_n C 3 dX9_bond_63 rfl ?_
  refine g_iconst C dX9_bond_64 ?_
  refine g_ldc C (999999) n_X9_149 (by decide) dX9_bond_65 ?_
  refine g_callSp C [vi a1, vi 1, vi 999999] [] (c_X9_isIn x.1.2.1 g a1 1 999999 ha1 (by omega) (by omega)) y_X9_isIn l_X9_80 [] rfl (by decide) rfl (Nat.le_of_ble_eq_true rfl) rfl (by decide) dX9_bond_67 ?_
  refine g_if_eq C 83 dX9_bond_70 (by decide) (by omega) (fun c70 => ?_) (fun c70 => ?_)
  · exact g_throw C hR t_84 t_84k t_84i (List.mem_of_getElem? (i := 8) rfl) dX9_bond_83 dX9_bond_86 dX9_bond_87 dX9_bond_89 dX9_bond_92 ⟨by decide, Nat.le_of_ble_eq_true rfl, by decide, by decide, by decide, by decide⟩ ⟨rfl, Or.inl ⟨rfl, (by omega)⟩⟩ rfl
  refine g_iload C 1 dX9_bond_73 rfl ?_
  refine g_if_eq C 83 dX9_bond_75 (by decide) (by omega) (fun c75 => ?_) (fun c75 => ?_)
  · exact g_throw C hR t_84 t_84k t_84i (List.mem_of_getElem? (i := 8) rfl) dX9_bond_83 dX9_bond_86 dX9_bond_87 dX9_bond_89 dX9_bond_92 ⟨by decide, Nat.le_of_ble_eq_true rfl, by decide, by decide, by decide, by decide⟩ ⟨rfl, Or.inl ⟨rfl, (by omega)⟩⟩ rfl
  refine g_iload C 0 dX9_bond_78 rfl ?_
  refine g_if_ne C 93 dX9_bond_80 (by decide) (by omega) (fun c80 => ?_) (fun c80 => ?_)
  · refine g_aload_n C 2 dX9_bond_93 rfl ?_
    refine g_getf C k_X9 7 f_X9_61 0 rfl rfl (by decide) rfl rfl dX9_bond_94 ?_
    refine g_callVp C [] [] (c_X1_isFull x.1.2.1 g bo bp bq bx bf bl bt bc be nB hnB) y_X1_isFull l_X9_211 [1] rfl (by decide) 1 rfl rfl rfl (Nat.le_of_ble_eq_true rfl) rfl (by decide) dX9_bond_97 ?_
    refine g_if_ne C 112 dX9_bond_100 (by decide) (by omega) (fun c100 => ?_) (fun c100 => ?_)
    · exact g_throw C hR t_95 t_95k t_95i (List.mem_of_getElem? (i := 21) rfl) dX9_bond_112 dX9_bond_115 dX9_bond_116 dX9_bond_118 dX9_bond_121 ⟨by decide, Nat.le_of_ble_eq_true rfl, by decide, by decide, by decide, by decide⟩ ⟨rfl, Or.inr (⟨rfl, (by omega)⟩)⟩ rfl
    refine g_iload C 7 dX9_bond_103 rfl ?_
    refine g_aload_n C 2 dX9_bond_105 rfl ?_
    refine g_getf C k_X9 9 f_X9_212 0 rfl rfl (by decide) rfl rfl dX9_bond_106 ?_
    refine g_icmp_ge C 122 dX9_bond_109 (by decide) (by omega) (by omega) (fun c109 => ?_) (fun c109 => ?_)
    · refine g_aload_n C 2 dX9_bond_122 rfl ?_
      refine g_getf C k_X9 7 f_X9_61 0 rfl rfl (by decide) rfl rfl dX9_bond_123 ?_
      refine g_iload_n C 3 dX9_bond_126 rfl ?_
      refine g_iload_n C 4 dX9_bond_127 rfl ?_
      refine g_iload_n C 5 dX9_bond_128 rfl ?_
      refine g_iload C 6 dX9_bond_129 rfl ?_
      refine g_iload C 7 dX9_bond_131 rfl ?_
      refine g_iload C 8 dX9_bond_133 rfl ?_
      refine g_iload C 9 dX9_bond_135 rfl ?_
      refine g_callV C [vi a1, vi a2, vi a3, vi a4, vi a5, vi a6, vi a7] [] (c_X1_add x.1.2.1 g bo bp bq bx bf bl bt bc be BP BQ BX BF BL BT BC BE nB a1 a2 a3 a4 a5 a6 a7 (by omega)) y_X1_add l_X9_218 [1, 2, 3, 4, 5, 6, 7, 8, 9] rfl (by decide) 1 rfl rfl rfl (Nat.le_of_ble_eq_true rfl) rfl (by decide) dX9_bond_137 (fun v9 w9 hp9 => ?_)
      obtain ⟨rfl, rfl⟩ := hp9
      simp only [putAll, List.set_cons_succ, List.set_cons_zero, List.cons_append, List.nil_append, List.append_nil, Option.toList]
      show gW g x [(zo, cO 9 [.ref lo, .ref wo, .ref to, .ref so, .ref ro, .ref vo, .ref eo, .ref bo, .ref mo, vi tn]), (bo, cO 1 [.ref bp, .ref bq, .ref bx, .ref bf, .ref bl, .ref bt, .ref bc, .ref be, vi (nB + 1)]), (bp, cA g 5 (up BP nB a1)), (bq, cA g 5 (up BQ nB a2)), (bx, cA g 5 (up BX nB a3)), (bf, cA g 5 (up BF nB a4)), (bl, cA g 5 (up BL nB a5)), (bt, cA g 5 (up BT nB a6)), (bc, cA g 5 (up BC nB a7)), (be, cA g 5 (up BE nB a5))] 0 0 [(9, vi 1), (8, vi 1), (0, .ref zo), (1, vi a1), (2, vi a2), (3, vi a3), (4, vi a4), (5, vi a5), (6, vi a6), (7, vi a7)] 140 [vi nB]
      refine g_widen (k' := 1) (n' := 6) (by decide) (by decide) ?_
      refine g_outX C hR (fun x' C hR => ?_)
      exact g_iret C hR dX9_bond_140 ⟨rfl, rfl, (by omega)⟩ rfl
    exact g_throw C hR t_95 t_95k t_95i (List.mem_of_getElem? (i := 21) rfl) dX9_bond_112 dX9_bond_115 dX9_bond_116 dX9_bond_118 dX9_bond_121 ⟨by decide, Nat.le_of_ble_eq_true rfl, by decide, by decide, by decide, by decide⟩ ⟨rfl, Or.inr (⟨rfl, (by omega)⟩)⟩ rfl
  exact g_throw C hR t_84 t_84k t_84i (List.mem_of_getElem? (i := 8) rfl) dX9_bond_83 dX9_bond_86 dX9_bond_87 dX9_bond_89 dX9_bond_92 ⟨by decide, Nat.le_of_ble_eq_true rfl, by decide, by decide, by decide, by decide⟩ ⟨rfl, Or.inl ⟨rfl, (by omega)⟩⟩ rfl

set_option maxHeartbeats 4000000 in
set_option maxRecDepth 100000 in
theorem c_X9_extend (l : Launch) (hst9 : l.stackTraces = false) (g : gD) (zo : Nat) (lo : Nat) (wo : Nat) (to : Nat) (so : Nat) (ro : Nat) (vo : Nat) (eo : Nat) (bo : Nat) (mo : Nat) (tn : Int) (bp : Nat) (bq : Nat) (bx : Nat) (bf : Nat) (bl : Nat) (bt : Nat) (bc : Nat) (be : Nat) (BL : Int → Int) (BE : Int → Int) (nB : Int) (b : Int) (h : Int) (hBL : ∀ k, 0 ≤ BL k ∧ BL k ≤ 2199) (hBE : ∀ k, 0 ≤ BE k ∧ BE k ≤ 2699) (hnB : 0 ≤ nB ∧ nB ≤ 5) (htn : 0 ≤ tn ∧ tn ≤ 2199) (hb : -2147483648 ≤ b ∧ b < 2147483648) (hh : -2147483648 ≤ h ∧ h < 2147483648) : gMetX l g yX9_extend cX9_extend 3 (some .int) 6 1 6 100 [.ref zo, vi b, vi h] [(zo, cO 9 [.ref lo, .ref wo, .ref to, .ref so, .ref ro, .ref vo, .ref eo, .ref bo, .ref mo, vi tn]), (bo, cO 1 [.ref bp, .ref bq, .ref bx, .ref bf, .ref bl, .ref bt, .ref bc, .ref be, vi nB]), (bl, cA g 5 BL), (be, cA g 5 BE)] (fun v9 w9 => v9 = (some (vi (BL b + h))) ∧ w9 = [(zo, cO 9 [.ref lo, .ref wo, .ref to, .ref so, .ref ro, .ref vo, .ref eo, .ref bo, .ref mo, vi tn]), (bo, cO 1 [.ref bp, .ref bq, .ref bx, .ref bf, .ref bl, .ref bt, .ref bc, .ref be, vi nB]), (bl, cA g 5 BL), (be, cA g 5 (up BE b (BL b + h)))] ∧ ((0 ≤ b ∧ b < nB) ∧ (1 ≤ h ∧ h ≤ 500) ∧ ¬ (BL b < BE b) ∧ tn ≤ BE b)) (fun E9 w9 => w9 = [(zo, cO 9 [.ref lo, .ref wo, .ref to, .ref so, .ref ro, .ref vo, .ref eo, .ref bo, .ref mo, vi tn]), (bo, cO 1 [.ref bp, .ref bq, .ref bx, .ref bf, .ref bl, .ref bt, .ref bc, .ref be, vi nB]), (bl, cA g 5 BL), (be, cA g 5 BE)] ∧ ((E9 = E3 ∧ (¬ (0 ≤ b ∧ b < nB))) ∨ (E9 = E1 ∧ ((0 ≤ b ∧ b < nB) ∧ ¬ (1 ≤ h ∧ h ≤ 500))) ∨ (E9 = E2 ∧ ((0 ≤ b ∧ b < nB) ∧ (1 ≤ h ∧ h ≤ 500) ∧ (BL b < BE b ∨ BE b < tn))))) := by
  refine gMetX.of y_X9_extend.2.2.2.2.1 (Nat.le_of_ble_eq_true rfl) hst9 ?_
  intro x hlx C hR
  subst hlx
  have C : gC g x RX9 cX9_extend 3 6 1 6 100 := C
  show gW g x [(zo, cO 9 [.ref lo, .ref wo, .ref to, .ref so, .ref ro, .ref vo, .ref eo, .ref bo, .ref mo, vi tn]), (bo, cO 1 [.ref bp, .ref bq, .ref bx, .ref bf, .ref bl, .ref bt, .ref bc, .ref be, vi nB]), (bl, cA g 5 BL), (be, cA g 5 BE)] 0 0 [(0, .ref zo), (1, vi b), (2, vi h)] 0 []
  refine g_aload_n C 0 dX9_extend_0 rfl ?_
  refine g_getf C k_X9 7 f_X9_61 0 rfl rfl (by decide) rfl rfl dX9_extend_1 ?_
  refine g_iload_n C 1 dX9_extend_4 rfl ?_
  refine g_callVp C [vi b] [] (c_X1_has x.1.2.1 g bo bp bq bx bf bl bt bc be nB b hnB hb) y_X1_has l_X9_221 [1] rfl (by decide) 1 rfl rfl rfl (Nat.le_of_ble_eq_true rfl) rfl (by decide) dX9_extend_5 ?_
  refine g_if_ne C 21 dX9_extend_8 (by decide) (by omega) (fun c8 => ?_) (fun c8 => ?_)
  · refine g_iload_n C 2 dX9_extend_21 rfl ?_
    refine g_iconst C dX9_extend_22 ?_
    refine g_sipush C dX9_extend_23 (by decide) ?_
    refine g_callSp C [vi h, vi 1, vi 500] [] (c_X9_isIn x.1.2.1 g h 1 500 hh (by omega) (by omega)) y_X9_isIn l_X9_80 [] rfl (by decide) rfl (Nat.le_of_ble_eq_true rfl) rfl (by decide) dX9_extend_26 ?_
    refine g_if_ne C 42 dX9_extend_29 (by decide) (by omega) (fun c29 => ?_) (fun c29 => ?_)
    · refine g_aload_n C 0 dX9_extend_42 rfl ?_
      refine g_getf C k_X9 7 f_X9_61 0 rfl rfl (by decide) rfl rfl dX9_extend_43 ?_
      refine g_iload_n C 1 dX9_extend_46 rfl ?_
      refine g_callVp C [vi b] [] (c_X1_isExtended x.1.2.1 g bo bp bq bx bf bl bt bc be BL BE nB b hBL hBE (by omega)) y_X1_isExtended l_X9_226 [1, 2, 3] rfl (by decide) 1 rfl rfl rfl (Nat.le_of_ble_eq_true rfl) rfl (by decide) dX9_extend_47 ?_
      refine g_if_ne C 68 dX9_extend_50 (by decide) (by omega) (fun c50 => ?_) (fun c50 => ?_)
      · exact g_throw C hR t_95 t_95k t_95i (List.mem_of_getElem? (i := 24) rfl) dX9_extend_68 dX9_extend_71 dX9_extend_72 dX9_extend_74 dX9_extend_77 ⟨by decide, Nat.le_of_ble_eq_true rfl, by decide, by decide, by decide, by decide⟩ ⟨rfl, Or.inr (Or.inr (⟨rfl, (by omega)⟩))⟩ rfl
      refine g_aload_n C 0 dX9_extend_53 rfl ?_
      refine g_getf C k_X9 7 f_X9_61 0 rfl rfl (by decide) rfl rfl dX9_extend_54 ?_
      refine g_iload_n C 1 dX9_extend_57 rfl ?_
      refine g_aload_n C 0 dX9_extend_58 rfl ?_
      refine g_getf C k_X9 9 f_X9_212 0 rfl rfl (by decide) rfl rfl dX9_extend_59 ?_
      refine g_callVp C [vi b, vi tn] [] (c_X1_isInTrust x.1.2.1 g bo bp bq bx bf bl bt bc be BE nB b tn hBE (by omega) (by omega)) y_X1_isInTrust l_X9_229 [1, 3] rfl (by decide) 1 rfl rfl rfl (Nat.le_of_ble_eq_true rfl) rfl (by decide) dX9_extend_62 ?_
      refine g_if_ne C 78 dX9_extend_65 (by decide) (by omega) (fun c65 => ?_) (fun c65 => ?_)
      · refine g_aload_n C 0 dX9_extend_78 rfl ?_
        refine g_getf C k_X9 7 f_X9_61 0 rfl rfl (by decide) rfl rfl dX9_extend_79 ?_
        refine g_iload_n C 1 dX9_extend_82 rfl ?_
        refine g_iload_n C 2 dX9_extend_83 rfl ?_
        refine g_callV C [vi b, vi h] [] (c_X1_lengthen x.1.2.1 g bo bp bq bx bf bl bt bc be BL BE nB b h (by omega)) y_X1_lengthen l_X9_234 [1, 2, 3] rfl (by decide) 1 rfl rfl rfl (Nat.le_of_ble_eq_true rfl) rfl (by decide) dX9_extend_84 (fun v9 w9 hp9 => ?_)
        obtain ⟨rfl, rfl⟩ := hp9
        simp only [putAll, List.set_cons_succ, List.set_cons_zero, List.cons_append, List.nil_append, List.append_nil, Option.toList]
        show gW g x [(zo, cO 9 [.ref lo, .ref wo, .ref to, .ref so, .ref ro, .ref vo, .ref eo, .ref bo, .ref mo, vi tn]), (bo, cO 1 [.ref bp, .ref bq, .ref bx, .ref bf, .ref bl, .ref bt, .ref bc, .ref be, vi nB]), (bl, cA g 5 BL), (be, cA g 5 (up BE b (BL b + h)))] 0 0 [(0, .ref zo), (1, vi b), (2, vi h)] 87 [vi (BL b + h)]
        refine g_widen (k' := 1) (n' := 6) (by decide) (by decide) ?_
        refine g_outX C hR (fun x' C hR => ?_)
        exact g_iret C hR dX9_extend_87 ⟨rfl, rfl, (by omega)⟩ rfl
      exact g_throw C hR t_95 t_95k t_95i (List.mem_of_getElem? (i := 24) rfl) dX9_extend_68 dX9_extend_71 dX9_extend_72 dX9_extend_74 dX9_extend_77 ⟨by decide, Nat.le_of_ble_eq_true rfl, by decide, by decide, by decide, by decide⟩ ⟨rfl, Or.inr (Or.inr (⟨rfl, (by omega)⟩))⟩ rfl
    exact g_throw C hR t_84 t_84k t_84i (List.mem_of_getElem? (i := 23) rfl) dX9_extend_32 dX9_extend_35 dX9_extend_36 dX9_extend_38 dX9_extend_41 ⟨by decide, Nat.le_of_ble_eq_true rfl, by decide, by decide, by decide, by decide⟩ ⟨rfl, Or.inr (Or.inl ⟨rfl, (by omega)⟩)⟩ rfl
  exact g_throw C hR t_107 t_107k t_107i (List.mem_of_getElem? (i := 22) rfl) dX9_extend_11 dX9_extend_14 dX9_extend_15 dX9_extend_17 dX9_extend_20 ⟨by decide, Nat.le_of_ble_eq_true rfl, by decide, by decide, by decide, by decide⟩ ⟨rfl, Or.inl ⟨rfl, (by omega)⟩⟩ rfl

set_option maxHeartbeats 4000000 in
set_option maxRecDepth 100000 in
theorem c_X9_pass (l : Launch) (hst9 : l.stackTraces = false) (g : gD) (zo : Nat) (lo : Nat) (wo : Nat) (to : Nat) (so : Nat) (ro : Nat) (vo : Nat) (eo : Nat) (bo : Nat) (mo : Nat) (tn : Int) (h : Int) (htn : 0 ≤ tn ∧ tn ≤ 2199) (hh : -2147483648 ≤ h ∧ h < 2147483648) : gMetX l g yX9_pass cX9_pass 2 (some .int) 6 1 6 100 [.ref zo, vi h] [(zo, cO 9 [.ref lo, .ref wo, .ref to, .ref so, .ref ro, .ref vo, .ref eo, .ref bo, .ref mo, vi tn])] (fun v9 w9 => v9 = (some (vi (tn + h))) ∧ w9 = [(zo, cO 9 [.ref lo, .ref wo, .ref to, .ref so, .ref ro, .ref vo, .ref eo, .ref bo, .ref mo, vi (tn + h)])] ∧ ((1 ≤ h ∧ h ≤ 500) ∧ tn + h ≤ 2199)) (fun E9 w9 => w9 = [(zo, cO 9 [.ref lo, .ref wo, .ref to, .ref so, .ref ro, .ref vo, .ref eo, .ref bo, .ref mo, vi tn])] ∧ ((E9 = E1 ∧ (¬ (1 ≤ h ∧ h ≤ 500))) ∨ (E9 = E2 ∧ ((1 ≤ h ∧ h ≤ 500) ∧ 2199 < tn + h)))) := by
  refine gMetX.of y_X9_pass.2.2.2.2.1 (Nat.le_of_ble_eq_true rfl) hst9 ?_
  intro x hlx C hR
  subst hlx
  have C : gC g x RX9 cX9_pass 2 6 1 6 100 := C
  show gW g x [(zo, cO 9 [.ref lo, .ref wo, .ref to, .ref so, .ref ro, .ref vo, .ref eo, .ref bo, .ref mo, vi tn])] 0 0 [(0, .ref zo), (1, vi h)] 0 []
  refine g_iload_n C 1 dX9_pass_0 rfl ?_
  refine g_iconst C dX9_pass_1 ?_
  refine g_sipush C dX9_pass_2 (by decide) ?_
  refine g_callSp C [vi h, vi 1, vi 500] [] (c_X9_isIn x.1.2.1 g h 1 500 hh (by omega) (by omega)) y_X9_isIn l_X9_80 [] rfl (by decide) rfl (Nat.le_of_ble_eq_true rfl) rfl (by decide) dX9_pass_5 ?_
  refine g_if_ne C 21 dX9_pass_8 (by decide) (by omega) (fun c8 => ?_) (fun c8 => ?_)
  · refine g_aload_n C 0 dX9_pass_21 rfl ?_
    refine g_getf C k_X9 9 f_X9_212 0 rfl rfl (by decide) rfl rfl dX9_pass_22 ?_
    refine g_iload_n C 1 dX9_pass_25 rfl ?_
    refine g_iadd C dX9_pass_26 ?_
    refine g_sipush C dX9_pass_27 (by decide) ?_
    refine g_icmp_le C 43 dX9_pass_30 (by decide) (by omega) (by omega) (fun c30 => ?_) (fun c30 => ?_)
    · refine g_aload_n C 0 dX9_pass_43 rfl ?_
      refine g_dup C dX9_pass_44 rfl ?_
      refine g_getf C k_X9 9 f_X9_212 0 rfl rfl (by decide) rfl rfl dX9_pass_45 ?_
      refine g_iload_n C 1 dX9_pass_48 rfl ?_
      refine g_iadd C dX9_pass_49 ?_
      refine g_putf C k_X9 tyX9_ok nmX9 9 f_X9_212 0 rfl rfl (by decide) rfl rfl rfl rfl (Nat.le_of_ble_eq_true rfl) [(zo, cO 9 [.ref lo, .ref wo, .ref to, .ref so, .ref ro, .ref vo, .ref eo, .ref bo, .ref mo, vi (tn + h)])] rfl dX9_pass_50 ?_
      refine g_aload_n C 0 dX9_pass_53 rfl ?_
      refine g_getf C k_X9 9 f_X9_212 0 rfl rfl (by decide) rfl rfl dX9_pass_54 ?_
      refine g_widen (k' := 1) (n' := 6) (by decide) (by decide) ?_
      refine g_outX C hR (fun x' C hR => ?_)
      exact g_iret C hR dX9_pass_57 ⟨rfl, rfl, (by omega)⟩ rfl
    exact g_throw C hR t_95 t_95k t_95i (List.mem_of_getElem? (i := 25) rfl) dX9_pass_33 dX9_pass_36 dX9_pass_37 dX9_pass_39 dX9_pass_42 ⟨by decide, Nat.le_of_ble_eq_true rfl, by decide, by decide, by decide, by decide⟩ ⟨rfl, Or.inr (⟨rfl, (by omega)⟩)⟩ rfl
  exact g_throw C hR t_84 t_84k t_84i (List.mem_of_getElem? (i := 23) rfl) dX9_pass_11 dX9_pass_14 dX9_pass_15 dX9_pass_17 dX9_pass_20 ⟨by decide, Nat.le_of_ble_eq_true rfl, by decide, by decide, by decide, by decide⟩ ⟨rfl, Or.inl ⟨rfl, (by omega)⟩⟩ rfl

set_option maxHeartbeats 4000000 in
set_option maxRecDepth 100000 in
theorem c_X9_scenario (l : Launch) (hst9 : l.stackTraces = false) (g : gD) (zo : Nat) (lo : Nat) (wo : Nat) (to : Nat) (so : Nat) (ro : Nat) (vo : Nat) (eo : Nat) (bo : Nat) (mo : Nat) (tn : Int) (mw : Nat) (mu : Nat) (mc : Nat) (MW : Int → Int) (MU : Int → Int) (MC : Int → Int) (q : Int) (a : Int) (b : Int) (hMC : ∀ k, 0 ≤ MC k ∧ MC k ≤ 12) (hq : -2147483648 ≤ q ∧ q < 2147483648) (ha : -2147483648 ≤ a ∧ a < 2147483648) (hb : -2147483648 ≤ b ∧ b < 2147483648) : gMetX l g yX9_scenario cX9_scenario 4 (some .int) 6 1 6 100 [.ref zo, vi q, vi a, vi b] [(zo, cO 9 [.ref lo, .ref wo, .ref to, .ref so, .ref ro, .ref vo, .ref eo, .ref bo, .ref mo, vi tn]), (mo, cO 3 [.ref mw, .ref mu, .ref mc]), (mw, cA g 36 MW), (mu, cA g 36 MU), (mc, cA g 3 MC)] (fun v9 w9 => v9 = (some (vi (MC q + 1))) ∧ w9 = [(zo, cO 9 [.ref lo, .ref wo, .ref to, .ref so, .ref ro, .ref vo, .ref eo, .ref bo, .ref mo, vi tn]), (mo, cO 3 [.ref mw, .ref mu, .ref mc]), (mw, cA g 36 (up MW (q * 12 + MC q) a)), (mu, cA g 36 (up MU (q * 12 + MC q) b)), (mc, cA g 3 (up MC q (MC q + 1)))] ∧ ((0 ≤ q ∧ q ≤ 2) ∧ ((1 ≤ a ∧ a ≤ 99) ∧ (0 ≤ b ∧ b ≤ 999999)) ∧ MC q < 12)) (fun E9 w9 => w9 = [(zo, cO 9 [.ref lo, .ref wo, .ref to, .ref so, .ref ro, .ref vo, .ref eo, .ref bo, .ref mo, vi tn]), (mo, cO 3 [.ref mw, .ref mu, .ref mc]), (mw, cA g 36 MW), (mu, cA g 36 MU), (mc, cA g 3 MC)] ∧ ((E9 = E3 ∧ (¬ (0 ≤ q ∧ q ≤ 2))) ∨ (E9 = E1 ∧ ((0 ≤ q ∧ q ≤ 2) ∧ ¬ ((1 ≤ a ∧ a ≤ 99) ∧ (0 ≤ b ∧ b ≤ 999999)))) ∨ (E9 = E2 ∧ ((0 ≤ q ∧ q ≤ 2) ∧ ((1 ≤ a ∧ a ≤ 99) ∧ (0 ≤ b ∧ b ≤ 999999)) ∧ MC q = 12)))) := by
  refine gMetX.of y_X9_scenario.2.2.2.2.1 (Nat.le_of_ble_eq_true rfl) hst9 ?_
  intro x hlx C hR
  subst hlx
  have C : gC g x RX9 cX9_scenario 4 6 1 6 100 := C
  show gW g x [(zo, cO 9 [.ref lo, .ref wo, .ref to, .ref so, .ref ro, .ref vo, .ref eo, .ref bo, .ref mo, vi tn]), (mo, cO 3 [.ref mw, .ref mu, .ref mc]), (mw, cA g 36 MW), (mu, cA g 36 MU), (mc, cA g 3 MC)] 0 0 [(0, .ref zo), (1, vi q), (2, vi a), (3, vi b)] 0 []
  have hc9 := hMC q
  refine g_iload_n C 1 dX9_scenario_0 rfl ?_
  refine g_callSp C [vi q] [] (c_X9_isModel x.1.2.1 g q hq) y_X9_isModel l_X9_239 [] rfl (by decide) rfl (Nat.le_of_ble_eq_true rfl) rfl (by decide) dX9_scenario_1 ?_
  refine g_if_ne C 17 dX9_scenario_4 (by decide) (by omega) (fun c4 => ?_) (fun c4 => ?_)
  · refine g_iload_n C 2 dX9_scenario_17 rfl ?_
    refine g_iconst C dX9_scenario_18 ?_
    refine g_bipush C dX9_scenario_19 (by decide) ?_
    refine g_callSp C [vi a, vi 1, vi 99] [] (c_X9_isIn x.1.2.1 g a 1 99 ha (by omega) (by omega)) y_X9_isIn l_X9_80 [] rfl (by decide) rfl (Nat.le_of_ble_eq_true rfl) rfl (by decide) dX9_scenario_21 ?_
    refine g_if_eq C 37 dX9_scenario_24 (by decide) (by omega) (fun c24 => ?_) (fun c24 => ?_)
    · exact g_throw C hR t_84 t_84k t_84i (List.mem_of_getElem? (i := 27) rfl) dX9_scenario_37 dX9_scenario_40 dX9_scenario_41 dX9_scenario_43 dX9_scenario_46 ⟨by decide, Nat.le_of_ble_eq_true rfl, by decide, by decide, by decide, by decide⟩ ⟨rfl, Or.inr (Or.inl ⟨rfl, (by omega)⟩)⟩ rfl
    refine g_iload_n C 3 dX9_scenario_27 rfl ?_
    refine g_iconst C dX9_scenario_28 ?_
    refine g_ldc C (999999) n_X9_149 (by decide) dX9_scenario_29 ?_
    refine g_callSp C [vi b, vi 0, vi 999999] [] (c_X9_isIn x.1.2.1 g b 0 999999 hb (by omega) (by omega)) y_X9_isIn l_X9_80 [] rfl (by decide) rfl (Nat.le_of_ble_eq_true rfl) rfl (by decide) dX9_scenario_31 ?_
    refine g_if_ne C 47 dX9_scenario_34 (by decide) (by omega) (fun c34 => ?_) (fun c34 => ?_)
    · refine g_aload_n C 0 dX9_scenario_47 rfl ?_
      refine g_getf C k_X9 8 f_X9_68 0 rfl rfl (by decide) rfl rfl dX9_scenario_48 ?_
      refine g_iload_n C 1 dX9_scenario_51 rfl ?_
      refine g_callVp C [vi q] [] (c_X3_isFull x.1.2.1 g mo mw mu mc MC q hMC (by omega)) y_X3_isFull l_X9_246 [1, 4] rfl (by decide) 1 rfl rfl rfl (Nat.le_of_ble_eq_true rfl) rfl (by decide) dX9_scenario_52 ?_
      refine g_if_eq C 68 dX9_scenario_55 (by decide) (by omega) (fun c55 => ?_) (fun c55 => ?_)
      · refine g_aload_n C 0 dX9_scenario_68 rfl ?_
        refine g_getf C k_X9 8 f_X9_68 0 rfl rfl (by decide) rfl rfl dX9_scenario_69 ?_
        refine g_iload_n C 1 dX9_scenario_72 rfl ?_
        refine g_iload_n C 2 dX9_scenario_73 rfl ?_
        refine g_iload_n C 3 dX9_scenario_74 rfl ?_
        refine g_callV C [vi q, vi a, vi b] [] (c_X3_add x.1.2.1 g mo mw mu mc MW MU MC q a b hMC (by omega) (by omega)) y_X3_add l_X9_250 [1, 2, 3, 4] rfl (by decide) 1 rfl rfl rfl (Nat.le_of_ble_eq_true rfl) rfl (by decide) dX9_scenario_75 (fun v9 w9 hp9 => ?_)
        obtain ⟨rfl, rfl⟩ := hp9
        simp only [putAll, List.set_cons_succ, List.set_cons_zero, List.cons_append, List.nil_append, List.append_nil, Option.toList]
        show gW g x [(zo, cO 9 [.ref lo, .ref wo, .ref to, .ref so, .ref ro, .ref vo, .ref eo, .ref bo, .ref mo, vi tn]), (mo, cO 3 [.ref mw, .ref mu, .ref mc]), (mw, cA g 36 (up MW (q * 12 + MC q) a)), (mu, cA g 36 (up MU (q * 12 + MC q) b)), (mc, cA g 3 (up MC q (MC q + 1)))] 0 0 [(0, .ref zo), (1, vi q), (2, vi a), (3, vi b)] 78 [vi (MC q + 1)]
        refine g_widen (k' := 1) (n' := 6) (by decide) (by decide) ?_
        refine g_outX C hR (fun x' C hR => ?_)
        exact g_iret C hR dX9_scenario_78 ⟨rfl, rfl, (by omega)⟩ rfl
      exact g_throw C hR t_95 t_95k t_95i (List.mem_of_getElem? (i := 28) rfl) dX9_scenario_58 dX9_scenario_61 dX9_scenario_62 dX9_scenario_64 dX9_scenario_67 ⟨by decide, Nat.le_of_ble_eq_true rfl, by decide, by decide, by decide, by decide⟩ ⟨rfl, Or.inr (Or.inr (⟨rfl, (by omega)⟩))⟩ rfl
    exact g_throw C hR t_84 t_84k t_84i (List.mem_of_getElem? (i := 27) rfl) dX9_scenario_37 dX9_scenario_40 dX9_scenario_41 dX9_scenario_43 dX9_scenario_46 ⟨by decide, Nat.le_of_ble_eq_true rfl, by decide, by decide, by decide, by decide⟩ ⟨rfl, Or.inr (Or.inl ⟨rfl, (by omega)⟩)⟩ rfl
  exact g_throw C hR t_107 t_107k t_107i (List.mem_of_getElem? (i := 26) rfl) dX9_scenario_7 dX9_scenario_10 dX9_scenario_11 dX9_scenario_13 dX9_scenario_16 ⟨by decide, Nat.le_of_ble_eq_true rfl, by decide, by decide, by decide, by decide⟩ ⟨rfl, Or.inl ⟨rfl, (by omega)⟩⟩ rfl

