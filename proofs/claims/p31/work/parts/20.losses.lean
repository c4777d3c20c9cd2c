set_option maxHeartbeats 4000000 in
set_option maxRecDepth 100000 in
theorem c_X9_isIn (l : Launch) (g : gD) (v : Int) (a : Int) (b : Int) (hv : -2147483648 ≤ v ∧ v < 2147483648) (ha : -2147483648 ≤ a ∧ a < 2147483648) (hb : -2147483648 ≤ b ∧ b < 2147483648) : gMet l g yX9_isIn cX9_isIn 3 (some .boolean) 0 0 0 0 [vi v, vi a, vi b] [] (gM (some (vi (if a ≤ v ∧ v ≤ b then 1 else 0))) []) := by
  refine gMet.of y_X9_isIn.2.2.2.1 (Nat.le_of_ble_eq_true rfl) ?_
  intro x hlx C hR hnm
  subst hlx
  have C : gC g x RX9 cX9_isIn 3 0 0 0 0 := C
  show gW g x [] 0 0 [(0, vi v), (1, vi a), (2, vi b)] 0 []
  refine g_iload_n C 0 dX9_isIn_0 rfl ?_
  refine g_iload_n C 1 dX9_isIn_1 rfl ?_
  refine g_icmp_lt C 14 dX9_isIn_2 (by decide) (by omega) (by omega) (fun c2 => ?_) (fun c2 => ?_)
  · refine g_iconst C dX9_isIn_14 ?_
    exact g_zretM C hR dX9_isIn_15 (by omega) (by first | rfl | omega) rfl rfl
  refine g_iload_n C 0 dX9_isIn_5 rfl ?_
  refine g_iload_n C 2 dX9_isIn_6 rfl ?_
  refine g_icmp_gt C 14 dX9_isIn_7 (by decide) (by omega) (by omega) (fun c7 => ?_) (fun c7 => ?_)
  · refine g_iconst C dX9_isIn_14 ?_
    exact g_zretM C hR dX9_isIn_15 (by omega) (by first | rfl | omega) rfl rfl
  refine g_iconst C dX9_isIn_10 ?_
  refine g_goto C 15 dX9_isIn_11 (by decide) ?_
  exact g_zretM C hR dX9_isIn_15 (by omega) (by first | rfl | omega) rfl rfl

set_option maxHeartbeats 4000000 in
set_option maxRecDepth 100000 in
theorem c_X9_isPeril (l : Launch) (g : gD) (v : Int) (hv : -2147483648 ≤ v ∧ v < 2147483648) : gMet l g yX9_isPeril cX9_isPeril 1 (some .boolean) 1 0 0 22 [vi v] [] (gM (some (vi (if 0 ≤ v ∧ v ≤ 2 then 1 else 0))) []) := by
  refine gMet.of y_X9_isPeril.2.2.2.1 (Nat.le_of_ble_eq_true rfl) ?_
  intro x hlx C hR hnm
  subst hlx
  have C : gC g x RX9 cX9_isPeril 1 1 0 0 22 := C
  show gW g x [] 0 0 [(0, vi v)] 0 []
  refine g_iload_n C 0 dX9_isPeril_0 rfl ?_
  refine g_iconst C dX9_isPeril_1 ?_
  refine g_iconst C dX9_isPeril_2 ?_
  refine g_callSp C [vi v, vi 0, vi 2] [] (c_X9_isIn x.1.2.1 g v 0 2 hv (by omega) (by omega)) y_X9_isIn l_X9_80 [] rfl (by decide) rfl (Nat.le_of_ble_eq_true rfl) rfl (by decide) dX9_isPeril_3 ?_
  exact g_zretM C hR dX9_isPeril_6 (by omega) rfl rfl rfl

set_option maxHeartbeats 4000000 in
set_option maxRecDepth 100000 in
theorem c_X9_isHour (l : Launch) (g : gD) (v : Int) (hv : -2147483648 ≤ v ∧ v < 2147483648) : gMet l g yX9_isHour cX9_isHour 1 (some .boolean) 1 0 0 22 [vi v] [] (gM (some (vi (if 0 ≤ v ∧ v ≤ 2199 then 1 else 0))) []) := by
  refine gMet.of y_X9_isHour.2.2.2.1 (Nat.le_of_ble_eq_true rfl) ?_
  intro x hlx C hR hnm
  subst hlx
  have C : gC g x RX9 cX9_isHour 1 1 0 0 22 := C
  show gW g x [] 0 0 [(0, vi v)] 0 []
  refine g_iload_n C 0 dX9_isHour_0 rfl ?_
  refine g_iconst C dX9_isHour_1 ?_
  refine g_sipush C dX9_isHour_2 (by decide) ?_
  refine g_callSp C [vi v, vi 0, vi 2199] [] (c_X9_isIn x.1.2.1 g v 0 2199 hv (by omega) (by omega)) y_X9_isIn l_X9_80 [] rfl (by decide) rfl (Nat.le_of_ble_eq_true rfl) rfl (by decide) dX9_isHour_5 ?_
  exact g_zretM C hR dX9_isHour_8 (by omega) rfl rfl rfl

set_option maxHeartbeats 4000000 in
set_option maxRecDepth 100000 in
theorem c_X9_isReinsurer (l : Launch) (g : gD) (v : Int) (hv : -2147483648 ≤ v ∧ v < 2147483648) : gMet l g yX9_isReinsurer cX9_isReinsurer 1 (some .boolean) 1 0 0 22 [vi v] [] (gM (some (vi (if 0 ≤ v ∧ v ≤ 5 then 1 else 0))) []) := by
  refine gMet.of y_X9_isReinsurer.2.2.2.1 (Nat.le_of_ble_eq_true rfl) ?_
  intro x hlx C hR hnm
  subst hlx
  have C : gC g x RX9 cX9_isReinsurer 1 1 0 0 22 := C
  show gW g x [] 0 0 [(0, vi v)] 0 []
  refine g_iload_n C 0 dX9_isReinsurer_0 rfl ?_
  refine g_iconst C dX9_isReinsurer_1 ?_
  refine g_iconst C dX9_isReinsurer_2 ?_
  refine g_callSp C [vi v, vi 0, vi 5] [] (c_X9_isIn x.1.2.1 g v 0 5 hv (by omega) (by omega)) y_X9_isIn l_X9_80 [] rfl (by decide) rfl (Nat.le_of_ble_eq_true rfl) rfl (by decide) dX9_isReinsurer_3 ?_
  exact g_zretM C hR dX9_isReinsurer_6 (by omega) rfl rfl rfl

set_option maxHeartbeats 4000000 in
set_option maxRecDepth 100000 in
theorem c_X9_isModel (l : Launch) (g : gD) (v : Int) (hv : -2147483648 ≤ v ∧ v < 2147483648) : gMet l g yX9_isModel cX9_isModel 1 (some .boolean) 1 0 0 22 [vi v] [] (gM (some (vi (if 0 ≤ v ∧ v ≤ 2 then 1 else 0))) []) := by
  refine gMet.of y_X9_isModel.2.2.2.1 (Nat.le_of_ble_eq_true rfl) ?_
  intro x hlx C hR hnm
  subst hlx
  have C : gC g x RX9 cX9_isModel 1 1 0 0 22 := C
  show gW g x [] 0 0 [(0, vi v)] 0 []
  refine g_iload_n C 0 dX9_isModel_0 rfl ?_
  refine g_iconst C dX9_isModel_1 ?_
  refine g_iconst C dX9_isModel_2 ?_
  refine g_callSp C [vi v, vi 0, vi 2] [] (c_X9_isIn x.1.2.1 g v 0 2 hv (by omega) (by omega)) y_X9_isIn l_X9_80 [] rfl (by decide) rfl (Nat.le_of_ble_eq_true rfl) rfl (by decide) dX9_isModel_3 ?_
  exact g_zretM C hR dX9_isModel_6 (by omega) rfl rfl rfl

set_option maxHeartbeats 4000000 in
set_option maxRecDepth 100000 in
theorem c_X9_isSpan (l : Launch) (g : gD) (a : Int) (b : Int) (ha : -2147483648 ≤ a ∧ a < 2147483648) (hb : -2147483648 ≤ b ∧ b < 2147483648) : gMet l g yX9_isSpan cX9_isSpan 2 (some .boolean) 2 0 0 42 [vi a, vi b] [] (gM (some (vi (if 0 ≤ a ∧ a ≤ b ∧ b ≤ 2199 then 1 else 0))) []) := by
  refine gMet.of y_X9_isSpan.2.2.2.1 (Nat.le_of_ble_eq_true rfl) ?_
  intro x hlx C hR hnm
  subst hlx
  have C : gC g x RX9 cX9_isSpan 2 2 0 0 42 := C
  show gW g x [] 0 0 [(0, vi a), (1, vi b)] 0 []
  refine g_iload_n C 0 dX9_isSpan_0 rfl ?_
  refine g_callSp C [vi a] [] (c_X9_isHour x.1.2.1 g a ha) y_X9_isHour l_X9_76 [] rfl (by decide) rfl (Nat.le_of_ble_eq_true rfl) rfl (by decide) dX9_isSpan_1 ?_
  refine g_if_eq C 23 dX9_isSpan_4 (by decide) (by omega) (fun c4 => ?_) (fun c4 => ?_)
  · refine g_iconst C dX9_isSpan_23 ?_
    exact g_zretM C hR dX9_isSpan_24 (by omega) (by first | rfl | omega) rfl rfl
  refine g_iload_n C 1 dX9_isSpan_7 rfl ?_
  refine g_callSp C [vi b] [] (c_X9_isHour x.1.2.1 g b hb) y_X9_isHour l_X9_76 [] rfl (by decide) rfl (Nat.le_of_ble_eq_true rfl) rfl (by decide) dX9_isSpan_8 ?_
  refine g_if_eq C 23 dX9_isSpan_11 (by decide) (by omega) (fun c11 => ?_) (fun c11 => ?_)
  · refine g_iconst C dX9_isSpan_23 ?_
    exact g_zretM C hR dX9_isSpan_24 (by omega) (by first | rfl | omega) rfl rfl
  refine g_iload_n C 0 dX9_isSpan_14 rfl ?_
  refine g_iload_n C 1 dX9_isSpan_15 rfl ?_
  refine g_icmp_gt C 23 dX9_isSpan_16 (by decide) (by omega) (by omega) (fun c16 => ?_) (fun c16 => ?_)
  · refine g_iconst C dX9_isSpan_23 ?_
    exact g_zretM C hR dX9_isSpan_24 (by omega) (by first | rfl | omega) rfl rfl
  refine g_iconst C dX9_isSpan_19 ?_
  refine g_goto C 24 dX9_isSpan_20 (by decide) ?_
  exact g_zretM C hR dX9_isSpan_24 (by omega) (by first | rfl | omega) rfl rfl

set_option maxHeartbeats 4000000 in
set_option maxRecDepth 100000 in
theorem c_X9_clauseOf (l : Launch) (g : gD) (p : Int) (hp : -2147483648 ≤ p ∧ p < 2147483648) : gMet l g yX9_clauseOf cX9_clauseOf 1 (some .int) 0 0 0 0 [vi p] [] (gM (some (vi (if p = 0 then 72 else 168))) []) := by
  refine gMet.of y_X9_clauseOf.2.2.2.1 (Nat.le_of_ble_eq_true rfl) ?_
  intro x hlx C hR hnm
  subst hlx
  have C : gC g x RX9 cX9_clauseOf 1 0 0 0 0 := C
  show gW g x [] 0 0 [(0, vi p)] 0 []
  refine g_iload_n C 0 dX9_clauseOf_0 rfl ?_
  refine g_if_ne C 9 dX9_clauseOf_1 (by decide) (by omega) (fun c1 => ?_) (fun c1 => ?_)
  · refine g_sipush C dX9_clauseOf_9 (by decide) ?_
    exact g_iretM C hR dX9_clauseOf_12 (by first | rfl | omega) rfl rfl
  refine g_bipush C dX9_clauseOf_4 (by decide) ?_
  refine g_goto C 12 dX9_clauseOf_6 (by decide) ?_
  exact g_iretM C hR dX9_clauseOf_12 (by first | rfl | omega) rfl rfl

set_option maxHeartbeats 4000000 in
set_option maxRecDepth 100000 in
theorem c_X9_totalOf (l : Launch) (g : gD) (a : Nat) (N : Nat) (F : Int → Int) (n : Int) (hn : 0 ≤ n ∧ n ≤ (N : Int) ∧ (N : Int) < 1000) : gMet l g yX9_totalOf cX9_totalOf 4 (some .int) 0 0 0 0 [.ref a, vi n] [(a, cA g N F)] (gM (some (vi (sm F n))) [(a, cA g N F)]) := by
  refine gMet.of y_X9_totalOf.2.2.2.1 (Nat.le_of_ble_eq_true rfl) ?_
  intro x hlx C hR hnm
  subst hlx
  have C : gC g x RX9 cX9_totalOf 4 0 0 0 0 := C
  show gW g x [(a, cA g N F)] 0 0 [(0, .ref a), (1, vi n)] 0 []
  refine g_iconst C dX9_totalOf_0 ?_
  refine g_istore_n C [(2, vi 0), (0, .ref a), (1, vi n)] dX9_totalOf_1 (by decide) rfl ?_
  refine g_iconst C dX9_totalOf_2 ?_
  refine g_istore_n C [(3, vi 0), (2, vi 0), (0, .ref a), (1, vi n)] dX9_totalOf_3 (by decide) rfl ?_
  have L4 : ∀ (f : Nat) (acc : Int) (i : Int), (0 ≤ i ∧ i ≤ n ∧ acc = sm (F) i) → (n - i).toNat < f → gW g x [(a, cA g N F)] 0 0 [(3, vi i), (2, vi acc), (0, .ref a), (1, vi n)] 4 [] := by
    intro f
    induction f with
    | zero => intro acc i hI4 hf; exact absurd hf (Nat.not_lt_zero _)
    | succ f ih4 =>
      intro acc i hI4 hf4
      refine g_iload_n C 0 dX9_totalOf_4 rfl ?_
      refine g_iload_n C 3 dX9_totalOf_5 rfl ?_
      refine g_icmp_ge C 27 dX9_totalOf_6 (by decide) (by omega) (by omega) (fun c6 => ?_) (fun c6 => ?_)
      · refine g_iload_n C 1 dX9_totalOf_27 rfl ?_
        exact g_iretM C hR dX9_totalOf_28 (by rw [hI4.2.2, show i = n by omega] <;> rfl) rfl rfl
      refine g_iload_n C 0 dX9_totalOf_9 rfl ?_
      refine g_aload_n C 2 dX9_totalOf_10 rfl ?_
      refine g_alen C 0 rfl dX9_totalOf_11 ?_
      refine g_icmp_ge C 27 dX9_totalOf_12 (by decide) (by omega) (by omega) (fun c12 => absurd c12 (by omega)) (fun c12 => ?_)
      refine g_iload_n C 1 dX9_totalOf_15 rfl ?_
      refine g_aload_n C 2 dX9_totalOf_16 rfl ?_
      refine g_iload_n C 0 dX9_totalOf_17 rfl ?_
      refine g_iald C 0 rfl (by omega) dX9_totalOf_18 ?_
      refine g_iadd C dX9_totalOf_19 ?_
      refine g_istore_n C [(2, vi (acc + (F i))), (3, vi i), (0, .ref a), (1, vi n)] dX9_totalOf_20 (by decide) rfl ?_
      refine g_iinc C 1 [(3, vi (i + 1)), (2, vi (acc + (F i))), (0, .ref a), (1, vi n)] dX9_totalOf_21 rfl (by decide) rfl ?_
      refine g_goto C 4 dX9_totalOf_24 (by decide) ?_
      exact ih4 (acc + (F i)) (i + 1) ⟨by omega, by omega, by rw [sm_s _ (by omega), ← hI4.2.2] <;> rfl⟩ (by omega)
  exact L4 _ 0 0 ⟨by omega, by omega, rfl⟩ (Nat.lt_succ_self _)

set_option maxHeartbeats 4000000 in
set_option maxRecDepth 100000 in
theorem c_X2_has (l : Launch) (g : gD) (lo : Nat) (lp : Nat) (lh : Nat) (lu : Nat) (nL : Int) (v : Int) (hnL : 0 ≤ nL ∧ nL ≤ 40) (hv : -2147483648 ≤ v ∧ v < 2147483648) : gMet l g yX2_has cX2_has 2 (some .boolean) 0 0 0 0 [.ref lo, vi v] [(lo, cO 2 [.ref lp, .ref lh, .ref lu, vi nL])] (gM (some (vi (if 0 ≤ v ∧ v < nL then 1 else 0))) [(lo, cO 2 [.ref lp, .ref lh, .ref lu, vi nL])]) := by
  refine gMet.of y_X2_has.2.2.2.2.1 (Nat.le_of_ble_eq_true rfl) ?_
  intro x hlx C hR hnm
  subst hlx
  have C : gC g x RX2 cX2_has 2 0 0 0 0 := C
  show gW g x [(lo, cO 2 [.ref lp, .ref lh, .ref lu, vi nL])] 0 0 [(0, .ref lo), (1, vi v)] 0 []
  refine g_iload_n C 1 dX2_has_0 rfl ?_
  refine g_if_lt C 16 dX2_has_1 (by decide) (by omega) (fun c1 => ?_) (fun c1 => ?_)
  · refine g_iconst C dX2_has_16 ?_
    exact g_zretM C hR dX2_has_17 (by omega) (by first | rfl | omega) rfl rfl
  refine g_iload_n C 1 dX2_has_4 rfl ?_
  refine g_aload_n C 0 dX2_has_5 rfl ?_
  refine g_getf C k_X2 3 f_X2_21 0 rfl rfl (by decide) rfl rfl dX2_has_6 ?_
  refine g_icmp_ge C 16 dX2_has_9 (by decide) (by omega) (by omega) (fun c9 => ?_) (fun c9 => ?_)
  · refine g_iconst C dX2_has_16 ?_
    exact g_zretM C hR dX2_has_17 (by omega) (by first | rfl | omega) rfl rfl
  refine g_iconst C dX2_has_12 ?_
  refine g_goto C 17 dX2_has_13 (by decide) ?_
  exact g_zretM C hR dX2_has_17 (by omega) (by first | rfl | omega) rfl rfl

set_option maxHeartbeats 4000000 in
set_option maxRecDepth 100000 in
theorem c_X2_isFull (l : Launch) (g : gD) (lo : Nat) (lp : Nat) (lh : Nat) (lu : Nat) (nL : Int) (hnL : 0 ≤ nL ∧ nL ≤ 40) : gMet l g yX2_isFull cX2_isFull 1 (some .boolean) 0 0 0 0 [.ref lo] [(lo, cO 2 [.ref lp, .ref lh, .ref lu, vi nL])] (gM (some (vi (if 40 ≤ nL then 1 else 0))) [(lo, cO 2 [.ref lp, .ref lh, .ref lu, vi nL])]) := by
  refine gMet.of y_X2_isFull.2.2.2.2.1 (Nat.le_of_ble_eq_true rfl) ?_
  intro x hlx C hR hnm
  subst hlx
  have C : gC g x RX2 cX2_isFull 1 0 0 0 0 := C
  show gW g x [(lo, cO 2 [.ref lp, .ref lh, .ref lu, vi nL])] 0 0 [(0, .ref lo)] 0 []
  refine g_aload_n C 0 dX2_isFull_0 rfl ?_
  refine g_getf C k_X2 3 f_X2_21 0 rfl rfl (by decide) rfl rfl dX2_isFull_1 ?_
  refine g_bipush C dX2_isFull_4 (by decide) ?_
  refine g_icmp_lt C 13 dX2_isFull_6 (by decide) (by omega) (by omega) (fun c6 => ?_) (fun c6 => ?_)
  · refine g_iconst C dX2_isFull_13 ?_
    exact g_zretM C hR dX2_isFull_14 (by omega) (by first | rfl | omega) rfl rfl
  refine g_iconst C dX2_isFull_9 ?_
  refine g_goto C 14 dX2_isFull_10 (by decide) ?_
  exact g_zretM C hR dX2_isFull_14 (by omega) (by first | rfl | omega) rfl rfl

set_option maxHeartbeats 4000000 in
set_option maxRecDepth 100000 in
theorem c_X2_add (l : Launch) (g : gD) (lo : Nat) (lp : Nat) (lh : Nat) (lu : Nat) (LP : Int → Int) (LH : Int → Int) (LU : Int → Int) (nL : Int) (a : Int) (b : Int) (c : Int) (hnL : 0 ≤ nL ∧ nL < 40) : gMet l g yX2_add cX2_add 4 (some .int) 0 0 0 0 [.ref lo, vi a, vi b, vi c] [(lo, cO 2 [.ref lp, .ref lh, .ref lu, vi nL]), (lp, cA g 40 LP), (lh, cA g 40 LH), (lu, cA g 40 LU)] (gM (some (vi nL)) [(lo, cO 2 [.ref lp, .ref lh, .ref lu, vi (nL + 1)]), (lp, cA g 40 (up LP nL a)), (lh, cA g 40 (up LH nL b)), (lu, cA g 40 (up LU nL c))]) := by
  refine gMet.of y_X2_add.2.2.2.2.1 (Nat.le_of_ble_eq_true rfl) ?_
  intro x hlx C hR hnm
  subst hlx
  have C : gC g x RX2 cX2_add 4 0 0 0 0 := C
  show gW g x [(lo, cO 2 [.ref lp, .ref lh, .ref lu, vi nL]), (lp, cA g 40 LP), (lh, cA g 40 LH), (lu, cA g 40 LU)] 0 0 [(0, .ref lo), (1, vi a), (2, vi b), (3, vi c)] 0 []
  refine g_aload_n C 0 dX2_add_0 rfl ?_
  refine g_getf C k_X2 0 f_X2_9 0 rfl rfl (by decide) rfl rfl dX2_add_1 ?_
  refine g_aload_n C 0 dX2_add_4 rfl ?_
  refine g_getf C k_X2 3 f_X2_21 0 rfl rfl (by decide) rfl rfl dX2_add_5 ?_
  refine g_iload_n C 1 dX2_add_8 rfl ?_
  refine g_iast C 1 rfl (by omega) [(lo, cO 2 [.ref lp, .ref lh, .ref lu, vi nL]), (lp, cA g 40 (up LP nL a)), (lh, cA g 40 LH), (lu, cA g 40 LU)] rfl dX2_add_9 ?_
  refine g_aload_n C 0 dX2_add_10 rfl ?_
  refine g_getf C k_X2 1 f_X2_15 0 rfl rfl (by decide) rfl rfl dX2_add_11 ?_
  refine g_aload_n C 0 dX2_add_14 rfl ?_
  refine g_getf C k_X2 3 f_X2_21 0 rfl rfl (by decide) rfl rfl dX2_add_15 ?_
  refine g_iload_n C 2 dX2_add_18 rfl ?_
  refine g_iast C 2 rfl (by omega) [(lo, cO 2 [.ref lp, .ref lh, .ref lu, vi nL]), (lp, cA g 40 (up LP nL a)), (lh, cA g 40 (up LH nL b)), (lu, cA g 40 LU)] rfl dX2_add_19 ?_
  refine g_aload_n C 0 dX2_add_20 rfl ?_
  refine g_getf C k_X2 2 f_X2_18 0 rfl rfl (by decide) rfl rfl dX2_add_21 ?_
  refine g_aload_n C 0 dX2_add_24 rfl ?_
  refine g_getf C k_X2 3 f_X2_21 0 rfl rfl (by decide) rfl rfl dX2_add_25 ?_
  refine g_iload_n C 3 dX2_add_28 rfl ?_
  refine g_iast C 3 rfl (by omega) [(lo, cO 2 [.ref lp, .ref lh, .ref lu, vi nL]), (lp, cA g 40 (up LP nL a)), (lh, cA g 40 (up LH nL b)), (lu, cA g 40 (up LU nL c))] rfl dX2_add_29 ?_
  refine g_aload_n C 0 dX2_add_30 rfl ?_
  refine g_dup C dX2_add_31 rfl ?_
  refine g_getf C k_X2 3 f_X2_21 0 rfl rfl (by decide) rfl rfl dX2_add_32 ?_
  refine g_iconst C dX2_add_35 ?_
  refine g_iadd C dX2_add_36 ?_
  refine g_putf C k_X2 tyX2_ok nmX2 3 f_X2_21 0 rfl rfl (by decide) rfl rfl rfl rfl (Nat.le_of_ble_eq_true rfl) [(lo, cO 2 [.ref lp, .ref lh, .ref lu, vi (nL + 1)]), (lp, cA g 40 (up LP nL a)), (lh, cA g 40 (up LH nL b)), (lu, cA g 40 (up LU nL c))] rfl dX2_add_37 ?_
  refine g_aload_n C 0 dX2_add_40 rfl ?_
  refine g_getf C k_X2 3 f_X2_21 0 rfl rfl (by decide) rfl rfl dX2_add_41 ?_
  refine g_iconst C dX2_add_44 ?_
  refine g_isub C dX2_add_45 ?_
  exact g_iretM C hR dX2_add_46 (by first | rfl | omega) rfl rfl

set_option maxHeartbeats 4000000 in
set_option maxRecDepth 100000 in
theorem c_X2_change (l : Launch) (g : gD) (lo : Nat) (lp : Nat) (lh : Nat) (lu : Nat) (LU : Int → Int) (nL : Int) (v : Int) (a : Int) (hnL : 0 ≤ nL ∧ nL ≤ 40) (hv : 0 ≤ v ∧ v < nL) : gMet l g yX2_change cX2_change 4 (some .int) 0 0 0 0 [.ref lo, vi v, vi a] [(lo, cO 2 [.ref lp, .ref lh, .ref lu, vi nL]), (lu, cA g 40 LU)] (gM (some (vi (LU v))) [(lo, cO 2 [.ref lp, .ref lh, .ref lu, vi nL]), (lu, cA g 40 (up LU v a))]) := by
  refine gMet.of y_X2_change.2.2.2.2.1 (Nat.le_of_ble_eq_true rfl) ?_
  intro x hlx C hR hnm
  subst hlx
  have C : gC g x RX2 cX2_change 4 0 0 0 0 := C
  show gW g x [(lo, cO 2 [.ref lp, .ref lh, .ref lu, vi nL]), (lu, cA g 40 LU)] 0 0 [(0, .ref lo), (1, vi v), (2, vi a)] 0 []
  refine g_aload_n C 0 dX2_change_0 rfl ?_
  refine g_getf C k_X2 2 f_X2_18 0 rfl rfl (by decide) rfl rfl dX2_change_1 ?_
  refine g_iload_n C 1 dX2_change_4 rfl ?_
  refine g_iald C 1 rfl (by omega) dX2_change_5 ?_
  refine g_istore_n C [(3, vi (LU v)), (0, .ref lo), (1, vi v), (2, vi a)] dX2_change_6 (by decide) rfl ?_
  refine g_aload_n C 1 dX2_change_7 rfl ?_
  refine g_getf C k_X2 2 f_X2_18 0 rfl rfl (by decide) rfl rfl dX2_change_8 ?_
  refine g_iload_n C 2 dX2_change_11 rfl ?_
  refine g_iload_n C 3 dX2_change_12 rfl ?_
  refine g_iast C 1 rfl (by omega) [(lo, cO 2 [.ref lp, .ref lh, .ref lu, vi nL]), (lu, cA g 40 (up LU v a))] rfl dX2_change_13 ?_
  refine g_iload_n C 0 dX2_change_14 rfl ?_
  exact g_iretM C hR dX2_change_15 rfl rfl rfl

set_option maxHeartbeats 4000000 in
set_option maxRecDepth 100000 in
theorem c_X2_total (l : Launch) (g : gD) (lo : Nat) (lp : Nat) (lh : Nat) (lu : Nat) (LU : Int → Int) (nL : Int) (hnL : 0 ≤ nL ∧ nL ≤ 40) : gMet l g yX2_total cX2_total 1 (some .int) 1 0 0 23 [.ref lo] [(lo, cO 2 [.ref lp, .ref lh, .ref lu, vi nL]), (lu, cA g 40 LU)] (gM (some (vi (sm LU nL))) [(lo, cO 2 [.ref lp, .ref lh, .ref lu, vi nL]), (lu, cA g 40 LU)]) := by
  refine gMet.of y_X2_total.2.2.2.2.1 (Nat.le_of_ble_eq_true rfl) ?_
  intro x hlx C hR hnm
  subst hlx
  have C : gC g x RX2 cX2_total 1 1 0 0 23 := C
  show gW g x [(lo, cO 2 [.ref lp, .ref lh, .ref lu, vi nL]), (lu, cA g 40 LU)] 0 0 [(0, .ref lo)] 0 []
  refine g_aload_n C 0 dX2_total_0 rfl ?_
  refine g_getf C k_X2 2 f_X2_18 0 rfl rfl (by decide) rfl rfl dX2_total_1 ?_
  refine g_aload_n C 0 dX2_total_4 rfl ?_
  refine g_getf C k_X2 3 f_X2_21 0 rfl rfl (by decide) rfl rfl dX2_total_5 ?_
  refine g_callSNp C [.ref lu, vi nL] [] (c_X9_totalOf x.1.2.1 g lu 40 LU nL (by omega)) y_X9_totalOf l_X2_25 [1] rfl (by decide) rfl (Nat.le_of_ble_eq_true rfl) rfl (by decide) dX2_total_8 ?_
  exact g_iretM C hR dX2_total_11 rfl rfl rfl

set_option maxHeartbeats 4000000 in
set_option maxRecDepth 100000 in
theorem c_X2_groundOf (l : Launch) (g : gD) (lo : Nat) (lp : Nat) (lh : Nat) (lu : Nat) (LP : Int → Int) (LH : Int → Int) (LU : Int → Int) (nL : Int) (p : Int) (a : Int) (b : Int) (hLP : ∀ k, 0 ≤ LP k ∧ LP k ≤ 2) (hLH : ∀ k, 0 ≤ LH k ∧ LH k ≤ 2199) (hLU : ∀ k, 0 ≤ LU k ∧ LU k ≤ 99999) (hnL : 0 ≤ nL ∧ nL ≤ 40) (hp : -2147483648 ≤ p ∧ p < 2147483648) (ha : -2147483648 ≤ a ∧ a < 2147483648) (hb : -2147483648 ≤ b ∧ b < 2147483648) : gMet l g yX2_groundOf cX2_groundOf 6 (some .int) 0 0 0 0 [.ref lo, vi p, vi a, vi b] [(lo, cO 2 [.ref lp, .ref lh, .ref lu, vi nL]), (lp, cA g 40 LP), (lh, cA g 40 LH), (lu, cA g 40 LU)] (gM (some (vi (sm (grd LP LH LU p a b) nL))) [(lo, cO 2 [.ref lp, .ref lh, .ref lu, vi nL]), (lp, cA g 40 LP), (lh, cA g 40 LH), (lu, cA g 40 LU)]) := by
  refine gMet.of y_X2_groundOf.2.2.2.2.1 (Nat.le_of_ble_eq_true rfl) ?_
  intro x hlx C hR hnm
  subst hlx
  have C : gC g x RX2 cX2_groundOf 6 0 0 0 0 := C
  show gW g x [(lo, cO 2 [.ref lp, .ref lh, .ref lu, vi nL]), (lp, cA g 40 LP), (lh, cA g 40 LH), (lu, cA g 40 LU)] 0 0 [(0, .ref lo), (1, vi p), (2, vi a), (3, vi b)] 0 []
  refine g_iconst C dX2_groundOf_0 ?_
  refine g_istore C [(4, vi 0), (0, .ref lo), (1, vi p), (2, vi a), (3, vi b)] dX2_groundOf_1 (by decide) rfl ?_
  refine g_iconst C dX2_groundOf_3 ?_
  refine g_istore C [(5, vi 0), (4, vi 0), (0, .ref lo), (1, vi p), (2, vi a), (3, vi b)] dX2_groundOf_4 (by decide) rfl ?_
  have L6 : ∀ (f : Nat) (acc : Int) (i : Int), (0 ≤ i ∧ i ≤ nL ∧ acc = sm (grd LP LH LU p a b) i) → (nL - i).toNat < f → gW g x [(lo, cO 2 [.ref lp, .ref lh, .ref lu, vi nL]), (lp, cA g 40 LP), (lh, cA g 40 LH), (lu, cA g 40 LU)] 0 0 [(5, vi i), (4, vi acc), (0, .ref lo), (1, vi p), (2, vi a), (3, vi b)] 6 [] := by
    intro f
    induction f with
    | zero => intro acc i hI6 hf; exact absurd hf (Nat.not_lt_zero _)
    | succ f ih6 =>
      intro acc i hI6 hf6
      refine g_iload C 0 dX2_groundOf_6 rfl ?_
      refine g_aload_n C 2 dX2_groundOf_8 rfl ?_
      refine g_getf C k_X2 3 f_X2_21 0 rfl rfl (by decide) rfl rfl dX2_groundOf_9 ?_
      refine g_icmp_ge C 66 dX2_groundOf_12 (by decide) (by omega) (by omega) (fun c12 => ?_) (fun c12 => ?_)
      · refine g_iload C 1 dX2_groundOf_66 rfl ?_
        exact g_iretM C hR dX2_groundOf_68 (by rw [hI6.2.2, show i = nL by omega] <;> rfl) rfl rfl
      refine g_aload_n C 2 dX2_groundOf_15 rfl ?_
      refine g_getf C k_X2 0 f_X2_9 0 rfl rfl (by decide) rfl rfl dX2_groundOf_16 ?_
      refine g_iload C 0 dX2_groundOf_19 rfl ?_
      refine g_iald C 1 rfl (by omega) dX2_groundOf_21 ?_
      have r1_21 := hLP i
      refine g_iload_n C 3 dX2_groundOf_22 rfl ?_
      refine g_icmp_ne C 60 dX2_groundOf_23 (by decide) (by omega) (by omega) (fun c23 => ?_) (fun c23 => ?_)
      · refine g_iinc C 0 [(5, vi (i + 1)), (4, vi acc), (0, .ref lo), (1, vi p), (2, vi a), (3, vi b)] dX2_groundOf_60 rfl (by decide) rfl ?_
        refine g_goto C 6 dX2_groundOf_63 (by decide) ?_
        exact ih6 acc (i + 1) ⟨by omega, by omega, by rw [sm_s _ (by omega), ← hI6.2.2]; simp only [grd]; omega⟩ (by omega)
      refine g_aload_n C 2 dX2_groundOf_26 rfl ?_
      refine g_getf C k_X2 1 f_X2_15 0 rfl rfl (by decide) rfl rfl dX2_groundOf_27 ?_
      refine g_iload C 0 dX2_groundOf_30 rfl ?_
      refine g_iald C 2 rfl (by omega) dX2_groundOf_32 ?_
      have r2_32 := hLH i
      refine g_iload_n C 4 dX2_groundOf_33 rfl ?_
      refine g_icmp_lt C 60 dX2_groundOf_34 (by decide) (by omega) (by omega) (fun c34 => ?_) (fun c34 => ?_)
      · refine g_iinc C 0 [(5, vi (i + 1)), (4, vi acc), (0, .ref lo), (1, vi p), (2, vi a), (3, vi b)] dX2_groundOf_60 rfl (by decide) rfl ?_
        refine g_goto C 6 dX2_groundOf_63 (by decide) ?_
        exact ih6 acc (i + 1) ⟨by omega, by omega, by rw [sm_s _ (by omega), ← hI6.2.2]; simp only [grd]; omega⟩ (by omega)
      refine g_aload_n C 2 dX2_groundOf_37 rfl ?_
      refine g_getf C k_X2 1 f_X2_15 0 rfl rfl (by decide) rfl rfl dX2_groundOf_38 ?_
      refine g_iload C 0 dX2_groundOf_41 rfl ?_
      refine g_iald C 2 rfl (by omega) dX2_groundOf_43 ?_
      have r3_43 := hLH i
      refine g_iload_n C 5 dX2_groundOf_44 rfl ?_
      refine g_icmp_gt C 60 dX2_groundOf_45 (by decide) (by omega) (by omega) (fun c45 => ?_) (fun c45 => ?_)
      · refine g_iinc C 0 [(5, vi (i + 1)), (4, vi acc), (0, .ref lo), (1, vi p), (2, vi a), (3, vi b)] dX2_groundOf_60 rfl (by decide) rfl ?_
        refine g_goto C 6 dX2_groundOf_63 (by decide) ?_
        exact ih6 acc (i + 1) ⟨by omega, by omega, by rw [sm_s _ (by omega), ← hI6.2.2]; simp only [grd]; omega⟩ (by omega)
      refine g_iload C 1 dX2_groundOf_48 rfl ?_
      refine g_aload_n C 2 dX2_groundOf_50 rfl ?_
      refine g_getf C k_X2 2 f_X2_18 0 rfl rfl (by decide) rfl rfl dX2_groundOf_51 ?_
      refine g_iload C 0 dX2_groundOf_54 rfl ?_
      refine g_iald C 3 rfl (by omega) dX2_groundOf_56 ?_
      have r4_56 := hLU i
      refine g_iadd C dX2_groundOf_57 ?_
      refine g_istore C [(4, vi (acc + (LU i))), (5, vi i), (0, .ref lo), (1, vi p), (2, vi a), (3, vi b)] dX2_groundOf_58 (by decide) rfl ?_
      refine g_iinc C 1 [(5, vi (i + 1)), (4, vi (acc + (LU i))), (0, .ref lo), (1, vi p), (2, vi a), (3, vi b)] dX2_groundOf_60 rfl (by decide) rfl ?_
      refine g_goto C 6 dX2_groundOf_63 (by decide) ?_
      exact ih6 (acc + (LU i)) (i + 1) ⟨by omega, by omega, by rw [sm_s _ (by omega), ← hI6.2.2]; simp only [grd]; omega⟩ (by omega)
  exact L6 _ 0 0 ⟨by omega, by omega, rfl⟩ (Nat.lt_succ_self _)

