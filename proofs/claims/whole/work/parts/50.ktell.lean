/-- the fields of the model -/
def kF (th hr nL nO Q nY nE nR nB : Int) (A : Nat → Nat) : List Value := [vi th, vi hr, vi nL, .ref (A 3), .ref (A 4), .ref (A 5), vi nO, .ref (A 7), .ref (A 8), .ref (A 9), vi Q, vi nY, .ref (A 12), .ref (A 13), .ref (A 14), .ref (A 15), .ref (A 16), .ref (A 17), .ref (A 18), .ref (A 19), .ref (A 20), .ref (A 21), vi nE, .ref (A 23), .ref (A 24), vi nR, .ref (A 26), .ref (A 27), .ref (A 28), .ref (A 29), vi nB, .ref (A 31), .ref (A 32), .ref (A 33), .ref (A 34), .ref (A 35), .ref (A 36), .ref (A 37), .ref (A 38), .ref (A 39), .ref (A 40), .ref (A 41), .ref (A 42), .ref (A 43), .ref (A 44), .ref (A 45), .ref (A 46), .ref (A 47), .ref (A 48), .ref (A 49), .ref (A 50)]

set_option maxHeartbeats 4000000 in
set_option maxRecDepth 100000 in
theorem c_X10_in (l : Launch) (g : gD) (v : Int) (a : Int) (b : Int) (hv : -2147483648 ≤ v ∧ v < 2147483648) (ha : -2147483648 ≤ a ∧ a < 2147483648) (hb : -2147483648 ≤ b ∧ b < 2147483648) : gMet l g yX10_in cX10_in 3 (some .boolean) 0 0 0 0 [vi v, vi a, vi b] [] (gM (some (vi (if a ≤ v ∧ v ≤ b then 1 else 0))) []) := by
  refine gMet.of y_X10_in.2.2.2.1 (Nat.le_of_ble_eq_true rfl) ?_
  intro x hlx C hR hnm
  subst hlx
  have C : gC g x RX10 cX10_in 3 0 0 0 0 := C
  show gW g x [] 0 0 [(0, vi v), (1, vi a), (2, vi b)] 0 []
  refine g_iload_n C 0 dX10_in_0 rfl ?_
  refine g_iload_n C 1 dX10_in_1 rfl ?_
  refine g_icmp_lt C 14 dX10_in_2 (by decide) (by omega) (by omega) (fun c2 => ?_) (fun c2 => ?_)
  · refine g_iconst C dX10_in_14 ?_
    exact g_zretM C hR dX10_in_15 (by omega) (by first | rfl | omega) rfl rfl
  refine g_iload_n C 0 dX10_in_5 rfl ?_
  refine g_iload_n C 2 dX10_in_6 rfl ?_
  refine g_icmp_gt C 14 dX10_in_7 (by decide) (by omega) (by omega) (fun c7 => ?_) (fun c7 => ?_)
  · refine g_iconst C dX10_in_14 ?_
    exact g_zretM C hR dX10_in_15 (by omega) (by first | rfl | omega) rfl rfl
  refine g_iconst C dX10_in_10 ?_
  refine g_goto C 15 dX10_in_11 (by decide) ?_
  exact g_zretM C hR dX10_in_15 (by omega) (by first | rfl | omega) rfl rfl

set_option maxHeartbeats 4000000 in
set_option maxRecDepth 100000 in
theorem c_X10_isPeril (l : Launch) (g : gD) (v : Int) (hv : -2147483648 ≤ v ∧ v < 2147483648) : gMet l g yX10_isPeril cX10_isPeril 1 (some .boolean) 1 0 0 22 [vi v] [] (gM (some (vi (if 0 ≤ v ∧ v ≤ 2 then 1 else 0))) []) := by
  refine gMet.of y_X10_isPeril.2.2.2.1 (Nat.le_of_ble_eq_true rfl) ?_
  intro x hlx C hR hnm
  subst hlx
  have C : gC g x RX10 cX10_isPeril 1 1 0 0 22 := C
  show gW g x [] 0 0 [(0, vi v)] 0 []
  refine g_iload_n C 0 dX10_isPeril_0 rfl ?_
  refine g_iconst C dX10_isPeril_1 ?_
  refine g_iconst C dX10_isPeril_2 ?_
  refine g_callSp C [vi v, vi 0, vi 2] [] (c_X10_in x.1.2.1 g v 0 2 hv (by omega) (by omega)) y_X10_in l_X10_141 [] rfl (by decide) rfl (Nat.le_of_ble_eq_true rfl) rfl (by decide) dX10_isPeril_3 ?_
  exact g_zretM C hR dX10_isPeril_6 (by omega) rfl rfl rfl

set_option maxHeartbeats 4000000 in
set_option maxRecDepth 100000 in
theorem c_X10_isHour (l : Launch) (g : gD) (v : Int) (hv : -2147483648 ≤ v ∧ v < 2147483648) : gMet l g yX10_isHour cX10_isHour 1 (some .boolean) 1 0 0 22 [vi v] [] (gM (some (vi (if 0 ≤ v ∧ v ≤ 2199 then 1 else 0))) []) := by
  refine gMet.of y_X10_isHour.2.2.2.1 (Nat.le_of_ble_eq_true rfl) ?_
  intro x hlx C hR hnm
  subst hlx
  have C : gC g x RX10 cX10_isHour 1 1 0 0 22 := C
  show gW g x [] 0 0 [(0, vi v)] 0 []
  refine g_iload_n C 0 dX10_isHour_0 rfl ?_
  refine g_iconst C dX10_isHour_1 ?_
  refine g_sipush C dX10_isHour_2 (by decide) ?_
  refine g_callSp C [vi v, vi 0, vi 2199] [] (c_X10_in x.1.2.1 g v 0 2199 hv (by omega) (by omega)) y_X10_in l_X10_141 [] rfl (by decide) rfl (Nat.le_of_ble_eq_true rfl) rfl (by decide) dX10_isHour_5 ?_
  exact g_zretM C hR dX10_isHour_8 (by omega) rfl rfl rfl

set_option maxHeartbeats 4000000 in
set_option maxRecDepth 100000 in
theorem c_X10_clause (l : Launch) (g : gD) (p : Int) (hp : -2147483648 ≤ p ∧ p < 2147483648) : gMet l g yX10_clause cX10_clause 1 (some .int) 0 0 0 0 [vi p] [] (gM (some (vi (if p = 0 then 72 else 168))) []) := by
  refine gMet.of y_X10_clause.2.2.2.1 (Nat.le_of_ble_eq_true rfl) ?_
  intro x hlx C hR hnm
  subst hlx
  have C : gC g x RX10 cX10_clause 1 0 0 0 0 := C
  show gW g x [] 0 0 [(0, vi p)] 0 []
  refine g_iload_n C 0 dX10_clause_0 rfl ?_
  refine g_if_ne C 9 dX10_clause_1 (by decide) (by omega) (fun c1 => ?_) (fun c1 => ?_)
  · refine g_sipush C dX10_clause_9 (by decide) ?_
    exact g_iretM C hR dX10_clause_12 (by first | rfl | omega) rfl rfl
  refine g_bipush C dX10_clause_4 (by decide) ?_
  refine g_goto C 12 dX10_clause_6 (by decide) ?_
  exact g_iretM C hR dX10_clause_12 (by first | rfl | omega) rfl rfl

set_option maxHeartbeats 4000000 in
set_option maxRecDepth 100000 in
theorem c_X10_isOne (l : Launch) (g : gD) (v : Int) (hv : -2147483648 ≤ v ∧ v < 2147483648) : gMet l g yX10_isOne cX10_isOne 1 (some .boolean) 1 0 0 22 [vi v] [] (gM (some (vi (if 0 ≤ v ∧ v ≤ 5 then 1 else 0))) []) := by
  refine gMet.of y_X10_isOne.2.2.2.1 (Nat.le_of_ble_eq_true rfl) ?_
  intro x hlx C hR hnm
  subst hlx
  have C : gC g x RX10 cX10_isOne 1 1 0 0 22 := C
  show gW g x [] 0 0 [(0, vi v)] 0 []
  refine g_iload_n C 0 dX10_isOne_0 rfl ?_
  refine g_iconst C dX10_isOne_1 ?_
  refine g_iconst C dX10_isOne_2 ?_
  refine g_callSp C [vi v, vi 0, vi 5] [] (c_X10_in x.1.2.1 g v 0 5 hv (by omega) (by omega)) y_X10_in l_X10_141 [] rfl (by decide) rfl (Nat.le_of_ble_eq_true rfl) rfl (by decide) dX10_isOne_3 ?_
  exact g_zretM C hR dX10_isOne_6 (by omega) rfl rfl rfl

set_option maxHeartbeats 4000000 in
set_option maxRecDepth 100000 in
theorem c_X10_isModel (l : Launch) (g : gD) (v : Int) (hv : -2147483648 ≤ v ∧ v < 2147483648) : gMet l g yX10_isModel cX10_isModel 1 (some .boolean) 1 0 0 22 [vi v] [] (gM (some (vi (if 0 ≤ v ∧ v ≤ 2 then 1 else 0))) []) := by
  refine gMet.of y_X10_isModel.2.2.2.1 (Nat.le_of_ble_eq_true rfl) ?_
  intro x hlx C hR hnm
  subst hlx
  have C : gC g x RX10 cX10_isModel 1 1 0 0 22 := C
  show gW g x [] 0 0 [(0, vi v)] 0 []
  refine g_iload_n C 0 dX10_isModel_0 rfl ?_
  refine g_iconst C dX10_isModel_1 ?_
  refine g_iconst C dX10_isModel_2 ?_
  refine g_callSp C [vi v, vi 0, vi 2] [] (c_X10_in x.1.2.1 g v 0 2 hv (by omega) (by omega)) y_X10_in l_X10_141 [] rfl (by decide) rfl (Nat.le_of_ble_eq_true rfl) rfl (by decide) dX10_isModel_3 ?_
  exact g_zretM C hR dX10_isModel_6 (by omega) rfl rfl rfl

set_option maxHeartbeats 4000000 in
set_option maxRecDepth 100000 in
theorem c_X10_thrown (l : Launch) (g : gD) (ko : Nat) (A : Nat → Nat) (th : Int) (hr : Int) (nL : Int) (nO : Int) (Q : Int) (nY : Int) (nE : Int) (nR : Int) (nB : Int)  : gMet l g yX10_thrown cX10_thrown 1 (some .int) 0 0 0 0 [.ref ko] [(ko, cO 10 (kF th hr nL nO Q nY nE nR nB A))] (gM (some (vi th)) [(ko, cO 10 (kF th hr nL nO Q nY nE nR nB A))]) := by
  refine gMet.of y_X10_thrown.2.2.2.2.1 (Nat.le_of_ble_eq_true rfl) ?_
  intro x hlx C hR hnm
  subst hlx
  have C : gC g x RX10 cX10_thrown 1 0 0 0 0 := C
  show gW g x [(ko, cO 10 (kF th hr nL nO Q nY nE nR nB A))] 0 0 [(0, .ref ko)] 0 []
  refine g_aload_n C 0 dX10_thrown_0 rfl ?_
  refine g_getf C k_X10 0 f_X10_137 0 rfl rfl (by decide) rfl rfl dX10_thrown_1 ?_
  exact g_iretM C hR dX10_thrown_4 rfl rfl rfl

set_option maxHeartbeats 4000000 in
set_option maxRecDepth 100000 in
theorem c_X10_goesWell (l : Launch) (g : gD) (ko : Nat) (A : Nat → Nat) (th : Int) (hr : Int) (nL : Int) (nO : Int) (Q : Int) (nY : Int) (nE : Int) (nR : Int) (nB : Int) (z : Int) (hz : -2147483648 ≤ z ∧ z < 2147483648) : gMet l g yX10_goesWell cX10_goesWell 2 (some .boolean) 0 0 0 0 [.ref ko, vi z] [(ko, cO 10 (kF th hr nL nO Q nY nE nR nB A))] (gM (some (vi (if z = 0 then 1 else 0))) [(ko, cO 10 (kF z hr nL nO Q nY nE nR nB A))]) := by
  refine gMet.of y_X10_goesWell.2.2.2.2.1 (Nat.le_of_ble_eq_true rfl) ?_
  intro x hlx C hR hnm
  subst hlx
  have C : gC g x RX10 cX10_goesWell 2 0 0 0 0 := C
  show gW g x [(ko, cO 10 (kF th hr nL nO Q nY nE nR nB A))] 0 0 [(0, .ref ko), (1, vi z)] 0 []
  refine g_aload_n C 0 dX10_goesWell_0 rfl ?_
  refine g_iload_n C 1 dX10_goesWell_1 rfl ?_
  refine g_putf C k_X10 tyX10_ok nmX10 0 f_X10_137 0 rfl rfl (by decide) rfl rfl rfl rfl (Nat.le_of_ble_eq_true rfl) [(ko, cO 10 (kF z hr nL nO Q nY nE nR nB A))] rfl dX10_goesWell_2 ?_
  refine g_iload_n C 1 dX10_goesWell_5 rfl ?_
  refine g_if_ne C 13 dX10_goesWell_6 (by decide) (by omega) (fun c6 => ?_) (fun c6 => ?_)
  · refine g_iconst C dX10_goesWell_13 ?_
    exact g_zretM C hR dX10_goesWell_14 (by omega) (by first | rfl | omega) rfl rfl
  refine g_iconst C dX10_goesWell_9 ?_
  refine g_goto C 14 dX10_goesWell_10 (by decide) ?_
  exact g_zretM C hR dX10_goesWell_14 (by omega) (by first | rfl | omega) rfl rfl

set_option maxHeartbeats 4000000 in
set_option maxRecDepth 100000 in
theorem c_X10_isLayer (l : Launch) (g : gD) (ko : Nat) (A : Nat → Nat) (th : Int) (hr : Int) (nL : Int) (nO : Int) (Q : Int) (nY : Int) (nE : Int) (nR : Int) (nB : Int) (v : Int) (hnY : 0 ≤ nY ∧ nY ≤ 5) (hv : -2147483648 ≤ v ∧ v < 2147483648) : gMet l g yX10_isLayer cX10_isLayer 2 (some .boolean) 1 0 0 22 [.ref ko, vi v] [(ko, cO 10 (kF th hr nL nO Q nY nE nR nB A))] (gM (some (vi (if 0 ≤ v ∧ v < nY then 1 else 0))) [(ko, cO 10 (kF th hr nL nO Q nY nE nR nB A))]) := by
  refine gMet.of y_X10_isLayer.2.2.2.2.1 (Nat.le_of_ble_eq_true rfl) ?_
  intro x hlx C hR hnm
  subst hlx
  have C : gC g x RX10 cX10_isLayer 2 1 0 0 22 := C
  show gW g x [(ko, cO 10 (kF th hr nL nO Q nY nE nR nB A))] 0 0 [(0, .ref ko), (1, vi v)] 0 []
  refine g_iload_n C 1 dX10_isLayer_0 rfl ?_
  refine g_iconst C dX10_isLayer_1 ?_
  refine g_aload_n C 0 dX10_isLayer_2 rfl ?_
  refine g_getf C k_X10 11 f_X10_176 0 rfl rfl (by decide) rfl rfl dX10_isLayer_3 ?_
  refine g_iconst C dX10_isLayer_6 ?_
  refine g_isub C dX10_isLayer_7 ?_
  refine g_callSp C [vi v, vi 0, vi (nY - 1)] [] (c_X10_in x.1.2.1 g v 0 (nY - 1) hv (by omega) (by omega)) y_X10_in l_X10_141 [] rfl (by decide) rfl (Nat.le_of_ble_eq_true rfl) rfl (by decide) dX10_isLayer_8 ?_
  exact g_zretM C hR dX10_isLayer_11 (by omega) (by first | rfl | omega) rfl rfl

set_option maxHeartbeats 4000000 in
set_option maxRecDepth 100000 in
theorem c_X10_isStation (l : Launch) (g : gD) (ko : Nat) (A : Nat → Nat) (th : Int) (hr : Int) (nL : Int) (nO : Int) (Q : Int) (nY : Int) (nE : Int) (nR : Int) (nB : Int) (v : Int) (hnE : 0 ≤ nE ∧ nE ≤ 6) (hv : -2147483648 ≤ v ∧ v < 2147483648) : gMet l g yX10_isStation cX10_isStation 2 (some .boolean) 1 0 0 22 [.ref ko, vi v] [(ko, cO 10 (kF th hr nL nO Q nY nE nR nB A))] (gM (some (vi (if 0 ≤ v ∧ v < nE then 1 else 0))) [(ko, cO 10 (kF th hr nL nO Q nY nE nR nB A))]) := by
  refine gMet.of y_X10_isStation.2.2.2.2.1 (Nat.le_of_ble_eq_true rfl) ?_
  intro x hlx C hR hnm
  subst hlx
  have C : gC g x RX10 cX10_isStation 2 1 0 0 22 := C
  show gW g x [(ko, cO 10 (kF th hr nL nO Q nY nE nR nB A))] 0 0 [(0, .ref ko), (1, vi v)] 0 []
  refine g_iload_n C 1 dX10_isStation_0 rfl ?_
  refine g_iconst C dX10_isStation_1 ?_
  refine g_aload_n C 0 dX10_isStation_2 rfl ?_
  refine g_getf C k_X10 22 f_X10_188 0 rfl rfl (by decide) rfl rfl dX10_isStation_3 ?_
  refine g_iconst C dX10_isStation_6 ?_
  refine g_isub C dX10_isStation_7 ?_
  refine g_callSp C [vi v, vi 0, vi (nE - 1)] [] (c_X10_in x.1.2.1 g v 0 (nE - 1) hv (by omega) (by omega)) y_X10_in l_X10_141 [] rfl (by decide) rfl (Nat.le_of_ble_eq_true rfl) rfl (by decide) dX10_isStation_8 ?_
  exact g_zretM C hR dX10_isStation_11 (by omega) (by first | rfl | omega) rfl rfl

set_option maxHeartbeats 4000000 in
set_option maxRecDepth 100000 in
theorem c_X10_isBond (l : Launch) (g : gD) (ko : Nat) (A : Nat → Nat) (th : Int) (hr : Int) (nL : Int) (nO : Int) (Q : Int) (nY : Int) (nE : Int) (nR : Int) (nB : Int) (v : Int) (hnB : 0 ≤ nB ∧ nB ≤ 5) (hv : -2147483648 ≤ v ∧ v < 2147483648) : gMet l g yX10_isBond cX10_isBond 2 (some .boolean) 1 0 0 22 [.ref ko, vi v] [(ko, cO 10 (kF th hr nL nO Q nY nE nR nB A))] (gM (some (vi (if 0 ≤ v ∧ v < nB then 1 else 0))) [(ko, cO 10 (kF th hr nL nO Q nY nE nR nB A))]) := by
  refine gMet.of y_X10_isBond.2.2.2.2.1 (Nat.le_of_ble_eq_true rfl) ?_
  intro x hlx C hR hnm
  subst hlx
  have C : gC g x RX10 cX10_isBond 2 1 0 0 22 := C
  show gW g x [(ko, cO 10 (kF th hr nL nO Q nY nE nR nB A))] 0 0 [(0, .ref ko), (1, vi v)] 0 []
  refine g_iload_n C 1 dX10_isBond_0 rfl ?_
  refine g_iconst C dX10_isBond_1 ?_
  refine g_aload_n C 0 dX10_isBond_2 rfl ?_
  refine g_getf C k_X10 30 f_X10_198 0 rfl rfl (by decide) rfl rfl dX10_isBond_3 ?_
  refine g_iconst C dX10_isBond_6 ?_
  refine g_isub C dX10_isBond_7 ?_
  refine g_callSp C [vi v, vi 0, vi (nB - 1)] [] (c_X10_in x.1.2.1 g v 0 (nB - 1) hv (by omega) (by omega)) y_X10_in l_X10_141 [] rfl (by decide) rfl (Nat.le_of_ble_eq_true rfl) rfl (by decide) dX10_isBond_8 ?_
  exact g_zretM C hR dX10_isBond_11 (by omega) (by first | rfl | omega) rfl rfl

set_option maxHeartbeats 4000000 in
set_option maxRecDepth 100000 in
theorem c_X10_isChosen (l : Launch) (g : gD) (ko : Nat) (A : Nat → Nat) (th : Int) (hr : Int) (nL : Int) (nO : Int) (Q : Int) (nY : Int) (nE : Int) (nR : Int) (nB : Int) (v : Int) (hnO : 0 ≤ nO ∧ nO ≤ 8) (hv : -2147483648 ≤ v ∧ v < 2147483648) : gMet l g yX10_isChosen cX10_isChosen 2 (some .boolean) 1 0 0 22 [.ref ko, vi v] [(ko, cO 10 (kF th hr nL nO Q nY nE nR nB A))] (gM (some (vi (if 0 ≤ v ∧ v < nO then 1 else 0))) [(ko, cO 10 (kF th hr nL nO Q nY nE nR nB A))]) := by
  refine gMet.of y_X10_isChosen.2.2.2.2.1 (Nat.le_of_ble_eq_true rfl) ?_
  intro x hlx C hR hnm
  subst hlx
  have C : gC g x RX10 cX10_isChosen 2 1 0 0 22 := C
  show gW g x [(ko, cO 10 (kF th hr nL nO Q nY nE nR nB A))] 0 0 [(0, .ref ko), (1, vi v)] 0 []
  refine g_iload_n C 1 dX10_isChosen_0 rfl ?_
  refine g_iconst C dX10_isChosen_1 ?_
  refine g_aload_n C 0 dX10_isChosen_2 rfl ?_
  refine g_getf C k_X10 6 f_X10_163 0 rfl rfl (by decide) rfl rfl dX10_isChosen_3 ?_
  refine g_iconst C dX10_isChosen_6 ?_
  refine g_isub C dX10_isChosen_7 ?_
  refine g_callSp C [vi v, vi 0, vi (nO - 1)] [] (c_X10_in x.1.2.1 g v 0 (nO - 1) hv (by omega) (by omega)) y_X10_in l_X10_141 [] rfl (by decide) rfl (Nat.le_of_ble_eq_true rfl) rfl (by decide) dX10_isChosen_8 ?_
  exact g_zretM C hR dX10_isChosen_11 (by omega) (by first | rfl | omega) rfl rfl

set_option maxHeartbeats 4000000 in
set_option maxRecDepth 100000 in
theorem c_X10_loss (l : Launch) (g : gD) (ko : Nat) (A : Nat → Nat) (th : Int) (hr : Int) (nL : Int) (nO : Int) (Q : Int) (nY : Int) (nE : Int) (nR : Int) (nB : Int) (LP : Int → Int) (LH : Int → Int) (LU : Int → Int) (p : Int) (h : Int) (u : Int) (hnL : 0 ≤ nL ∧ nL ≤ 40) (hp : -2147483648 ≤ p ∧ p < 2147483648) (hh : -2147483648 ≤ h ∧ h < 2147483648) (hu : -2147483648 ≤ u ∧ u < 2147483648) : gMet l g yX10_loss cX10_loss 5 (some .int) 2 0 0 42 [.ref ko, vi p, vi h, vi u] [(ko, cO 10 (kF th hr nL nO Q nY nE nR nB A)), (A 3, cA g 40 LP), (A 4, cA g 40 LH), (A 5, cA g 40 LU)] (fun v9 w9 => (((0 ≤ p ∧ p ≤ 2 ∧ 0 ≤ h ∧ h ≤ 2199 ∧ 0 ≤ u ∧ u ≤ 99999) ∧ nL < 40) ∧ v9 = some (vi (nL)) ∧ w9 = [(ko, cO 10 (kF 0 hr (nL + 1) nO Q nY nE nR nB A)), (A 3, cA g 40 (up LP nL p)), (A 4, cA g 40 (up LH nL h)), (A 5, cA g 40 (up LU nL u))]) ∨ ((¬ (0 ≤ p ∧ p ≤ 2 ∧ 0 ≤ h ∧ h ≤ 2199 ∧ 0 ≤ u ∧ u ≤ 99999)) ∧ v9 = some (vi 0) ∧ w9 = [(ko, cO 10 (kF 1 hr nL nO Q nY nE nR nB A)), (A 3, cA g 40 LP), (A 4, cA g 40 LH), (A 5, cA g 40 LU)]) ∨ (((0 ≤ p ∧ p ≤ 2 ∧ 0 ≤ h ∧ h ≤ 2199 ∧ 0 ≤ u ∧ u ≤ 99999) ∧ nL = 40) ∧ v9 = some (vi 0) ∧ w9 = [(ko, cO 10 (kF 2 hr nL nO Q nY nE nR nB A)), (A 3, cA g 40 LP), (A 4, cA g 40 LH), (A 5, cA g 40 LU)])) := by
  refine gMet.of y_X10_loss.2.2.2.2.1 (Nat.le_of_ble_eq_true rfl) ?_
  intro x hlx C hR hnm
  subst hlx
  have C : gC g x RX10 cX10_loss 5 2 0 0 42 := C
  show gW g x [(ko, cO 10 (kF th hr nL nO Q nY nE nR nB A)), (A 3, cA g 40 LP), (A 4, cA g 40 LH), (A 5, cA g 40 LU)] 0 0 [(0, .ref ko), (1, vi p), (2, vi h), (3, vi u)] 0 []
  have J29 : ∀ (w0 : Int), (w0 = if 0 ≤ p ∧ p ≤ 2 ∧ 0 ≤ h ∧ h ≤ 2199 ∧ 0 ≤ u ∧ u ≤ 99999 then 1 else 0) → gW g x [(ko, cO 10 (kF th hr nL nO Q nY nE nR nB A)), (A 3, cA g 40 LP), (A 4, cA g 40 LH), (A 5, cA g 40 LU)] 0 0 [(0, .ref ko), (1, vi p), (2, vi h), (3, vi u)] 29 [vi w0] := by
    intro w0 hJ29
    refine g_istore C [(4, vi w0), (0, .ref ko), (1, vi p), (2, vi h), (3, vi u)] dX10_loss_29 (by decide) rfl ?_
    refine g_aload_n C 1 dX10_loss_31 rfl ?_
    have J55 : ∀ (cd : Int), ((cd = 0 ∧ (0 ≤ p ∧ p ≤ 2 ∧ 0 ≤ h ∧ h ≤ 2199 ∧ 0 ≤ u ∧ u ≤ 99999) ∧ nL < 40) ∨ (cd = 1 ∧ ¬ (0 ≤ p ∧ p ≤ 2 ∧ 0 ≤ h ∧ h ≤ 2199 ∧ 0 ≤ u ∧ u ≤ 99999)) ∨ (cd = 2 ∧ (0 ≤ p ∧ p ≤ 2 ∧ 0 ≤ h ∧ h ≤ 2199 ∧ 0 ≤ u ∧ u ≤ 99999) ∧ nL = 40)) → gW g x [(ko, cO 10 (kF th hr nL nO Q nY nE nR nB A)), (A 3, cA g 40 LP), (A 4, cA g 40 LH), (A 5, cA g 40 LU)] 0 0 [(4, vi w0), (0, .ref ko), (1, vi p), (2, vi h), (3, vi u)] 55 [vi cd, .ref ko] := by
      intro cd hJ55
      refine g_callV C [vi cd] [] (c_X10_goesWell x.1.2.1 g ko A th hr nL nO Q nY nE nR nB cd (by omega)) y_X10_goesWell l_X10_156 [0] rfl (by decide) 0 rfl rfl rfl (Nat.le_of_ble_eq_true rfl) rfl (by decide) dX10_loss_55 (fun v9 w9 hp9 => ?_)
      obtain ⟨rfl, rfl⟩ := hp9
      simp only [putAll, List.set_cons_succ, List.set_cons_zero, List.cons_append, List.nil_append, List.append_nil, Option.toList]
      show gW g x [(ko, cO 10 (kF cd hr nL nO Q nY nE nR nB A)), (A 3, cA g 40 LP), (A 4, cA g 40 LH), (A 5, cA g 40 LU)] 0 0 [(4, vi w0), (0, .ref ko), (1, vi p), (2, vi h), (3, vi u)] 58 [vi (if cd = 0 then 1 else 0)]
      refine g_if_ne C 63 dX10_loss_58 (by decide) (by omega) (fun c58 => ?_) (fun c58 => ?_)
      · obtain ⟨rfl, hok⟩ : cd = 0 ∧ ((0 ≤ p ∧ p ≤ 2 ∧ 0 ≤ h ∧ h ≤ 2199 ∧ 0 ≤ u ∧ u ≤ 99999) ∧ nL < 40) := by
          rcases hJ55 with ⟨e9, h9⟩ | ⟨e9, h9⟩ | ⟨e9, h9⟩
          · exact ⟨e9, h9⟩
          · exfalso; omega
          · exfalso; omega
        refine g_aload_n C 1 dX10_loss_63 rfl ?_
        refine g_getf C k_X10 3 f_X10_7 0 rfl rfl (by decide) rfl rfl dX10_loss_64 ?_
        refine g_aload_n C 1 dX10_loss_67 rfl ?_
        refine g_getf C k_X10 2 f_X10_153 0 rfl rfl (by decide) rfl rfl dX10_loss_68 ?_
        refine g_iload_n C 2 dX10_loss_71 rfl ?_
        refine g_iast C 1 rfl (by omega) [(ko, cO 10 (kF 0 hr nL nO Q nY nE nR nB A)), (A 3, cA g 40 (up LP nL p)), (A 4, cA g 40 LH), (A 5, cA g 40 LU)] rfl dX10_loss_72 ?_
        refine g_aload_n C 1 dX10_loss_73 rfl ?_
        refine g_getf C k_X10 4 f_X10_13 0 rfl rfl (by decide) rfl rfl dX10_loss_74 ?_
        refine g_aload_n C 1 dX10_loss_77 rfl ?_
        refine g_getf C k_X10 2 f_X10_153 0 rfl rfl (by decide) rfl rfl dX10_loss_78 ?_
        refine g_iload_n C 3 dX10_loss_81 rfl ?_
        refine g_iast C 2 rfl (by omega) [(ko, cO 10 (kF 0 hr nL nO Q nY nE nR nB A)), (A 3, cA g 40 (up LP nL p)), (A 4, cA g 40 (up LH nL h)), (A 5, cA g 40 LU)] rfl dX10_loss_82 ?_
        refine g_aload_n C 1 dX10_loss_83 rfl ?_
        refine g_getf C k_X10 5 f_X10_16 0 rfl rfl (by decide) rfl rfl dX10_loss_84 ?_
        refine g_aload_n C 1 dX10_loss_87 rfl ?_
        refine g_getf C k_X10 2 f_X10_153 0 rfl rfl (by decide) rfl rfl dX10_loss_88 ?_
        refine g_iload_n C 4 dX10_loss_91 rfl ?_
        refine g_iast C 3 rfl (by omega) [(ko, cO 10 (kF 0 hr nL nO Q nY nE nR nB A)), (A 3, cA g 40 (up LP nL p)), (A 4, cA g 40 (up LH nL h)), (A 5, cA g 40 (up LU nL u))] rfl dX10_loss_92 ?_
        refine g_aload_n C 1 dX10_loss_93 rfl ?_
        refine g_dup C dX10_loss_94 rfl ?_
        refine g_getf C k_X10 2 f_X10_153 0 rfl rfl (by decide) rfl rfl dX10_loss_95 ?_
        refine g_iconst C dX10_loss_98 ?_
        refine g_iadd C dX10_loss_99 ?_
        refine g_putf C k_X10 tyX10_ok nmX10 2 f_X10_153 0 rfl rfl (by decide) rfl rfl rfl rfl (Nat.le_of_ble_eq_true rfl) [(ko, cO 10 (kF 0 hr (nL + 1) nO Q nY nE nR nB A)), (A 3, cA g 40 (up LP nL p)), (A 4, cA g 40 (up LH nL h)), (A 5, cA g 40 (up LU nL u))] rfl dX10_loss_100 ?_
        refine g_aload_n C 1 dX10_loss_103 rfl ?_
        refine g_getf C k_X10 2 f_X10_153 0 rfl rfl (by decide) rfl rfl dX10_loss_104 ?_
        refine g_iconst C dX10_loss_107 ?_
        refine g_isub C dX10_loss_108 ?_
        exact g_iret C hR dX10_loss_109 (Or.inl ⟨hok, (by first | rfl | (congr 2; omega)), rfl⟩) rfl
      refine g_iconst C dX10_loss_61 ?_
      rcases hJ55 with ⟨e9, h9⟩ | ⟨e9, h9⟩ | ⟨e9, h9⟩
      · exfalso; omega
      · subst e9; exact g_iret C hR dX10_loss_62 (Or.inr (Or.inl ⟨h9, rfl, rfl⟩)) rfl
      · subst e9; exact g_iret C hR dX10_loss_62 (Or.inr (Or.inr (⟨h9, rfl, rfl⟩))) rfl
    refine g_iload C 0 dX10_loss_32 rfl ?_
    refine g_if_ne C 41 dX10_loss_34 (by decide) (by omega) (fun c34 => ?_) (fun c34 => ?_)
    · refine g_aload_n C 1 dX10_loss_41 rfl ?_
      refine g_getf C k_X10 2 f_X10_153 0 rfl rfl (by decide) rfl rfl dX10_loss_42 ?_
      refine g_bipush C dX10_loss_45 (by decide) ?_
      refine g_icmp_ne C 54 dX10_loss_47 (by decide) (by omega) (by omega) (fun c47 => ?_) (fun c47 => ?_)
      · refine g_iconst C dX10_loss_54 ?_
        exact J55 0 (by omega)
      refine g_iconst C dX10_loss_50 ?_
      refine g_goto C 55 dX10_loss_51 (by decide) ?_
      exact J55 2 (by omega)
    refine g_iconst C dX10_loss_37 ?_
    refine g_goto C 55 dX10_loss_38 (by decide) ?_
    exact J55 1 (by omega)
  refine g_iload_n C 1 dX10_loss_0 rfl ?_
  refine g_callSp C [vi p] [] (c_X10_isPeril x.1.2.1 g p hp) y_X10_isPeril l_X10_145 [] rfl (by decide) rfl (Nat.le_of_ble_eq_true rfl) rfl (by decide) dX10_loss_1 ?_
  refine g_if_eq C 28 dX10_loss_4 (by decide) (by omega) (fun c4 => ?_) (fun c4 => ?_)
  · refine g_iconst C dX10_loss_28 ?_
    exact J29 0 (by omega)
  refine g_iload_n C 2 dX10_loss_7 rfl ?_
  refine g_callSp C [vi h] [] (c_X10_isHour x.1.2.1 g h hh) y_X10_isHour l_X10_149 [] rfl (by decide) rfl (Nat.le_of_ble_eq_true rfl) rfl (by decide) dX10_loss_8 ?_
  refine g_if_eq C 28 dX10_loss_11 (by decide) (by omega) (fun c11 => ?_) (fun c11 => ?_)
  · refine g_iconst C dX10_loss_28 ?_
    exact J29 0 (by omega)
  refine g_iload_n C 3 dX10_loss_14 rfl ?_
  refine g_iconst C dX10_loss_15 ?_
  refine g_ldc C (99999) n_X10_152 (by decide) dX10_loss_16 ?_
  refine g_callSp C [vi u, vi 0, vi 99999] [] (c_X10_in x.1.2.1 g u 0 99999 hu (by omega) (by omega)) y_X10_in l_X10_141 [] rfl (by decide) rfl (Nat.le_of_ble_eq_true rfl) rfl (by decide) dX10_loss_18 ?_
  refine g_if_eq C 28 dX10_loss_21 (by decide) (by omega) (fun c21 => ?_) (fun c21 => ?_)
  · refine g_iconst C dX10_loss_28 ?_
    exact J29 0 (by omega)
  refine g_iconst C dX10_loss_24 ?_
  refine g_goto C 29 dX10_loss_25 (by decide) ?_
  exact J29 1 (by omega)

set_option maxHeartbeats 4000000 in
set_option maxRecDepth 100000 in
theorem c_X10_creep (l : Launch) (g : gD) (ko : Nat) (A : Nat → Nat) (th : Int) (hr : Int) (nL : Int) (nO : Int) (Q : Int) (nY : Int) (nE : Int) (nR : Int) (nB : Int) (LU : Int → Int) (v : Int) (u : Int) (hnL : 0 ≤ nL ∧ nL ≤ 40) (hv : -2147483648 ≤ v ∧ v < 2147483648) (hu : -2147483648 ≤ u ∧ u < 2147483648) : gMet l g yX10_creep cX10_creep 5 (some .int) 1 0 0 22 [.ref ko, vi v, vi u] [(ko, cO 10 (kF th hr nL nO Q nY nE nR nB A)), (A 5, cA g 40 LU)] (fun v9 w9 => (((0 ≤ v ∧ v < nL) ∧ 0 ≤ u ∧ u ≤ 99999) ∧ v9 = some (vi (LU v)) ∧ w9 = [(ko, cO 10 (kF 0 hr nL nO Q nY nE nR nB A)), (A 5, cA g 40 (up LU v u))]) ∨ ((¬ (0 ≤ v ∧ v < nL)) ∧ v9 = some (vi 0) ∧ w9 = [(ko, cO 10 (kF 1 hr nL nO Q nY nE nR nB A)), (A 5, cA g 40 LU)]) ∨ (((0 ≤ v ∧ v < nL) ∧ ¬ (0 ≤ u ∧ u ≤ 99999)) ∧ v9 = some (vi 0) ∧ w9 = [(ko, cO 10 (kF 2 hr nL nO Q nY nE nR nB A)), (A 5, cA g 40 LU)])) := by
  refine gMet.of y_X10_creep.2.2.2.2.1 (Nat.le_of_ble_eq_true rfl) ?_
  intro x hlx C hR hnm
  subst hlx
  have C : gC g x RX10 cX10_creep 5 1 0 0 22 := C
  show gW g x [(ko, cO 10 (kF th hr nL nO Q nY nE nR nB A)), (A 5, cA g 40 LU)] 0 0 [(0, .ref ko), (1, vi v), (2, vi u)] 0 []
  refine g_iload_n C 1 dX10_creep_0 rfl ?_
  refine g_iconst C dX10_creep_1 ?_
  refine g_aload_n C 0 dX10_creep_2 rfl ?_
  refine g_getf C k_X10 2 f_X10_153 0 rfl rfl (by decide) rfl rfl dX10_creep_3 ?_
  refine g_iconst C dX10_creep_6 ?_
  refine g_isub C dX10_creep_7 ?_
  refine g_callSp C [vi v, vi 0, vi (nL - 1)] [] (c_X10_in x.1.2.1 g v 0 (nL - 1) hv (by omega) (by omega)) y_X10_in l_X10_141 [] rfl (by decide) rfl (Nat.le_of_ble_eq_true rfl) rfl (by decide) dX10_creep_8 ?_
  refine g_istore_n C [(3, vi (if 0 ≤ v ∧ v ≤ (nL - 1) then 1 else 0)), (0, .ref ko), (1, vi v), (2, vi u)] dX10_creep_11 (by decide) rfl ?_
  refine g_aload_n C 1 dX10_creep_12 rfl ?_
  have J36 : ∀ (cd : Int), ((cd = 0 ∧ (0 ≤ v ∧ v < nL) ∧ 0 ≤ u ∧ u ≤ 99999) ∨ (cd = 1 ∧ ¬ (0 ≤ v ∧ v < nL)) ∨ (cd = 2 ∧ (0 ≤ v ∧ v < nL) ∧ ¬ (0 ≤ u ∧ u ≤ 99999))) → gW g x [(ko, cO 10 (kF th hr nL nO Q nY nE nR nB A)), (A 5, cA g 40 LU)] 0 0 [(3, vi (if 0 ≤ v ∧ v ≤ (nL - 1) then 1 else 0)), (0, .ref ko), (1, vi v), (2, vi u)] 36 [vi cd, .ref ko] := by
    intro cd hJ36
    refine g_callV C [vi cd] [] (c_X10_goesWell x.1.2.1 g ko A th hr nL nO Q nY nE nR nB cd (by omega)) y_X10_goesWell l_X10_156 [0] rfl (by decide) 0 rfl rfl rfl (Nat.le_of_ble_eq_true rfl) rfl (by decide) dX10_creep_36 (fun v9 w9 hp9 => ?_)
    obtain ⟨rfl, rfl⟩ := hp9
    simp only [putAll, List.set_cons_succ, List.set_cons_zero, List.cons_append, List.nil_append, List.append_nil, Option.toList]
    show gW g x [(ko, cO 10 (kF cd hr nL nO Q nY nE nR nB A)), (A 5, cA g 40 LU)] 0 0 [(3, vi (if 0 ≤ v ∧ v ≤ (nL - 1) then 1 else 0)), (0, .ref ko), (1, vi v), (2, vi u)] 39 [vi (if cd = 0 then 1 else 0)]
    refine g_if_ne C 44 dX10_creep_39 (by decide) (by omega) (fun c39 => ?_) (fun c39 => ?_)
    · obtain ⟨rfl, hok⟩ : cd = 0 ∧ ((0 ≤ v ∧ v < nL) ∧ 0 ≤ u ∧ u ≤ 99999) := by
        rcases hJ36 with ⟨e9, h9⟩ | ⟨e9, h9⟩ | ⟨e9, h9⟩
        · exact ⟨e9, h9⟩
        · exfalso; omega
        · exfalso; omega
      refine g_aload_n C 1 dX10_creep_44 rfl ?_
      refine g_getf C k_X10 5 f_X10_16 0 rfl rfl (by decide) rfl rfl dX10_creep_45 ?_
      refine g_iload_n C 2 dX10_creep_48 rfl ?_
      refine g_iald C 1 rfl (by omega) dX10_creep_49 ?_
      refine g_istore C [(4, vi (LU v)), (3, vi (if 0 ≤ v ∧ v ≤ (nL - 1) then 1 else 0)), (0, .ref ko), (1, vi v), (2, vi u)] dX10_creep_50 (by decide) rfl ?_
      refine g_aload_n C 2 dX10_creep_52 rfl ?_
      refine g_getf C k_X10 5 f_X10_16 0 rfl rfl (by decide) rfl rfl dX10_creep_53 ?_
      refine g_iload_n C 3 dX10_creep_56 rfl ?_
      refine g_iload_n C 4 dX10_creep_57 rfl ?_
      refine g_iast C 1 rfl (by omega) [(ko, cO 10 (kF 0 hr nL nO Q nY nE nR nB A)), (A 5, cA g 40 (up LU v u))] rfl dX10_creep_58 ?_
      refine g_iload C 0 dX10_creep_59 rfl ?_
      exact g_iret C hR dX10_creep_61 (Or.inl ⟨hok, (by first | rfl | (congr 2; omega)), rfl⟩) rfl
    refine g_iconst C dX10_creep_42 ?_
    rcases hJ36 with ⟨e9, h9⟩ | ⟨e9, h9⟩ | ⟨e9, h9⟩
    · exfalso; omega
    · subst e9; exact g_iret C hR dX10_creep_43 (Or.inr (Or.inl ⟨h9, rfl, rfl⟩)) rfl
    · subst e9; exact g_iret C hR dX10_creep_43 (Or.inr (Or.inr (⟨h9, rfl, rfl⟩))) rfl
  refine g_iload_n C 0 dX10_creep_13 rfl ?_
  refine g_if_ne C 21 dX10_creep_14 (by decide) (by omega) (fun c14 => ?_) (fun c14 => ?_)
  · refine g_iload_n C 3 dX10_creep_21 rfl ?_
    refine g_iconst C dX10_creep_22 ?_
    refine g_ldc C (99999) n_X10_152 (by decide) dX10_creep_23 ?_
    refine g_callSp C [vi u, vi 0, vi 99999] [.ref ko] (c_X10_in x.1.2.1 g u 0 99999 hu (by omega) (by omega)) y_X10_in l_X10_141 [] rfl (by decide) rfl (Nat.le_of_ble_eq_true rfl) rfl (by decide) dX10_creep_25 ?_
    refine g_if_eq C 35 dX10_creep_28 (by decide) (by omega) (fun c28 => ?_) (fun c28 => ?_)
    · refine g_iconst C dX10_creep_35 ?_
      exact J36 2 (by omega)
    refine g_iconst C dX10_creep_31 ?_
    refine g_goto C 36 dX10_creep_32 (by decide) ?_
    exact J36 0 (by omega)
  refine g_iconst C dX10_creep_17 ?_
  refine g_goto C 36 dX10_creep_18 (by decide) ?_
  exact J36 1 (by omega)

set_option maxHeartbeats 4000000 in
set_option maxRecDepth 100000 in
theorem c_X10_unchoose (l : Launch) (g : gD) (ko : Nat) (A : Nat → Nat) (th : Int) (hr : Int) (nL : Int) (nO : Int) (Q : Int) (nY : Int) (nE : Int) (nR : Int) (nB : Int) (hnO : 0 ≤ nO ∧ nO ≤ 8) : gMet l g yX10_unchoose cX10_unchoose 1 (some .int) 1 0 0 21 [.ref ko] [(ko, cO 10 (kF th hr nL nO Q nY nE nR nB A))] (fun v9 w9 => ((1 ≤ nO) ∧ v9 = some (vi (nO - 1)) ∧ w9 = [(ko, cO 10 (kF 0 hr nL (nO - 1) Q nY nE nR nB A))]) ∨ ((nO = 0) ∧ v9 = some (vi 0) ∧ w9 = [(ko, cO 10 (kF 1 hr nL nO Q nY nE nR nB A))])) := by
  refine gMet.of y_X10_unchoose.2.2.2.2.1 (Nat.le_of_ble_eq_true rfl) ?_
  intro x hlx C hR hnm
  subst hlx
  have C : gC g x RX10 cX10_unchoose 1 1 0 0 21 := C
  show gW g x [(ko, cO 10 (kF th hr nL nO Q nY nE nR nB A))] 0 0 [(0, .ref ko)] 0 []
  refine g_aload_n C 0 dX10_unchoose_0 rfl ?_
  have J13 : ∀ (cd : Int), ((cd = 0 ∧ 1 ≤ nO) ∨ (cd = 1 ∧ nO = 0)) → gW g x [(ko, cO 10 (kF th hr nL nO Q nY nE nR nB A))] 0 0 [(0, .ref ko)] 13 [vi cd, .ref ko] := by
    intro cd hJ13
    refine g_callV C [vi cd] [] (c_X10_goesWell x.1.2.1 g ko A th hr nL nO Q nY nE nR nB cd (by omega)) y_X10_goesWell l_X10_156 [0] rfl (by decide) 0 rfl rfl rfl (Nat.le_of_ble_eq_true rfl) rfl (by decide) dX10_unchoose_13 (fun v9 w9 hp9 => ?_)
    obtain ⟨rfl, rfl⟩ := hp9
    simp only [putAll, List.set_cons_succ, List.set_cons_zero, List.cons_append, List.nil_append, List.append_nil, Option.toList]
    show gW g x [(ko, cO 10 (kF cd hr nL nO Q nY nE nR nB A))] 0 0 [(0, .ref ko)] 16 [vi (if cd = 0 then 1 else 0)]
    refine g_if_ne C 21 dX10_unchoose_16 (by decide) (by omega) (fun c16 => ?_) (fun c16 => ?_)
    · obtain ⟨rfl, hok⟩ : cd = 0 ∧ (1 ≤ nO) := by
        rcases hJ13 with ⟨e9, h9⟩ | ⟨e9, h9⟩
        · exact ⟨e9, h9⟩
        · exfalso; omega
      refine g_aload_n C 0 dX10_unchoose_21 rfl ?_
      refine g_dup C dX10_unchoose_22 rfl ?_
      refine g_getf C k_X10 6 f_X10_163 0 rfl rfl (by decide) rfl rfl dX10_unchoose_23 ?_
      refine g_iconst C dX10_unchoose_26 ?_
      refine g_isub C dX10_unchoose_27 ?_
      refine g_putf C k_X10 tyX10_ok nmX10 6 f_X10_163 0 rfl rfl (by decide) rfl rfl rfl rfl (Nat.le_of_ble_eq_true rfl) [(ko, cO 10 (kF 0 hr nL (nO - 1) Q nY nE nR nB A))] rfl dX10_unchoose_28 ?_
      refine g_aload_n C 0 dX10_unchoose_31 rfl ?_
      refine g_getf C k_X10 6 f_X10_163 0 rfl rfl (by decide) rfl rfl dX10_unchoose_32 ?_
      exact g_iret C hR dX10_unchoose_35 (Or.inl ⟨hok, (by first | rfl | (congr 2; omega)), rfl⟩) rfl
    refine g_iconst C dX10_unchoose_19 ?_
    rcases hJ13 with ⟨e9, h9⟩ | ⟨e9, h9⟩
    · exfalso; omega
    · subst e9; exact g_iret C hR dX10_unchoose_20 (Or.inr (⟨h9, rfl, rfl⟩)) rfl
  refine g_aload_n C 0 dX10_unchoose_1 rfl ?_
  refine g_getf C k_X10 6 f_X10_163 0 rfl rfl (by decide) rfl rfl dX10_unchoose_2 ?_
  refine g_if_le C 12 dX10_unchoose_5 (by decide) (by omega) (fun c5 => ?_) (fun c5 => ?_)
  · refine g_iconst C dX10_unchoose_12 ?_
    exact J13 1 (by omega)
  refine g_iconst C dX10_unchoose_8 ?_
  refine g_goto C 13 dX10_unchoose_9 (by decide) ?_
  exact J13 0 (by omega)

set_option maxHeartbeats 4000000 in
set_option maxRecDepth 100000 in
theorem c_X10_quota (l : Launch) (g : gD) (ko : Nat) (A : Nat → Nat) (th : Int) (hr : Int) (nL : Int) (nO : Int) (Q : Int) (nY : Int) (nE : Int) (nR : Int) (nB : Int) (v : Int) (hv : -2147483648 ≤ v ∧ v < 2147483648) : gMet l g yX10_quota cX10_quota 3 (some .int) 1 0 0 22 [.ref ko, vi v] [(ko, cO 10 (kF th hr nL nO Q nY nE nR nB A))] (fun v9 w9 => ((0 ≤ v ∧ v ≤ 90) ∧ v9 = some (vi (Q)) ∧ w9 = [(ko, cO 10 (kF 0 hr nL nO v nY nE nR nB A))]) ∨ ((¬ (0 ≤ v ∧ v ≤ 90)) ∧ v9 = some (vi 0) ∧ w9 = [(ko, cO 10 (kF 1 hr nL nO Q nY nE nR nB A))])) := by
  refine gMet.of y_X10_quota.2.2.2.2.1 (Nat.le_of_ble_eq_true rfl) ?_
  intro x hlx C hR hnm
  subst hlx
  have C : gC g x RX10 cX10_quota 3 1 0 0 22 := C
  show gW g x [(ko, cO 10 (kF th hr nL nO Q nY nE nR nB A))] 0 0 [(0, .ref ko), (1, vi v)] 0 []
  refine g_aload_n C 0 dX10_quota_0 rfl ?_
  have J16 : ∀ (cd : Int), ((cd = 0 ∧ 0 ≤ v ∧ v ≤ 90) ∨ (cd = 1 ∧ ¬ (0 ≤ v ∧ v ≤ 90))) → gW g x [(ko, cO 10 (kF th hr nL nO Q nY nE nR nB A))] 0 0 [(0, .ref ko), (1, vi v)] 16 [vi cd, .ref ko] := by
    intro cd hJ16
    refine g_callV C [vi cd] [] (c_X10_goesWell x.1.2.1 g ko A th hr nL nO Q nY nE nR nB cd (by omega)) y_X10_goesWell l_X10_156 [0] rfl (by decide) 0 rfl rfl rfl (Nat.le_of_ble_eq_true rfl) rfl (by decide) dX10_quota_16 (fun v9 w9 hp9 => ?_)
    obtain ⟨rfl, rfl⟩ := hp9
    simp only [putAll, List.set_cons_succ, List.set_cons_zero, List.cons_append, List.nil_append, List.append_nil, Option.toList]
    show gW g x [(ko, cO 10 (kF cd hr nL nO Q nY nE nR nB A))] 0 0 [(0, .ref ko), (1, vi v)] 19 [vi (if cd = 0 then 1 else 0)]
    refine g_if_ne C 24 dX10_quota_19 (by decide) (by omega) (fun c19 => ?_) (fun c19 => ?_)
    · obtain ⟨rfl, hok⟩ : cd = 0 ∧ (0 ≤ v ∧ v ≤ 90) := by
        rcases hJ16 with ⟨e9, h9⟩ | ⟨e9, h9⟩
        · exact ⟨e9, h9⟩
        · exfalso; omega
      refine g_aload_n C 0 dX10_quota_24 rfl ?_
      refine g_getf C k_X10 10 f_X10_170 0 rfl rfl (by decide) rfl rfl dX10_quota_25 ?_
      refine g_istore_n C [(2, vi Q), (0, .ref ko), (1, vi v)] dX10_quota_28 (by decide) rfl ?_
      refine g_aload_n C 1 dX10_quota_29 rfl ?_
      refine g_iload_n C 2 dX10_quota_30 rfl ?_
      refine g_putf C k_X10 tyX10_ok nmX10 10 f_X10_170 0 rfl rfl (by decide) rfl rfl rfl rfl (Nat.le_of_ble_eq_true rfl) [(ko, cO 10 (kF 0 hr nL nO v nY nE nR nB A))] rfl dX10_quota_31 ?_
      refine g_iload_n C 0 dX10_quota_34 rfl ?_
      exact g_iret C hR dX10_quota_35 (Or.inl ⟨hok, (by first | rfl | (congr 2; omega)), rfl⟩) rfl
    refine g_iconst C dX10_quota_22 ?_
    rcases hJ16 with ⟨e9, h9⟩ | ⟨e9, h9⟩
    · exfalso; omega
    · subst e9; exact g_iret C hR dX10_quota_23 (Or.inr (⟨h9, rfl, rfl⟩)) rfl
  refine g_iload_n C 1 dX10_quota_1 rfl ?_
  refine g_iconst C dX10_quota_2 ?_
  refine g_bipush C dX10_quota_3 (by decide) ?_
  refine g_callSp C [vi v, vi 0, vi 90] [.ref ko] (c_X10_in x.1.2.1 g v 0 90 hv (by omega) (by omega)) y_X10_in l_X10_141 [] rfl (by decide) rfl (Nat.le_of_ble_eq_true rfl) rfl (by decide) dX10_quota_5 ?_
  refine g_if_eq C 15 dX10_quota_8 (by decide) (by omega) (fun c8 => ?_) (fun c8 => ?_)
  · refine g_iconst C dX10_quota_15 ?_
    exact J16 1 (by omega)
  refine g_iconst C dX10_quota_11 ?_
  refine g_goto C 16 dX10_quota_12 (by decide) ?_
  exact J16 0 (by omega)

set_option maxHeartbeats 4000000 in
set_option maxRecDepth 100000 in
theorem c_X10_layer (l : Launch) (g : gD) (ko : Nat) (A : Nat → Nat) (th : Int) (hr : Int) (nL : Int) (nO : Int) (Q : Int) (nY : Int) (nE : Int) (nR : Int) (nB : Int) (FL : Int → Int) (DP : Int → Int) (SH : Int → Int) (RE : Int → Int) (PR : Int → Int) (RA : Int → Int) (a1 : Int) (a2 : Int) (a3 : Int) (a4 : Int) (a5 : Int) (a6 : Int) (hnY : 0 ≤ nY ∧ nY ≤ 5) (ha1 : -2147483648 ≤ a1 ∧ a1 < 2147483648) (ha2 : -2147483648 ≤ a2 ∧ a2 < 2147483648) (ha3 : -2147483648 ≤ a3 ∧ a3 < 2147483648) (ha4 : -2147483648 ≤ a4 ∧ a4 < 2147483648) (ha5 : -2147483648 ≤ a5 ∧ a5 < 2147483648) (ha6 : -2147483648 ≤ a6 ∧ a6 < 2147483648) : gMet l g yX10_layer cX10_layer 8 (some .int) 1 0 0 22 [.ref ko, vi a1, vi a2, vi a3, vi a4, vi a5, vi a6] [(ko, cO 10 (kF th hr nL nO Q nY nE nR nB A)), (A 12, cA g 5 FL), (A 13, cA g 5 DP), (A 14, cA g 5 SH), (A 15, cA g 5 RE), (A 16, cA g 5 PR), (A 17, cA g 5 RA)] (fun v9 w9 => ((((0 ≤ a1 ∧ a1 ≤ 999999) ∧ (1 ≤ a2 ∧ a2 ≤ 999999) ∧ (1 ≤ a3 ∧ a3 ≤ 100) ∧ (0 ≤ a4 ∧ a4 ≤ 3) ∧ (0 ≤ a5 ∧ a5 ≤ 99999) ∧ (0 ≤ a6 ∧ a6 ≤ 150)) ∧ nY < 5) ∧ v9 = some (vi (nY)) ∧ w9 = [(ko, cO 10 (kF 0 hr nL nO Q (nY + 1) nE nR nB A)), (A 12, cA g 5 (up FL nY a1)), (A 13, cA g 5 (up DP nY a2)), (A 14, cA g 5 (up SH nY a3)), (A 15, cA g 5 (up RE nY a4)), (A 16, cA g 5 (up PR nY a5)), (A 17, cA g 5 (up RA nY a6))]) ∨ ((¬ ((0 ≤ a1 ∧ a1 ≤ 999999) ∧ (1 ≤ a2 ∧ a2 ≤ 999999) ∧ (1 ≤ a3 ∧ a3 ≤ 100) ∧ (0 ≤ a4 ∧ a4 ≤ 3) ∧ (0 ≤ a5 ∧ a5 ≤ 99999) ∧ (0 ≤ a6 ∧ a6 ≤ 150))) ∧ v9 = some (vi 0) ∧ w9 = [(ko, cO 10 (kF 1 hr nL nO Q nY nE nR nB A)), (A 12, cA g 5 FL), (A 13, cA g 5 DP), (A 14, cA g 5 SH), (A 15, cA g 5 RE), (A 16, cA g 5 PR), (A 17, cA g 5 RA)]) ∨ ((((0 ≤ a1 ∧ a1 ≤ 999999) ∧ (1 ≤ a2 ∧ a2 ≤ 999999) ∧ (1 ≤ a3 ∧ a3 ≤ 100) ∧ (0 ≤ a4 ∧ a4 ≤ 3) ∧ (0 ≤ a5 ∧ a5 ≤ 99999) ∧ (0 ≤ a6 ∧ a6 ≤ 150)) ∧ nY = 5) ∧ v9 = some (vi 0) ∧ w9 = [(ko, cO 10 (kF 2 hr nL nO Q nY nE nR nB A)), (A 12, cA g 5 FL), (A 13, cA g 5 DP), (A 14, cA g 5 SH), (A 15, cA g 5 RE), (A 16, cA g 5 PR), (A 17, cA g 5 RA)])) := by
  refine gMet.of y_X10_layer.2.2.2.2.1 (Nat.le_of_ble_eq_true rfl) ?_
  intro x hlx C hR hnm
  subst hlx
  have C : gC g x RX10 cX10_layer 8 1 0 0 22 := C
  show gW g x [(ko, cO 10 (kF th hr nL nO Q nY nE nR nB A)), (A 12, cA g 5 FL), (A 13, cA g 5 DP), (A 14, cA g 5 SH), (A 15, cA g 5 RE), (A 16, cA g 5 PR), (A 17, cA g 5 RA)] 0 0 [(0, .ref ko), (1, vi a1), (2, vi a2), (3, vi a3), (4, vi a4), (5, vi a5), (6, vi a6)] 0 []
  have J68 : ∀ (w0 : Int), (w0 = if (0 ≤ a1 ∧ a1 ≤ 999999) ∧ (1 ≤ a2 ∧ a2 ≤ 999999) ∧ (1 ≤ a3 ∧ a3 ≤ 100) ∧ (0 ≤ a4 ∧ a4 ≤ 3) ∧ (0 ≤ a5 ∧ a5 ≤ 99999) ∧ (0 ≤ a6 ∧ a6 ≤ 150) then 1 else 0) → gW g x [(ko, cO 10 (kF th hr nL nO Q nY nE nR nB A)), (A 12, cA g 5 FL), (A 13, cA g 5 DP), (A 14, cA g 5 SH), (A 15, cA g 5 RE), (A 16, cA g 5 PR), (A 17, cA g 5 RA)] 0 0 [(0, .ref ko), (1, vi a1), (2, vi a2), (3, vi a3), (4, vi a4), (5, vi a5), (6, vi a6)] 68 [vi w0] := by
    intro w0 hJ68
    refine g_istore C [(7, vi w0), (0, .ref ko), (1, vi a1), (2, vi a2), (3, vi a3), (4, vi a4), (5, vi a5), (6, vi a6)] dX10_layer_68 (by decide) rfl ?_
    refine g_aload_n C 1 dX10_layer_70 rfl ?_
    have J93 : ∀ (cd : Int), ((cd = 0 ∧ ((0 ≤ a1 ∧ a1 ≤ 999999) ∧ (1 ≤ a2 ∧ a2 ≤ 999999) ∧ (1 ≤ a3 ∧ a3 ≤ 100) ∧ (0 ≤ a4 ∧ a4 ≤ 3) ∧ (0 ≤ a5 ∧ a5 ≤ 99999) ∧ (0 ≤ a6 ∧ a6 ≤ 150)) ∧ nY < 5) ∨ (cd = 1 ∧ ¬ ((0 ≤ a1 ∧ a1 ≤ 999999) ∧ (1 ≤ a2 ∧ a2 ≤ 999999) ∧ (1 ≤ a3 ∧ a3 ≤ 100) ∧ (0 ≤ a4 ∧ a4 ≤ 3) ∧ (0 ≤ a5 ∧ a5 ≤ 99999) ∧ (0 ≤ a6 ∧ a6 ≤ 150))) ∨ (cd = 2 ∧ ((0 ≤ a1 ∧ a1 ≤ 999999) ∧ (1 ≤ a2 ∧ a2 ≤ 999999) ∧ (1 ≤ a3 ∧ a3 ≤ 100) ∧ (0 ≤ a4 ∧ a4 ≤ 3) ∧ (0 ≤ a5 ∧ a5 ≤ 99999) ∧ (0 ≤ a6 ∧ a6 ≤ 150)) ∧ nY = 5)) → gW g x [(ko, cO 10 (kF th hr nL nO Q nY nE nR nB A)), (A 12, cA g 5 FL), (A 13, cA g 5 DP), (A 14, cA g 5 SH), (A 15, cA g 5 RE), (A 16, cA g 5 PR), (A 17, cA g 5 RA)] 0 0 [(7, vi w0), (0, .ref ko), (1, vi a1), (2, vi a2), (3, vi a3), (4, vi a4), (5, vi a5), (6, vi a6)] 93 [vi cd, .ref ko] := by
      intro cd hJ93
      refine g_callV C [vi cd] [] (c_X10_goesWell x.1.2.1 g ko A th hr nL nO Q nY nE nR nB cd (by omega)) y_X10_goesWell l_X10_156 [0] rfl (by decide) 0 rfl rfl rfl (Nat.le_of_ble_eq_true rfl) rfl (by decide) dX10_layer_93 (fun v9 w9 hp9 => ?_)
      obtain ⟨rfl, rfl⟩ := hp9
      simp only [putAll, List.set_cons_succ, List.set_cons_zero, List.cons_append, List.nil_append, List.append_nil, Option.toList]
      show gW g x [(ko, cO 10 (kF cd hr nL nO Q nY nE nR nB A)), (A 12, cA g 5 FL), (A 13, cA g 5 DP), (A 14, cA g 5 SH), (A 15, cA g 5 RE), (A 16, cA g 5 PR), (A 17, cA g 5 RA)] 0 0 [(7, vi w0), (0, .ref ko), (1, vi a1), (2, vi a2), (3, vi a3), (4, vi a4), (5, vi a5), (6, vi a6)] 96 [vi (if cd = 0 then 1 else 0)]
      refine g_if_ne C 101 dX10_layer_96 (by decide) (by omega) (fun c96 => ?_) (fun c96 => ?_)
      · obtain ⟨rfl, hok⟩ : cd = 0 ∧ (((0 ≤ a1 ∧ a1 ≤ 999999) ∧ (1 ≤ a2 ∧ a2 ≤ 999999) ∧ (1 ≤ a3 ∧ a3 ≤ 100) ∧ (0 ≤ a4 ∧ a4 ≤ 3) ∧ (0 ≤ a5 ∧ a5 ≤ 99999) ∧ (0 ≤ a6 ∧ a6 ≤ 150)) ∧ nY < 5) := by
          rcases hJ93 with ⟨e9, h9⟩ | ⟨e9, h9⟩ | ⟨e9, h9⟩
          · exact ⟨e9, h9⟩
          · exfalso; omega
          · exfalso; omega
        refine g_aload_n C 1 dX10_layer_101 rfl ?_
        refine g_getf C k_X10 12 f_X10_28 0 rfl rfl (by decide) rfl rfl dX10_layer_102 ?_
        refine g_aload_n C 1 dX10_layer_105 rfl ?_
        refine g_getf C k_X10 11 f_X10_176 0 rfl rfl (by decide) rfl rfl dX10_layer_106 ?_
        refine g_iload_n C 2 dX10_layer_109 rfl ?_
        refine g_iast C 1 rfl (by omega) [(ko, cO 10 (kF 0 hr nL nO Q nY nE nR nB A)), (A 12, cA g 5 (up FL nY a1)), (A 13, cA g 5 DP), (A 14, cA g 5 SH), (A 15, cA g 5 RE), (A 16, cA g 5 PR), (A 17, cA g 5 RA)] rfl dX10_layer_110 ?_
        refine g_aload_n C 1 dX10_layer_111 rfl ?_
        refine g_getf C k_X10 13 f_X10_31 0 rfl rfl (by decide) rfl rfl dX10_layer_112 ?_
        refine g_aload_n C 1 dX10_layer_115 rfl ?_
        refine g_getf C k_X10 11 f_X10_176 0 rfl rfl (by decide) rfl rfl dX10_layer_116 ?_
        refine g_iload_n C 3 dX10_layer_119 rfl ?_
        refine g_iast C 2 rfl (by omega) [(ko, cO 10 (kF 0 hr nL nO Q nY nE nR nB A)), (A 12, cA g 5 (up FL nY a1)), (A 13, cA g 5 (up DP nY a2)), (A 14, cA g 5 SH), (A 15, cA g 5 RE), (A 16, cA g 5 PR), (A 17, cA g 5 RA)] rfl dX10_layer_120 ?_
        refine g_aload_n C 1 dX10_layer_121 rfl ?_
        refine g_getf C k_X10 14 f_X10_34 0 rfl rfl (by decide) rfl rfl dX10_layer_122 ?_
        refine g_aload_n C 1 dX10_layer_125 rfl ?_
        refine g_getf C k_X10 11 f_X10_176 0 rfl rfl (by decide) rfl rfl dX10_layer_126 ?_
        refine g_iload_n C 4 dX10_layer_129 rfl ?_
        refine g_iast C 3 rfl (by omega) [(ko, cO 10 (kF 0 hr nL nO Q nY nE nR nB A)), (A 12, cA g 5 (up FL nY a1)), (A 13, cA g 5 (up DP nY a2)), (A 14, cA g 5 (up SH nY a3)), (A 15, cA g 5 RE), (A 16, cA g 5 PR), (A 17, cA g 5 RA)] rfl dX10_layer_130 ?_
        refine g_aload_n C 1 dX10_layer_131 rfl ?_
        refine g_getf C k_X10 15 f_X10_37 0 rfl rfl (by decide) rfl rfl dX10_layer_132 ?_
        refine g_aload_n C 1 dX10_layer_135 rfl ?_
        refine g_getf C k_X10 11 f_X10_176 0 rfl rfl (by decide) rfl rfl dX10_layer_136 ?_
        refine g_iload C 5 dX10_layer_139 rfl ?_
        refine g_iast C 4 rfl (by omega) [(ko, cO 10 (kF 0 hr nL nO Q nY nE nR nB A)), (A 12, cA g 5 (up FL nY a1)), (A 13, cA g 5 (up DP nY a2)), (A 14, cA g 5 (up SH nY a3)), (A 15, cA g 5 (up RE nY a4)), (A 16, cA g 5 PR), (A 17, cA g 5 RA)] rfl dX10_layer_141 ?_
        refine g_aload_n C 1 dX10_layer_142 rfl ?_
        refine g_getf C k_X10 16 f_X10_40 0 rfl rfl (by decide) rfl rfl dX10_layer_143 ?_
        refine g_aload_n C 1 dX10_layer_146 rfl ?_
        refine g_getf C k_X10 11 f_X10_176 0 rfl rfl (by decide) rfl rfl dX10_layer_147 ?_
        refine g_iload C 6 dX10_layer_150 rfl ?_
        refine g_iast C 5 rfl (by omega) [(ko, cO 10 (kF 0 hr nL nO Q nY nE nR nB A)), (A 12, cA g 5 (up FL nY a1)), (A 13, cA g 5 (up DP nY a2)), (A 14, cA g 5 (up SH nY a3)), (A 15, cA g 5 (up RE nY a4)), (A 16, cA g 5 (up PR nY a5)), (A 17, cA g 5 RA)] rfl dX10_layer_152 ?_
        refine g_aload_n C 1 dX10_layer_153 rfl ?_
        refine g_getf C k_X10 17 f_X10_43 0 rfl rfl (by decide) rfl rfl dX10_layer_154 ?_
        refine g_aload_n C 1 dX10_layer_157 rfl ?_
        refine g_getf C k_X10 11 f_X10_176 0 rfl rfl (by decide) rfl rfl dX10_layer_158 ?_
        refine g_iload C 7 dX10_layer_161 rfl ?_
        refine g_iast C 6 rfl (by omega) [(ko, cO 10 (kF 0 hr nL nO Q nY nE nR nB A)), (A 12, cA g 5 (up FL nY a1)), (A 13, cA g 5 (up DP nY a2)), (A 14, cA g 5 (up SH nY a3)), (A 15, cA g 5 (up RE nY a4)), (A 16, cA g 5 (up PR nY a5)), (A 17, cA g 5 (up RA nY a6))] rfl dX10_layer_163 ?_
        refine g_aload_n C 1 dX10_layer_164 rfl ?_
        refine g_dup C dX10_layer_165 rfl ?_
        refine g_getf C k_X10 11 f_X10_176 0 rfl rfl (by decide) rfl rfl dX10_layer_166 ?_
        refine g_iconst C dX10_layer_169 ?_
        refine g_iadd C dX10_layer_170 ?_
        refine g_putf C k_X10 tyX10_ok nmX10 11 f_X10_176 0 rfl rfl (by decide) rfl rfl rfl rfl (Nat.le_of_ble_eq_true rfl) [(ko, cO 10 (kF 0 hr nL nO Q (nY + 1) nE nR nB A)), (A 12, cA g 5 (up FL nY a1)), (A 13, cA g 5 (up DP nY a2)), (A 14, cA g 5 (up SH nY a3)), (A 15, cA g 5 (up RE nY a4)), (A 16, cA g 5 (up PR nY a5)), (A 17, cA g 5 (up RA nY a6))] rfl dX10_layer_171 ?_
        refine g_aload_n C 1 dX10_layer_174 rfl ?_
        refine g_getf C k_X10 11 f_X10_176 0 rfl rfl (by decide) rfl rfl dX10_layer_175 ?_
        refine g_iconst C dX10_layer_178 ?_
        refine g_isub C dX10_layer_179 ?_
        exact g_iret C hR dX10_layer_180 (Or.inl ⟨hok, (by first | rfl | (congr 2; omega)), rfl⟩) rfl
      refine g_iconst C dX10_layer_99 ?_
      rcases hJ93 with ⟨e9, h9⟩ | ⟨e9, h9⟩ | ⟨e9, h9⟩
      · exfalso; omega
      · subst e9; exact g_iret C hR dX10_layer_100 (Or.inr (Or.inl ⟨h9, rfl, rfl⟩)) rfl
      · subst e9; exact g_iret C hR dX10_layer_100 (Or.inr (Or.inr (⟨h9, rfl, rfl⟩))) rfl
    refine g_iload C 0 dX10_layer_71 rfl ?_
    refine g_if_ne C 80 dX10_layer_73 (by decide) (by omega) (fun c73 => ?_) (fun c73 => ?_)
    · refine g_aload_n C 1 dX10_layer_80 rfl ?_
      refine g_getf C k_X10 11 f_X10_176 0 rfl rfl (by decide) rfl rfl dX10_layer_81 ?_
      refine g_iconst C dX10_layer_84 ?_
      refine g_icmp_ne C 92 dX10_layer_85 (by decide) (by omega) (by omega) (fun c85 => ?_) (fun c85 => ?_)
      · refine g_iconst C dX10_layer_92 ?_
        exact J93 0 (by omega)
      refine g_iconst C dX10_layer_88 ?_
      refine g_goto C 93 dX10_layer_89 (by decide) ?_
      exact J93 2 (by omega)
    refine g_iconst C dX10_layer_76 ?_
    refine g_goto C 93 dX10_layer_77 (by decide) ?_
    exact J93 1 (by omega)
  refine g_iload_n C 1 dX10_layer_0 rfl ?_
  refine g_iconst C dX10_layer_1 ?_
  refine g_ldc C (999999) n_X10_175 (by decide) dX10_layer_2 ?_
  refine g_callSp C [vi a1, vi 0, vi 999999] [] (c_X10_in x.1.2.1 g a1 0 999999 ha1 (by omega) (by omega)) y_X10_in l_X10_141 [] rfl (by decide) rfl (Nat.le_of_ble_eq_true rfl) rfl (by decide) dX10_layer_4 ?_
  refine g_if_eq C 67 dX10_layer_7 (by decide) (by omega) (fun c7 => ?_) (fun c7 => ?_)
  · refine g_iconst C dX10_layer_67 ?_
    exact J68 0 (by omega)
  refine g_iload_n C 2 dX10_layer_10 rfl ?_
  refine g_iconst C dX10_layer_11 ?_
  refine g_ldc C (999999) n_X10_175 (by decide) dX10_layer_12 ?_
  refine g_callSp C [vi a2, vi 1, vi 999999] [] (c_X10_in x.1.2.1 g a2 1 999999 ha2 (by omega) (by omega)) y_X10_in l_X10_141 [] rfl (by decide) rfl (Nat.le_of_ble_eq_true rfl) rfl (by decide) dX10_layer_14 ?_
  refine g_if_eq C 67 dX10_layer_17 (by decide) (by omega) (fun c17 => ?_) (fun c17 => ?_)
  · refine g_iconst C dX10_layer_67 ?_
    exact J68 0 (by omega)
  refine g_iload_n C 3 dX10_layer_20 rfl ?_
  refine g_iconst C dX10_layer_21 ?_
  refine g_bipush C dX10_layer_22 (by decide) ?_
  refine g_callSp C [vi a3, vi 1, vi 100] [] (c_X10_in x.1.2.1 g a3 1 100 ha3 (by omega) (by omega)) y_X10_in l_X10_141 [] rfl (by decide) rfl (Nat.le_of_ble_eq_true rfl) rfl (by decide) dX10_layer_24 ?_
  refine g_if_eq C 67 dX10_layer_27 (by decide) (by omega) (fun c27 => ?_) (fun c27 => ?_)
  · refine g_iconst C dX10_layer_67 ?_
    exact J68 0 (by omega)
  refine g_iload C 4 dX10_layer_30 rfl ?_
  refine g_iconst C dX10_layer_32 ?_
  refine g_iconst C dX10_layer_33 ?_
  refine g_callSp C [vi a4, vi 0, vi 3] [] (c_X10_in x.1.2.1 g a4 0 3 ha4 (by omega) (by omega)) y_X10_in l_X10_141 [] rfl (by decide) rfl (Nat.le_of_ble_eq_true rfl) rfl (by decide) dX10_layer_34 ?_
  refine g_if_eq C 67 dX10_layer_37 (by decide) (by omega) (fun c37 => ?_) (fun c37 => ?_)
  · refine g_iconst C dX10_layer_67 ?_
    exact J68 0 (by omega)
  refine g_iload C 5 dX10_layer_40 rfl ?_
  refine g_iconst C dX10_layer_42 ?_
  refine g_ldc C (99999) n_X10_152 (by decide) dX10_layer_43 ?_
  refine g_callSp C [vi a5, vi 0, vi 99999] [] (c_X10_in x.1.2.1 g a5 0 99999 ha5 (by omega) (by omega)) y_X10_in l_X10_141 [] rfl (by decide) rfl (Nat.le_of_ble_eq_true rfl) rfl (by decide) dX10_layer_45 ?_
  refine g_if_eq C 67 dX10_layer_48 (by decide) (by omega) (fun c48 => ?_) (fun c48 => ?_)
  · refine g_iconst C dX10_layer_67 ?_
    exact J68 0 (by omega)
  refine g_iload C 6 dX10_layer_51 rfl ?_
  refine g_iconst C dX10_layer_53 ?_
  refine g_sipush C dX10_layer_54 (by decide) ?_
  refine g_callSp C [vi a6, vi 0, vi 150] [] (c_X10_in x.1.2.1 g a6 0 150 ha6 (by omega) (by omega)) y_X10_in l_X10_141 [] rfl (by decide) rfl (Nat.le_of_ble_eq_true rfl) rfl (by decide) dX10_layer_57 ?_
  refine g_if_eq C 67 dX10_layer_60 (by decide) (by omega) (fun c60 => ?_) (fun c60 => ?_)
  · refine g_iconst C dX10_layer_67 ?_
    exact J68 0 (by omega)
  refine g_iconst C dX10_layer_63 ?_
  refine g_goto C 68 dX10_layer_64 (by decide) ?_
  exact J68 1 (by omega)

set_option maxHeartbeats 4000000 in
set_option maxRecDepth 100000 in
theorem c_X10_station (l : Launch) (g : gD) (ko : Nat) (A : Nat → Nat) (th : Int) (hr : Int) (nL : Int) (nO : Int) (Q : Int) (nY : Int) (nE : Int) (nR : Int) (nB : Int) (EC : Int → Int) (EF : Int → Int) (v : Int) (hnE : 0 ≤ nE ∧ nE ≤ 6) (hv : -2147483648 ≤ v ∧ v < 2147483648) : gMet l g yX10_station cX10_station 3 (some .int) 1 0 0 22 [.ref ko, vi v] [(ko, cO 10 (kF th hr nL nO Q nY nE nR nB A)), (A 23, cA g 6 EC), (A 24, cA g 6 EF)] (fun v9 w9 => (((0 ≤ v ∧ v ≤ 15) ∧ nE < 6) ∧ v9 = some (vi (nE)) ∧ w9 = [(ko, cO 10 (kF 0 hr nL nO Q nY (nE + 1) nR nB A)), (A 23, cA g 6 (up EC nE v)), (A 24, cA g 6 (up EF nE 2200))]) ∨ ((¬ (0 ≤ v ∧ v ≤ 15)) ∧ v9 = some (vi 0) ∧ w9 = [(ko, cO 10 (kF 1 hr nL nO Q nY nE nR nB A)), (A 23, cA g 6 EC), (A 24, cA g 6 EF)]) ∨ (((0 ≤ v ∧ v ≤ 15) ∧ nE = 6) ∧ v9 = some (vi 0) ∧ w9 = [(ko, cO 10 (kF 2 hr nL nO Q nY nE nR nB A)), (A 23, cA g 6 EC), (A 24, cA g 6 EF)])) := by
  refine gMet.of y_X10_station.2.2.2.2.1 (Nat.le_of_ble_eq_true rfl) ?_
  intro x hlx C hR hnm
  subst hlx
  have C : gC g x RX10 cX10_station 3 1 0 0 22 := C
  show gW g x [(ko, cO 10 (kF th hr nL nO Q nY nE nR nB A)), (A 23, cA g 6 EC), (A 24, cA g 6 EF)] 0 0 [(0, .ref ko), (1, vi v)] 0 []
  refine g_iload_n C 1 dX10_station_0 rfl ?_
  refine g_iconst C dX10_station_1 ?_
  refine g_bipush C dX10_station_2 (by decide) ?_
  refine g_callSp C [vi v, vi 0, vi 15] [] (c_X10_in x.1.2.1 g v 0 15 hv (by omega) (by omega)) y_X10_in l_X10_141 [] rfl (by decide) rfl (Nat.le_of_ble_eq_true rfl) rfl (by decide) dX10_station_4 ?_
  refine g_istore_n C [(2, vi (if 0 ≤ v ∧ v ≤ 15 then 1 else 0)), (0, .ref ko), (1, vi v)] dX10_station_7 (by decide) rfl ?_
  refine g_aload_n C 1 dX10_station_8 rfl ?_
  have J31 : ∀ (cd : Int), ((cd = 0 ∧ (0 ≤ v ∧ v ≤ 15) ∧ nE < 6) ∨ (cd = 1 ∧ ¬ (0 ≤ v ∧ v ≤ 15)) ∨ (cd = 2 ∧ (0 ≤ v ∧ v ≤ 15) ∧ nE = 6)) → gW g x [(ko, cO 10 (kF th hr nL nO Q nY nE nR nB A)), (A 23, cA g 6 EC), (A 24, cA g 6 EF)] 0 0 [(2, vi (if 0 ≤ v ∧ v ≤ 15 then 1 else 0)), (0, .ref ko), (1, vi v)] 31 [vi cd, .ref ko] := by
    intro cd hJ31
    refine g_callV C [vi cd] [] (c_X10_goesWell x.1.2.1 g ko A th hr nL nO Q nY nE nR nB cd (by omega)) y_X10_goesWell l_X10_156 [0] rfl (by decide) 0 rfl rfl rfl (Nat.le_of_ble_eq_true rfl) rfl (by decide) dX10_station_31 (fun v9 w9 hp9 => ?_)
    obtain ⟨rfl, rfl⟩ := hp9
    simp only [putAll, List.set_cons_succ, List.set_cons_zero, List.cons_append, List.nil_append, List.append_nil, Option.toList]
    show gW g x [(ko, cO 10 (kF cd hr nL nO Q nY nE nR nB A)), (A 23, cA g 6 EC), (A 24, cA g 6 EF)] 0 0 [(2, vi (if 0 ≤ v ∧ v ≤ 15 then 1 else 0)), (0, .ref ko), (1, vi v)] 34 [vi (if cd = 0 then 1 else 0)]
    refine g_if_ne C 39 dX10_station_34 (by decide) (by omega) (fun c34 => ?_) (fun c34 => ?_)
    · obtain ⟨rfl, hok⟩ : cd = 0 ∧ ((0 ≤ v ∧ v ≤ 15) ∧ nE < 6) := by
        rcases hJ31 with ⟨e9, h9⟩ | ⟨e9, h9⟩ | ⟨e9, h9⟩
        · exact ⟨e9, h9⟩
        · exfalso; omega
        · exfalso; omega
      refine g_aload_n C 1 dX10_station_39 rfl ?_
      refine g_getf C k_X10 23 f_X10_58 0 rfl rfl (by decide) rfl rfl dX10_station_40 ?_
      refine g_aload_n C 1 dX10_station_43 rfl ?_
      refine g_getf C k_X10 22 f_X10_188 0 rfl rfl (by decide) rfl rfl dX10_station_44 ?_
      refine g_iload_n C 2 dX10_station_47 rfl ?_
      refine g_iast C 1 rfl (by omega) [(ko, cO 10 (kF 0 hr nL nO Q nY nE nR nB A)), (A 23, cA g 6 (up EC nE v)), (A 24, cA g 6 EF)] rfl dX10_station_48 ?_
      refine g_aload_n C 1 dX10_station_49 rfl ?_
      refine g_getf C k_X10 24 f_X10_61 0 rfl rfl (by decide) rfl rfl dX10_station_50 ?_
      refine g_aload_n C 1 dX10_station_53 rfl ?_
      refine g_getf C k_X10 22 f_X10_188 0 rfl rfl (by decide) rfl rfl dX10_station_54 ?_
      refine g_sipush C dX10_station_57 (by decide) ?_
      refine g_iast C 2 rfl (by omega) [(ko, cO 10 (kF 0 hr nL nO Q nY nE nR nB A)), (A 23, cA g 6 (up EC nE v)), (A 24, cA g 6 (up EF nE 2200))] rfl dX10_station_60 ?_
      refine g_aload_n C 1 dX10_station_61 rfl ?_
      refine g_dup C dX10_station_62 rfl ?_
      refine g_getf C k_X10 22 f_X10_188 0 rfl rfl (by decide) rfl rfl dX10_station_63 ?_
      refine g_iconst C dX10_station_66 ?_
      refine g_iadd C dX10_station_67 ?_
      refine g_putf C k_X10 tyX10_ok nmX10 22 f_X10_188 0 rfl rfl (by decide) rfl rfl rfl rfl (Nat.le_of_ble_eq_true rfl) [(ko, cO 10 (kF 0 hr nL nO Q nY (nE + 1) nR nB A)), (A 23, cA g 6 (up EC nE v)), (A 24, cA g 6 (up EF nE 2200))] rfl dX10_station_68 ?_
      refine g_aload_n C 1 dX10_station_71 rfl ?_
      refine g_getf C k_X10 22 f_X10_188 0 rfl rfl (by decide) rfl rfl dX10_station_72 ?_
      refine g_iconst C dX10_station_75 ?_
      refine g_isub C dX10_station_76 ?_
      exact g_iret C hR dX10_station_77 (Or.inl ⟨hok, (by first | rfl | (congr 2; omega)), rfl⟩) rfl
    refine g_iconst C dX10_station_37 ?_
    rcases hJ31 with ⟨e9, h9⟩ | ⟨e9, h9⟩ | ⟨e9, h9⟩
    · exfalso; omega
    · subst e9; exact g_iret C hR dX10_station_38 (Or.inr (Or.inl ⟨h9, rfl, rfl⟩)) rfl
    · subst e9; exact g_iret C hR dX10_station_38 (Or.inr (Or.inr (⟨h9, rfl, rfl⟩))) rfl
  refine g_iload_n C 0 dX10_station_9 rfl ?_
  refine g_if_ne C 17 dX10_station_10 (by decide) (by omega) (fun c10 => ?_) (fun c10 => ?_)
  · refine g_aload_n C 1 dX10_station_17 rfl ?_
    refine g_getf C k_X10 22 f_X10_188 0 rfl rfl (by decide) rfl rfl dX10_station_18 ?_
    refine g_bipush C dX10_station_21 (by decide) ?_
    refine g_icmp_ne C 30 dX10_station_23 (by decide) (by omega) (by omega) (fun c23 => ?_) (fun c23 => ?_)
    · refine g_iconst C dX10_station_30 ?_
      exact J31 0 (by omega)
    refine g_iconst C dX10_station_26 ?_
    refine g_goto C 31 dX10_station_27 (by decide) ?_
    exact J31 2 (by omega)
  refine g_iconst C dX10_station_13 ?_
  refine g_goto C 31 dX10_station_14 (by decide) ?_
  exact J31 1 (by omega)

set_option maxHeartbeats 4000000 in
set_option maxRecDepth 100000 in
theorem c_X10_reading (l : Launch) (g : gD) (ko : Nat) (A : Nat → Nat) (th : Int) (hr : Int) (nL : Int) (nO : Int) (Q : Int) (nY : Int) (nE : Int) (nR : Int) (nB : Int) (ES : Int → Int) (EH : Int → Int) (EP : Int → Int) (EX : Int → Int) (a1 : Int) (a2 : Int) (a3 : Int) (a4 : Int) (hnE : 0 ≤ nE ∧ nE ≤ 6) (hnR : 0 ≤ nR ∧ nR ≤ 60) (ha1 : -2147483648 ≤ a1 ∧ a1 < 2147483648) (ha2 : -2147483648 ≤ a2 ∧ a2 < 2147483648) (ha3 : -2147483648 ≤ a3 ∧ a3 < 2147483648) (ha4 : -2147483648 ≤ a4 ∧ a4 < 2147483648) : gMet l g yX10_reading cX10_reading 7 (some .int) 2 0 0 43 [.ref ko, vi a1, vi a2, vi a3, vi a4] [(ko, cO 10 (kF th hr nL nO Q nY nE nR nB A)), (A 26, cA g 60 ES), (A 27, cA g 60 EH), (A 28, cA g 60 EP), (A 29, cA g 60 EX)] (fun v9 w9 => (((0 ≤ a1 ∧ a1 < nE) ∧ ((0 ≤ a2 ∧ a2 ≤ 2199) ∧ (0 ≤ a3 ∧ a3 ≤ 2) ∧ (0 ≤ a4 ∧ a4 ≤ 9)) ∧ nR < 60) ∧ v9 = some (vi (nR + 1)) ∧ w9 = [(ko, cO 10 (kF 0 hr nL nO Q nY nE (nR + 1) nB A)), (A 26, cA g 60 (up ES nR a1)), (A 27, cA g 60 (up EH nR a2)), (A 28, cA g 60 (up EP nR a3)), (A 29, cA g 60 (up EX nR a4))]) ∨ ((¬ (0 ≤ a1 ∧ a1 < nE)) ∧ v9 = some (vi 0) ∧ w9 = [(ko, cO 10 (kF 1 hr nL nO Q nY nE nR nB A)), (A 26, cA g 60 ES), (A 27, cA g 60 EH), (A 28, cA g 60 EP), (A 29, cA g 60 EX)]) ∨ (((0 ≤ a1 ∧ a1 < nE) ∧ ¬ ((0 ≤ a2 ∧ a2 ≤ 2199) ∧ (0 ≤ a3 ∧ a3 ≤ 2) ∧ (0 ≤ a4 ∧ a4 ≤ 9))) ∧ v9 = some (vi 0) ∧ w9 = [(ko, cO 10 (kF 2 hr nL nO Q nY nE nR nB A)), (A 26, cA g 60 ES), (A 27, cA g 60 EH), (A 28, cA g 60 EP), (A 29, cA g 60 EX)]) ∨ (((0 ≤ a1 ∧ a1 < nE) ∧ ((0 ≤ a2 ∧ a2 ≤ 2199) ∧ (0 ≤ a3 ∧ a3 ≤ 2) ∧ (0 ≤ a4 ∧ a4 ≤ 9)) ∧ nR = 60) ∧ v9 = some (vi 0) ∧ w9 = [(ko, cO 10 (kF 3 hr nL nO Q nY nE nR nB A)), (A 26, cA g 60 ES), (A 27, cA g 60 EH), (A 28, cA g 60 EP), (A 29, cA g 60 EX)])) := by
  refine gMet.of y_X10_reading.2.2.2.2.1 (Nat.le_of_ble_eq_true rfl) ?_
  intro x hlx C hR hnm
  subst hlx
  have C : gC g x RX10 cX10_reading 7 2 0 0 43 := C
  show gW g x [(ko, cO 10 (kF th hr nL nO Q nY nE nR nB A)), (A 26, cA g 60 ES), (A 27, cA g 60 EH), (A 28, cA g 60 EP), (A 29, cA g 60 EX)] 0 0 [(0, .ref ko), (1, vi a1), (2, vi a2), (3, vi a3), (4, vi a4)] 0 []
  refine g_aload_n C 0 dX10_reading_0 rfl ?_
  refine g_iload_n C 1 dX10_reading_1 rfl ?_
  refine g_callVp C [vi a1] [] (c_X10_isStation x.1.2.1 g ko A th hr nL nO Q nY nE nR nB a1 hnE ha1) y_X10_isStation l_X10_191 [0] rfl (by decide) 0 rfl rfl rfl (Nat.le_of_ble_eq_true rfl) rfl (by decide) dX10_reading_2 ?_
  refine g_istore C [(5, vi (if 0 ≤ a1 ∧ a1 < nE then 1 else 0)), (0, .ref ko), (1, vi a1), (2, vi a2), (3, vi a3), (4, vi a4)] dX10_reading_5 (by decide) rfl ?_
  have J37 : ∀ (w7 : Int), (w7 = if (0 ≤ a2 ∧ a2 ≤ 2199) ∧ (0 ≤ a3 ∧ a3 ≤ 2) ∧ (0 ≤ a4 ∧ a4 ≤ 9) then 1 else 0) → gW g x [(ko, cO 10 (kF th hr nL nO Q nY nE nR nB A)), (A 26, cA g 60 ES), (A 27, cA g 60 EH), (A 28, cA g 60 EP), (A 29, cA g 60 EX)] 0 0 [(5, vi (if 0 ≤ a1 ∧ a1 < nE then 1 else 0)), (0, .ref ko), (1, vi a1), (2, vi a2), (3, vi a3), (4, vi a4)] 37 [vi w7] := by
    intro w7 hJ37
    refine g_istore C [(6, vi w7), (5, vi (if 0 ≤ a1 ∧ a1 < nE then 1 else 0)), (0, .ref ko), (1, vi a1), (2, vi a2), (3, vi a3), (4, vi a4)] dX10_reading_37 (by decide) rfl ?_
    refine g_aload_n C 2 dX10_reading_39 rfl ?_
    have J72 : ∀ (cd : Int), ((cd = 0 ∧ (0 ≤ a1 ∧ a1 < nE) ∧ ((0 ≤ a2 ∧ a2 ≤ 2199) ∧ (0 ≤ a3 ∧ a3 ≤ 2) ∧ (0 ≤ a4 ∧ a4 ≤ 9)) ∧ nR < 60) ∨ (cd = 1 ∧ ¬ (0 ≤ a1 ∧ a1 < nE)) ∨ (cd = 2 ∧ (0 ≤ a1 ∧ a1 < nE) ∧ ¬ ((0 ≤ a2 ∧ a2 ≤ 2199) ∧ (0 ≤ a3 ∧ a3 ≤ 2) ∧ (0 ≤ a4 ∧ a4 ≤ 9))) ∨ (cd = 3 ∧ (0 ≤ a1 ∧ a1 < nE) ∧ ((0 ≤ a2 ∧ a2 ≤ 2199) ∧ (0 ≤ a3 ∧ a3 ≤ 2) ∧ (0 ≤ a4 ∧ a4 ≤ 9)) ∧ nR = 60)) → gW g x [(ko, cO 10 (kF th hr nL nO Q nY nE nR nB A)), (A 26, cA g 60 ES), (A 27, cA g 60 EH), (A 28, cA g 60 EP), (A 29, cA g 60 EX)] 0 0 [(6, vi w7), (5, vi (if 0 ≤ a1 ∧ a1 < nE then 1 else 0)), (0, .ref ko), (1, vi a1), (2, vi a2), (3, vi a3), (4, vi a4)] 72 [vi cd, .ref ko] := by
      intro cd hJ72
      refine g_callV C [vi cd] [] (c_X10_goesWell x.1.2.1 g ko A th hr nL nO Q nY nE nR nB cd (by omega)) y_X10_goesWell l_X10_156 [0] rfl (by decide) 0 rfl rfl rfl (Nat.le_of_ble_eq_true rfl) rfl (by decide) dX10_reading_72 (fun v9 w9 hp9 => ?_)
      obtain ⟨rfl, rfl⟩ := hp9
      simp only [putAll, List.set_cons_succ, List.set_cons_zero, List.cons_append, List.nil_append, List.append_nil, Option.toList]
      show gW g x [(ko, cO 10 (kF cd hr nL nO Q nY nE nR nB A)), (A 26, cA g 60 ES), (A 27, cA g 60 EH), (A 28, cA g 60 EP), (A 29, cA g 60 EX)] 0 0 [(6, vi w7), (5, vi (if 0 ≤ a1 ∧ a1 < nE then 1 else 0)), (0, .ref ko), (1, vi a1), (2, vi a2), (3, vi a3), (4, vi a4)] 75 [vi (if cd = 0 then 1 else 0)]
      refine g_if_ne C 80 dX10_reading_75 (by decide) (by omega) (fun c75 => ?_) (fun c75 => ?_)
      · obtain ⟨rfl, hok⟩ : cd = 0 ∧ ((0 ≤ a1 ∧ a1 < nE) ∧ ((0 ≤ a2 ∧ a2 ≤ 2199) ∧ (0 ≤ a3 ∧ a3 ≤ 2) ∧ (0 ≤ a4 ∧ a4 ≤ 9)) ∧ nR < 60) := by
          rcases hJ72 with ⟨e9, h9⟩ | ⟨e9, h9⟩ | ⟨e9, h9⟩ | ⟨e9, h9⟩
          · exact ⟨e9, h9⟩
          · exfalso; omega
          · exfalso; omega
          · exfalso; omega
        refine g_aload_n C 2 dX10_reading_80 rfl ?_
        refine g_getf C k_X10 26 f_X10_64 0 rfl rfl (by decide) rfl rfl dX10_reading_81 ?_
        refine g_aload_n C 2 dX10_reading_84 rfl ?_
        refine g_getf C k_X10 25 f_X10_194 0 rfl rfl (by decide) rfl rfl dX10_reading_85 ?_
        refine g_iload_n C 3 dX10_reading_88 rfl ?_
        refine g_iast C 1 rfl (by omega) [(ko, cO 10 (kF 0 hr nL nO Q nY nE nR nB A)), (A 26, cA g 60 (up ES nR a1)), (A 27, cA g 60 EH), (A 28, cA g 60 EP), (A 29, cA g 60 EX)] rfl dX10_reading_89 ?_
        refine g_aload_n C 2 dX10_reading_90 rfl ?_
        refine g_getf C k_X10 27 f_X10_67 0 rfl rfl (by decide) rfl rfl dX10_reading_91 ?_
        refine g_aload_n C 2 dX10_reading_94 rfl ?_
        refine g_getf C k_X10 25 f_X10_194 0 rfl rfl (by decide) rfl rfl dX10_reading_95 ?_
        refine g_iload_n C 4 dX10_reading_98 rfl ?_
        refine g_iast C 2 rfl (by omega) [(ko, cO 10 (kF 0 hr nL nO Q nY nE nR nB A)), (A 26, cA g 60 (up ES nR a1)), (A 27, cA g 60 (up EH nR a2)), (A 28, cA g 60 EP), (A 29, cA g 60 EX)] rfl dX10_reading_99 ?_
        refine g_aload_n C 2 dX10_reading_100 rfl ?_
        refine g_getf C k_X10 28 f_X10_70 0 rfl rfl (by decide) rfl rfl dX10_reading_101 ?_
        refine g_aload_n C 2 dX10_reading_104 rfl ?_
        refine g_getf C k_X10 25 f_X10_194 0 rfl rfl (by decide) rfl rfl dX10_reading_105 ?_
        refine g_iload_n C 5 dX10_reading_108 rfl ?_
        refine g_iast C 3 rfl (by omega) [(ko, cO 10 (kF 0 hr nL nO Q nY nE nR nB A)), (A 26, cA g 60 (up ES nR a1)), (A 27, cA g 60 (up EH nR a2)), (A 28, cA g 60 (up EP nR a3)), (A 29, cA g 60 EX)] rfl dX10_reading_109 ?_
        refine g_aload_n C 2 dX10_reading_110 rfl ?_
        refine g_getf C k_X10 29 f_X10_73 0 rfl rfl (by decide) rfl rfl dX10_reading_111 ?_
        refine g_aload_n C 2 dX10_reading_114 rfl ?_
        refine g_getf C k_X10 25 f_X10_194 0 rfl rfl (by decide) rfl rfl dX10_reading_115 ?_
        refine g_iload C 6 dX10_reading_118 rfl ?_
        refine g_iast C 4 rfl (by omega) [(ko, cO 10 (kF 0 hr nL nO Q nY nE nR nB A)), (A 26, cA g 60 (up ES nR a1)), (A 27, cA g 60 (up EH nR a2)), (A 28, cA g 60 (up EP nR a3)), (A 29, cA g 60 (up EX nR a4))] rfl dX10_reading_120 ?_
        refine g_aload_n C 2 dX10_reading_121 rfl ?_
        refine g_dup C dX10_reading_122 rfl ?_
        refine g_getf C k_X10 25 f_X10_194 0 rfl rfl (by decide) rfl rfl dX10_reading_123 ?_
        refine g_iconst C dX10_reading_126 ?_
        refine g_iadd C dX10_reading_127 ?_
        refine g_putf C k_X10 tyX10_ok nmX10 25 f_X10_194 0 rfl rfl (by decide) rfl rfl rfl rfl (Nat.le_of_ble_eq_true rfl) [(ko, cO 10 (kF 0 hr nL nO Q nY nE (nR + 1) nB A)), (A 26, cA g 60 (up ES nR a1)), (A 27, cA g 60 (up EH nR a2)), (A 28, cA g 60 (up EP nR a3)), (A 29, cA g 60 (up EX nR a4))] rfl dX10_reading_128 ?_
        refine g_aload_n C 2 dX10_reading_131 rfl ?_
        refine g_getf C k_X10 25 f_X10_194 0 rfl rfl (by decide) rfl rfl dX10_reading_132 ?_
        exact g_iret C hR dX10_reading_135 (Or.inl ⟨hok, (by first | rfl | (congr 2; omega)), rfl⟩) rfl
      refine g_iconst C dX10_reading_78 ?_
      rcases hJ72 with ⟨e9, h9⟩ | ⟨e9, h9⟩ | ⟨e9, h9⟩ | ⟨e9, h9⟩
      · exfalso; omega
      · subst e9; exact g_iret C hR dX10_reading_79 (Or.inr (Or.inl ⟨h9, rfl, rfl⟩)) rfl
      · subst e9; exact g_iret C hR dX10_reading_79 (Or.inr (Or.inr (Or.inl ⟨h9, rfl, rfl⟩))) rfl
      · subst e9; exact g_iret C hR dX10_reading_79 (Or.inr (Or.inr (Or.inr (⟨h9, rfl, rfl⟩)))) rfl
    refine g_iload C 1 dX10_reading_40 rfl ?_
    refine g_if_ne C 49 dX10_reading_42 (by decide) (by omega) (fun c42 => ?_) (fun c42 => ?_)
    · refine g_iload C 0 dX10_reading_49 rfl ?_
      refine g_if_ne C 58 dX10_reading_51 (by decide) (by omega) (fun c51 => ?_) (fun c51 => ?_)
      · refine g_aload_n C 2 dX10_reading_58 rfl ?_
        refine g_getf C k_X10 25 f_X10_194 0 rfl rfl (by decide) rfl rfl dX10_reading_59 ?_
        refine g_bipush C dX10_reading_62 (by decide) ?_
        refine g_icmp_ne C 71 dX10_reading_64 (by decide) (by omega) (by omega) (fun c64 => ?_) (fun c64 => ?_)
        · refine g_iconst C dX10_reading_71 ?_
          exact J72 0 (by omega)
        refine g_iconst C dX10_reading_67 ?_
        refine g_goto C 72 dX10_reading_68 (by decide) ?_
        exact J72 3 (by omega)
      refine g_iconst C dX10_reading_54 ?_
      refine g_goto C 72 dX10_reading_55 (by decide) ?_
      exact J72 2 (by omega)
    refine g_iconst C dX10_reading_45 ?_
    refine g_goto C 72 dX10_reading_46 (by decide) ?_
    exact J72 1 (by omega)
  refine g_iload_n C 3 dX10_reading_7 rfl ?_
  refine g_callSp C [vi a2] [] (c_X10_isHour x.1.2.1 g a2 ha2) y_X10_isHour l_X10_149 [] rfl (by decide) rfl (Nat.le_of_ble_eq_true rfl) rfl (by decide) dX10_reading_8 ?_
  refine g_if_eq C 36 dX10_reading_11 (by decide) (by omega) (fun c11 => ?_) (fun c11 => ?_)
  · refine g_iconst C dX10_reading_36 ?_
    exact J37 0 (by omega)
  refine g_iload_n C 4 dX10_reading_14 rfl ?_
  refine g_callSp C [vi a3] [] (c_X10_isPeril x.1.2.1 g a3 ha3) y_X10_isPeril l_X10_145 [] rfl (by decide) rfl (Nat.le_of_ble_eq_true rfl) rfl (by decide) dX10_reading_15 ?_
  refine g_if_eq C 36 dX10_reading_18 (by decide) (by omega) (fun c18 => ?_) (fun c18 => ?_)
  · refine g_iconst C dX10_reading_36 ?_
    exact J37 0 (by omega)
  refine g_iload C 5 dX10_reading_21 rfl ?_
  refine g_iconst C dX10_reading_23 ?_
  refine g_bipush C dX10_reading_24 (by decide) ?_
  refine g_callSp C [vi a4, vi 0, vi 9] [] (c_X10_in x.1.2.1 g a4 0 9 ha4 (by omega) (by omega)) y_X10_in l_X10_141 [] rfl (by decide) rfl (Nat.le_of_ble_eq_true rfl) rfl (by decide) dX10_reading_26 ?_
  refine g_if_eq C 36 dX10_reading_29 (by decide) (by omega) (fun c29 => ?_) (fun c29 => ?_)
  · refine g_iconst C dX10_reading_36 ?_
    exact J37 0 (by omega)
  refine g_iconst C dX10_reading_32 ?_
  refine g_goto C 37 dX10_reading_33 (by decide) ?_
  exact J37 1 (by omega)

set_option maxHeartbeats 4000000 in
set_option maxRecDepth 100000 in
theorem c_X10_pass (l : Launch) (g : gD) (ko : Nat) (A : Nat → Nat) (th : Int) (hr : Int) (nL : Int) (nO : Int) (Q : Int) (nY : Int) (nE : Int) (nR : Int) (nB : Int) (h : Int) (hhr : 0 ≤ hr ∧ hr ≤ 2199) (hh : -2147483648 ≤ h ∧ h < 2147483648) : gMet l g yX10_pass cX10_pass 3 (some .int) 1 0 0 22 [.ref ko, vi h] [(ko, cO 10 (kF th hr nL nO Q nY nE nR nB A))] (fun v9 w9 => (((1 ≤ h ∧ h ≤ 500) ∧ hr + h ≤ 2199) ∧ v9 = some (vi (hr + h)) ∧ w9 = [(ko, cO 10 (kF 0 (hr + h) nL nO Q nY nE nR nB A))]) ∨ ((¬ (1 ≤ h ∧ h ≤ 500)) ∧ v9 = some (vi 0) ∧ w9 = [(ko, cO 10 (kF 1 hr nL nO Q nY nE nR nB A))]) ∨ (((1 ≤ h ∧ h ≤ 500) ∧ 2199 < hr + h) ∧ v9 = some (vi 0) ∧ w9 = [(ko, cO 10 (kF 2 hr nL nO Q nY nE nR nB A))])) := by
  refine gMet.of y_X10_pass.2.2.2.2.1 (Nat.le_of_ble_eq_true rfl) ?_
  intro x hlx C hR hnm
  subst hlx
  have C : gC g x RX10 cX10_pass 3 1 0 0 22 := C
  show gW g x [(ko, cO 10 (kF th hr nL nO Q nY nE nR nB A))] 0 0 [(0, .ref ko), (1, vi h)] 0 []
  refine g_iload_n C 1 dX10_pass_0 rfl ?_
  refine g_iconst C dX10_pass_1 ?_
  refine g_sipush C dX10_pass_2 (by decide) ?_
  refine g_callSp C [vi h, vi 1, vi 500] [] (c_X10_in x.1.2.1 g h 1 500 hh (by omega) (by omega)) y_X10_in l_X10_141 [] rfl (by decide) rfl (Nat.le_of_ble_eq_true rfl) rfl (by decide) dX10_pass_5 ?_
  refine g_istore_n C [(2, vi (if 1 ≤ h ∧ h ≤ 500 then 1 else 0)), (0, .ref ko), (1, vi h)] dX10_pass_8 (by decide) rfl ?_
  refine g_aload_n C 1 dX10_pass_9 rfl ?_
  have J35 : ∀ (cd : Int), ((cd = 0 ∧ (1 ≤ h ∧ h ≤ 500) ∧ hr + h ≤ 2199) ∨ (cd = 1 ∧ ¬ (1 ≤ h ∧ h ≤ 500)) ∨ (cd = 2 ∧ (1 ≤ h ∧ h ≤ 500) ∧ 2199 < hr + h)) → gW g x [(ko, cO 10 (kF th hr nL nO Q nY nE nR nB A))] 0 0 [(2, vi (if 1 ≤ h ∧ h ≤ 500 then 1 else 0)), (0, .ref ko), (1, vi h)] 35 [vi cd, .ref ko] := by
    intro cd hJ35
    refine g_callV C [vi cd] [] (c_X10_goesWell x.1.2.1 g ko A th hr nL nO Q nY nE nR nB cd (by omega)) y_X10_goesWell l_X10_156 [0] rfl (by decide) 0 rfl rfl rfl (Nat.le_of_ble_eq_true rfl) rfl (by decide) dX10_pass_35 (fun v9 w9 hp9 => ?_)
    obtain ⟨rfl, rfl⟩ := hp9
    simp only [putAll, List.set_cons_succ, List.set_cons_zero, List.cons_append, List.nil_append, List.append_nil, Option.toList]
    show gW g x [(ko, cO 10 (kF cd hr nL nO Q nY nE nR nB A))] 0 0 [(2, vi (if 1 ≤ h ∧ h ≤ 500 then 1 else 0)), (0, .ref ko), (1, vi h)] 38 [vi (if cd = 0 then 1 else 0)]
    refine g_if_ne C 43 dX10_pass_38 (by decide) (by omega) (fun c38 => ?_) (fun c38 => ?_)
    · obtain ⟨rfl, hok⟩ : cd = 0 ∧ ((1 ≤ h ∧ h ≤ 500) ∧ hr + h ≤ 2199) := by
        rcases hJ35 with ⟨e9, h9⟩ | ⟨e9, h9⟩ | ⟨e9, h9⟩
        · exact ⟨e9, h9⟩
        · exfalso; omega
        · exfalso; omega
      refine g_aload_n C 1 dX10_pass_43 rfl ?_
      refine g_dup C dX10_pass_44 rfl ?_
      refine g_getf C k_X10 1 f_X10_201 0 rfl rfl (by decide) rfl rfl dX10_pass_45 ?_
      refine g_iload_n C 2 dX10_pass_48 rfl ?_
      refine g_iadd C dX10_pass_49 ?_
      refine g_putf C k_X10 tyX10_ok nmX10 1 f_X10_201 0 rfl rfl (by decide) rfl rfl rfl rfl (Nat.le_of_ble_eq_true rfl) [(ko, cO 10 (kF 0 (hr + h) nL nO Q nY nE nR nB A))] rfl dX10_pass_50 ?_
      refine g_aload_n C 1 dX10_pass_53 rfl ?_
      refine g_getf C k_X10 1 f_X10_201 0 rfl rfl (by decide) rfl rfl dX10_pass_54 ?_
      exact g_iret C hR dX10_pass_57 (Or.inl ⟨hok, (by first | rfl | (congr 2; omega)), rfl⟩) rfl
    refine g_iconst C dX10_pass_41 ?_
    rcases hJ35 with ⟨e9, h9⟩ | ⟨e9, h9⟩ | ⟨e9, h9⟩
    · exfalso; omega
    · subst e9; exact g_iret C hR dX10_pass_42 (Or.inr (Or.inl ⟨h9, rfl, rfl⟩)) rfl
    · subst e9; exact g_iret C hR dX10_pass_42 (Or.inr (Or.inr (⟨h9, rfl, rfl⟩))) rfl
  refine g_iload_n C 0 dX10_pass_10 rfl ?_
  refine g_if_ne C 18 dX10_pass_11 (by decide) (by omega) (fun c11 => ?_) (fun c11 => ?_)
  · refine g_aload_n C 1 dX10_pass_18 rfl ?_
    refine g_getf C k_X10 1 f_X10_201 0 rfl rfl (by decide) rfl rfl dX10_pass_19 ?_
    refine g_iload_n C 2 dX10_pass_22 rfl ?_
    refine g_iadd C dX10_pass_23 ?_
    refine g_sipush C dX10_pass_24 (by decide) ?_
    refine g_icmp_le C 34 dX10_pass_27 (by decide) (by omega) (by omega) (fun c27 => ?_) (fun c27 => ?_)
    · refine g_iconst C dX10_pass_34 ?_
      exact J35 0 (by omega)
    refine g_iconst C dX10_pass_30 ?_
    refine g_goto C 35 dX10_pass_31 (by decide) ?_
    exact J35 2 (by omega)
  refine g_iconst C dX10_pass_14 ?_
  refine g_goto C 35 dX10_pass_15 (by decide) ?_
  exact J35 1 (by omega)

set_option maxHeartbeats 4000000 in
set_option maxRecDepth 100000 in
theorem c_X10_retro (l : Launch) (g : gD) (ko : Nat) (A : Nat → Nat) (th : Int) (hr : Int) (nL : Int) (nO : Int) (Q : Int) (nY : Int) (nE : Int) (nR : Int) (nB : Int) (RT : Int → Int) (RF : Int → Int) (RD : Int → Int) (y : Int) (z : Int) (a : Int) (b : Int) (hy : -2147483648 ≤ y ∧ y < 2147483648) (hz : -2147483648 ≤ z ∧ z < 2147483648) (ha : -2147483648 ≤ a ∧ a < 2147483648) (hb : -2147483648 ≤ b ∧ b < 2147483648) : gMet l g yX10_retro cX10_retro 8 (some .int) 2 0 0 42 [.ref ko, vi y, vi z, vi a, vi b] [(ko, cO 10 (kF th hr nL nO Q nY nE nR nB A)), (A 19, cA g 6 RT), (A 20, cA g 6 RF), (A 21, cA g 6 RD)] (fun v9 w9 => ((((0 ≤ y ∧ y ≤ 5) ∧ (0 ≤ z ∧ z ≤ 5)) ∧ (y ≠ z ∧ (0 ≤ a ∧ a ≤ 999999) ∧ (0 ≤ b ∧ b ≤ 999999))) ∧ v9 = some (vi (RD y)) ∧ w9 = [(ko, cO 10 (kF 0 hr nL nO Q nY nE nR nB A)), (A 19, cA g 6 (up RT y z)), (A 20, cA g 6 (up RF y a)), (A 21, cA g 6 (up RD y b))]) ∨ ((¬ ((0 ≤ y ∧ y ≤ 5) ∧ (0 ≤ z ∧ z ≤ 5))) ∧ v9 = some (vi 0) ∧ w9 = [(ko, cO 10 (kF 1 hr nL nO Q nY nE nR nB A)), (A 19, cA g 6 RT), (A 20, cA g 6 RF), (A 21, cA g 6 RD)]) ∨ ((((0 ≤ y ∧ y ≤ 5) ∧ (0 ≤ z ∧ z ≤ 5)) ∧ ¬ (y ≠ z ∧ (0 ≤ a ∧ a ≤ 999999) ∧ (0 ≤ b ∧ b ≤ 999999))) ∧ v9 = some (vi 0) ∧ w9 = [(ko, cO 10 (kF 2 hr nL nO Q nY nE nR nB A)), (A 19, cA g 6 RT), (A 20, cA g 6 RF), (A 21, cA g 6 RD)])) := by
  refine gMet.of y_X10_retro.2.2.2.2.1 (Nat.le_of_ble_eq_true rfl) ?_
  intro x hlx C hR hnm
  subst hlx
  have C : gC g x RX10 cX10_retro 8 2 0 0 42 := C
  show gW g x [(ko, cO 10 (kF th hr nL nO Q nY nE nR nB A)), (A 19, cA g 6 RT), (A 20, cA g 6 RF), (A 21, cA g 6 RD)] 0 0 [(0, .ref ko), (1, vi y), (2, vi z), (3, vi a), (4, vi b)] 0 []
  have J19 : ∀ (w0 : Int), (w0 = if (0 ≤ y ∧ y ≤ 5) ∧ (0 ≤ z ∧ z ≤ 5) then 1 else 0) → gW g x [(ko, cO 10 (kF th hr nL nO Q nY nE nR nB A)), (A 19, cA g 6 RT), (A 20, cA g 6 RF), (A 21, cA g 6 RD)] 0 0 [(0, .ref ko), (1, vi y), (2, vi z), (3, vi a), (4, vi b)] 19 [vi w0] := by
    intro w0 hJ19
    refine g_istore C [(5, vi w0), (0, .ref ko), (1, vi y), (2, vi z), (3, vi a), (4, vi b)] dX10_retro_19 (by decide) rfl ?_
    have J52 : ∀ (w21 : Int), (w21 = if y ≠ z ∧ (0 ≤ a ∧ a ≤ 999999) ∧ (0 ≤ b ∧ b ≤ 999999) then 1 else 0) → gW g x [(ko, cO 10 (kF th hr nL nO Q nY nE nR nB A)), (A 19, cA g 6 RT), (A 20, cA g 6 RF), (A 21, cA g 6 RD)] 0 0 [(5, vi w0), (0, .ref ko), (1, vi y), (2, vi z), (3, vi a), (4, vi b)] 52 [vi w21] := by
      intro w21 hJ52
      refine g_istore C [(6, vi w21), (5, vi w0), (0, .ref ko), (1, vi y), (2, vi z), (3, vi a), (4, vi b)] dX10_retro_52 (by decide) rfl ?_
      refine g_aload_n C 2 dX10_retro_54 rfl ?_
      have J74 : ∀ (cd : Int), ((cd = 0 ∧ ((0 ≤ y ∧ y ≤ 5) ∧ (0 ≤ z ∧ z ≤ 5)) ∧ (y ≠ z ∧ (0 ≤ a ∧ a ≤ 999999) ∧ (0 ≤ b ∧ b ≤ 999999))) ∨ (cd = 1 ∧ ¬ ((0 ≤ y ∧ y ≤ 5) ∧ (0 ≤ z ∧ z ≤ 5))) ∨ (cd = 2 ∧ ((0 ≤ y ∧ y ≤ 5) ∧ (0 ≤ z ∧ z ≤ 5)) ∧ ¬ (y ≠ z ∧ (0 ≤ a ∧ a ≤ 999999) ∧ (0 ≤ b ∧ b ≤ 999999)))) → gW g x [(ko, cO 10 (kF th hr nL nO Q nY nE nR nB A)), (A 19, cA g 6 RT), (A 20, cA g 6 RF), (A 21, cA g 6 RD)] 0 0 [(6, vi w21), (5, vi w0), (0, .ref ko), (1, vi y), (2, vi z), (3, vi a), (4, vi b)] 74 [vi cd, .ref ko] := by
        intro cd hJ74
        refine g_callV C [vi cd] [] (c_X10_goesWell x.1.2.1 g ko A th hr nL nO Q nY nE nR nB cd (by omega)) y_X10_goesWell l_X10_156 [0] rfl (by decide) 0 rfl rfl rfl (Nat.le_of_ble_eq_true rfl) rfl (by decide) dX10_retro_74 (fun v9 w9 hp9 => ?_)
        obtain ⟨rfl, rfl⟩ := hp9
        simp only [putAll, List.set_cons_succ, List.set_cons_zero, List.cons_append, List.nil_append, List.append_nil, Option.toList]
        show gW g x [(ko, cO 10 (kF cd hr nL nO Q nY nE nR nB A)), (A 19, cA g 6 RT), (A 20, cA g 6 RF), (A 21, cA g 6 RD)] 0 0 [(6, vi w21), (5, vi w0), (0, .ref ko), (1, vi y), (2, vi z), (3, vi a), (4, vi b)] 77 [vi (if cd = 0 then 1 else 0)]
        refine g_if_ne C 82 dX10_retro_77 (by decide) (by omega) (fun c77 => ?_) (fun c77 => ?_)
        · obtain ⟨rfl, hok⟩ : cd = 0 ∧ (((0 ≤ y ∧ y ≤ 5) ∧ (0 ≤ z ∧ z ≤ 5)) ∧ (y ≠ z ∧ (0 ≤ a ∧ a ≤ 999999) ∧ (0 ≤ b ∧ b ≤ 999999))) := by
            rcases hJ74 with ⟨e9, h9⟩ | ⟨e9, h9⟩ | ⟨e9, h9⟩
            · exact ⟨e9, h9⟩
            · exfalso; omega
            · exfalso; omega
          refine g_aload_n C 2 dX10_retro_82 rfl ?_
          refine g_getf C k_X10 21 f_X10_55 0 rfl rfl (by decide) rfl rfl dX10_retro_83 ?_
          refine g_iload_n C 3 dX10_retro_86 rfl ?_
          refine g_iald C 3 rfl (by omega) dX10_retro_87 ?_
          refine g_istore C [(7, vi (RD y)), (6, vi w21), (5, vi w0), (0, .ref ko), (1, vi y), (2, vi z), (3, vi a), (4, vi b)] dX10_retro_88 (by decide) rfl ?_
          refine g_aload_n C 3 dX10_retro_90 rfl ?_
          refine g_getf C k_X10 19 f_X10_49 0 rfl rfl (by decide) rfl rfl dX10_retro_91 ?_
          refine g_iload_n C 4 dX10_retro_94 rfl ?_
          refine g_iload_n C 5 dX10_retro_95 rfl ?_
          refine g_iast C 1 rfl (by omega) [(ko, cO 10 (kF 0 hr nL nO Q nY nE nR nB A)), (A 19, cA g 6 (up RT y z)), (A 20, cA g 6 RF), (A 21, cA g 6 RD)] rfl dX10_retro_96 ?_
          refine g_aload_n C 3 dX10_retro_97 rfl ?_
          refine g_getf C k_X10 20 f_X10_52 0 rfl rfl (by decide) rfl rfl dX10_retro_98 ?_
          refine g_iload_n C 4 dX10_retro_101 rfl ?_
          refine g_iload_n C 6 dX10_retro_102 rfl ?_
          refine g_iast C 2 rfl (by omega) [(ko, cO 10 (kF 0 hr nL nO Q nY nE nR nB A)), (A 19, cA g 6 (up RT y z)), (A 20, cA g 6 (up RF y a)), (A 21, cA g 6 RD)] rfl dX10_retro_103 ?_
          refine g_aload_n C 3 dX10_retro_104 rfl ?_
          refine g_getf C k_X10 21 f_X10_55 0 rfl rfl (by decide) rfl rfl dX10_retro_105 ?_
          refine g_iload_n C 4 dX10_retro_108 rfl ?_
          refine g_iload C 7 dX10_retro_109 rfl ?_
          refine g_iast C 3 rfl (by omega) [(ko, cO 10 (kF 0 hr nL nO Q nY nE nR nB A)), (A 19, cA g 6 (up RT y z)), (A 20, cA g 6 (up RF y a)), (A 21, cA g 6 (up RD y b))] rfl dX10_retro_111 ?_
          refine g_iload C 0 dX10_retro_112 rfl ?_
          exact g_iret C hR dX10_retro_114 (Or.inl ⟨hok, (by first | rfl | (congr 2; omega)), rfl⟩) rfl
        refine g_iconst C dX10_retro_80 ?_
        rcases hJ74 with ⟨e9, h9⟩ | ⟨e9, h9⟩ | ⟨e9, h9⟩
        · exfalso; omega
        · subst e9; exact g_iret C hR dX10_retro_81 (Or.inr (Or.inl ⟨h9, rfl, rfl⟩)) rfl
        · subst e9; exact g_iret C hR dX10_retro_81 (Or.inr (Or.inr (⟨h9, rfl, rfl⟩))) rfl
      refine g_iload C 1 dX10_retro_55 rfl ?_
      refine g_if_ne C 64 dX10_retro_57 (by decide) (by omega) (fun c57 => ?_) (fun c57 => ?_)
      · refine g_iload C 0 dX10_retro_64 rfl ?_
        refine g_if_eq C 73 dX10_retro_66 (by decide) (by omega) (fun c66 => ?_) (fun c66 => ?_)
        · refine g_iconst C dX10_retro_73 ?_
          exact J74 2 (by omega)
        refine g_iconst C dX10_retro_69 ?_
        refine g_goto C 74 dX10_retro_70 (by decide) ?_
        exact J74 0 (by omega)
      refine g_iconst C dX10_retro_60 ?_
      refine g_goto C 74 dX10_retro_61 (by decide) ?_
      exact J74 1 (by omega)
    refine g_iload_n C 2 dX10_retro_21 rfl ?_
    refine g_iload_n C 3 dX10_retro_22 rfl ?_
    refine g_icmp_eq C 51 dX10_retro_23 (by decide) (by omega) (by omega) (fun c23 => ?_) (fun c23 => ?_)
    · refine g_iconst C dX10_retro_51 ?_
      exact J52 0 (by omega)
    refine g_iload_n C 4 dX10_retro_26 rfl ?_
    refine g_iconst C dX10_retro_27 ?_
    refine g_ldc C (999999) n_X10_175 (by decide) dX10_retro_28 ?_
    refine g_callSp C [vi a, vi 0, vi 999999] [] (c_X10_in x.1.2.1 g a 0 999999 ha (by omega) (by omega)) y_X10_in l_X10_141 [] rfl (by decide) rfl (Nat.le_of_ble_eq_true rfl) rfl (by decide) dX10_retro_30 ?_
    refine g_if_eq C 51 dX10_retro_33 (by decide) (by omega) (fun c33 => ?_) (fun c33 => ?_)
    · refine g_iconst C dX10_retro_51 ?_
      exact J52 0 (by omega)
    refine g_iload C 5 dX10_retro_36 rfl ?_
    refine g_iconst C dX10_retro_38 ?_
    refine g_ldc C (999999) n_X10_175 (by decide) dX10_retro_39 ?_
    refine g_callSp C [vi b, vi 0, vi 999999] [] (c_X10_in x.1.2.1 g b 0 999999 hb (by omega) (by omega)) y_X10_in l_X10_141 [] rfl (by decide) rfl (Nat.le_of_ble_eq_true rfl) rfl (by decide) dX10_retro_41 ?_
    refine g_if_eq C 51 dX10_retro_44 (by decide) (by omega) (fun c44 => ?_) (fun c44 => ?_)
    · refine g_iconst C dX10_retro_51 ?_
      exact J52 0 (by omega)
    refine g_iconst C dX10_retro_47 ?_
    refine g_goto C 52 dX10_retro_48 (by decide) ?_
    exact J52 1 (by omega)
  refine g_iload_n C 1 dX10_retro_0 rfl ?_
  refine g_callSp C [vi y] [] (c_X10_isOne x.1.2.1 g y hy) y_X10_isOne l_X10_182 [] rfl (by decide) rfl (Nat.le_of_ble_eq_true rfl) rfl (by decide) dX10_retro_1 ?_
  refine g_if_eq C 18 dX10_retro_4 (by decide) (by omega) (fun c4 => ?_) (fun c4 => ?_)
  · refine g_iconst C dX10_retro_18 ?_
    exact J19 0 (by omega)
  refine g_iload_n C 2 dX10_retro_7 rfl ?_
  refine g_callSp C [vi z] [] (c_X10_isOne x.1.2.1 g z hz) y_X10_isOne l_X10_182 [] rfl (by decide) rfl (Nat.le_of_ble_eq_true rfl) rfl (by decide) dX10_retro_8 ?_
  refine g_if_eq C 18 dX10_retro_11 (by decide) (by omega) (fun c11 => ?_) (fun c11 => ?_)
  · refine g_iconst C dX10_retro_18 ?_
    exact J19 0 (by omega)
  refine g_iconst C dX10_retro_14 ?_
  refine g_goto C 19 dX10_retro_15 (by decide) ?_
  exact J19 1 (by omega)

set_option maxHeartbeats 4000000 in
set_option maxRecDepth 100000 in
theorem c_X10_bond (l : Launch) (g : gD) (ko : Nat) (A : Nat → Nat) (th : Int) (hr : Int) (nL : Int) (nO : Int) (Q : Int) (nY : Int) (nE : Int) (nR : Int) (nB : Int) (BP : Int → Int) (BQ : Int → Int) (BX : Int → Int) (BF : Int → Int) (BL : Int → Int) (BT : Int → Int) (BC : Int → Int) (a1 : Int) (a2 : Int) (a3 : Int) (a4 : Int) (a5 : Int) (a6 : Int) (a7 : Int) (hnB : 0 ≤ nB ∧ nB ≤ 5) (hhr : 0 ≤ hr ∧ hr ≤ 2199) (ha1 : -2147483648 ≤ a1 ∧ a1 < 2147483648) (ha2 : -2147483648 ≤ a2 ∧ a2 < 2147483648) (ha3 : -2147483648 ≤ a3 ∧ a3 < 2147483648) (ha4 : -2147483648 ≤ a4 ∧ a4 < 2147483648) (ha5 : -2147483648 ≤ a5 ∧ a5 < 2147483648) (ha6 : -2147483648 ≤ a6 ∧ a6 < 2147483648) (ha7 : -2147483648 ≤ a7 ∧ a7 < 2147483648) : gMet l g yX10_bond cX10_bond 9 (some .int) 2 0 0 42 [.ref ko, vi a1, vi a2, vi a3, vi a4, vi a5, vi a6, vi a7] [(ko, cO 10 (kF th hr nL nO Q nY nE nR nB A)), (A 31, cA g 5 BP), (A 32, cA g 5 BQ), (A 33, cA g 5 BX), (A 34, cA g 5 BF), (A 35, cA g 5 BL), (A 36, cA g 5 BT), (A 37, cA g 5 BC)] (fun v9 w9 => ((((1 ≤ a1 ∧ a1 ≤ 999999) ∧ (0 ≤ a2 ∧ a2 ≤ 2) ∧ (1 ≤ a3 ∧ a3 ≤ 65535) ∧ (0 ≤ a4 ∧ a4 ≤ a5 ∧ a5 ≤ 2199) ∧ (1 ≤ a6 ∧ a6 ≤ 9) ∧ (1 ≤ a7 ∧ a7 ≤ 100)) ∧ nB < 5 ∧ hr ≤ a5) ∧ v9 = some (vi (nB)) ∧ w9 = [(ko, cO 10 (kF 0 hr nL nO Q nY nE nR (nB + 1) A)), (A 31, cA g 5 (up BP nB a1)), (A 32, cA g 5 (up BQ nB a2)), (A 33, cA g 5 (up BX nB a3)), (A 34, cA g 5 (up BF nB a4)), (A 35, cA g 5 (up BL nB a5)), (A 36, cA g 5 (up BT nB a6)), (A 37, cA g 5 (up BC nB a7))]) ∨ ((¬ ((1 ≤ a1 ∧ a1 ≤ 999999) ∧ (0 ≤ a2 ∧ a2 ≤ 2) ∧ (1 ≤ a3 ∧ a3 ≤ 65535) ∧ (0 ≤ a4 ∧ a4 ≤ a5 ∧ a5 ≤ 2199) ∧ (1 ≤ a6 ∧ a6 ≤ 9) ∧ (1 ≤ a7 ∧ a7 ≤ 100))) ∧ v9 = some (vi 0) ∧ w9 = [(ko, cO 10 (kF 1 hr nL nO Q nY nE nR nB A)), (A 31, cA g 5 BP), (A 32, cA g 5 BQ), (A 33, cA g 5 BX), (A 34, cA g 5 BF), (A 35, cA g 5 BL), (A 36, cA g 5 BT), (A 37, cA g 5 BC)]) ∨ ((((1 ≤ a1 ∧ a1 ≤ 999999) ∧ (0 ≤ a2 ∧ a2 ≤ 2) ∧ (1 ≤ a3 ∧ a3 ≤ 65535) ∧ (0 ≤ a4 ∧ a4 ≤ a5 ∧ a5 ≤ 2199) ∧ (1 ≤ a6 ∧ a6 ≤ 9) ∧ (1 ≤ a7 ∧ a7 ≤ 100)) ∧ (nB = 5 ∨ a5 < hr)) ∧ v9 = some (vi 0) ∧ w9 = [(ko, cO 10 (kF 2 hr nL nO Q nY nE nR nB A)), (A 31, cA g 5 BP), (A 32, cA g 5 BQ), (A 33, cA g 5 BX), (A 34, cA g 5 BF), (A 35, cA g 5 BL), (A 36, cA g 5 BT), (A 37, cA g 5 BC)])) := by
  refine gMet.of y_X10_bond.2.2.2.2.1 (Nat.le_of_ble_eq_true rfl) ?_
  intro x hlx C hR hnm
  subst hlx
  have C : gC g x RX10 cX10_bond 9 2 0 0 42 := C
  show gW g x [(ko, cO 10 (kF th hr nL nO Q nY nE nR nB A)), (A 31, cA g 5 BP), (A 32, cA g 5 BQ), (A 33, cA g 5 BX), (A 34, cA g 5 BF), (A 35, cA g 5 BL), (A 36, cA g 5 BT), (A 37, cA g 5 BC)] 0 0 [(0, .ref ko), (1, vi a1), (2, vi a2), (3, vi a3), (4, vi a4), (5, vi a5), (6, vi a6), (7, vi a7)] 0 []
  have J77 : ∀ (w0 : Int), (w0 = if (1 ≤ a1 ∧ a1 ≤ 999999) ∧ (0 ≤ a2 ∧ a2 ≤ 2) ∧ (1 ≤ a3 ∧ a3 ≤ 65535) ∧ (0 ≤ a4 ∧ a4 ≤ a5 ∧ a5 ≤ 2199) ∧ (1 ≤ a6 ∧ a6 ≤ 9) ∧ (1 ≤ a7 ∧ a7 ≤ 100) then 1 else 0) → gW g x [(ko, cO 10 (kF th hr nL nO Q nY nE nR nB A)), (A 31, cA g 5 BP), (A 32, cA g 5 BQ), (A 33, cA g 5 BX), (A 34, cA g 5 BF), (A 35, cA g 5 BL), (A 36, cA g 5 BT), (A 37, cA g 5 BC)] 0 0 [(0, .ref ko), (1, vi a1), (2, vi a2), (3, vi a3), (4, vi a4), (5, vi a5), (6, vi a6), (7, vi a7)] 77 [vi w0] := by
    intro w0 hJ77
    refine g_istore C [(8, vi w0), (0, .ref ko), (1, vi a1), (2, vi a2), (3, vi a3), (4, vi a4), (5, vi a5), (6, vi a6), (7, vi a7)] dX10_bond_77 (by decide) rfl ?_
    refine g_aload_n C 1 dX10_bond_79 rfl ?_
    have J111 : ∀ (cd : Int), ((cd = 0 ∧ ((1 ≤ a1 ∧ a1 ≤ 999999) ∧ (0 ≤ a2 ∧ a2 ≤ 2) ∧ (1 ≤ a3 ∧ a3 ≤ 65535) ∧ (0 ≤ a4 ∧ a4 ≤ a5 ∧ a5 ≤ 2199) ∧ (1 ≤ a6 ∧ a6 ≤ 9) ∧ (1 ≤ a7 ∧ a7 ≤ 100)) ∧ nB < 5 ∧ hr ≤ a5) ∨ (cd = 1 ∧ ¬ ((1 ≤ a1 ∧ a1 ≤ 999999) ∧ (0 ≤ a2 ∧ a2 ≤ 2) ∧ (1 ≤ a3 ∧ a3 ≤ 65535) ∧ (0 ≤ a4 ∧ a4 ≤ a5 ∧ a5 ≤ 2199) ∧ (1 ≤ a6 ∧ a6 ≤ 9) ∧ (1 ≤ a7 ∧ a7 ≤ 100))) ∨ (cd = 2 ∧ ((1 ≤ a1 ∧ a1 ≤ 999999) ∧ (0 ≤ a2 ∧ a2 ≤ 2) ∧ (1 ≤ a3 ∧ a3 ≤ 65535) ∧ (0 ≤ a4 ∧ a4 ≤ a5 ∧ a5 ≤ 2199) ∧ (1 ≤ a6 ∧ a6 ≤ 9) ∧ (1 ≤ a7 ∧ a7 ≤ 100)) ∧ (nB = 5 ∨ a5 < hr))) → gW g x [(ko, cO 10 (kF th hr nL nO Q nY nE nR nB A)), (A 31, cA g 5 BP), (A 32, cA g 5 BQ), (A 33, cA g 5 BX), (A 34, cA g 5 BF), (A 35, cA g 5 BL), (A 36, cA g 5 BT), (A 37, cA g 5 BC)] 0 0 [(8, vi w0), (0, .ref ko), (1, vi a1), (2, vi a2), (3, vi a3), (4, vi a4), (5, vi a5), (6, vi a6), (7, vi a7)] 111 [vi cd, .ref ko] := by
      intro cd hJ111
      refine g_callV C [vi cd] [] (c_X10_goesWell x.1.2.1 g ko A th hr nL nO Q nY nE nR nB cd (by omega)) y_X10_goesWell l_X10_156 [0] rfl (by decide) 0 rfl rfl rfl (Nat.le_of_ble_eq_true rfl) rfl (by decide) dX10_bond_111 (fun v9 w9 hp9 => ?_)
      obtain ⟨rfl, rfl⟩ := hp9
      simp only [putAll, List.set_cons_succ, List.set_cons_zero, List.cons_append, List.nil_append, List.append_nil, Option.toList]
      show gW g x [(ko, cO 10 (kF cd hr nL nO Q nY nE nR nB A)), (A 31, cA g 5 BP), (A 32, cA g 5 BQ), (A 33, cA g 5 BX), (A 34, cA g 5 BF), (A 35, cA g 5 BL), (A 36, cA g 5 BT), (A 37, cA g 5 BC)] 0 0 [(8, vi w0), (0, .ref ko), (1, vi a1), (2, vi a2), (3, vi a3), (4, vi a4), (5, vi a5), (6, vi a6), (7, vi a7)] 114 [vi (if cd = 0 then 1 else 0)]
      refine g_if_ne C 119 dX10_bond_114 (by decide) (by omega) (fun c114 => ?_) (fun c114 => ?_)
      · obtain ⟨rfl, hok⟩ : cd = 0 ∧ (((1 ≤ a1 ∧ a1 ≤ 999999) ∧ (0 ≤ a2 ∧ a2 ≤ 2) ∧ (1 ≤ a3 ∧ a3 ≤ 65535) ∧ (0 ≤ a4 ∧ a4 ≤ a5 ∧ a5 ≤ 2199) ∧ (1 ≤ a6 ∧ a6 ≤ 9) ∧ (1 ≤ a7 ∧ a7 ≤ 100)) ∧ nB < 5 ∧ hr ≤ a5) := by
          rcases hJ111 with ⟨e9, h9⟩ | ⟨e9, h9⟩ | ⟨e9, h9⟩
          · exact ⟨e9, h9⟩
          · exfalso; omega
          · exfalso; omega
        refine g_aload_n C 1 dX10_bond_119 rfl ?_
        refine g_getf C k_X10 31 f_X10_76 0 rfl rfl (by decide) rfl rfl dX10_bond_120 ?_
        refine g_aload_n C 1 dX10_bond_123 rfl ?_
        refine g_getf C k_X10 30 f_X10_198 0 rfl rfl (by decide) rfl rfl dX10_bond_124 ?_
        refine g_iload_n C 2 dX10_bond_127 rfl ?_
        refine g_iast C 1 rfl (by omega) [(ko, cO 10 (kF 0 hr nL nO Q nY nE nR nB A)), (A 31, cA g 5 (up BP nB a1)), (A 32, cA g 5 BQ), (A 33, cA g 5 BX), (A 34, cA g 5 BF), (A 35, cA g 5 BL), (A 36, cA g 5 BT), (A 37, cA g 5 BC)] rfl dX10_bond_128 ?_
        refine g_aload_n C 1 dX10_bond_129 rfl ?_
        refine g_getf C k_X10 32 f_X10_79 0 rfl rfl (by decide) rfl rfl dX10_bond_130 ?_
        refine g_aload_n C 1 dX10_bond_133 rfl ?_
        refine g_getf C k_X10 30 f_X10_198 0 rfl rfl (by decide) rfl rfl dX10_bond_134 ?_
        refine g_iload_n C 3 dX10_bond_137 rfl ?_
        refine g_iast C 2 rfl (by omega) [(ko, cO 10 (kF 0 hr nL nO Q nY nE nR nB A)), (A 31, cA g 5 (up BP nB a1)), (A 32, cA g 5 (up BQ nB a2)), (A 33, cA g 5 BX), (A 34, cA g 5 BF), (A 35, cA g 5 BL), (A 36, cA g 5 BT), (A 37, cA g 5 BC)] rfl dX10_bond_138 ?_
        refine g_aload_n C 1 dX10_bond_139 rfl ?_
        refine g_getf C k_X10 33 f_X10_82 0 rfl rfl (by decide) rfl rfl dX10_bond_140 ?_
        refine g_aload_n C 1 dX10_bond_143 rfl ?_
        refine g_getf C k_X10 30 f_X10_198 0 rfl rfl (by decide) rfl rfl dX10_bond_144 ?_
        refine g_iload_n C 4 dX10_bond_147 rfl ?_
        refine g_iast C 3 rfl (by omega) [(ko, cO 10 (kF 0 hr nL nO Q nY nE nR nB A)), (A 31, cA g 5 (up BP nB a1)), (A 32, cA g 5 (up BQ nB a2)), (A 33, cA g 5 (up BX nB a3)), (A 34, cA g 5 BF), (A 35, cA g 5 BL), (A 36, cA g 5 BT), (A 37, cA g 5 BC)] rfl dX10_bond_148 ?_
        refine g_aload_n C 1 dX10_bond_149 rfl ?_
        refine g_getf C k_X10 34 f_X10_85 0 rfl rfl (by decide) rfl rfl dX10_bond_150 ?_
        refine g_aload_n C 1 dX10_bond_153 rfl ?_
        refine g_getf C k_X10 30 f_X10_198 0 rfl rfl (by decide) rfl rfl dX10_bond_154 ?_
        refine g_iload C 5 dX10_bond_157 rfl ?_
        refine g_iast C 4 rfl (by omega) [(ko, cO 10 (kF 0 hr nL nO Q nY nE nR nB A)), (A 31, cA g 5 (up BP nB a1)), (A 32, cA g 5 (up BQ nB a2)), (A 33, cA g 5 (up BX nB a3)), (A 34, cA g 5 (up BF nB a4)), (A 35, cA g 5 BL), (A 36, cA g 5 BT), (A 37, cA g 5 BC)] rfl dX10_bond_159 ?_
        refine g_aload_n C 1 dX10_bond_160 rfl ?_
        refine g_getf C k_X10 35 f_X10_88 0 rfl rfl (by decide) rfl rfl dX10_bond_161 ?_
        refine g_aload_n C 1 dX10_bond_164 rfl ?_
        refine g_getf C k_X10 30 f_X10_198 0 rfl rfl (by decide) rfl rfl dX10_bond_165 ?_
        refine g_iload C 6 dX10_bond_168 rfl ?_
        refine g_iast C 5 rfl (by omega) [(ko, cO 10 (kF 0 hr nL nO Q nY nE nR nB A)), (A 31, cA g 5 (up BP nB a1)), (A 32, cA g 5 (up BQ nB a2)), (A 33, cA g 5 (up BX nB a3)), (A 34, cA g 5 (up BF nB a4)), (A 35, cA g 5 (up BL nB a5)), (A 36, cA g 5 BT), (A 37, cA g 5 BC)] rfl dX10_bond_170 ?_
        refine g_aload_n C 1 dX10_bond_171 rfl ?_
        refine g_getf C k_X10 36 f_X10_91 0 rfl rfl (by decide) rfl rfl dX10_bond_172 ?_
        refine g_aload_n C 1 dX10_bond_175 rfl ?_
        refine g_getf C k_X10 30 f_X10_198 0 rfl rfl (by decide) rfl rfl dX10_bond_176 ?_
        refine g_iload C 7 dX10_bond_179 rfl ?_
        refine g_iast C 6 rfl (by omega) [(ko, cO 10 (kF 0 hr nL nO Q nY nE nR nB A)), (A 31, cA g 5 (up BP nB a1)), (A 32, cA g 5 (up BQ nB a2)), (A 33, cA g 5 (up BX nB a3)), (A 34, cA g 5 (up BF nB a4)), (A 35, cA g 5 (up BL nB a5)), (A 36, cA g 5 (up BT nB a6)), (A 37, cA g 5 BC)] rfl dX10_bond_181 ?_
        refine g_aload_n C 1 dX10_bond_182 rfl ?_
        refine g_getf C k_X10 37 f_X10_94 0 rfl rfl (by decide) rfl rfl dX10_bond_183 ?_
        refine g_aload_n C 1 dX10_bond_186 rfl ?_
        refine g_getf C k_X10 30 f_X10_198 0 rfl rfl (by decide) rfl rfl dX10_bond_187 ?_
        refine g_iload C 8 dX10_bond_190 rfl ?_
        refine g_iast C 7 rfl (by omega) [(ko, cO 10 (kF 0 hr nL nO Q nY nE nR nB A)), (A 31, cA g 5 (up BP nB a1)), (A 32, cA g 5 (up BQ nB a2)), (A 33, cA g 5 (up BX nB a3)), (A 34, cA g 5 (up BF nB a4)), (A 35, cA g 5 (up BL nB a5)), (A 36, cA g 5 (up BT nB a6)), (A 37, cA g 5 (up BC nB a7))] rfl dX10_bond_192 ?_
        refine g_aload_n C 1 dX10_bond_193 rfl ?_
        refine g_dup C dX10_bond_194 rfl ?_
        refine g_getf C k_X10 30 f_X10_198 0 rfl rfl (by decide) rfl rfl dX10_bond_195 ?_
        refine g_iconst C dX10_bond_198 ?_
        refine g_iadd C dX10_bond_199 ?_
        refine g_putf C k_X10 tyX10_ok nmX10 30 f_X10_198 0 rfl rfl (by decide) rfl rfl rfl rfl (Nat.le_of_ble_eq_true rfl) [(ko, cO 10 (kF 0 hr nL nO Q nY nE nR (nB + 1) A)), (A 31, cA g 5 (up BP nB a1)), (A 32, cA g 5 (up BQ nB a2)), (A 33, cA g 5 (up BX nB a3)), (A 34, cA g 5 (up BF nB a4)), (A 35, cA g 5 (up BL nB a5)), (A 36, cA g 5 (up BT nB a6)), (A 37, cA g 5 (up BC nB a7))] rfl dX10_bond_200 ?_
        refine g_aload_n C 1 dX10_bond_203 rfl ?_
        refine g_getf C k_X10 30 f_X10_198 0 rfl rfl (by decide) rfl rfl dX10_bond_204 ?_
        refine g_iconst C dX10_bond_207 ?_
        refine g_isub C dX10_bond_208 ?_
        exact g_iret C hR dX10_bond_209 (Or.inl ⟨hok, (by first | rfl | (congr 2; omega)), rfl⟩) rfl
      refine g_iconst C dX10_bond_117 ?_
      rcases hJ111 with ⟨e9, h9⟩ | ⟨e9, h9⟩ | ⟨e9, h9⟩
      · exfalso; omega
      · subst e9; exact g_iret C hR dX10_bond_118 (Or.inr (Or.inl ⟨h9, rfl, rfl⟩)) rfl
      · subst e9; exact g_iret C hR dX10_bond_118 (Or.inr (Or.inr (⟨h9, rfl, rfl⟩))) rfl
    refine g_iload C 0 dX10_bond_80 rfl ?_
    refine g_if_ne C 89 dX10_bond_82 (by decide) (by omega) (fun c82 => ?_) (fun c82 => ?_)
    · refine g_aload_n C 1 dX10_bond_89 rfl ?_
      refine g_getf C k_X10 30 f_X10_198 0 rfl rfl (by decide) rfl rfl dX10_bond_90 ?_
      refine g_iconst C dX10_bond_93 ?_
      refine g_icmp_eq C 106 dX10_bond_94 (by decide) (by omega) (by omega) (fun c94 => ?_) (fun c94 => ?_)
      · refine g_iconst C dX10_bond_106 ?_
        refine g_goto C 111 dX10_bond_107 (by decide) ?_
        exact J111 2 (by omega)
      refine g_aload_n C 1 dX10_bond_97 rfl ?_
      refine g_getf C k_X10 1 f_X10_201 0 rfl rfl (by decide) rfl rfl dX10_bond_98 ?_
      refine g_iload C 6 dX10_bond_101 rfl ?_
      refine g_icmp_le C 110 dX10_bond_103 (by decide) (by omega) (by omega) (fun c103 => ?_) (fun c103 => ?_)
      · refine g_iconst C dX10_bond_110 ?_
        exact J111 0 (by omega)
      refine g_iconst C dX10_bond_106 ?_
      refine g_goto C 111 dX10_bond_107 (by decide) ?_
      exact J111 2 (by omega)
    refine g_iconst C dX10_bond_85 ?_
    refine g_goto C 111 dX10_bond_86 (by decide) ?_
    exact J111 1 (by omega)
  refine g_iload_n C 1 dX10_bond_0 rfl ?_
  refine g_iconst C dX10_bond_1 ?_
  refine g_ldc C (999999) n_X10_175 (by decide) dX10_bond_2 ?_
  refine g_callSp C [vi a1, vi 1, vi 999999] [] (c_X10_in x.1.2.1 g a1 1 999999 ha1 (by omega) (by omega)) y_X10_in l_X10_141 [] rfl (by decide) rfl (Nat.le_of_ble_eq_true rfl) rfl (by decide) dX10_bond_4 ?_
  refine g_if_eq C 76 dX10_bond_7 (by decide) (by omega) (fun c7 => ?_) (fun c7 => ?_)
  · refine g_iconst C dX10_bond_76 ?_
    exact J77 0 (by omega)
  refine g_iload_n C 2 dX10_bond_10 rfl ?_
  refine g_callSp C [vi a2] [] (c_X10_isPeril x.1.2.1 g a2 ha2) y_X10_isPeril l_X10_145 [] rfl (by decide) rfl (Nat.le_of_ble_eq_true rfl) rfl (by decide) dX10_bond_11 ?_
  refine g_if_eq C 76 dX10_bond_14 (by decide) (by omega) (fun c14 => ?_) (fun c14 => ?_)
  · refine g_iconst C dX10_bond_76 ?_
    exact J77 0 (by omega)
  refine g_iload_n C 3 dX10_bond_17 rfl ?_
  refine g_iconst C dX10_bond_18 ?_
  refine g_ldc C (65535) n_X10_197 (by decide) dX10_bond_19 ?_
  refine g_callSp C [vi a3, vi 1, vi 65535] [] (c_X10_in x.1.2.1 g a3 1 65535 ha3 (by omega) (by omega)) y_X10_in l_X10_141 [] rfl (by decide) rfl (Nat.le_of_ble_eq_true rfl) rfl (by decide) dX10_bond_21 ?_
  refine g_if_eq C 76 dX10_bond_24 (by decide) (by omega) (fun c24 => ?_) (fun c24 => ?_)
  · refine g_iconst C dX10_bond_76 ?_
    exact J77 0 (by omega)
  refine g_iload C 4 dX10_bond_27 rfl ?_
  refine g_callSp C [vi a4] [] (c_X10_isHour x.1.2.1 g a4 ha4) y_X10_isHour l_X10_149 [] rfl (by decide) rfl (Nat.le_of_ble_eq_true rfl) rfl (by decide) dX10_bond_29 ?_
  refine g_if_eq C 76 dX10_bond_32 (by decide) (by omega) (fun c32 => ?_) (fun c32 => ?_)
  · refine g_iconst C dX10_bond_76 ?_
    exact J77 0 (by omega)
  refine g_iload C 5 dX10_bond_35 rfl ?_
  refine g_callSp C [vi a5] [] (c_X10_isHour x.1.2.1 g a5 ha5) y_X10_isHour l_X10_149 [] rfl (by decide) rfl (Nat.le_of_ble_eq_true rfl) rfl (by decide) dX10_bond_37 ?_
  refine g_if_eq C 76 dX10_bond_40 (by decide) (by omega) (fun c40 => ?_) (fun c40 => ?_)
  · refine g_iconst C dX10_bond_76 ?_
    exact J77 0 (by omega)
  refine g_iload C 5 dX10_bond_43 rfl ?_
  refine g_iload C 4 dX10_bond_45 rfl ?_
  refine g_icmp_lt C 76 dX10_bond_47 (by decide) (by omega) (by omega) (fun c47 => ?_) (fun c47 => ?_)
  · refine g_iconst C dX10_bond_76 ?_
    exact J77 0 (by omega)
  refine g_iload C 6 dX10_bond_50 rfl ?_
  refine g_iconst C dX10_bond_52 ?_
  refine g_bipush C dX10_bond_53 (by decide) ?_
  refine g_callSp C [vi a6, vi 1, vi 9] [] (c_X10_in x.1.2.1 g a6 1 9 ha6 (by omega) (by omega)) y_X10_in l_X10_141 [] rfl (by decide) rfl (Nat.le_of_ble_eq_true rfl) rfl (by decide) dX10_bond_55 ?_
  refine g_if_eq C 76 dX10_bond_58 (by decide) (by omega) (fun c58 => ?_) (fun c58 => ?_)
  · refine g_iconst C dX10_bond_76 ?_
    exact J77 0 (by omega)
  refine g_iload C 7 dX10_bond_61 rfl ?_
  refine g_iconst C dX10_bond_63 ?_
  refine g_bipush C dX10_bond_64 (by decide) ?_
  refine g_callSp C [vi a7, vi 1, vi 100] [] (c_X10_in x.1.2.1 g a7 1 100 ha7 (by omega) (by omega)) y_X10_in l_X10_141 [] rfl (by decide) rfl (Nat.le_of_ble_eq_true rfl) rfl (by decide) dX10_bond_66 ?_
  refine g_if_eq C 76 dX10_bond_69 (by decide) (by omega) (fun c69 => ?_) (fun c69 => ?_)
  · refine g_iconst C dX10_bond_76 ?_
    exact J77 0 (by omega)
  refine g_iconst C dX10_bond_72 ?_
  refine g_goto C 77 dX10_bond_73 (by decide) ?_
  exact J77 1 (by omega)

set_option maxHeartbeats 4000000 in
set_option maxRecDepth 100000 in
theorem c_X10_isInTrust (l : Launch) (g : gD) (ko : Nat) (A : Nat → Nat) (th : Int) (hr : Int) (nL : Int) (nO : Int) (Q : Int) (nY : Int) (nE : Int) (nR : Int) (nB : Int) (BL : Int → Int) (BM : Int → Int) (b : Int) (hhr : 0 ≤ hr ∧ hr ≤ 2199) (hBL : ∀ k, 0 ≤ BL k ∧ BL k ≤ 2199) (hBM : ∀ k, 0 ≤ BM k ∧ BM k ≤ 500) (hb5 : 0 ≤ b ∧ b < 5) (hb : -2147483648 ≤ b ∧ b < 2147483648) : gMet l g yX10_isInTrust cX10_isInTrust 2 (some .boolean) 0 0 0 0 [.ref ko, vi b] [(ko, cO 10 (kF th hr nL nO Q nY nE nR nB A)), (A 35, cA g 5 BL), (A 38, cA g 5 BM)] (gM (some (vi (if hr ≤ BL b + BM b then 1 else 0))) [(ko, cO 10 (kF th hr nL nO Q nY nE nR nB A)), (A 35, cA g 5 BL), (A 38, cA g 5 BM)]) := by
  refine gMet.of y_X10_isInTrust.2.2.2.2.1 (Nat.le_of_ble_eq_true rfl) ?_
  intro x hlx C hR hnm
  subst hlx
  have C : gC g x RX10 cX10_isInTrust 2 0 0 0 0 := C
  show gW g x [(ko, cO 10 (kF th hr nL nO Q nY nE nR nB A)), (A 35, cA g 5 BL), (A 38, cA g 5 BM)] 0 0 [(0, .ref ko), (1, vi b)] 0 []
  refine g_aload_n C 0 dX10_isInTrust_0 rfl ?_
  refine g_getf C k_X10 1 f_X10_201 0 rfl rfl (by decide) rfl rfl dX10_isInTrust_1 ?_
  refine g_aload_n C 0 dX10_isInTrust_4 rfl ?_
  refine g_getf C k_X10 35 f_X10_88 0 rfl rfl (by decide) rfl rfl dX10_isInTrust_5 ?_
  refine g_iload_n C 1 dX10_isInTrust_8 rfl ?_
  refine g_iald C 1 rfl (by omega) dX10_isInTrust_9 ?_
  have r1_9 := hBL b
  refine g_aload_n C 0 dX10_isInTrust_10 rfl ?_
  refine g_getf C k_X10 38 f_X10_97 0 rfl rfl (by decide) rfl rfl dX10_isInTrust_11 ?_
  refine g_iload_n C 1 dX10_isInTrust_14 rfl ?_
  refine g_iald C 2 rfl (by omega) dX10_isInTrust_15 ?_
  have r2_15 := hBM b
  refine g_iadd C dX10_isInTrust_16 ?_
  refine g_icmp_gt C 24 dX10_isInTrust_17 (by decide) (by omega) (by omega) (fun c17 => ?_) (fun c17 => ?_)
  · refine g_iconst C dX10_isInTrust_24 ?_
    exact g_zretM C hR dX10_isInTrust_25 (by omega) (by first | rfl | omega) rfl rfl
  refine g_iconst C dX10_isInTrust_20 ?_
  refine g_goto C 25 dX10_isInTrust_21 (by decide) ?_
  exact g_zretM C hR dX10_isInTrust_25 (by omega) (by first | rfl | omega) rfl rfl

set_option maxHeartbeats 4000000 in
set_option maxRecDepth 100000 in
theorem c_X10_extend (l : Launch) (g : gD) (ko : Nat) (A : Nat → Nat) (th : Int) (hr : Int) (nL : Int) (nO : Int) (Q : Int) (nY : Int) (nE : Int) (nR : Int) (nB : Int) (BL : Int → Int) (BM : Int → Int) (b : Int) (h : Int) (hnB : 0 ≤ nB ∧ nB ≤ 5) (hhr : 0 ≤ hr ∧ hr ≤ 2199) (hBL : ∀ k, 0 ≤ BL k ∧ BL k ≤ 2199) (hBM : ∀ k, 0 ≤ BM k ∧ BM k ≤ 500) (hb : -2147483648 ≤ b ∧ b < 2147483648) (hh : -2147483648 ≤ h ∧ h < 2147483648) : gMet l g yX10_extend cX10_extend 4 (some .int) 2 0 0 43 [.ref ko, vi b, vi h] [(ko, cO 10 (kF th hr nL nO Q nY nE nR nB A)), (A 35, cA g 5 BL), (A 38, cA g 5 BM)] (fun v9 w9 => (((0 ≤ b ∧ b < nB) ∧ (1 ≤ h ∧ h ≤ 500) ∧ BM b ≤ 0 ∧ hr ≤ BL b + BM b) ∧ v9 = some (vi (BL b + h)) ∧ w9 = [(ko, cO 10 (kF 0 hr nL nO Q nY nE nR nB A)), (A 35, cA g 5 BL), (A 38, cA g 5 (up BM b h))]) ∨ ((¬ (0 ≤ b ∧ b < nB)) ∧ v9 = some (vi 0) ∧ w9 = [(ko, cO 10 (kF 1 hr nL nO Q nY nE nR nB A)), (A 35, cA g 5 BL), (A 38, cA g 5 BM)]) ∨ (((0 ≤ b ∧ b < nB) ∧ ¬ (1 ≤ h ∧ h ≤ 500)) ∧ v9 = some (vi 0) ∧ w9 = [(ko, cO 10 (kF 2 hr nL nO Q nY nE nR nB A)), (A 35, cA g 5 BL), (A 38, cA g 5 BM)]) ∨ (((0 ≤ b ∧ b < nB) ∧ (1 ≤ h ∧ h ≤ 500) ∧ (0 < BM b ∨ BL b + BM b < hr)) ∧ v9 = some (vi 0) ∧ w9 = [(ko, cO 10 (kF 3 hr nL nO Q nY nE nR nB A)), (A 35, cA g 5 BL), (A 38, cA g 5 BM)])) := by
  refine gMet.of y_X10_extend.2.2.2.2.1 (Nat.le_of_ble_eq_true rfl) ?_
  intro x hlx C hR hnm
  subst hlx
  have C : gC g x RX10 cX10_extend 4 2 0 0 43 := C
  show gW g x [(ko, cO 10 (kF th hr nL nO Q nY nE nR nB A)), (A 35, cA g 5 BL), (A 38, cA g 5 BM)] 0 0 [(0, .ref ko), (1, vi b), (2, vi h)] 0 []
  refine g_aload_n C 0 dX10_extend_0 rfl ?_
  refine g_iload_n C 1 dX10_extend_1 rfl ?_
  refine g_callVp C [vi b] [] (c_X10_isBond x.1.2.1 g ko A th hr nL nO Q nY nE nR nB b hnB hb) y_X10_isBond l_X10_204 [0] rfl (by decide) 0 rfl rfl rfl (Nat.le_of_ble_eq_true rfl) rfl (by decide) dX10_extend_2 ?_
  refine g_istore_n C [(3, vi (if 0 ≤ b ∧ b < nB then 1 else 0)), (0, .ref ko), (1, vi b), (2, vi h)] dX10_extend_5 (by decide) rfl ?_
  refine g_aload_n C 1 dX10_extend_6 rfl ?_
  have J52 : ∀ (cd : Int), ((cd = 0 ∧ (0 ≤ b ∧ b < nB) ∧ (1 ≤ h ∧ h ≤ 500) ∧ BM b ≤ 0 ∧ hr ≤ BL b + BM b) ∨ (cd = 1 ∧ ¬ (0 ≤ b ∧ b < nB)) ∨ (cd = 2 ∧ (0 ≤ b ∧ b < nB) ∧ ¬ (1 ≤ h ∧ h ≤ 500)) ∨ (cd = 3 ∧ (0 ≤ b ∧ b < nB) ∧ (1 ≤ h ∧ h ≤ 500) ∧ (0 < BM b ∨ BL b + BM b < hr))) → gW g x [(ko, cO 10 (kF th hr nL nO Q nY nE nR nB A)), (A 35, cA g 5 BL), (A 38, cA g 5 BM)] 0 0 [(3, vi (if 0 ≤ b ∧ b < nB then 1 else 0)), (0, .ref ko), (1, vi b), (2, vi h)] 52 [vi cd, .ref ko] := by
    intro cd hJ52
    refine g_callV C [vi cd] [] (c_X10_goesWell x.1.2.1 g ko A th hr nL nO Q nY nE nR nB cd (by omega)) y_X10_goesWell l_X10_156 [0] rfl (by decide) 0 rfl rfl rfl (Nat.le_of_ble_eq_true rfl) rfl (by decide) dX10_extend_52 (fun v9 w9 hp9 => ?_)
    obtain ⟨rfl, rfl⟩ := hp9
    simp only [putAll, List.set_cons_succ, List.set_cons_zero, List.cons_append, List.nil_append, List.append_nil, Option.toList]
    show gW g x [(ko, cO 10 (kF cd hr nL nO Q nY nE nR nB A)), (A 35, cA g 5 BL), (A 38, cA g 5 BM)] 0 0 [(3, vi (if 0 ≤ b ∧ b < nB then 1 else 0)), (0, .ref ko), (1, vi b), (2, vi h)] 55 [vi (if cd = 0 then 1 else 0)]
    refine g_if_ne C 60 dX10_extend_55 (by decide) (by omega) (fun c55 => ?_) (fun c55 => ?_)
    · obtain ⟨rfl, hok⟩ : cd = 0 ∧ ((0 ≤ b ∧ b < nB) ∧ (1 ≤ h ∧ h ≤ 500) ∧ BM b ≤ 0 ∧ hr ≤ BL b + BM b) := by
        rcases hJ52 with ⟨e9, h9⟩ | ⟨e9, h9⟩ | ⟨e9, h9⟩ | ⟨e9, h9⟩
        · exact ⟨e9, h9⟩
        · exfalso; omega
        · exfalso; omega
        · exfalso; omega
      refine g_aload_n C 1 dX10_extend_60 rfl ?_
      refine g_getf C k_X10 38 f_X10_97 0 rfl rfl (by decide) rfl rfl dX10_extend_61 ?_
      refine g_iload_n C 2 dX10_extend_64 rfl ?_
      refine g_iload_n C 3 dX10_extend_65 rfl ?_
      refine g_iast C 2 rfl (by omega) [(ko, cO 10 (kF 0 hr nL nO Q nY nE nR nB A)), (A 35, cA g 5 BL), (A 38, cA g 5 (up BM b h))] rfl dX10_extend_66 ?_
      refine g_aload_n C 1 dX10_extend_67 rfl ?_
      refine g_getf C k_X10 35 f_X10_88 0 rfl rfl (by decide) rfl rfl dX10_extend_68 ?_
      refine g_iload_n C 2 dX10_extend_71 rfl ?_
      refine g_iald C 1 rfl (by omega) dX10_extend_72 ?_
      have r1_72 := hBL b
      refine g_iload_n C 3 dX10_extend_73 rfl ?_
      refine g_iadd C dX10_extend_74 ?_
      exact g_iret C hR dX10_extend_75 (Or.inl ⟨hok, (by first | rfl | (congr 2; omega)), rfl⟩) rfl
    refine g_iconst C dX10_extend_58 ?_
    rcases hJ52 with ⟨e9, h9⟩ | ⟨e9, h9⟩ | ⟨e9, h9⟩ | ⟨e9, h9⟩
    · exfalso; omega
    · subst e9; exact g_iret C hR dX10_extend_59 (Or.inr (Or.inl ⟨h9, rfl, rfl⟩)) rfl
    · subst e9; exact g_iret C hR dX10_extend_59 (Or.inr (Or.inr (Or.inl ⟨h9, rfl, rfl⟩))) rfl
    · subst e9; exact g_iret C hR dX10_extend_59 (Or.inr (Or.inr (Or.inr (⟨h9, rfl, rfl⟩)))) rfl
  refine g_iload_n C 0 dX10_extend_7 rfl ?_
  refine g_if_ne C 15 dX10_extend_8 (by decide) (by omega) (fun c8 => ?_) (fun c8 => ?_)
  · refine g_iload_n C 3 dX10_extend_15 rfl ?_
    refine g_iconst C dX10_extend_16 ?_
    refine g_sipush C dX10_extend_17 (by decide) ?_
    refine g_callSp C [vi h, vi 1, vi 500] [.ref ko] (c_X10_in x.1.2.1 g h 1 500 hh (by omega) (by omega)) y_X10_in l_X10_141 [] rfl (by decide) rfl (Nat.le_of_ble_eq_true rfl) rfl (by decide) dX10_extend_20 ?_
    refine g_if_ne C 30 dX10_extend_23 (by decide) (by omega) (fun c23 => ?_) (fun c23 => ?_)
    · refine g_aload_n C 1 dX10_extend_30 rfl ?_
      refine g_getf C k_X10 38 f_X10_97 0 rfl rfl (by decide) rfl rfl dX10_extend_31 ?_
      refine g_iload_n C 2 dX10_extend_34 rfl ?_
      refine g_iald C 2 rfl (by omega) dX10_extend_35 ?_
      have r2_35 := hBM b
      refine g_if_gt C 47 dX10_extend_36 (by decide) (by omega) (fun c36 => ?_) (fun c36 => ?_)
      · refine g_iconst C dX10_extend_47 ?_
        refine g_goto C 52 dX10_extend_48 (by decide) ?_
        exact J52 3 (by omega)
      refine g_aload_n C 1 dX10_extend_39 rfl ?_
      refine g_iload_n C 2 dX10_extend_40 rfl ?_
      refine g_callVp C [vi b] [.ref ko] (c_X10_isInTrust x.1.2.1 g ko A th hr nL nO Q nY nE nR nB BL BM b hhr hBL hBM (by omega) hb) y_X10_isInTrust l_X10_207 [0, 1, 2] rfl (by decide) 0 rfl rfl rfl (Nat.le_of_ble_eq_true rfl) rfl (by decide) dX10_extend_41 ?_
      refine g_if_ne C 51 dX10_extend_44 (by decide) (by omega) (fun c44 => ?_) (fun c44 => ?_)
      · refine g_iconst C dX10_extend_51 ?_
        exact J52 0 (by omega)
      refine g_iconst C dX10_extend_47 ?_
      refine g_goto C 52 dX10_extend_48 (by decide) ?_
      exact J52 3 (by omega)
    refine g_iconst C dX10_extend_26 ?_
    refine g_goto C 52 dX10_extend_27 (by decide) ?_
    exact J52 2 (by omega)
  refine g_iconst C dX10_extend_11 ?_
  refine g_goto C 52 dX10_extend_12 (by decide) ?_
  exact J52 1 (by omega)

set_option maxHeartbeats 4000000 in
set_option maxRecDepth 100000 in
theorem c_X10_fails (l : Launch) (g : gD) (ko : Nat) (A : Nat → Nat) (th : Int) (hr : Int) (nL : Int) (nO : Int) (Q : Int) (nY : Int) (nE : Int) (nR : Int) (nB : Int) (EF : Int → Int) (ES : Int → Int) (EH : Int → Int) (s : Int) (h : Int) (hnE : 0 ≤ nE ∧ nE ≤ 6) (hnR : 0 ≤ nR ∧ nR ≤ 60) (hEF : ∀ k, 0 ≤ EF k ∧ EF k ≤ 2200) (hES : ∀ k, 0 ≤ ES k ∧ ES k ≤ 5) (hEH : ∀ k, 0 ≤ EH k ∧ EH k ≤ 2199) (hs : -2147483648 ≤ s ∧ s < 2147483648) (hh : -2147483648 ≤ h ∧ h < 2147483648) : gMet l g yX10_fails cX10_fails 6 (some .int) 2 0 0 43 [.ref ko, vi s, vi h] [(ko, cO 10 (kF th hr nL nO Q nY nE nR nB A)), (A 24, cA g 6 EF), (A 26, cA g 60 ES), (A 27, cA g 60 EH)] (fun v9 w9 => (((0 ≤ s ∧ s < nE) ∧ (0 ≤ h ∧ h ≤ 2199) ∧ 2199 < EF s) ∧ v9 = some (vi (sm (fcn ES EH s h) nR)) ∧ w9 = [(ko, cO 10 (kF 0 hr nL nO Q nY nE nR nB A)), (A 24, cA g 6 (up EF s h)), (A 26, cA g 60 ES), (A 27, cA g 60 EH)]) ∨ ((¬ (0 ≤ s ∧ s < nE)) ∧ v9 = some (vi 0) ∧ w9 = [(ko, cO 10 (kF 1 hr nL nO Q nY nE nR nB A)), (A 24, cA g 6 EF), (A 26, cA g 60 ES), (A 27, cA g 60 EH)]) ∨ (((0 ≤ s ∧ s < nE) ∧ ¬ (0 ≤ h ∧ h ≤ 2199)) ∧ v9 = some (vi 0) ∧ w9 = [(ko, cO 10 (kF 2 hr nL nO Q nY nE nR nB A)), (A 24, cA g 6 EF), (A 26, cA g 60 ES), (A 27, cA g 60 EH)]) ∨ (((0 ≤ s ∧ s < nE) ∧ (0 ≤ h ∧ h ≤ 2199) ∧ EF s ≤ 2199) ∧ v9 = some (vi 0) ∧ w9 = [(ko, cO 10 (kF 3 hr nL nO Q nY nE nR nB A)), (A 24, cA g 6 EF), (A 26, cA g 60 ES), (A 27, cA g 60 EH)])) := by
  refine gMet.of y_X10_fails.2.2.2.2.1 (Nat.le_of_ble_eq_true rfl) ?_
  intro x hlx C hR hnm
  subst hlx
  have C : gC g x RX10 cX10_fails 6 2 0 0 43 := C
  show gW g x [(ko, cO 10 (kF th hr nL nO Q nY nE nR nB A)), (A 24, cA g 6 EF), (A 26, cA g 60 ES), (A 27, cA g 60 EH)] 0 0 [(0, .ref ko), (1, vi s), (2, vi h)] 0 []
  refine g_aload_n C 0 dX10_fails_0 rfl ?_
  refine g_iload_n C 1 dX10_fails_1 rfl ?_
  refine g_callVp C [vi s] [] (c_X10_isStation x.1.2.1 g ko A th hr nL nO Q nY nE nR nB s hnE hs) y_X10_isStation l_X10_191 [0] rfl (by decide) 0 rfl rfl rfl (Nat.le_of_ble_eq_true rfl) rfl (by decide) dX10_fails_2 ?_
  refine g_istore_n C [(3, vi (if 0 ≤ s ∧ s < nE then 1 else 0)), (0, .ref ko), (1, vi s), (2, vi h)] dX10_fails_5 (by decide) rfl ?_
  refine g_aload_n C 1 dX10_fails_6 rfl ?_
  have J43 : ∀ (cd : Int), ((cd = 0 ∧ (0 ≤ s ∧ s < nE) ∧ (0 ≤ h ∧ h ≤ 2199) ∧ 2199 < EF s) ∨ (cd = 1 ∧ ¬ (0 ≤ s ∧ s < nE)) ∨ (cd = 2 ∧ (0 ≤ s ∧ s < nE) ∧ ¬ (0 ≤ h ∧ h ≤ 2199)) ∨ (cd = 3 ∧ (0 ≤ s ∧ s < nE) ∧ (0 ≤ h ∧ h ≤ 2199) ∧ EF s ≤ 2199)) → gW g x [(ko, cO 10 (kF th hr nL nO Q nY nE nR nB A)), (A 24, cA g 6 EF), (A 26, cA g 60 ES), (A 27, cA g 60 EH)] 0 0 [(3, vi (if 0 ≤ s ∧ s < nE then 1 else 0)), (0, .ref ko), (1, vi s), (2, vi h)] 43 [vi cd, .ref ko] := by
    intro cd hJ43
    refine g_callV C [vi cd] [] (c_X10_goesWell x.1.2.1 g ko A th hr nL nO Q nY nE nR nB cd (by omega)) y_X10_goesWell l_X10_156 [0] rfl (by decide) 0 rfl rfl rfl (Nat.le_of_ble_eq_true rfl) rfl (by decide) dX10_fails_43 (fun v9 w9 hp9 => ?_)
    obtain ⟨rfl, rfl⟩ := hp9
    simp only [putAll, List.set_cons_succ, List.set_cons_zero, List.cons_append, List.nil_append, List.append_nil, Option.toList]
    show gW g x [(ko, cO 10 (kF cd hr nL nO Q nY nE nR nB A)), (A 24, cA g 6 EF), (A 26, cA g 60 ES), (A 27, cA g 60 EH)] 0 0 [(3, vi (if 0 ≤ s ∧ s < nE then 1 else 0)), (0, .ref ko), (1, vi s), (2, vi h)] 46 [vi (if cd = 0 then 1 else 0)]
    refine g_if_ne C 51 dX10_fails_46 (by decide) (by omega) (fun c46 => ?_) (fun c46 => ?_)
    · obtain ⟨rfl, hok⟩ : cd = 0 ∧ ((0 ≤ s ∧ s < nE) ∧ (0 ≤ h ∧ h ≤ 2199) ∧ 2199 < EF s) := by
        rcases hJ43 with ⟨e9, h9⟩ | ⟨e9, h9⟩ | ⟨e9, h9⟩ | ⟨e9, h9⟩
        · exact ⟨e9, h9⟩
        · exfalso; omega
        · exfalso; omega
        · exfalso; omega
      refine g_aload_n C 1 dX10_fails_51 rfl ?_
      refine g_getf C k_X10 24 f_X10_61 0 rfl rfl (by decide) rfl rfl dX10_fails_52 ?_
      refine g_iload_n C 2 dX10_fails_55 rfl ?_
      refine g_iload_n C 3 dX10_fails_56 rfl ?_
      refine g_iast C 1 rfl (by omega) [(ko, cO 10 (kF 0 hr nL nO Q nY nE nR nB A)), (A 24, cA g 6 (up EF s h)), (A 26, cA g 60 ES), (A 27, cA g 60 EH)] rfl dX10_fails_57 ?_
      refine g_iconst C dX10_fails_58 ?_
      refine g_istore C [(4, vi 0), (3, vi (if 0 ≤ s ∧ s < nE then 1 else 0)), (0, .ref ko), (1, vi s), (2, vi h)] dX10_fails_59 (by decide) rfl ?_
      refine g_iconst C dX10_fails_61 ?_
      refine g_istore C [(5, vi 0), (4, vi 0), (3, vi (if 0 ≤ s ∧ s < nE then 1 else 0)), (0, .ref ko), (1, vi s), (2, vi h)] dX10_fails_62 (by decide) rfl ?_
      have L64 : ∀ (f : Nat) (acc : Int) (i : Int), (0 ≤ i ∧ i ≤ nR ∧ acc = sm (fcn ES EH s h) i) → (nR - i).toNat < f → gW g x [(ko, cO 10 (kF 0 hr nL nO Q nY nE nR nB A)), (A 24, cA g 6 (up EF s h)), (A 26, cA g 60 ES), (A 27, cA g 60 EH)] 0 0 [(5, vi i), (4, vi acc), (3, vi (if 0 ≤ s ∧ s < nE then 1 else 0)), (0, .ref ko), (1, vi s), (2, vi h)] 64 [] := by
        intro f
        induction f with
        | zero => intro acc i hI64 hf; exact absurd hf (Nat.not_lt_zero _)
        | succ f ih64 =>
          intro acc i hI64 hf64
          refine g_iload C 0 dX10_fails_64 rfl ?_
          refine g_aload_n C 3 dX10_fails_66 rfl ?_
          refine g_getf C k_X10 25 f_X10_194 0 rfl rfl (by decide) rfl rfl dX10_fails_67 ?_
          refine g_icmp_ge C 111 dX10_fails_70 (by decide) (by omega) (by omega) (fun c70 => ?_) (fun c70 => ?_)
          · refine g_iload C 1 dX10_fails_111 rfl ?_
            exact g_iret C hR dX10_fails_113 (Or.inl ⟨hok, (congrArg (fun q => some (vi q)) (by rw [hI64.2.2, show i = nR by omega] <;> rfl)), rfl⟩) rfl
          refine g_iload C 1 dX10_fails_73 rfl ?_
          refine g_aload_n C 3 dX10_fails_75 rfl ?_
          refine g_getf C k_X10 26 f_X10_64 0 rfl rfl (by decide) rfl rfl dX10_fails_76 ?_
          refine g_iload C 0 dX10_fails_79 rfl ?_
          refine g_iald C 2 rfl (by omega) dX10_fails_81 ?_
          have r1_81 := hES i
          refine g_iload_n C 4 dX10_fails_82 rfl ?_
          refine g_icmp_ne C 101 dX10_fails_83 (by decide) (by omega) (by omega) (fun c83 => ?_) (fun c83 => ?_)
          · refine g_iconst C dX10_fails_101 ?_
            refine g_iadd C dX10_fails_102 ?_
            refine g_istore C [(4, vi (acc + 0)), (5, vi i), (3, vi (if 0 ≤ s ∧ s < nE then 1 else 0)), (0, .ref ko), (1, vi s), (2, vi h)] dX10_fails_103 (by decide) rfl ?_
            refine g_iinc C 1 [(5, vi (i + 1)), (4, vi (acc + 0)), (3, vi (if 0 ≤ s ∧ s < nE then 1 else 0)), (0, .ref ko), (1, vi s), (2, vi h)] dX10_fails_105 rfl (by decide) rfl ?_
            refine g_goto C 64 dX10_fails_108 (by decide) ?_
            exact ih64 (acc + 0) (i + 1) ⟨by omega, by omega, by rw [sm_s _ (by omega), ← hI64.2.2]; unfold fcn; first | (rw [if_pos (by omega)]; done) | (rw [if_neg (by omega)]; done)⟩ (by omega)
          refine g_aload_n C 3 dX10_fails_86 rfl ?_
          refine g_getf C k_X10 27 f_X10_67 0 rfl rfl (by decide) rfl rfl dX10_fails_87 ?_
          refine g_iload C 0 dX10_fails_90 rfl ?_
          refine g_iald C 3 rfl (by omega) dX10_fails_92 ?_
          have r2_92 := hEH i
          refine g_iload_n C 5 dX10_fails_93 rfl ?_
          refine g_icmp_ge C 101 dX10_fails_94 (by decide) (by omega) (by omega) (fun c94 => ?_) (fun c94 => ?_)
          · refine g_iconst C dX10_fails_101 ?_
            refine g_iadd C dX10_fails_102 ?_
            refine g_istore C [(4, vi (acc + 0)), (5, vi i), (3, vi (if 0 ≤ s ∧ s < nE then 1 else 0)), (0, .ref ko), (1, vi s), (2, vi h)] dX10_fails_103 (by decide) rfl ?_
            refine g_iinc C 1 [(5, vi (i + 1)), (4, vi (acc + 0)), (3, vi (if 0 ≤ s ∧ s < nE then 1 else 0)), (0, .ref ko), (1, vi s), (2, vi h)] dX10_fails_105 rfl (by decide) rfl ?_
            refine g_goto C 64 dX10_fails_108 (by decide) ?_
            exact ih64 (acc + 0) (i + 1) ⟨by omega, by omega, by rw [sm_s _ (by omega), ← hI64.2.2]; unfold fcn; first | (rw [if_pos (by omega)]; done) | (rw [if_neg (by omega)]; done)⟩ (by omega)
          refine g_iconst C dX10_fails_97 ?_
          refine g_goto C 102 dX10_fails_98 (by decide) ?_
          refine g_iadd C dX10_fails_102 ?_
          refine g_istore C [(4, vi (acc + 1)), (5, vi i), (3, vi (if 0 ≤ s ∧ s < nE then 1 else 0)), (0, .ref ko), (1, vi s), (2, vi h)] dX10_fails_103 (by decide) rfl ?_
          refine g_iinc C 1 [(5, vi (i + 1)), (4, vi (acc + 1)), (3, vi (if 0 ≤ s ∧ s < nE then 1 else 0)), (0, .ref ko), (1, vi s), (2, vi h)] dX10_fails_105 rfl (by decide) rfl ?_
          refine g_goto C 64 dX10_fails_108 (by decide) ?_
          exact ih64 (acc + 1) (i + 1) ⟨by omega, by omega, by rw [sm_s _ (by omega), ← hI64.2.2]; unfold fcn; first | (rw [if_pos (by omega)]; done) | (rw [if_neg (by omega)]; done)⟩ (by omega)
      exact L64 _ 0 0 ⟨by omega, by omega, rfl⟩ (Nat.lt_succ_self _)
    refine g_iconst C dX10_fails_49 ?_
    rcases hJ43 with ⟨e9, h9⟩ | ⟨e9, h9⟩ | ⟨e9, h9⟩ | ⟨e9, h9⟩
    · exfalso; omega
    · subst e9; exact g_iret C hR dX10_fails_50 (Or.inr (Or.inl ⟨h9, rfl, rfl⟩)) rfl
    · subst e9; exact g_iret C hR dX10_fails_50 (Or.inr (Or.inr (Or.inl ⟨h9, rfl, rfl⟩))) rfl
    · subst e9; exact g_iret C hR dX10_fails_50 (Or.inr (Or.inr (Or.inr (⟨h9, rfl, rfl⟩)))) rfl
  refine g_iload_n C 0 dX10_fails_7 rfl ?_
  refine g_if_ne C 15 dX10_fails_8 (by decide) (by omega) (fun c8 => ?_) (fun c8 => ?_)
  · refine g_iload_n C 3 dX10_fails_15 rfl ?_
    refine g_callSp C [vi h] [.ref ko] (c_X10_isHour x.1.2.1 g h hh) y_X10_isHour l_X10_149 [] rfl (by decide) rfl (Nat.le_of_ble_eq_true rfl) rfl (by decide) dX10_fails_16 ?_
    refine g_if_ne C 26 dX10_fails_19 (by decide) (by omega) (fun c19 => ?_) (fun c19 => ?_)
    · refine g_aload_n C 1 dX10_fails_26 rfl ?_
      refine g_getf C k_X10 24 f_X10_61 0 rfl rfl (by decide) rfl rfl dX10_fails_27 ?_
      refine g_iload_n C 2 dX10_fails_30 rfl ?_
      refine g_iald C 1 rfl (by omega) dX10_fails_31 ?_
      have r3_31 := hEF s
      refine g_sipush C dX10_fails_32 (by decide) ?_
      refine g_icmp_gt C 42 dX10_fails_35 (by decide) (by omega) (by omega) (fun c35 => ?_) (fun c35 => ?_)
      · refine g_iconst C dX10_fails_42 ?_
        exact J43 0 (by omega)
      refine g_iconst C dX10_fails_38 ?_
      refine g_goto C 43 dX10_fails_39 (by decide) ?_
      exact J43 3 (by omega)
    refine g_iconst C dX10_fails_22 ?_
    refine g_goto C 43 dX10_fails_23 (by decide) ?_
    exact J43 2 (by omega)
  refine g_iconst C dX10_fails_11 ?_
  refine g_goto C 43 dX10_fails_12 (by decide) ?_
  exact J43 1 (by omega)

set_option maxHeartbeats 4000000 in
set_option maxRecDepth 100000 in
theorem c_X10_scenario (l : Launch) (g : gD) (ko : Nat) (A : Nat → Nat) (th : Int) (hr : Int) (nL : Int) (nO : Int) (Q : Int) (nY : Int) (nE : Int) (nR : Int) (nB : Int) (MC : Int → Int) (MW : Int → Int) (MU : Int → Int) (q : Int) (a : Int) (b : Int) (hMC : ∀ k, 0 ≤ MC k ∧ MC k ≤ 12) (hq : -2147483648 ≤ q ∧ q < 2147483648) (ha : -2147483648 ≤ a ∧ a < 2147483648) (hb : -2147483648 ≤ b ∧ b < 2147483648) : gMet l g yX10_scenario cX10_scenario 6 (some .int) 2 0 0 42 [.ref ko, vi q, vi a, vi b] [(ko, cO 10 (kF th hr nL nO Q nY nE nR nB A)), (A 39, cA g 3 MC), (A 40, cA g 36 MW), (A 41, cA g 36 MU)] (fun v9 w9 => (((0 ≤ q ∧ q ≤ 2) ∧ ((1 ≤ a ∧ a ≤ 99) ∧ (0 ≤ b ∧ b ≤ 999999)) ∧ MC q < 12) ∧ v9 = some (vi (MC q + 1)) ∧ w9 = [(ko, cO 10 (kF 0 hr nL nO Q nY nE nR nB A)), (A 39, cA g 3 (up MC q (MC q + 1))), (A 40, cA g 36 (up MW (12 * q + MC q) a)), (A 41, cA g 36 (up MU (12 * q + MC q) b))]) ∨ ((¬ (0 ≤ q ∧ q ≤ 2)) ∧ v9 = some (vi 0) ∧ w9 = [(ko, cO 10 (kF 1 hr nL nO Q nY nE nR nB A)), (A 39, cA g 3 MC), (A 40, cA g 36 MW), (A 41, cA g 36 MU)]) ∨ (((0 ≤ q ∧ q ≤ 2) ∧ ¬ ((1 ≤ a ∧ a ≤ 99) ∧ (0 ≤ b ∧ b ≤ 999999))) ∧ v9 = some (vi 0) ∧ w9 = [(ko, cO 10 (kF 2 hr nL nO Q nY nE nR nB A)), (A 39, cA g 3 MC), (A 40, cA g 36 MW), (A 41, cA g 36 MU)]) ∨ (((0 ≤ q ∧ q ≤ 2) ∧ ((1 ≤ a ∧ a ≤ 99) ∧ (0 ≤ b ∧ b ≤ 999999)) ∧ MC q = 12) ∧ v9 = some (vi 0) ∧ w9 = [(ko, cO 10 (kF 3 hr nL nO Q nY nE nR nB A)), (A 39, cA g 3 MC), (A 40, cA g 36 MW), (A 41, cA g 36 MU)])) := by
  refine gMet.of y_X10_scenario.2.2.2.2.1 (Nat.le_of_ble_eq_true rfl) ?_
  intro x hlx C hR hnm
  subst hlx
  have C : gC g x RX10 cX10_scenario 6 2 0 0 42 := C
  show gW g x [(ko, cO 10 (kF th hr nL nO Q nY nE nR nB A)), (A 39, cA g 3 MC), (A 40, cA g 36 MW), (A 41, cA g 36 MU)] 0 0 [(0, .ref ko), (1, vi q), (2, vi a), (3, vi b)] 0 []
  have hc9 := hMC q
  refine g_iload_n C 1 dX10_scenario_0 rfl ?_
  refine g_callSp C [vi q] [] (c_X10_isModel x.1.2.1 g q hq) y_X10_isModel l_X10_210 [] rfl (by decide) rfl (Nat.le_of_ble_eq_true rfl) rfl (by decide) dX10_scenario_1 ?_
  refine g_istore C [(4, vi (if 0 ≤ q ∧ q ≤ 2 then 1 else 0)), (0, .ref ko), (1, vi q), (2, vi a), (3, vi b)] dX10_scenario_4 (by decide) rfl ?_
  have J31 : ∀ (w6 : Int), (w6 = if (1 ≤ a ∧ a ≤ 99) ∧ (0 ≤ b ∧ b ≤ 999999) then 1 else 0) → gW g x [(ko, cO 10 (kF th hr nL nO Q nY nE nR nB A)), (A 39, cA g 3 MC), (A 40, cA g 36 MW), (A 41, cA g 36 MU)] 0 0 [(4, vi (if 0 ≤ q ∧ q ≤ 2 then 1 else 0)), (0, .ref ko), (1, vi q), (2, vi a), (3, vi b)] 31 [vi w6] := by
    intro w6 hJ31
    refine g_istore C [(5, vi w6), (4, vi (if 0 ≤ q ∧ q ≤ 2 then 1 else 0)), (0, .ref ko), (1, vi q), (2, vi a), (3, vi b)] dX10_scenario_31 (by decide) rfl ?_
    refine g_aload_n C 2 dX10_scenario_33 rfl ?_
    have J68 : ∀ (cd : Int), ((cd = 0 ∧ (0 ≤ q ∧ q ≤ 2) ∧ ((1 ≤ a ∧ a ≤ 99) ∧ (0 ≤ b ∧ b ≤ 999999)) ∧ MC q < 12) ∨ (cd = 1 ∧ ¬ (0 ≤ q ∧ q ≤ 2)) ∨ (cd = 2 ∧ (0 ≤ q ∧ q ≤ 2) ∧ ¬ ((1 ≤ a ∧ a ≤ 99) ∧ (0 ≤ b ∧ b ≤ 999999))) ∨ (cd = 3 ∧ (0 ≤ q ∧ q ≤ 2) ∧ ((1 ≤ a ∧ a ≤ 99) ∧ (0 ≤ b ∧ b ≤ 999999)) ∧ MC q = 12)) → gW g x [(ko, cO 10 (kF th hr nL nO Q nY nE nR nB A)), (A 39, cA g 3 MC), (A 40, cA g 36 MW), (A 41, cA g 36 MU)] 0 0 [(5, vi w6), (4, vi (if 0 ≤ q ∧ q ≤ 2 then 1 else 0)), (0, .ref ko), (1, vi q), (2, vi a), (3, vi b)] 68 [vi cd, .ref ko] := by
      intro cd hJ68
      refine g_callV C [vi cd] [] (c_X10_goesWell x.1.2.1 g ko A th hr nL nO Q nY nE nR nB cd (by omega)) y_X10_goesWell l_X10_156 [0] rfl (by decide) 0 rfl rfl rfl (Nat.le_of_ble_eq_true rfl) rfl (by decide) dX10_scenario_68 (fun v9 w9 hp9 => ?_)
      obtain ⟨rfl, rfl⟩ := hp9
      simp only [putAll, List.set_cons_succ, List.set_cons_zero, List.cons_append, List.nil_append, List.append_nil, Option.toList]
      show gW g x [(ko, cO 10 (kF cd hr nL nO Q nY nE nR nB A)), (A 39, cA g 3 MC), (A 40, cA g 36 MW), (A 41, cA g 36 MU)] 0 0 [(5, vi w6), (4, vi (if 0 ≤ q ∧ q ≤ 2 then 1 else 0)), (0, .ref ko), (1, vi q), (2, vi a), (3, vi b)] 71 [vi (if cd = 0 then 1 else 0)]
      refine g_if_ne C 76 dX10_scenario_71 (by decide) (by omega) (fun c71 => ?_) (fun c71 => ?_)
      · obtain ⟨rfl, hok⟩ : cd = 0 ∧ ((0 ≤ q ∧ q ≤ 2) ∧ ((1 ≤ a ∧ a ≤ 99) ∧ (0 ≤ b ∧ b ≤ 999999)) ∧ MC q < 12) := by
          rcases hJ68 with ⟨e9, h9⟩ | ⟨e9, h9⟩ | ⟨e9, h9⟩ | ⟨e9, h9⟩
          · exact ⟨e9, h9⟩
          · exfalso; omega
          · exfalso; omega
          · exfalso; omega
        refine g_aload_n C 2 dX10_scenario_76 rfl ?_
        refine g_getf C k_X10 40 f_X10_103 0 rfl rfl (by decide) rfl rfl dX10_scenario_77 ?_
        refine g_bipush C dX10_scenario_80 (by decide) ?_
        refine g_iload_n C 3 dX10_scenario_82 rfl ?_
        refine g_imul C dX10_scenario_83 ?_
        refine g_aload_n C 2 dX10_scenario_84 rfl ?_
        refine g_getf C k_X10 39 f_X10_100 0 rfl rfl (by decide) rfl rfl dX10_scenario_85 ?_
        refine g_iload_n C 3 dX10_scenario_88 rfl ?_
        refine g_iald C 1 rfl (by omega) dX10_scenario_89 ?_
        have r1_89 := hMC q
        refine g_iadd C dX10_scenario_90 ?_
        refine g_iload_n C 4 dX10_scenario_91 rfl ?_
        refine g_iast C 2 rfl (by omega) [(ko, cO 10 (kF 0 hr nL nO Q nY nE nR nB A)), (A 39, cA g 3 MC), (A 40, cA g 36 (up MW ((12 * q) + (MC q)) a)), (A 41, cA g 36 MU)] rfl dX10_scenario_92 ?_
        refine g_aload_n C 2 dX10_scenario_93 rfl ?_
        refine g_getf C k_X10 41 f_X10_106 0 rfl rfl (by decide) rfl rfl dX10_scenario_94 ?_
        refine g_bipush C dX10_scenario_97 (by decide) ?_
        refine g_iload_n C 3 dX10_scenario_99 rfl ?_
        refine g_imul C dX10_scenario_100 ?_
        refine g_aload_n C 2 dX10_scenario_101 rfl ?_
        refine g_getf C k_X10 39 f_X10_100 0 rfl rfl (by decide) rfl rfl dX10_scenario_102 ?_
        refine g_iload_n C 3 dX10_scenario_105 rfl ?_
        refine g_iald C 1 rfl (by omega) dX10_scenario_106 ?_
        have r2_106 := hMC q
        refine g_iadd C dX10_scenario_107 ?_
        refine g_iload_n C 5 dX10_scenario_108 rfl ?_
        refine g_iast C 3 rfl (by omega) [(ko, cO 10 (kF 0 hr nL nO Q nY nE nR nB A)), (A 39, cA g 3 MC), (A 40, cA g 36 (up MW ((12 * q) + (MC q)) a)), (A 41, cA g 36 (up MU ((12 * q) + (MC q)) b))] rfl dX10_scenario_109 ?_
        refine g_aload_n C 2 dX10_scenario_110 rfl ?_
        refine g_getf C k_X10 39 f_X10_100 0 rfl rfl (by decide) rfl rfl dX10_scenario_111 ?_
        refine g_iload_n C 3 dX10_scenario_114 rfl ?_
        refine g_dup2 C dX10_scenario_115 rfl rfl ?_
        refine g_iald C 1 rfl (by omega) dX10_scenario_116 ?_
        have r3_116 := hMC q
        refine g_iconst C dX10_scenario_117 ?_
        refine g_iadd C dX10_scenario_118 ?_
        refine g_iast C 1 rfl (by omega) [(ko, cO 10 (kF 0 hr nL nO Q nY nE nR nB A)), (A 39, cA g 3 (up MC q ((MC q) + 1))), (A 40, cA g 36 (up MW ((12 * q) + (MC q)) a)), (A 41, cA g 36 (up MU ((12 * q) + (MC q)) b))] rfl dX10_scenario_119 ?_
        refine g_aload_n C 2 dX10_scenario_120 rfl ?_
        refine g_getf C k_X10 39 f_X10_100 0 rfl rfl (by decide) rfl rfl dX10_scenario_121 ?_
        refine g_iload_n C 3 dX10_scenario_124 rfl ?_
        refine g_iald C 1 rfl (by omega) dX10_scenario_125 ?_
        refine g_val (w := (MC q) + 1) up_s ?_
        exact g_iret C hR dX10_scenario_126 (Or.inl ⟨hok, (by first | rfl | (congr 2; omega)), rfl⟩) rfl
      refine g_iconst C dX10_scenario_74 ?_
      rcases hJ68 with ⟨e9, h9⟩ | ⟨e9, h9⟩ | ⟨e9, h9⟩ | ⟨e9, h9⟩
      · exfalso; omega
      · subst e9; exact g_iret C hR dX10_scenario_75 (Or.inr (Or.inl ⟨h9, rfl, rfl⟩)) rfl
      · subst e9; exact g_iret C hR dX10_scenario_75 (Or.inr (Or.inr (Or.inl ⟨h9, rfl, rfl⟩))) rfl
      · subst e9; exact g_iret C hR dX10_scenario_75 (Or.inr (Or.inr (Or.inr (⟨h9, rfl, rfl⟩)))) rfl
    refine g_iload C 1 dX10_scenario_34 rfl ?_
    refine g_if_ne C 43 dX10_scenario_36 (by decide) (by omega) (fun c36 => ?_) (fun c36 => ?_)
    · refine g_iload C 0 dX10_scenario_43 rfl ?_
      refine g_if_ne C 52 dX10_scenario_45 (by decide) (by omega) (fun c45 => ?_) (fun c45 => ?_)
      · refine g_aload_n C 2 dX10_scenario_52 rfl ?_
        refine g_getf C k_X10 39 f_X10_100 0 rfl rfl (by decide) rfl rfl dX10_scenario_53 ?_
        refine g_iload_n C 3 dX10_scenario_56 rfl ?_
        refine g_iald C 1 rfl (by omega) dX10_scenario_57 ?_
        have r4_57 := hMC q
        refine g_bipush C dX10_scenario_58 (by decide) ?_
        refine g_icmp_ne C 67 dX10_scenario_60 (by decide) (by omega) (by omega) (fun c60 => ?_) (fun c60 => ?_)
        · refine g_iconst C dX10_scenario_67 ?_
          exact J68 0 (by omega)
        refine g_iconst C dX10_scenario_63 ?_
        refine g_goto C 68 dX10_scenario_64 (by decide) ?_
        exact J68 3 (by omega)
      refine g_iconst C dX10_scenario_48 ?_
      refine g_goto C 68 dX10_scenario_49 (by decide) ?_
      exact J68 2 (by omega)
    refine g_iconst C dX10_scenario_39 ?_
    refine g_goto C 68 dX10_scenario_40 (by decide) ?_
    exact J68 1 (by omega)
  refine g_iload_n C 3 dX10_scenario_6 rfl ?_
  refine g_iconst C dX10_scenario_7 ?_
  refine g_bipush C dX10_scenario_8 (by decide) ?_
  refine g_callSp C [vi a, vi 1, vi 99] [] (c_X10_in x.1.2.1 g a 1 99 ha (by omega) (by omega)) y_X10_in l_X10_141 [] rfl (by decide) rfl (Nat.le_of_ble_eq_true rfl) rfl (by decide) dX10_scenario_10 ?_
  refine g_if_eq C 30 dX10_scenario_13 (by decide) (by omega) (fun c13 => ?_) (fun c13 => ?_)
  · refine g_iconst C dX10_scenario_30 ?_
    exact J31 0 (by omega)
  refine g_iload_n C 4 dX10_scenario_16 rfl ?_
  refine g_iconst C dX10_scenario_17 ?_
  refine g_ldc C (999999) n_X10_175 (by decide) dX10_scenario_18 ?_
  refine g_callSp C [vi b, vi 0, vi 999999] [] (c_X10_in x.1.2.1 g b 0 999999 hb (by omega) (by omega)) y_X10_in l_X10_141 [] rfl (by decide) rfl (Nat.le_of_ble_eq_true rfl) rfl (by decide) dX10_scenario_20 ?_
  refine g_if_eq C 30 dX10_scenario_23 (by decide) (by omega) (fun c23 => ?_) (fun c23 => ?_)
  · refine g_iconst C dX10_scenario_30 ?_
    exact J31 0 (by omega)
  refine g_iconst C dX10_scenario_26 ?_
  refine g_goto C 31 dX10_scenario_27 (by decide) ?_
  exact J31 1 (by omega)

def plN (PA : Int → Int) (y : Int) : Int → Int := fun k => PA (6 * y + k)

set_option maxHeartbeats 4000000 in
set_option maxRecDepth 100000 in
theorem c_X10_placed (l : Launch) (g : gD) (ko : Nat) (A : Nat → Nat) (th : Int) (hr : Int) (nL : Int) (nO : Int) (Q : Int) (nY : Int) (nE : Int) (nR : Int) (nB : Int) (PA : Int → Int) (y : Int) (hPA : ∀ k, 0 ≤ PA k ∧ PA k ≤ 100) (hy5 : 0 ≤ y ∧ y < 5) (hy : -2147483648 ≤ y ∧ y < 2147483648) : gMet l g yX10_placed cX10_placed 4 (some .int) 0 0 0 0 [.ref ko, vi y] [(ko, cO 10 (kF th hr nL nO Q nY nE nR nB A)), (A 18, cA g 30 PA)] (gM (some (vi (sm (plN PA y) 6))) [(ko, cO 10 (kF th hr nL nO Q nY nE nR nB A)), (A 18, cA g 30 PA)]) := by
  refine gMet.of y_X10_placed.2.2.2.2.1 (Nat.le_of_ble_eq_true rfl) ?_
  intro x hlx C hR hnm
  subst hlx
  have C : gC g x RX10 cX10_placed 4 0 0 0 0 := C
  show gW g x [(ko, cO 10 (kF th hr nL nO Q nY nE nR nB A)), (A 18, cA g 30 PA)] 0 0 [(0, .ref ko), (1, vi y)] 0 []
  refine g_iconst C dX10_placed_0 ?_
  refine g_istore_n C [(2, vi 0), (0, .ref ko), (1, vi y)] dX10_placed_1 (by decide) rfl ?_
  refine g_iconst C dX10_placed_2 ?_
  refine g_istore_n C [(3, vi 0), (2, vi 0), (0, .ref ko), (1, vi y)] dX10_placed_3 (by decide) rfl ?_
  have L4 : ∀ (f : Nat) (acc : Int) (i : Int), (0 ≤ i ∧ i ≤ 6 ∧ acc = sm (plN PA y) i) → (6 - i).toNat < f → gW g x [(ko, cO 10 (kF th hr nL nO Q nY nE nR nB A)), (A 18, cA g 30 PA)] 0 0 [(3, vi i), (2, vi acc), (0, .ref ko), (1, vi y)] 4 [] := by
    intro f
    induction f with
    | zero => intro acc i hI4 hf; exact absurd hf (Nat.not_lt_zero _)
    | succ f ih4 =>
      intro acc i hI4 hf4
      refine g_iload_n C 0 dX10_placed_4 rfl ?_
      refine g_bipush C dX10_placed_5 (by decide) ?_
      refine g_icmp_ge C 30 dX10_placed_7 (by decide) (by omega) (by omega) (fun c7 => ?_) (fun c7 => ?_)
      · refine g_iload_n C 1 dX10_placed_30 rfl ?_
        exact g_iretM C hR dX10_placed_31 (by rw [hI4.2.2, show i = 6 by omega] <;> rfl) rfl rfl
      refine g_iload_n C 1 dX10_placed_10 rfl ?_
      refine g_aload_n C 2 dX10_placed_11 rfl ?_
      refine g_getf C k_X10 18 f_X10_46 0 rfl rfl (by decide) rfl rfl dX10_placed_12 ?_
      refine g_bipush C dX10_placed_15 (by decide) ?_
      refine g_iload_n C 3 dX10_placed_17 rfl ?_
      refine g_imul C dX10_placed_18 ?_
      refine g_iload_n C 0 dX10_placed_19 rfl ?_
      refine g_iadd C dX10_placed_20 ?_
      refine g_iald C 1 rfl (by omega) dX10_placed_21 ?_
      have r1_21 := hPA ((6 * y) + i)
      refine g_iadd C dX10_placed_22 ?_
      refine g_istore_n C [(2, vi (acc + (PA ((6 * y) + i)))), (3, vi i), (0, .ref ko), (1, vi y)] dX10_placed_23 (by decide) rfl ?_
      refine g_iinc C 1 [(3, vi (i + 1)), (2, vi (acc + (PA ((6 * y) + i)))), (0, .ref ko), (1, vi y)] dX10_placed_24 rfl (by decide) rfl ?_
      refine g_goto C 4 dX10_placed_27 (by decide) ?_
      exact ih4 (acc + (PA ((6 * y) + i))) (i + 1) ⟨by omega, by omega, by rw [sm_s _ (by omega), ← hI4.2.2] <;> rfl⟩ (by omega)
  exact L4 _ 0 0 ⟨by omega, by omega, rfl⟩ (Nat.lt_succ_self _)

set_option maxHeartbeats 4000000 in
set_option maxRecDepth 100000 in
theorem c_X10_part (l : Launch) (g : gD) (ko : Nat) (A : Nat → Nat) (th : Int) (hr : Int) (nL : Int) (nO : Int) (Q : Int) (nY : Int) (nE : Int) (nR : Int) (nB : Int) (PA : Int → Int) (y : Int) (z : Int) (v : Int) (hnY : 0 ≤ nY ∧ nY ≤ 5) (hPA : ∀ k, 0 ≤ PA k ∧ PA k ≤ 100) (hy : -2147483648 ≤ y ∧ y < 2147483648) (hz : -2147483648 ≤ z ∧ z < 2147483648) (hv : -2147483648 ≤ v ∧ v < 2147483648) : gMet l g yX10_part cX10_part 7 (some .int) 2 0 0 43 [.ref ko, vi y, vi z, vi v] [(ko, cO 10 (kF th hr nL nO Q nY nE nR nB A)), (A 18, cA g 30 PA)] (fun v9 w9 => ((((0 ≤ y ∧ y < nY) ∧ (0 ≤ z ∧ z ≤ 5)) ∧ (0 ≤ v ∧ v ≤ 100) ∧ sm (plN PA y) 6 - PA (6 * y + z) + v ≤ 100) ∧ v9 = some (vi (100 - sm (plN (up PA (6 * y + z) v) y) 6)) ∧ w9 = [(ko, cO 10 (kF 0 hr nL nO Q nY nE nR nB A)), (A 18, cA g 30 (up PA (6 * y + z) v))]) ∨ ((¬ ((0 ≤ y ∧ y < nY) ∧ (0 ≤ z ∧ z ≤ 5))) ∧ v9 = some (vi 0) ∧ w9 = [(ko, cO 10 (kF 1 hr nL nO Q nY nE nR nB A)), (A 18, cA g 30 PA)]) ∨ ((((0 ≤ y ∧ y < nY) ∧ (0 ≤ z ∧ z ≤ 5)) ∧ ¬ (0 ≤ v ∧ v ≤ 100)) ∧ v9 = some (vi 0) ∧ w9 = [(ko, cO 10 (kF 2 hr nL nO Q nY nE nR nB A)), (A 18, cA g 30 PA)]) ∨ ((((0 ≤ y ∧ y < nY) ∧ (0 ≤ z ∧ z ≤ 5)) ∧ (0 ≤ v ∧ v ≤ 100) ∧ 100 < sm (plN PA y) 6 - PA (6 * y + z) + v) ∧ v9 = some (vi 0) ∧ w9 = [(ko, cO 10 (kF 3 hr nL nO Q nY nE nR nB A)), (A 18, cA g 30 PA)])) := by
  refine gMet.of y_X10_part.2.2.2.2.1 (Nat.le_of_ble_eq_true rfl) ?_
  intro x hlx C hR hnm
  subst hlx
  have C : gC g x RX10 cX10_part 7 2 0 0 43 := C
  show gW g x [(ko, cO 10 (kF th hr nL nO Q nY nE nR nB A)), (A 18, cA g 30 PA)] 0 0 [(0, .ref ko), (1, vi y), (2, vi z), (3, vi v)] 0 []
  have J20 : ∀ (w0 : Int), (w0 = if (0 ≤ y ∧ y < nY) ∧ (0 ≤ z ∧ z ≤ 5) then 1 else 0) → gW g x [(ko, cO 10 (kF th hr nL nO Q nY nE nR nB A)), (A 18, cA g 30 PA)] 0 0 [(0, .ref ko), (1, vi y), (2, vi z), (3, vi v)] 20 [vi w0] := by
    intro w0 hJ20
    refine g_istore C [(4, vi w0), (0, .ref ko), (1, vi y), (2, vi z), (3, vi v)] dX10_part_20 (by decide) rfl ?_
    refine g_iload_n C 4 dX10_part_22 rfl ?_
    refine g_iconst C dX10_part_23 ?_
    refine g_bipush C dX10_part_24 (by decide) ?_
    refine g_callSp C [vi v, vi 0, vi 100] [] (c_X10_in x.1.2.1 g v 0 100 hv (by omega) (by omega)) y_X10_in l_X10_141 [] rfl (by decide) rfl (Nat.le_of_ble_eq_true rfl) rfl (by decide) dX10_part_26 ?_
    refine g_istore C [(5, vi (if 0 ≤ v ∧ v ≤ 100 then 1 else 0)), (4, vi w0), (0, .ref ko), (1, vi y), (2, vi z), (3, vi v)] dX10_part_29 (by decide) rfl ?_
    have J70 : ∀ (w31 : Int), (w31 = if ((0 ≤ y ∧ y < nY) ∧ (0 ≤ z ∧ z ≤ 5)) ∧ (0 ≤ v ∧ v ≤ 100) ∧ sm (plN PA y) 6 - PA (6 * y + z) + v ≤ 100 then 1 else 0) → gW g x [(ko, cO 10 (kF th hr nL nO Q nY nE nR nB A)), (A 18, cA g 30 PA)] 0 0 [(5, vi (if 0 ≤ v ∧ v ≤ 100 then 1 else 0)), (4, vi w0), (0, .ref ko), (1, vi y), (2, vi z), (3, vi v)] 70 [vi w31] := by
      intro w31 hJ70
      refine g_istore C [(6, vi w31), (5, vi (if 0 ≤ v ∧ v ≤ 100 then 1 else 0)), (4, vi w0), (0, .ref ko), (1, vi y), (2, vi z), (3, vi v)] dX10_part_70 (by decide) rfl ?_
      refine g_aload_n C 3 dX10_part_72 rfl ?_
      have J101 : ∀ (cd : Int), ((cd = 0 ∧ ((0 ≤ y ∧ y < nY) ∧ (0 ≤ z ∧ z ≤ 5)) ∧ (0 ≤ v ∧ v ≤ 100) ∧ sm (plN PA y) 6 - PA (6 * y + z) + v ≤ 100) ∨ (cd = 1 ∧ ¬ ((0 ≤ y ∧ y < nY) ∧ (0 ≤ z ∧ z ≤ 5))) ∨ (cd = 2 ∧ ((0 ≤ y ∧ y < nY) ∧ (0 ≤ z ∧ z ≤ 5)) ∧ ¬ (0 ≤ v ∧ v ≤ 100)) ∨ (cd = 3 ∧ ((0 ≤ y ∧ y < nY) ∧ (0 ≤ z ∧ z ≤ 5)) ∧ (0 ≤ v ∧ v ≤ 100) ∧ 100 < sm (plN PA y) 6 - PA (6 * y + z) + v)) → gW g x [(ko, cO 10 (kF th hr nL nO Q nY nE nR nB A)), (A 18, cA g 30 PA)] 0 0 [(6, vi w31), (5, vi (if 0 ≤ v ∧ v ≤ 100 then 1 else 0)), (4, vi w0), (0, .ref ko), (1, vi y), (2, vi z), (3, vi v)] 101 [vi cd, .ref ko] := by
        intro cd hJ101
        refine g_callV C [vi cd] [] (c_X10_goesWell x.1.2.1 g ko A th hr nL nO Q nY nE nR nB cd (by omega)) y_X10_goesWell l_X10_156 [0] rfl (by decide) 0 rfl rfl rfl (Nat.le_of_ble_eq_true rfl) rfl (by decide) dX10_part_101 (fun v9 w9 hp9 => ?_)
        obtain ⟨rfl, rfl⟩ := hp9
        simp only [putAll, List.set_cons_succ, List.set_cons_zero, List.cons_append, List.nil_append, List.append_nil, Option.toList]
        show gW g x [(ko, cO 10 (kF cd hr nL nO Q nY nE nR nB A)), (A 18, cA g 30 PA)] 0 0 [(6, vi w31), (5, vi (if 0 ≤ v ∧ v ≤ 100 then 1 else 0)), (4, vi w0), (0, .ref ko), (1, vi y), (2, vi z), (3, vi v)] 104 [vi (if cd = 0 then 1 else 0)]
        refine g_if_ne C 109 dX10_part_104 (by decide) (by omega) (fun c104 => ?_) (fun c104 => ?_)
        · obtain ⟨rfl, hok⟩ : cd = 0 ∧ (((0 ≤ y ∧ y < nY) ∧ (0 ≤ z ∧ z ≤ 5)) ∧ (0 ≤ v ∧ v ≤ 100) ∧ sm (plN PA y) 6 - PA (6 * y + z) + v ≤ 100) := by
            rcases hJ101 with ⟨e9, h9⟩ | ⟨e9, h9⟩ | ⟨e9, h9⟩ | ⟨e9, h9⟩
            · exact ⟨e9, h9⟩
            · exfalso; omega
            · exfalso; omega
            · exfalso; omega
          refine g_aload_n C 3 dX10_part_109 rfl ?_
          refine g_getf C k_X10 18 f_X10_46 0 rfl rfl (by decide) rfl rfl dX10_part_110 ?_
          refine g_bipush C dX10_part_113 (by decide) ?_
          refine g_iload_n C 4 dX10_part_115 rfl ?_
          refine g_imul C dX10_part_116 ?_
          refine g_iload_n C 5 dX10_part_117 rfl ?_
          refine g_iadd C dX10_part_118 ?_
          refine g_iload_n C 6 dX10_part_119 rfl ?_
          refine g_iast C 1 rfl (by omega) [(ko, cO 10 (kF 0 hr nL nO Q nY nE nR nB A)), (A 18, cA g 30 (up PA ((6 * y) + z) v))] rfl dX10_part_120 ?_
          refine g_bipush C dX10_part_121 (by decide) ?_
          refine g_aload_n C 3 dX10_part_123 rfl ?_
          refine g_iload_n C 4 dX10_part_124 rfl ?_
          have hPA9 : ∀ k, 0 ≤ (up PA (6 * y + z) v) k ∧ (up PA (6 * y + z) v) k ≤ 100 := fun k => by have := hPA k; unfold up; split <;> omega
          refine g_callVp C [vi y] [vi 100] (c_X10_placed x.1.2.1 g ko A 0 hr nL nO Q nY nE nR nB (up PA ((6 * y) + z) v) y hPA9 (by omega) hy) y_X10_placed l_X10_185 [0, 1] rfl (by decide) 0 rfl rfl rfl (Nat.le_of_ble_eq_true rfl) rfl (by decide) dX10_part_125 ?_
          refine g_isub C dX10_part_128 ?_
          exact g_iret C hR dX10_part_129 (Or.inl ⟨hok, (by first | rfl | (congr 2; omega)), rfl⟩) rfl
        refine g_iconst C dX10_part_107 ?_
        rcases hJ101 with ⟨e9, h9⟩ | ⟨e9, h9⟩ | ⟨e9, h9⟩ | ⟨e9, h9⟩
        · exfalso; omega
        · subst e9; exact g_iret C hR dX10_part_108 (Or.inr (Or.inl ⟨h9, rfl, rfl⟩)) rfl
        · subst e9; exact g_iret C hR dX10_part_108 (Or.inr (Or.inr (Or.inl ⟨h9, rfl, rfl⟩))) rfl
        · subst e9; exact g_iret C hR dX10_part_108 (Or.inr (Or.inr (Or.inr (⟨h9, rfl, rfl⟩)))) rfl
      refine g_iload C 2 dX10_part_73 rfl ?_
      refine g_if_ne C 82 dX10_part_75 (by decide) (by omega) (fun c75 => ?_) (fun c75 => ?_)
      · refine g_iload C 1 dX10_part_82 rfl ?_
        refine g_if_ne C 91 dX10_part_84 (by decide) (by omega) (fun c84 => ?_) (fun c84 => ?_)
        · refine g_iload C 0 dX10_part_91 rfl ?_
          refine g_if_eq C 100 dX10_part_93 (by decide) (by omega) (fun c93 => ?_) (fun c93 => ?_)
          · refine g_iconst C dX10_part_100 ?_
            exact J101 3 (by omega)
          refine g_iconst C dX10_part_96 ?_
          refine g_goto C 101 dX10_part_97 (by decide) ?_
          exact J101 0 (by omega)
        refine g_iconst C dX10_part_87 ?_
        refine g_goto C 101 dX10_part_88 (by decide) ?_
        exact J101 2 (by omega)
      refine g_iconst C dX10_part_78 ?_
      refine g_goto C 101 dX10_part_79 (by decide) ?_
      exact J101 1 (by omega)
    refine g_iload C 1 dX10_part_31 rfl ?_
    refine g_if_eq C 69 dX10_part_33 (by decide) (by omega) (fun c33 => ?_) (fun c33 => ?_)
    · refine g_iconst C dX10_part_69 ?_
      exact J70 0 (by omega)
    refine g_iload C 0 dX10_part_36 rfl ?_
    refine g_if_eq C 69 dX10_part_38 (by decide) (by omega) (fun c38 => ?_) (fun c38 => ?_)
    · refine g_iconst C dX10_part_69 ?_
      exact J70 0 (by omega)
    refine g_aload_n C 2 dX10_part_41 rfl ?_
    refine g_iload_n C 3 dX10_part_42 rfl ?_
    refine g_callVp C [vi y] [] (c_X10_placed x.1.2.1 g ko A th hr nL nO Q nY nE nR nB PA y hPA (by omega) hy) y_X10_placed l_X10_185 [0, 1] rfl (by decide) 0 rfl rfl rfl (Nat.le_of_ble_eq_true rfl) rfl (by decide) dX10_part_43 ?_
    have hs9 := sm_bound (F := plN PA y) (lo := 0) (hi := 100) (n := 6) (by omega) (fun i _ _ => hPA _)
    have hz9 := hPA (6 * y + z)
    refine g_aload_n C 2 dX10_part_46 rfl ?_
    refine g_getf C k_X10 18 f_X10_46 0 rfl rfl (by decide) rfl rfl dX10_part_47 ?_
    refine g_bipush C dX10_part_50 (by decide) ?_
    refine g_iload_n C 3 dX10_part_52 rfl ?_
    refine g_imul C dX10_part_53 ?_
    refine g_iload_n C 4 dX10_part_54 rfl ?_
    refine g_iadd C dX10_part_55 ?_
    refine g_iald C 1 rfl (by omega) dX10_part_56 ?_
    have r1_56 := hPA ((6 * y) + z)
    refine g_isub C dX10_part_57 ?_
    refine g_iload_n C 5 dX10_part_58 rfl ?_
    refine g_iadd C dX10_part_59 ?_
    refine g_bipush C dX10_part_60 (by decide) ?_
    refine g_icmp_gt C 69 dX10_part_62 (by decide) (by omega) (by omega) (fun c62 => ?_) (fun c62 => ?_)
    · refine g_iconst C dX10_part_69 ?_
      exact J70 0 (by omega)
    refine g_iconst C dX10_part_65 ?_
    refine g_goto C 70 dX10_part_66 (by decide) ?_
    exact J70 1 (by omega)
  refine g_aload_n C 0 dX10_part_0 rfl ?_
  refine g_iload_n C 1 dX10_part_1 rfl ?_
  refine g_callVp C [vi y] [] (c_X10_isLayer x.1.2.1 g ko A th hr nL nO Q nY nE nR nB y hnY hy) y_X10_isLayer l_X10_179 [0] rfl (by decide) 0 rfl rfl rfl (Nat.le_of_ble_eq_true rfl) rfl (by decide) dX10_part_2 ?_
  refine g_if_eq C 19 dX10_part_5 (by decide) (by omega) (fun c5 => ?_) (fun c5 => ?_)
  · refine g_iconst C dX10_part_19 ?_
    exact J20 0 (by omega)
  refine g_iload_n C 2 dX10_part_8 rfl ?_
  refine g_callSp C [vi z] [] (c_X10_isOne x.1.2.1 g z hz) y_X10_isOne l_X10_182 [] rfl (by decide) rfl (Nat.le_of_ble_eq_true rfl) rfl (by decide) dX10_part_9 ?_
  refine g_if_eq C 19 dX10_part_12 (by decide) (by omega) (fun c12 => ?_) (fun c12 => ?_)
  · refine g_iconst C dX10_part_19 ?_
    exact J20 0 (by omega)
  refine g_iconst C dX10_part_15 ?_
  refine g_goto C 20 dX10_part_16 (by decide) ?_
  exact J20 1 (by omega)

