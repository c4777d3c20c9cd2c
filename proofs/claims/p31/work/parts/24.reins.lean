set_option maxHeartbeats 4000000 in
set_option maxRecDepth 100000 in
theorem c_X5_ofOccurrence (l : Launch) (g : gD) (so : Nat) (sg : Nat) (sq : Nat) (sp : Nat) (sd : Nat) (sc : Nat) (xh : Nat) (xp : Nat) (xr : Nat) (xc : Nat) (xl : Nat) (SG : Int → Int) (SQ : Int → Int) (SP : Int → Int) (SD : Int → Int) (SC : Int → Int) (nSo : Int) (nSy : Int) (nSl : Int) (nSr : Int) (o : Int) (w : Int) (ho : 0 ≤ o ∧ o < 8) (hw : 0 ≤ w ∧ w ≤ 5) : gMet l g yX5_ofOccurrence cX5_ofOccurrence 3 (some .int) 1 0 0 21 [.ref so, vi o, vi w] [(so, cO 5 [.ref sg, .ref sq, .ref sp, .ref sd, .ref sc, .ref xh, .ref xp, .ref xr, .ref xc, .ref xl, vi nSo, vi nSy, vi nSl, vi nSr]), (sg, cA g 8 SG), (sq, cA g 8 SQ), (sp, cA g 8 SP), (sd, cA g 8 SD), (sc, cA g 8 SC)] (gM (some (vi (if w = 0 then SG o else if w = 1 then SQ o else if w = 2 then SG o - SQ o else if w = 3 then SD o else if w = 4 then SC o else SP o))) [(so, cO 5 [.ref sg, .ref sq, .ref sp, .ref sd, .ref sc, .ref xh, .ref xp, .ref xr, .ref xc, .ref xl, vi nSo, vi nSy, vi nSl, vi nSr]), (sg, cA g 8 SG), (sq, cA g 8 SQ), (sp, cA g 8 SP), (sd, cA g 8 SD), (sc, cA g 8 SC)]) := by
  refine gMet.of y_X5_ofOccurrence.2.2.2.2.1 (Nat.le_of_ble_eq_true rfl) ?_
  intro x hlx C hR hnm
  subst hlx
  have C : gC g x RX5 cX5_ofOccurrence 3 1 0 0 21 := C
  show gW g x [(so, cO 5 [.ref sg, .ref sq, .ref sp, .ref sd, .ref sc, .ref xh, .ref xp, .ref xr, .ref xc, .ref xl, vi nSo, vi nSy, vi nSl, vi nSr]), (sg, cA g 8 SG), (sq, cA g 8 SQ), (sp, cA g 8 SP), (sd, cA g 8 SD), (sc, cA g 8 SC)] 0 0 [(0, .ref so), (1, vi o), (2, vi w)] 0 []
  refine g_iload_n C 2 dX5_ofOccurrence_0 rfl ?_
  by_cases e1_0 : w = 0
  · refine g_tin C 36 dX5_ofOccurrence_1 0 e1_0 (by decide) rfl (by decide) ?_
    refine g_aload_n C 0 dX5_ofOccurrence_36 rfl ?_
    refine g_getf C k_X5 0 f_X5_9 0 rfl rfl (by decide) rfl rfl dX5_ofOccurrence_37 ?_
    refine g_iload_n C 1 dX5_ofOccurrence_40 rfl ?_
    refine g_iald C 1 rfl (by omega) dX5_ofOccurrence_41 ?_
    exact g_iretM C hR dX5_ofOccurrence_42 (by first | rfl | omega) rfl rfl
  by_cases e1_1 : w = 1
  · refine g_tin C 43 dX5_ofOccurrence_1 1 e1_1 (by decide) rfl (by decide) ?_
    refine g_aload_n C 0 dX5_ofOccurrence_43 rfl ?_
    refine g_getf C k_X5 1 f_X5_15 0 rfl rfl (by decide) rfl rfl dX5_ofOccurrence_44 ?_
    refine g_iload_n C 1 dX5_ofOccurrence_47 rfl ?_
    refine g_iald C 2 rfl (by omega) dX5_ofOccurrence_48 ?_
    exact g_iretM C hR dX5_ofOccurrence_49 (by first | rfl | omega) rfl rfl
  by_cases e1_2 : w = 2
  · refine g_tin C 50 dX5_ofOccurrence_1 2 e1_2 (by decide) rfl (by decide) ?_
    refine g_aload_n C 0 dX5_ofOccurrence_50 rfl ?_
    refine g_iload_n C 1 dX5_ofOccurrence_51 rfl ?_
    refine g_callVp C [vi o] [] (c_X5_netOf x.1.2.1 g so sg sq sp sd sc xh xp xr xc xl SG SQ nSo nSy nSl nSr o ho) y_X5_netOf l_X5_91 [0, 1, 2] rfl (by decide) 0 rfl rfl rfl (Nat.le_of_ble_eq_true rfl) rfl (by decide) dX5_ofOccurrence_52 ?_
    exact g_iretM C hR dX5_ofOccurrence_55 (by first | rfl | omega) rfl rfl
  by_cases e1_3 : w = 3
  · refine g_tin C 56 dX5_ofOccurrence_1 3 e1_3 (by decide) rfl (by decide) ?_
    refine g_aload_n C 0 dX5_ofOccurrence_56 rfl ?_
    refine g_getf C k_X5 3 f_X5_21 0 rfl rfl (by decide) rfl rfl dX5_ofOccurrence_57 ?_
    refine g_iload_n C 1 dX5_ofOccurrence_60 rfl ?_
    refine g_iald C 4 rfl (by omega) dX5_ofOccurrence_61 ?_
    exact g_iretM C hR dX5_ofOccurrence_62 (by first | rfl | omega) rfl rfl
  by_cases e1_4 : w = 4
  · refine g_tin C 63 dX5_ofOccurrence_1 4 e1_4 (by decide) rfl (by decide) ?_
    refine g_aload_n C 0 dX5_ofOccurrence_63 rfl ?_
    refine g_getf C k_X5 4 f_X5_24 0 rfl rfl (by decide) rfl rfl dX5_ofOccurrence_64 ?_
    refine g_iload_n C 1 dX5_ofOccurrence_67 rfl ?_
    refine g_iald C 5 rfl (by omega) dX5_ofOccurrence_68 ?_
    exact g_iretM C hR dX5_ofOccurrence_69 (by first | rfl | omega) rfl rfl
  refine g_tout C 70 dX5_ofOccurrence_1 (by omega) (by omega) (by decide) ?_
  refine g_aload_n C 0 dX5_ofOccurrence_70 rfl ?_
  refine g_getf C k_X5 2 f_X5_18 0 rfl rfl (by decide) rfl rfl dX5_ofOccurrence_71 ?_
  refine g_iload_n C 1 dX5_ofOccurrence_74 rfl ?_
  refine g_iald C 3 rfl (by omega) dX5_ofOccurrence_75 ?_
  exact g_iretM C hR dX5_ofOccurrence_76 (by first | rfl | omega) rfl rfl

set_option maxHeartbeats 4000000 in
set_option maxRecDepth 100000 in
theorem c_X5_ofLayer (l : Launch) (g : gD) (so : Nat) (sg : Nat) (sq : Nat) (sp : Nat) (sd : Nat) (sc : Nat) (xh : Nat) (xp : Nat) (xr : Nat) (xc : Nat) (xl : Nat) (XH : Int → Int) (XP : Int → Int) (XR : Int → Int) (XC : Int → Int) (XL : Int → Int) (nSo : Int) (nSy : Int) (nSl : Int) (nSr : Int) (y : Int) (o : Int) (w : Int) (hy : 0 ≤ y ∧ y < 5) (ho : 0 ≤ o ∧ o < 8) (hw : 0 ≤ w ∧ w ≤ 4) : gMet l g yX5_ofLayer cX5_ofLayer 5 (some .int) 1 0 0 21 [.ref so, vi y, vi o, vi w] [(so, cO 5 [.ref sg, .ref sq, .ref sp, .ref sd, .ref sc, .ref xh, .ref xp, .ref xr, .ref xc, .ref xl, vi nSo, vi nSy, vi nSl, vi nSr]), (xh, cA g 40 XH), (xp, cA g 40 XP), (xr, cA g 40 XR), (xc, cA g 40 XC), (xl, cA g 40 XL)] (gM (some (vi (if w = 0 then XH (y * 8 + o) else if w = 1 then XP (y * 8 + o) else if w = 2 then XR (y * 8 + o) else if w = 3 then XC (y * 8 + o) else XL (y * 8 + o)))) [(so, cO 5 [.ref sg, .ref sq, .ref sp, .ref sd, .ref sc, .ref xh, .ref xp, .ref xr, .ref xc, .ref xl, vi nSo, vi nSy, vi nSl, vi nSr]), (xh, cA g 40 XH), (xp, cA g 40 XP), (xr, cA g 40 XR), (xc, cA g 40 XC), (xl, cA g 40 XL)]) := by
  refine gMet.of y_X5_ofLayer.2.2.2.2.1 (Nat.le_of_ble_eq_true rfl) ?_
  intro x hlx C hR hnm
  subst hlx
  have C : gC g x RX5 cX5_ofLayer 5 1 0 0 21 := C
  show gW g x [(so, cO 5 [.ref sg, .ref sq, .ref sp, .ref sd, .ref sc, .ref xh, .ref xp, .ref xr, .ref xc, .ref xl, vi nSo, vi nSy, vi nSl, vi nSr]), (xh, cA g 40 XH), (xp, cA g 40 XP), (xr, cA g 40 XR), (xc, cA g 40 XC), (xl, cA g 40 XL)] 0 0 [(0, .ref so), (1, vi y), (2, vi o), (3, vi w)] 0 []
  refine g_iload_n C 1 dX5_ofLayer_0 rfl ?_
  refine g_iload_n C 2 dX5_ofLayer_1 rfl ?_
  refine g_callSp C [vi y, vi o] [] (c_X5_slotOf x.1.2.1 g y o) y_X5_slotOf l_X5_87 [] rfl (by decide) rfl (Nat.le_of_ble_eq_true rfl) rfl (by decide) dX5_ofLayer_2 ?_
  refine g_istore C [(4, vi (y * 8 + o)), (0, .ref so), (1, vi y), (2, vi o), (3, vi w)] dX5_ofLayer_5 (by decide) rfl ?_
  refine g_iload_n C 4 dX5_ofLayer_7 rfl ?_
  by_cases e8_0 : w = 0
  · refine g_tin C 40 dX5_ofLayer_8 0 e8_0 (by decide) rfl (by decide) ?_
    refine g_aload_n C 1 dX5_ofLayer_40 rfl ?_
    refine g_getf C k_X5 5 f_X5_27 0 rfl rfl (by decide) rfl rfl dX5_ofLayer_41 ?_
    refine g_iload C 0 dX5_ofLayer_44 rfl ?_
    refine g_iald C 1 rfl (by omega) dX5_ofLayer_46 ?_
    exact g_iretM C hR dX5_ofLayer_47 (by first | rfl | omega) rfl rfl
  by_cases e8_1 : w = 1
  · refine g_tin C 48 dX5_ofLayer_8 1 e8_1 (by decide) rfl (by decide) ?_
    refine g_aload_n C 1 dX5_ofLayer_48 rfl ?_
    refine g_getf C k_X5 6 f_X5_30 0 rfl rfl (by decide) rfl rfl dX5_ofLayer_49 ?_
    refine g_iload C 0 dX5_ofLayer_52 rfl ?_
    refine g_iald C 2 rfl (by omega) dX5_ofLayer_54 ?_
    exact g_iretM C hR dX5_ofLayer_55 (by first | rfl | omega) rfl rfl
  by_cases e8_2 : w = 2
  · refine g_tin C 56 dX5_ofLayer_8 2 e8_2 (by decide) rfl (by decide) ?_
    refine g_aload_n C 1 dX5_ofLayer_56 rfl ?_
    refine g_getf C k_X5 7 f_X5_33 0 rfl rfl (by decide) rfl rfl dX5_ofLayer_57 ?_
    refine g_iload C 0 dX5_ofLayer_60 rfl ?_
    refine g_iald C 3 rfl (by omega) dX5_ofLayer_62 ?_
    exact g_iretM C hR dX5_ofLayer_63 (by first | rfl | omega) rfl rfl
  by_cases e8_3 : w = 3
  · refine g_tin C 64 dX5_ofLayer_8 3 e8_3 (by decide) rfl (by decide) ?_
    refine g_aload_n C 1 dX5_ofLayer_64 rfl ?_
    refine g_getf C k_X5 8 f_X5_36 0 rfl rfl (by decide) rfl rfl dX5_ofLayer_65 ?_
    refine g_iload C 0 dX5_ofLayer_68 rfl ?_
    refine g_iald C 4 rfl (by omega) dX5_ofLayer_70 ?_
    exact g_iretM C hR dX5_ofLayer_71 (by first | rfl | omega) rfl rfl
  refine g_tout C 72 dX5_ofLayer_8 (by omega) (by omega) (by decide) ?_
  refine g_aload_n C 1 dX5_ofLayer_72 rfl ?_
  refine g_getf C k_X5 9 f_X5_39 0 rfl rfl (by decide) rfl rfl dX5_ofLayer_73 ?_
  refine g_iload C 0 dX5_ofLayer_76 rfl ?_
  refine g_iald C 5 rfl (by omega) dX5_ofLayer_78 ?_
  exact g_iretM C hR dX5_ofLayer_79 (by first | rfl | omega) rfl rfl

set_option maxHeartbeats 4000000 in
set_option maxRecDepth 100000 in
theorem c_X5_totalGround (l : Launch) (g : gD) (so : Nat) (sg : Nat) (sq : Nat) (sp : Nat) (sd : Nat) (sc : Nat) (xh : Nat) (xp : Nat) (xr : Nat) (xc : Nat) (xl : Nat) (SG : Int → Int) (nSo : Int) (nSy : Int) (nSl : Int) (nSr : Int) (hSo : 0 ≤ nSo ∧ nSo ≤ 8) : gMet l g yX5_totalGround cX5_totalGround 1 (some .int) 1 0 0 23 [.ref so] [(so, cO 5 [.ref sg, .ref sq, .ref sp, .ref sd, .ref sc, .ref xh, .ref xp, .ref xr, .ref xc, .ref xl, vi nSo, vi nSy, vi nSl, vi nSr]), (sg, cA g 8 SG)] (gM (some (vi (sm SG nSo))) [(so, cO 5 [.ref sg, .ref sq, .ref sp, .ref sd, .ref sc, .ref xh, .ref xp, .ref xr, .ref xc, .ref xl, vi nSo, vi nSy, vi nSl, vi nSr]), (sg, cA g 8 SG)]) := by
  refine gMet.of y_X5_totalGround.2.2.2.2.1 (Nat.le_of_ble_eq_true rfl) ?_
  intro x hlx C hR hnm
  subst hlx
  have C : gC g x RX5 cX5_totalGround 1 1 0 0 23 := C
  show gW g x [(so, cO 5 [.ref sg, .ref sq, .ref sp, .ref sd, .ref sc, .ref xh, .ref xp, .ref xr, .ref xc, .ref xl, vi nSo, vi nSy, vi nSl, vi nSr]), (sg, cA g 8 SG)] 0 0 [(0, .ref so)] 0 []
  refine g_aload_n C 0 dX5_totalGround_0 rfl ?_
  refine g_getf C k_X5 0 f_X5_9 0 rfl rfl (by decide) rfl rfl dX5_totalGround_1 ?_
  refine g_aload_n C 0 dX5_totalGround_4 rfl ?_
  refine g_getf C k_X5 10 f_X5_48 0 rfl rfl (by decide) rfl rfl dX5_totalGround_5 ?_
  refine g_callSNp C [.ref sg, vi nSo] [] (c_X9_totalOf x.1.2.1 g sg 8 SG nSo (by omega)) y_X9_totalOf l_X5_108 [1] rfl (by decide) rfl (Nat.le_of_ble_eq_true rfl) rfl (by decide) dX5_totalGround_8 ?_
  exact g_iretM C hR dX5_totalGround_11 rfl rfl rfl

set_option maxHeartbeats 4000000 in
set_option maxRecDepth 100000 in
theorem c_X5_totalQuota (l : Launch) (g : gD) (so : Nat) (sg : Nat) (sq : Nat) (sp : Nat) (sd : Nat) (sc : Nat) (xh : Nat) (xp : Nat) (xr : Nat) (xc : Nat) (xl : Nat) (SQ : Int → Int) (nSo : Int) (nSy : Int) (nSl : Int) (nSr : Int) (hSo : 0 ≤ nSo ∧ nSo ≤ 8) : gMet l g yX5_totalQuota cX5_totalQuota 1 (some .int) 1 0 0 23 [.ref so] [(so, cO 5 [.ref sg, .ref sq, .ref sp, .ref sd, .ref sc, .ref xh, .ref xp, .ref xr, .ref xc, .ref xl, vi nSo, vi nSy, vi nSl, vi nSr]), (sq, cA g 8 SQ)] (gM (some (vi (sm SQ nSo))) [(so, cO 5 [.ref sg, .ref sq, .ref sp, .ref sd, .ref sc, .ref xh, .ref xp, .ref xr, .ref xc, .ref xl, vi nSo, vi nSy, vi nSl, vi nSr]), (sq, cA g 8 SQ)]) := by
  refine gMet.of y_X5_totalQuota.2.2.2.2.1 (Nat.le_of_ble_eq_true rfl) ?_
  intro x hlx C hR hnm
  subst hlx
  have C : gC g x RX5 cX5_totalQuota 1 1 0 0 23 := C
  show gW g x [(so, cO 5 [.ref sg, .ref sq, .ref sp, .ref sd, .ref sc, .ref xh, .ref xp, .ref xr, .ref xc, .ref xl, vi nSo, vi nSy, vi nSl, vi nSr]), (sq, cA g 8 SQ)] 0 0 [(0, .ref so)] 0 []
  refine g_aload_n C 0 dX5_totalQuota_0 rfl ?_
  refine g_getf C k_X5 1 f_X5_15 0 rfl rfl (by decide) rfl rfl dX5_totalQuota_1 ?_
  refine g_aload_n C 0 dX5_totalQuota_4 rfl ?_
  refine g_getf C k_X5 10 f_X5_48 0 rfl rfl (by decide) rfl rfl dX5_totalQuota_5 ?_
  refine g_callSNp C [.ref sq, vi nSo] [] (c_X9_totalOf x.1.2.1 g sq 8 SQ nSo (by omega)) y_X9_totalOf l_X5_108 [1] rfl (by decide) rfl (Nat.le_of_ble_eq_true rfl) rfl (by decide) dX5_totalQuota_8 ?_
  exact g_iretM C hR dX5_totalQuota_11 rfl rfl rfl

set_option maxHeartbeats 4000000 in
set_option maxRecDepth 100000 in
theorem c_X5_totalPaid (l : Launch) (g : gD) (so : Nat) (sg : Nat) (sq : Nat) (sp : Nat) (sd : Nat) (sc : Nat) (xh : Nat) (xp : Nat) (xr : Nat) (xc : Nat) (xl : Nat) (SD : Int → Int) (nSo : Int) (nSy : Int) (nSl : Int) (nSr : Int) (hSo : 0 ≤ nSo ∧ nSo ≤ 8) : gMet l g yX5_totalPaid cX5_totalPaid 1 (some .int) 1 0 0 23 [.ref so] [(so, cO 5 [.ref sg, .ref sq, .ref sp, .ref sd, .ref sc, .ref xh, .ref xp, .ref xr, .ref xc, .ref xl, vi nSo, vi nSy, vi nSl, vi nSr]), (sd, cA g 8 SD)] (gM (some (vi (sm SD nSo))) [(so, cO 5 [.ref sg, .ref sq, .ref sp, .ref sd, .ref sc, .ref xh, .ref xp, .ref xr, .ref xc, .ref xl, vi nSo, vi nSy, vi nSl, vi nSr]), (sd, cA g 8 SD)]) := by
  refine gMet.of y_X5_totalPaid.2.2.2.2.1 (Nat.le_of_ble_eq_true rfl) ?_
  intro x hlx C hR hnm
  subst hlx
  have C : gC g x RX5 cX5_totalPaid 1 1 0 0 23 := C
  show gW g x [(so, cO 5 [.ref sg, .ref sq, .ref sp, .ref sd, .ref sc, .ref xh, .ref xp, .ref xr, .ref xc, .ref xl, vi nSo, vi nSy, vi nSl, vi nSr]), (sd, cA g 8 SD)] 0 0 [(0, .ref so)] 0 []
  refine g_aload_n C 0 dX5_totalPaid_0 rfl ?_
  refine g_getf C k_X5 3 f_X5_21 0 rfl rfl (by decide) rfl rfl dX5_totalPaid_1 ?_
  refine g_aload_n C 0 dX5_totalPaid_4 rfl ?_
  refine g_getf C k_X5 10 f_X5_48 0 rfl rfl (by decide) rfl rfl dX5_totalPaid_5 ?_
  refine g_callSNp C [.ref sd, vi nSo] [] (c_X9_totalOf x.1.2.1 g sd 8 SD nSo (by omega)) y_X9_totalOf l_X5_108 [1] rfl (by decide) rfl (Nat.le_of_ble_eq_true rfl) rfl (by decide) dX5_totalPaid_8 ?_
  exact g_iretM C hR dX5_totalPaid_11 rfl rfl rfl

set_option maxHeartbeats 4000000 in
set_option maxRecDepth 100000 in
theorem c_X5_totalCharged (l : Launch) (g : gD) (so : Nat) (sg : Nat) (sq : Nat) (sp : Nat) (sd : Nat) (sc : Nat) (xh : Nat) (xp : Nat) (xr : Nat) (xc : Nat) (xl : Nat) (SC : Int → Int) (nSo : Int) (nSy : Int) (nSl : Int) (nSr : Int) (hSo : 0 ≤ nSo ∧ nSo ≤ 8) : gMet l g yX5_totalCharged cX5_totalCharged 1 (some .int) 1 0 0 23 [.ref so] [(so, cO 5 [.ref sg, .ref sq, .ref sp, .ref sd, .ref sc, .ref xh, .ref xp, .ref xr, .ref xc, .ref xl, vi nSo, vi nSy, vi nSl, vi nSr]), (sc, cA g 8 SC)] (gM (some (vi (sm SC nSo))) [(so, cO 5 [.ref sg, .ref sq, .ref sp, .ref sd, .ref sc, .ref xh, .ref xp, .ref xr, .ref xc, .ref xl, vi nSo, vi nSy, vi nSl, vi nSr]), (sc, cA g 8 SC)]) := by
  refine gMet.of y_X5_totalCharged.2.2.2.2.1 (Nat.le_of_ble_eq_true rfl) ?_
  intro x hlx C hR hnm
  subst hlx
  have C : gC g x RX5 cX5_totalCharged 1 1 0 0 23 := C
  show gW g x [(so, cO 5 [.ref sg, .ref sq, .ref sp, .ref sd, .ref sc, .ref xh, .ref xp, .ref xr, .ref xc, .ref xl, vi nSo, vi nSy, vi nSl, vi nSr]), (sc, cA g 8 SC)] 0 0 [(0, .ref so)] 0 []
  refine g_aload_n C 0 dX5_totalCharged_0 rfl ?_
  refine g_getf C k_X5 4 f_X5_24 0 rfl rfl (by decide) rfl rfl dX5_totalCharged_1 ?_
  refine g_aload_n C 0 dX5_totalCharged_4 rfl ?_
  refine g_getf C k_X5 10 f_X5_48 0 rfl rfl (by decide) rfl rfl dX5_totalCharged_5 ?_
  refine g_callSNp C [.ref sc, vi nSo] [] (c_X9_totalOf x.1.2.1 g sc 8 SC nSo (by omega)) y_X9_totalOf l_X5_108 [1] rfl (by decide) rfl (Nat.le_of_ble_eq_true rfl) rfl (by decide) dX5_totalCharged_8 ?_
  exact g_iretM C hR dX5_totalCharged_11 rfl rfl rfl

/-- what a part in percent of a layer bears of the windows' pays -/
def bor (XP : Int → Int) (y w : Int) : Int → Int := fun o => w * XP (y * 8 + o) / 100

set_option maxHeartbeats 4000000 in
set_option maxRecDepth 100000 in
theorem c_X5_borneBy (l : Launch) (g : gD) (so : Nat) (sg : Nat) (sq : Nat) (sp : Nat) (sd : Nat) (sc : Nat) (xh : Nat) (xp : Nat) (xr : Nat) (xc : Nat) (xl : Nat) (XP : Int → Int) (nSo : Int) (nSy : Int) (nSl : Int) (nSr : Int) (y : Int) (w : Int) (hSo : 0 ≤ nSo ∧ nSo ≤ 8) (hXP : ∀ k, 0 ≤ XP k ∧ XP k ≤ 999999) (hy : 0 ≤ y ∧ y < 5) (hw : 0 ≤ w ∧ w ≤ 100) : gMet l g yX5_borneBy cX5_borneBy 5 (some .int) 1 0 0 21 [.ref so, vi y, vi w] [(so, cO 5 [.ref sg, .ref sq, .ref sp, .ref sd, .ref sc, .ref xh, .ref xp, .ref xr, .ref xc, .ref xl, vi nSo, vi nSy, vi nSl, vi nSr]), (xp, cA g 40 XP)] (gM (some (vi (sm (bor XP y w) nSo))) [(so, cO 5 [.ref sg, .ref sq, .ref sp, .ref sd, .ref sc, .ref xh, .ref xp, .ref xr, .ref xc, .ref xl, vi nSo, vi nSy, vi nSl, vi nSr]), (xp, cA g 40 XP)]) := by
  refine gMet.of y_X5_borneBy.2.2.2.2.1 (Nat.le_of_ble_eq_true rfl) ?_
  intro x hlx C hR hnm
  subst hlx
  have C : gC g x RX5 cX5_borneBy 5 1 0 0 21 := C
  show gW g x [(so, cO 5 [.ref sg, .ref sq, .ref sp, .ref sd, .ref sc, .ref xh, .ref xp, .ref xr, .ref xc, .ref xl, vi nSo, vi nSy, vi nSl, vi nSr]), (xp, cA g 40 XP)] 0 0 [(0, .ref so), (1, vi y), (2, vi w)] 0 []
  refine g_iconst C dX5_borneBy_0 ?_
  refine g_istore_n C [(3, vi 0), (0, .ref so), (1, vi y), (2, vi w)] dX5_borneBy_1 (by decide) rfl ?_
  refine g_iconst C dX5_borneBy_2 ?_
  refine g_istore C [(4, vi 0), (3, vi 0), (0, .ref so), (1, vi y), (2, vi w)] dX5_borneBy_3 (by decide) rfl ?_
  have L5 : ∀ (f : Nat) (acc : Int) (i : Int), (0 ≤ i ∧ i ≤ nSo ∧ acc = sm (bor XP y w) i) → (nSo - i).toNat < f → gW g x [(so, cO 5 [.ref sg, .ref sq, .ref sp, .ref sd, .ref sc, .ref xh, .ref xp, .ref xr, .ref xc, .ref xl, vi nSo, vi nSy, vi nSl, vi nSr]), (xp, cA g 40 XP)] 0 0 [(4, vi i), (3, vi acc), (0, .ref so), (1, vi y), (2, vi w)] 5 [] := by
    intro f
    induction f with
    | zero => intro acc i hI5 hf; exact absurd hf (Nat.not_lt_zero _)
    | succ f ih5 =>
      intro acc i hI5 hf5
      refine g_iload C 0 dX5_borneBy_5 rfl ?_
      refine g_aload_n C 2 dX5_borneBy_7 rfl ?_
      refine g_getf C k_X5 10 f_X5_48 0 rfl rfl (by decide) rfl rfl dX5_borneBy_8 ?_
      refine g_icmp_ge C 39 dX5_borneBy_11 (by decide) (by omega) (by omega) (fun c11 => ?_) (fun c11 => ?_)
      · refine g_iload_n C 1 dX5_borneBy_39 rfl ?_
        exact g_iretM C hR dX5_borneBy_40 (by rw [hI5.2.2, show i = nSo by omega] <;> rfl) rfl rfl
      refine g_iload_n C 1 dX5_borneBy_14 rfl ?_
      refine g_iload_n C 4 dX5_borneBy_15 rfl ?_
      refine g_aload_n C 2 dX5_borneBy_16 rfl ?_
      refine g_getf C k_X5 6 f_X5_30 0 rfl rfl (by decide) rfl rfl dX5_borneBy_17 ?_
      refine g_iload_n C 3 dX5_borneBy_20 rfl ?_
      refine g_iload C 0 dX5_borneBy_21 rfl ?_
      refine g_callSp C [vi y, vi i] [.ref xp, vi w, vi acc] (c_X5_slotOf x.1.2.1 g y i) y_X5_slotOf l_X5_87 [] rfl (by decide) rfl (Nat.le_of_ble_eq_true rfl) rfl (by decide) dX5_borneBy_23 ?_
      refine g_iald C 1 rfl (by omega) dX5_borneBy_26 ?_
      have r1_26 := hXP (y * 8 + i)
      refine g_imul C dX5_borneBy_27 ?_
      refine g_bipush C dX5_borneBy_28 (by decide) ?_
      have h9 := mul_rng hw (hXP (y * 8 + i))
      refine g_idiv C dX5_borneBy_30 (by omega) (by omega) ?_
      refine g_iadd C dX5_borneBy_31 ?_
      refine g_istore_n C [(3, vi (acc + ((w * (XP (y * 8 + i))) / 100))), (4, vi i), (0, .ref so), (1, vi y), (2, vi w)] dX5_borneBy_32 (by decide) rfl ?_
      refine g_iinc C 1 [(4, vi (i + 1)), (3, vi (acc + ((w * (XP (y * 8 + i))) / 100))), (0, .ref so), (1, vi y), (2, vi w)] dX5_borneBy_33 rfl (by decide) rfl ?_
      refine g_goto C 5 dX5_borneBy_36 (by decide) ?_
      exact ih5 (acc + ((w * (XP (y * 8 + i))) / 100)) (i + 1) ⟨by omega, by omega, by rw [sm_s _ (by omega), ← hI5.2.2] <;> rfl⟩ (by omega)
  exact L5 _ 0 0 ⟨by omega, by omega, rfl⟩ (Nat.lt_succ_self _)

/-- the parts of a layer but one reinsurer's -/
def bes (PA : Int → Int) (y z : Int) : Int → Int := fun k => if k = z then 0 else PA (y * 6 + k)

set_option maxHeartbeats 4000000 in
set_option maxRecDepth 100000 in
theorem c_X4_partOf (l : Launch) (g : gD) (a : Int) (b : Int)  : gMet l g yX4_partOf cX4_partOf 2 (some .int) 0 0 0 0 [vi a, vi b] [] (gM (some (vi (a * 6 + b))) []) := by
  refine gMet.of y_X4_partOf.2.2.2.1 (Nat.le_of_ble_eq_true rfl) ?_
  intro x hlx C hR hnm
  subst hlx
  have C : gC g x RX4 cX4_partOf 2 0 0 0 0 := C
  show gW g x [] 0 0 [(0, vi a), (1, vi b)] 0 []
  refine g_iload_n C 0 dX4_partOf_0 rfl ?_
  refine g_bipush C dX4_partOf_1 (by decide) ?_
  refine g_imul C dX4_partOf_3 ?_
  refine g_iload_n C 1 dX4_partOf_4 rfl ?_
  refine g_iadd C dX4_partOf_5 ?_
  exact g_iretM C hR dX4_partOf_6 (by first | rfl | omega) rfl rfl

set_option maxHeartbeats 4000000 in
set_option maxRecDepth 100000 in
theorem c_X4_placedBeside (l : Launch) (g : gD) (ro : Nat) (rp : Nat) (rt : Nat) (rf : Nat) (rd : Nat) (rb : Nat) (rh : Nat) (rn : Nat) (PA : Int → Int) (y : Int) (z : Int) (hPA : ∀ k, 0 ≤ PA k ∧ PA k ≤ 100) (hy : 0 ≤ y ∧ y < 5) (hz : -2147483648 ≤ z ∧ z < 2147483648) : gMet l g yX4_placedBeside cX4_placedBeside 5 (some .int) 1 0 0 21 [.ref ro, vi y, vi z] [(ro, cO 4 [.ref rp, .ref rt, .ref rf, .ref rd, .ref rb, .ref rh, .ref rn]), (rp, cA g 30 PA)] (gM (some (vi (sm (bes PA y z) 6))) [(ro, cO 4 [.ref rp, .ref rt, .ref rf, .ref rd, .ref rb, .ref rh, .ref rn]), (rp, cA g 30 PA)]) := by
  refine gMet.of y_X4_placedBeside.2.2.2.2.1 (Nat.le_of_ble_eq_true rfl) ?_
  intro x hlx C hR hnm
  subst hlx
  have C : gC g x RX4 cX4_placedBeside 5 1 0 0 21 := C
  show gW g x [(ro, cO 4 [.ref rp, .ref rt, .ref rf, .ref rd, .ref rb, .ref rh, .ref rn]), (rp, cA g 30 PA)] 0 0 [(0, .ref ro), (1, vi y), (2, vi z)] 0 []
  refine g_iconst C dX4_placedBeside_0 ?_
  refine g_istore_n C [(3, vi 0), (0, .ref ro), (1, vi y), (2, vi z)] dX4_placedBeside_1 (by decide) rfl ?_
  refine g_iconst C dX4_placedBeside_2 ?_
  refine g_istore C [(4, vi 0), (3, vi 0), (0, .ref ro), (1, vi y), (2, vi z)] dX4_placedBeside_3 (by decide) rfl ?_
  have L5 : ∀ (f : Nat) (acc : Int) (i : Int), (0 ≤ i ∧ i ≤ 6 ∧ acc = sm (bes PA y z) i) → (6 - i).toNat < f → gW g x [(ro, cO 4 [.ref rp, .ref rt, .ref rf, .ref rd, .ref rb, .ref rh, .ref rn]), (rp, cA g 30 PA)] 0 0 [(4, vi i), (3, vi acc), (0, .ref ro), (1, vi y), (2, vi z)] 5 [] := by
    intro f
    induction f with
    | zero => intro acc i hI5 hf; exact absurd hf (Nat.not_lt_zero _)
    | succ f ih5 =>
      intro acc i hI5 hf5
      refine g_iload C 0 dX4_placedBeside_5 rfl ?_
      refine g_bipush C dX4_placedBeside_7 (by decide) ?_
      refine g_icmp_ge C 38 dX4_placedBeside_9 (by decide) (by omega) (by omega) (fun c9 => ?_) (fun c9 => ?_)
      · refine g_iload_n C 1 dX4_placedBeside_38 rfl ?_
        exact g_iretM C hR dX4_placedBeside_39 (by rw [hI5.2.2, show i = 6 by omega] <;> rfl) rfl rfl
      refine g_iload C 0 dX4_placedBeside_12 rfl ?_
      refine g_iload_n C 4 dX4_placedBeside_14 rfl ?_
      refine g_icmp_eq C 32 dX4_placedBeside_15 (by decide) (by omega) (by omega) (fun c15 => ?_) (fun c15 => ?_)
      · refine g_iinc C 0 [(4, vi (i + 1)), (3, vi acc), (0, .ref ro), (1, vi y), (2, vi z)] dX4_placedBeside_32 rfl (by decide) rfl ?_
        refine g_goto C 5 dX4_placedBeside_35 (by decide) ?_
        exact ih5 acc (i + 1) ⟨by omega, by omega, by rw [sm_s _ (by omega), ← hI5.2.2]; simp only [bes]; split <;> omega⟩ (by omega)
      refine g_iload_n C 1 dX4_placedBeside_18 rfl ?_
      refine g_aload_n C 2 dX4_placedBeside_19 rfl ?_
      refine g_getf C k_X4 0 f_X4_9 0 rfl rfl (by decide) rfl rfl dX4_placedBeside_20 ?_
      refine g_iload_n C 3 dX4_placedBeside_23 rfl ?_
      refine g_iload C 0 dX4_placedBeside_24 rfl ?_
      refine g_callSp C [vi y, vi i] [.ref rp, vi acc] (c_X4_partOf x.1.2.1 g y i) y_X4_partOf l_X4_33 [] rfl (by decide) rfl (Nat.le_of_ble_eq_true rfl) rfl (by decide) dX4_placedBeside_26 ?_
      refine g_iald C 1 rfl (by omega) dX4_placedBeside_29 ?_
      have r1_29 := hPA (y * 6 + i)
      refine g_iadd C dX4_placedBeside_30 ?_
      refine g_istore_n C [(3, vi (acc + (PA (y * 6 + i)))), (4, vi i), (0, .ref ro), (1, vi y), (2, vi z)] dX4_placedBeside_31 (by decide) rfl ?_
      refine g_iinc C 1 [(4, vi (i + 1)), (3, vi (acc + (PA (y * 6 + i)))), (0, .ref ro), (1, vi y), (2, vi z)] dX4_placedBeside_32 rfl (by decide) rfl ?_
      refine g_goto C 5 dX4_placedBeside_35 (by decide) ?_
      exact ih5 (acc + (PA (y * 6 + i))) (i + 1) ⟨by omega, by omega, by rw [sm_s _ (by omega), ← hI5.2.2]; simp only [bes]; split <;> omega⟩ (by omega)
  exact L5 _ 0 0 ⟨by omega, by omega, rfl⟩ (Nat.lt_succ_self _)

set_option maxHeartbeats 4000000 in
set_option maxRecDepth 100000 in
theorem c_X4_place (l : Launch) (g : gD) (ro : Nat) (rp : Nat) (rt : Nat) (rf : Nat) (rd : Nat) (rb : Nat) (rh : Nat) (rn : Nat) (PA : Int → Int) (y : Int) (z : Int) (v : Int) (hPA : ∀ k, 0 ≤ PA k ∧ PA k ≤ 100) (hy : 0 ≤ y ∧ y < 5) (hz : 0 ≤ z ∧ z < 6) (hv : 0 ≤ v ∧ v ≤ 100) : gMet l g yX4_place cX4_place 4 (some .int) 2 0 0 45 [.ref ro, vi y, vi z, vi v] [(ro, cO 4 [.ref rp, .ref rt, .ref rf, .ref rd, .ref rb, .ref rh, .ref rn]), (rp, cA g 30 PA)] (gM (some (vi (100 - sm (bes (up PA (y * 6 + z) v) y (-1)) 6))) [(ro, cO 4 [.ref rp, .ref rt, .ref rf, .ref rd, .ref rb, .ref rh, .ref rn]), (rp, cA g 30 (up PA (y * 6 + z) v))]) := by
  refine gMet.of y_X4_place.2.2.2.2.1 (Nat.le_of_ble_eq_true rfl) ?_
  intro x hlx C hR hnm
  subst hlx
  have C : gC g x RX4 cX4_place 4 2 0 0 45 := C
  show gW g x [(ro, cO 4 [.ref rp, .ref rt, .ref rf, .ref rd, .ref rb, .ref rh, .ref rn]), (rp, cA g 30 PA)] 0 0 [(0, .ref ro), (1, vi y), (2, vi z), (3, vi v)] 0 []
  refine g_aload_n C 0 dX4_place_0 rfl ?_
  refine g_getf C k_X4 0 f_X4_9 0 rfl rfl (by decide) rfl rfl dX4_place_1 ?_
  refine g_iload_n C 1 dX4_place_4 rfl ?_
  refine g_iload_n C 2 dX4_place_5 rfl ?_
  refine g_callSp C [vi y, vi z] [.ref rp] (c_X4_partOf x.1.2.1 g y z) y_X4_partOf l_X4_33 [] rfl (by decide) rfl (Nat.le_of_ble_eq_true rfl) rfl (by decide) dX4_place_6 ?_
  refine g_iload_n C 3 dX4_place_9 rfl ?_
  refine g_iast C 1 rfl (by omega) [(ro, cO 4 [.ref rp, .ref rt, .ref rf, .ref rd, .ref rb, .ref rh, .ref rn]), (rp, cA g 30 (up PA (y * 6 + z) v))] rfl dX4_place_10 ?_
  refine g_bipush C dX4_place_11 (by decide) ?_
  refine g_aload_n C 0 dX4_place_13 rfl ?_
  refine g_iload_n C 1 dX4_place_14 rfl ?_
  refine g_iconst C dX4_place_15 ?_
  have hPA9 : ∀ k, 0 ≤ (up PA (y * 6 + z) v) k ∧ (up PA (y * 6 + z) v) k ≤ 100 := fun k => by have := hPA k; unfold up; split <;> omega
  refine g_callVp C [vi y, vi (-1)] [vi 100] (c_X4_placedBeside x.1.2.1 g ro rp rt rf rd rb rh rn (up PA (y * 6 + z) v) y (-1) hPA9 hy (by omega)) y_X4_placedBeside l_X4_37 [0, 1] rfl (by decide) 0 rfl rfl rfl (Nat.le_of_ble_eq_true rfl) rfl (by decide) dX4_place_16 ?_
  refine g_isub C dX4_place_19 ?_
  exact g_iretM C hR dX4_place_20 (by first | rfl | omega) rfl rfl

set_option maxHeartbeats 4000000 in
set_option maxRecDepth 100000 in
theorem c_X4_changeRetro (l : Launch) (g : gD) (ro : Nat) (rp : Nat) (rt : Nat) (rf : Nat) (rd : Nat) (rb : Nat) (rh : Nat) (rn : Nat) (RT : Int → Int) (RF : Int → Int) (RD : Int → Int) (z : Int) (u : Int) (v : Int) (w : Int) (hz : 0 ≤ z ∧ z < 6) : gMet l g yX4_changeRetro cX4_changeRetro 6 (some .int) 0 0 0 0 [.ref ro, vi z, vi u, vi v, vi w] [(ro, cO 4 [.ref rp, .ref rt, .ref rf, .ref rd, .ref rb, .ref rh, .ref rn]), (rt, cA g 6 RT), (rf, cA g 6 RF), (rd, cA g 6 RD)] (gM (some (vi (RD z))) [(ro, cO 4 [.ref rp, .ref rt, .ref rf, .ref rd, .ref rb, .ref rh, .ref rn]), (rt, cA g 6 (up RT z u)), (rf, cA g 6 (up RF z v)), (rd, cA g 6 (up RD z w))]) := by
  refine gMet.of y_X4_changeRetro.2.2.2.2.1 (Nat.le_of_ble_eq_true rfl) ?_
  intro x hlx C hR hnm
  subst hlx
  have C : gC g x RX4 cX4_changeRetro 6 0 0 0 0 := C
  show gW g x [(ro, cO 4 [.ref rp, .ref rt, .ref rf, .ref rd, .ref rb, .ref rh, .ref rn]), (rt, cA g 6 RT), (rf, cA g 6 RF), (rd, cA g 6 RD)] 0 0 [(0, .ref ro), (1, vi z), (2, vi u), (3, vi v), (4, vi w)] 0 []
  refine g_aload_n C 0 dX4_changeRetro_0 rfl ?_
  refine g_getf C k_X4 3 f_X4_21 0 rfl rfl (by decide) rfl rfl dX4_changeRetro_1 ?_
  refine g_iload_n C 1 dX4_changeRetro_4 rfl ?_
  refine g_iald C 3 rfl (by omega) dX4_changeRetro_5 ?_
  refine g_istore C [(5, vi (RD z)), (0, .ref ro), (1, vi z), (2, vi u), (3, vi v), (4, vi w)] dX4_changeRetro_6 (by decide) rfl ?_
  refine g_aload_n C 1 dX4_changeRetro_8 rfl ?_
  refine g_getf C k_X4 1 f_X4_15 0 rfl rfl (by decide) rfl rfl dX4_changeRetro_9 ?_
  refine g_iload_n C 2 dX4_changeRetro_12 rfl ?_
  refine g_iload_n C 3 dX4_changeRetro_13 rfl ?_
  refine g_iast C 1 rfl (by omega) [(ro, cO 4 [.ref rp, .ref rt, .ref rf, .ref rd, .ref rb, .ref rh, .ref rn]), (rt, cA g 6 (up RT z u)), (rf, cA g 6 RF), (rd, cA g 6 RD)] rfl dX4_changeRetro_14 ?_
  refine g_aload_n C 1 dX4_changeRetro_15 rfl ?_
  refine g_getf C k_X4 2 f_X4_18 0 rfl rfl (by decide) rfl rfl dX4_changeRetro_16 ?_
  refine g_iload_n C 2 dX4_changeRetro_19 rfl ?_
  refine g_iload_n C 4 dX4_changeRetro_20 rfl ?_
  refine g_iast C 2 rfl (by omega) [(ro, cO 4 [.ref rp, .ref rt, .ref rf, .ref rd, .ref rb, .ref rh, .ref rn]), (rt, cA g 6 (up RT z u)), (rf, cA g 6 (up RF z v)), (rd, cA g 6 RD)] rfl dX4_changeRetro_21 ?_
  refine g_aload_n C 1 dX4_changeRetro_22 rfl ?_
  refine g_getf C k_X4 3 f_X4_21 0 rfl rfl (by decide) rfl rfl dX4_changeRetro_23 ?_
  refine g_iload_n C 2 dX4_changeRetro_26 rfl ?_
  refine g_iload C 5 dX4_changeRetro_27 rfl ?_
  refine g_iast C 3 rfl (by omega) [(ro, cO 4 [.ref rp, .ref rt, .ref rf, .ref rd, .ref rb, .ref rh, .ref rn]), (rt, cA g 6 (up RT z u)), (rf, cA g 6 (up RF z v)), (rd, cA g 6 (up RD z w))] rfl dX4_changeRetro_29 ?_
  refine g_iload C 0 dX4_changeRetro_30 rfl ?_
  exact g_iretM C hR dX4_changeRetro_32 rfl rfl rfl

/-- what the reinsurer z bears directly: the quota if it is the first, and its parts of each layer -/
def dirc (SQ XP PA : Int → Int) (no : Int) (z : Int) (m : Int) : Int := (if z = 0 then sm SQ no else 0) + sm (fun y => sm (bor XP y (PA (y * 6 + z))) no) m
theorem bor_r {XP : Int → Int} (hXP : ∀ k, 0 ≤ XP k ∧ XP k ≤ 999999) (y : Int) {w : Int} (hw : 0 ≤ w ∧ w ≤ 100) (o : Int) : 0 ≤ bor XP y w o ∧ bor XP y w o ≤ 999999 := by
  have h9 := mul_rng hw (hXP (y * 8 + o))
  unfold bor; omega

set_option maxHeartbeats 4000000 in
set_option maxRecDepth 100000 in
theorem c_X4_bear (l : Launch) (g : gD) (ro : Nat) (rp : Nat) (rt : Nat) (rf : Nat) (rd : Nat) (rb : Nat) (rh : Nat) (rn : Nat) (PA : Int → Int) (RB : Int → Int) (so : Nat) (sg : Nat) (sq : Nat) (sp : Nat) (sd : Nat) (sc : Nat) (xh : Nat) (xp : Nat) (xr : Nat) (xc : Nat) (xl : Nat) (SQ : Int → Int) (XP : Int → Int) (nSo : Int) (nSy : Int) (nSl : Int) (nSr : Int) (hPA : ∀ k, 0 ≤ PA k ∧ PA k ≤ 100) (hSo : 0 ≤ nSo ∧ nSo ≤ 8) (hSy : 0 ≤ nSy ∧ nSy ≤ 5) (hXP : ∀ k, 0 ≤ XP k ∧ XP k ≤ 999999) : gMet l g yX4_bear cX4_bear 4 none 2 0 0 45 [.ref ro, .ref so] [(ro, cO 4 [.ref rp, .ref rt, .ref rf, .ref rd, .ref rb, .ref rh, .ref rn]), (rp, cA g 30 PA), (rb, cA g 6 RB), (so, cO 5 [.ref sg, .ref sq, .ref sp, .ref sd, .ref sc, .ref xh, .ref xp, .ref xr, .ref xc, .ref xl, vi nSo, vi nSy, vi nSl, vi nSr]), (sq, cA g 8 SQ), (xp, cA g 40 XP)] (gM none [(ro, cO 4 [.ref rp, .ref rt, .ref rf, .ref rd, .ref rb, .ref rh, .ref rn]), (rp, cA g 30 PA), (rb, cA g 6 (cpy (fun z => dirc SQ XP PA nSo z nSy) RB 6)), (so, cO 5 [.ref sg, .ref sq, .ref sp, .ref sd, .ref sc, .ref xh, .ref xp, .ref xr, .ref xc, .ref xl, vi nSo, vi nSy, vi nSl, vi nSr]), (sq, cA g 8 SQ), (xp, cA g 40 XP)]) := by
  refine gMet.of y_X4_bear.2.2.2.2.1 (Nat.le_of_ble_eq_true rfl) ?_
  intro x hlx C hR hnm
  subst hlx
  have C : gC g x RX4 cX4_bear 4 2 0 0 45 := C
  show gW g x [(ro, cO 4 [.ref rp, .ref rt, .ref rf, .ref rd, .ref rb, .ref rh, .ref rn]), (rp, cA g 30 PA), (rb, cA g 6 RB), (so, cO 5 [.ref sg, .ref sq, .ref sp, .ref sd, .ref sc, .ref xh, .ref xp, .ref xr, .ref xc, .ref xl, vi nSo, vi nSy, vi nSl, vi nSr]), (sq, cA g 8 SQ), (xp, cA g 40 XP)] 0 0 [(0, .ref ro), (1, .ref so)] 0 []
  refine g_iconst C dX4_bear_0 ?_
  refine g_istore_n C [(2, vi 0), (0, .ref ro), (1, .ref so)] dX4_bear_1 (by decide) rfl ?_
  have L2 : ∀ (f : Nat) (i : Int) (cB : Int → Int), (0 ≤ i ∧ i ≤ 6 ∧ cB = cpy (fun z => dirc SQ XP PA nSo z nSy) RB i) → (6 - i).toNat < f → gW g x [(ro, cO 4 [.ref rp, .ref rt, .ref rf, .ref rd, .ref rb, .ref rh, .ref rn]), (rp, cA g 30 PA), (rb, cA g 6 cB), (so, cO 5 [.ref sg, .ref sq, .ref sp, .ref sd, .ref sc, .ref xh, .ref xp, .ref xr, .ref xc, .ref xl, vi nSo, vi nSy, vi nSl, vi nSr]), (sq, cA g 8 SQ), (xp, cA g 40 XP)] 0 0 [(2, vi i), (0, .ref ro), (1, .ref so)] 2 [] := by
    intro f
    induction f with
    | zero => intro i cB hI2 hf; exact absurd hf (Nat.not_lt_zero _)
    | succ f ih2 =>
      intro i cB hI2 hf2
      obtain ⟨hi0, hi1, hB⟩ := hI2
      refine g_iload_n C 0 dX4_bear_2 rfl ?_
      refine g_bipush C dX4_bear_3 (by decide) ?_
      refine g_icmp_ge C 72 dX4_bear_5 (by decide) (by omega) (by omega) (fun c5 => ?_) (fun c5 => ?_)
      · obtain rfl : i = 6 := by omega
        subst hB
        exact g_vretM C hR dX4_bear_72 rfl rfl
      refine g_aload_n C 1 dX4_bear_8 rfl ?_
      refine g_getf C k_X4 4 f_X4_24 0 rfl rfl (by decide) rfl rfl dX4_bear_9 ?_
      refine g_iload_n C 0 dX4_bear_12 rfl ?_
      refine g_iload_n C 0 dX4_bear_13 rfl ?_
      have J25 : ∀ (w : Int), (w = if i = 0 then sm SQ nSo else 0) → gW g x [(ro, cO 4 [.ref rp, .ref rt, .ref rf, .ref rd, .ref rb, .ref rh, .ref rn]), (rp, cA g 30 PA), (rb, cA g 6 cB), (so, cO 5 [.ref sg, .ref sq, .ref sp, .ref sd, .ref sc, .ref xh, .ref xp, .ref xr, .ref xc, .ref xl, vi nSo, vi nSy, vi nSl, vi nSr]), (sq, cA g 8 SQ), (xp, cA g 40 XP)] 0 0 [(2, vi i), (0, .ref ro), (1, .ref so)] 25 [vi w, vi i, .ref rb] := by
        intro w hJ25
        have hw9 := hJ25
        refine g_iast C 2 rfl (by omega) [(ro, cO 4 [.ref rp, .ref rt, .ref rf, .ref rd, .ref rb, .ref rh, .ref rn]), (rp, cA g 30 PA), (rb, cA g 6 (up cB i w)), (so, cO 5 [.ref sg, .ref sq, .ref sp, .ref sd, .ref sc, .ref xh, .ref xp, .ref xr, .ref xc, .ref xl, vi nSo, vi nSy, vi nSl, vi nSr]), (sq, cA g 8 SQ), (xp, cA g 40 XP)] rfl dX4_bear_25 ?_
        refine g_iconst C dX4_bear_26 ?_
        refine g_istore_n C [(3, vi 0), (2, vi i), (0, .ref ro), (1, .ref so)] dX4_bear_27 (by decide) rfl ?_
        have L28 : ∀ (f : Nat) (j : Int) (cD : Int → Int), (0 ≤ j ∧ j ≤ nSy ∧ cD = up cB i (dirc SQ XP PA nSo i j)) → (nSy - j).toNat < f → gW g x [(ro, cO 4 [.ref rp, .ref rt, .ref rf, .ref rd, .ref rb, .ref rh, .ref rn]), (rp, cA g 30 PA), (rb, cA g 6 cD), (so, cO 5 [.ref sg, .ref sq, .ref sp, .ref sd, .ref sc, .ref xh, .ref xp, .ref xr, .ref xc, .ref xl, vi nSo, vi nSy, vi nSl, vi nSr]), (sq, cA g 8 SQ), (xp, cA g 40 XP)] 0 0 [(3, vi j), (2, vi i), (0, .ref ro), (1, .ref so)] 28 [] := by
          intro f
          induction f with
          | zero => intro j cD hI28 hf; exact absurd hf (Nat.not_lt_zero _)
          | succ f ih28 =>
            intro j cD hI28 hf28
            obtain ⟨hj0, hj1, hD⟩ := hI28
            refine g_iload_n C 0 dX4_bear_28 rfl ?_
            refine g_aload_n C 3 dX4_bear_29 rfl ?_
            refine g_getfN C k_X5 11 f_X4_46 3 rfl rfl (by decide) rfl rfl dX4_bear_30 ?_
            refine g_icmp_ge C 66 dX4_bear_33 (by decide) (by omega) (by omega) (fun c33 => ?_) (fun c33 => ?_)
            · refine g_iinc C 1 [(2, vi (i + 1)), (3, vi j), (0, .ref ro), (1, .ref so)] dX4_bear_66 rfl (by decide) rfl ?_
              refine g_goto C 2 dX4_bear_69 (by decide) ?_
              refine g_lv [(2, vi (i + 1)), (0, .ref ro), (1, .ref so)] [0, 2, 3] rfl ?_
              exact ih2 (i + 1) cD ⟨by omega, by omega, by rw [cpy_s _ _ hi0, ← hB, hD, show j = nSy by omega]⟩ (by omega)
            refine g_aload_n C 2 dX4_bear_36 rfl ?_
            refine g_getf C k_X4 4 f_X4_24 0 rfl rfl (by decide) rfl rfl dX4_bear_37 ?_
            refine g_iload_n C 1 dX4_bear_40 rfl ?_
            refine g_dup2 C dX4_bear_41 rfl rfl ?_
            refine g_iald C 2 rfl (by omega) dX4_bear_42 ?_
            refine g_aload_n C 3 dX4_bear_43 rfl ?_
            refine g_iload_n C 0 dX4_bear_44 rfl ?_
            refine g_aload_n C 2 dX4_bear_45 rfl ?_
            refine g_getf C k_X4 0 f_X4_9 0 rfl rfl (by decide) rfl rfl dX4_bear_46 ?_
            refine g_iload_n C 0 dX4_bear_49 rfl ?_
            refine g_iload_n C 1 dX4_bear_50 rfl ?_
            refine g_callSp C [vi j, vi i] [.ref rp, vi j, .ref so, vi (cD i), vi i, .ref rb] (c_X4_partOf x.1.2.1 g j i) y_X4_partOf l_X4_33 [] rfl (by decide) rfl (Nat.le_of_ble_eq_true rfl) rfl (by decide) dX4_bear_51 ?_
            refine g_iald C 1 rfl (by omega) dX4_bear_54 ?_
            have r1_54 := hPA (j * 6 + i)
            refine g_callVp C [vi j, vi (PA (j * 6 + i))] [vi (cD i), vi i, .ref rb] (c_X5_borneBy x.1.2.1 g so sg sq sp sd sc xh xp xr xc xl XP nSo nSy nSl nSr j (PA (j * 6 + i)) hSo hXP (by omega) (by omega)) y_X5_borneBy l_X4_50 [3, 5] rfl (by decide) 3 rfl rfl rfl (Nat.le_of_ble_eq_true rfl) rfl (by decide) dX4_bear_55 ?_
            have h9 := hPA (j * 6 + i)
            refine g_iadd C dX4_bear_58 ?_
            refine g_iast C 2 rfl (by omega) [(ro, cO 4 [.ref rp, .ref rt, .ref rf, .ref rd, .ref rb, .ref rh, .ref rn]), (rp, cA g 30 PA), (rb, cA g 6 (up cD i ((cD i) + (sm (bor XP j (PA (j * 6 + i))) nSo)))), (so, cO 5 [.ref sg, .ref sq, .ref sp, .ref sd, .ref sc, .ref xh, .ref xp, .ref xr, .ref xc, .ref xl, vi nSo, vi nSy, vi nSl, vi nSr]), (sq, cA g 8 SQ), (xp, cA g 40 XP)] rfl dX4_bear_59 ?_
            refine g_iinc C 0 [(3, vi (j + 1)), (2, vi i), (0, .ref ro), (1, .ref so)] dX4_bear_60 rfl (by decide) rfl ?_
            refine g_goto C 28 dX4_bear_63 (by decide) ?_
            exact ih28 (j + 1) (up cD i ((cD i) + (sm (bor XP j (PA (j * 6 + i))) nSo))) ⟨by omega, by omega, by rw [hD, up_s]; funext q; simp only [up]; by_cases e : q = i; (rw [if_pos e, if_pos e]; unfold dirc; rw [sm_s _ hj0]; omega); (rw [if_neg e, if_neg e, if_neg e])⟩ (by omega)
        exact L28 _ 0 (up cB i w) ⟨by omega, by omega, by unfold dirc; rw [sm_0, Int.add_zero, ← hw9]⟩ (Nat.lt_succ_self _)
      refine g_if_ne C 24 dX4_bear_14 (by decide) (by omega) (fun c14 => ?_) (fun c14 => ?_)
      · refine g_iconst C dX4_bear_24 ?_
        exact J25 0 (by omega)
      refine g_aload_n C 2 dX4_bear_17 rfl ?_
      refine g_callVp C [] [vi i, .ref rb] (c_X5_totalQuota x.1.2.1 g so sg sq sp sd sc xh xp xr xc xl SQ nSo nSy nSl nSr hSo) y_X5_totalQuota l_X4_40 [3, 4] rfl (by decide) 3 rfl rfl rfl (Nat.le_of_ble_eq_true rfl) rfl (by decide) dX4_bear_18 ?_
      refine g_goto C 25 dX4_bear_21 (by decide) ?_
      exact J25 (sm SQ nSo) (by omega)
  exact L2 _ 0 RB ⟨by omega, by omega, (cpy_0 _ _).symm⟩ (Nat.lt_succ_self _)

