set_option maxHeartbeats 4000000 in
set_option maxRecDepth 100000 in
theorem c_X10_ofBond (l : Launch) (g : gD) (ko : Nat) (A : Nat → Nat) (th : Int) (hr : Int) (nL : Int) (nO : Int) (Q : Int) (nY : Int) (nE : Int) (nR : Int) (nB : Int) (EC : Int → Int) (EF : Int → Int) (ES : Int → Int) (EH : Int → Int) (EP : Int → Int) (EX : Int → Int) (BQ : Int → Int) (BX : Int → Int) (BF : Int → Int) (BL : Int → Int) (BP : Int → Int) (BT : Int → Int) (BC : Int → Int) (BM : Int → Int) (b : Int) (w : Int) (hEC : ∀ k, 0 ≤ EC k ∧ EC k ≤ 15) (hEF : ∀ k, 0 ≤ EF k ∧ EF k ≤ 2200) (hES : ∀ k, 0 ≤ ES k ∧ ES k ≤ 5) (hEH : ∀ k, 0 ≤ EH k ∧ EH k ≤ 2199) (hEP : ∀ k, 0 ≤ EP k ∧ EP k ≤ 2) (hEX : ∀ k, 0 ≤ EX k ∧ EX k ≤ 9) (hBQ : ∀ k, 0 ≤ BQ k ∧ BQ k ≤ 2) (hBX : ∀ k, 0 ≤ BX k ∧ BX k ≤ 65535) (hBF : ∀ k, 0 ≤ BF k ∧ BF k ≤ 2199) (hBL : ∀ k, 0 ≤ BL k ∧ BL k ≤ 2199) (hnE : 0 ≤ nE ∧ nE ≤ 6) (hnR : 0 ≤ nR ∧ nR ≤ 60) (hBP : ∀ k, 0 ≤ BP k ∧ BP k ≤ 999999) (hBT : ∀ k, 0 ≤ BT k ∧ BT k ≤ 9) (hBC : ∀ k, 0 ≤ BC k ∧ BC k ≤ 100) (hBM : ∀ k, 0 ≤ BM k ∧ BM k ≤ 500) (hhr : 0 ≤ hr ∧ hr ≤ 2199) (hnB : 0 ≤ nB ∧ nB ≤ 5) (hBX1 : ∀ k, 0 ≤ k → k < nB → 1 ≤ BX k) (hb : -2147483648 ≤ b ∧ b < 2147483648) (hw : -2147483648 ≤ w ∧ w < 2147483648) : gMet l g yX10_ofBond cX10_ofBond 5 (some .int) 4 0 0 101 [.ref ko, vi b, vi w] [(ko, cO 10 (kF th hr nL nO Q nY nE nR nB A)), (A 23, cA g 6 EC), (A 24, cA g 6 EF), (A 26, cA g 60 ES), (A 27, cA g 60 EH), (A 28, cA g 60 EP), (A 29, cA g 60 EX), (A 32, cA g 5 BQ), (A 33, cA g 5 BX), (A 34, cA g 5 BF), (A 35, cA g 5 BL), (A 31, cA g 5 BP), (A 36, cA g 5 BT), (A 37, cA g 5 BC), (A 38, cA g 5 BM)] (fun v9 w9 => (((0 ≤ b ∧ b < nB) ∧ (0 ≤ w ∧ w ≤ 5)) ∧ v9 = some (vi (if w = 0 then idx9 EC EF ES EH EP EX nE nR BQ BX BF BL b else if w = 1 then pyb EC EF ES EH EP EX nE nR BP BQ BX BF BL BT BC b else if w = 2 then (if hr ≤ BL b + BM b then 1 else 0) else if w = 3 then (if hr ≤ BL b + BM b then 0 else pyb EC EF ES EH EP EX nE nR BP BQ BX BF BL BT BC b) else if w = 4 then (if hr ≤ BL b + BM b then 0 else BP b - pyb EC EF ES EH EP EX nE nR BP BQ BX BF BL BT BC b) else sti EC EF (BX b) (BL b) nE)) ∧ w9 = [(ko, cO 10 (kF 0 hr nL nO Q nY nE nR nB A)), (A 23, cA g 6 EC), (A 24, cA g 6 EF), (A 26, cA g 60 ES), (A 27, cA g 60 EH), (A 28, cA g 60 EP), (A 29, cA g 60 EX), (A 32, cA g 5 BQ), (A 33, cA g 5 BX), (A 34, cA g 5 BF), (A 35, cA g 5 BL), (A 31, cA g 5 BP), (A 36, cA g 5 BT), (A 37, cA g 5 BC), (A 38, cA g 5 BM)]) ∨ ((¬ (0 ≤ b ∧ b < nB)) ∧ v9 = some (vi 0) ∧ w9 = [(ko, cO 10 (kF 1 hr nL nO Q nY nE nR nB A)), (A 23, cA g 6 EC), (A 24, cA g 6 EF), (A 26, cA g 60 ES), (A 27, cA g 60 EH), (A 28, cA g 60 EP), (A 29, cA g 60 EX), (A 32, cA g 5 BQ), (A 33, cA g 5 BX), (A 34, cA g 5 BF), (A 35, cA g 5 BL), (A 31, cA g 5 BP), (A 36, cA g 5 BT), (A 37, cA g 5 BC), (A 38, cA g 5 BM)]) ∨ (((0 ≤ b ∧ b < nB) ∧ ¬ (0 ≤ w ∧ w ≤ 5)) ∧ v9 = some (vi 0) ∧ w9 = [(ko, cO 10 (kF 2 hr nL nO Q nY nE nR nB A)), (A 23, cA g 6 EC), (A 24, cA g 6 EF), (A 26, cA g 60 ES), (A 27, cA g 60 EH), (A 28, cA g 60 EP), (A 29, cA g 60 EX), (A 32, cA g 5 BQ), (A 33, cA g 5 BX), (A 34, cA g 5 BF), (A 35, cA g 5 BL), (A 31, cA g 5 BP), (A 36, cA g 5 BT), (A 37, cA g 5 BC), (A 38, cA g 5 BM)])) := by
  refine gMet.of y_X10_ofBond.2.2.2.2.1 (Nat.le_of_ble_eq_true rfl) ?_
  intro x hlx C hR hnm
  subst hlx
  have C : gC g x RX10 cX10_ofBond 5 4 0 0 101 := C
  show gW g x [(ko, cO 10 (kF th hr nL nO Q nY nE nR nB A)), (A 23, cA g 6 EC), (A 24, cA g 6 EF), (A 26, cA g 60 ES), (A 27, cA g 60 EH), (A 28, cA g 60 EP), (A 29, cA g 60 EX), (A 32, cA g 5 BQ), (A 33, cA g 5 BX), (A 34, cA g 5 BF), (A 35, cA g 5 BL), (A 31, cA g 5 BP), (A 36, cA g 5 BT), (A 37, cA g 5 BC), (A 38, cA g 5 BM)] 0 0 [(0, .ref ko), (1, vi b), (2, vi w)] 0 []
  refine g_aload_n C 0 dX10_ofBond_0 rfl ?_
  refine g_iload_n C 1 dX10_ofBond_1 rfl ?_
  refine g_callVp C [vi b] [] (c_X10_isBond x.1.2.1 g ko A th hr nL nO Q nY nE nR nB b hnB hb) y_X10_isBond l_X10_204 [0] rfl (by decide) 0 rfl rfl rfl (Nat.le_of_ble_eq_true rfl) rfl (by decide) dX10_ofBond_2 ?_
  refine g_istore_n C [(3, vi (if 0 ≤ b ∧ b < nB then 1 else 0)), (0, .ref ko), (1, vi b), (2, vi w)] dX10_ofBond_5 (by decide) rfl ?_
  refine g_aload_n C 1 dX10_ofBond_6 rfl ?_
  have J29 : ∀ (cd : Int), ((cd = 0 ∧ (0 ≤ b ∧ b < nB) ∧ (0 ≤ w ∧ w ≤ 5)) ∨ (cd = 1 ∧ ¬ (0 ≤ b ∧ b < nB)) ∨ (cd = 2 ∧ (0 ≤ b ∧ b < nB) ∧ ¬ (0 ≤ w ∧ w ≤ 5))) → gW g x [(ko, cO 10 (kF th hr nL nO Q nY nE nR nB A)), (A 23, cA g 6 EC), (A 24, cA g 6 EF), (A 26, cA g 60 ES), (A 27, cA g 60 EH), (A 28, cA g 60 EP), (A 29, cA g 60 EX), (A 32, cA g 5 BQ), (A 33, cA g 5 BX), (A 34, cA g 5 BF), (A 35, cA g 5 BL), (A 31, cA g 5 BP), (A 36, cA g 5 BT), (A 37, cA g 5 BC), (A 38, cA g 5 BM)] 0 0 [(3, vi (if 0 ≤ b ∧ b < nB then 1 else 0)), (0, .ref ko), (1, vi b), (2, vi w)] 29 [vi cd, .ref ko] := by
    intro cd hJ29
    refine g_callV C [vi cd] [] (c_X10_goesWell x.1.2.1 g ko A th hr nL nO Q nY nE nR nB cd (by omega)) y_X10_goesWell l_X10_156 [0] rfl (by decide) 0 rfl rfl rfl (Nat.le_of_ble_eq_true rfl) rfl (by decide) dX10_ofBond_29 (fun v9 w9 hp9 => ?_)
    obtain ⟨rfl, rfl⟩ := hp9
    simp only [putAll, List.set_cons_succ, List.set_cons_zero, List.cons_append, List.nil_append, List.append_nil, Option.toList]
    show gW g x [(ko, cO 10 (kF cd hr nL nO Q nY nE nR nB A)), (A 23, cA g 6 EC), (A 24, cA g 6 EF), (A 26, cA g 60 ES), (A 27, cA g 60 EH), (A 28, cA g 60 EP), (A 29, cA g 60 EX), (A 32, cA g 5 BQ), (A 33, cA g 5 BX), (A 34, cA g 5 BF), (A 35, cA g 5 BL), (A 31, cA g 5 BP), (A 36, cA g 5 BT), (A 37, cA g 5 BC), (A 38, cA g 5 BM)] 0 0 [(3, vi (if 0 ≤ b ∧ b < nB then 1 else 0)), (0, .ref ko), (1, vi b), (2, vi w)] 32 [vi (if cd = 0 then 1 else 0)]
    refine g_if_ne C 37 dX10_ofBond_32 (by decide) (by omega) (fun c32 => ?_) (fun c32 => ?_)
    · obtain ⟨rfl, hok⟩ : cd = 0 ∧ ((0 ≤ b ∧ b < nB) ∧ (0 ≤ w ∧ w ≤ 5)) := by
        rcases hJ29 with ⟨e9, h9⟩ | ⟨e9, h9⟩ | ⟨e9, h9⟩
        · exact ⟨e9, h9⟩
        · exfalso; omega
        · exfalso; omega
      refine g_aload_n C 1 dX10_ofBond_37 rfl ?_
      refine g_iload_n C 2 dX10_ofBond_38 rfl ?_
      refine g_callVp C [vi b] [] (c_X10_isInTrust x.1.2.1 g ko A 0 hr nL nO Q nY nE nR nB BL BM b hhr hBL hBM (by omega) hb) y_X10_isInTrust l_X10_207 [0, 10, 14] rfl (by decide) 0 rfl rfl rfl (Nat.le_of_ble_eq_true rfl) rfl (by decide) dX10_ofBond_39 ?_
      refine g_istore C [(4, vi (if hr ≤ BL b + BM b then 1 else 0)), (3, vi (if 0 ≤ b ∧ b < nB then 1 else 0)), (0, .ref ko), (1, vi b), (2, vi w)] dX10_ofBond_42 (by decide) rfl ?_
      refine g_iload_n C 4 dX10_ofBond_44 rfl ?_
      by_cases e45_0 : w = 0
      · refine g_tin C 80 dX10_ofBond_45 0 e45_0 (by decide) rfl (by decide) ?_
        refine g_aload_n C 2 dX10_ofBond_80 rfl ?_
        refine g_iload_n C 3 dX10_ofBond_81 rfl ?_
        refine g_callVp C [vi b] [] (c_X10_index x.1.2.1 g ko A 0 hr nL nO Q nY nE nR nB EC EF ES EH EP EX BQ BX BF BL b hEC hEF hES hEH hEP hEX hBQ hBX hBF hBL hnE hnR (by omega) (hBX1 b (by omega) (by omega)) hb) y_X10_index l_X10_285 [0, 1, 2, 3, 4, 5, 6, 7, 8, 9, 10] rfl (by decide) 0 rfl rfl rfl (Nat.le_of_ble_eq_true rfl) rfl (by decide) dX10_ofBond_82 ?_
        exact g_iret C hR dX10_ofBond_85 (Or.inl ⟨hok, (congrArg (fun q => some (vi q)) (by rw [if_pos (show w = 0 by omega)])), rfl⟩) rfl
      by_cases e45_1 : w = 1
      · refine g_tin C 86 dX10_ofBond_45 1 e45_1 (by decide) rfl (by decide) ?_
        refine g_aload_n C 2 dX10_ofBond_86 rfl ?_
        refine g_iload_n C 3 dX10_ofBond_87 rfl ?_
        refine g_callVp C [vi b] [] (c_X10_payout x.1.2.1 g ko A 0 hr nL nO Q nY nE nR nB EC EF ES EH EP EX BQ BX BF BL BP BT BC b hEC hEF hES hEH hEP hEX hBQ hBX hBF hBL hnE hnR hBP hBT hBC (by omega) (hBX1 b (by omega) (by omega)) hb) y_X10_payout l_X10_288 [0, 1, 2, 3, 4, 5, 6, 7, 8, 9, 10, 11, 12, 13] rfl (by decide) 0 rfl rfl rfl (Nat.le_of_ble_eq_true rfl) rfl (by decide) dX10_ofBond_88 ?_
        exact g_iret C hR dX10_ofBond_91 (Or.inl ⟨hok, (congrArg (fun q => some (vi q)) (by rw [if_neg (show ¬ w = 0 by omega), if_pos (show w = 1 by omega)])), rfl⟩) rfl
      by_cases e45_2 : w = 2
      · refine g_tin C 92 dX10_ofBond_45 2 e45_2 (by decide) rfl (by decide) ?_
        refine g_iload C 0 dX10_ofBond_92 rfl ?_
        refine g_if_eq C 101 dX10_ofBond_94 (by decide) (by omega) (fun c94 => ?_) (fun c94 => ?_)
        · refine g_iconst C dX10_ofBond_101 ?_
          exact g_iret C hR dX10_ofBond_102 (Or.inl ⟨hok, (congrArg (fun q => some (vi q)) (by rw [if_neg (show ¬ w = 0 by omega), if_neg (show ¬ w = 1 by omega), if_pos (show w = 2 by omega)]; first | (rw [if_pos (show hr ≤ BL b + BM b by omega)]; done) | (rw [if_neg (show ¬ (hr ≤ BL b + BM b) by omega)]; done))), rfl⟩) rfl
        refine g_iconst C dX10_ofBond_97 ?_
        refine g_goto C 102 dX10_ofBond_98 (by decide) ?_
        exact g_iret C hR dX10_ofBond_102 (Or.inl ⟨hok, (congrArg (fun q => some (vi q)) (by rw [if_neg (show ¬ w = 0 by omega), if_neg (show ¬ w = 1 by omega), if_pos (show w = 2 by omega)]; first | (rw [if_pos (show hr ≤ BL b + BM b by omega)]; done) | (rw [if_neg (show ¬ (hr ≤ BL b + BM b) by omega)]; done))), rfl⟩) rfl
      by_cases e45_3 : w = 3
      · refine g_tin C 103 dX10_ofBond_45 3 e45_3 (by decide) rfl (by decide) ?_
        refine g_iload C 0 dX10_ofBond_103 rfl ?_
        refine g_if_eq C 112 dX10_ofBond_105 (by decide) (by omega) (fun c105 => ?_) (fun c105 => ?_)
        · refine g_aload_n C 2 dX10_ofBond_112 rfl ?_
          refine g_iload_n C 3 dX10_ofBond_113 rfl ?_
          refine g_callVp C [vi b] [] (c_X10_payout x.1.2.1 g ko A 0 hr nL nO Q nY nE nR nB EC EF ES EH EP EX BQ BX BF BL BP BT BC b hEC hEF hES hEH hEP hEX hBQ hBX hBF hBL hnE hnR hBP hBT hBC (by omega) (hBX1 b (by omega) (by omega)) hb) y_X10_payout l_X10_288 [0, 1, 2, 3, 4, 5, 6, 7, 8, 9, 10, 11, 12, 13] rfl (by decide) 0 rfl rfl rfl (Nat.le_of_ble_eq_true rfl) rfl (by decide) dX10_ofBond_114 ?_
          exact g_iret C hR dX10_ofBond_117 (Or.inl ⟨hok, (congrArg (fun q => some (vi q)) (by rw [if_neg (show ¬ w = 0 by omega), if_neg (show ¬ w = 1 by omega), if_neg (show ¬ w = 2 by omega), if_pos (show w = 3 by omega)]; first | (rw [if_pos (show hr ≤ BL b + BM b by omega)]; done) | (rw [if_neg (show ¬ (hr ≤ BL b + BM b) by omega)]; done))), rfl⟩) rfl
        refine g_iconst C dX10_ofBond_108 ?_
        refine g_goto C 117 dX10_ofBond_109 (by decide) ?_
        exact g_iret C hR dX10_ofBond_117 (Or.inl ⟨hok, (congrArg (fun q => some (vi q)) (by rw [if_neg (show ¬ w = 0 by omega), if_neg (show ¬ w = 1 by omega), if_neg (show ¬ w = 2 by omega), if_pos (show w = 3 by omega)]; first | (rw [if_pos (show hr ≤ BL b + BM b by omega)]; done) | (rw [if_neg (show ¬ (hr ≤ BL b + BM b) by omega)]; done))), rfl⟩) rfl
      by_cases e45_4 : w = 4
      · refine g_tin C 118 dX10_ofBond_45 4 e45_4 (by decide) rfl (by decide) ?_
        refine g_iload C 0 dX10_ofBond_118 rfl ?_
        refine g_if_eq C 127 dX10_ofBond_120 (by decide) (by omega) (fun c120 => ?_) (fun c120 => ?_)
        · refine g_aload_n C 2 dX10_ofBond_127 rfl ?_
          refine g_getf C k_X10 31 f_X10_76 0 rfl rfl (by decide) rfl rfl dX10_ofBond_128 ?_
          refine g_iload_n C 3 dX10_ofBond_131 rfl ?_
          refine g_iald C 11 rfl (by omega) dX10_ofBond_132 ?_
          have r1_132 := hBP b
          refine g_aload_n C 2 dX10_ofBond_133 rfl ?_
          refine g_iload_n C 3 dX10_ofBond_134 rfl ?_
          refine g_callVp C [vi b] [vi (BP b)] (c_X10_payout x.1.2.1 g ko A 0 hr nL nO Q nY nE nR nB EC EF ES EH EP EX BQ BX BF BL BP BT BC b hEC hEF hES hEH hEP hEX hBQ hBX hBF hBL hnE hnR hBP hBT hBC (by omega) (hBX1 b (by omega) (by omega)) hb) y_X10_payout l_X10_288 [0, 1, 2, 3, 4, 5, 6, 7, 8, 9, 10, 11, 12, 13] rfl (by decide) 0 rfl rfl rfl (Nat.le_of_ble_eq_true rfl) rfl (by decide) dX10_ofBond_135 ?_
          refine g_isub C dX10_ofBond_138 ?_
          exact g_iret C hR dX10_ofBond_139 (Or.inl ⟨hok, (congrArg (fun q => some (vi q)) (by rw [if_neg (show ¬ w = 0 by omega), if_neg (show ¬ w = 1 by omega), if_neg (show ¬ w = 2 by omega), if_neg (show ¬ w = 3 by omega), if_pos (show w = 4 by omega)]; first | (rw [if_pos (show hr ≤ BL b + BM b by omega)]; done) | (rw [if_neg (show ¬ (hr ≤ BL b + BM b) by omega)]; done))), rfl⟩) rfl
        refine g_iconst C dX10_ofBond_123 ?_
        refine g_goto C 139 dX10_ofBond_124 (by decide) ?_
        exact g_iret C hR dX10_ofBond_139 (Or.inl ⟨hok, (congrArg (fun q => some (vi q)) (by rw [if_neg (show ¬ w = 0 by omega), if_neg (show ¬ w = 1 by omega), if_neg (show ¬ w = 2 by omega), if_neg (show ¬ w = 3 by omega), if_pos (show w = 4 by omega)]; first | (rw [if_pos (show hr ≤ BL b + BM b by omega)]; done) | (rw [if_neg (show ¬ (hr ≤ BL b + BM b) by omega)]; done))), rfl⟩) rfl
      refine g_tout C 140 dX10_ofBond_45 (by omega) (by omega) (by decide) ?_
      refine g_aload_n C 2 dX10_ofBond_140 rfl ?_
      refine g_iload_n C 3 dX10_ofBond_141 rfl ?_
      refine g_callVp C [vi b] [] (c_X10_instead x.1.2.1 g ko A 0 hr nL nO Q nY nE nR nB EC EF BX BL b hEC hEF hBX hBL hnE (by omega) (hBX1 b (by omega) (by omega)) hb) y_X10_instead l_X10_282 [0, 1, 2, 8, 10] rfl (by decide) 0 rfl rfl rfl (Nat.le_of_ble_eq_true rfl) rfl (by decide) dX10_ofBond_142 ?_
      exact g_iret C hR dX10_ofBond_145 (Or.inl ⟨hok, (congrArg (fun q => some (vi q)) (by rw [if_neg (show ¬ w = 0 by omega), if_neg (show ¬ w = 1 by omega), if_neg (show ¬ w = 2 by omega), if_neg (show ¬ w = 3 by omega), if_neg (show ¬ w = 4 by omega)])), rfl⟩) rfl
    refine g_iconst C dX10_ofBond_35 ?_
    rcases hJ29 with ⟨e9, h9⟩ | ⟨e9, h9⟩ | ⟨e9, h9⟩
    · exfalso; omega
    · subst e9; exact g_iret C hR dX10_ofBond_36 (Or.inr (Or.inl ⟨h9, rfl, rfl⟩)) rfl
    · subst e9; exact g_iret C hR dX10_ofBond_36 (Or.inr (Or.inr (⟨h9, rfl, rfl⟩))) rfl
  refine g_iload_n C 0 dX10_ofBond_7 rfl ?_
  refine g_if_ne C 15 dX10_ofBond_8 (by decide) (by omega) (fun c8 => ?_) (fun c8 => ?_)
  · refine g_iload_n C 3 dX10_ofBond_15 rfl ?_
    refine g_iconst C dX10_ofBond_16 ?_
    refine g_iconst C dX10_ofBond_17 ?_
    refine g_callSp C [vi w, vi 0, vi 5] [.ref ko] (c_X10_in x.1.2.1 g w 0 5 hw (by omega) (by omega)) y_X10_in l_X10_141 [] rfl (by decide) rfl (Nat.le_of_ble_eq_true rfl) rfl (by decide) dX10_ofBond_18 ?_
    refine g_if_eq C 28 dX10_ofBond_21 (by decide) (by omega) (fun c21 => ?_) (fun c21 => ?_)
    · refine g_iconst C dX10_ofBond_28 ?_
      exact J29 2 (by omega)
    refine g_iconst C dX10_ofBond_24 ?_
    refine g_goto C 29 dX10_ofBond_25 (by decide) ?_
    exact J29 0 (by omega)
  refine g_iconst C dX10_ofBond_11 ?_
  refine g_goto C 29 dX10_ofBond_12 (by decide) ?_
  exact J29 1 (by omega)

set_option maxHeartbeats 4000000 in
set_option maxRecDepth 100000 in
theorem c_X10_basis (l : Launch) (g : gD) (ko : Nat) (A : Nat → Nat) (th : Int) (hr : Int) (nL : Int) (nO : Int) (Q : Int) (nY : Int) (nE : Int) (nR : Int) (nB : Int) (LP : Int → Int) (LH : Int → Int) (LU : Int → Int) (OP : Int → Int) (OF : Int → Int) (OT : Int → Int) (FL : Int → Int) (DP : Int → Int) (RE : Int → Int) (ZP : Int → Int) (ZH : Int → Int) (ZB : Int → Int) (ZL : Int → Int) (SH : Int → Int) (PR : Int → Int) (RA : Int → Int) (PA : Int → Int) (ZD : Int → Int) (EC : Int → Int) (EF : Int → Int) (ES : Int → Int) (EH : Int → Int) (EP : Int → Int) (EX : Int → Int) (BQ : Int → Int) (BX : Int → Int) (BF : Int → Int) (BL : Int → Int) (BP : Int → Int) (BT : Int → Int) (BC : Int → Int) (hLP : ∀ k, 0 ≤ LP k ∧ LP k ≤ 2) (hLH : ∀ k, 0 ≤ LH k ∧ LH k ≤ 2199) (hLU : ∀ k, 0 ≤ LU k ∧ LU k ≤ 99999) (hnL : 0 ≤ nL ∧ nL ≤ 40) (hOP : ∀ k, 0 ≤ OP k ∧ OP k ≤ 2) (hOF : ∀ k, 0 ≤ OF k ∧ OF k ≤ 2199) (hOT : ∀ k, 0 ≤ OT k ∧ OT k ≤ 2199) (hnO : 0 ≤ nO ∧ nO ≤ 8) (hFL : ∀ k, 0 ≤ FL k ∧ FL k ≤ 999999) (hDP : ∀ k, 0 ≤ DP k ∧ DP k ≤ 999999) (hRE : ∀ k, 0 ≤ RE k ∧ RE k ≤ 3) (hnY : 0 ≤ nY ∧ nY ≤ 5) (hQ : 0 ≤ Q ∧ Q ≤ 90) (hZH : ∀ k, 0 ≤ ZH k ∧ ZH k ≤ 999999) (hZB : ∀ k, 0 ≤ ZB k ∧ ZB k ≤ 999999) (hdst : dst9 OP OF nO) (hSH : ∀ k, 0 ≤ SH k ∧ SH k ≤ 100) (hPR : ∀ k, 0 ≤ PR k ∧ PR k ≤ 99999) (hRA : ∀ k, 0 ≤ RA k ∧ RA k ≤ 150) (hDP1 : ∀ k, 0 ≤ k → k < nY → 1 ≤ DP k) (hPA : ∀ k, 0 ≤ PA k ∧ PA k ≤ 100) (hZD : ∀ k, 0 ≤ ZD k ∧ ZD k ≤ 100000000) (hdj : dj9 OP OF OT nO) (hEC : ∀ k, 0 ≤ EC k ∧ EC k ≤ 15) (hEF : ∀ k, 0 ≤ EF k ∧ EF k ≤ 2200) (hES : ∀ k, 0 ≤ ES k ∧ ES k ≤ 5) (hEH : ∀ k, 0 ≤ EH k ∧ EH k ≤ 2199) (hEP : ∀ k, 0 ≤ EP k ∧ EP k ≤ 2) (hEX : ∀ k, 0 ≤ EX k ∧ EX k ≤ 9) (hBQ : ∀ k, 0 ≤ BQ k ∧ BQ k ≤ 2) (hBX : ∀ k, 0 ≤ BX k ∧ BX k ≤ 65535) (hBF : ∀ k, 0 ≤ BF k ∧ BF k ≤ 2199) (hBL : ∀ k, 0 ≤ BL k ∧ BL k ≤ 2199) (hnE : 0 ≤ nE ∧ nE ≤ 6) (hnR : 0 ≤ nR ∧ nR ≤ 60) (hBP : ∀ k, 0 ≤ BP k ∧ BP k ≤ 999999) (hBT : ∀ k, 0 ≤ BT k ∧ BT k ≤ 9) (hBC : ∀ k, 0 ≤ BC k ∧ BC k ≤ 100) (hnB : 0 ≤ nB ∧ nB ≤ 5) (hBX1 : ∀ k, 0 ≤ k → k < nB → 1 ≤ BX k) : gMet l g yX10_basis cX10_basis 3 (some .int) 7 0 0 167 [.ref ko] [(ko, cO 10 (kF th hr nL nO Q nY nE nR nB A)), (A 3, cA g 40 LP), (A 4, cA g 40 LH), (A 5, cA g 40 LU), (A 7, cA g 8 OP), (A 8, cA g 8 OF), (A 9, cA g 8 OT), (A 12, cA g 5 FL), (A 13, cA g 5 DP), (A 15, cA g 5 RE), (A 42, cA g 8 ZP), (A 43, cA g 40 ZH), (A 44, cA g 40 ZB), (A 45, cA g 40 ZL), (A 14, cA g 5 SH), (A 16, cA g 5 PR), (A 17, cA g 5 RA), (A 18, cA g 30 PA), (A 46, cJ g 6 ZD), (A 23, cA g 6 EC), (A 24, cA g 6 EF), (A 26, cA g 60 ES), (A 27, cA g 60 EH), (A 28, cA g 60 EP), (A 29, cA g 60 EX), (A 32, cA g 5 BQ), (A 33, cA g 5 BX), (A 34, cA g 5 BF), (A 35, cA g 5 BL), (A 31, cA g 5 BP), (A 36, cA g 5 BT), (A 37, cA g 5 BC)] (fun v9 w9 => ∃ (ZP2 : Int → Int) (ZH2 : Int → Int) (ZB2 : Int → Int) (ZL2 : Int → Int) (ZD2 : Int → Int), v9 = (some (vi (sm (pyb EC EF ES EH EP EX nE nR BP BQ BX BF BL BT BC) nB - (sm LU nL - sm (fun z => kB LP LH LU nL OP OF OT nO Q FL DP SH RE PR RA PA nY z) 6 + sm (fun o => kE LP LH LU nL OP OF OT nO Q FL DP SH RE PR RA nY o) nO)))) ∧ w9 = [(ko, cO 10 (kF 0 hr nL nO Q nY nE nR nB A)), (A 3, cA g 40 LP), (A 4, cA g 40 LH), (A 5, cA g 40 LU), (A 7, cA g 8 OP), (A 8, cA g 8 OF), (A 9, cA g 8 OT), (A 12, cA g 5 FL), (A 13, cA g 5 DP), (A 15, cA g 5 RE), (A 42, cA g 8 ZP2), (A 43, cA g 40 ZH2), (A 44, cA g 40 ZB2), (A 45, cA g 40 ZL2), (A 14, cA g 5 SH), (A 16, cA g 5 PR), (A 17, cA g 5 RA), (A 18, cA g 30 PA), (A 46, cJ g 6 ZD2), (A 23, cA g 6 EC), (A 24, cA g 6 EF), (A 26, cA g 60 ES), (A 27, cA g 60 EH), (A 28, cA g 60 EP), (A 29, cA g 60 EX), (A 32, cA g 5 BQ), (A 33, cA g 5 BX), (A 34, cA g 5 BF), (A 35, cA g 5 BL), (A 31, cA g 5 BP), (A 36, cA g 5 BT), (A 37, cA g 5 BC)] ∧ (∀ k, 0 ≤ k → k < nO → ZP2 k = plc OP OF nO k) ∧ (∀ y k, 0 ≤ y → y < nY → 0 ≤ k → k < nO → ZH2 (8 * y + k) = kH LP LH LU nL OP OF OT nO Q FL DP SH RE PR RA y k) ∧ (∀ y k, 0 ≤ y → y < nY → 0 ≤ k → k < nO → ZB2 (8 * y + k) = kR LP LH LU nL OP OF OT nO Q FL DP SH RE PR RA y k) ∧ (∀ y k, 0 ≤ y → y < nY → 0 ≤ k → k < nO → ZL2 (8 * y + k) = kL LP LH LU nL OP OF OT nO Q FL DP SH RE PR RA y k) ∧ (∀ k, 0 ≤ ZH2 k ∧ ZH2 k ≤ 999999) ∧ (∀ k, 0 ≤ ZB2 k ∧ ZB2 k ≤ 999999) ∧ (∀ z, 0 ≤ z → z < 6 → ZD2 z = kB LP LH LU nL OP OF OT nO Q FL DP SH RE PR RA PA nY z) ∧ (∀ k, 0 ≤ ZD2 k ∧ ZD2 k ≤ 100000000)) := by
  refine gMet.of y_X10_basis.2.2.2.2.1 (Nat.le_of_ble_eq_true rfl) ?_
  intro x hlx C hR hnm
  subst hlx
  have C : gC g x RX10 cX10_basis 3 7 0 0 167 := C
  show gW g x [(ko, cO 10 (kF th hr nL nO Q nY nE nR nB A)), (A 3, cA g 40 LP), (A 4, cA g 40 LH), (A 5, cA g 40 LU), (A 7, cA g 8 OP), (A 8, cA g 8 OF), (A 9, cA g 8 OT), (A 12, cA g 5 FL), (A 13, cA g 5 DP), (A 15, cA g 5 RE), (A 42, cA g 8 ZP), (A 43, cA g 40 ZH), (A 44, cA g 40 ZB), (A 45, cA g 40 ZL), (A 14, cA g 5 SH), (A 16, cA g 5 PR), (A 17, cA g 5 RA), (A 18, cA g 30 PA), (A 46, cJ g 6 ZD), (A 23, cA g 6 EC), (A 24, cA g 6 EF), (A 26, cA g 60 ES), (A 27, cA g 60 EH), (A 28, cA g 60 EP), (A 29, cA g 60 EX), (A 32, cA g 5 BQ), (A 33, cA g 5 BX), (A 34, cA g 5 BF), (A 35, cA g 5 BL), (A 31, cA g 5 BP), (A 36, cA g 5 BT), (A 37, cA g 5 BC)] 0 0 [(0, .ref ko)] 0 []
  refine g_aload_n C 0 dX10_basis_0 rfl ?_
  refine g_iconst C dX10_basis_1 ?_
  refine g_putf C k_X10 tyX10_ok nmX10 0 f_X10_137 0 rfl rfl (by decide) rfl rfl rfl rfl (Nat.le_of_ble_eq_true rfl) [(ko, cO 10 (kF 0 hr nL nO Q nY nE nR nB A)), (A 3, cA g 40 LP), (A 4, cA g 40 LH), (A 5, cA g 40 LU), (A 7, cA g 8 OP), (A 8, cA g 8 OF), (A 9, cA g 8 OT), (A 12, cA g 5 FL), (A 13, cA g 5 DP), (A 15, cA g 5 RE), (A 42, cA g 8 ZP), (A 43, cA g 40 ZH), (A 44, cA g 40 ZB), (A 45, cA g 40 ZL), (A 14, cA g 5 SH), (A 16, cA g 5 PR), (A 17, cA g 5 RA), (A 18, cA g 30 PA), (A 46, cJ g 6 ZD), (A 23, cA g 6 EC), (A 24, cA g 6 EF), (A 26, cA g 60 ES), (A 27, cA g 60 EH), (A 28, cA g 60 EP), (A 29, cA g 60 EX), (A 32, cA g 5 BQ), (A 33, cA g 5 BX), (A 34, cA g 5 BF), (A 35, cA g 5 BL), (A 31, cA g 5 BP), (A 36, cA g 5 BT), (A 37, cA g 5 BC)] rfl dX10_basis_2 ?_
  refine g_iconst C dX10_basis_5 ?_
  refine g_istore_n C [(1, vi 0), (0, .ref ko)] dX10_basis_6 (by decide) rfl ?_
  refine g_iconst C dX10_basis_7 ?_
  refine g_istore_n C [(2, vi 0), (1, vi 0), (0, .ref ko)] dX10_basis_8 (by decide) rfl ?_
  have L9 : ∀ (f : Nat) (acc : Int) (i : Int), (0 ≤ i ∧ i ≤ nB ∧ acc = sm (pyb EC EF ES EH EP EX nE nR BP BQ BX BF BL BT BC) i) → (nB - i).toNat < f → gW g x [(ko, cO 10 (kF 0 hr nL nO Q nY nE nR nB A)), (A 3, cA g 40 LP), (A 4, cA g 40 LH), (A 5, cA g 40 LU), (A 7, cA g 8 OP), (A 8, cA g 8 OF), (A 9, cA g 8 OT), (A 12, cA g 5 FL), (A 13, cA g 5 DP), (A 15, cA g 5 RE), (A 42, cA g 8 ZP), (A 43, cA g 40 ZH), (A 44, cA g 40 ZB), (A 45, cA g 40 ZL), (A 14, cA g 5 SH), (A 16, cA g 5 PR), (A 17, cA g 5 RA), (A 18, cA g 30 PA), (A 46, cJ g 6 ZD), (A 23, cA g 6 EC), (A 24, cA g 6 EF), (A 26, cA g 60 ES), (A 27, cA g 60 EH), (A 28, cA g 60 EP), (A 29, cA g 60 EX), (A 32, cA g 5 BQ), (A 33, cA g 5 BX), (A 34, cA g 5 BF), (A 35, cA g 5 BL), (A 31, cA g 5 BP), (A 36, cA g 5 BT), (A 37, cA g 5 BC)] 0 0 [(2, vi i), (1, vi acc), (0, .ref ko)] 9 [] := by
    intro f
    induction f with
    | zero => intro acc i hI9 hf; exact absurd hf (Nat.not_lt_zero _)
    | succ f ih9 =>
      intro acc i hI9 hf9
      refine g_iload_n C 0 dX10_basis_9 rfl ?_
      refine g_aload_n C 2 dX10_basis_10 rfl ?_
      refine g_getf C k_X10 30 f_X10_198 0 rfl rfl (by decide) rfl rfl dX10_basis_11 ?_
      refine g_icmp_ge C 31 dX10_basis_14 (by decide) (by omega) (by omega) (fun c14 => ?_) (fun c14 => ?_)
      · refine g_iload_n C 1 dX10_basis_31 rfl ?_
        refine g_aload_n C 2 dX10_basis_32 rfl ?_
        refine g_bipush C dX10_basis_33 (by decide) ?_
        refine g_callV C [vi 6] [vi acc] (c_X10_sumOf x.1.2.1 g ko A 0 hr nL nO Q nY nE nR nB LP LH LU OP OF OT FL DP RE ZP ZH ZB ZL SH PR RA PA ZD 6 hLP hLH hLU hnL hOP hOF hOT hnO hFL hDP hRE hnY hQ hZH hZB hdst hSH hPR hRA hDP1 hPA hZD hdj (by omega) (by omega)) y_X10_sumOf l_X10_248 [0, 1, 2, 3, 4, 5, 6, 7, 8, 9, 10, 11, 12, 13, 14, 15, 16, 17, 18] rfl (by decide) 0 rfl rfl rfl (Nat.le_of_ble_eq_true rfl) rfl (by decide) dX10_basis_35 (fun v9 w9 hp9 => ?_)
        obtain ⟨ZP235, ZH235, ZB235, ZL235, ZD235, rfl, rfl, hfP_35, hfH_35, hfB_35, hfL_35, hZH_35, hZB_35, hfD_35, hZD_35⟩ := hp9
        simp only [putAll, List.set_cons_succ, List.set_cons_zero, List.cons_append, List.nil_append, List.append_nil, Option.toList]
        show gW g x [(ko, cO 10 (kF 0 hr nL nO Q nY nE nR nB A)), (A 3, cA g 40 LP), (A 4, cA g 40 LH), (A 5, cA g 40 LU), (A 7, cA g 8 OP), (A 8, cA g 8 OF), (A 9, cA g 8 OT), (A 12, cA g 5 FL), (A 13, cA g 5 DP), (A 15, cA g 5 RE), (A 42, cA g 8 ZP235), (A 43, cA g 40 ZH235), (A 44, cA g 40 ZB235), (A 45, cA g 40 ZL235), (A 14, cA g 5 SH), (A 16, cA g 5 PR), (A 17, cA g 5 RA), (A 18, cA g 30 PA), (A 46, cJ g 6 ZD235), (A 23, cA g 6 EC), (A 24, cA g 6 EF), (A 26, cA g 60 ES), (A 27, cA g 60 EH), (A 28, cA g 60 EP), (A 29, cA g 60 EX), (A 32, cA g 5 BQ), (A 33, cA g 5 BX), (A 34, cA g 5 BF), (A 35, cA g 5 BL), (A 31, cA g 5 BP), (A 36, cA g 5 BT), (A 37, cA g 5 BC)] 0 0 [(2, vi i), (1, vi acc), (0, .ref ko)] 38 [vi (if 6 = 0 then sm LU nL else if 6 = 1 then sm LU nL - sm (fun o => gro LP LH LU nL OP OF OT o) nO else if 6 = 2 then sm (fun o => qto Q (gro LP LH LU nL OP OF OT o)) nO else if 6 = 3 then sm (fun o => kD LP LH LU nL OP OF OT nO Q FL DP SH RE PR RA nY o) nO else if 6 = 4 then sm (fun o => qto Q (gro LP LH LU nL OP OF OT o)) nO + sm (fun o => kD LP LH LU nL OP OF OT nO Q FL DP SH RE PR RA nY o) nO - sm (fun z => kB LP LH LU nL OP OF OT nO Q FL DP SH RE PR RA PA nY z) 6 else if 6 = 5 then sm (fun o => kE LP LH LU nL OP OF OT nO Q FL DP SH RE PR RA nY o) nO else if 6 = 6 then sm LU nL - sm (fun z => kB LP LH LU nL OP OF OT nO Q FL DP SH RE PR RA PA nY z) 6 + sm (fun o => kE LP LH LU nL OP OF OT nO Q FL DP SH RE PR RA nY o) nO else sm (fun z => kB LP LH LU nL OP OF OT nO Q FL DP SH RE PR RA PA nY z) 6), vi acc]
        refine g_val (w := sm LU nL - sm (fun z => kB LP LH LU nL OP OF OT nO Q FL DP SH RE PR RA PA nY z) 6 + sm (fun o => kE LP LH LU nL OP OF OT nO Q FL DP SH RE PR RA nY o) nO) (by rw [if_neg (by decide), if_neg (by decide), if_neg (by decide), if_neg (by decide), if_neg (by decide), if_neg (by decide), if_pos rfl]) ?_
        refine g_isub C dX10_basis_38 ?_
        exact g_iret C hR dX10_basis_39 ⟨ZP235, ZH235, ZB235, ZL235, ZD235, (congrArg (fun q => some (vi q)) (by rw [hI9.2.2, show i = nB by omega])), rfl, hfP_35, hfH_35, hfB_35, hfL_35, hZH_35, hZB_35, hfD_35, hZD_35⟩ rfl
      refine g_iload_n C 1 dX10_basis_17 rfl ?_
      refine g_aload_n C 2 dX10_basis_18 rfl ?_
      refine g_iload_n C 0 dX10_basis_19 rfl ?_
      refine g_callVp C [vi i] [vi acc] (c_X10_payout x.1.2.1 g ko A 0 hr nL nO Q nY nE nR nB EC EF ES EH EP EX BQ BX BF BL BP BT BC i hEC hEF hES hEH hEP hEX hBQ hBX hBF hBL hnE hnR hBP hBT hBC (by omega) (hBX1 i (by omega) (by omega)) (by omega)) y_X10_payout l_X10_288 [0, 19, 20, 21, 22, 23, 24, 25, 26, 27, 28, 29, 30, 31] rfl (by decide) 0 rfl rfl rfl (Nat.le_of_ble_eq_true rfl) rfl (by decide) dX10_basis_20 ?_
      refine g_iadd C dX10_basis_23 ?_
      refine g_istore_n C [(1, vi (acc + (pyb EC EF ES EH EP EX nE nR BP BQ BX BF BL BT BC i))), (2, vi i), (0, .ref ko)] dX10_basis_24 (by decide) rfl ?_
      refine g_iinc C 1 [(2, vi (i + 1)), (1, vi (acc + (pyb EC EF ES EH EP EX nE nR BP BQ BX BF BL BT BC i))), (0, .ref ko)] dX10_basis_25 rfl (by decide) rfl ?_
      refine g_goto C 9 dX10_basis_28 (by decide) ?_
      exact ih9 (acc + (pyb EC EF ES EH EP EX nE nR BP BQ BX BF BL BT BC i)) (i + 1) ⟨by omega, by omega, by rw [sm_s _ (by omega), ← hI9.2.2] <;> rfl⟩ (by omega)
  exact L9 _ 0 0 ⟨by omega, by omega, rfl⟩ (Nat.lt_succ_self _)

set_option maxHeartbeats 4000000 in
set_option maxRecDepth 100000 in
theorem c_X10_paysFor (l : Launch) (g : gD) (ko : Nat) (A : Nat → Nat) (th : Int) (hr : Int) (nL : Int) (nO : Int) (Q : Int) (nY : Int) (nE : Int) (nR : Int) (nB : Int) (FL : Int → Int) (DP : Int → Int) (SH : Int → Int) (MU : Int → Int) (y : Int) (q : Int) (kk : Int) (hFL : ∀ k, 0 ≤ FL k ∧ FL k ≤ 999999) (hDP : ∀ k, 0 ≤ DP k ∧ DP k ≤ 999999) (hSH : ∀ k, 0 ≤ SH k ∧ SH k ≤ 100) (hQ : 0 ≤ Q ∧ Q ≤ 90) (hMU : ∀ k, 0 ≤ MU k ∧ MU k ≤ 999999) (hq3 : 0 ≤ q ∧ q < 3) (hy5 : 0 ≤ y ∧ y < 5) (hk12 : 0 ≤ kk ∧ kk < 12) (hy : -2147483648 ≤ y ∧ y < 2147483648) (hq : -2147483648 ≤ q ∧ q < 2147483648) (hkk : -2147483648 ≤ kk ∧ kk < 2147483648) : gMet l g yX10_paysFor cX10_paysFor 5 (some .int) 1 0 0 23 [.ref ko, vi y, vi q, vi kk] [(ko, cO 10 (kF th hr nL nO Q nY nE nR nB A)), (A 12, cA g 5 FL), (A 13, cA g 5 DP), (A 14, cA g 5 SH), (A 41, cA g 36 MU)] (gM (some (vi (mpy FL DP SH Q MU q y kk))) [(ko, cO 10 (kF th hr nL nO Q nY nE nR nB A)), (A 12, cA g 5 FL), (A 13, cA g 5 DP), (A 14, cA g 5 SH), (A 41, cA g 36 MU)]) := by
  refine gMet.of y_X10_paysFor.2.2.2.2.1 (Nat.le_of_ble_eq_true rfl) ?_
  intro x hlx C hR hnm
  subst hlx
  have C : gC g x RX10 cX10_paysFor 5 1 0 0 23 := C
  show gW g x [(ko, cO 10 (kF th hr nL nO Q nY nE nR nB A)), (A 12, cA g 5 FL), (A 13, cA g 5 DP), (A 14, cA g 5 SH), (A 41, cA g 36 MU)] 0 0 [(0, .ref ko), (1, vi y), (2, vi q), (3, vi kk)] 0 []
  refine g_aload_n C 0 dX10_paysFor_0 rfl ?_
  refine g_getf C k_X10 41 f_X10_106 0 rfl rfl (by decide) rfl rfl dX10_paysFor_1 ?_
  refine g_bipush C dX10_paysFor_4 (by decide) ?_
  refine g_iload_n C 2 dX10_paysFor_6 rfl ?_
  refine g_imul C dX10_paysFor_7 ?_
  refine g_iload_n C 3 dX10_paysFor_8 rfl ?_
  refine g_iadd C dX10_paysFor_9 ?_
  refine g_iald C 4 rfl (by omega) dX10_paysFor_10 ?_
  have r1_10 := hMU ((12 * q) + kk)
  have hu9 := hMU (q * 12 + kk)
  have hq9 := qto_r (V := 999999) hQ hu9
  refine g_val (w := MU (q * 12 + kk)) (by rw [show 12 * q + kk = q * 12 + kk by omega]) ?_
  refine g_istore C [(4, vi (MU (q * 12 + kk))), (0, .ref ko), (1, vi y), (2, vi q), (3, vi kk)] dX10_paysFor_11 (by decide) rfl ?_
  refine g_aload_n C 1 dX10_paysFor_13 rfl ?_
  refine g_iload_n C 2 dX10_paysFor_14 rfl ?_
  refine g_aload_n C 1 dX10_paysFor_15 rfl ?_
  refine g_iload_n C 2 dX10_paysFor_16 rfl ?_
  refine g_iload C 0 dX10_paysFor_17 rfl ?_
  refine g_aload_n C 1 dX10_paysFor_19 rfl ?_
  refine g_iload C 0 dX10_paysFor_20 rfl ?_
  refine g_callVp C [vi (MU (q * 12 + kk))] [vi (MU (q * 12 + kk)), vi y, .ref ko, vi y, .ref ko] (c_X10_ceded x.1.2.1 g ko A th hr nL nO Q nY nE nR nB (MU (q * 12 + kk)) hQ (by omega) (by omega)) y_X10_ceded l_X10_216 [0] rfl (by decide) 0 rfl rfl rfl (Nat.le_of_ble_eq_true rfl) rfl (by decide) dX10_paysFor_22 ?_
  refine g_isub C dX10_paysFor_25 ?_
  refine g_callVp C [vi y, vi ((MU (q * 12 + kk)) - (qto Q (MU (q * 12 + kk))))] [vi y, .ref ko] (c_X10_above x.1.2.1 g ko A th hr nL nO Q nY nE nR nB FL DP y ((MU (q * 12 + kk)) - (qto Q (MU (q * 12 + kk)))) hFL hDP hy5 (by omega) hy (by omega)) y_X10_above l_X10_219 [0, 1, 2] rfl (by decide) 0 rfl rfl rfl (Nat.le_of_ble_eq_true rfl) rfl (by decide) dX10_paysFor_26 ?_
  have hf9 := fhit_r (FL := FL) hDP y (MU (q * 12 + kk) - qto Q (MU (q * 12 + kk)))
  have hd9 := hDP y
  refine g_callVp C [vi y, vi (fhit FL DP y ((MU (q * 12 + kk)) - (qto Q (MU (q * 12 + kk)))))] [] (c_X10_pays x.1.2.1 g ko A th hr nL nO Q nY nE nR nB SH y (fhit FL DP y ((MU (q * 12 + kk)) - (qto Q (MU (q * 12 + kk))))) hSH hy5 (by omega) hy (by omega)) y_X10_pays l_X10_236 [0, 3] rfl (by decide) 0 rfl rfl rfl (Nat.le_of_ble_eq_true rfl) rfl (by decide) dX10_paysFor_29 ?_
  exact g_iretM C hR dX10_paysFor_32 (by first | rfl | omega) rfl rfl

set_option maxHeartbeats 4000000 in
set_option maxRecDepth 100000 in
theorem c_X10_weights (l : Launch) (g : gD) (ko : Nat) (A : Nat → Nat) (th : Int) (hr : Int) (nL : Int) (nO : Int) (Q : Int) (nY : Int) (nE : Int) (nR : Int) (nB : Int) (MC : Int → Int) (MW : Int → Int) (q : Int) (hMW : ∀ k, 0 ≤ MW k ∧ MW k ≤ 99) (hMC : ∀ k, 0 ≤ MC k ∧ MC k ≤ 12) (hq3 : 0 ≤ q ∧ q < 3) (hq : -2147483648 ≤ q ∧ q < 2147483648) : gMet l g yX10_weights cX10_weights 5 (some .long) 0 0 0 0 [.ref ko, vi q] [(ko, cO 10 (kF th hr nL nO Q nY nE nR nB A)), (A 39, cA g 3 MC), (A 40, cA g 36 MW)] (gM (some (vl (sm (twt MW q) (MC q)))) [(ko, cO 10 (kF th hr nL nO Q nY nE nR nB A)), (A 39, cA g 3 MC), (A 40, cA g 36 MW)]) := by
  refine gMet.of y_X10_weights.2.2.2.2.1 (Nat.le_of_ble_eq_true rfl) ?_
  intro x hlx C hR hnm
  subst hlx
  have C : gC g x RX10 cX10_weights 5 0 0 0 0 := C
  show gW g x [(ko, cO 10 (kF th hr nL nO Q nY nE nR nB A)), (A 39, cA g 3 MC), (A 40, cA g 36 MW)] 0 0 [(0, .ref ko), (1, vi q)] 0 []
  refine g_lconst C dX10_weights_0 0 (by decide) ?_
  refine g_lstore_n C [(2, vl 0), (0, .ref ko), (1, vi q)] dX10_weights_1 (by decide) rfl ?_
  refine g_iconst C dX10_weights_2 ?_
  refine g_istore C [(4, vi 0), (2, vl 0), (0, .ref ko), (1, vi q)] dX10_weights_3 (by decide) rfl ?_
  have L5 : ∀ (f : Nat) (acc : Int) (i : Int), (0 ≤ i ∧ i ≤ (MC q) ∧ acc = sm (twt MW q) i) → ((MC q) - i).toNat < f → gW g x [(ko, cO 10 (kF th hr nL nO Q nY nE nR nB A)), (A 39, cA g 3 MC), (A 40, cA g 36 MW)] 0 0 [(4, vi i), (2, vl acc), (0, .ref ko), (1, vi q)] 5 [] := by
    intro f
    induction f with
    | zero => intro acc i hI5 hf; exact absurd hf (Nat.not_lt_zero _)
    | succ f ih5 =>
      intro acc i hI5 hf5
      refine g_iload C 0 dX10_weights_5 rfl ?_
      refine g_aload_n C 2 dX10_weights_7 rfl ?_
      refine g_getf C k_X10 39 f_X10_100 0 rfl rfl (by decide) rfl rfl dX10_weights_8 ?_
      refine g_iload_n C 3 dX10_weights_11 rfl ?_
      refine g_iald C 1 rfl (by omega) dX10_weights_12 ?_
      have r1_12 := hMC q
      have hc9 := hMC q
      refine g_icmp_ge C 38 dX10_weights_13 (by decide) (by omega) (by omega) (fun c13 => ?_) (fun c13 => ?_)
      · have hc7 := hMC q
        refine g_lload_n C 1 dX10_weights_38 rfl ?_
        exact g_lretM C hR dX10_weights_39 (by rw [hI5.2.2, show i = MC q by omega] <;> rfl) rfl rfl
      have hc8 := hMC q
      refine g_lload_n C 1 dX10_weights_16 rfl ?_
      refine g_aload_n C 2 dX10_weights_17 rfl ?_
      refine g_getf C k_X10 40 f_X10_103 0 rfl rfl (by decide) rfl rfl dX10_weights_18 ?_
      refine g_bipush C dX10_weights_21 (by decide) ?_
      refine g_iload_n C 3 dX10_weights_23 rfl ?_
      refine g_imul C dX10_weights_24 ?_
      refine g_iload C 0 dX10_weights_25 rfl ?_
      refine g_iadd C dX10_weights_27 ?_
      refine g_iald C 2 rfl (by omega) dX10_weights_28 ?_
      have r2_28 := hMW ((12 * q) + i)
      refine g_i2l C dX10_weights_29 (by omega) ?_
      refine g_ladd C dX10_weights_30 ?_
      refine g_lstore_n C [(2, vl (acc + (MW ((12 * q) + i)))), (4, vi i), (0, .ref ko), (1, vi q)] dX10_weights_31 (by decide) rfl ?_
      refine g_iinc C 1 [(4, vi (i + 1)), (2, vl (acc + (MW ((12 * q) + i)))), (0, .ref ko), (1, vi q)] dX10_weights_32 rfl (by decide) rfl ?_
      refine g_goto C 5 dX10_weights_35 (by decide) ?_
      exact ih5 (acc + (MW ((12 * q) + i))) (i + 1) ⟨by omega, by omega, by rw [sm_s _ (by omega), ← hI5.2.2]; unfold twt; rw [show q * 12 + i = 12 * q + i by omega]⟩ (by omega)
  exact L5 _ 0 0 ⟨by omega, (hMC q).1, rfl⟩ (Nat.lt_succ_self _)

set_option maxHeartbeats 4000000 in
set_option maxRecDepth 100000 in
theorem c_X10_weighed (l : Launch) (g : gD) (ko : Nat) (A : Nat → Nat) (th : Int) (hr : Int) (nL : Int) (nO : Int) (Q : Int) (nY : Int) (nE : Int) (nR : Int) (nB : Int) (FL : Int → Int) (DP : Int → Int) (SH : Int → Int) (MC : Int → Int) (MW : Int → Int) (MU : Int → Int) (y : Int) (q : Int) (hFL : ∀ k, 0 ≤ FL k ∧ FL k ≤ 999999) (hDP : ∀ k, 0 ≤ DP k ∧ DP k ≤ 999999) (hSH : ∀ k, 0 ≤ SH k ∧ SH k ≤ 100) (hQ : 0 ≤ Q ∧ Q ≤ 90) (hMW : ∀ k, 0 ≤ MW k ∧ MW k ≤ 99) (hMU : ∀ k, 0 ≤ MU k ∧ MU k ≤ 999999) (hMC : ∀ k, 0 ≤ MC k ∧ MC k ≤ 12) (hq3 : 0 ≤ q ∧ q < 3) (hy5 : 0 ≤ y ∧ y < 5) (hy : -2147483648 ≤ y ∧ y < 2147483648) (hq : -2147483648 ≤ q ∧ q < 2147483648) : gMet l g yX10_weighed cX10_weighed 6 (some .long) 2 0 0 47 [.ref ko, vi y, vi q] [(ko, cO 10 (kF th hr nL nO Q nY nE nR nB A)), (A 12, cA g 5 FL), (A 13, cA g 5 DP), (A 14, cA g 5 SH), (A 39, cA g 3 MC), (A 40, cA g 36 MW), (A 41, cA g 36 MU)] (gM (some (vl (sm (wpy FL DP SH Q MW MU q y) (MC q)))) [(ko, cO 10 (kF th hr nL nO Q nY nE nR nB A)), (A 12, cA g 5 FL), (A 13, cA g 5 DP), (A 14, cA g 5 SH), (A 39, cA g 3 MC), (A 40, cA g 36 MW), (A 41, cA g 36 MU)]) := by
  refine gMet.of y_X10_weighed.2.2.2.2.1 (Nat.le_of_ble_eq_true rfl) ?_
  intro x hlx C hR hnm
  subst hlx
  have C : gC g x RX10 cX10_weighed 6 2 0 0 47 := C
  show gW g x [(ko, cO 10 (kF th hr nL nO Q nY nE nR nB A)), (A 12, cA g 5 FL), (A 13, cA g 5 DP), (A 14, cA g 5 SH), (A 39, cA g 3 MC), (A 40, cA g 36 MW), (A 41, cA g 36 MU)] 0 0 [(0, .ref ko), (1, vi y), (2, vi q)] 0 []
  refine g_lconst C dX10_weighed_0 0 (by decide) ?_
  refine g_lstore_n C [(3, vl 0), (0, .ref ko), (1, vi y), (2, vi q)] dX10_weighed_1 (by decide) rfl ?_
  refine g_iconst C dX10_weighed_2 ?_
  refine g_istore C [(5, vi 0), (3, vl 0), (0, .ref ko), (1, vi y), (2, vi q)] dX10_weighed_3 (by decide) rfl ?_
  have L5 : ∀ (f : Nat) (acc : Int) (i : Int), (0 ≤ i ∧ i ≤ (MC q) ∧ acc = sm (wpy FL DP SH Q MW MU q y) i) → ((MC q) - i).toNat < f → gW g x [(ko, cO 10 (kF th hr nL nO Q nY nE nR nB A)), (A 12, cA g 5 FL), (A 13, cA g 5 DP), (A 14, cA g 5 SH), (A 39, cA g 3 MC), (A 40, cA g 36 MW), (A 41, cA g 36 MU)] 0 0 [(5, vi i), (3, vl acc), (0, .ref ko), (1, vi y), (2, vi q)] 5 [] := by
    intro f
    induction f with
    | zero => intro acc i hI5 hf; exact absurd hf (Nat.not_lt_zero _)
    | succ f ih5 =>
      intro acc i hI5 hf5
      refine g_iload C 0 dX10_weighed_5 rfl ?_
      refine g_aload_n C 2 dX10_weighed_7 rfl ?_
      refine g_getf C k_X10 39 f_X10_100 0 rfl rfl (by decide) rfl rfl dX10_weighed_8 ?_
      refine g_iload_n C 4 dX10_weighed_11 rfl ?_
      refine g_iald C 4 rfl (by omega) dX10_weighed_12 ?_
      have r1_12 := hMC q
      have hc9 := hMC q
      refine g_icmp_ge C 48 dX10_weighed_13 (by decide) (by omega) (by omega) (fun c13 => ?_) (fun c13 => ?_)
      · have hc7 := hMC q
        refine g_lload_n C 1 dX10_weighed_48 rfl ?_
        exact g_lretM C hR dX10_weighed_49 (by rw [hI5.2.2, show i = MC q by omega] <;> rfl) rfl rfl
      have hc8 := hMC q
      have hm9 := mpy_r (FL := FL) hDP hSH Q MU q y i
      refine g_lload_n C 1 dX10_weighed_16 rfl ?_
      refine g_aload_n C 2 dX10_weighed_17 rfl ?_
      refine g_getf C k_X10 40 f_X10_103 0 rfl rfl (by decide) rfl rfl dX10_weighed_18 ?_
      refine g_bipush C dX10_weighed_21 (by decide) ?_
      refine g_iload_n C 4 dX10_weighed_23 rfl ?_
      refine g_imul C dX10_weighed_24 ?_
      refine g_iload C 0 dX10_weighed_25 rfl ?_
      refine g_iadd C dX10_weighed_27 ?_
      refine g_iald C 5 rfl (by omega) dX10_weighed_28 ?_
      have r2_28 := hMW ((12 * q) + i)
      refine g_i2l C dX10_weighed_29 (by omega) ?_
      refine g_aload_n C 2 dX10_weighed_30 rfl ?_
      refine g_iload_n C 3 dX10_weighed_31 rfl ?_
      refine g_iload_n C 4 dX10_weighed_32 rfl ?_
      refine g_iload C 0 dX10_weighed_33 rfl ?_
      refine g_callVp C [vi y, vi q, vi i] [vl (MW ((12 * q) + i)), vl acc] (c_X10_paysFor x.1.2.1 g ko A th hr nL nO Q nY nE nR nB FL DP SH MU y q i hFL hDP hSH hQ hMU hq3 hy5 (by omega) hy hq (by omega)) y_X10_paysFor l_X10_291 [0, 1, 2, 3, 6] rfl (by decide) 0 rfl rfl rfl (Nat.le_of_ble_eq_true rfl) rfl (by decide) dX10_weighed_35 ?_
      refine g_i2l C dX10_weighed_38 (by omega) ?_
      refine g_lmul C dX10_weighed_39 ?_
      refine g_ladd C dX10_weighed_40 ?_
      refine g_lstore_n C [(3, vl (acc + ((MW ((12 * q) + i)) * (mpy FL DP SH Q MU q y i)))), (5, vi i), (0, .ref ko), (1, vi y), (2, vi q)] dX10_weighed_41 (by decide) rfl ?_
      refine g_iinc C 1 [(5, vi (i + 1)), (3, vl (acc + ((MW ((12 * q) + i)) * (mpy FL DP SH Q MU q y i)))), (0, .ref ko), (1, vi y), (2, vi q)] dX10_weighed_42 rfl (by decide) rfl ?_
      refine g_goto C 5 dX10_weighed_45 (by decide) ?_
      exact ih5 (acc + ((MW ((12 * q) + i)) * (mpy FL DP SH Q MU q y i))) (i + 1) ⟨by omega, by omega, by rw [sm_s _ (by omega), ← hI5.2.2]; unfold wpy; rw [show q * 12 + i = 12 * q + i by omega]⟩ (by omega)
  exact L5 _ 0 0 ⟨by omega, (hMC q).1, rfl⟩ (Nat.lt_succ_self _)

theorem twt_pos {MW MC : Int → Int} (hMW : ∀ k, 0 ≤ MW k ∧ MW k ≤ 99) {q : Int} (h1 : ∀ k, 0 ≤ k → k < MC q → 1 ≤ MW (q * 12 + k)) (hc : 1 ≤ MC q) : 1 ≤ sm (twt MW q) (MC q) := by
  have h := sm_mono (F := twt MW q) (n := MC q) (fun k _ _ => (hMW _).1) (a := 1) (b := MC q) (by omega) hc (Int.le_refl _)
  have e : sm (twt MW q) 1 = MW (q * 12 + 0) := by
    have := sm_s (twt MW q) (i := 0) (by omega)
    rw [Int.zero_add, sm_0] at this; rw [this]; show 0 + MW (q * 12 + 0) = _; omega
  have := h1 0 (by omega) (by omega)
  omega

set_option maxHeartbeats 4000000 in
set_option maxRecDepth 100000 in
theorem c_X10_price (l : Launch) (g : gD) (ko : Nat) (A : Nat → Nat) (th : Int) (hr : Int) (nL : Int) (nO : Int) (Q : Int) (nY : Int) (nE : Int) (nR : Int) (nB : Int) (FL : Int → Int) (DP : Int → Int) (SH : Int → Int) (MC : Int → Int) (MW : Int → Int) (MU : Int → Int) (y : Int) (q : Int) (hFL : ∀ k, 0 ≤ FL k ∧ FL k ≤ 999999) (hDP : ∀ k, 0 ≤ DP k ∧ DP k ≤ 999999) (hSH : ∀ k, 0 ≤ SH k ∧ SH k ≤ 100) (hnY : 0 ≤ nY ∧ nY ≤ 5) (hQ : 0 ≤ Q ∧ Q ≤ 90) (hMW : ∀ k, 0 ≤ MW k ∧ MW k ≤ 99) (hMU : ∀ k, 0 ≤ MU k ∧ MU k ≤ 999999) (hMC : ∀ k, 0 ≤ MC k ∧ MC k ≤ 12) (hMW1 : ∀ q k, 0 ≤ q → q < 3 → 0 ≤ k → k < MC q → 1 ≤ MW (q * 12 + k)) (hy : -2147483648 ≤ y ∧ y < 2147483648) (hq : -2147483648 ≤ q ∧ q < 2147483648) : gMet l g yX10_price cX10_price 4 (some .long) 3 0 0 72 [.ref ko, vi y, vi q] [(ko, cO 10 (kF th hr nL nO Q nY nE nR nB A)), (A 12, cA g 5 FL), (A 13, cA g 5 DP), (A 14, cA g 5 SH), (A 39, cA g 3 MC), (A 40, cA g 36 MW), (A 41, cA g 36 MU)] (fun v9 w9 => ((((0 ≤ y ∧ y < nY) ∧ (0 ≤ q ∧ q ≤ 2)) ∧ 0 < MC q) ∧ v9 = some (vl (1000 * sm (wpy FL DP SH Q MW MU q y) (MC q) / sm (twt MW q) (MC q))) ∧ w9 = [(ko, cO 10 (kF 0 hr nL nO Q nY nE nR nB A)), (A 12, cA g 5 FL), (A 13, cA g 5 DP), (A 14, cA g 5 SH), (A 39, cA g 3 MC), (A 40, cA g 36 MW), (A 41, cA g 36 MU)]) ∨ ((¬ ((0 ≤ y ∧ y < nY) ∧ (0 ≤ q ∧ q ≤ 2))) ∧ v9 = some (vl 0) ∧ w9 = [(ko, cO 10 (kF 1 hr nL nO Q nY nE nR nB A)), (A 12, cA g 5 FL), (A 13, cA g 5 DP), (A 14, cA g 5 SH), (A 39, cA g 3 MC), (A 40, cA g 36 MW), (A 41, cA g 36 MU)]) ∨ ((((0 ≤ y ∧ y < nY) ∧ (0 ≤ q ∧ q ≤ 2)) ∧ MC q ≤ 0) ∧ v9 = some (vl 0) ∧ w9 = [(ko, cO 10 (kF 2 hr nL nO Q nY nE nR nB A)), (A 12, cA g 5 FL), (A 13, cA g 5 DP), (A 14, cA g 5 SH), (A 39, cA g 3 MC), (A 40, cA g 36 MW), (A 41, cA g 36 MU)])) := by
  refine gMet.of y_X10_price.2.2.2.2.1 (Nat.le_of_ble_eq_true rfl) ?_
  intro x hlx C hR hnm
  subst hlx
  have C : gC g x RX10 cX10_price 4 3 0 0 72 := C
  show gW g x [(ko, cO 10 (kF th hr nL nO Q nY nE nR nB A)), (A 12, cA g 5 FL), (A 13, cA g 5 DP), (A 14, cA g 5 SH), (A 39, cA g 3 MC), (A 40, cA g 36 MW), (A 41, cA g 36 MU)] 0 0 [(0, .ref ko), (1, vi y), (2, vi q)] 0 []
  have J20 : ∀ (w0 : Int), (w0 = if (0 ≤ y ∧ y < nY) ∧ (0 ≤ q ∧ q ≤ 2) then 1 else 0) → gW g x [(ko, cO 10 (kF th hr nL nO Q nY nE nR nB A)), (A 12, cA g 5 FL), (A 13, cA g 5 DP), (A 14, cA g 5 SH), (A 39, cA g 3 MC), (A 40, cA g 36 MW), (A 41, cA g 36 MU)] 0 0 [(0, .ref ko), (1, vi y), (2, vi q)] 20 [vi w0] := by
    intro w0 hJ20
    refine g_istore_n C [(3, vi w0), (0, .ref ko), (1, vi y), (2, vi q)] dX10_price_20 (by decide) rfl ?_
    refine g_aload_n C 1 dX10_price_21 rfl ?_
    have J44 : ∀ (cd : Int), ((cd = 0 ∧ ((0 ≤ y ∧ y < nY) ∧ (0 ≤ q ∧ q ≤ 2)) ∧ 0 < MC q) ∨ (cd = 1 ∧ ¬ ((0 ≤ y ∧ y < nY) ∧ (0 ≤ q ∧ q ≤ 2))) ∨ (cd = 2 ∧ ((0 ≤ y ∧ y < nY) ∧ (0 ≤ q ∧ q ≤ 2)) ∧ MC q ≤ 0)) → gW g x [(ko, cO 10 (kF th hr nL nO Q nY nE nR nB A)), (A 12, cA g 5 FL), (A 13, cA g 5 DP), (A 14, cA g 5 SH), (A 39, cA g 3 MC), (A 40, cA g 36 MW), (A 41, cA g 36 MU)] 0 0 [(3, vi w0), (0, .ref ko), (1, vi y), (2, vi q)] 44 [vi cd, .ref ko] := by
      intro cd hJ44
      refine g_callV C [vi cd] [] (c_X10_goesWell x.1.2.1 g ko A th hr nL nO Q nY nE nR nB cd (by omega)) y_X10_goesWell l_X10_156 [0] rfl (by decide) 0 rfl rfl rfl (Nat.le_of_ble_eq_true rfl) rfl (by decide) dX10_price_44 (fun v9 w9 hp9 => ?_)
      obtain ⟨rfl, rfl⟩ := hp9
      simp only [putAll, List.set_cons_succ, List.set_cons_zero, List.cons_append, List.nil_append, List.append_nil, Option.toList]
      show gW g x [(ko, cO 10 (kF cd hr nL nO Q nY nE nR nB A)), (A 12, cA g 5 FL), (A 13, cA g 5 DP), (A 14, cA g 5 SH), (A 39, cA g 3 MC), (A 40, cA g 36 MW), (A 41, cA g 36 MU)] 0 0 [(3, vi w0), (0, .ref ko), (1, vi y), (2, vi q)] 47 [vi (if cd = 0 then 1 else 0)]
      refine g_if_ne C 52 dX10_price_47 (by decide) (by omega) (fun c47 => ?_) (fun c47 => ?_)
      · obtain ⟨rfl, hok⟩ : cd = 0 ∧ (((0 ≤ y ∧ y < nY) ∧ (0 ≤ q ∧ q ≤ 2)) ∧ 0 < MC q) := by
          rcases hJ44 with ⟨e9, h9⟩ | ⟨e9, h9⟩ | ⟨e9, h9⟩
          · exact ⟨e9, h9⟩
          · exfalso; omega
          · exfalso; omega
        refine g_ldc2 C (1000) n_X10_295 (by decide) dX10_price_52 ?_
        refine g_aload_n C 1 dX10_price_55 rfl ?_
        refine g_iload_n C 2 dX10_price_56 rfl ?_
        refine g_iload_n C 3 dX10_price_57 rfl ?_
        refine g_callVp C [vi y, vi q] [vl 1000] (c_X10_weighed x.1.2.1 g ko A 0 hr nL nO Q nY nE nR nB FL DP SH MC MW MU y q hFL hDP hSH hQ hMW hMU hMC (by omega) (by omega) hy hq) y_X10_weighed l_X10_297 [0, 1, 2, 3, 4, 5, 6] rfl (by decide) 0 rfl rfl rfl (Nat.le_of_ble_eq_true rfl) rfl (by decide) dX10_price_58 ?_
        refine g_lmul C dX10_price_61 ?_
        refine g_aload_n C 1 dX10_price_62 rfl ?_
        refine g_iload_n C 3 dX10_price_63 rfl ?_
        refine g_callVp C [vi q] [vl (1000 * (sm (wpy FL DP SH Q MW MU q y) (MC q)))] (c_X10_weights x.1.2.1 g ko A 0 hr nL nO Q nY nE nR nB MC MW q hMW hMC (by omega) hq) y_X10_weights l_X10_301 [0, 4, 5] rfl (by decide) 0 rfl rfl rfl (Nat.le_of_ble_eq_true rfl) rfl (by decide) dX10_price_64 ?_
        have hc9 := hMC q
        have ht9 := twt_r hMW q hc9
        have ht8 := twt_pos hMW (fun k => hMW1 q k (by omega) (by omega)) (by omega)
        have hp9 := wpy_r (FL := FL) hMW hDP hSH Q MU q y hc9
        refine g_ldiv C dX10_price_67 (by omega) (by omega) ?_
        exact g_lret C hR dX10_price_68 (Or.inl ⟨hok, rfl, rfl⟩) rfl
      refine g_lconst C dX10_price_50 0 (by decide) ?_
      rcases hJ44 with ⟨e9, h9⟩ | ⟨e9, h9⟩ | ⟨e9, h9⟩
      · exfalso; omega
      · subst e9; exact g_lret C hR dX10_price_51 (Or.inr (Or.inl ⟨h9, rfl, rfl⟩)) rfl
      · subst e9; exact g_lret C hR dX10_price_51 (Or.inr (Or.inr (⟨h9, rfl, rfl⟩))) rfl
    refine g_iload_n C 0 dX10_price_22 rfl ?_
    refine g_if_ne C 30 dX10_price_23 (by decide) (by omega) (fun c23 => ?_) (fun c23 => ?_)
    · refine g_aload_n C 1 dX10_price_30 rfl ?_
      refine g_getf C k_X10 39 f_X10_100 0 rfl rfl (by decide) rfl rfl dX10_price_31 ?_
      refine g_iload_n C 3 dX10_price_34 rfl ?_
      refine g_iald C 4 rfl (by omega) dX10_price_35 ?_
      have r1_35 := hMC q
      refine g_if_le C 43 dX10_price_36 (by decide) (by omega) (fun c36 => ?_) (fun c36 => ?_)
      · refine g_iconst C dX10_price_43 ?_
        exact J44 2 (by omega)
      refine g_iconst C dX10_price_39 ?_
      refine g_goto C 44 dX10_price_40 (by decide) ?_
      exact J44 0 (by omega)
    refine g_iconst C dX10_price_26 ?_
    refine g_goto C 44 dX10_price_27 (by decide) ?_
    exact J44 1 (by omega)
  refine g_aload_n C 0 dX10_price_0 rfl ?_
  refine g_iload_n C 1 dX10_price_1 rfl ?_
  refine g_callVp C [vi y] [] (c_X10_isLayer x.1.2.1 g ko A th hr nL nO Q nY nE nR nB y hnY hy) y_X10_isLayer l_X10_179 [0] rfl (by decide) 0 rfl rfl rfl (Nat.le_of_ble_eq_true rfl) rfl (by decide) dX10_price_2 ?_
  refine g_if_eq C 19 dX10_price_5 (by decide) (by omega) (fun c5 => ?_) (fun c5 => ?_)
  · refine g_iconst C dX10_price_19 ?_
    exact J20 0 (by omega)
  refine g_iload_n C 2 dX10_price_8 rfl ?_
  refine g_callSp C [vi q] [] (c_X10_isModel x.1.2.1 g q hq) y_X10_isModel l_X10_210 [] rfl (by decide) rfl (Nat.le_of_ble_eq_true rfl) rfl (by decide) dX10_price_9 ?_
  refine g_if_eq C 19 dX10_price_12 (by decide) (by omega) (fun c12 => ?_) (fun c12 => ?_)
  · refine g_iconst C dX10_price_19 ?_
    exact J20 0 (by omega)
  refine g_iconst C dX10_price_15 ?_
  refine g_goto C 20 dX10_price_16 (by decide) ?_
  exact J20 1 (by omega)

set_option maxHeartbeats 4000000 in
set_option maxRecDepth 100000 in
theorem c_X10_isTail (l : Launch) (g : gD) (ko : Nat) (A : Nat → Nat) (th : Int) (hr : Int) (nL : Int) (nO : Int) (Q : Int) (nY : Int) (nE : Int) (nR : Int) (nB : Int) (FL : Int → Int) (DP : Int → Int) (SH : Int → Int) (MC : Int → Int) (MW : Int → Int) (MU : Int → Int) (y : Int) (q : Int) (v : Int) (u : Int) (hFL : ∀ k, 0 ≤ FL k ∧ FL k ≤ 999999) (hDP : ∀ k, 0 ≤ DP k ∧ DP k ≤ 999999) (hSH : ∀ k, 0 ≤ SH k ∧ SH k ≤ 100) (hQ : 0 ≤ Q ∧ Q ≤ 90) (hMW : ∀ k, 0 ≤ MW k ∧ MW k ≤ 99) (hMU : ∀ k, 0 ≤ MU k ∧ MU k ≤ 999999) (hMC : ∀ k, 0 ≤ MC k ∧ MC k ≤ 12) (hq3 : 0 ≤ q ∧ q < 3) (hy5 : 0 ≤ y ∧ y < 5) (hu9 : 0 ≤ u ∧ u ≤ 99) (hy : -2147483648 ≤ y ∧ y < 2147483648) (hq : -2147483648 ≤ q ∧ q < 2147483648) (hv : -2147483648 ≤ v ∧ v < 2147483648) (hu : -2147483648 ≤ u ∧ u < 2147483648) : gMet l g yX10_isTail cX10_isTail 8 (some .boolean) 2 0 0 47 [.ref ko, vi y, vi q, vi v, vi u] [(ko, cO 10 (kF th hr nL nO Q nY nE nR nB A)), (A 12, cA g 5 FL), (A 13, cA g 5 DP), (A 14, cA g 5 SH), (A 39, cA g 3 MC), (A 40, cA g 36 MW), (A 41, cA g 36 MU)] (gM (some (vi (if 100 * sm (wab FL DP SH Q MW MU q y v) (MC q) ≤ u * sm (twt MW q) (MC q) then 1 else 0))) [(ko, cO 10 (kF th hr nL nO Q nY nE nR nB A)), (A 12, cA g 5 FL), (A 13, cA g 5 DP), (A 14, cA g 5 SH), (A 39, cA g 3 MC), (A 40, cA g 36 MW), (A 41, cA g 36 MU)]) := by
  refine gMet.of y_X10_isTail.2.2.2.2.1 (Nat.le_of_ble_eq_true rfl) ?_
  intro x hlx C hR hnm
  subst hlx
  have C : gC g x RX10 cX10_isTail 8 2 0 0 47 := C
  show gW g x [(ko, cO 10 (kF th hr nL nO Q nY nE nR nB A)), (A 12, cA g 5 FL), (A 13, cA g 5 DP), (A 14, cA g 5 SH), (A 39, cA g 3 MC), (A 40, cA g 36 MW), (A 41, cA g 36 MU)] 0 0 [(0, .ref ko), (1, vi y), (2, vi q), (3, vi v), (4, vi u)] 0 []
  refine g_lconst C dX10_isTail_0 0 (by decide) ?_
  refine g_lstore C [(5, vl 0), (0, .ref ko), (1, vi y), (2, vi q), (3, vi v), (4, vi u)] dX10_isTail_1 (by decide) rfl ?_
  refine g_iconst C dX10_isTail_3 ?_
  refine g_istore C [(7, vi 0), (5, vl 0), (0, .ref ko), (1, vi y), (2, vi q), (3, vi v), (4, vi u)] dX10_isTail_4 (by decide) rfl ?_
  have L6 : ∀ (f : Nat) (su : Int) (i : Int), (0 ≤ i ∧ i ≤ MC q ∧ su = sm (wab FL DP SH Q MW MU q y v) i) → (MC q - i).toNat < f → gW g x [(ko, cO 10 (kF th hr nL nO Q nY nE nR nB A)), (A 12, cA g 5 FL), (A 13, cA g 5 DP), (A 14, cA g 5 SH), (A 39, cA g 3 MC), (A 40, cA g 36 MW), (A 41, cA g 36 MU)] 0 0 [(7, vi i), (5, vl su), (0, .ref ko), (1, vi y), (2, vi q), (3, vi v), (4, vi u)] 6 [] := by
    intro f
    induction f with
    | zero => intro su i hI6 hf; exact absurd hf (Nat.not_lt_zero _)
    | succ f ih6 =>
      intro su i hI6 hf6
      obtain ⟨hi0, hi1, hsu⟩ := hI6
      have hm9 := mpy_r (FL := FL) hDP hSH Q MU q y i
      have hc8 := hMC q
      refine g_iload C 0 dX10_isTail_6 rfl ?_
      refine g_aload_n C 2 dX10_isTail_8 rfl ?_
      refine g_getf C k_X10 39 f_X10_100 0 rfl rfl (by decide) rfl rfl dX10_isTail_9 ?_
      refine g_iload_n C 4 dX10_isTail_12 rfl ?_
      refine g_iald C 4 rfl (by omega) dX10_isTail_13 ?_
      have r1_13 := hMC q
      refine g_icmp_ge C 57 dX10_isTail_14 (by decide) (by omega) (by omega) (fun c14 => ?_) (fun c14 => ?_)
      · have hw8 := wab_r hMW FL DP SH Q MU q y v hc8
        have ht9 := twt_r hMW q hc8
        have hu8 := mul_rng hu9 ht9
        have hsx : su = sm (wab FL DP SH Q MW MU q y v) (MC q) := by rw [hsu, show i = MC q by omega]
        refine g_ldc2 C (100) n_X10_173 (by decide) dX10_isTail_57 ?_
        refine g_lload C 1 dX10_isTail_60 rfl ?_
        refine g_lmul C dX10_isTail_62 ?_
        refine g_iload C 6 dX10_isTail_63 rfl ?_
        refine g_i2l C dX10_isTail_65 (by omega) ?_
        refine g_aload_n C 2 dX10_isTail_66 rfl ?_
        refine g_iload_n C 4 dX10_isTail_67 rfl ?_
        refine g_callVp C [vi q] [vl u, vl (100 * su)] (c_X10_weights x.1.2.1 g ko A th hr nL nO Q nY nE nR nB MC MW q hMW hMC hq3 hq) y_X10_weights l_X10_301 [0, 4, 5] rfl (by decide) 0 rfl rfl rfl (Nat.le_of_ble_eq_true rfl) rfl (by decide) dX10_isTail_68 ?_
        refine g_lmul C dX10_isTail_71 ?_
        refine g_lcmp C dX10_isTail_72 (by omega) (by omega) ?_
        refine g_if_gt C 80 dX10_isTail_73 (by decide) (by omega) (fun c73 => ?_) (fun c73 => ?_)
        · refine g_iconst C dX10_isTail_80 ?_
          exact g_zretM C hR dX10_isTail_81 (by omega) (by subst hsx; first | rfl | omega) rfl rfl
        refine g_iconst C dX10_isTail_76 ?_
        refine g_goto C 81 dX10_isTail_77 (by decide) ?_
        exact g_zretM C hR dX10_isTail_81 (by omega) (by subst hsx; first | rfl | omega) rfl rfl
      refine g_lload C 1 dX10_isTail_17 rfl ?_
      have J48 : ∀ (w9 : Int), (w9 = wab FL DP SH Q MW MU q y v i) → gW g x [(ko, cO 10 (kF th hr nL nO Q nY nE nR nB A)), (A 12, cA g 5 FL), (A 13, cA g 5 DP), (A 14, cA g 5 SH), (A 39, cA g 3 MC), (A 40, cA g 36 MW), (A 41, cA g 36 MU)] 0 0 [(7, vi i), (5, vl su), (0, .ref ko), (1, vi y), (2, vi q), (3, vi v), (4, vi u)] 48 [vl w9, vl su] := by
        intro w9 hJ48
        refine g_ladd C dX10_isTail_48 ?_
        refine g_lstore C [(5, vl (su + w9)), (7, vi i), (0, .ref ko), (1, vi y), (2, vi q), (3, vi v), (4, vi u)] dX10_isTail_49 (by decide) rfl ?_
        refine g_iinc C 1 [(7, vi (i + 1)), (5, vl (su + w9)), (0, .ref ko), (1, vi y), (2, vi q), (3, vi v), (4, vi u)] dX10_isTail_51 rfl (by decide) rfl ?_
        refine g_goto C 6 dX10_isTail_54 (by decide) ?_
        exact ih6 (su + w9) (i + 1) ⟨by omega, by omega, by rw [sm_s _ hi0, ← hsu, hJ48]⟩ (by omega)
      refine g_aload_n C 2 dX10_isTail_19 rfl ?_
      refine g_iload_n C 3 dX10_isTail_20 rfl ?_
      refine g_iload_n C 4 dX10_isTail_21 rfl ?_
      refine g_iload C 0 dX10_isTail_22 rfl ?_
      refine g_callVp C [vi y, vi q, vi i] [vl su] (c_X10_paysFor x.1.2.1 g ko A th hr nL nO Q nY nE nR nB FL DP SH MU y q i hFL hDP hSH hQ hMU hq3 hy5 (by omega) hy hq (by omega)) y_X10_paysFor l_X10_291 [0, 1, 2, 3, 6] rfl (by decide) 0 rfl rfl rfl (Nat.le_of_ble_eq_true rfl) rfl (by decide) dX10_isTail_24 ?_
      refine g_iload_n C 5 dX10_isTail_27 rfl ?_
      refine g_icmp_le C 47 dX10_isTail_28 (by decide) (by omega) (by omega) (fun c28 => ?_) (fun c28 => ?_)
      · refine g_lconst C dX10_isTail_47 0 (by decide) ?_
        exact J48 0 (by unfold wab; first | (rw [if_pos (by omega), show q * 12 + i = 12 * q + i by omega]; done) | (rw [if_neg (by omega)]; done))
      refine g_aload_n C 2 dX10_isTail_31 rfl ?_
      refine g_getf C k_X10 40 f_X10_103 0 rfl rfl (by decide) rfl rfl dX10_isTail_32 ?_
      refine g_bipush C dX10_isTail_35 (by decide) ?_
      refine g_iload_n C 4 dX10_isTail_37 rfl ?_
      refine g_imul C dX10_isTail_38 ?_
      refine g_iload C 0 dX10_isTail_39 rfl ?_
      refine g_iadd C dX10_isTail_41 ?_
      refine g_iald C 5 rfl (by omega) dX10_isTail_42 ?_
      have r2_42 := hMW ((12 * q) + i)
      refine g_i2l C dX10_isTail_43 (by omega) ?_
      refine g_goto C 48 dX10_isTail_44 (by decide) ?_
      exact J48 (MW ((12 * q) + i)) (by unfold wab; first | (rw [if_pos (by omega), show q * 12 + i = 12 * q + i by omega]; done) | (rw [if_neg (by omega)]; done))
  exact L6 _ 0 0 ⟨by omega, (hMC q).1, rfl⟩ (Nat.lt_succ_self _)

/-- the model's way to the tail -/
def mtN (P : Int → Prop) [DecidablePred P] (pay : Int → Int) : Nat → Int
  | 0 => if P 0 then 0 else -1
  | n + 1 => if P (pay n) ∧ (mtN P pay n = -1 ∨ pay n < mtN P pay n) then pay n else mtN P pay n
def mt9 (P : Int → Prop) [DecidablePred P] (pay : Int → Int) (n : Int) : Int := mtN P pay n.toNat
theorem mt9_s (P : Int → Prop) [DecidablePred P] (pay : Int → Int) {n : Int} (h : 0 ≤ n) : mt9 P pay (n + 1) = if P (pay n) ∧ (mt9 P pay n = -1 ∨ pay n < mt9 P pay n) then pay n else mt9 P pay n := by
  obtain ⟨k, rfl⟩ : ∃ k : Nat, n = k := ⟨n.toNat, by omega⟩
  have e : ((k : Int) + 1).toNat = k + 1 := by omega
  have e2 : (k : Int).toNat = k := by omega
  simp only [mt9, e, e2, mtN]
theorem mt9_r {P : Int → Prop} [DecidablePred P] {pay : Int → Int} (hp : ∀ k, 0 ≤ pay k ∧ pay k ≤ 999999) {n : Int} (h : 0 ≤ n) : -1 ≤ mt9 P pay n ∧ mt9 P pay n ≤ 999999 := by
  refine sm_ind (P := fun n => -1 ≤ mt9 P pay n ∧ mt9 P pay n ≤ 999999) ?_ (fun i hi ih => ?_) n h
  · show -1 ≤ (if P 0 then (0 : Int) else -1) ∧ (if P 0 then (0 : Int) else -1) ≤ 999999; split <;> omega
  · have := hp i; rw [mt9_s _ _ hi]; split <;> omega
theorem max_ex {F : Int → Int} {n : Int} (h : 1 ≤ n) : ∃ k, 0 ≤ k ∧ k < n ∧ ∀ j, 0 ≤ j → j < n → F j ≤ F k := by
  have := sm_ind (P := fun d => ∃ k, 0 ≤ k ∧ k < d + 1 ∧ ∀ j, 0 ≤ j → j < d + 1 → F j ≤ F k) ⟨0, by omega, by omega, fun j h0 h1 => by rw [show j = 0 by omega]; exact Int.le_refl _⟩ (fun i hi ⟨k, k0, k1, k2⟩ => by
    by_cases q : F (i + 1) ≤ F k
    · refine ⟨k, k0, by omega, fun j j0 j1 => ?_⟩
      by_cases e : j = i + 1
      · subst e; exact q
      · exact k2 j j0 (by omega)
    · refine ⟨i + 1, by omega, by omega, fun j j0 j1 => ?_⟩
      by_cases e : j = i + 1
      · subst e; exact Int.le_refl _
      · have := k2 j j0 (by omega); omega) (n - 1) (by omega)
  rw [show n - 1 + 1 = n by omega] at this
  exact this
theorem sm_zero {F : Int → Int} {n : Int} (hn : 0 ≤ n) (h : ∀ k, 0 ≤ k → k < n → F k = 0) : sm F n = 0 := by rw [sm_congr (G := fun _ => 0) hn h, sm_const0 hn]
theorem mt9_lb {FL DP SH : Int → Int} {Q : Int} {MW MU : Int → Int} {q y N u : Int} (hDP : ∀ k, 0 ≤ DP k ∧ DP k ≤ 999999) (hSH : ∀ k, 0 ≤ SH k ∧ SH k ≤ 100) (hN : 1 ≤ N) (hu : 0 ≤ u ∧ u ≤ 99) (hT : 1 ≤ sm (twt MW q) N) : mt9 (fun x => 100 * sm (wab FL DP SH Q MW MU q y x) N ≤ u * sm (twt MW q) N) (mpy FL DP SH Q MU q y) N = lb9 FL DP SH Q MW MU q y N (u * sm (twt MW q) N) N := by
  have hr := mpy_r (FL := FL) hDP hSH Q MU q y
  have hut : 0 ≤ u * sm (twt MW q) N := Int.mul_nonneg hu.1 (by omega)
  by_cases p0 : 100 * sm (wab FL DP SH Q MW MU q y 0) N ≤ u * sm (twt MW q) N
  · have hz : ∃ k, 0 ≤ k ∧ k < N ∧ mpy FL DP SH Q MU q y k = 0 := by
      refine Classical.byContradiction fun hx => ?_
      have e : sm (wab FL DP SH Q MW MU q y 0) N = sm (twt MW q) N := sm_congr (by omega) (fun k k0 k1 => by
        have := hr k
        unfold wab; rw [if_pos]; rfl
        by_cases w : mpy FL DP SH Q MU q y k = 0
        · exact absurd ⟨k, k0, k1, w⟩ hx
        · omega)
      rw [e] at p0
      have h9 := Int.mul_le_mul_of_nonneg_right hu.2 (show 0 ≤ sm (twt MW q) N by omega)
      omega
    have m0 : mt9 (fun x => 100 * sm (wab FL DP SH Q MW MU q y x) N ≤ u * sm (twt MW q) N) (mpy FL DP SH Q MU q y) N = 0 := by
      refine sm_ind (P := fun n => mt9 (fun x => 100 * sm (wab FL DP SH Q MW MU q y x) N ≤ u * sm (twt MW q) N) (mpy FL DP SH Q MU q y) n = 0) (if_pos p0) (fun i hi ih => ?_) N (by omega)
      have := hr i
      rw [mt9_s _ _ hi, ih, if_neg (by omega)]
    obtain ⟨k, k0, k1, k2⟩ := hz
    have l0 := sm_ind (P := fun n => 0 ≤ lb9 FL DP SH Q MW MU q y N (u * sm (twt MW q) N) n ∧ (k < n → lb9 FL DP SH Q MW MU q y N (u * sm (twt MW q) N) n = 0)) ⟨by show (0 : Int) ≤ 999999; omega, fun z => by omega⟩ (fun i hi ⟨ih1, ih2⟩ => by
      have := hr i
      rw [lb9_s _ _ _ _ _ _ _ _ _ _ hi]
      refine ⟨by split <;> omega, fun z => ?_⟩
      by_cases e : i = k
      · subst e
        rw [k2]
        by_cases w : 0 < lb9 FL DP SH Q MW MU q y N (u * sm (twt MW q) N) i
        · rw [if_pos ⟨w, p0⟩]
        · rw [if_neg (fun z => w z.1)]; omega
      · have := ih2 (by omega); rw [if_neg (by omega)]; exact this) N (by omega)
    rw [m0, l0.2 k1]
  · have key := sm_ind (P := fun n => n ≤ N → (mt9 (fun x => 100 * sm (wab FL DP SH Q MW MU q y x) N ≤ u * sm (twt MW q) N) (mpy FL DP SH Q MU q y) n = -1 ∧ lb9 FL DP SH Q MW MU q y N (u * sm (twt MW q) N) n = 999999 ∧ ∀ k, 0 ≤ k → k < n → ¬ 100 * sm (wab FL DP SH Q MW MU q y (mpy FL DP SH Q MU q y k)) N ≤ u * sm (twt MW q) N) ∨ (mt9 (fun x => 100 * sm (wab FL DP SH Q MW MU q y x) N ≤ u * sm (twt MW q) N) (mpy FL DP SH Q MU q y) n = lb9 FL DP SH Q MW MU q y N (u * sm (twt MW q) N) n ∧ 0 ≤ lb9 FL DP SH Q MW MU q y N (u * sm (twt MW q) N) n)) (fun _ => Or.inl ⟨if_neg p0, rfl, fun k a b => by omega⟩) (fun i hi ih hiN => by
      have h9 := hr i
      rw [mt9_s _ _ hi, lb9_s _ _ _ _ _ _ _ _ _ _ hi]
      by_cases p : 100 * sm (wab FL DP SH Q MW MU q y (mpy FL DP SH Q MU q y i)) N ≤ u * sm (twt MW q) N
      · rcases ih (by omega) with ⟨e1, e2, e3⟩ | ⟨e1, e2⟩
        · right
          rw [e1, e2, if_pos ⟨p, Or.inl rfl⟩]
          by_cases w : mpy FL DP SH Q MU q y i < 999999
          · rw [if_pos ⟨w, p⟩]; omega
          · rw [if_neg (fun z => w z.1)]; omega
        · right
          rw [e1]
          by_cases w : mpy FL DP SH Q MU q y i < lb9 FL DP SH Q MW MU q y N (u * sm (twt MW q) N) i
          · rw [if_pos ⟨p, Or.inr w⟩, if_pos ⟨w, p⟩]; omega
          · rw [if_neg (by omega), if_neg (fun z => w z.1)]; omega
      · rw [if_neg (fun z => p z.1), if_neg (fun z => p z.2)]
        rcases ih (by omega) with ⟨e1, e2, e3⟩ | e
        · refine Or.inl ⟨e1, e2, fun k k0 k1 => ?_⟩
          by_cases w : k = i
          · subst w; exact p
          · exact e3 k k0 (by omega)
        · exact Or.inr e) N (by omega)
    rcases key (Int.le_refl _) with ⟨e1, e2, e3⟩ | ⟨e, _⟩
    · obtain ⟨k, k0, k1, k2⟩ := max_ex (F := mpy FL DP SH Q MU q y) hN
      refine absurd ?_ (e3 k k0 k1)
      rw [sm_zero (by omega) (fun j j0 j1 => by have := k2 j j0 j1; unfold wab; rw [if_neg (by omega)])]
      omega
    · exact e

set_option maxHeartbeats 4000000 in
set_option maxRecDepth 100000 in
theorem c_X10_tail (l : Launch) (g : gD) (ko : Nat) (A : Nat → Nat) (th : Int) (hr : Int) (nL : Int) (nO : Int) (Q : Int) (nY : Int) (nE : Int) (nR : Int) (nB : Int) (FL : Int → Int) (DP : Int → Int) (SH : Int → Int) (MC : Int → Int) (MW : Int → Int) (MU : Int → Int) (y : Int) (q : Int) (u : Int) (hFL : ∀ k, 0 ≤ FL k ∧ FL k ≤ 999999) (hDP : ∀ k, 0 ≤ DP k ∧ DP k ≤ 999999) (hSH : ∀ k, 0 ≤ SH k ∧ SH k ≤ 100) (hnY : 0 ≤ nY ∧ nY ≤ 5) (hQ : 0 ≤ Q ∧ Q ≤ 90) (hMW : ∀ k, 0 ≤ MW k ∧ MW k ≤ 99) (hMU : ∀ k, 0 ≤ MU k ∧ MU k ≤ 999999) (hMC : ∀ k, 0 ≤ MC k ∧ MC k ≤ 12) (hMW1 : ∀ q k, 0 ≤ q → q < 3 → 0 ≤ k → k < MC q → 1 ≤ MW (q * 12 + k)) (hy : -2147483648 ≤ y ∧ y < 2147483648) (hq : -2147483648 ≤ q ∧ q < 2147483648) (hu : -2147483648 ≤ u ∧ u < 2147483648) : gMet l g yX10_tail cX10_tail 9 (some .int) 3 0 0 74 [.ref ko, vi y, vi q, vi u] [(ko, cO 10 (kF th hr nL nO Q nY nE nR nB A)), (A 12, cA g 5 FL), (A 13, cA g 5 DP), (A 14, cA g 5 SH), (A 39, cA g 3 MC), (A 40, cA g 36 MW), (A 41, cA g 36 MU)] (fun v9 w9 => (((((0 ≤ y ∧ y < nY) ∧ (0 ≤ q ∧ q ≤ 2)) ∧ (0 ≤ u ∧ u ≤ 99)) ∧ 0 < MC q) ∧ v9 = some (vi (lb9 FL DP SH Q MW MU q y (MC q) (u * sm (twt MW q) (MC q)) (MC q))) ∧ w9 = [(ko, cO 10 (kF 0 hr nL nO Q nY nE nR nB A)), (A 12, cA g 5 FL), (A 13, cA g 5 DP), (A 14, cA g 5 SH), (A 39, cA g 3 MC), (A 40, cA g 36 MW), (A 41, cA g 36 MU)]) ∨ ((¬ ((0 ≤ y ∧ y < nY) ∧ (0 ≤ q ∧ q ≤ 2))) ∧ v9 = some (vi 0) ∧ w9 = [(ko, cO 10 (kF 1 hr nL nO Q nY nE nR nB A)), (A 12, cA g 5 FL), (A 13, cA g 5 DP), (A 14, cA g 5 SH), (A 39, cA g 3 MC), (A 40, cA g 36 MW), (A 41, cA g 36 MU)]) ∨ ((((0 ≤ y ∧ y < nY) ∧ (0 ≤ q ∧ q ≤ 2)) ∧ ¬ (0 ≤ u ∧ u ≤ 99)) ∧ v9 = some (vi 0) ∧ w9 = [(ko, cO 10 (kF 2 hr nL nO Q nY nE nR nB A)), (A 12, cA g 5 FL), (A 13, cA g 5 DP), (A 14, cA g 5 SH), (A 39, cA g 3 MC), (A 40, cA g 36 MW), (A 41, cA g 36 MU)]) ∨ (((((0 ≤ y ∧ y < nY) ∧ (0 ≤ q ∧ q ≤ 2)) ∧ (0 ≤ u ∧ u ≤ 99)) ∧ MC q ≤ 0) ∧ v9 = some (vi 0) ∧ w9 = [(ko, cO 10 (kF 3 hr nL nO Q nY nE nR nB A)), (A 12, cA g 5 FL), (A 13, cA g 5 DP), (A 14, cA g 5 SH), (A 39, cA g 3 MC), (A 40, cA g 36 MW), (A 41, cA g 36 MU)])) := by
  refine gMet.of y_X10_tail.2.2.2.2.1 (Nat.le_of_ble_eq_true rfl) ?_
  intro x hlx C hR hnm
  subst hlx
  have C : gC g x RX10 cX10_tail 9 3 0 0 74 := C
  show gW g x [(ko, cO 10 (kF th hr nL nO Q nY nE nR nB A)), (A 12, cA g 5 FL), (A 13, cA g 5 DP), (A 14, cA g 5 SH), (A 39, cA g 3 MC), (A 40, cA g 36 MW), (A 41, cA g 36 MU)] 0 0 [(0, .ref ko), (1, vi y), (2, vi q), (3, vi u)] 0 []
  have J20 : ∀ (w0 : Int), (w0 = if (0 ≤ y ∧ y < nY) ∧ (0 ≤ q ∧ q ≤ 2) then 1 else 0) → gW g x [(ko, cO 10 (kF th hr nL nO Q nY nE nR nB A)), (A 12, cA g 5 FL), (A 13, cA g 5 DP), (A 14, cA g 5 SH), (A 39, cA g 3 MC), (A 40, cA g 36 MW), (A 41, cA g 36 MU)] 0 0 [(0, .ref ko), (1, vi y), (2, vi q), (3, vi u)] 20 [vi w0] := by
    intro w0 hJ20
    refine g_istore C [(4, vi w0), (0, .ref ko), (1, vi y), (2, vi q), (3, vi u)] dX10_tail_20 (by decide) rfl ?_
    refine g_iload_n C 4 dX10_tail_22 rfl ?_
    refine g_iconst C dX10_tail_23 ?_
    refine g_bipush C dX10_tail_24 (by decide) ?_
    refine g_callSp C [vi u, vi 0, vi 99] [] (c_X10_in x.1.2.1 g u 0 99 hu (by omega) (by omega)) y_X10_in l_X10_141 [] rfl (by decide) rfl (Nat.le_of_ble_eq_true rfl) rfl (by decide) dX10_tail_26 ?_
    refine g_istore C [(5, vi (if 0 ≤ u ∧ u ≤ 99 then 1 else 0)), (4, vi w0), (0, .ref ko), (1, vi y), (2, vi q), (3, vi u)] dX10_tail_29 (by decide) rfl ?_
    refine g_aload_n C 2 dX10_tail_31 rfl ?_
    have J64 : ∀ (cd : Int), ((cd = 0 ∧ (((0 ≤ y ∧ y < nY) ∧ (0 ≤ q ∧ q ≤ 2)) ∧ (0 ≤ u ∧ u ≤ 99)) ∧ 0 < MC q) ∨ (cd = 1 ∧ ¬ ((0 ≤ y ∧ y < nY) ∧ (0 ≤ q ∧ q ≤ 2))) ∨ (cd = 2 ∧ ((0 ≤ y ∧ y < nY) ∧ (0 ≤ q ∧ q ≤ 2)) ∧ ¬ (0 ≤ u ∧ u ≤ 99)) ∨ (cd = 3 ∧ (((0 ≤ y ∧ y < nY) ∧ (0 ≤ q ∧ q ≤ 2)) ∧ (0 ≤ u ∧ u ≤ 99)) ∧ MC q ≤ 0)) → gW g x [(ko, cO 10 (kF th hr nL nO Q nY nE nR nB A)), (A 12, cA g 5 FL), (A 13, cA g 5 DP), (A 14, cA g 5 SH), (A 39, cA g 3 MC), (A 40, cA g 36 MW), (A 41, cA g 36 MU)] 0 0 [(5, vi (if 0 ≤ u ∧ u ≤ 99 then 1 else 0)), (4, vi w0), (0, .ref ko), (1, vi y), (2, vi q), (3, vi u)] 64 [vi cd, .ref ko] := by
      intro cd hJ64
      refine g_callV C [vi cd] [] (c_X10_goesWell x.1.2.1 g ko A th hr nL nO Q nY nE nR nB cd (by omega)) y_X10_goesWell l_X10_156 [0] rfl (by decide) 0 rfl rfl rfl (Nat.le_of_ble_eq_true rfl) rfl (by decide) dX10_tail_64 (fun v9 w9 hp9 => ?_)
      obtain ⟨rfl, rfl⟩ := hp9
      simp only [putAll, List.set_cons_succ, List.set_cons_zero, List.cons_append, List.nil_append, List.append_nil, Option.toList]
      show gW g x [(ko, cO 10 (kF cd hr nL nO Q nY nE nR nB A)), (A 12, cA g 5 FL), (A 13, cA g 5 DP), (A 14, cA g 5 SH), (A 39, cA g 3 MC), (A 40, cA g 36 MW), (A 41, cA g 36 MU)] 0 0 [(5, vi (if 0 ≤ u ∧ u ≤ 99 then 1 else 0)), (4, vi w0), (0, .ref ko), (1, vi y), (2, vi q), (3, vi u)] 67 [vi (if cd = 0 then 1 else 0)]
      refine g_if_ne C 72 dX10_tail_67 (by decide) (by omega) (fun c67 => ?_) (fun c67 => ?_)
      · obtain ⟨rfl, hok⟩ : cd = 0 ∧ ((((0 ≤ y ∧ y < nY) ∧ (0 ≤ q ∧ q ≤ 2)) ∧ (0 ≤ u ∧ u ≤ 99)) ∧ 0 < MC q) := by
          rcases hJ64 with ⟨e9, h9⟩ | ⟨e9, h9⟩ | ⟨e9, h9⟩ | ⟨e9, h9⟩
          · exact ⟨e9, h9⟩
          · exfalso; omega
          · exfalso; omega
          · exfalso; omega
        have hc9 := hMC q
        refine g_aload_n C 2 dX10_tail_72 rfl ?_
        refine g_iload_n C 3 dX10_tail_73 rfl ?_
        refine g_iload_n C 4 dX10_tail_74 rfl ?_
        refine g_iconst C dX10_tail_75 ?_
        refine g_iload_n C 5 dX10_tail_76 rfl ?_
        refine g_callVp C [vi y, vi q, vi 0, vi u] [] (c_X10_isTail x.1.2.1 g ko A 0 hr nL nO Q nY nE nR nB FL DP SH MC MW MU y q 0 u hFL hDP hSH hQ hMW hMU hMC (by omega) (by omega) (by omega) hy hq (by omega) hu) y_X10_isTail l_X10_304 [0, 1, 2, 3, 4, 5, 6] rfl (by decide) 0 rfl rfl rfl (Nat.le_of_ble_eq_true rfl) rfl (by decide) dX10_tail_77 ?_
        have J88 : ∀ (fz : Int), (fz = mt9 (fun x => 100 * sm (wab FL DP SH Q MW MU q y x) (MC q) ≤ u * sm (twt MW q) (MC q)) (mpy FL DP SH Q MU q y) 0) → gW g x [(ko, cO 10 (kF 0 hr nL nO Q nY nE nR nB A)), (A 12, cA g 5 FL), (A 13, cA g 5 DP), (A 14, cA g 5 SH), (A 39, cA g 3 MC), (A 40, cA g 36 MW), (A 41, cA g 36 MU)] 0 0 [(5, vi (if 0 ≤ u ∧ u ≤ 99 then 1 else 0)), (4, vi w0), (0, .ref ko), (1, vi y), (2, vi q), (3, vi u)] 88 [vi fz] := by
          intro fz hJ88
          refine g_istore C [(6, vi fz), (5, vi (if 0 ≤ u ∧ u ≤ 99 then 1 else 0)), (4, vi w0), (0, .ref ko), (1, vi y), (2, vi q), (3, vi u)] dX10_tail_88 (by decide) rfl ?_
          refine g_iconst C dX10_tail_90 ?_
          refine g_istore C [(7, vi 0), (6, vi fz), (5, vi (if 0 ≤ u ∧ u ≤ 99 then 1 else 0)), (4, vi w0), (0, .ref ko), (1, vi y), (2, vi q), (3, vi u)] dX10_tail_91 (by decide) rfl ?_
          have L93 : ∀ (f : Nat) (fo : Int) (i : Int), (0 ≤ i ∧ i ≤ MC q ∧ fo = mt9 (fun x => 100 * sm (wab FL DP SH Q MW MU q y x) (MC q) ≤ u * sm (twt MW q) (MC q)) (mpy FL DP SH Q MU q y) i) → (MC q - i).toNat < f → gW g x [(ko, cO 10 (kF 0 hr nL nO Q nY nE nR nB A)), (A 12, cA g 5 FL), (A 13, cA g 5 DP), (A 14, cA g 5 SH), (A 39, cA g 3 MC), (A 40, cA g 36 MW), (A 41, cA g 36 MU)] 0 0 [(7, vi i), (6, vi fo), (5, vi (if 0 ≤ u ∧ u ≤ 99 then 1 else 0)), (4, vi w0), (0, .ref ko), (1, vi y), (2, vi q), (3, vi u)] 93 [] := by
            intro f
            induction f with
            | zero => intro fo i hI93 hf; exact absurd hf (Nat.not_lt_zero _)
            | succ f ih93 =>
              intro fo i hI93 hf93
              obtain ⟨hi0, hi1, hfo⟩ := hI93
              have hm9 := mpy_r (FL := FL) hDP hSH Q MU q y i
              have hc8 := hMC q
              have hfr := mt9_r (P := (fun x => 100 * sm (wab FL DP SH Q MW MU q y x) (MC q) ≤ u * sm (twt MW q) (MC q))) (mpy_r (FL := FL) hDP hSH Q MU q y) hi0
              refine g_iload C 0 dX10_tail_93 rfl ?_
              refine g_aload_n C 4 dX10_tail_95 rfl ?_
              refine g_getf C k_X10 39 f_X10_100 0 rfl rfl (by decide) rfl rfl dX10_tail_96 ?_
              refine g_iload_n C 6 dX10_tail_99 rfl ?_
              refine g_iald C 4 rfl (by omega) dX10_tail_100 ?_
              have r1_100 := hMC q
              refine g_icmp_ge C 154 dX10_tail_101 (by decide) (by omega) (by omega) (fun c101 => ?_) (fun c101 => ?_)
              · refine g_iload C 1 dX10_tail_154 rfl ?_
                exact g_iret C hR dX10_tail_156 (Or.inl ⟨hok, (congrArg (fun z => some (vi z)) (by rw [hfo, show i = MC q by omega]; exact mt9_lb hDP hSH (by omega) hok.1.2 (twt_pos hMW (fun k => hMW1 q k (by omega) (by omega)) (by omega)))), rfl⟩) rfl
              refine g_aload_n C 4 dX10_tail_104 rfl ?_
              refine g_iload_n C 5 dX10_tail_105 rfl ?_
              refine g_iload_n C 6 dX10_tail_106 rfl ?_
              refine g_iload C 0 dX10_tail_107 rfl ?_
              refine g_callVp C [vi y, vi q, vi i] [] (c_X10_paysFor x.1.2.1 g ko A 0 hr nL nO Q nY nE nR nB FL DP SH MU y q i hFL hDP hSH hQ hMU (by omega) (by omega) (by omega) hy hq (by omega)) y_X10_paysFor l_X10_291 [0, 1, 2, 3, 6] rfl (by decide) 0 rfl rfl rfl (Nat.le_of_ble_eq_true rfl) rfl (by decide) dX10_tail_109 ?_
              refine g_istore C [(8, vi (mpy FL DP SH Q MU q y i)), (7, vi i), (6, vi fo), (5, vi (if 0 ≤ u ∧ u ≤ 99 then 1 else 0)), (4, vi w0), (0, .ref ko), (1, vi y), (2, vi q), (3, vi u)] dX10_tail_112 (by decide) rfl ?_
              have J146 : ∀ (f9 : Int), (f9 = mt9 (fun x => 100 * sm (wab FL DP SH Q MW MU q y x) (MC q) ≤ u * sm (twt MW q) (MC q)) (mpy FL DP SH Q MU q y) (i + 1)) → gW g x [(ko, cO 10 (kF 0 hr nL nO Q nY nE nR nB A)), (A 12, cA g 5 FL), (A 13, cA g 5 DP), (A 14, cA g 5 SH), (A 39, cA g 3 MC), (A 40, cA g 36 MW), (A 41, cA g 36 MU)] 0 0 [(8, vi (mpy FL DP SH Q MU q y i)), (7, vi i), (6, vi fo), (5, vi (if 0 ≤ u ∧ u ≤ 99 then 1 else 0)), (4, vi w0), (0, .ref ko), (1, vi y), (2, vi q), (3, vi u)] 146 [vi f9] := by
                intro f9 hJ146
                refine g_istore C [(6, vi f9), (8, vi (mpy FL DP SH Q MU q y i)), (7, vi i), (5, vi (if 0 ≤ u ∧ u ≤ 99 then 1 else 0)), (4, vi w0), (0, .ref ko), (1, vi y), (2, vi q), (3, vi u)] dX10_tail_146 (by decide) rfl ?_
                refine g_iinc C 2 [(7, vi (i + 1)), (6, vi f9), (8, vi (mpy FL DP SH Q MU q y i)), (5, vi (if 0 ≤ u ∧ u ≤ 99 then 1 else 0)), (4, vi w0), (0, .ref ko), (1, vi y), (2, vi q), (3, vi u)] dX10_tail_148 rfl (by decide) rfl ?_
                refine g_goto C 93 dX10_tail_151 (by decide) ?_
                refine g_lv [(7, vi (i + 1)), (6, vi f9), (5, vi (if 0 ≤ u ∧ u ≤ 99 then 1 else 0)), (4, vi w0), (0, .ref ko), (1, vi y), (2, vi q), (3, vi u)] [0, 1, 3, 4, 5, 6, 7, 8] rfl ?_
                exact ih93 f9 (i + 1) ⟨by omega, by omega, hJ146⟩ (by omega)
              refine g_aload_n C 5 dX10_tail_114 rfl ?_
              refine g_iload_n C 6 dX10_tail_115 rfl ?_
              refine g_iload_n C 7 dX10_tail_116 rfl ?_
              refine g_iload C 0 dX10_tail_117 rfl ?_
              refine g_iload_n C 8 dX10_tail_119 rfl ?_
              refine g_callVp C [vi y, vi q, vi (mpy FL DP SH Q MU q y i), vi u] [] (c_X10_isTail x.1.2.1 g ko A 0 hr nL nO Q nY nE nR nB FL DP SH MC MW MU y q (mpy FL DP SH Q MU q y i) u hFL hDP hSH hQ hMW hMU hMC (by omega) (by omega) (by omega) hy hq (by omega) hu) y_X10_isTail l_X10_304 [0, 1, 2, 3, 4, 5, 6] rfl (by decide) 0 rfl rfl rfl (Nat.le_of_ble_eq_true rfl) rfl (by decide) dX10_tail_120 ?_
              refine g_if_eq C 144 dX10_tail_123 (by decide) (by omega) (fun c123 => ?_) (fun c123 => ?_)
              · refine g_iload C 2 dX10_tail_144 rfl ?_
                exact J146 fo (by rw [mt9_s _ _ hi0, ← hfo]; show _ = if (100 * sm (wab FL DP SH Q MW MU q y (mpy FL DP SH Q MU q y i)) (MC q) ≤ u * sm (twt MW q) (MC q)) ∧ (fo = -1 ∨ mpy FL DP SH Q MU q y i < fo) then mpy FL DP SH Q MU q y i else fo; first | (rw [if_pos (by omega)]; done) | (rw [if_neg (by omega)]; done))
              refine g_iload C 2 dX10_tail_126 rfl ?_
              refine g_iconst C dX10_tail_128 ?_
              refine g_icmp_eq C 139 dX10_tail_129 (by decide) (by omega) (by omega) (fun c129 => ?_) (fun c129 => ?_)
              · refine g_iload C 0 dX10_tail_139 rfl ?_
                refine g_goto C 146 dX10_tail_141 (by decide) ?_
                exact J146 (mpy FL DP SH Q MU q y i) (by rw [mt9_s _ _ hi0, ← hfo]; show _ = if (100 * sm (wab FL DP SH Q MW MU q y (mpy FL DP SH Q MU q y i)) (MC q) ≤ u * sm (twt MW q) (MC q)) ∧ (fo = -1 ∨ mpy FL DP SH Q MU q y i < fo) then mpy FL DP SH Q MU q y i else fo; first | (rw [if_pos (by omega)]; done) | (rw [if_neg (by omega)]; done))
              refine g_iload C 0 dX10_tail_132 rfl ?_
              refine g_iload C 2 dX10_tail_134 rfl ?_
              refine g_icmp_ge C 144 dX10_tail_136 (by decide) (by omega) (by omega) (fun c136 => ?_) (fun c136 => ?_)
              · refine g_iload C 2 dX10_tail_144 rfl ?_
                exact J146 fo (by rw [mt9_s _ _ hi0, ← hfo]; show _ = if (100 * sm (wab FL DP SH Q MW MU q y (mpy FL DP SH Q MU q y i)) (MC q) ≤ u * sm (twt MW q) (MC q)) ∧ (fo = -1 ∨ mpy FL DP SH Q MU q y i < fo) then mpy FL DP SH Q MU q y i else fo; first | (rw [if_pos (by omega)]; done) | (rw [if_neg (by omega)]; done))
              refine g_iload C 0 dX10_tail_139 rfl ?_
              refine g_goto C 146 dX10_tail_141 (by decide) ?_
              exact J146 (mpy FL DP SH Q MU q y i) (by rw [mt9_s _ _ hi0, ← hfo]; show _ = if (100 * sm (wab FL DP SH Q MW MU q y (mpy FL DP SH Q MU q y i)) (MC q) ≤ u * sm (twt MW q) (MC q)) ∧ (fo = -1 ∨ mpy FL DP SH Q MU q y i < fo) then mpy FL DP SH Q MU q y i else fo; first | (rw [if_pos (by omega)]; done) | (rw [if_neg (by omega)]; done))
          exact L93 _ fz 0 ⟨by omega, (hMC q).1, hJ88⟩ (Nat.lt_succ_self _)
        refine g_if_eq C 87 dX10_tail_80 (by decide) (by omega) (fun c80 => ?_) (fun c80 => ?_)
        · refine g_iconst C dX10_tail_87 ?_
          exact J88 (-1) (by show _ = if 100 * sm (wab FL DP SH Q MW MU q y 0) (MC q) ≤ u * sm (twt MW q) (MC q) then (0 : Int) else -1; first | (rw [if_pos (by omega)]; done) | (rw [if_neg (by omega)]; done))
        refine g_iconst C dX10_tail_83 ?_
        refine g_goto C 88 dX10_tail_84 (by decide) ?_
        exact J88 0 (by show _ = if 100 * sm (wab FL DP SH Q MW MU q y 0) (MC q) ≤ u * sm (twt MW q) (MC q) then (0 : Int) else -1; first | (rw [if_pos (by omega)]; done) | (rw [if_neg (by omega)]; done))
      refine g_iconst C dX10_tail_70 ?_
      rcases hJ64 with ⟨e9, h9⟩ | ⟨e9, h9⟩ | ⟨e9, h9⟩ | ⟨e9, h9⟩
      · exfalso; omega
      · subst e9; exact g_iret C hR dX10_tail_71 (Or.inr (Or.inl ⟨h9, rfl, rfl⟩)) rfl
      · subst e9; exact g_iret C hR dX10_tail_71 (Or.inr (Or.inr (Or.inl ⟨h9, rfl, rfl⟩))) rfl
      · subst e9; exact g_iret C hR dX10_tail_71 (Or.inr (Or.inr (Or.inr (⟨h9, rfl, rfl⟩)))) rfl
    refine g_iload C 1 dX10_tail_32 rfl ?_
    refine g_if_ne C 41 dX10_tail_34 (by decide) (by omega) (fun c34 => ?_) (fun c34 => ?_)
    · refine g_iload C 0 dX10_tail_41 rfl ?_
      refine g_if_ne C 50 dX10_tail_43 (by decide) (by omega) (fun c43 => ?_) (fun c43 => ?_)
      · refine g_aload_n C 2 dX10_tail_50 rfl ?_
        refine g_getf C k_X10 39 f_X10_100 0 rfl rfl (by decide) rfl rfl dX10_tail_51 ?_
        refine g_iload_n C 4 dX10_tail_54 rfl ?_
        refine g_iald C 4 rfl (by omega) dX10_tail_55 ?_
        have r2_55 := hMC q
        refine g_if_le C 63 dX10_tail_56 (by decide) (by omega) (fun c56 => ?_) (fun c56 => ?_)
        · refine g_iconst C dX10_tail_63 ?_
          exact J64 3 (by omega)
        refine g_iconst C dX10_tail_59 ?_
        refine g_goto C 64 dX10_tail_60 (by decide) ?_
        exact J64 0 (by omega)
      refine g_iconst C dX10_tail_46 ?_
      refine g_goto C 64 dX10_tail_47 (by decide) ?_
      exact J64 2 (by omega)
    refine g_iconst C dX10_tail_37 ?_
    refine g_goto C 64 dX10_tail_38 (by decide) ?_
    exact J64 1 (by omega)
  refine g_aload_n C 0 dX10_tail_0 rfl ?_
  refine g_iload_n C 1 dX10_tail_1 rfl ?_
  refine g_callVp C [vi y] [] (c_X10_isLayer x.1.2.1 g ko A th hr nL nO Q nY nE nR nB y hnY hy) y_X10_isLayer l_X10_179 [0] rfl (by decide) 0 rfl rfl rfl (Nat.le_of_ble_eq_true rfl) rfl (by decide) dX10_tail_2 ?_
  refine g_if_eq C 19 dX10_tail_5 (by decide) (by omega) (fun c5 => ?_) (fun c5 => ?_)
  · refine g_iconst C dX10_tail_19 ?_
    exact J20 0 (by omega)
  refine g_iload_n C 2 dX10_tail_8 rfl ?_
  refine g_callSp C [vi q] [] (c_X10_isModel x.1.2.1 g q hq) y_X10_isModel l_X10_210 [] rfl (by decide) rfl (Nat.le_of_ble_eq_true rfl) rfl (by decide) dX10_tail_9 ?_
  refine g_if_eq C 19 dX10_tail_12 (by decide) (by omega) (fun c12 => ?_) (fun c12 => ?_)
  · refine g_iconst C dX10_tail_19 ?_
    exact J20 0 (by omega)
  refine g_iconst C dX10_tail_15 ?_
  refine g_goto C 20 dX10_tail_16 (by decide) ?_
  exact J20 1 (by omega)

set_option maxHeartbeats 4000000 in
set_option maxRecDepth 100000 in
theorem c_X10_hour (l : Launch) (g : gD) (ko : Nat) (A : Nat → Nat) (th : Int) (hr : Int) (nL : Int) (nO : Int) (Q : Int) (nY : Int) (nE : Int) (nR : Int) (nB : Int)  : gMet l g yX10_hour cX10_hour 1 (some .int) 0 0 0 0 [.ref ko] [(ko, cO 10 (kF th hr nL nO Q nY nE nR nB A))] (gM (some (vi hr)) [(ko, cO 10 (kF 0 hr nL nO Q nY nE nR nB A))]) := by
  refine gMet.of y_X10_hour.2.2.2.2.1 (Nat.le_of_ble_eq_true rfl) ?_
  intro x hlx C hR hnm
  subst hlx
  have C : gC g x RX10 cX10_hour 1 0 0 0 0 := C
  show gW g x [(ko, cO 10 (kF th hr nL nO Q nY nE nR nB A))] 0 0 [(0, .ref ko)] 0 []
  refine g_aload_n C 0 dX10_hour_0 rfl ?_
  refine g_iconst C dX10_hour_1 ?_
  refine g_putf C k_X10 tyX10_ok nmX10 0 f_X10_137 0 rfl rfl (by decide) rfl rfl rfl rfl (Nat.le_of_ble_eq_true rfl) [(ko, cO 10 (kF 0 hr nL nO Q nY nE nR nB A))] rfl dX10_hour_2 ?_
  refine g_aload_n C 0 dX10_hour_5 rfl ?_
  refine g_getf C k_X10 1 f_X10_201 0 rfl rfl (by decide) rfl rfl dX10_hour_6 ?_
  exact g_iretM C hR dX10_hour_9 rfl rfl rfl

