set_option maxHeartbeats 4000000 in
set_option maxRecDepth 100000 in
theorem c_X10_settle (l : Launch) (g : gD) (ko : Nat) (A : Nat → Nat) (th : Int) (hr : Int) (nL : Int) (nO : Int) (Q : Int) (nY : Int) (nE : Int) (nR : Int) (nB : Int) (LP : Int → Int) (LH : Int → Int) (LU : Int → Int) (OP : Int → Int) (OF : Int → Int) (OT : Int → Int) (FL : Int → Int) (DP : Int → Int) (RE : Int → Int) (ZP : Int → Int) (ZH : Int → Int) (ZB : Int → Int) (ZL : Int → Int) (SH : Int → Int) (PR : Int → Int) (RA : Int → Int) (hLP : ∀ k, 0 ≤ LP k ∧ LP k ≤ 2) (hLH : ∀ k, 0 ≤ LH k ∧ LH k ≤ 2199) (hLU : ∀ k, 0 ≤ LU k ∧ LU k ≤ 99999) (hnL : 0 ≤ nL ∧ nL ≤ 40) (hOP : ∀ k, 0 ≤ OP k ∧ OP k ≤ 2) (hOF : ∀ k, 0 ≤ OF k ∧ OF k ≤ 2199) (hOT : ∀ k, 0 ≤ OT k ∧ OT k ≤ 2199) (hnO : 0 ≤ nO ∧ nO ≤ 8) (hFL : ∀ k, 0 ≤ FL k ∧ FL k ≤ 999999) (hDP : ∀ k, 0 ≤ DP k ∧ DP k ≤ 999999) (hRE : ∀ k, 0 ≤ RE k ∧ RE k ≤ 3) (hnY : 0 ≤ nY ∧ nY ≤ 5) (hQ : 0 ≤ Q ∧ Q ≤ 90) (hZH : ∀ k, 0 ≤ ZH k ∧ ZH k ≤ 999999) (hZB : ∀ k, 0 ≤ ZB k ∧ ZB k ≤ 999999) (hdst : dst9 OP OF nO) : gMet l g yX10_settle cX10_settle 3 none 4 0 0 94 [.ref ko] [(ko, cO 10 (kF th hr nL nO Q nY nE nR nB A)), (A 3, cA g 40 LP), (A 4, cA g 40 LH), (A 5, cA g 40 LU), (A 7, cA g 8 OP), (A 8, cA g 8 OF), (A 9, cA g 8 OT), (A 12, cA g 5 FL), (A 13, cA g 5 DP), (A 15, cA g 5 RE), (A 42, cA g 8 ZP), (A 43, cA g 40 ZH), (A 44, cA g 40 ZB), (A 45, cA g 40 ZL)] (fun v9 w9 => ∃ (ZP2 : Int → Int) (ZH2 : Int → Int) (ZB2 : Int → Int) (ZL2 : Int → Int), v9 = none ∧ w9 = [(ko, cO 10 (kF th hr nL nO Q nY nE nR nB A)), (A 3, cA g 40 LP), (A 4, cA g 40 LH), (A 5, cA g 40 LU), (A 7, cA g 8 OP), (A 8, cA g 8 OF), (A 9, cA g 8 OT), (A 12, cA g 5 FL), (A 13, cA g 5 DP), (A 15, cA g 5 RE), (A 42, cA g 8 ZP2), (A 43, cA g 40 ZH2), (A 44, cA g 40 ZB2), (A 45, cA g 40 ZL2)] ∧ (∀ k, 0 ≤ k → k < nO → ZP2 k = plc OP OF nO k) ∧ (∀ y k, 0 ≤ y → y < nY → 0 ≤ k → k < nO → ZH2 (8 * y + k) = kH LP LH LU nL OP OF OT nO Q FL DP SH RE PR RA y k) ∧ (∀ y k, 0 ≤ y → y < nY → 0 ≤ k → k < nO → ZB2 (8 * y + k) = kR LP LH LU nL OP OF OT nO Q FL DP SH RE PR RA y k) ∧ (∀ y k, 0 ≤ y → y < nY → 0 ≤ k → k < nO → ZL2 (8 * y + k) = kL LP LH LU nL OP OF OT nO Q FL DP SH RE PR RA y k) ∧ (∀ k, 0 ≤ ZH2 k ∧ ZH2 k ≤ 999999) ∧ (∀ k, 0 ≤ ZB2 k ∧ ZB2 k ≤ 999999)) := by
  refine gMet.of y_X10_settle.2.2.2.2.1 (Nat.le_of_ble_eq_true rfl) ?_
  intro x hlx C hR hnm
  subst hlx
  have C : gC g x RX10 cX10_settle 3 4 0 0 94 := C
  show gW g x [(ko, cO 10 (kF th hr nL nO Q nY nE nR nB A)), (A 3, cA g 40 LP), (A 4, cA g 40 LH), (A 5, cA g 40 LU), (A 7, cA g 8 OP), (A 8, cA g 8 OF), (A 9, cA g 8 OT), (A 12, cA g 5 FL), (A 13, cA g 5 DP), (A 15, cA g 5 RE), (A 42, cA g 8 ZP), (A 43, cA g 40 ZH), (A 44, cA g 40 ZB), (A 45, cA g 40 ZL)] 0 0 [(0, .ref ko)] 0 []
  refine g_aload_n C 0 dX10_settle_0 rfl ?_
  refine g_callV C [] [] (c_X10_findPlaces x.1.2.1 g ko A th hr nL nO Q nY nE nR nB OP OF ZP hOP hOF hnO) y_X10_findPlaces l_X10_223 [0, 4, 5, 10] rfl (by decide) 0 rfl rfl rfl (Nat.le_of_ble_eq_true rfl) rfl (by decide) dX10_settle_1 (fun v9 w9 hp9 => ?_)
  obtain ⟨rfl, rfl⟩ := hp9
  simp only [putAll, List.set_cons_succ, List.set_cons_zero, List.cons_append, List.nil_append, List.append_nil, Option.toList]
  show gW g x [(ko, cO 10 (kF th hr nL nO Q nY nE nR nB A)), (A 3, cA g 40 LP), (A 4, cA g 40 LH), (A 5, cA g 40 LU), (A 7, cA g 8 OP), (A 8, cA g 8 OF), (A 9, cA g 8 OT), (A 12, cA g 5 FL), (A 13, cA g 5 DP), (A 15, cA g 5 RE), (A 42, cA g 8 (cpy (plc OP OF nO) ZP nO)), (A 43, cA g 40 ZH), (A 44, cA g 40 ZB), (A 45, cA g 40 ZL)] 0 0 [(0, .ref ko)] 4 []
  have hZP9 : ∀ k, 0 ≤ k → k < nO → (cpy (plc OP OF nO) ZP nO) k = plc OP OF nO k := fun k k0 k1 => cpy_in ⟨k0, k1⟩
  refine g_iconst C dX10_settle_4 ?_
  refine g_istore_n C [(1, vi 0), (0, .ref ko)] dX10_settle_5 (by decide) rfl ?_
  have L6 : ∀ (f : Nat) (t : Int) (cH : Int → Int) (cB : Int → Int) (cL : Int → Int), (0 ≤ t ∧ t ≤ nO ∧ dn9 cH (fun y k => kH LP LH LU nL OP OF OT nO Q FL DP SH RE PR RA y k) OP OF nO nY t 0 ∧ dn9 cB (fun y k => kR LP LH LU nL OP OF OT nO Q FL DP SH RE PR RA y k) OP OF nO nY t 0 ∧ dn9 cL (fun y k => kL LP LH LU nL OP OF OT nO Q FL DP SH RE PR RA y k) OP OF nO nY t 0 ∧ (∀ k, 0 ≤ cH k ∧ cH k ≤ 999999) ∧ (∀ k, 0 ≤ cB k ∧ cB k ≤ 999999)) → (nO - t).toNat < f → gW g x [(ko, cO 10 (kF th hr nL nO Q nY nE nR nB A)), (A 3, cA g 40 LP), (A 4, cA g 40 LH), (A 5, cA g 40 LU), (A 7, cA g 8 OP), (A 8, cA g 8 OF), (A 9, cA g 8 OT), (A 12, cA g 5 FL), (A 13, cA g 5 DP), (A 15, cA g 5 RE), (A 42, cA g 8 (cpy (plc OP OF nO) ZP nO)), (A 43, cA g 40 cH), (A 44, cA g 40 cB), (A 45, cA g 40 cL)] 0 0 [(1, vi t), (0, .ref ko)] 6 [] := by
    intro f
    induction f with
    | zero => intro t cH cB cL hI6 hf; exact absurd hf (Nat.not_lt_zero _)
    | succ f ih6 =>
      intro t cH cB cL hI6 hf6
      obtain ⟨ht0, ht1, hH, hB, hL, hrH, hrB⟩ := hI6
      refine g_iload_n C 0 dX10_settle_6 rfl ?_
      refine g_aload_n C 1 dX10_settle_7 rfl ?_
      refine g_getf C k_X10 6 f_X10_163 0 rfl rfl (by decide) rfl rfl dX10_settle_8 ?_
      refine g_icmp_ge C 52 dX10_settle_11 (by decide) (by omega) (by omega) (fun c11 => ?_) (fun c11 => ?_)
      · have ht9 : t = nO := by omega
        exact g_vret C hR dX10_settle_52 ⟨(cpy (plc OP OF nO) ZP nO), cH, cB, cL, rfl, rfl, hZP9, (dn9_end (ht9 ▸ hH)), (dn9_end (ht9 ▸ hB)), (dn9_end (ht9 ▸ hL)), hrH, hrB⟩ rfl
      refine g_iconst C dX10_settle_14 ?_
      refine g_istore_n C [(2, vi 0), (1, vi t), (0, .ref ko)] dX10_settle_15 (by decide) rfl ?_
      have L16 : ∀ (f : Nat) (o : Int) (dH : Int → Int) (dB : Int → Int) (dL : Int → Int), (0 ≤ o ∧ o ≤ nO ∧ dn9 dH (fun y k => kH LP LH LU nL OP OF OT nO Q FL DP SH RE PR RA y k) OP OF nO nY t o ∧ dn9 dB (fun y k => kR LP LH LU nL OP OF OT nO Q FL DP SH RE PR RA y k) OP OF nO nY t o ∧ dn9 dL (fun y k => kL LP LH LU nL OP OF OT nO Q FL DP SH RE PR RA y k) OP OF nO nY t o ∧ (∀ k, 0 ≤ dH k ∧ dH k ≤ 999999) ∧ (∀ k, 0 ≤ dB k ∧ dB k ≤ 999999)) → (nO - o).toNat < f → gW g x [(ko, cO 10 (kF th hr nL nO Q nY nE nR nB A)), (A 3, cA g 40 LP), (A 4, cA g 40 LH), (A 5, cA g 40 LU), (A 7, cA g 8 OP), (A 8, cA g 8 OF), (A 9, cA g 8 OT), (A 12, cA g 5 FL), (A 13, cA g 5 DP), (A 15, cA g 5 RE), (A 42, cA g 8 (cpy (plc OP OF nO) ZP nO)), (A 43, cA g 40 dH), (A 44, cA g 40 dB), (A 45, cA g 40 dL)] 0 0 [(2, vi o), (1, vi t), (0, .ref ko)] 16 [] := by
        intro f
        induction f with
        | zero => intro o dH dB dL hI16 hf; exact absurd hf (Nat.not_lt_zero _)
        | succ f ih16 =>
          intro o dH dB dL hI16 hf16
          obtain ⟨ho0, ho1, hH2, hB2, hL2, hrH2, hrB2⟩ := hI16
          refine g_iload_n C 0 dX10_settle_16 rfl ?_
          refine g_aload_n C 2 dX10_settle_17 rfl ?_
          refine g_getf C k_X10 6 f_X10_163 0 rfl rfl (by decide) rfl rfl dX10_settle_18 ?_
          refine g_icmp_ge C 46 dX10_settle_21 (by decide) (by omega) (by omega) (fun c21 => ?_) (fun c21 => ?_)
          · refine g_iinc C 1 [(1, vi (t + 1)), (2, vi o), (0, .ref ko)] dX10_settle_46 rfl (by decide) rfl ?_
            refine g_goto C 6 dX10_settle_49 (by decide) ?_
            have ho9 : o = nO := by omega
            refine g_lv [(1, vi (t + 1)), (0, .ref ko)] [0, 2] rfl ?_
            exact ih6 (t + 1) dH dB dL ⟨by omega, by omega, dn9_next (ho9 ▸ hH2), dn9_next (ho9 ▸ hB2), dn9_next (ho9 ▸ hL2), hrH2, hrB2⟩ (by omega)
          refine g_aload_n C 2 dX10_settle_24 rfl ?_
          refine g_getf C k_X10 42 f_X10_109 0 rfl rfl (by decide) rfl rfl dX10_settle_25 ?_
          refine g_iload_n C 0 dX10_settle_28 rfl ?_
          refine g_iald C 10 rfl (by omega) dX10_settle_29 ?_
          have hpo9 := plc_r OP OF (n := nO) (o := o) ho0 (by omega)
          refine g_val (w := plc OP OF nO o) (hZP9 o ho0 (by omega)) ?_
          refine g_iload_n C 1 dX10_settle_30 rfl ?_
          refine g_icmp_ne C 40 dX10_settle_31 (by decide) (by omega) (by omega) (fun c31 => ?_) (fun c31 => ?_)
          · refine g_iinc C 0 [(2, vi (o + 1)), (1, vi t), (0, .ref ko)] dX10_settle_40 rfl (by decide) rfl ?_
            refine g_goto C 16 dX10_settle_43 (by decide) ?_
            exact ih16 (o + 1) dH dB dL (by first | exact ⟨by omega, by omega, dn9_skip hH2 (by omega), dn9_skip hB2 (by omega), dn9_skip hL2 (by omega), hrH2, hrB2⟩ | exact ⟨by omega, by omega, dn9_do hH2 hnO.2 hw1_37, dn9_do hB2 hnO.2 hw2_37, dn9_do hL2 hnO.2 hw3_37, hrH_37, hrB_37⟩) (by omega)
          refine g_aload_n C 2 dX10_settle_34 rfl ?_
          refine g_iload_n C 0 dX10_settle_35 rfl ?_
          refine g_iload_n C 1 dX10_settle_36 rfl ?_
          refine g_callV C [vi o, vi t] [] (c_X10_settleOne x.1.2.1 g ko A th hr nL nO Q nY nE nR nB LP LH LU OP OF OT FL DP RE (cpy (plc OP OF nO) ZP nO) dH dB dL SH PR RA o t hLP hLH hLU hnL hOP hOF hOT hnO hFL hDP hRE hnY hQ hrH2 hrB2 hdst hZP9 ⟨by omega, by omega⟩ (by omega) (fun y k y0 y1 k0 k1 q => hH2 y k y0 y1 k0 k1 (Or.inl q)) (fun y k y0 y1 k0 k1 q => hB2 y k y0 y1 k0 k1 (Or.inl q)) (by omega) (by omega)) y_X10_settleOne l_X10_226 [0, 1, 2, 3, 4, 5, 6, 7, 8, 9, 10, 11, 12, 13] rfl (by decide) 0 rfl rfl rfl (Nat.le_of_ble_eq_true rfl) rfl (by decide) dX10_settle_37 (fun v9 w9 hp9 => ?_)
          obtain ⟨ZH237, ZB237, ZL237, rfl, rfl, hw1_37, hw2_37, hw3_37, hrH_37, hrB_37⟩ := hp9
          simp only [putAll, List.set_cons_succ, List.set_cons_zero, List.cons_append, List.nil_append, List.append_nil, Option.toList]
          show gW g x [(ko, cO 10 (kF th hr nL nO Q nY nE nR nB A)), (A 3, cA g 40 LP), (A 4, cA g 40 LH), (A 5, cA g 40 LU), (A 7, cA g 8 OP), (A 8, cA g 8 OF), (A 9, cA g 8 OT), (A 12, cA g 5 FL), (A 13, cA g 5 DP), (A 15, cA g 5 RE), (A 42, cA g 8 (cpy (plc OP OF nO) ZP nO)), (A 43, cA g 40 ZH237), (A 44, cA g 40 ZB237), (A 45, cA g 40 ZL237)] 0 0 [(2, vi o), (1, vi t), (0, .ref ko)] 40 []
          refine g_iinc C 0 [(2, vi (o + 1)), (1, vi t), (0, .ref ko)] dX10_settle_40 rfl (by decide) rfl ?_
          refine g_goto C 16 dX10_settle_43 (by decide) ?_
          exact ih16 (o + 1) ZH237 ZB237 ZL237 (by first | exact ⟨by omega, by omega, dn9_skip hH2 (by omega), dn9_skip hB2 (by omega), dn9_skip hL2 (by omega), hrH2, hrB2⟩ | exact ⟨by omega, by omega, dn9_do hH2 hnO.2 hw1_37, dn9_do hB2 hnO.2 hw2_37, dn9_do hL2 hnO.2 hw3_37, hrH_37, hrB_37⟩) (by omega)
      exact L16 _ 0 cH cB cL ⟨by omega, by omega, hH, hB, hL, hrH, hrB⟩ (Nat.lt_succ_self _)
  exact L6 _ 0 ZH ZB ZL ⟨by omega, by omega, dn9_0 _ _ _ _ _ _, dn9_0 _ _ _ _ _ _, dn9_0 _ _ _ _ _ _, hZH, hZB⟩ (Nat.lt_succ_self _)

set_option maxHeartbeats 4000000 in
set_option maxRecDepth 100000 in
theorem c_X10_occurrence (l : Launch) (g : gD) (ko : Nat) (A : Nat → Nat) (th : Int) (hr : Int) (nL : Int) (nO : Int) (Q : Int) (nY : Int) (nE : Int) (nR : Int) (nB : Int) (LP : Int → Int) (LH : Int → Int) (LU : Int → Int) (OP : Int → Int) (OF : Int → Int) (OT : Int → Int) (FL : Int → Int) (DP : Int → Int) (RE : Int → Int) (ZP : Int → Int) (ZH : Int → Int) (ZB : Int → Int) (ZL : Int → Int) (SH : Int → Int) (PR : Int → Int) (RA : Int → Int) (o : Int) (w : Int) (hLP : ∀ k, 0 ≤ LP k ∧ LP k ≤ 2) (hLH : ∀ k, 0 ≤ LH k ∧ LH k ≤ 2199) (hLU : ∀ k, 0 ≤ LU k ∧ LU k ≤ 99999) (hnL : 0 ≤ nL ∧ nL ≤ 40) (hOP : ∀ k, 0 ≤ OP k ∧ OP k ≤ 2) (hOF : ∀ k, 0 ≤ OF k ∧ OF k ≤ 2199) (hOT : ∀ k, 0 ≤ OT k ∧ OT k ≤ 2199) (hnO : 0 ≤ nO ∧ nO ≤ 8) (hFL : ∀ k, 0 ≤ FL k ∧ FL k ≤ 999999) (hDP : ∀ k, 0 ≤ DP k ∧ DP k ≤ 999999) (hRE : ∀ k, 0 ≤ RE k ∧ RE k ≤ 3) (hnY : 0 ≤ nY ∧ nY ≤ 5) (hQ : 0 ≤ Q ∧ Q ≤ 90) (hZH : ∀ k, 0 ≤ ZH k ∧ ZH k ≤ 999999) (hZB : ∀ k, 0 ≤ ZB k ∧ ZB k ≤ 999999) (hdst : dst9 OP OF nO) (hSH : ∀ k, 0 ≤ SH k ∧ SH k ≤ 100) (hPR : ∀ k, 0 ≤ PR k ∧ PR k ≤ 99999) (hRA : ∀ k, 0 ≤ RA k ∧ RA k ≤ 150) (hDP1 : ∀ k, 0 ≤ k → k < nY → 1 ≤ DP k) (ho : -2147483648 ≤ o ∧ o < 2147483648) (hw : -2147483648 ≤ w ∧ w < 2147483648) : gMet l g yX10_occurrence cX10_occurrence 8 (some .int) 5 0 0 116 [.ref ko, vi o, vi w] [(ko, cO 10 (kF th hr nL nO Q nY nE nR nB A)), (A 3, cA g 40 LP), (A 4, cA g 40 LH), (A 5, cA g 40 LU), (A 7, cA g 8 OP), (A 8, cA g 8 OF), (A 9, cA g 8 OT), (A 12, cA g 5 FL), (A 13, cA g 5 DP), (A 15, cA g 5 RE), (A 42, cA g 8 ZP), (A 43, cA g 40 ZH), (A 44, cA g 40 ZB), (A 45, cA g 40 ZL), (A 14, cA g 5 SH), (A 16, cA g 5 PR), (A 17, cA g 5 RA)] (fun v9 w9 => (∃ (ZP2 : Int → Int) (ZH2 : Int → Int) (ZB2 : Int → Int) (ZL2 : Int → Int), ((0 ≤ o ∧ o < nO) ∧ 0 ≤ w ∧ w ≤ 5) ∧ v9 = some (vi (if w = 0 then gro LP LH LU nL OP OF OT o else if w = 1 then qto Q (gro LP LH LU nL OP OF OT o) else if w = 2 then gro LP LH LU nL OP OF OT o - qto Q (gro LP LH LU nL OP OF OT o) else if w = 3 then kD LP LH LU nL OP OF OT nO Q FL DP SH RE PR RA nY o else if w = 4 then kE LP LH LU nL OP OF OT nO Q FL DP SH RE PR RA nY o else plc OP OF nO o)) ∧ w9 = [(ko, cO 10 (kF 0 hr nL nO Q nY nE nR nB A)), (A 3, cA g 40 LP), (A 4, cA g 40 LH), (A 5, cA g 40 LU), (A 7, cA g 8 OP), (A 8, cA g 8 OF), (A 9, cA g 8 OT), (A 12, cA g 5 FL), (A 13, cA g 5 DP), (A 15, cA g 5 RE), (A 42, cA g 8 ZP2), (A 43, cA g 40 ZH2), (A 44, cA g 40 ZB2), (A 45, cA g 40 ZL2), (A 14, cA g 5 SH), (A 16, cA g 5 PR), (A 17, cA g 5 RA)] ∧ (∀ k, 0 ≤ k → k < nO → ZP2 k = plc OP OF nO k) ∧ (∀ y k, 0 ≤ y → y < nY → 0 ≤ k → k < nO → ZH2 (8 * y + k) = kH LP LH LU nL OP OF OT nO Q FL DP SH RE PR RA y k) ∧ (∀ y k, 0 ≤ y → y < nY → 0 ≤ k → k < nO → ZB2 (8 * y + k) = kR LP LH LU nL OP OF OT nO Q FL DP SH RE PR RA y k) ∧ (∀ y k, 0 ≤ y → y < nY → 0 ≤ k → k < nO → ZL2 (8 * y + k) = kL LP LH LU nL OP OF OT nO Q FL DP SH RE PR RA y k) ∧ (∀ k, 0 ≤ ZH2 k ∧ ZH2 k ≤ 999999) ∧ (∀ k, 0 ≤ ZB2 k ∧ ZB2 k ≤ 999999)) ∨ ((¬ (0 ≤ o ∧ o < nO)) ∧ v9 = some (vi 0) ∧ w9 = [(ko, cO 10 (kF 1 hr nL nO Q nY nE nR nB A)), (A 3, cA g 40 LP), (A 4, cA g 40 LH), (A 5, cA g 40 LU), (A 7, cA g 8 OP), (A 8, cA g 8 OF), (A 9, cA g 8 OT), (A 12, cA g 5 FL), (A 13, cA g 5 DP), (A 15, cA g 5 RE), (A 42, cA g 8 ZP), (A 43, cA g 40 ZH), (A 44, cA g 40 ZB), (A 45, cA g 40 ZL), (A 14, cA g 5 SH), (A 16, cA g 5 PR), (A 17, cA g 5 RA)]) ∨ (((0 ≤ o ∧ o < nO) ∧ ¬ (0 ≤ w ∧ w ≤ 5)) ∧ v9 = some (vi 0) ∧ w9 = [(ko, cO 10 (kF 2 hr nL nO Q nY nE nR nB A)), (A 3, cA g 40 LP), (A 4, cA g 40 LH), (A 5, cA g 40 LU), (A 7, cA g 8 OP), (A 8, cA g 8 OF), (A 9, cA g 8 OT), (A 12, cA g 5 FL), (A 13, cA g 5 DP), (A 15, cA g 5 RE), (A 42, cA g 8 ZP), (A 43, cA g 40 ZH), (A 44, cA g 40 ZB), (A 45, cA g 40 ZL), (A 14, cA g 5 SH), (A 16, cA g 5 PR), (A 17, cA g 5 RA)])) := by
  refine gMet.of y_X10_occurrence.2.2.2.2.1 (Nat.le_of_ble_eq_true rfl) ?_
  intro x hlx C hR hnm
  subst hlx
  have C : gC g x RX10 cX10_occurrence 8 5 0 0 116 := C
  show gW g x [(ko, cO 10 (kF th hr nL nO Q nY nE nR nB A)), (A 3, cA g 40 LP), (A 4, cA g 40 LH), (A 5, cA g 40 LU), (A 7, cA g 8 OP), (A 8, cA g 8 OF), (A 9, cA g 8 OT), (A 12, cA g 5 FL), (A 13, cA g 5 DP), (A 15, cA g 5 RE), (A 42, cA g 8 ZP), (A 43, cA g 40 ZH), (A 44, cA g 40 ZB), (A 45, cA g 40 ZL), (A 14, cA g 5 SH), (A 16, cA g 5 PR), (A 17, cA g 5 RA)] 0 0 [(0, .ref ko), (1, vi o), (2, vi w)] 0 []
  refine g_aload_n C 0 dX10_occurrence_0 rfl ?_
  refine g_iload_n C 1 dX10_occurrence_1 rfl ?_
  refine g_callVp C [vi o] [] (c_X10_isChosen x.1.2.1 g ko A th hr nL nO Q nY nE nR nB o hnO ho) y_X10_isChosen l_X10_230 [0] rfl (by decide) 0 rfl rfl rfl (Nat.le_of_ble_eq_true rfl) rfl (by decide) dX10_occurrence_2 ?_
  refine g_istore_n C [(3, vi (if 0 ≤ o ∧ o < nO then 1 else 0)), (0, .ref ko), (1, vi o), (2, vi w)] dX10_occurrence_5 (by decide) rfl ?_
  refine g_aload_n C 1 dX10_occurrence_6 rfl ?_
  have J29 : ∀ (cd : Int), ((cd = 0 ∧ (0 ≤ o ∧ o < nO) ∧ 0 ≤ w ∧ w ≤ 5) ∨ (cd = 1 ∧ ¬ (0 ≤ o ∧ o < nO)) ∨ (cd = 2 ∧ (0 ≤ o ∧ o < nO) ∧ ¬ (0 ≤ w ∧ w ≤ 5))) → gW g x [(ko, cO 10 (kF th hr nL nO Q nY nE nR nB A)), (A 3, cA g 40 LP), (A 4, cA g 40 LH), (A 5, cA g 40 LU), (A 7, cA g 8 OP), (A 8, cA g 8 OF), (A 9, cA g 8 OT), (A 12, cA g 5 FL), (A 13, cA g 5 DP), (A 15, cA g 5 RE), (A 42, cA g 8 ZP), (A 43, cA g 40 ZH), (A 44, cA g 40 ZB), (A 45, cA g 40 ZL), (A 14, cA g 5 SH), (A 16, cA g 5 PR), (A 17, cA g 5 RA)] 0 0 [(3, vi (if 0 ≤ o ∧ o < nO then 1 else 0)), (0, .ref ko), (1, vi o), (2, vi w)] 29 [vi cd, .ref ko] := by
    intro cd hJ29
    refine g_callV C [vi cd] [] (c_X10_goesWell x.1.2.1 g ko A th hr nL nO Q nY nE nR nB cd (by omega)) y_X10_goesWell l_X10_156 [0] rfl (by decide) 0 rfl rfl rfl (Nat.le_of_ble_eq_true rfl) rfl (by decide) dX10_occurrence_29 (fun v9 w9 hp9 => ?_)
    obtain ⟨rfl, rfl⟩ := hp9
    simp only [putAll, List.set_cons_succ, List.set_cons_zero, List.cons_append, List.nil_append, List.append_nil, Option.toList]
    show gW g x [(ko, cO 10 (kF cd hr nL nO Q nY nE nR nB A)), (A 3, cA g 40 LP), (A 4, cA g 40 LH), (A 5, cA g 40 LU), (A 7, cA g 8 OP), (A 8, cA g 8 OF), (A 9, cA g 8 OT), (A 12, cA g 5 FL), (A 13, cA g 5 DP), (A 15, cA g 5 RE), (A 42, cA g 8 ZP), (A 43, cA g 40 ZH), (A 44, cA g 40 ZB), (A 45, cA g 40 ZL), (A 14, cA g 5 SH), (A 16, cA g 5 PR), (A 17, cA g 5 RA)] 0 0 [(3, vi (if 0 ≤ o ∧ o < nO then 1 else 0)), (0, .ref ko), (1, vi o), (2, vi w)] 32 [vi (if cd = 0 then 1 else 0)]
    refine g_if_ne C 37 dX10_occurrence_32 (by decide) (by omega) (fun c32 => ?_) (fun c32 => ?_)
    · obtain ⟨rfl, hok⟩ : cd = 0 ∧ ((0 ≤ o ∧ o < nO) ∧ 0 ≤ w ∧ w ≤ 5) := by
        rcases hJ29 with ⟨e9, h9⟩ | ⟨e9, h9⟩ | ⟨e9, h9⟩
        · exact ⟨e9, h9⟩
        · exfalso; omega
        · exfalso; omega
      refine g_aload_n C 1 dX10_occurrence_37 rfl ?_
      refine g_callV C [] [] (c_X10_settle x.1.2.1 g ko A 0 hr nL nO Q nY nE nR nB LP LH LU OP OF OT FL DP RE ZP ZH ZB ZL SH PR RA hLP hLH hLU hnL hOP hOF hOT hnO hFL hDP hRE hnY hQ hZH hZB hdst) y_X10_settle l_X10_233 [0, 1, 2, 3, 4, 5, 6, 7, 8, 9, 10, 11, 12, 13] rfl (by decide) 0 rfl rfl rfl (Nat.le_of_ble_eq_true rfl) rfl (by decide) dX10_occurrence_38 (fun v9 w9 hp9 => ?_)
      obtain ⟨ZP238, ZH238, ZB238, ZL238, rfl, rfl, hfP_38, hfH_38, hfB_38, hfL_38, hZH_38, hZB_38⟩ := hp9
      simp only [putAll, List.set_cons_succ, List.set_cons_zero, List.cons_append, List.nil_append, List.append_nil, Option.toList]
      show gW g x [(ko, cO 10 (kF 0 hr nL nO Q nY nE nR nB A)), (A 3, cA g 40 LP), (A 4, cA g 40 LH), (A 5, cA g 40 LU), (A 7, cA g 8 OP), (A 8, cA g 8 OF), (A 9, cA g 8 OT), (A 12, cA g 5 FL), (A 13, cA g 5 DP), (A 15, cA g 5 RE), (A 42, cA g 8 ZP238), (A 43, cA g 40 ZH238), (A 44, cA g 40 ZB238), (A 45, cA g 40 ZL238), (A 14, cA g 5 SH), (A 16, cA g 5 PR), (A 17, cA g 5 RA)] 0 0 [(3, vi (if 0 ≤ o ∧ o < nO then 1 else 0)), (0, .ref ko), (1, vi o), (2, vi w)] 41 []
      refine g_aload_n C 1 dX10_occurrence_41 rfl ?_
      refine g_iload_n C 2 dX10_occurrence_42 rfl ?_
      refine g_callVp C [vi o] [] (c_X10_ground x.1.2.1 g ko A 0 hr nL nO Q nY nE nR nB LP LH LU OP OF OT o hLP hLH hLU hnL hOP hOF hOT (by omega) ho) y_X10_ground l_X10_213 [0, 1, 2, 3, 4, 5, 6] rfl (by decide) 0 rfl rfl rfl (Nat.le_of_ble_eq_true rfl) rfl (by decide) dX10_occurrence_43 ?_
      refine g_istore C [(4, vi (gro LP LH LU nL OP OF OT o)), (3, vi (if 0 ≤ o ∧ o < nO then 1 else 0)), (0, .ref ko), (1, vi o), (2, vi w)] dX10_occurrence_46 (by decide) rfl ?_
      refine g_iconst C dX10_occurrence_48 ?_
      refine g_istore C [(5, vi 0), (4, vi (gro LP LH LU nL OP OF OT o)), (3, vi (if 0 ≤ o ∧ o < nO then 1 else 0)), (0, .ref ko), (1, vi o), (2, vi w)] dX10_occurrence_49 (by decide) rfl ?_
      refine g_iconst C dX10_occurrence_51 ?_
      refine g_istore C [(6, vi 0), (5, vi 0), (4, vi (gro LP LH LU nL OP OF OT o)), (3, vi (if 0 ≤ o ∧ o < nO then 1 else 0)), (0, .ref ko), (1, vi o), (2, vi w)] dX10_occurrence_52 (by decide) rfl ?_
      refine g_iconst C dX10_occurrence_54 ?_
      refine g_istore C [(7, vi 0), (6, vi 0), (5, vi 0), (4, vi (gro LP LH LU nL OP OF OT o)), (3, vi (if 0 ≤ o ∧ o < nO then 1 else 0)), (0, .ref ko), (1, vi o), (2, vi w)] dX10_occurrence_55 (by decide) rfl ?_
      have L57 : ∀ (f : Nat) (pa : Int) (du : Int) (l : Int), (0 ≤ l ∧ l ≤ nY ∧ pa = sm (fun y => kP LP LH LU nL OP OF OT nO Q FL DP SH RE PR RA y o) l ∧ du = sm (fun y => kC LP LH LU nL OP OF OT nO Q FL DP SH RE PR RA y o) l) → (nY - l).toNat < f → gW g x [(ko, cO 10 (kF 0 hr nL nO Q nY nE nR nB A)), (A 3, cA g 40 LP), (A 4, cA g 40 LH), (A 5, cA g 40 LU), (A 7, cA g 8 OP), (A 8, cA g 8 OF), (A 9, cA g 8 OT), (A 12, cA g 5 FL), (A 13, cA g 5 DP), (A 15, cA g 5 RE), (A 42, cA g 8 ZP238), (A 43, cA g 40 ZH238), (A 44, cA g 40 ZB238), (A 45, cA g 40 ZL238), (A 14, cA g 5 SH), (A 16, cA g 5 PR), (A 17, cA g 5 RA)] 0 0 [(7, vi l), (6, vi du), (5, vi pa), (4, vi (gro LP LH LU nL OP OF OT o)), (3, vi (if 0 ≤ o ∧ o < nO then 1 else 0)), (0, .ref ko), (1, vi o), (2, vi w)] 57 [] := by
        intro f
        induction f with
        | zero => intro pa du l hI57 hf; exact absurd hf (Nat.not_lt_zero _)
        | succ f ih57 =>
          intro pa du l hI57 hf57
          obtain ⟨hl0, hl1, hpa, hdu⟩ := hI57
          refine g_iload C 0 dX10_occurrence_57 rfl ?_
          refine g_aload_n C 5 dX10_occurrence_59 rfl ?_
          refine g_getf C k_X10 11 f_X10_176 0 rfl rfl (by decide) rfl rfl dX10_occurrence_60 ?_
          refine g_icmp_ge C 107 dX10_occurrence_63 (by decide) (by omega) (by omega) (fun c63 => ?_) (fun c63 => ?_)
          · have J173 : ∀ (r9 : Int), (r9 = (if w = 0 then gro LP LH LU nL OP OF OT o else if w = 1 then qto Q (gro LP LH LU nL OP OF OT o) else if w = 2 then gro LP LH LU nL OP OF OT o - qto Q (gro LP LH LU nL OP OF OT o) else if w = 3 then kD LP LH LU nL OP OF OT nO Q FL DP SH RE PR RA nY o else if w = 4 then kE LP LH LU nL OP OF OT nO Q FL DP SH RE PR RA nY o else plc OP OF nO o)) → gW g x [(ko, cO 10 (kF 0 hr nL nO Q nY nE nR nB A)), (A 3, cA g 40 LP), (A 4, cA g 40 LH), (A 5, cA g 40 LU), (A 7, cA g 8 OP), (A 8, cA g 8 OF), (A 9, cA g 8 OT), (A 12, cA g 5 FL), (A 13, cA g 5 DP), (A 15, cA g 5 RE), (A 42, cA g 8 ZP238), (A 43, cA g 40 ZH238), (A 44, cA g 40 ZB238), (A 45, cA g 40 ZL238), (A 14, cA g 5 SH), (A 16, cA g 5 PR), (A 17, cA g 5 RA)] 0 0 [(7, vi l), (6, vi du), (5, vi pa), (4, vi (gro LP LH LU nL OP OF OT o)), (3, vi (if 0 ≤ o ∧ o < nO then 1 else 0)), (0, .ref ko), (1, vi o), (2, vi w)] 173 [vi r9] := by
              intro r9 hJ173
              exact g_iret C hR dX10_occurrence_173 (Or.inl ⟨ZP238, ZH238, ZB238, ZL238, hok, (congrArg (fun q => some (vi q)) hJ173), rfl, hfP_38, hfH_38, hfB_38, hfL_38, hZH_38, hZB_38⟩) rfl
            have hpa9 : pa = kD LP LH LU nL OP OF OT nO Q FL DP SH RE PR RA nY o := by rw [hpa, show l = nY by omega]; rfl
            have hdu9 : du = kE LP LH LU nL OP OF OT nO Q FL DP SH RE PR RA nY o := by rw [hdu, show l = nY by omega]; rfl
            have hg9 := gro_r (LP := LP) (LH := LH) hLU hnL OP OF OT o
            refine g_iload_n C 7 dX10_occurrence_107 rfl ?_
            refine g_if_ne C 116 dX10_occurrence_108 (by decide) (by omega) (fun c108 => ?_) (fun c108 => ?_)
            · refine g_iload_n C 7 dX10_occurrence_116 rfl ?_
              refine g_iconst C dX10_occurrence_117 ?_
              refine g_icmp_ne C 130 dX10_occurrence_118 (by decide) (by omega) (by omega) (fun c118 => ?_) (fun c118 => ?_)
              · refine g_iload_n C 7 dX10_occurrence_130 rfl ?_
                refine g_iconst C dX10_occurrence_131 ?_
                refine g_icmp_ne C 147 dX10_occurrence_132 (by decide) (by omega) (by omega) (fun c132 => ?_) (fun c132 => ?_)
                · refine g_iload_n C 7 dX10_occurrence_147 rfl ?_
                  refine g_iconst C dX10_occurrence_148 ?_
                  refine g_icmp_ne C 157 dX10_occurrence_149 (by decide) (by omega) (by omega) (fun c149 => ?_) (fun c149 => ?_)
                  · refine g_iload_n C 7 dX10_occurrence_157 rfl ?_
                    refine g_iconst C dX10_occurrence_158 ?_
                    refine g_icmp_ne C 167 dX10_occurrence_159 (by decide) (by omega) (by omega) (fun c159 => ?_) (fun c159 => ?_)
                    · refine g_aload_n C 5 dX10_occurrence_167 rfl ?_
                      refine g_getf C k_X10 42 f_X10_109 0 rfl rfl (by decide) rfl rfl dX10_occurrence_168 ?_
                      refine g_iload_n C 6 dX10_occurrence_171 rfl ?_
                      refine g_iald C 10 rfl (by omega) dX10_occurrence_172 ?_
                      have r1_172 := hfP_38 o
                      exact J173 (ZP238 o) (by first | (rw [if_pos (by omega)]; done) | (rw [if_neg (by omega), if_pos (by omega)]; done) | (rw [if_neg (by omega), if_neg (by omega), if_pos (by omega)]; done) | (rw [if_neg (by omega), if_neg (by omega), if_neg (by omega), if_pos (by omega), hpa9]; done) | (rw [if_neg (by omega), if_neg (by omega), if_neg (by omega), if_neg (by omega), if_pos (by omega), hdu9]; done) | (rw [if_neg (by omega), if_neg (by omega), if_neg (by omega), if_neg (by omega), if_neg (by omega)]; exact hfP_38 o (by omega) (by omega)))
                    refine g_iload C 1 dX10_occurrence_162 rfl ?_
                    refine g_goto C 173 dX10_occurrence_164 (by decide) ?_
                    exact J173 du (by first | (rw [if_pos (by omega)]; done) | (rw [if_neg (by omega), if_pos (by omega)]; done) | (rw [if_neg (by omega), if_neg (by omega), if_pos (by omega)]; done) | (rw [if_neg (by omega), if_neg (by omega), if_neg (by omega), if_pos (by omega), hpa9]; done) | (rw [if_neg (by omega), if_neg (by omega), if_neg (by omega), if_neg (by omega), if_pos (by omega), hdu9]; done) | (rw [if_neg (by omega), if_neg (by omega), if_neg (by omega), if_neg (by omega), if_neg (by omega)]; exact hfP_38 o (by omega) (by omega)))
                  refine g_iload C 2 dX10_occurrence_152 rfl ?_
                  refine g_goto C 173 dX10_occurrence_154 (by decide) ?_
                  exact J173 pa (by first | (rw [if_pos (by omega)]; done) | (rw [if_neg (by omega), if_pos (by omega)]; done) | (rw [if_neg (by omega), if_neg (by omega), if_pos (by omega)]; done) | (rw [if_neg (by omega), if_neg (by omega), if_neg (by omega), if_pos (by omega), hpa9]; done) | (rw [if_neg (by omega), if_neg (by omega), if_neg (by omega), if_neg (by omega), if_pos (by omega), hdu9]; done) | (rw [if_neg (by omega), if_neg (by omega), if_neg (by omega), if_neg (by omega), if_neg (by omega)]; exact hfP_38 o (by omega) (by omega)))
                refine g_iload C 3 dX10_occurrence_135 rfl ?_
                refine g_aload_n C 5 dX10_occurrence_137 rfl ?_
                refine g_iload C 3 dX10_occurrence_138 rfl ?_
                refine g_callVp C [vi (gro LP LH LU nL OP OF OT o)] [vi (gro LP LH LU nL OP OF OT o)] (c_X10_ceded x.1.2.1 g ko A 0 hr nL nO Q nY nE nR nB (gro LP LH LU nL OP OF OT o) hQ (by omega) (by omega)) y_X10_ceded l_X10_216 [0] rfl (by decide) 0 rfl rfl rfl (Nat.le_of_ble_eq_true rfl) rfl (by decide) dX10_occurrence_140 ?_
                refine g_isub C dX10_occurrence_143 ?_
                refine g_goto C 173 dX10_occurrence_144 (by decide) ?_
                exact J173 ((gro LP LH LU nL OP OF OT o) - (qto Q (gro LP LH LU nL OP OF OT o))) (by first | (rw [if_pos (by omega)]; done) | (rw [if_neg (by omega), if_pos (by omega)]; done) | (rw [if_neg (by omega), if_neg (by omega), if_pos (by omega)]; done) | (rw [if_neg (by omega), if_neg (by omega), if_neg (by omega), if_pos (by omega), hpa9]; done) | (rw [if_neg (by omega), if_neg (by omega), if_neg (by omega), if_neg (by omega), if_pos (by omega), hdu9]; done) | (rw [if_neg (by omega), if_neg (by omega), if_neg (by omega), if_neg (by omega), if_neg (by omega)]; exact hfP_38 o (by omega) (by omega)))
              refine g_aload_n C 5 dX10_occurrence_121 rfl ?_
              refine g_iload C 3 dX10_occurrence_122 rfl ?_
              refine g_callVp C [vi (gro LP LH LU nL OP OF OT o)] [] (c_X10_ceded x.1.2.1 g ko A 0 hr nL nO Q nY nE nR nB (gro LP LH LU nL OP OF OT o) hQ (by omega) (by omega)) y_X10_ceded l_X10_216 [0] rfl (by decide) 0 rfl rfl rfl (Nat.le_of_ble_eq_true rfl) rfl (by decide) dX10_occurrence_124 ?_
              refine g_goto C 173 dX10_occurrence_127 (by decide) ?_
              exact J173 (qto Q (gro LP LH LU nL OP OF OT o)) (by first | (rw [if_pos (by omega)]; done) | (rw [if_neg (by omega), if_pos (by omega)]; done) | (rw [if_neg (by omega), if_neg (by omega), if_pos (by omega)]; done) | (rw [if_neg (by omega), if_neg (by omega), if_neg (by omega), if_pos (by omega), hpa9]; done) | (rw [if_neg (by omega), if_neg (by omega), if_neg (by omega), if_neg (by omega), if_pos (by omega), hdu9]; done) | (rw [if_neg (by omega), if_neg (by omega), if_neg (by omega), if_neg (by omega), if_neg (by omega)]; exact hfP_38 o (by omega) (by omega)))
            refine g_iload C 3 dX10_occurrence_111 rfl ?_
            refine g_goto C 173 dX10_occurrence_113 (by decide) ?_
            exact J173 (gro LP LH LU nL OP OF OT o) (by first | (rw [if_pos (by omega)]; done) | (rw [if_neg (by omega), if_pos (by omega)]; done) | (rw [if_neg (by omega), if_neg (by omega), if_pos (by omega)]; done) | (rw [if_neg (by omega), if_neg (by omega), if_neg (by omega), if_pos (by omega), hpa9]; done) | (rw [if_neg (by omega), if_neg (by omega), if_neg (by omega), if_neg (by omega), if_pos (by omega), hdu9]; done) | (rw [if_neg (by omega), if_neg (by omega), if_neg (by omega), if_neg (by omega), if_neg (by omega)]; exact hfP_38 o (by omega) (by omega)))
          refine g_iload C 2 dX10_occurrence_66 rfl ?_
          refine g_aload_n C 5 dX10_occurrence_68 rfl ?_
          refine g_iload C 0 dX10_occurrence_69 rfl ?_
          refine g_aload_n C 5 dX10_occurrence_71 rfl ?_
          refine g_getf C k_X10 43 f_X10_112 0 rfl rfl (by decide) rfl rfl dX10_occurrence_72 ?_
          refine g_bipush C dX10_occurrence_75 (by decide) ?_
          refine g_iload C 0 dX10_occurrence_77 rfl ?_
          refine g_imul C dX10_occurrence_79 ?_
          refine g_iload_n C 6 dX10_occurrence_80 rfl ?_
          refine g_iadd C dX10_occurrence_81 ?_
          refine g_iald C 11 rfl (by omega) dX10_occurrence_82 ?_
          have r2_82 := hZH_38 ((8 * l) + o)
          have hz9 := hZH_38 (8 * l + o)
          refine g_callVp C [vi l, vi (ZH238 ((8 * l) + o))] [vi pa] (c_X10_pays x.1.2.1 g ko A 0 hr nL nO Q nY nE nR nB SH l (ZH238 ((8 * l) + o)) hSH (by omega) (by omega) (by omega) (by omega)) y_X10_pays l_X10_236 [0, 14] rfl (by decide) 0 rfl rfl rfl (Nat.le_of_ble_eq_true rfl) rfl (by decide) dX10_occurrence_83 ?_
          refine g_iadd C dX10_occurrence_86 ?_
          refine g_istore C [(5, vi (pa + (pay SH l (ZH238 ((8 * l) + o))))), (7, vi l), (6, vi du), (4, vi (gro LP LH LU nL OP OF OT o)), (3, vi (if 0 ≤ o ∧ o < nO then 1 else 0)), (0, .ref ko), (1, vi o), (2, vi w)] dX10_occurrence_87 (by decide) rfl ?_
          refine g_iload C 2 dX10_occurrence_89 rfl ?_
          refine g_aload_n C 5 dX10_occurrence_91 rfl ?_
          refine g_iload C 1 dX10_occurrence_92 rfl ?_
          refine g_iload_n C 6 dX10_occurrence_94 rfl ?_
          have hd19 := hDP1 l hl0 (by omega)
          refine g_callVp C [vi l, vi o] [vi du] (c_X10_dueBack x.1.2.1 g ko A 0 hr nL nO Q nY nE nR nB DP PR RA ZB238 l o hDP hPR hRA hZB_38 (by omega) (by omega) (by omega) (by omega) ho) y_X10_dueBack l_X10_239 [0, 8, 15, 16, 12] rfl (by decide) 0 rfl rfl rfl (Nat.le_of_ble_eq_true rfl) rfl (by decide) dX10_occurrence_95 ?_
          refine g_iadd C dX10_occurrence_98 ?_
          refine g_istore C [(6, vi (du + (chg DP PR RA l (ZB238 (8 * l + o))))), (5, vi (pa + (pay SH l (ZH238 ((8 * l) + o))))), (7, vi l), (4, vi (gro LP LH LU nL OP OF OT o)), (3, vi (if 0 ≤ o ∧ o < nO then 1 else 0)), (0, .ref ko), (1, vi o), (2, vi w)] dX10_occurrence_99 (by decide) rfl ?_
          refine g_iinc C 2 [(7, vi (l + 1)), (6, vi (du + (chg DP PR RA l (ZB238 (8 * l + o))))), (5, vi (pa + (pay SH l (ZH238 ((8 * l) + o))))), (4, vi (gro LP LH LU nL OP OF OT o)), (3, vi (if 0 ≤ o ∧ o < nO then 1 else 0)), (0, .ref ko), (1, vi o), (2, vi w)] dX10_occurrence_101 rfl (by decide) rfl ?_
          refine g_goto C 57 dX10_occurrence_104 (by decide) ?_
          exact ih57 (pa + (pay SH l (ZH238 ((8 * l) + o)))) (du + (chg DP PR RA l (ZB238 (8 * l + o)))) (l + 1) ⟨by omega, by omega, by rw [sm_s _ hl0, ← hpa, hfH_38 l o hl0 (by omega) (by omega) (by omega)]; rfl, by rw [sm_s _ hl0, ← hdu, hfB_38 l o hl0 (by omega) (by omega) (by omega)]; rfl⟩ (by omega)
      exact L57 _ 0 0 0 ⟨by omega, by omega, rfl, rfl⟩ (Nat.lt_succ_self _)
    refine g_iconst C dX10_occurrence_35 ?_
    rcases hJ29 with ⟨e9, h9⟩ | ⟨e9, h9⟩ | ⟨e9, h9⟩
    · exfalso; omega
    · subst e9; exact g_iret C hR dX10_occurrence_36 (Or.inr (Or.inl ⟨h9, rfl, rfl⟩)) rfl
    · subst e9; exact g_iret C hR dX10_occurrence_36 (Or.inr (Or.inr (⟨h9, rfl, rfl⟩))) rfl
  refine g_iload_n C 0 dX10_occurrence_7 rfl ?_
  refine g_if_ne C 15 dX10_occurrence_8 (by decide) (by omega) (fun c8 => ?_) (fun c8 => ?_)
  · refine g_iload_n C 3 dX10_occurrence_15 rfl ?_
    refine g_iconst C dX10_occurrence_16 ?_
    refine g_iconst C dX10_occurrence_17 ?_
    refine g_callSp C [vi w, vi 0, vi 5] [.ref ko] (c_X10_in x.1.2.1 g w 0 5 hw (by omega) (by omega)) y_X10_in l_X10_141 [] rfl (by decide) rfl (Nat.le_of_ble_eq_true rfl) rfl (by decide) dX10_occurrence_18 ?_
    refine g_if_eq C 28 dX10_occurrence_21 (by decide) (by omega) (fun c21 => ?_) (fun c21 => ?_)
    · refine g_iconst C dX10_occurrence_28 ?_
      exact J29 2 (by omega)
    refine g_iconst C dX10_occurrence_24 ?_
    refine g_goto C 29 dX10_occurrence_25 (by decide) ?_
    exact J29 0 (by omega)
  refine g_iconst C dX10_occurrence_11 ?_
  refine g_goto C 29 dX10_occurrence_12 (by decide) ?_
  exact J29 1 (by omega)

set_option maxHeartbeats 4000000 in
set_option maxRecDepth 100000 in
theorem c_X10_hit (l : Launch) (g : gD) (ko : Nat) (A : Nat → Nat) (th : Int) (hr : Int) (nL : Int) (nO : Int) (Q : Int) (nY : Int) (nE : Int) (nR : Int) (nB : Int) (LP : Int → Int) (LH : Int → Int) (LU : Int → Int) (OP : Int → Int) (OF : Int → Int) (OT : Int → Int) (FL : Int → Int) (DP : Int → Int) (RE : Int → Int) (ZP : Int → Int) (ZH : Int → Int) (ZB : Int → Int) (ZL : Int → Int) (SH : Int → Int) (PR : Int → Int) (RA : Int → Int) (y : Int) (o : Int) (w : Int) (hLP : ∀ k, 0 ≤ LP k ∧ LP k ≤ 2) (hLH : ∀ k, 0 ≤ LH k ∧ LH k ≤ 2199) (hLU : ∀ k, 0 ≤ LU k ∧ LU k ≤ 99999) (hnL : 0 ≤ nL ∧ nL ≤ 40) (hOP : ∀ k, 0 ≤ OP k ∧ OP k ≤ 2) (hOF : ∀ k, 0 ≤ OF k ∧ OF k ≤ 2199) (hOT : ∀ k, 0 ≤ OT k ∧ OT k ≤ 2199) (hnO : 0 ≤ nO ∧ nO ≤ 8) (hFL : ∀ k, 0 ≤ FL k ∧ FL k ≤ 999999) (hDP : ∀ k, 0 ≤ DP k ∧ DP k ≤ 999999) (hRE : ∀ k, 0 ≤ RE k ∧ RE k ≤ 3) (hnY : 0 ≤ nY ∧ nY ≤ 5) (hQ : 0 ≤ Q ∧ Q ≤ 90) (hZH : ∀ k, 0 ≤ ZH k ∧ ZH k ≤ 999999) (hZB : ∀ k, 0 ≤ ZB k ∧ ZB k ≤ 999999) (hdst : dst9 OP OF nO) (hSH : ∀ k, 0 ≤ SH k ∧ SH k ≤ 100) (hPR : ∀ k, 0 ≤ PR k ∧ PR k ≤ 99999) (hRA : ∀ k, 0 ≤ RA k ∧ RA k ≤ 150) (hDP1 : ∀ k, 0 ≤ k → k < nY → 1 ≤ DP k) (hy : -2147483648 ≤ y ∧ y < 2147483648) (ho : -2147483648 ≤ o ∧ o < 2147483648) (hw : -2147483648 ≤ w ∧ w < 2147483648) : gMet l g yX10_hit cX10_hit 6 (some .int) 5 0 0 116 [.ref ko, vi y, vi o, vi w] [(ko, cO 10 (kF th hr nL nO Q nY nE nR nB A)), (A 3, cA g 40 LP), (A 4, cA g 40 LH), (A 5, cA g 40 LU), (A 7, cA g 8 OP), (A 8, cA g 8 OF), (A 9, cA g 8 OT), (A 12, cA g 5 FL), (A 13, cA g 5 DP), (A 15, cA g 5 RE), (A 42, cA g 8 ZP), (A 43, cA g 40 ZH), (A 44, cA g 40 ZB), (A 45, cA g 40 ZL), (A 14, cA g 5 SH), (A 16, cA g 5 PR), (A 17, cA g 5 RA)] (fun v9 w9 => (∃ (ZP2 : Int → Int) (ZH2 : Int → Int) (ZB2 : Int → Int) (ZL2 : Int → Int), (((0 ≤ y ∧ y < nY) ∧ (0 ≤ o ∧ o < nO)) ∧ 0 ≤ w ∧ w ≤ 4) ∧ v9 = some (vi (if w = 0 then kH LP LH LU nL OP OF OT nO Q FL DP SH RE PR RA y o else if w = 1 then kP LP LH LU nL OP OF OT nO Q FL DP SH RE PR RA y o else if w = 2 then kR LP LH LU nL OP OF OT nO Q FL DP SH RE PR RA y o else if w = 3 then kC LP LH LU nL OP OF OT nO Q FL DP SH RE PR RA y o else kL LP LH LU nL OP OF OT nO Q FL DP SH RE PR RA y o)) ∧ w9 = [(ko, cO 10 (kF 0 hr nL nO Q nY nE nR nB A)), (A 3, cA g 40 LP), (A 4, cA g 40 LH), (A 5, cA g 40 LU), (A 7, cA g 8 OP), (A 8, cA g 8 OF), (A 9, cA g 8 OT), (A 12, cA g 5 FL), (A 13, cA g 5 DP), (A 15, cA g 5 RE), (A 42, cA g 8 ZP2), (A 43, cA g 40 ZH2), (A 44, cA g 40 ZB2), (A 45, cA g 40 ZL2), (A 14, cA g 5 SH), (A 16, cA g 5 PR), (A 17, cA g 5 RA)] ∧ (∀ k, 0 ≤ k → k < nO → ZP2 k = plc OP OF nO k) ∧ (∀ y k, 0 ≤ y → y < nY → 0 ≤ k → k < nO → ZH2 (8 * y + k) = kH LP LH LU nL OP OF OT nO Q FL DP SH RE PR RA y k) ∧ (∀ y k, 0 ≤ y → y < nY → 0 ≤ k → k < nO → ZB2 (8 * y + k) = kR LP LH LU nL OP OF OT nO Q FL DP SH RE PR RA y k) ∧ (∀ y k, 0 ≤ y → y < nY → 0 ≤ k → k < nO → ZL2 (8 * y + k) = kL LP LH LU nL OP OF OT nO Q FL DP SH RE PR RA y k) ∧ (∀ k, 0 ≤ ZH2 k ∧ ZH2 k ≤ 999999) ∧ (∀ k, 0 ≤ ZB2 k ∧ ZB2 k ≤ 999999)) ∨ ((¬ ((0 ≤ y ∧ y < nY) ∧ (0 ≤ o ∧ o < nO))) ∧ v9 = some (vi 0) ∧ w9 = [(ko, cO 10 (kF 1 hr nL nO Q nY nE nR nB A)), (A 3, cA g 40 LP), (A 4, cA g 40 LH), (A 5, cA g 40 LU), (A 7, cA g 8 OP), (A 8, cA g 8 OF), (A 9, cA g 8 OT), (A 12, cA g 5 FL), (A 13, cA g 5 DP), (A 15, cA g 5 RE), (A 42, cA g 8 ZP), (A 43, cA g 40 ZH), (A 44, cA g 40 ZB), (A 45, cA g 40 ZL), (A 14, cA g 5 SH), (A 16, cA g 5 PR), (A 17, cA g 5 RA)]) ∨ ((((0 ≤ y ∧ y < nY) ∧ (0 ≤ o ∧ o < nO)) ∧ ¬ (0 ≤ w ∧ w ≤ 4)) ∧ v9 = some (vi 0) ∧ w9 = [(ko, cO 10 (kF 2 hr nL nO Q nY nE nR nB A)), (A 3, cA g 40 LP), (A 4, cA g 40 LH), (A 5, cA g 40 LU), (A 7, cA g 8 OP), (A 8, cA g 8 OF), (A 9, cA g 8 OT), (A 12, cA g 5 FL), (A 13, cA g 5 DP), (A 15, cA g 5 RE), (A 42, cA g 8 ZP), (A 43, cA g 40 ZH), (A 44, cA g 40 ZB), (A 45, cA g 40 ZL), (A 14, cA g 5 SH), (A 16, cA g 5 PR), (A 17, cA g 5 RA)])) := by
  refine gMet.of y_X10_hit.2.2.2.2.1 (Nat.le_of_ble_eq_true rfl) ?_
  intro x hlx C hR hnm
  subst hlx
  have C : gC g x RX10 cX10_hit 6 5 0 0 116 := C
  show gW g x [(ko, cO 10 (kF th hr nL nO Q nY nE nR nB A)), (A 3, cA g 40 LP), (A 4, cA g 40 LH), (A 5, cA g 40 LU), (A 7, cA g 8 OP), (A 8, cA g 8 OF), (A 9, cA g 8 OT), (A 12, cA g 5 FL), (A 13, cA g 5 DP), (A 15, cA g 5 RE), (A 42, cA g 8 ZP), (A 43, cA g 40 ZH), (A 44, cA g 40 ZB), (A 45, cA g 40 ZL), (A 14, cA g 5 SH), (A 16, cA g 5 PR), (A 17, cA g 5 RA)] 0 0 [(0, .ref ko), (1, vi y), (2, vi o), (3, vi w)] 0 []
  have J21 : ∀ (w0 : Int), (w0 = if (0 ≤ y ∧ y < nY) ∧ (0 ≤ o ∧ o < nO) then 1 else 0) → gW g x [(ko, cO 10 (kF th hr nL nO Q nY nE nR nB A)), (A 3, cA g 40 LP), (A 4, cA g 40 LH), (A 5, cA g 40 LU), (A 7, cA g 8 OP), (A 8, cA g 8 OF), (A 9, cA g 8 OT), (A 12, cA g 5 FL), (A 13, cA g 5 DP), (A 15, cA g 5 RE), (A 42, cA g 8 ZP), (A 43, cA g 40 ZH), (A 44, cA g 40 ZB), (A 45, cA g 40 ZL), (A 14, cA g 5 SH), (A 16, cA g 5 PR), (A 17, cA g 5 RA)] 0 0 [(0, .ref ko), (1, vi y), (2, vi o), (3, vi w)] 21 [vi w0] := by
    intro w0 hJ21
    refine g_istore C [(4, vi w0), (0, .ref ko), (1, vi y), (2, vi o), (3, vi w)] dX10_hit_21 (by decide) rfl ?_
    refine g_aload_n C 1 dX10_hit_23 rfl ?_
    have J47 : ∀ (cd : Int), ((cd = 0 ∧ ((0 ≤ y ∧ y < nY) ∧ (0 ≤ o ∧ o < nO)) ∧ 0 ≤ w ∧ w ≤ 4) ∨ (cd = 1 ∧ ¬ ((0 ≤ y ∧ y < nY) ∧ (0 ≤ o ∧ o < nO))) ∨ (cd = 2 ∧ ((0 ≤ y ∧ y < nY) ∧ (0 ≤ o ∧ o < nO)) ∧ ¬ (0 ≤ w ∧ w ≤ 4))) → gW g x [(ko, cO 10 (kF th hr nL nO Q nY nE nR nB A)), (A 3, cA g 40 LP), (A 4, cA g 40 LH), (A 5, cA g 40 LU), (A 7, cA g 8 OP), (A 8, cA g 8 OF), (A 9, cA g 8 OT), (A 12, cA g 5 FL), (A 13, cA g 5 DP), (A 15, cA g 5 RE), (A 42, cA g 8 ZP), (A 43, cA g 40 ZH), (A 44, cA g 40 ZB), (A 45, cA g 40 ZL), (A 14, cA g 5 SH), (A 16, cA g 5 PR), (A 17, cA g 5 RA)] 0 0 [(4, vi w0), (0, .ref ko), (1, vi y), (2, vi o), (3, vi w)] 47 [vi cd, .ref ko] := by
      intro cd hJ47
      refine g_callV C [vi cd] [] (c_X10_goesWell x.1.2.1 g ko A th hr nL nO Q nY nE nR nB cd (by omega)) y_X10_goesWell l_X10_156 [0] rfl (by decide) 0 rfl rfl rfl (Nat.le_of_ble_eq_true rfl) rfl (by decide) dX10_hit_47 (fun v9 w9 hp9 => ?_)
      obtain ⟨rfl, rfl⟩ := hp9
      simp only [putAll, List.set_cons_succ, List.set_cons_zero, List.cons_append, List.nil_append, List.append_nil, Option.toList]
      show gW g x [(ko, cO 10 (kF cd hr nL nO Q nY nE nR nB A)), (A 3, cA g 40 LP), (A 4, cA g 40 LH), (A 5, cA g 40 LU), (A 7, cA g 8 OP), (A 8, cA g 8 OF), (A 9, cA g 8 OT), (A 12, cA g 5 FL), (A 13, cA g 5 DP), (A 15, cA g 5 RE), (A 42, cA g 8 ZP), (A 43, cA g 40 ZH), (A 44, cA g 40 ZB), (A 45, cA g 40 ZL), (A 14, cA g 5 SH), (A 16, cA g 5 PR), (A 17, cA g 5 RA)] 0 0 [(4, vi w0), (0, .ref ko), (1, vi y), (2, vi o), (3, vi w)] 50 [vi (if cd = 0 then 1 else 0)]
      refine g_if_ne C 55 dX10_hit_50 (by decide) (by omega) (fun c50 => ?_) (fun c50 => ?_)
      · obtain ⟨rfl, hok⟩ : cd = 0 ∧ (((0 ≤ y ∧ y < nY) ∧ (0 ≤ o ∧ o < nO)) ∧ 0 ≤ w ∧ w ≤ 4) := by
          rcases hJ47 with ⟨e9, h9⟩ | ⟨e9, h9⟩ | ⟨e9, h9⟩
          · exact ⟨e9, h9⟩
          · exfalso; omega
          · exfalso; omega
        refine g_aload_n C 1 dX10_hit_55 rfl ?_
        refine g_callV C [] [] (c_X10_settle x.1.2.1 g ko A 0 hr nL nO Q nY nE nR nB LP LH LU OP OF OT FL DP RE ZP ZH ZB ZL SH PR RA hLP hLH hLU hnL hOP hOF hOT hnO hFL hDP hRE hnY hQ hZH hZB hdst) y_X10_settle l_X10_233 [0, 1, 2, 3, 4, 5, 6, 7, 8, 9, 10, 11, 12, 13] rfl (by decide) 0 rfl rfl rfl (Nat.le_of_ble_eq_true rfl) rfl (by decide) dX10_hit_56 (fun v9 w9 hp9 => ?_)
        obtain ⟨ZP256, ZH256, ZB256, ZL256, rfl, rfl, hfP_56, hfH_56, hfB_56, hfL_56, hZH_56, hZB_56⟩ := hp9
        simp only [putAll, List.set_cons_succ, List.set_cons_zero, List.cons_append, List.nil_append, List.append_nil, Option.toList]
        show gW g x [(ko, cO 10 (kF 0 hr nL nO Q nY nE nR nB A)), (A 3, cA g 40 LP), (A 4, cA g 40 LH), (A 5, cA g 40 LU), (A 7, cA g 8 OP), (A 8, cA g 8 OF), (A 9, cA g 8 OT), (A 12, cA g 5 FL), (A 13, cA g 5 DP), (A 15, cA g 5 RE), (A 42, cA g 8 ZP256), (A 43, cA g 40 ZH256), (A 44, cA g 40 ZB256), (A 45, cA g 40 ZL256), (A 14, cA g 5 SH), (A 16, cA g 5 PR), (A 17, cA g 5 RA)] 0 0 [(4, vi w0), (0, .ref ko), (1, vi y), (2, vi o), (3, vi w)] 59 []
        refine g_bipush C dX10_hit_59 (by decide) ?_
        refine g_iload_n C 2 dX10_hit_61 rfl ?_
        refine g_imul C dX10_hit_62 ?_
        refine g_iload_n C 3 dX10_hit_63 rfl ?_
        refine g_iadd C dX10_hit_64 ?_
        refine g_istore C [(5, vi ((8 * y) + o)), (4, vi w0), (0, .ref ko), (1, vi y), (2, vi o), (3, vi w)] dX10_hit_65 (by decide) rfl ?_
        have J137 : ∀ (r9 : Int), (r9 = (if w = 0 then kH LP LH LU nL OP OF OT nO Q FL DP SH RE PR RA y o else if w = 1 then kP LP LH LU nL OP OF OT nO Q FL DP SH RE PR RA y o else if w = 2 then kR LP LH LU nL OP OF OT nO Q FL DP SH RE PR RA y o else if w = 3 then kC LP LH LU nL OP OF OT nO Q FL DP SH RE PR RA y o else kL LP LH LU nL OP OF OT nO Q FL DP SH RE PR RA y o)) → gW g x [(ko, cO 10 (kF 0 hr nL nO Q nY nE nR nB A)), (A 3, cA g 40 LP), (A 4, cA g 40 LH), (A 5, cA g 40 LU), (A 7, cA g 8 OP), (A 8, cA g 8 OF), (A 9, cA g 8 OT), (A 12, cA g 5 FL), (A 13, cA g 5 DP), (A 15, cA g 5 RE), (A 42, cA g 8 ZP256), (A 43, cA g 40 ZH256), (A 44, cA g 40 ZB256), (A 45, cA g 40 ZL256), (A 14, cA g 5 SH), (A 16, cA g 5 PR), (A 17, cA g 5 RA)] 0 0 [(5, vi ((8 * y) + o)), (4, vi w0), (0, .ref ko), (1, vi y), (2, vi o), (3, vi w)] 137 [vi r9] := by
          intro r9 hJ137
          exact g_iret C hR dX10_hit_137 (Or.inl ⟨ZP256, ZH256, ZB256, ZL256, hok, (congrArg (fun q => some (vi q)) hJ137), rfl, hfP_56, hfH_56, hfB_56, hfL_56, hZH_56, hZB_56⟩) rfl
        have e1 := hfH_56 y o (by omega) (by omega) (by omega) (by omega)
        have e2 := hfB_56 y o (by omega) (by omega) (by omega) (by omega)
        have e3 := hfL_56 y o (by omega) (by omega) (by omega) (by omega)
        refine g_iload_n C 5 dX10_hit_67 rfl ?_
        refine g_if_ne C 81 dX10_hit_68 (by decide) (by omega) (fun c68 => ?_) (fun c68 => ?_)
        · refine g_iload_n C 5 dX10_hit_81 rfl ?_
          refine g_iconst C dX10_hit_82 ?_
          refine g_icmp_ne C 101 dX10_hit_83 (by decide) (by omega) (by omega) (fun c83 => ?_) (fun c83 => ?_)
          · refine g_iload_n C 5 dX10_hit_101 rfl ?_
            refine g_iconst C dX10_hit_102 ?_
            refine g_icmp_ne C 116 dX10_hit_103 (by decide) (by omega) (by omega) (fun c103 => ?_) (fun c103 => ?_)
            · refine g_iload_n C 5 dX10_hit_116 rfl ?_
              refine g_iconst C dX10_hit_117 ?_
              refine g_icmp_ne C 130 dX10_hit_118 (by decide) (by omega) (by omega) (fun c118 => ?_) (fun c118 => ?_)
              · refine g_aload_n C 2 dX10_hit_130 rfl ?_
                refine g_getf C k_X10 45 f_X10_118 0 rfl rfl (by decide) rfl rfl dX10_hit_131 ?_
                refine g_iload C 0 dX10_hit_134 rfl ?_
                refine g_iald C 13 rfl (by omega) dX10_hit_136 ?_
                exact J137 (ZL256 ((8 * y) + o)) (by first | (rw [if_pos (show w = 0 by omega)]; exact e1) | (rw [if_neg (show ¬ w = 0 by omega), if_pos (show w = 1 by omega), e1]; rfl) | (rw [if_neg (show ¬ w = 0 by omega), if_neg (show ¬ w = 1 by omega), if_pos (show w = 2 by omega)]; exact e2) | (rw [if_neg (show ¬ w = 0 by omega), if_neg (show ¬ w = 1 by omega), if_neg (show ¬ w = 2 by omega), if_pos (show w = 3 by omega), e2]; rfl) | (rw [if_neg (show ¬ w = 0 by omega), if_neg (show ¬ w = 1 by omega), if_neg (show ¬ w = 2 by omega), if_neg (show ¬ w = 3 by omega)]; exact e3))
              refine g_aload_n C 2 dX10_hit_121 rfl ?_
              refine g_iload_n C 3 dX10_hit_122 rfl ?_
              refine g_iload_n C 4 dX10_hit_123 rfl ?_
              have hd19 := hDP1 y (by omega) (by omega)
              refine g_callVp C [vi y, vi o] [] (c_X10_dueBack x.1.2.1 g ko A 0 hr nL nO Q nY nE nR nB DP PR RA ZB256 y o hDP hPR hRA hZB_56 (by omega) (by omega) (by omega) hy ho) y_X10_dueBack l_X10_239 [0, 8, 15, 16, 12] rfl (by decide) 0 rfl rfl rfl (Nat.le_of_ble_eq_true rfl) rfl (by decide) dX10_hit_124 ?_
              refine g_goto C 137 dX10_hit_127 (by decide) ?_
              exact J137 (chg DP PR RA y (ZB256 (8 * y + o))) (by first | (rw [if_pos (show w = 0 by omega)]; exact e1) | (rw [if_neg (show ¬ w = 0 by omega), if_pos (show w = 1 by omega), e1]; rfl) | (rw [if_neg (show ¬ w = 0 by omega), if_neg (show ¬ w = 1 by omega), if_pos (show w = 2 by omega)]; exact e2) | (rw [if_neg (show ¬ w = 0 by omega), if_neg (show ¬ w = 1 by omega), if_neg (show ¬ w = 2 by omega), if_pos (show w = 3 by omega), e2]; rfl) | (rw [if_neg (show ¬ w = 0 by omega), if_neg (show ¬ w = 1 by omega), if_neg (show ¬ w = 2 by omega), if_neg (show ¬ w = 3 by omega)]; exact e3))
            refine g_aload_n C 2 dX10_hit_106 rfl ?_
            refine g_getf C k_X10 44 f_X10_115 0 rfl rfl (by decide) rfl rfl dX10_hit_107 ?_
            refine g_iload C 0 dX10_hit_110 rfl ?_
            refine g_iald C 12 rfl (by omega) dX10_hit_112 ?_
            have r1_112 := hZB_56 ((8 * y) + o)
            refine g_goto C 137 dX10_hit_113 (by decide) ?_
            exact J137 (ZB256 ((8 * y) + o)) (by first | (rw [if_pos (show w = 0 by omega)]; exact e1) | (rw [if_neg (show ¬ w = 0 by omega), if_pos (show w = 1 by omega), e1]; rfl) | (rw [if_neg (show ¬ w = 0 by omega), if_neg (show ¬ w = 1 by omega), if_pos (show w = 2 by omega)]; exact e2) | (rw [if_neg (show ¬ w = 0 by omega), if_neg (show ¬ w = 1 by omega), if_neg (show ¬ w = 2 by omega), if_pos (show w = 3 by omega), e2]; rfl) | (rw [if_neg (show ¬ w = 0 by omega), if_neg (show ¬ w = 1 by omega), if_neg (show ¬ w = 2 by omega), if_neg (show ¬ w = 3 by omega)]; exact e3))
          refine g_aload_n C 2 dX10_hit_86 rfl ?_
          refine g_iload_n C 3 dX10_hit_87 rfl ?_
          refine g_aload_n C 2 dX10_hit_88 rfl ?_
          refine g_getf C k_X10 43 f_X10_112 0 rfl rfl (by decide) rfl rfl dX10_hit_89 ?_
          refine g_iload C 0 dX10_hit_92 rfl ?_
          refine g_iald C 11 rfl (by omega) dX10_hit_94 ?_
          have r2_94 := hZH_56 ((8 * y) + o)
          have hz9 := hZH_56 (8 * y + o)
          refine g_callVp C [vi y, vi (ZH256 ((8 * y) + o))] [] (c_X10_pays x.1.2.1 g ko A 0 hr nL nO Q nY nE nR nB SH y (ZH256 ((8 * y) + o)) hSH (by omega) (by omega) hy (by omega)) y_X10_pays l_X10_236 [0, 14] rfl (by decide) 0 rfl rfl rfl (Nat.le_of_ble_eq_true rfl) rfl (by decide) dX10_hit_95 ?_
          refine g_goto C 137 dX10_hit_98 (by decide) ?_
          exact J137 (pay SH y (ZH256 ((8 * y) + o))) (by first | (rw [if_pos (show w = 0 by omega)]; exact e1) | (rw [if_neg (show ¬ w = 0 by omega), if_pos (show w = 1 by omega), e1]; rfl) | (rw [if_neg (show ¬ w = 0 by omega), if_neg (show ¬ w = 1 by omega), if_pos (show w = 2 by omega)]; exact e2) | (rw [if_neg (show ¬ w = 0 by omega), if_neg (show ¬ w = 1 by omega), if_neg (show ¬ w = 2 by omega), if_pos (show w = 3 by omega), e2]; rfl) | (rw [if_neg (show ¬ w = 0 by omega), if_neg (show ¬ w = 1 by omega), if_neg (show ¬ w = 2 by omega), if_neg (show ¬ w = 3 by omega)]; exact e3))
        refine g_aload_n C 2 dX10_hit_71 rfl ?_
        refine g_getf C k_X10 43 f_X10_112 0 rfl rfl (by decide) rfl rfl dX10_hit_72 ?_
        refine g_iload C 0 dX10_hit_75 rfl ?_
        refine g_iald C 11 rfl (by omega) dX10_hit_77 ?_
        have r3_77 := hZH_56 ((8 * y) + o)
        refine g_goto C 137 dX10_hit_78 (by decide) ?_
        exact J137 (ZH256 ((8 * y) + o)) (by first | (rw [if_pos (show w = 0 by omega)]; exact e1) | (rw [if_neg (show ¬ w = 0 by omega), if_pos (show w = 1 by omega), e1]; rfl) | (rw [if_neg (show ¬ w = 0 by omega), if_neg (show ¬ w = 1 by omega), if_pos (show w = 2 by omega)]; exact e2) | (rw [if_neg (show ¬ w = 0 by omega), if_neg (show ¬ w = 1 by omega), if_neg (show ¬ w = 2 by omega), if_pos (show w = 3 by omega), e2]; rfl) | (rw [if_neg (show ¬ w = 0 by omega), if_neg (show ¬ w = 1 by omega), if_neg (show ¬ w = 2 by omega), if_neg (show ¬ w = 3 by omega)]; exact e3))
      refine g_iconst C dX10_hit_53 ?_
      rcases hJ47 with ⟨e9, h9⟩ | ⟨e9, h9⟩ | ⟨e9, h9⟩
      · exfalso; omega
      · subst e9; exact g_iret C hR dX10_hit_54 (Or.inr (Or.inl ⟨h9, rfl, rfl⟩)) rfl
      · subst e9; exact g_iret C hR dX10_hit_54 (Or.inr (Or.inr (⟨h9, rfl, rfl⟩))) rfl
    refine g_iload C 0 dX10_hit_24 rfl ?_
    refine g_if_ne C 33 dX10_hit_26 (by decide) (by omega) (fun c26 => ?_) (fun c26 => ?_)
    · refine g_iload_n C 4 dX10_hit_33 rfl ?_
      refine g_iconst C dX10_hit_34 ?_
      refine g_iconst C dX10_hit_35 ?_
      refine g_callSp C [vi w, vi 0, vi 4] [.ref ko] (c_X10_in x.1.2.1 g w 0 4 hw (by omega) (by omega)) y_X10_in l_X10_141 [] rfl (by decide) rfl (Nat.le_of_ble_eq_true rfl) rfl (by decide) dX10_hit_36 ?_
      refine g_if_eq C 46 dX10_hit_39 (by decide) (by omega) (fun c39 => ?_) (fun c39 => ?_)
      · refine g_iconst C dX10_hit_46 ?_
        exact J47 2 (by omega)
      refine g_iconst C dX10_hit_42 ?_
      refine g_goto C 47 dX10_hit_43 (by decide) ?_
      exact J47 0 (by omega)
    refine g_iconst C dX10_hit_29 ?_
    refine g_goto C 47 dX10_hit_30 (by decide) ?_
    exact J47 1 (by omega)
  refine g_aload_n C 0 dX10_hit_0 rfl ?_
  refine g_iload_n C 1 dX10_hit_1 rfl ?_
  refine g_callVp C [vi y] [] (c_X10_isLayer x.1.2.1 g ko A th hr nL nO Q nY nE nR nB y hnY hy) y_X10_isLayer l_X10_179 [0] rfl (by decide) 0 rfl rfl rfl (Nat.le_of_ble_eq_true rfl) rfl (by decide) dX10_hit_2 ?_
  refine g_if_eq C 20 dX10_hit_5 (by decide) (by omega) (fun c5 => ?_) (fun c5 => ?_)
  · refine g_iconst C dX10_hit_20 ?_
    exact J21 0 (by omega)
  refine g_aload_n C 0 dX10_hit_8 rfl ?_
  refine g_iload_n C 2 dX10_hit_9 rfl ?_
  refine g_callVp C [vi o] [] (c_X10_isChosen x.1.2.1 g ko A th hr nL nO Q nY nE nR nB o hnO ho) y_X10_isChosen l_X10_230 [0] rfl (by decide) 0 rfl rfl rfl (Nat.le_of_ble_eq_true rfl) rfl (by decide) dX10_hit_10 ?_
  refine g_if_eq C 20 dX10_hit_13 (by decide) (by omega) (fun c13 => ?_) (fun c13 => ?_)
  · refine g_iconst C dX10_hit_20 ?_
    exact J21 0 (by omega)
  refine g_iconst C dX10_hit_16 ?_
  refine g_goto C 21 dX10_hit_17 (by decide) ?_
  exact J21 1 (by omega)

