set_option maxHeartbeats 4000000 in
set_option maxRecDepth 100000 in
theorem c_X10_sumOf (l : Launch) (g : gD) (ko : Nat) (A : Nat → Nat) (th : Int) (hr : Int) (nL : Int) (nO : Int) (Q : Int) (nY : Int) (nE : Int) (nR : Int) (nB : Int) (LP : Int → Int) (LH : Int → Int) (LU : Int → Int) (OP : Int → Int) (OF : Int → Int) (OT : Int → Int) (FL : Int → Int) (DP : Int → Int) (RE : Int → Int) (ZP : Int → Int) (ZH : Int → Int) (ZB : Int → Int) (ZL : Int → Int) (SH : Int → Int) (PR : Int → Int) (RA : Int → Int) (PA : Int → Int) (ZD : Int → Int) (w : Int) (hLP : ∀ k, 0 ≤ LP k ∧ LP k ≤ 2) (hLH : ∀ k, 0 ≤ LH k ∧ LH k ≤ 2199) (hLU : ∀ k, 0 ≤ LU k ∧ LU k ≤ 99999) (hnL : 0 ≤ nL ∧ nL ≤ 40) (hOP : ∀ k, 0 ≤ OP k ∧ OP k ≤ 2) (hOF : ∀ k, 0 ≤ OF k ∧ OF k ≤ 2199) (hOT : ∀ k, 0 ≤ OT k ∧ OT k ≤ 2199) (hnO : 0 ≤ nO ∧ nO ≤ 8) (hFL : ∀ k, 0 ≤ FL k ∧ FL k ≤ 999999) (hDP : ∀ k, 0 ≤ DP k ∧ DP k ≤ 999999) (hRE : ∀ k, 0 ≤ RE k ∧ RE k ≤ 3) (hnY : 0 ≤ nY ∧ nY ≤ 5) (hQ : 0 ≤ Q ∧ Q ≤ 90) (hZH : ∀ k, 0 ≤ ZH k ∧ ZH k ≤ 999999) (hZB : ∀ k, 0 ≤ ZB k ∧ ZB k ≤ 999999) (hdst : dst9 OP OF nO) (hSH : ∀ k, 0 ≤ SH k ∧ SH k ≤ 100) (hPR : ∀ k, 0 ≤ PR k ∧ PR k ≤ 99999) (hRA : ∀ k, 0 ≤ RA k ∧ RA k ≤ 150) (hDP1 : ∀ k, 0 ≤ k → k < nY → 1 ≤ DP k) (hPA : ∀ k, 0 ≤ PA k ∧ PA k ≤ 100) (hZD : ∀ k, 0 ≤ ZD k ∧ ZD k ≤ 100000000) (hdj : dj9 OP OF OT nO) (hw : 0 ≤ w ∧ w ≤ 7) (hw : -2147483648 ≤ w ∧ w < 2147483648) : gMet l g yX10_sumOf cX10_sumOf 9 (some .int) 6 0 0 139 [.ref ko, vi w] [(ko, cO 10 (kF th hr nL nO Q nY nE nR nB A)), (A 3, cA g 40 LP), (A 4, cA g 40 LH), (A 5, cA g 40 LU), (A 7, cA g 8 OP), (A 8, cA g 8 OF), (A 9, cA g 8 OT), (A 12, cA g 5 FL), (A 13, cA g 5 DP), (A 15, cA g 5 RE), (A 42, cA g 8 ZP), (A 43, cA g 40 ZH), (A 44, cA g 40 ZB), (A 45, cA g 40 ZL), (A 14, cA g 5 SH), (A 16, cA g 5 PR), (A 17, cA g 5 RA), (A 18, cA g 30 PA), (A 46, cJ g 6 ZD)] (fun v9 w9 => ∃ (ZP2 : Int → Int) (ZH2 : Int → Int) (ZB2 : Int → Int) (ZL2 : Int → Int) (ZD2 : Int → Int), v9 = (some (vi (if w = 0 then sm LU nL else if w = 1 then sm LU nL - sm (fun o => gro LP LH LU nL OP OF OT o) nO else if w = 2 then sm (fun o => qto Q (gro LP LH LU nL OP OF OT o)) nO else if w = 3 then sm (fun o => kD LP LH LU nL OP OF OT nO Q FL DP SH RE PR RA nY o) nO else if w = 4 then sm (fun o => qto Q (gro LP LH LU nL OP OF OT o)) nO + sm (fun o => kD LP LH LU nL OP OF OT nO Q FL DP SH RE PR RA nY o) nO - sm (fun z => kB LP LH LU nL OP OF OT nO Q FL DP SH RE PR RA PA nY z) 6 else if w = 5 then sm (fun o => kE LP LH LU nL OP OF OT nO Q FL DP SH RE PR RA nY o) nO else if w = 6 then sm LU nL - sm (fun z => kB LP LH LU nL OP OF OT nO Q FL DP SH RE PR RA PA nY z) 6 + sm (fun o => kE LP LH LU nL OP OF OT nO Q FL DP SH RE PR RA nY o) nO else sm (fun z => kB LP LH LU nL OP OF OT nO Q FL DP SH RE PR RA PA nY z) 6))) ∧ w9 = [(ko, cO 10 (kF th hr nL nO Q nY nE nR nB A)), (A 3, cA g 40 LP), (A 4, cA g 40 LH), (A 5, cA g 40 LU), (A 7, cA g 8 OP), (A 8, cA g 8 OF), (A 9, cA g 8 OT), (A 12, cA g 5 FL), (A 13, cA g 5 DP), (A 15, cA g 5 RE), (A 42, cA g 8 ZP2), (A 43, cA g 40 ZH2), (A 44, cA g 40 ZB2), (A 45, cA g 40 ZL2), (A 14, cA g 5 SH), (A 16, cA g 5 PR), (A 17, cA g 5 RA), (A 18, cA g 30 PA), (A 46, cJ g 6 ZD2)] ∧ (∀ k, 0 ≤ k → k < nO → ZP2 k = plc OP OF nO k) ∧ (∀ y k, 0 ≤ y → y < nY → 0 ≤ k → k < nO → ZH2 (8 * y + k) = kH LP LH LU nL OP OF OT nO Q FL DP SH RE PR RA y k) ∧ (∀ y k, 0 ≤ y → y < nY → 0 ≤ k → k < nO → ZB2 (8 * y + k) = kR LP LH LU nL OP OF OT nO Q FL DP SH RE PR RA y k) ∧ (∀ y k, 0 ≤ y → y < nY → 0 ≤ k → k < nO → ZL2 (8 * y + k) = kL LP LH LU nL OP OF OT nO Q FL DP SH RE PR RA y k) ∧ (∀ k, 0 ≤ ZH2 k ∧ ZH2 k ≤ 999999) ∧ (∀ k, 0 ≤ ZB2 k ∧ ZB2 k ≤ 999999) ∧ (∀ z, 0 ≤ z → z < 6 → ZD2 z = kB LP LH LU nL OP OF OT nO Q FL DP SH RE PR RA PA nY z) ∧ (∀ k, 0 ≤ ZD2 k ∧ ZD2 k ≤ 100000000)) := by
  refine gMet.of y_X10_sumOf.2.2.2.2.1 (Nat.le_of_ble_eq_true rfl) ?_
  intro x hlx C hR hnm
  subst hlx
  have C : gC g x RX10 cX10_sumOf 9 6 0 0 139 := C
  show gW g x [(ko, cO 10 (kF th hr nL nO Q nY nE nR nB A)), (A 3, cA g 40 LP), (A 4, cA g 40 LH), (A 5, cA g 40 LU), (A 7, cA g 8 OP), (A 8, cA g 8 OF), (A 9, cA g 8 OT), (A 12, cA g 5 FL), (A 13, cA g 5 DP), (A 15, cA g 5 RE), (A 42, cA g 8 ZP), (A 43, cA g 40 ZH), (A 44, cA g 40 ZB), (A 45, cA g 40 ZL), (A 14, cA g 5 SH), (A 16, cA g 5 PR), (A 17, cA g 5 RA), (A 18, cA g 30 PA), (A 46, cJ g 6 ZD)] 0 0 [(0, .ref ko), (1, vi w)] 0 []
  refine g_aload_n C 0 dX10_sumOf_0 rfl ?_
  refine g_callV C [] [] (c_X10_findDirect x.1.2.1 g ko A th hr nL nO Q nY nE nR nB LP LH LU OP OF OT FL DP RE ZP ZH ZB ZL SH PR RA PA ZD hLP hLH hLU hnL hOP hOF hOT hnO hFL hDP hRE hnY hQ hZH hZB hdst hSH hPR hRA hDP1 hPA hZD) y_X10_findDirect l_X10_242 [0, 1, 2, 3, 4, 5, 6, 7, 8, 9, 10, 11, 12, 13, 14, 15, 16, 17, 18] rfl (by decide) 0 rfl rfl rfl (Nat.le_of_ble_eq_true rfl) rfl (by decide) dX10_sumOf_1 (fun v9 w9 hp9 => ?_)
  obtain ⟨ZP21, ZH21, ZB21, ZL21, ZD21, rfl, rfl, hfP_1, hfH_1, hfB_1, hfL_1, hZH_1, hZB_1, hfD_1, hZD_1⟩ := hp9
  simp only [putAll, List.set_cons_succ, List.set_cons_zero, List.cons_append, List.nil_append, List.append_nil, Option.toList]
  show gW g x [(ko, cO 10 (kF th hr nL nO Q nY nE nR nB A)), (A 3, cA g 40 LP), (A 4, cA g 40 LH), (A 5, cA g 40 LU), (A 7, cA g 8 OP), (A 8, cA g 8 OF), (A 9, cA g 8 OT), (A 12, cA g 5 FL), (A 13, cA g 5 DP), (A 15, cA g 5 RE), (A 42, cA g 8 ZP21), (A 43, cA g 40 ZH21), (A 44, cA g 40 ZB21), (A 45, cA g 40 ZL21), (A 14, cA g 5 SH), (A 16, cA g 5 PR), (A 17, cA g 5 RA), (A 18, cA g 30 PA), (A 46, cJ g 6 ZD21)] 0 0 [(0, .ref ko), (1, vi w)] 4 []
  refine g_iconst C dX10_sumOf_4 ?_
  refine g_istore_n C [(2, vi 0), (0, .ref ko), (1, vi w)] dX10_sumOf_5 (by decide) rfl ?_
  refine g_iconst C dX10_sumOf_6 ?_
  refine g_istore_n C [(3, vi 0), (2, vi 0), (0, .ref ko), (1, vi w)] dX10_sumOf_7 (by decide) rfl ?_
  refine g_iconst C dX10_sumOf_8 ?_
  refine g_istore C [(4, vi 0), (3, vi 0), (2, vi 0), (0, .ref ko), (1, vi w)] dX10_sumOf_9 (by decide) rfl ?_
  have L11 : ∀ (f : Nat) (al : Int) (ot : Int) (l : Int), (0 ≤ l ∧ l ≤ nL ∧ al = sm LU l ∧ ot = sm (ou9 LP LH LU OP OF OT nO) l) → (nL - l).toNat < f → gW g x [(ko, cO 10 (kF th hr nL nO Q nY nE nR nB A)), (A 3, cA g 40 LP), (A 4, cA g 40 LH), (A 5, cA g 40 LU), (A 7, cA g 8 OP), (A 8, cA g 8 OF), (A 9, cA g 8 OT), (A 12, cA g 5 FL), (A 13, cA g 5 DP), (A 15, cA g 5 RE), (A 42, cA g 8 ZP21), (A 43, cA g 40 ZH21), (A 44, cA g 40 ZB21), (A 45, cA g 40 ZL21), (A 14, cA g 5 SH), (A 16, cA g 5 PR), (A 17, cA g 5 RA), (A 18, cA g 30 PA), (A 46, cJ g 6 ZD21)] 0 0 [(4, vi l), (3, vi ot), (2, vi al), (0, .ref ko), (1, vi w)] 11 [] := by
    intro f
    induction f with
    | zero => intro al ot l hI11 hf; exact absurd hf (Nat.not_lt_zero _)
    | succ f ih11 =>
      intro al ot l hI11 hf11
      obtain ⟨hl0, hl1, hal, hot⟩ := hI11
      refine g_iload C 0 dX10_sumOf_11 rfl ?_
      refine g_aload_n C 3 dX10_sumOf_13 rfl ?_
      refine g_getf C k_X10 2 f_X10_153 0 rfl rfl (by decide) rfl rfl dX10_sumOf_14 ?_
      refine g_icmp_ge C 59 dX10_sumOf_17 (by decide) (by omega) (by omega) (fun c17 => ?_) (fun c17 => ?_)
      · have hal : al = sm LU nL := by rw [hal, show l = nL by omega]
        have hot : ot = sm LU nL - sm (fun o => gro LP LH LU nL OP OF OT o) nO := by rw [hot, show l = nL by omega, sum_out hdj LP LH LU hnL.1 hnO.1]
        refine g_iconst C dX10_sumOf_59 ?_
        refine g_istore C [(4, vi 0), (3, vi ot), (2, vi al), (0, .ref ko), (1, vi w)] dX10_sumOf_60 (by decide) rfl ?_
        refine g_iconst C dX10_sumOf_62 ?_
        refine g_istore C [(5, vi 0), (4, vi 0), (3, vi ot), (2, vi al), (0, .ref ko), (1, vi w)] dX10_sumOf_63 (by decide) rfl ?_
        refine g_iconst C dX10_sumOf_65 ?_
        refine g_istore C [(6, vi 0), (5, vi 0), (4, vi 0), (3, vi ot), (2, vi al), (0, .ref ko), (1, vi w)] dX10_sumOf_66 (by decide) rfl ?_
        refine g_iconst C dX10_sumOf_68 ?_
        refine g_istore C [(7, vi 0), (6, vi 0), (5, vi 0), (4, vi 0), (3, vi ot), (2, vi al), (0, .ref ko), (1, vi w)] dX10_sumOf_69 (by decide) rfl ?_
        have L71 : ∀ (f : Nat) (ta : Int) (pa : Int) (du : Int) (o : Int), (0 ≤ o ∧ o ≤ nO ∧ ta = sm (fun o => qto Q (gro LP LH LU nL OP OF OT o)) o ∧ pa = sm (fun o => kD LP LH LU nL OP OF OT nO Q FL DP SH RE PR RA nY o) o ∧ du = sm (fun o => kE LP LH LU nL OP OF OT nO Q FL DP SH RE PR RA nY o) o) → (nO - o).toNat < f → gW g x [(ko, cO 10 (kF th hr nL nO Q nY nE nR nB A)), (A 3, cA g 40 LP), (A 4, cA g 40 LH), (A 5, cA g 40 LU), (A 7, cA g 8 OP), (A 8, cA g 8 OF), (A 9, cA g 8 OT), (A 12, cA g 5 FL), (A 13, cA g 5 DP), (A 15, cA g 5 RE), (A 42, cA g 8 ZP21), (A 43, cA g 40 ZH21), (A 44, cA g 40 ZB21), (A 45, cA g 40 ZL21), (A 14, cA g 5 SH), (A 16, cA g 5 PR), (A 17, cA g 5 RA), (A 18, cA g 30 PA), (A 46, cJ g 6 ZD21)] 0 0 [(7, vi o), (6, vi du), (5, vi pa), (4, vi ta), (3, vi ot), (2, vi al), (0, .ref ko), (1, vi w)] 71 [] := by
          intro f
          induction f with
          | zero => intro ta pa du o hI71 hf; exact absurd hf (Nat.not_lt_zero _)
          | succ f ih71 =>
            intro ta pa du o hI71 hf71
            obtain ⟨ho0, ho1, hta, hpa, hdu⟩ := hI71
            have hg9 := gro_r (LP := LP) (LH := LH) hLU hnL OP OF OT o
            refine g_iload C 0 dX10_sumOf_71 rfl ?_
            refine g_aload_n C 6 dX10_sumOf_73 rfl ?_
            refine g_getf C k_X10 6 f_X10_163 0 rfl rfl (by decide) rfl rfl dX10_sumOf_74 ?_
            refine g_icmp_ge C 156 dX10_sumOf_77 (by decide) (by omega) (by omega) (fun c77 => ?_) (fun c77 => ?_)
            · have hta : ta = sm (fun o => qto Q (gro LP LH LU nL OP OF OT o)) nO := by rw [hta, show o = nO by omega]
              have hpa : pa = sm (fun o => kD LP LH LU nL OP OF OT nO Q FL DP SH RE PR RA nY o) nO := by rw [hpa, show o = nO by omega]
              have hdu : du = sm (fun o => kE LP LH LU nL OP OF OT nO Q FL DP SH RE PR RA nY o) nO := by rw [hdu, show o = nO by omega]
              refine g_iconst C dX10_sumOf_156 ?_
              refine g_istore C [(7, vi 0), (6, vi du), (5, vi pa), (4, vi ta), (3, vi ot), (2, vi al), (0, .ref ko), (1, vi w)] dX10_sumOf_157 (by decide) rfl ?_
              refine g_iconst C dX10_sumOf_159 ?_
              refine g_istore C [(8, vi 0), (7, vi 0), (6, vi du), (5, vi pa), (4, vi ta), (3, vi ot), (2, vi al), (0, .ref ko), (1, vi w)] dX10_sumOf_160 (by decide) rfl ?_
              have L162 : ∀ (f : Nat) (bo : Int) (r9 : Int), (0 ≤ r9 ∧ r9 ≤ 6 ∧ bo = sm ZD21 r9) → (6 - r9).toNat < f → gW g x [(ko, cO 10 (kF th hr nL nO Q nY nE nR nB A)), (A 3, cA g 40 LP), (A 4, cA g 40 LH), (A 5, cA g 40 LU), (A 7, cA g 8 OP), (A 8, cA g 8 OF), (A 9, cA g 8 OT), (A 12, cA g 5 FL), (A 13, cA g 5 DP), (A 15, cA g 5 RE), (A 42, cA g 8 ZP21), (A 43, cA g 40 ZH21), (A 44, cA g 40 ZB21), (A 45, cA g 40 ZL21), (A 14, cA g 5 SH), (A 16, cA g 5 PR), (A 17, cA g 5 RA), (A 18, cA g 30 PA), (A 46, cJ g 6 ZD21)] 0 0 [(8, vi r9), (7, vi bo), (6, vi du), (5, vi pa), (4, vi ta), (3, vi ot), (2, vi al), (0, .ref ko), (1, vi w)] 162 [] := by
                intro f
                induction f with
                | zero => intro bo r9 hI162 hf; exact absurd hf (Nat.not_lt_zero _)
                | succ f ih162 =>
                  intro bo r9 hI162 hf162
                  obtain ⟨hr0, hr1, hbo⟩ := hI162
                  refine g_iload C 0 dX10_sumOf_162 rfl ?_
                  refine g_bipush C dX10_sumOf_164 (by decide) ?_
                  refine g_icmp_ge C 188 dX10_sumOf_166 (by decide) (by omega) (by omega) (fun c166 => ?_) (fun c166 => ?_)
                  · have hbo : bo = sm (fun z => kB LP LH LU nL OP OF OT nO Q FL DP SH RE PR RA PA nY z) 6 := by rw [hbo, show r9 = 6 by omega]; exact sm_congr (by omega) (fun z z0 z1 => hfD_1 z z0 z1)
                    refine g_iload_n C 8 dX10_sumOf_188 rfl ?_
                    by_cases e189_0 : w = 0
                    · refine g_tin C 232 dX10_sumOf_189 0 e189_0 (by decide) rfl (by decide) ?_
                      refine g_iload_n C 6 dX10_sumOf_232 rfl ?_
                      exact g_iret C hR dX10_sumOf_233 ⟨ZP21, ZH21, ZB21, ZL21, ZD21, (congrArg (fun q => some (vi q)) (by rw [if_pos (show w = 0 by omega)]; omega)), rfl, hfP_1, hfH_1, hfB_1, hfL_1, hZH_1, hZB_1, hfD_1, hZD_1⟩ rfl
                    by_cases e189_1 : w = 1
                    · refine g_tin C 234 dX10_sumOf_189 1 e189_1 (by decide) rfl (by decide) ?_
                      refine g_iload_n C 5 dX10_sumOf_234 rfl ?_
                      exact g_iret C hR dX10_sumOf_235 ⟨ZP21, ZH21, ZB21, ZL21, ZD21, (congrArg (fun q => some (vi q)) (by rw [if_neg (show ¬ w = 0 by omega)]; rw [if_pos (show w = 1 by omega)]; omega)), rfl, hfP_1, hfH_1, hfB_1, hfL_1, hZH_1, hZB_1, hfD_1, hZD_1⟩ rfl
                    by_cases e189_2 : w = 2
                    · refine g_tin C 236 dX10_sumOf_189 2 e189_2 (by decide) rfl (by decide) ?_
                      refine g_iload C 4 dX10_sumOf_236 rfl ?_
                      exact g_iret C hR dX10_sumOf_238 ⟨ZP21, ZH21, ZB21, ZL21, ZD21, (congrArg (fun q => some (vi q)) (by rw [if_neg (show ¬ w = 0 by omega)]; rw [if_neg (show ¬ w = 1 by omega)]; rw [if_pos (show w = 2 by omega)]; omega)), rfl, hfP_1, hfH_1, hfB_1, hfL_1, hZH_1, hZB_1, hfD_1, hZD_1⟩ rfl
                    by_cases e189_3 : w = 3
                    · refine g_tin C 239 dX10_sumOf_189 3 e189_3 (by decide) rfl (by decide) ?_
                      refine g_iload C 3 dX10_sumOf_239 rfl ?_
                      exact g_iret C hR dX10_sumOf_241 ⟨ZP21, ZH21, ZB21, ZL21, ZD21, (congrArg (fun q => some (vi q)) (by rw [if_neg (show ¬ w = 0 by omega)]; rw [if_neg (show ¬ w = 1 by omega)]; rw [if_neg (show ¬ w = 2 by omega)]; rw [if_pos (show w = 3 by omega)]; omega)), rfl, hfP_1, hfH_1, hfB_1, hfL_1, hZH_1, hZB_1, hfD_1, hZD_1⟩ rfl
                    by_cases e189_4 : w = 4
                    · refine g_tin C 242 dX10_sumOf_189 4 e189_4 (by decide) rfl (by decide) ?_
                      refine g_iload C 3 dX10_sumOf_242 rfl ?_
                      refine g_iload C 1 dX10_sumOf_244 rfl ?_
                      refine g_iload C 4 dX10_sumOf_246 rfl ?_
                      refine g_isub C dX10_sumOf_248 ?_
                      refine g_isub C dX10_sumOf_249 ?_
                      exact g_iret C hR dX10_sumOf_250 ⟨ZP21, ZH21, ZB21, ZL21, ZD21, (congrArg (fun q => some (vi q)) (by rw [if_neg (show ¬ w = 0 by omega)]; rw [if_neg (show ¬ w = 1 by omega)]; rw [if_neg (show ¬ w = 2 by omega)]; rw [if_neg (show ¬ w = 3 by omega)]; rw [if_pos (show w = 4 by omega)]; omega)), rfl, hfP_1, hfH_1, hfB_1, hfL_1, hZH_1, hZB_1, hfD_1, hZD_1⟩ rfl
                    by_cases e189_5 : w = 5
                    · refine g_tin C 251 dX10_sumOf_189 5 e189_5 (by decide) rfl (by decide) ?_
                      refine g_iload C 2 dX10_sumOf_251 rfl ?_
                      exact g_iret C hR dX10_sumOf_253 ⟨ZP21, ZH21, ZB21, ZL21, ZD21, (congrArg (fun q => some (vi q)) (by rw [if_neg (show ¬ w = 0 by omega)]; rw [if_neg (show ¬ w = 1 by omega)]; rw [if_neg (show ¬ w = 2 by omega)]; rw [if_neg (show ¬ w = 3 by omega)]; rw [if_neg (show ¬ w = 4 by omega)]; rw [if_pos (show w = 5 by omega)]; omega)), rfl, hfP_1, hfH_1, hfB_1, hfL_1, hZH_1, hZB_1, hfD_1, hZD_1⟩ rfl
                    by_cases e189_6 : w = 6
                    · refine g_tin C 254 dX10_sumOf_189 6 e189_6 (by decide) rfl (by decide) ?_
                      refine g_iload_n C 6 dX10_sumOf_254 rfl ?_
                      refine g_iload C 1 dX10_sumOf_255 rfl ?_
                      refine g_isub C dX10_sumOf_257 ?_
                      refine g_iload C 2 dX10_sumOf_258 rfl ?_
                      refine g_iadd C dX10_sumOf_260 ?_
                      exact g_iret C hR dX10_sumOf_261 ⟨ZP21, ZH21, ZB21, ZL21, ZD21, (congrArg (fun q => some (vi q)) (by rw [if_neg (show ¬ w = 0 by omega)]; rw [if_neg (show ¬ w = 1 by omega)]; rw [if_neg (show ¬ w = 2 by omega)]; rw [if_neg (show ¬ w = 3 by omega)]; rw [if_neg (show ¬ w = 4 by omega)]; rw [if_neg (show ¬ w = 5 by omega)]; rw [if_pos (show w = 6 by omega)]; omega)), rfl, hfP_1, hfH_1, hfB_1, hfL_1, hZH_1, hZB_1, hfD_1, hZD_1⟩ rfl
                    refine g_tout C 262 dX10_sumOf_189 (by omega) (by omega) (by decide) ?_
                    refine g_iload C 1 dX10_sumOf_262 rfl ?_
                    exact g_iret C hR dX10_sumOf_264 ⟨ZP21, ZH21, ZB21, ZL21, ZD21, (congrArg (fun q => some (vi q)) (by rw [if_neg (show ¬ w = 0 by omega)]; rw [if_neg (show ¬ w = 1 by omega)]; rw [if_neg (show ¬ w = 2 by omega)]; rw [if_neg (show ¬ w = 3 by omega)]; rw [if_neg (show ¬ w = 4 by omega)]; rw [if_neg (show ¬ w = 5 by omega)]; rw [if_neg (show ¬ w = 6 by omega)]; omega)), rfl, hfP_1, hfH_1, hfB_1, hfL_1, hZH_1, hZB_1, hfD_1, hZD_1⟩ rfl
                  refine g_iload C 1 dX10_sumOf_169 rfl ?_
                  refine g_aload_n C 7 dX10_sumOf_171 rfl ?_
                  refine g_getf C k_X10 46 f_X10_121 0 rfl rfl (by decide) rfl rfl dX10_sumOf_172 ?_
                  refine g_iload C 0 dX10_sumOf_175 rfl ?_
                  refine g_lald C 18 rfl (by omega) dX10_sumOf_177 ?_
                  have r1_177 := hZD_1 r9
                  refine g_l2i C dX10_sumOf_178 ?_
                  refine g_iadd C dX10_sumOf_179 ?_
                  refine g_istore C [(7, vi (bo + (ZD21 r9))), (8, vi r9), (6, vi du), (5, vi pa), (4, vi ta), (3, vi ot), (2, vi al), (0, .ref ko), (1, vi w)] dX10_sumOf_180 (by decide) rfl ?_
                  refine g_iinc C 1 [(8, vi (r9 + 1)), (7, vi (bo + (ZD21 r9))), (6, vi du), (5, vi pa), (4, vi ta), (3, vi ot), (2, vi al), (0, .ref ko), (1, vi w)] dX10_sumOf_182 rfl (by decide) rfl ?_
                  refine g_goto C 162 dX10_sumOf_185 (by decide) ?_
                  exact ih162 (bo + (ZD21 r9)) (r9 + 1) ⟨by omega, by omega, by rw [sm_s _ hr0, ← hbo]⟩ (by omega)
              exact L162 _ 0 0 ⟨by omega, by omega, rfl⟩ (Nat.lt_succ_self _)
            refine g_iload C 3 dX10_sumOf_80 rfl ?_
            refine g_aload_n C 6 dX10_sumOf_82 rfl ?_
            refine g_aload_n C 6 dX10_sumOf_83 rfl ?_
            refine g_iload C 0 dX10_sumOf_84 rfl ?_
            refine g_callVp C [vi o] [.ref ko, vi ta] (c_X10_ground x.1.2.1 g ko A th hr nL nO Q nY nE nR nB LP LH LU OP OF OT o hLP hLH hLU hnL hOP hOF hOT (by omega) (by omega)) y_X10_ground l_X10_213 [0, 1, 2, 3, 4, 5, 6] rfl (by decide) 0 rfl rfl rfl (Nat.le_of_ble_eq_true rfl) rfl (by decide) dX10_sumOf_86 ?_
            refine g_callVp C [vi (gro LP LH LU nL OP OF OT o)] [vi ta] (c_X10_ceded x.1.2.1 g ko A th hr nL nO Q nY nE nR nB (gro LP LH LU nL OP OF OT o) hQ (by omega) (by omega)) y_X10_ceded l_X10_216 [0] rfl (by decide) 0 rfl rfl rfl (Nat.le_of_ble_eq_true rfl) rfl (by decide) dX10_sumOf_89 ?_
            refine g_iadd C dX10_sumOf_92 ?_
            refine g_istore C [(4, vi (ta + (qto Q (gro LP LH LU nL OP OF OT o)))), (7, vi o), (6, vi du), (5, vi pa), (3, vi ot), (2, vi al), (0, .ref ko), (1, vi w)] dX10_sumOf_93 (by decide) rfl ?_
            refine g_iconst C dX10_sumOf_95 ?_
            refine g_istore C [(8, vi 0), (4, vi (ta + (qto Q (gro LP LH LU nL OP OF OT o)))), (7, vi o), (6, vi du), (5, vi pa), (3, vi ot), (2, vi al), (0, .ref ko), (1, vi w)] dX10_sumOf_96 (by decide) rfl ?_
            have L98 : ∀ (f : Nat) (pl : Int) (dl : Int) (l : Int), (0 ≤ l ∧ l ≤ nY ∧ pl = pa + sm (fun y => kP LP LH LU nL OP OF OT nO Q FL DP SH RE PR RA y o) l ∧ dl = du + sm (fun y => kC LP LH LU nL OP OF OT nO Q FL DP SH RE PR RA y o) l) → (nY - l).toNat < f → gW g x [(ko, cO 10 (kF th hr nL nO Q nY nE nR nB A)), (A 3, cA g 40 LP), (A 4, cA g 40 LH), (A 5, cA g 40 LU), (A 7, cA g 8 OP), (A 8, cA g 8 OF), (A 9, cA g 8 OT), (A 12, cA g 5 FL), (A 13, cA g 5 DP), (A 15, cA g 5 RE), (A 42, cA g 8 ZP21), (A 43, cA g 40 ZH21), (A 44, cA g 40 ZB21), (A 45, cA g 40 ZL21), (A 14, cA g 5 SH), (A 16, cA g 5 PR), (A 17, cA g 5 RA), (A 18, cA g 30 PA), (A 46, cJ g 6 ZD21)] 0 0 [(8, vi l), (4, vi (ta + (qto Q (gro LP LH LU nL OP OF OT o)))), (7, vi o), (6, vi dl), (5, vi pl), (3, vi ot), (2, vi al), (0, .ref ko), (1, vi w)] 98 [] := by
              intro f
              induction f with
              | zero => intro pl dl l hI98 hf; exact absurd hf (Nat.not_lt_zero _)
              | succ f ih98 =>
                intro pl dl l hI98 hf98
                obtain ⟨hl0, hl1, hpl, hdl⟩ := hI98
                refine g_iload C 0 dX10_sumOf_98 rfl ?_
                refine g_aload_n C 7 dX10_sumOf_100 rfl ?_
                refine g_getf C k_X10 11 f_X10_176 0 rfl rfl (by decide) rfl rfl dX10_sumOf_101 ?_
                refine g_icmp_ge C 150 dX10_sumOf_104 (by decide) (by omega) (by omega) (fun c104 => ?_) (fun c104 => ?_)
                · refine g_iinc C 2 [(7, vi (o + 1)), (8, vi l), (4, vi (ta + (qto Q (gro LP LH LU nL OP OF OT o)))), (6, vi dl), (5, vi pl), (3, vi ot), (2, vi al), (0, .ref ko), (1, vi w)] dX10_sumOf_150 rfl (by decide) rfl ?_
                  refine g_goto C 71 dX10_sumOf_153 (by decide) ?_
                  refine g_lv [(7, vi (o + 1)), (6, vi dl), (5, vi pl), (4, vi (ta + (qto Q (gro LP LH LU nL OP OF OT o)))), (3, vi ot), (2, vi al), (0, .ref ko), (1, vi w)] [0, 3, 4, 2, 5, 6, 7, 8] rfl ?_
                  exact ih71 (ta + (qto Q (gro LP LH LU nL OP OF OT o))) pl dl (o + 1) ⟨by omega, by omega, by rw [sm_s _ ho0, ← hta], by rw [sm_s _ ho0, ← hpa, hpl, show l = nY by omega]; rfl, by rw [sm_s _ ho0, ← hdu, hdl, show l = nY by omega]; rfl⟩ (by omega)
                refine g_iload C 4 dX10_sumOf_107 rfl ?_
                refine g_aload_n C 7 dX10_sumOf_109 rfl ?_
                refine g_iload C 0 dX10_sumOf_110 rfl ?_
                refine g_aload_n C 7 dX10_sumOf_112 rfl ?_
                refine g_getf C k_X10 43 f_X10_112 0 rfl rfl (by decide) rfl rfl dX10_sumOf_113 ?_
                refine g_bipush C dX10_sumOf_116 (by decide) ?_
                refine g_iload C 0 dX10_sumOf_118 rfl ?_
                refine g_imul C dX10_sumOf_120 ?_
                refine g_iload C 2 dX10_sumOf_121 rfl ?_
                refine g_iadd C dX10_sumOf_123 ?_
                refine g_iald C 11 rfl (by omega) dX10_sumOf_124 ?_
                have r2_124 := hZH_1 ((8 * l) + o)
                have hz9 := hZH_1 (8 * l + o)
                refine g_callVp C [vi l, vi (ZH21 ((8 * l) + o))] [vi pl] (c_X10_pays x.1.2.1 g ko A th hr nL nO Q nY nE nR nB SH l (ZH21 ((8 * l) + o)) hSH (by omega) (by omega) (by omega) (by omega)) y_X10_pays l_X10_236 [0, 14] rfl (by decide) 0 rfl rfl rfl (Nat.le_of_ble_eq_true rfl) rfl (by decide) dX10_sumOf_125 ?_
                refine g_iadd C dX10_sumOf_128 ?_
                refine g_istore C [(5, vi (pl + (pay SH l (ZH21 ((8 * l) + o))))), (8, vi l), (4, vi (ta + (qto Q (gro LP LH LU nL OP OF OT o)))), (7, vi o), (6, vi dl), (3, vi ot), (2, vi al), (0, .ref ko), (1, vi w)] dX10_sumOf_129 (by decide) rfl ?_
                refine g_iload C 4 dX10_sumOf_131 rfl ?_
                refine g_aload_n C 7 dX10_sumOf_133 rfl ?_
                refine g_iload C 1 dX10_sumOf_134 rfl ?_
                refine g_iload C 3 dX10_sumOf_136 rfl ?_
                have hd19 := hDP1 l hl0 (by omega)
                refine g_callVp C [vi l, vi o] [vi dl] (c_X10_dueBack x.1.2.1 g ko A th hr nL nO Q nY nE nR nB DP PR RA ZB21 l o hDP hPR hRA hZB_1 (by omega) (by omega) (by omega) (by omega) (by omega)) y_X10_dueBack l_X10_239 [0, 8, 15, 16, 12] rfl (by decide) 0 rfl rfl rfl (Nat.le_of_ble_eq_true rfl) rfl (by decide) dX10_sumOf_138 ?_
                refine g_iadd C dX10_sumOf_141 ?_
                refine g_istore C [(6, vi (dl + (chg DP PR RA l (ZB21 (8 * l + o))))), (5, vi (pl + (pay SH l (ZH21 ((8 * l) + o))))), (8, vi l), (4, vi (ta + (qto Q (gro LP LH LU nL OP OF OT o)))), (7, vi o), (3, vi ot), (2, vi al), (0, .ref ko), (1, vi w)] dX10_sumOf_142 (by decide) rfl ?_
                refine g_iinc C 2 [(8, vi (l + 1)), (6, vi (dl + (chg DP PR RA l (ZB21 (8 * l + o))))), (5, vi (pl + (pay SH l (ZH21 ((8 * l) + o))))), (4, vi (ta + (qto Q (gro LP LH LU nL OP OF OT o)))), (7, vi o), (3, vi ot), (2, vi al), (0, .ref ko), (1, vi w)] dX10_sumOf_144 rfl (by decide) rfl ?_
                refine g_goto C 98 dX10_sumOf_147 (by decide) ?_
                refine g_lv [(8, vi (l + 1)), (4, vi (ta + (qto Q (gro LP LH LU nL OP OF OT o)))), (7, vi o), (6, vi (dl + (chg DP PR RA l (ZB21 (8 * l + o))))), (5, vi (pl + (pay SH l (ZH21 ((8 * l) + o))))), (3, vi ot), (2, vi al), (0, .ref ko), (1, vi w)] [0, 3, 4, 1, 2, 5, 6, 7, 8] rfl ?_
                exact ih98 (pl + (pay SH l (ZH21 ((8 * l) + o)))) (dl + (chg DP PR RA l (ZB21 (8 * l + o)))) (l + 1) ⟨by omega, by omega, by rw [sm_s _ hl0, hfH_1 l o hl0 (by omega) ho0 (by omega), hpl]; show _ + _ + pay SH l (kH LP LH LU nL OP OF OT nO Q FL DP SH RE PR RA l o) = _ + (_ + pay SH l (kH LP LH LU nL OP OF OT nO Q FL DP SH RE PR RA l o)); omega, by rw [sm_s _ hl0, hfB_1 l o hl0 (by omega) ho0 (by omega), hdl]; show _ + _ + chg DP PR RA l (kR LP LH LU nL OP OF OT nO Q FL DP SH RE PR RA l o) = _ + (_ + chg DP PR RA l (kR LP LH LU nL OP OF OT nO Q FL DP SH RE PR RA l o)); omega⟩ (by omega)
            exact L98 _ pa du 0 ⟨by omega, by omega, by rw [sm_0]; omega, by rw [sm_0]; omega⟩ (Nat.lt_succ_self _)
        exact L71 _ 0 0 0 0 ⟨by omega, by omega, rfl, rfl, rfl⟩ (Nat.lt_succ_self _)
      refine g_iload_n C 2 dX10_sumOf_20 rfl ?_
      refine g_aload_n C 3 dX10_sumOf_21 rfl ?_
      refine g_getf C k_X10 5 f_X10_16 0 rfl rfl (by decide) rfl rfl dX10_sumOf_22 ?_
      refine g_iload C 0 dX10_sumOf_25 rfl ?_
      refine g_iald C 3 rfl (by omega) dX10_sumOf_27 ?_
      have r3_27 := hLU l
      refine g_iadd C dX10_sumOf_28 ?_
      refine g_istore_n C [(2, vi (al + (LU l))), (4, vi l), (3, vi ot), (0, .ref ko), (1, vi w)] dX10_sumOf_29 (by decide) rfl ?_
      refine g_iload_n C 2 dX10_sumOf_30 rfl ?_
      have J51 : ∀ (u9 : Int), (u9 = if bI (¬ hic OP OF OT (LP l) (LH l) (LH l) nO) = 0 then 0 else LU l) → gW g x [(ko, cO 10 (kF th hr nL nO Q nY nE nR nB A)), (A 3, cA g 40 LP), (A 4, cA g 40 LH), (A 5, cA g 40 LU), (A 7, cA g 8 OP), (A 8, cA g 8 OF), (A 9, cA g 8 OT), (A 12, cA g 5 FL), (A 13, cA g 5 DP), (A 15, cA g 5 RE), (A 42, cA g 8 ZP21), (A 43, cA g 40 ZH21), (A 44, cA g 40 ZB21), (A 45, cA g 40 ZL21), (A 14, cA g 5 SH), (A 16, cA g 5 PR), (A 17, cA g 5 RA), (A 18, cA g 30 PA), (A 46, cJ g 6 ZD21)] 0 0 [(2, vi (al + (LU l))), (4, vi l), (3, vi ot), (0, .ref ko), (1, vi w)] 51 [vi u9, vi ot] := by
        intro u9 hJ51
        refine g_iadd C dX10_sumOf_51 ?_
        refine g_istore_n C [(3, vi (ot + u9)), (2, vi (al + (LU l))), (4, vi l), (0, .ref ko), (1, vi w)] dX10_sumOf_52 (by decide) rfl ?_
        refine g_iinc C 2 [(4, vi (l + 1)), (3, vi (ot + u9)), (2, vi (al + (LU l))), (0, .ref ko), (1, vi w)] dX10_sumOf_53 rfl (by decide) rfl ?_
        refine g_goto C 11 dX10_sumOf_56 (by decide) ?_
        exact ih11 (al + (LU l)) (ot + u9) (l + 1) ⟨by omega, by omega, by rw [sm_s _ hl0, ← hal], by rw [sm_s _ hl0, ← hot, hJ51]; rfl⟩ (by omega)
      refine g_aload_n C 3 dX10_sumOf_31 rfl ?_
      refine g_iload C 1 dX10_sumOf_32 rfl ?_
      refine g_callVp C [vi l] [vi ot] (c_X10_isOutside x.1.2.1 g ko A th hr nL nO Q nY nE nR nB LP LH OP OF OT l hLP hLH hOP hOF hOT hnO (by omega) (by omega)) y_X10_isOutside l_X10_245 [0, 1, 2, 4, 5, 6] rfl (by decide) 0 rfl rfl rfl (Nat.le_of_ble_eq_true rfl) rfl (by decide) dX10_sumOf_34 ?_
      have b9 := bI_01 (¬ hic OP OF OT (LP l) (LH l) (LH l) nO)
      refine g_if_eq C 50 dX10_sumOf_37 (by decide) (by omega) (fun c37 => ?_) (fun c37 => ?_)
      · refine g_iconst C dX10_sumOf_50 ?_
        exact J51 0 (by first | (rw [if_neg (by omega)]; done) | (rw [if_pos (by omega)]; done))
      refine g_aload_n C 3 dX10_sumOf_40 rfl ?_
      refine g_getf C k_X10 5 f_X10_16 0 rfl rfl (by decide) rfl rfl dX10_sumOf_41 ?_
      refine g_iload C 1 dX10_sumOf_44 rfl ?_
      refine g_iald C 3 rfl (by omega) dX10_sumOf_46 ?_
      have r4_46 := hLU l
      refine g_goto C 51 dX10_sumOf_47 (by decide) ?_
      exact J51 (LU l) (by first | (rw [if_neg (by omega)]; done) | (rw [if_pos (by omega)]; done))
  exact L11 _ 0 0 0 ⟨by omega, by omega, rfl, rfl⟩ (Nat.lt_succ_self _)

set_option maxHeartbeats 4000000 in
set_option maxRecDepth 100000 in
theorem c_X10_sum (l : Launch) (g : gD) (ko : Nat) (A : Nat → Nat) (th : Int) (hr : Int) (nL : Int) (nO : Int) (Q : Int) (nY : Int) (nE : Int) (nR : Int) (nB : Int) (LP : Int → Int) (LH : Int → Int) (LU : Int → Int) (OP : Int → Int) (OF : Int → Int) (OT : Int → Int) (FL : Int → Int) (DP : Int → Int) (RE : Int → Int) (ZP : Int → Int) (ZH : Int → Int) (ZB : Int → Int) (ZL : Int → Int) (SH : Int → Int) (PR : Int → Int) (RA : Int → Int) (PA : Int → Int) (ZD : Int → Int) (w : Int) (hLP : ∀ k, 0 ≤ LP k ∧ LP k ≤ 2) (hLH : ∀ k, 0 ≤ LH k ∧ LH k ≤ 2199) (hLU : ∀ k, 0 ≤ LU k ∧ LU k ≤ 99999) (hnL : 0 ≤ nL ∧ nL ≤ 40) (hOP : ∀ k, 0 ≤ OP k ∧ OP k ≤ 2) (hOF : ∀ k, 0 ≤ OF k ∧ OF k ≤ 2199) (hOT : ∀ k, 0 ≤ OT k ∧ OT k ≤ 2199) (hnO : 0 ≤ nO ∧ nO ≤ 8) (hFL : ∀ k, 0 ≤ FL k ∧ FL k ≤ 999999) (hDP : ∀ k, 0 ≤ DP k ∧ DP k ≤ 999999) (hRE : ∀ k, 0 ≤ RE k ∧ RE k ≤ 3) (hnY : 0 ≤ nY ∧ nY ≤ 5) (hQ : 0 ≤ Q ∧ Q ≤ 90) (hZH : ∀ k, 0 ≤ ZH k ∧ ZH k ≤ 999999) (hZB : ∀ k, 0 ≤ ZB k ∧ ZB k ≤ 999999) (hdst : dst9 OP OF nO) (hSH : ∀ k, 0 ≤ SH k ∧ SH k ≤ 100) (hPR : ∀ k, 0 ≤ PR k ∧ PR k ≤ 99999) (hRA : ∀ k, 0 ≤ RA k ∧ RA k ≤ 150) (hDP1 : ∀ k, 0 ≤ k → k < nY → 1 ≤ DP k) (hPA : ∀ k, 0 ≤ PA k ∧ PA k ≤ 100) (hZD : ∀ k, 0 ≤ ZD k ∧ ZD k ≤ 100000000) (hdj : dj9 OP OF OT nO) (hw : -2147483648 ≤ w ∧ w < 2147483648) : gMet l g yX10_sum cX10_sum 2 (some .int) 7 0 0 167 [.ref ko, vi w] [(ko, cO 10 (kF th hr nL nO Q nY nE nR nB A)), (A 3, cA g 40 LP), (A 4, cA g 40 LH), (A 5, cA g 40 LU), (A 7, cA g 8 OP), (A 8, cA g 8 OF), (A 9, cA g 8 OT), (A 12, cA g 5 FL), (A 13, cA g 5 DP), (A 15, cA g 5 RE), (A 42, cA g 8 ZP), (A 43, cA g 40 ZH), (A 44, cA g 40 ZB), (A 45, cA g 40 ZL), (A 14, cA g 5 SH), (A 16, cA g 5 PR), (A 17, cA g 5 RA), (A 18, cA g 30 PA), (A 46, cJ g 6 ZD)] (fun v9 w9 => (∃ (ZP2 : Int → Int) (ZH2 : Int → Int) (ZB2 : Int → Int) (ZL2 : Int → Int) (ZD2 : Int → Int), (0 ≤ w ∧ w ≤ 7) ∧ v9 = some (vi (if w = 0 then sm LU nL else if w = 1 then sm LU nL - sm (fun o => gro LP LH LU nL OP OF OT o) nO else if w = 2 then sm (fun o => qto Q (gro LP LH LU nL OP OF OT o)) nO else if w = 3 then sm (fun o => kD LP LH LU nL OP OF OT nO Q FL DP SH RE PR RA nY o) nO else if w = 4 then sm (fun o => qto Q (gro LP LH LU nL OP OF OT o)) nO + sm (fun o => kD LP LH LU nL OP OF OT nO Q FL DP SH RE PR RA nY o) nO - sm (fun z => kB LP LH LU nL OP OF OT nO Q FL DP SH RE PR RA PA nY z) 6 else if w = 5 then sm (fun o => kE LP LH LU nL OP OF OT nO Q FL DP SH RE PR RA nY o) nO else if w = 6 then sm LU nL - sm (fun z => kB LP LH LU nL OP OF OT nO Q FL DP SH RE PR RA PA nY z) 6 + sm (fun o => kE LP LH LU nL OP OF OT nO Q FL DP SH RE PR RA nY o) nO else sm (fun z => kB LP LH LU nL OP OF OT nO Q FL DP SH RE PR RA PA nY z) 6)) ∧ w9 = [(ko, cO 10 (kF 0 hr nL nO Q nY nE nR nB A)), (A 3, cA g 40 LP), (A 4, cA g 40 LH), (A 5, cA g 40 LU), (A 7, cA g 8 OP), (A 8, cA g 8 OF), (A 9, cA g 8 OT), (A 12, cA g 5 FL), (A 13, cA g 5 DP), (A 15, cA g 5 RE), (A 42, cA g 8 ZP2), (A 43, cA g 40 ZH2), (A 44, cA g 40 ZB2), (A 45, cA g 40 ZL2), (A 14, cA g 5 SH), (A 16, cA g 5 PR), (A 17, cA g 5 RA), (A 18, cA g 30 PA), (A 46, cJ g 6 ZD2)] ∧ (∀ k, 0 ≤ k → k < nO → ZP2 k = plc OP OF nO k) ∧ (∀ y k, 0 ≤ y → y < nY → 0 ≤ k → k < nO → ZH2 (8 * y + k) = kH LP LH LU nL OP OF OT nO Q FL DP SH RE PR RA y k) ∧ (∀ y k, 0 ≤ y → y < nY → 0 ≤ k → k < nO → ZB2 (8 * y + k) = kR LP LH LU nL OP OF OT nO Q FL DP SH RE PR RA y k) ∧ (∀ y k, 0 ≤ y → y < nY → 0 ≤ k → k < nO → ZL2 (8 * y + k) = kL LP LH LU nL OP OF OT nO Q FL DP SH RE PR RA y k) ∧ (∀ k, 0 ≤ ZH2 k ∧ ZH2 k ≤ 999999) ∧ (∀ k, 0 ≤ ZB2 k ∧ ZB2 k ≤ 999999) ∧ (∀ z, 0 ≤ z → z < 6 → ZD2 z = kB LP LH LU nL OP OF OT nO Q FL DP SH RE PR RA PA nY z) ∧ (∀ k, 0 ≤ ZD2 k ∧ ZD2 k ≤ 100000000)) ∨ ((¬ (0 ≤ w ∧ w ≤ 7)) ∧ v9 = some (vi 0) ∧ w9 = [(ko, cO 10 (kF 1 hr nL nO Q nY nE nR nB A)), (A 3, cA g 40 LP), (A 4, cA g 40 LH), (A 5, cA g 40 LU), (A 7, cA g 8 OP), (A 8, cA g 8 OF), (A 9, cA g 8 OT), (A 12, cA g 5 FL), (A 13, cA g 5 DP), (A 15, cA g 5 RE), (A 42, cA g 8 ZP), (A 43, cA g 40 ZH), (A 44, cA g 40 ZB), (A 45, cA g 40 ZL), (A 14, cA g 5 SH), (A 16, cA g 5 PR), (A 17, cA g 5 RA), (A 18, cA g 30 PA), (A 46, cJ g 6 ZD)])) := by
  refine gMet.of y_X10_sum.2.2.2.2.1 (Nat.le_of_ble_eq_true rfl) ?_
  intro x hlx C hR hnm
  subst hlx
  have C : gC g x RX10 cX10_sum 2 7 0 0 167 := C
  show gW g x [(ko, cO 10 (kF th hr nL nO Q nY nE nR nB A)), (A 3, cA g 40 LP), (A 4, cA g 40 LH), (A 5, cA g 40 LU), (A 7, cA g 8 OP), (A 8, cA g 8 OF), (A 9, cA g 8 OT), (A 12, cA g 5 FL), (A 13, cA g 5 DP), (A 15, cA g 5 RE), (A 42, cA g 8 ZP), (A 43, cA g 40 ZH), (A 44, cA g 40 ZB), (A 45, cA g 40 ZL), (A 14, cA g 5 SH), (A 16, cA g 5 PR), (A 17, cA g 5 RA), (A 18, cA g 30 PA), (A 46, cJ g 6 ZD)] 0 0 [(0, .ref ko), (1, vi w)] 0 []
  refine g_aload_n C 0 dX10_sum_0 rfl ?_
  have J16 : ∀ (cd : Int), ((cd = 0 ∧ 0 ≤ w ∧ w ≤ 7) ∨ (cd = 1 ∧ ¬ (0 ≤ w ∧ w ≤ 7))) → gW g x [(ko, cO 10 (kF th hr nL nO Q nY nE nR nB A)), (A 3, cA g 40 LP), (A 4, cA g 40 LH), (A 5, cA g 40 LU), (A 7, cA g 8 OP), (A 8, cA g 8 OF), (A 9, cA g 8 OT), (A 12, cA g 5 FL), (A 13, cA g 5 DP), (A 15, cA g 5 RE), (A 42, cA g 8 ZP), (A 43, cA g 40 ZH), (A 44, cA g 40 ZB), (A 45, cA g 40 ZL), (A 14, cA g 5 SH), (A 16, cA g 5 PR), (A 17, cA g 5 RA), (A 18, cA g 30 PA), (A 46, cJ g 6 ZD)] 0 0 [(0, .ref ko), (1, vi w)] 16 [vi cd, .ref ko] := by
    intro cd hJ16
    refine g_callV C [vi cd] [] (c_X10_goesWell x.1.2.1 g ko A th hr nL nO Q nY nE nR nB cd (by omega)) y_X10_goesWell l_X10_156 [0] rfl (by decide) 0 rfl rfl rfl (Nat.le_of_ble_eq_true rfl) rfl (by decide) dX10_sum_16 (fun v9 w9 hp9 => ?_)
    obtain ⟨rfl, rfl⟩ := hp9
    simp only [putAll, List.set_cons_succ, List.set_cons_zero, List.cons_append, List.nil_append, List.append_nil, Option.toList]
    show gW g x [(ko, cO 10 (kF cd hr nL nO Q nY nE nR nB A)), (A 3, cA g 40 LP), (A 4, cA g 40 LH), (A 5, cA g 40 LU), (A 7, cA g 8 OP), (A 8, cA g 8 OF), (A 9, cA g 8 OT), (A 12, cA g 5 FL), (A 13, cA g 5 DP), (A 15, cA g 5 RE), (A 42, cA g 8 ZP), (A 43, cA g 40 ZH), (A 44, cA g 40 ZB), (A 45, cA g 40 ZL), (A 14, cA g 5 SH), (A 16, cA g 5 PR), (A 17, cA g 5 RA), (A 18, cA g 30 PA), (A 46, cJ g 6 ZD)] 0 0 [(0, .ref ko), (1, vi w)] 19 [vi (if cd = 0 then 1 else 0)]
    refine g_if_eq C 30 dX10_sum_19 (by decide) (by omega) (fun c19 => ?_) (fun c19 => ?_)
    · refine g_iconst C dX10_sum_30 ?_
      first
      | exact g_iret C hR dX10_sum_31 (Or.inl ⟨ZP224, ZH224, ZB224, ZL224, ZD224, hok, rfl, rfl, hfP_24, hfH_24, hfB_24, hfL_24, hZH_24, hZB_24, hfD_24, hZD_24⟩) rfl
      | exact g_iret C hR dX10_sum_31 (by
          rcases hJ16 with ⟨e9, h9⟩ | ⟨e9, h9⟩
          · exfalso; omega
          · subst e9; exact Or.inr (⟨h9, rfl, rfl⟩)) rfl
    obtain ⟨rfl, hok⟩ : cd = 0 ∧ (0 ≤ w ∧ w ≤ 7) := by
      rcases hJ16 with ⟨e9, h9⟩ | ⟨e9, h9⟩
      · exact ⟨e9, h9⟩
      · exfalso; omega
    refine g_aload_n C 0 dX10_sum_22 rfl ?_
    refine g_iload_n C 1 dX10_sum_23 rfl ?_
    refine g_callV C [vi w] [] (c_X10_sumOf x.1.2.1 g ko A 0 hr nL nO Q nY nE nR nB LP LH LU OP OF OT FL DP RE ZP ZH ZB ZL SH PR RA PA ZD w hLP hLH hLU hnL hOP hOF hOT hnO hFL hDP hRE hnY hQ hZH hZB hdst hSH hPR hRA hDP1 hPA hZD hdj (by omega) hw) y_X10_sumOf l_X10_248 [0, 1, 2, 3, 4, 5, 6, 7, 8, 9, 10, 11, 12, 13, 14, 15, 16, 17, 18] rfl (by decide) 0 rfl rfl rfl (Nat.le_of_ble_eq_true rfl) rfl (by decide) dX10_sum_24 (fun v9 w9 hp9 => ?_)
    obtain ⟨ZP224, ZH224, ZB224, ZL224, ZD224, rfl, rfl, hfP_24, hfH_24, hfB_24, hfL_24, hZH_24, hZB_24, hfD_24, hZD_24⟩ := hp9
    simp only [putAll, List.set_cons_succ, List.set_cons_zero, List.cons_append, List.nil_append, List.append_nil, Option.toList]
    show gW g x [(ko, cO 10 (kF 0 hr nL nO Q nY nE nR nB A)), (A 3, cA g 40 LP), (A 4, cA g 40 LH), (A 5, cA g 40 LU), (A 7, cA g 8 OP), (A 8, cA g 8 OF), (A 9, cA g 8 OT), (A 12, cA g 5 FL), (A 13, cA g 5 DP), (A 15, cA g 5 RE), (A 42, cA g 8 ZP224), (A 43, cA g 40 ZH224), (A 44, cA g 40 ZB224), (A 45, cA g 40 ZL224), (A 14, cA g 5 SH), (A 16, cA g 5 PR), (A 17, cA g 5 RA), (A 18, cA g 30 PA), (A 46, cJ g 6 ZD224)] 0 0 [(0, .ref ko), (1, vi w)] 27 [vi (if w = 0 then sm LU nL else if w = 1 then sm LU nL - sm (fun o => gro LP LH LU nL OP OF OT o) nO else if w = 2 then sm (fun o => qto Q (gro LP LH LU nL OP OF OT o)) nO else if w = 3 then sm (fun o => kD LP LH LU nL OP OF OT nO Q FL DP SH RE PR RA nY o) nO else if w = 4 then sm (fun o => qto Q (gro LP LH LU nL OP OF OT o)) nO + sm (fun o => kD LP LH LU nL OP OF OT nO Q FL DP SH RE PR RA nY o) nO - sm (fun z => kB LP LH LU nL OP OF OT nO Q FL DP SH RE PR RA PA nY z) 6 else if w = 5 then sm (fun o => kE LP LH LU nL OP OF OT nO Q FL DP SH RE PR RA nY o) nO else if w = 6 then sm LU nL - sm (fun z => kB LP LH LU nL OP OF OT nO Q FL DP SH RE PR RA PA nY z) 6 + sm (fun o => kE LP LH LU nL OP OF OT nO Q FL DP SH RE PR RA nY o) nO else sm (fun z => kB LP LH LU nL OP OF OT nO Q FL DP SH RE PR RA PA nY z) 6)]
    refine g_goto C 31 dX10_sum_27 (by decide) ?_
    first
    | exact g_iret C hR dX10_sum_31 (Or.inl ⟨ZP224, ZH224, ZB224, ZL224, ZD224, hok, rfl, rfl, hfP_24, hfH_24, hfB_24, hfL_24, hZH_24, hZB_24, hfD_24, hZD_24⟩) rfl
    | exact g_iret C hR dX10_sum_31 (by
        rcases hJ16 with ⟨e9, h9⟩ | ⟨e9, h9⟩
        · exfalso; omega
        · subst e9; exact Or.inr (⟨h9, rfl, rfl⟩)) rfl
  refine g_iload_n C 1 dX10_sum_1 rfl ?_
  refine g_iconst C dX10_sum_2 ?_
  refine g_bipush C dX10_sum_3 (by decide) ?_
  refine g_callSp C [vi w, vi 0, vi 7] [.ref ko] (c_X10_in x.1.2.1 g w 0 7 hw (by omega) (by omega)) y_X10_in l_X10_141 [] rfl (by decide) rfl (Nat.le_of_ble_eq_true rfl) rfl (by decide) dX10_sum_5 ?_
  refine g_if_eq C 15 dX10_sum_8 (by decide) (by omega) (fun c8 => ?_) (fun c8 => ?_)
  · refine g_iconst C dX10_sum_15 ?_
    exact J16 1 (by omega)
  refine g_iconst C dX10_sum_11 ?_
  refine g_goto C 16 dX10_sum_12 (by decide) ?_
  exact J16 0 (by omega)

set_option maxHeartbeats 4000000 in
set_option maxRecDepth 100000 in
theorem c_X10_passed (l : Launch) (g : gD) (ko : Nat) (A : Nat → Nat) (th : Int) (hr : Int) (nL : Int) (nO : Int) (Q : Int) (nY : Int) (nE : Int) (nR : Int) (nB : Int) (RF : Int → Int) (RD : Int → Int) (ZS : Int → Int) (r9 : Int) (hRF : ∀ k, 0 ≤ RF k ∧ RF k ≤ 999999) (hRD : ∀ k, 0 ≤ RD k ∧ RD k ≤ 999999) (hZS : ∀ k, 0 ≤ ZS k ∧ ZS k ≤ 200000000) (hr6 : 0 ≤ r9 ∧ r9 < 6) (hr9 : -2147483648 ≤ r9 ∧ r9 < 2147483648) : gMet l g yX10_passed cX10_passed 4 (some .long) 0 0 0 0 [.ref ko, vi r9] [(ko, cO 10 (kF th hr nL nO Q nY nE nR nB A)), (A 20, cA g 6 RF), (A 21, cA g 6 RD), (A 47, cJ g 6 ZS)] (gM (some (vl (pso RF RD ZS r9))) [(ko, cO 10 (kF th hr nL nO Q nY nE nR nB A)), (A 20, cA g 6 RF), (A 21, cA g 6 RD), (A 47, cJ g 6 ZS)]) := by
  refine gMet.of y_X10_passed.2.2.2.2.1 (Nat.le_of_ble_eq_true rfl) ?_
  intro x hlx C hR hnm
  subst hlx
  have C : gC g x RX10 cX10_passed 4 0 0 0 0 := C
  show gW g x [(ko, cO 10 (kF th hr nL nO Q nY nE nR nB A)), (A 20, cA g 6 RF), (A 21, cA g 6 RD), (A 47, cJ g 6 ZS)] 0 0 [(0, .ref ko), (1, vi r9)] 0 []
  have J35 : ∀ (w9 : Int), (w9 = if RF r9 < ZS r9 then ZS r9 - RF r9 else 0) → gW g x [(ko, cO 10 (kF th hr nL nO Q nY nE nR nB A)), (A 20, cA g 6 RF), (A 21, cA g 6 RD), (A 47, cJ g 6 ZS)] 0 0 [(0, .ref ko), (1, vi r9)] 35 [vl w9] := by
    intro w9 hJ35
    have h1 := hRF r9
    have h2 := hZS r9
    have h3 := hRD r9
    refine g_lstore_n C [(2, vl w9), (0, .ref ko), (1, vi r9)] dX10_passed_35 (by decide) rfl ?_
    refine g_lload_n C 0 dX10_passed_36 rfl ?_
    refine g_aload_n C 1 dX10_passed_37 rfl ?_
    refine g_getf C k_X10 21 f_X10_55 0 rfl rfl (by decide) rfl rfl dX10_passed_38 ?_
    refine g_iload_n C 2 dX10_passed_41 rfl ?_
    refine g_iald C 2 rfl (by omega) dX10_passed_42 ?_
    have r1_42 := hRD r9
    refine g_i2l C dX10_passed_43 (by omega) ?_
    refine g_lcmp C dX10_passed_44 (by omega) (by omega) ?_
    refine g_if_le C 58 dX10_passed_45 (by decide) (by omega) (fun c45 => ?_) (fun c45 => ?_)
    · refine g_lload_n C 0 dX10_passed_58 rfl ?_
      exact g_lretM C hR dX10_passed_59 (by unfold pso mn; omega) rfl rfl
    refine g_aload_n C 1 dX10_passed_48 rfl ?_
    refine g_getf C k_X10 21 f_X10_55 0 rfl rfl (by decide) rfl rfl dX10_passed_49 ?_
    refine g_iload_n C 2 dX10_passed_52 rfl ?_
    refine g_iald C 2 rfl (by omega) dX10_passed_53 ?_
    have r2_53 := hRD r9
    refine g_i2l C dX10_passed_54 (by omega) ?_
    refine g_goto C 59 dX10_passed_55 (by decide) ?_
    exact g_lretM C hR dX10_passed_59 (by unfold pso mn; omega) rfl rfl
  refine g_aload_n C 0 dX10_passed_0 rfl ?_
  refine g_getf C k_X10 47 f_X10_125 0 rfl rfl (by decide) rfl rfl dX10_passed_1 ?_
  refine g_iload_n C 1 dX10_passed_4 rfl ?_
  refine g_lald C 3 rfl (by omega) dX10_passed_5 ?_
  have r3_5 := hZS r9
  refine g_aload_n C 0 dX10_passed_6 rfl ?_
  refine g_getf C k_X10 20 f_X10_52 0 rfl rfl (by decide) rfl rfl dX10_passed_7 ?_
  refine g_iload_n C 1 dX10_passed_10 rfl ?_
  refine g_iald C 1 rfl (by omega) dX10_passed_11 ?_
  have r4_11 := hRF r9
  refine g_i2l C dX10_passed_12 (by omega) ?_
  refine g_lcmp C dX10_passed_13 (by omega) (by omega) ?_
  refine g_if_le C 34 dX10_passed_14 (by decide) (by omega) (fun c14 => ?_) (fun c14 => ?_)
  · refine g_lconst C dX10_passed_34 0 (by decide) ?_
    exact J35 0 (by omega)
  refine g_aload_n C 0 dX10_passed_17 rfl ?_
  refine g_getf C k_X10 47 f_X10_125 0 rfl rfl (by decide) rfl rfl dX10_passed_18 ?_
  refine g_iload_n C 1 dX10_passed_21 rfl ?_
  refine g_lald C 3 rfl (by omega) dX10_passed_22 ?_
  have r5_22 := hZS r9
  refine g_aload_n C 0 dX10_passed_23 rfl ?_
  refine g_getf C k_X10 20 f_X10_52 0 rfl rfl (by decide) rfl rfl dX10_passed_24 ?_
  refine g_iload_n C 1 dX10_passed_27 rfl ?_
  refine g_iald C 1 rfl (by omega) dX10_passed_28 ?_
  have r6_28 := hRF r9
  refine g_i2l C dX10_passed_29 (by omega) ?_
  refine g_lsub C dX10_passed_30 ?_
  refine g_goto C 35 dX10_passed_31 (by decide) ?_
  exact J35 ((ZS r9) - (RF r9)) (by omega)

set_option maxHeartbeats 4000000 in
set_option maxRecDepth 100000 in
theorem c_X10_changes (l : Launch) (g : gD) (ko : Nat) (A : Nat → Nat) (th : Int) (hr : Int) (nL : Int) (nO : Int) (Q : Int) (nY : Int) (nE : Int) (nR : Int) (nB : Int) (RT : Int → Int) (RF : Int → Int) (RD : Int → Int) (ZD : Int → Int) (ZS : Int → Int) (ZN : Int → Int) (hRT : ∀ k, 0 ≤ RT k ∧ RT k ≤ 5) (hRF : ∀ k, 0 ≤ RF k ∧ RF k ≤ 999999) (hRD : ∀ k, 0 ≤ RD k ∧ RD k ≤ 999999) (hZD : ∀ k, 0 ≤ ZD k ∧ ZD k ≤ 100000000) (hZS : ∀ k, 0 ≤ ZS k ∧ ZS k ≤ 200000000) (hZN : ∀ k, 0 ≤ ZN k ∧ ZN k ≤ 200000000) : gMet l g yX10_changes cX10_changes 3 (some .boolean) 1 0 0 23 [.ref ko] [(ko, cO 10 (kF th hr nL nO Q nY nE nR nB A)), (A 19, cA g 6 RT), (A 20, cA g 6 RF), (A 21, cA g 6 RD), (A 46, cJ g 6 ZD), (A 47, cJ g 6 ZS), (A 48, cJ g 6 ZN)] (gM (some (vi (bI (dif (scad (cpy ZD ZN 6) RT (pso RF RD ZS) 6) ZS 6)))) [(ko, cO 10 (kF th hr nL nO Q nY nE nR nB A)), (A 19, cA g 6 RT), (A 20, cA g 6 RF), (A 21, cA g 6 RD), (A 46, cJ g 6 ZD), (A 47, cJ g 6 (cpy (scad (cpy ZD ZN 6) RT (pso RF RD ZS) 6) ZS 6)), (A 48, cJ g 6 (scad (cpy ZD ZN 6) RT (pso RF RD ZS) 6))]) := by
  refine gMet.of y_X10_changes.2.2.2.2.1 (Nat.le_of_ble_eq_true rfl) ?_
  intro x hlx C hR hnm
  subst hlx
  have C : gC g x RX10 cX10_changes 3 1 0 0 23 := C
  show gW g x [(ko, cO 10 (kF th hr nL nO Q nY nE nR nB A)), (A 19, cA g 6 RT), (A 20, cA g 6 RF), (A 21, cA g 6 RD), (A 46, cJ g 6 ZD), (A 47, cJ g 6 ZS), (A 48, cJ g 6 ZN)] 0 0 [(0, .ref ko)] 0 []
  refine g_iconst C dX10_changes_0 ?_
  refine g_istore_n C [(1, vi 0), (0, .ref ko)] dX10_changes_1 (by decide) rfl ?_
  have L2 : ∀ (f : Nat) (i : Int) (cN : Int → Int), (0 ≤ i ∧ i ≤ 6 ∧ cN = cpy ZD ZN i) → (6 - i).toNat < f → gW g x [(ko, cO 10 (kF th hr nL nO Q nY nE nR nB A)), (A 19, cA g 6 RT), (A 20, cA g 6 RF), (A 21, cA g 6 RD), (A 46, cJ g 6 ZD), (A 47, cJ g 6 ZS), (A 48, cJ g 6 cN)] 0 0 [(1, vi i), (0, .ref ko)] 2 [] := by
    intro f
    induction f with
    | zero => intro i cN hI2 hf; exact absurd hf (Nat.not_lt_zero _)
    | succ f ih2 =>
      intro i cN hI2 hf2
      obtain ⟨hi0, hi1, hN⟩ := hI2
      refine g_iload_n C 0 dX10_changes_2 rfl ?_
      refine g_bipush C dX10_changes_3 (by decide) ?_
      refine g_icmp_ge C 26 dX10_changes_5 (by decide) (by omega) (by omega) (fun c5 => ?_) (fun c5 => ?_)
      · obtain rfl : i = 6 := by omega
        subst hN
        refine g_iconst C dX10_changes_26 ?_
        refine g_istore_n C [(1, vi 0), (0, .ref ko)] dX10_changes_27 (by decide) rfl ?_
        have L28 : ∀ (f : Nat) (i : Int) (cN : Int → Int), (0 ≤ i ∧ i ≤ 6 ∧ cN = scad (cpy ZD ZN 6) RT (pso RF RD ZS) i) → (6 - i).toNat < f → gW g x [(ko, cO 10 (kF th hr nL nO Q nY nE nR nB A)), (A 19, cA g 6 RT), (A 20, cA g 6 RF), (A 21, cA g 6 RD), (A 46, cJ g 6 ZD), (A 47, cJ g 6 ZS), (A 48, cJ g 6 cN)] 0 0 [(1, vi i), (0, .ref ko)] 28 [] := by
          intro f
          induction f with
          | zero => intro i cN hI28 hf; exact absurd hf (Nat.not_lt_zero _)
          | succ f ih28 =>
            intro i cN hI28 hf28
            obtain ⟨hi0, hi1, hN⟩ := hI28
            refine g_iload_n C 0 dX10_changes_28 rfl ?_
            refine g_bipush C dX10_changes_29 (by decide) ?_
            refine g_icmp_ge C 59 dX10_changes_31 (by decide) (by omega) (by omega) (fun c31 => ?_) (fun c31 => ?_)
            · obtain rfl : i = 6 := by omega
              subst hN
              refine g_iconst C dX10_changes_59 ?_
              refine g_istore_n C [(1, vi 0), (0, .ref ko)] dX10_changes_60 (by decide) rfl ?_
              refine g_iconst C dX10_changes_61 ?_
              refine g_istore_n C [(2, vi 0), (1, vi 0), (0, .ref ko)] dX10_changes_62 (by decide) rfl ?_
              have L63 : ∀ (f : Nat) (i : Int) (ch : Int) (cH : Int → Int), (0 ≤ i ∧ i ≤ 6 ∧ ch = bI (dif (scad (cpy ZD ZN 6) RT (pso RF RD ZS) 6) ZS i) ∧ cH = cpy (scad (cpy ZD ZN 6) RT (pso RF RD ZS) 6) ZS i) → (6 - i).toNat < f → gW g x [(ko, cO 10 (kF th hr nL nO Q nY nE nR nB A)), (A 19, cA g 6 RT), (A 20, cA g 6 RF), (A 21, cA g 6 RD), (A 46, cJ g 6 ZD), (A 47, cJ g 6 cH), (A 48, cJ g 6 (scad (cpy ZD ZN 6) RT (pso RF RD ZS) 6))] 0 0 [(2, vi i), (1, vi ch), (0, .ref ko)] 63 [] := by
                intro f
                induction f with
                | zero => intro i ch cH hI63 hf; exact absurd hf (Nat.not_lt_zero _)
                | succ f ih63 =>
                  intro i ch cH hI63 hf63
                  obtain ⟨hi0, hi1, hc, hH⟩ := hI63
                  have b9 := bI_01 (dif (scad (cpy ZD ZN 6) RT (pso RF RD ZS) 6) ZS i)
                  refine g_iload_n C 0 dX10_changes_63 rfl ?_
                  refine g_bipush C dX10_changes_64 (by decide) ?_
                  refine g_icmp_ge C 113 dX10_changes_66 (by decide) (by omega) (by omega) (fun c66 => ?_) (fun c66 => ?_)
                  · obtain rfl : i = 6 := by omega
                    subst hH hc
                    refine g_iload_n C 1 dX10_changes_113 rfl ?_
                    exact g_zretM C hR dX10_changes_114 (by omega) rfl rfl rfl
                  have J94 : ∀ (w : Int), (w = if ch = 1 ∨ (scad (cpy ZD ZN 6) RT (pso RF RD ZS) 6) i ≠ ZS i then 1 else 0) → gW g x [(ko, cO 10 (kF th hr nL nO Q nY nE nR nB A)), (A 19, cA g 6 RT), (A 20, cA g 6 RF), (A 21, cA g 6 RD), (A 46, cJ g 6 ZD), (A 47, cJ g 6 cH), (A 48, cJ g 6 (scad (cpy ZD ZN 6) RT (pso RF RD ZS) 6))] 0 0 [(2, vi i), (1, vi ch), (0, .ref ko)] 94 [vi w] := by
                    intro w hJ94
                    refine g_istore_n C [(1, vi w), (2, vi i), (0, .ref ko)] dX10_changes_94 (by decide) rfl ?_
                    refine g_aload_n C 2 dX10_changes_95 rfl ?_
                    refine g_getf C k_X10 47 f_X10_125 0 rfl rfl (by decide) rfl rfl dX10_changes_96 ?_
                    refine g_iload_n C 1 dX10_changes_99 rfl ?_
                    refine g_aload_n C 2 dX10_changes_100 rfl ?_
                    refine g_getf C k_X10 48 f_X10_128 0 rfl rfl (by decide) rfl rfl dX10_changes_101 ?_
                    refine g_iload_n C 1 dX10_changes_104 rfl ?_
                    refine g_lald C 6 rfl (by omega) dX10_changes_105 ?_
                    refine g_last C 5 rfl (by omega) [(ko, cO 10 (kF th hr nL nO Q nY nE nR nB A)), (A 19, cA g 6 RT), (A 20, cA g 6 RF), (A 21, cA g 6 RD), (A 46, cJ g 6 ZD), (A 47, cJ g 6 (up cH i ((scad (cpy ZD ZN 6) RT (pso RF RD ZS) 6) i))), (A 48, cJ g 6 (scad (cpy ZD ZN 6) RT (pso RF RD ZS) 6))] rfl dX10_changes_106 ?_
                    refine g_iinc C 1 [(2, vi (i + 1)), (1, vi w), (0, .ref ko)] dX10_changes_107 rfl (by decide) rfl ?_
                    refine g_goto C 63 dX10_changes_110 (by decide) ?_
                    exact ih63 (i + 1) w (up cH i ((scad (cpy ZD ZN 6) RT (pso RF RD ZS) 6) i)) ⟨by omega, by omega, by rw [hJ94, bI_or (dif_s hi0), ← hc], by rw [cpy_s _ _ hi0, ← hH]⟩ (by omega)
                  refine g_iload_n C 1 dX10_changes_69 rfl ?_
                  refine g_if_ne C 89 dX10_changes_70 (by decide) (by omega) (fun c70 => ?_) (fun c70 => ?_)
                  · refine g_iconst C dX10_changes_89 ?_
                    refine g_goto C 94 dX10_changes_90 (by decide) ?_
                    exact J94 1 (by omega)
                  have hcH : cH i = ZS i := by rw [hH]; simp only [cpy]; rw [if_neg (by omega)]
                  have hn9 := nx_r (RT := RT) (RF := RF) (RH := ZS) hRD hZD hZN (n := 6) (by omega) i
                  have hh9 := hZS i
                  refine g_aload_n C 2 dX10_changes_73 rfl ?_
                  refine g_getf C k_X10 48 f_X10_128 0 rfl rfl (by decide) rfl rfl dX10_changes_74 ?_
                  refine g_iload_n C 0 dX10_changes_77 rfl ?_
                  refine g_lald C 6 rfl (by omega) dX10_changes_78 ?_
                  refine g_aload_n C 2 dX10_changes_79 rfl ?_
                  refine g_getf C k_X10 47 f_X10_125 0 rfl rfl (by decide) rfl rfl dX10_changes_80 ?_
                  refine g_iload_n C 0 dX10_changes_83 rfl ?_
                  refine g_lald C 5 rfl (by omega) dX10_changes_84 ?_
                  refine g_vall (w := ZS i) hcH ?_
                  refine g_lcmp C dX10_changes_85 (by omega) (by omega) ?_
                  refine g_if_eq C 93 dX10_changes_86 (by decide) (by omega) (fun c86 => ?_) (fun c86 => ?_)
                  · refine g_iconst C dX10_changes_93 ?_
                    exact J94 0 (by omega)
                  refine g_iconst C dX10_changes_89 ?_
                  refine g_goto C 94 dX10_changes_90 (by decide) ?_
                  exact J94 1 (by omega)
              exact L63 _ 0 0 ZS ⟨by omega, by omega, (bI_f (fun ⟨z, h0, h1, _⟩ => by omega)).symm, (cpy_0 _ _).symm⟩ (Nat.lt_succ_self _)
            refine g_aload_n C 1 dX10_changes_34 rfl ?_
            refine g_getf C k_X10 48 f_X10_128 0 rfl rfl (by decide) rfl rfl dX10_changes_35 ?_
            refine g_aload_n C 1 dX10_changes_38 rfl ?_
            refine g_getf C k_X10 19 f_X10_49 0 rfl rfl (by decide) rfl rfl dX10_changes_39 ?_
            refine g_iload_n C 0 dX10_changes_42 rfl ?_
            refine g_iald C 1 rfl (by omega) dX10_changes_43 ?_
            have r1_43 := hRT i
            refine g_dup2 C dX10_changes_44 rfl rfl ?_
            refine g_lald C 6 rfl (by omega) dX10_changes_45 ?_
            refine g_aload_n C 1 dX10_changes_46 rfl ?_
            refine g_iload_n C 0 dX10_changes_47 rfl ?_
            refine g_callVp C [vi i] [vl (cN (RT i)), vi (RT i), .ref (A 48)] (c_X10_passed x.1.2.1 g ko A th hr nL nO Q nY nE nR nB RF RD ZS i hRF hRD hZS (by omega) (by omega)) y_X10_passed l_X10_255 [0, 2, 3, 5] rfl (by decide) 0 rfl rfl rfl (Nat.le_of_ble_eq_true rfl) rfl (by decide) dX10_changes_48 ?_
            refine g_ladd C dX10_changes_51 ?_
            refine g_last C 6 rfl (by omega) [(ko, cO 10 (kF th hr nL nO Q nY nE nR nB A)), (A 19, cA g 6 RT), (A 20, cA g 6 RF), (A 21, cA g 6 RD), (A 46, cJ g 6 ZD), (A 47, cJ g 6 ZS), (A 48, cJ g 6 (up cN (RT i) ((cN (RT i)) + (pso RF RD ZS i))))] rfl dX10_changes_52 ?_
            refine g_iinc C 0 [(1, vi (i + 1)), (0, .ref ko)] dX10_changes_53 rfl (by decide) rfl ?_
            refine g_goto C 28 dX10_changes_56 (by decide) ?_
            exact ih28 (i + 1) (up cN (RT i) ((cN (RT i)) + (pso RF RD ZS i))) ⟨by omega, by omega, by rw [scad_s _ _ _ hi0, ← hN]⟩ (by omega)
        exact L28 _ 0 (cpy ZD ZN 6) ⟨by omega, by omega, rfl⟩ (Nat.lt_succ_self _)
      refine g_aload_n C 1 dX10_changes_8 rfl ?_
      refine g_getf C k_X10 48 f_X10_128 0 rfl rfl (by decide) rfl rfl dX10_changes_9 ?_
      refine g_iload_n C 0 dX10_changes_12 rfl ?_
      refine g_aload_n C 1 dX10_changes_13 rfl ?_
      refine g_getf C k_X10 46 f_X10_121 0 rfl rfl (by decide) rfl rfl dX10_changes_14 ?_
      refine g_iload_n C 0 dX10_changes_17 rfl ?_
      refine g_lald C 4 rfl (by omega) dX10_changes_18 ?_
      have r2_18 := hZD i
      refine g_last C 6 rfl (by omega) [(ko, cO 10 (kF th hr nL nO Q nY nE nR nB A)), (A 19, cA g 6 RT), (A 20, cA g 6 RF), (A 21, cA g 6 RD), (A 46, cJ g 6 ZD), (A 47, cJ g 6 ZS), (A 48, cJ g 6 (up cN i (ZD i)))] rfl dX10_changes_19 ?_
      refine g_iinc C 0 [(1, vi (i + 1)), (0, .ref ko)] dX10_changes_20 rfl (by decide) rfl ?_
      refine g_goto C 2 dX10_changes_23 (by decide) ?_
      exact ih2 (i + 1) (up cN i (ZD i)) ⟨by omega, by omega, by rw [cpy_s _ _ hi0, ← hN]⟩ (by omega)
  exact L2 _ 0 ZN ⟨by omega, by omega, (cpy_0 _ _).symm⟩ (Nat.lt_succ_self _)

