set_option maxHeartbeats 4000000 in
set_option maxRecDepth 100000 in
theorem p_occurrence (l : Launch) (hst9 : l.stackTraces = false) (g : gD) (B : Nat → Nat) (S X : Nat → Int → Int) (o w : Int) (hI : iv9 S X) (h9o : -2147483648 ≤ o ∧ o < 2147483648) (h9w : -2147483648 ≤ w ∧ w < 2147483648) : gMetX l g yX9_occurrence cX9_occurrence 3 (some .int) 6 1 6 112 [.ref (B 0), vi o, vi w] (wP g B S X) (pO g B S (vi (vR_occurrence o w S)) (vC_occurrence o w S)) (pX g B S (vC_occurrence o w S) [E1, E3]) := by
  have hI2 := hI
  obtain ⟨hnL, hOP, hOF, hOT, hnO, hnY, hPA, hnE, hnR, hEF, hES, hEH, hnB, htn, hBL, hBE, hMC, hLP, hLH, hLU, hFL, hDP, hSH, hRE, hPR, hRA, hQ, hNet, hDP1, hdj, hXP, hRB, hRT, hRF, hRD, hRH, hRN, hVH, hBP, hBQ, hBX, hBF, hBT, hBC, hEC, hEP, hEX, hEn, hMW, hMU, hMW1, hBP1⟩ := hI2
  have hdst := dj9_dst hdj
  refine gMetX.frame (wP g B S X) (c_X9_occurrence l hst9 g (B 0) (B 1) (B 5) (B 9) (B 16) (B 27) (B 35) (B 39) (B 46) (B 55) (S 33 0) (B 2) (B 3) (B 4) (S 0) (S 1) (S 2) (S 34 0) (B 6) (B 7) (B 8) (S 3) (S 4) (S 5) (S 35 0) (B 10) (B 11) (B 12) (B 13) (B 14) (B 15) (S 6) (S 7) (S 8) (S 9) (S 10) (S 11) (S 36 0) (S 37 0) (B 17) (B 18) (B 19) (B 20) (B 21) (B 22) (B 23) (B 24) (B 25) (B 26) (X 0) (X 1) (X 2) (X 3) (X 4) (X 5) (X 6) (X 7) (X 8) (X 9) (X 16 0) (X 17 0) (X 18 0) (X 19 0) o w hLP hLH hLU hnL hOP hOF hOT hnO hFL hDP hSH hRE hPR hRA hnY hQ hNet hDP1 hdst hXP (by omega) (by omega)) [0, 1, 2, 3, 4, 5, 6, 7, 8, 9, 10, 11, 12, 13, 14, 15, 16, 17, 18, 19, 20, 21, 22, 23, 24, 25, 26] rfl (by decide) ?_ ?_
  · rintro v9 w9 ⟨SG2, SQ2, SP2, SD2, SC2, XH2, XP2, XR2, XC2, XL2, nl2, nr2, rfl, rfl, ok, fhNet, fhXP⟩
    refine q_and (w2 := wP g B S (sup (sup (sup (sup (sup (sup (sup (sup (sup (sup (sup (sup (sup (sup X 16 (fun _ => S 35 0)) 17 (fun _ => S 36 0)) 18 (fun _ => nl2)) 19 (fun _ => nr2)) 0 SG2) 1 SQ2) 2 SP2) 3 SD2) 4 SC2) 5 XH2) 6 XP2) 7 XR2) 8 XC2) 9 XL2)) ?_ (fsP g B _ _ _ _) ⟨ok, (sup (sup (sup (sup (sup (sup (sup (sup (sup (sup (sup (sup (sup (sup X 16 (fun _ => S 35 0)) 17 (fun _ => S 36 0)) 18 (fun _ => nl2)) 19 (fun _ => nr2)) 0 SG2) 1 SQ2) 2 SP2) 3 SD2) 4 SC2) 5 XH2) 6 XP2) 7 XR2) 8 XC2) 9 XL2), rfl, rfl, ⟨hnL, hOP, hOF, hOT, hnO, hnY, hPA, hnE, hnR, hEF, hES, hEH, hnB, htn, hBL, hBE, hMC, hLP, hLH, hLU, hFL, hDP, hSH, hRE, hPR, hRA, hQ, (show ∀ k, 0 ≤ SG2 k - SQ2 k ∧ SG2 k - SQ2 k ≤ 3999960 from fhNet), hDP1, hdj, (show ∀ k, 0 ≤ XP2 k ∧ XP2 k ≤ 999999 from fhXP), hRB, hRT, hRF, hRD, hRH, hRN, hVH, hBP, hBQ, hBX, hBF, hBT, hBC, hEC, hEP, hEX, hEn, hMW, hMU, hMW1, hBP1⟩⟩
    simp only [putAll, wP, List.set_cons_succ, List.set_cons_zero, List.append_nil] <;> rfl
  · rintro E9 w9 ⟨rfl, hp9⟩
    refine q_and (w2 := wP g B S X) ?_ rfl ⟨?_, ?_, X, rfl, hI⟩
    · simp only [putAll, wP, List.set_cons_succ, List.set_cons_zero, List.append_nil] <;> rfl
    · intro z; unfold vC_occurrence at z; omega
    · rcases hp9 with ⟨rfl, -⟩ | ⟨rfl, -⟩ <;> simp

set_option maxHeartbeats 4000000 in
set_option maxRecDepth 100000 in
theorem p_hit (l : Launch) (hst9 : l.stackTraces = false) (g : gD) (B : Nat → Nat) (S X : Nat → Int → Int) (y o w : Int) (hI : iv9 S X) (h9y : -2147483648 ≤ y ∧ y < 2147483648) (h9o : -2147483648 ≤ o ∧ o < 2147483648) (h9w : -2147483648 ≤ w ∧ w < 2147483648) : gMetX l g yX9_hit cX9_hit 4 (some .int) 6 1 6 112 [.ref (B 0), vi y, vi o, vi w] (wP g B S X) (pO g B S (vi (vR_hit y o w S)) (vC_hit y o w S)) (pX g B S (vC_hit y o w S) [E1, E3]) := by
  have hI2 := hI
  obtain ⟨hnL, hOP, hOF, hOT, hnO, hnY, hPA, hnE, hnR, hEF, hES, hEH, hnB, htn, hBL, hBE, hMC, hLP, hLH, hLU, hFL, hDP, hSH, hRE, hPR, hRA, hQ, hNet, hDP1, hdj, hXP, hRB, hRT, hRF, hRD, hRH, hRN, hVH, hBP, hBQ, hBX, hBF, hBT, hBC, hEC, hEP, hEX, hEn, hMW, hMU, hMW1, hBP1⟩ := hI2
  have hdst := dj9_dst hdj
  refine gMetX.frame (wP g B S X) (c_X9_hit l hst9 g (B 0) (B 1) (B 5) (B 9) (B 16) (B 27) (B 35) (B 39) (B 46) (B 55) (S 33 0) (B 2) (B 3) (B 4) (S 0) (S 1) (S 2) (S 34 0) (B 6) (B 7) (B 8) (S 3) (S 4) (S 5) (S 35 0) (B 10) (B 11) (B 12) (B 13) (B 14) (B 15) (S 6) (S 7) (S 8) (S 9) (S 10) (S 11) (S 36 0) (S 37 0) (B 17) (B 18) (B 19) (B 20) (B 21) (B 22) (B 23) (B 24) (B 25) (B 26) (X 0) (X 1) (X 2) (X 3) (X 4) (X 5) (X 6) (X 7) (X 8) (X 9) (X 16 0) (X 17 0) (X 18 0) (X 19 0) y o w hLP hLH hLU hnL hOP hOF hOT hnO hFL hDP hSH hRE hPR hRA hnY hQ hNet hDP1 hdst hXP (by omega) (by omega) (by omega)) [0, 1, 2, 3, 4, 5, 6, 7, 8, 9, 10, 11, 12, 13, 14, 15, 16, 17, 18, 19, 20, 21, 22, 23, 24, 25, 26] rfl (by decide) ?_ ?_
  · rintro v9 w9 ⟨SG2, SQ2, SP2, SD2, SC2, XH2, XP2, XR2, XC2, XL2, nl2, nr2, rfl, rfl, ok, fhNet, fhXP⟩
    refine q_and (w2 := wP g B S (sup (sup (sup (sup (sup (sup (sup (sup (sup (sup (sup (sup (sup (sup X 16 (fun _ => S 35 0)) 17 (fun _ => S 36 0)) 18 (fun _ => nl2)) 19 (fun _ => nr2)) 0 SG2) 1 SQ2) 2 SP2) 3 SD2) 4 SC2) 5 XH2) 6 XP2) 7 XR2) 8 XC2) 9 XL2)) ?_ (fsP g B _ _ _ _) ⟨ok, (sup (sup (sup (sup (sup (sup (sup (sup (sup (sup (sup (sup (sup (sup X 16 (fun _ => S 35 0)) 17 (fun _ => S 36 0)) 18 (fun _ => nl2)) 19 (fun _ => nr2)) 0 SG2) 1 SQ2) 2 SP2) 3 SD2) 4 SC2) 5 XH2) 6 XP2) 7 XR2) 8 XC2) 9 XL2), rfl, rfl, ⟨hnL, hOP, hOF, hOT, hnO, hnY, hPA, hnE, hnR, hEF, hES, hEH, hnB, htn, hBL, hBE, hMC, hLP, hLH, hLU, hFL, hDP, hSH, hRE, hPR, hRA, hQ, (show ∀ k, 0 ≤ SG2 k - SQ2 k ∧ SG2 k - SQ2 k ≤ 3999960 from fhNet), hDP1, hdj, (show ∀ k, 0 ≤ XP2 k ∧ XP2 k ≤ 999999 from fhXP), hRB, hRT, hRF, hRD, hRH, hRN, hVH, hBP, hBQ, hBX, hBF, hBT, hBC, hEC, hEP, hEX, hEn, hMW, hMU, hMW1, hBP1⟩⟩
    simp only [putAll, wP, List.set_cons_succ, List.set_cons_zero, List.append_nil] <;> rfl
  · rintro E9 w9 ⟨rfl, hp9⟩
    refine q_and (w2 := wP g B S X) ?_ rfl ⟨?_, ?_, X, rfl, hI⟩
    · simp only [putAll, wP, List.set_cons_succ, List.set_cons_zero, List.append_nil] <;> rfl
    · intro z; unfold vC_hit at z; omega
    · rcases hp9 with ⟨rfl, -⟩ | ⟨rfl, -⟩ <;> simp

set_option maxHeartbeats 4000000 in
set_option maxRecDepth 100000 in
theorem p_sum (l : Launch) (hst9 : l.stackTraces = false) (g : gD) (B : Nat → Nat) (S X : Nat → Int → Int) (w : Int) (hI : iv9 S X) (h9w : -2147483648 ≤ w ∧ w < 2147483648) : gMetX l g yX9_sum cX9_sum 2 (some .int) 6 1 6 132 [.ref (B 0), vi w] (wP g B S X) (pO g B S (vi (vR_sum w S)) (vC_sum w S)) (pX g B S (vC_sum w S) [E1]) := by
  have hI2 := hI
  obtain ⟨hnL, hOP, hOF, hOT, hnO, hnY, hPA, hnE, hnR, hEF, hES, hEH, hnB, htn, hBL, hBE, hMC, hLP, hLH, hLU, hFL, hDP, hSH, hRE, hPR, hRA, hQ, hNet, hDP1, hdj, hXP, hRB, hRT, hRF, hRD, hRH, hRN, hVH, hBP, hBQ, hBX, hBF, hBT, hBC, hEC, hEP, hEX, hEn, hMW, hMU, hMW1, hBP1⟩ := hI2
  have hdst := dj9_dst hdj
  refine gMetX.frame (wP g B S X) (c_X9_sum l hst9 g (B 0) (B 1) (B 5) (B 9) (B 16) (B 27) (B 35) (B 39) (B 46) (B 55) (S 33 0) (B 2) (B 3) (B 4) (S 0) (S 1) (S 2) (S 34 0) (B 6) (B 7) (B 8) (S 3) (S 4) (S 5) (S 35 0) (B 10) (B 11) (B 12) (B 13) (B 14) (B 15) (S 6) (S 7) (S 8) (S 9) (S 10) (S 11) (S 36 0) (S 37 0) (B 17) (B 18) (B 19) (B 20) (B 21) (B 22) (B 23) (B 24) (B 25) (B 26) (X 0) (X 1) (X 2) (X 3) (X 4) (X 5) (X 6) (X 7) (X 8) (X 9) (X 16 0) (X 17 0) (X 18 0) (X 19 0) (B 28) (B 29) (B 30) (B 31) (B 32) (B 33) (B 34) (S 12) (X 10) w hLP hLH hLU hnL hOP hOF hOT hnO hFL hDP hSH hRE hPR hRA hnY hQ hNet hDP1 hdst hXP hPA hRB (by omega)) [0, 1, 2, 3, 4, 5, 6, 7, 8, 9, 10, 11, 12, 13, 14, 15, 16, 17, 18, 19, 20, 21, 22, 23, 24, 25, 26, 27, 28, 32] rfl (by decide) ?_ ?_
  · rintro v9 w9 ⟨SG2, SQ2, SP2, SD2, SC2, XH2, XP2, XR2, XC2, XL2, RB2, nl2, nr2, rfl, rfl, ok, fhNet, fhXP, fhRB⟩
    refine q_and (w2 := wP g B S (sup (sup (sup (sup (sup (sup (sup (sup (sup (sup (sup (sup (sup (sup (sup X 16 (fun _ => S 35 0)) 17 (fun _ => S 36 0)) 18 (fun _ => nl2)) 19 (fun _ => nr2)) 0 SG2) 1 SQ2) 2 SP2) 3 SD2) 4 SC2) 5 XH2) 6 XP2) 7 XR2) 8 XC2) 9 XL2) 10 RB2)) ?_ (fsP g B _ _ _ _) ⟨ok, (sup (sup (sup (sup (sup (sup (sup (sup (sup (sup (sup (sup (sup (sup (sup X 16 (fun _ => S 35 0)) 17 (fun _ => S 36 0)) 18 (fun _ => nl2)) 19 (fun _ => nr2)) 0 SG2) 1 SQ2) 2 SP2) 3 SD2) 4 SC2) 5 XH2) 6 XP2) 7 XR2) 8 XC2) 9 XL2) 10 RB2), rfl, rfl, ⟨hnL, hOP, hOF, hOT, hnO, hnY, hPA, hnE, hnR, hEF, hES, hEH, hnB, htn, hBL, hBE, hMC, hLP, hLH, hLU, hFL, hDP, hSH, hRE, hPR, hRA, hQ, (show ∀ k, 0 ≤ SG2 k - SQ2 k ∧ SG2 k - SQ2 k ≤ 3999960 from fhNet), hDP1, hdj, (show ∀ k, 0 ≤ XP2 k ∧ XP2 k ≤ 999999 from fhXP), (show ∀ k, 0 ≤ RB2 k ∧ RB2 k ≤ 100000000 from fhRB), hRT, hRF, hRD, hRH, hRN, hVH, hBP, hBQ, hBX, hBF, hBT, hBC, hEC, hEP, hEX, hEn, hMW, hMU, hMW1, hBP1⟩⟩
    simp only [putAll, wP, List.set_cons_succ, List.set_cons_zero, List.append_nil] <;> rfl
  · rintro E9 w9 ⟨rfl, hp9⟩
    refine q_and (w2 := wP g B S X) ?_ rfl ⟨?_, ?_, X, rfl, hI⟩
    · simp only [putAll, wP, List.set_cons_succ, List.set_cons_zero, List.append_nil] <;> rfl
    · intro z; unfold vC_sum at z; omega
    · obtain ⟨rfl, -⟩ := hp9; simp

set_option maxHeartbeats 4000000 in
set_option maxRecDepth 100000 in
theorem p_reinsurer (l : Launch) (hst9 : l.stackTraces = false) (g : gD) (B : Nat → Nat) (S X : Nat → Int → Int) (z w : Int) (hI : iv9 S X) (h9z : -2147483648 ≤ z ∧ z < 2147483648) (h9w : -2147483648 ≤ w ∧ w < 2147483648) : gMetX l g yX9_reinsurer cX9_reinsurer 3 (some .int) 6 1 6 132 [.ref (B 0), vi z, vi w] (wP g B S X) (pO g B S (vi (vR_reinsurer z w S)) (vC_reinsurer z w S)) (pX g B S (vC_reinsurer z w S) [E1, E3]) := by
  have hI2 := hI
  obtain ⟨hnL, hOP, hOF, hOT, hnO, hnY, hPA, hnE, hnR, hEF, hES, hEH, hnB, htn, hBL, hBE, hMC, hLP, hLH, hLU, hFL, hDP, hSH, hRE, hPR, hRA, hQ, hNet, hDP1, hdj, hXP, hRB, hRT, hRF, hRD, hRH, hRN, hVH, hBP, hBQ, hBX, hBF, hBT, hBC, hEC, hEP, hEX, hEn, hMW, hMU, hMW1, hBP1⟩ := hI2
  have hdst := dj9_dst hdj
  refine gMetX.frame (wP g B S X) (c_X9_reinsurer l hst9 g (B 0) (B 1) (B 5) (B 9) (B 16) (B 27) (B 35) (B 39) (B 46) (B 55) (S 33 0) (B 2) (B 3) (B 4) (S 0) (S 1) (S 2) (S 34 0) (B 6) (B 7) (B 8) (S 3) (S 4) (S 5) (S 35 0) (B 10) (B 11) (B 12) (B 13) (B 14) (B 15) (S 6) (S 7) (S 8) (S 9) (S 10) (S 11) (S 36 0) (S 37 0) (B 17) (B 18) (B 19) (B 20) (B 21) (B 22) (B 23) (B 24) (B 25) (B 26) (X 0) (X 1) (X 2) (X 3) (X 4) (X 5) (X 6) (X 7) (X 8) (X 9) (X 16 0) (X 17 0) (X 18 0) (X 19 0) (B 28) (B 29) (B 30) (B 31) (B 32) (B 33) (B 34) (S 12) (S 13) (S 14) (S 15) (X 10) (X 11) (X 12) z w hLP hLH hLU hnL hOP hOF hOT hnO hFL hDP hSH hRE hPR hRA hnY hQ hNet hDP1 hdst hXP hPA hRT hRF hRD hRB hRH hRN (by omega) (by omega)) [0, 1, 2, 3, 4, 5, 6, 7, 8, 9, 10, 11, 12, 13, 14, 15, 16, 17, 18, 19, 20, 21, 22, 23, 24, 25, 26, 27, 28, 29, 30, 31, 32, 33, 34] rfl (by decide) ?_ ?_
  · rintro v9 w9 ⟨SG2, SQ2, SP2, SD2, SC2, XH2, XP2, XR2, XC2, XL2, RB2, H2, N2, nl2, nr2, R, rfl, rfl, ok, fhR, fhNet, fhXP, fhRB, fhRH, fhRN⟩
    have e9 := rounds_eps fhR
    refine q_and (w2 := wP g B S (sup (sup (sup (sup (sup (sup (sup (sup (sup (sup (sup (sup (sup (sup (sup (sup (sup X 16 (fun _ => S 35 0)) 17 (fun _ => S 36 0)) 18 (fun _ => nl2)) 19 (fun _ => nr2)) 0 SG2) 1 SQ2) 2 SP2) 3 SD2) 4 SC2) 5 XH2) 6 XP2) 7 XR2) 8 XC2) 9 XL2) 10 RB2) 11 H2) 12 N2)) ?_ (fsP g B _ _ _ _) ⟨ok, (sup (sup (sup (sup (sup (sup (sup (sup (sup (sup (sup (sup (sup (sup (sup (sup (sup X 16 (fun _ => S 35 0)) 17 (fun _ => S 36 0)) 18 (fun _ => nl2)) 19 (fun _ => nr2)) 0 SG2) 1 SQ2) 2 SP2) 3 SD2) 4 SC2) 5 XH2) 6 XP2) 7 XR2) 8 XC2) 9 XL2) 10 RB2) 11 H2) 12 N2), (by rw [e9]; rfl), rfl, ⟨hnL, hOP, hOF, hOT, hnO, hnY, hPA, hnE, hnR, hEF, hES, hEH, hnB, htn, hBL, hBE, hMC, hLP, hLH, hLU, hFL, hDP, hSH, hRE, hPR, hRA, hQ, (show ∀ k, 0 ≤ SG2 k - SQ2 k ∧ SG2 k - SQ2 k ≤ 3999960 from fhNet), hDP1, hdj, (show ∀ k, 0 ≤ XP2 k ∧ XP2 k ≤ 999999 from fhXP), (show ∀ k, 0 ≤ RB2 k ∧ RB2 k ≤ 100000000 from fhRB), hRT, hRF, hRD, (show ∀ k, 0 ≤ H2 k ∧ H2 k ≤ 200000000 from fhRH), (show ∀ k, 0 ≤ N2 k ∧ N2 k ≤ 200000000 from fhRN), hVH, hBP, hBQ, hBX, hBF, hBT, hBC, hEC, hEP, hEX, hEn, hMW, hMU, hMW1, hBP1⟩⟩
    simp only [putAll, wP, List.set_cons_succ, List.set_cons_zero, List.append_nil] <;> rfl
  · rintro E9 w9 ⟨rfl, hp9⟩
    refine q_and (w2 := wP g B S X) ?_ rfl ⟨?_, ?_, X, rfl, hI⟩
    · simp only [putAll, wP, List.set_cons_succ, List.set_cons_zero, List.append_nil] <;> rfl
    · intro z; unfold vC_reinsurer at z; omega
    · rcases hp9 with ⟨rfl, -⟩ | ⟨rfl, -⟩ <;> simp

set_option maxHeartbeats 4000000 in
set_option maxRecDepth 100000 in
theorem p_rounds (l : Launch) (hst9 : l.stackTraces = false) (g : gD) (B : Nat → Nat) (S X : Nat → Int → Int) (hI : iv9 S X)  : gMet l g yX9_rounds cX9_rounds 1 (some .int) 5 0 0 132 [.ref (B 0)] (wP g B S X) (pO g B S (vi (vR_rounds S)) (rnd (fun z => kB (S 0) (S 1) (S 2) (S 34 0) (S 3) (S 4) (S 5) (S 35 0) (S 37 0) (S 6) (S 7) (S 8) (S 9) (S 10) (S 11) (S 12) (S 36 0) z) (S 13) (S 14) (S 15) (vR_rounds S))) := by
  have hI2 := hI
  obtain ⟨hnL, hOP, hOF, hOT, hnO, hnY, hPA, hnE, hnR, hEF, hES, hEH, hnB, htn, hBL, hBE, hMC, hLP, hLH, hLU, hFL, hDP, hSH, hRE, hPR, hRA, hQ, hNet, hDP1, hdj, hXP, hRB, hRT, hRF, hRD, hRH, hRN, hVH, hBP, hBQ, hBX, hBF, hBT, hBC, hEC, hEP, hEX, hEn, hMW, hMU, hMW1, hBP1⟩ := hI2
  have hdst := dj9_dst hdj
  refine gMet.frame (wP g B S X) (c_X9_rounds l g (B 0) (B 1) (B 5) (B 9) (B 16) (B 27) (B 35) (B 39) (B 46) (B 55) (S 33 0) (B 2) (B 3) (B 4) (S 0) (S 1) (S 2) (S 34 0) (B 6) (B 7) (B 8) (S 3) (S 4) (S 5) (S 35 0) (B 10) (B 11) (B 12) (B 13) (B 14) (B 15) (S 6) (S 7) (S 8) (S 9) (S 10) (S 11) (S 36 0) (S 37 0) (B 17) (B 18) (B 19) (B 20) (B 21) (B 22) (B 23) (B 24) (B 25) (B 26) (X 0) (X 1) (X 2) (X 3) (X 4) (X 5) (X 6) (X 7) (X 8) (X 9) (X 16 0) (X 17 0) (X 18 0) (X 19 0) (B 28) (B 29) (B 30) (B 31) (B 32) (B 33) (B 34) (S 12) (S 13) (S 14) (S 15) (X 10) (X 11) (X 12) hLP hLH hLU hnL hOP hOF hOT hnO hFL hDP hSH hRE hPR hRA hnY hQ hNet hDP1 hdst hXP hPA hRT hRF hRD hRB hRH hRN) [0, 1, 2, 3, 4, 5, 6, 7, 8, 9, 10, 11, 12, 13, 14, 15, 16, 17, 18, 19, 20, 21, 22, 23, 24, 25, 26, 27, 28, 29, 30, 31, 32, 33, 34] rfl (by decide) ?_
  · rintro v9 w9 ⟨SG2, SQ2, SP2, SD2, SC2, XH2, XP2, XR2, XC2, XL2, RB2, H2, N2, nl2, nr2, R, rfl, rfl, fhR, fhNet, fhXP, fhRB, fhRH, fhRN⟩
    have e9 := rounds_eps fhR
    refine q_and (w2 := wP g B S (sup (sup (sup (sup (sup (sup (sup (sup (sup (sup (sup (sup (sup (sup (sup (sup (sup X 16 (fun _ => S 35 0)) 17 (fun _ => S 36 0)) 18 (fun _ => nl2)) 19 (fun _ => nr2)) 0 SG2) 1 SQ2) 2 SP2) 3 SD2) 4 SC2) 5 XH2) 6 XP2) 7 XR2) 8 XC2) 9 XL2) 10 RB2) 11 H2) 12 N2)) ?_ (fsP g B _ _ _ _) ⟨(e9 ▸ fhR), (sup (sup (sup (sup (sup (sup (sup (sup (sup (sup (sup (sup (sup (sup (sup (sup (sup X 16 (fun _ => S 35 0)) 17 (fun _ => S 36 0)) 18 (fun _ => nl2)) 19 (fun _ => nr2)) 0 SG2) 1 SQ2) 2 SP2) 3 SD2) 4 SC2) 5 XH2) 6 XP2) 7 XR2) 8 XC2) 9 XL2) 10 RB2) 11 H2) 12 N2), (by rw [e9]), rfl, ⟨hnL, hOP, hOF, hOT, hnO, hnY, hPA, hnE, hnR, hEF, hES, hEH, hnB, htn, hBL, hBE, hMC, hLP, hLH, hLU, hFL, hDP, hSH, hRE, hPR, hRA, hQ, (show ∀ k, 0 ≤ SG2 k - SQ2 k ∧ SG2 k - SQ2 k ≤ 3999960 from fhNet), hDP1, hdj, (show ∀ k, 0 ≤ XP2 k ∧ XP2 k ≤ 999999 from fhXP), (show ∀ k, 0 ≤ RB2 k ∧ RB2 k ≤ 100000000 from fhRB), hRT, hRF, hRD, (show ∀ k, 0 ≤ H2 k ∧ H2 k ≤ 200000000 from fhRH), (show ∀ k, 0 ≤ N2 k ∧ N2 k ≤ 200000000 from fhRN), hVH, hBP, hBQ, hBX, hBF, hBT, hBC, hEC, hEP, hEX, hEn, hMW, hMU, hMW1, hBP1⟩⟩
    simp only [putAll, wP, List.set_cons_succ, List.set_cons_zero, List.append_nil] <;> rfl

set_option maxHeartbeats 4000000 in
set_option maxRecDepth 100000 in
theorem p_best (l : Launch) (hst9 : l.stackTraces = false) (g : gD) (B : Nat → Nat) (S X : Nat → Int → Int) (p : Int) (hI : iv9 S X) (h9p : -2147483648 ≤ p ∧ p < 2147483648) : gMetX l g yX9_best cX9_best 2 (some .int) 6 1 6 100 [.ref (B 0), vi p] (wP g B S X) (pO g B S (vi (vR_best p S)) (vC_best p S ∧ 0 ≤ vR_best p S ∧ vR_best p S ≤ 200000000)) (pX g B S (vC_best p S) [E1]) := by
  have hI2 := hI
  obtain ⟨hnL, hOP, hOF, hOT, hnO, hnY, hPA, hnE, hnR, hEF, hES, hEH, hnB, htn, hBL, hBE, hMC, hLP, hLH, hLU, hFL, hDP, hSH, hRE, hPR, hRA, hQ, hNet, hDP1, hdj, hXP, hRB, hRT, hRF, hRD, hRH, hRN, hVH, hBP, hBQ, hBX, hBF, hBT, hBC, hEC, hEP, hEX, hEn, hMW, hMU, hMW1, hBP1⟩ := hI2
  have hdst := dj9_dst hdj
  refine gMetX.frame (wP g B S X) (c_X9_best l hst9 g (B 0) (B 1) (B 5) (B 9) (B 16) (B 27) (B 35) (B 39) (B 46) (B 55) (S 33 0) (B 36) (B 37) (B 38) (X 13) (X 14) (X 15) (X 20 0) (B 2) (B 3) (B 4) (S 0) (S 1) (S 2) (S 34 0) (B 10) (B 11) (B 12) (B 13) (B 14) (B 15) (S 6) (S 7) (S 8) (S 36 0) (S 37 0) p hVH hLP hLH hLU hnL hFL hDP hSH hnY hQ (by omega)) [0, 35, 36, 37, 38, 1, 2, 3, 4, 9, 10, 11, 12] rfl (by decide) ?_ ?_
  · rintro v9 w9 ⟨H2, U2, M2, n2, rfl, rfl, ok, fhgv, fhVHr⟩
    have hb9 : 0 ≤ vR_best p S ∧ vR_best p S ≤ 200000000 := by
      rw [← best_eps fhgv]
      have h1 := ptT_r (VH := H2) (VU := U2) (cl := if p = 0 then 72 else 168) (fun u => wtt_r (FL := (S 6)) hDP hSH (S 37 0) hnY u) fhgv.1.1 n2 fhgv.1.1 (Int.le_refl _)
      have h2 := fhgv.1.2
      unfold Pv; omega
    refine q_and (w2 := wP g B S (sup (sup (sup (sup X 20 (fun _ => n2)) 13 H2) 14 U2) 15 M2)) ?_ (fsP g B _ _ _ _) ⟨⟨ok, hb9⟩, (sup (sup (sup (sup X 20 (fun _ => n2)) 13 H2) 14 U2) 15 M2), (congrArg (fun q => some (vi q)) (best_eps fhgv)), rfl, ⟨hnL, hOP, hOF, hOT, hnO, hnY, hPA, hnE, hnR, hEF, hES, hEH, hnB, htn, hBL, hBE, hMC, hLP, hLH, hLU, hFL, hDP, hSH, hRE, hPR, hRA, hQ, hNet, hDP1, hdj, hXP, hRB, hRT, hRF, hRD, hRH, hRN, (show ∀ k, 0 ≤ H2 k ∧ H2 k ≤ 2199 from fhVHr), hBP, hBQ, hBX, hBF, hBT, hBC, hEC, hEP, hEX, hEn, hMW, hMU, hMW1, hBP1⟩⟩
    simp only [putAll, wP, List.set_cons_succ, List.set_cons_zero, List.append_nil] <;> rfl
  · rintro E9 w9 ⟨rfl, hp9⟩
    refine q_and (w2 := wP g B S X) ?_ rfl ⟨?_, ?_, X, rfl, hI⟩
    · simp only [putAll, wP, List.set_cons_succ, List.set_cons_zero, List.append_nil] <;> rfl
    · intro z; unfold vC_best at z; omega
    · obtain ⟨rfl, -⟩ := hp9; simp

set_option maxHeartbeats 4000000 in
set_option maxRecDepth 100000 in
theorem p_bestAnew (l : Launch) (hst9 : l.stackTraces = false) (g : gD) (B : Nat → Nat) (S X : Nat → Int → Int) (p : Int) (hI : iv9 S X) (h9p : -2147483648 ≤ p ∧ p < 2147483648) : gMetX l g yX9_bestAnew cX9_bestAnew 2 (some .int) 12 1 6 298 [.ref (B 0), vi p] (wP g B S X) (pO g B S (vi (vR_bestAnew p S)) (vC_bestAnew p S)) (pX g B S (vC_bestAnew p S) [E1, E2]) := by
  have hI2 := hI
  obtain ⟨hnL, hOP, hOF, hOT, hnO, hnY, hPA, hnE, hnR, hEF, hES, hEH, hnB, htn, hBL, hBE, hMC, hLP, hLH, hLU, hFL, hDP, hSH, hRE, hPR, hRA, hQ, hNet, hDP1, hdj, hXP, hRB, hRT, hRF, hRD, hRH, hRN, hVH, hBP, hBQ, hBX, hBF, hBT, hBC, hEC, hEP, hEX, hEn, hMW, hMU, hMW1, hBP1⟩ := hI2
  have hdst := dj9_dst hdj
  refine gMetX.frame (wP g B S X) (c_X9_bestAnew l hst9 g (B 0) (B 1) (B 5) (B 9) (B 16) (B 27) (B 35) (B 39) (B 46) (B 55) (S 33 0) (B 36) (B 37) (B 38) (X 13) (X 14) (X 20 0) (B 2) (B 3) (B 4) (S 0) (S 1) (S 2) (S 34 0) (B 10) (B 11) (B 12) (B 13) (B 14) (B 15) (S 6) (S 7) (S 8) (S 36 0) (S 37 0) p hVH hLP hLH hLU hnL hFL hDP hSH hnY hQ (by omega)) [0, 35, 36, 37, 1, 2, 3, 4, 9, 10, 11, 12] rfl (by decide) ?_ ?_
  · rintro v9 w9 ⟨H2, U2, n2, rfl, rfl, ok, fhgv, fhVHr⟩
    refine q_and (w2 := wP g B S (sup (sup (sup X 20 (fun _ => n2)) 13 H2) 14 U2)) ?_ (fsP g B _ _ _ _) ⟨⟨ok.1, H2, U2, n2, fhgv, ok.2⟩, (sup (sup (sup X 20 (fun _ => n2)) 13 H2) 14 U2), (congrArg (fun q => some (vi q)) ((Pv_Sv _ _ _ _ fhgv.1.1).symm.trans (best_eps fhgv))), rfl, ⟨hnL, hOP, hOF, hOT, hnO, hnY, hPA, hnE, hnR, hEF, hES, hEH, hnB, htn, hBL, hBE, hMC, hLP, hLH, hLU, hFL, hDP, hSH, hRE, hPR, hRA, hQ, hNet, hDP1, hdj, hXP, hRB, hRT, hRF, hRD, hRH, hRN, (show ∀ k, 0 ≤ H2 k ∧ H2 k ≤ 2199 from fhVHr), hBP, hBQ, hBX, hBF, hBT, hBC, hEC, hEP, hEX, hEn, hMW, hMU, hMW1, hBP1⟩⟩
    simp only [putAll, wP, List.set_cons_succ, List.set_cons_zero, List.append_nil] <;> rfl
  · rintro E9 w9 (⟨rfl, rfl, hc9⟩ | ⟨rfl, H2, U2, n2, rfl, hc9, fhgv, fhVHr⟩)
    · refine q_and (w2 := wP g B S X) ?_ rfl ⟨fun z => hc9 z.1, (by simp), X, rfl, hI⟩
      simp only [putAll, wP, List.set_cons_succ, List.set_cons_zero, List.append_nil] <;> rfl
    · refine q_and (w2 := wP g B S (sup (sup (sup X 20 (fun _ => n2)) 13 H2) 14 U2)) ?_ (fsP g B _ _ _ _) ⟨fun z => ?_, (by simp), (sup (sup (sup X 20 (fun _ => n2)) 13 H2) 14 U2), rfl, ⟨hnL, hOP, hOF, hOT, hnO, hnY, hPA, hnE, hnR, hEF, hES, hEH, hnB, htn, hBL, hBE, hMC, hLP, hLH, hLU, hFL, hDP, hSH, hRE, hPR, hRA, hQ, hNet, hDP1, hdj, hXP, hRB, hRT, hRF, hRD, hRH, hRN, (show ∀ k, 0 ≤ H2 k ∧ H2 k ≤ 2199 from fhVHr), hBP, hBQ, hBX, hBF, hBT, hBC, hEC, hEP, hEX, hEn, hMW, hMU, hMW1, hBP1⟩⟩
      · simp only [putAll, wP, List.set_cons_succ, List.set_cons_zero, List.append_nil] <;> rfl
      · obtain ⟨-, K, V, m, k, km⟩ := z
        have b := (best_one fhgv k (fun _ => 0) 0).2.2
        omega

set_option maxHeartbeats 4000000 in
set_option maxRecDepth 100000 in
theorem p_ofBond (l : Launch) (hst9 : l.stackTraces = false) (g : gD) (B : Nat → Nat) (S X : Nat → Int → Int) (b w : Int) (hI : iv9 S X) (h9b : -2147483648 ≤ b ∧ b < 2147483648) (h9w : -2147483648 ≤ w ∧ w < 2147483648) : gMetX l g yX9_ofBond cX9_ofBond 6 (some .int) 6 1 6 141 [.ref (B 0), vi b, vi w] (wP g B S X) (pO g B S (vi (vR_ofBond b w S)) (vC_ofBond b w S)) (pX g B S (vC_ofBond b w S) [E1, E3]) := by
  have hI2 := hI
  obtain ⟨hnL, hOP, hOF, hOT, hnO, hnY, hPA, hnE, hnR, hEF, hES, hEH, hnB, htn, hBL, hBE, hMC, hLP, hLH, hLU, hFL, hDP, hSH, hRE, hPR, hRA, hQ, hNet, hDP1, hdj, hXP, hRB, hRT, hRF, hRD, hRH, hRN, hVH, hBP, hBQ, hBX, hBF, hBT, hBC, hEC, hEP, hEX, hEn, hMW, hMU, hMW1, hBP1⟩ := hI2
  have hdst := dj9_dst hdj
  refine gMetX.frame (wP g B S X) (c_X9_ofBond l hst9 g (B 0) (B 1) (B 5) (B 9) (B 16) (B 27) (B 35) (B 39) (B 46) (B 55) (S 33 0) (B 47) (B 48) (B 49) (B 50) (B 51) (B 52) (B 53) (B 54) (S 22) (S 23) (S 24) (S 25) (S 26) (S 27) (S 28) (S 29) (S 40 0) (B 40) (B 41) (B 42) (B 43) (B 44) (B 45) (S 16) (S 17) (S 18) (S 19) (S 20) (S 21) (S 38 0) (S 39 0) b w hBP hBQ hBX hBF hBL hBT hBC hBE hnB hEC hEF hES hEH hEP hEX hnE hnR hEn htn (by omega) (by omega)) [0, 46, 47, 48, 49, 50, 51, 52, 53, 54, 39, 40, 41, 42, 43, 44, 45] rfl (by decide) ?_ ?_
  · rintro v9 w9 ⟨rfl, rfl, ok⟩
    refine q_and (w2 := wP g B S X) ?_ (fsP g B _ _ _ _) ⟨ok, X, rfl, rfl, hI⟩
    simp only [putAll, wP, List.set_cons_succ, List.set_cons_zero, List.append_nil] <;> rfl
  · rintro E9 w9 ⟨rfl, hp9⟩
    refine q_and (w2 := wP g B S X) ?_ rfl ⟨?_, ?_, X, rfl, hI⟩
    · simp only [putAll, wP, List.set_cons_succ, List.set_cons_zero, List.append_nil] <;> rfl
    · intro z; unfold vC_ofBond at z; omega
    · rcases hp9 with ⟨rfl, -⟩ | ⟨rfl, -⟩ <;> simp

set_option maxHeartbeats 4000000 in
set_option maxRecDepth 100000 in
theorem p_basis (l : Launch) (hst9 : l.stackTraces = false) (g : gD) (B : Nat → Nat) (S X : Nat → Int → Int) (hI : iv9 S X)  : gMet l g yX9_basis cX9_basis 1 (some .int) 6 0 0 164 [.ref (B 0)] (wP g B S X) (pO g B S (vi (vR_basis S)) True) := by
  have hI2 := hI
  obtain ⟨hnL, hOP, hOF, hOT, hnO, hnY, hPA, hnE, hnR, hEF, hES, hEH, hnB, htn, hBL, hBE, hMC, hLP, hLH, hLU, hFL, hDP, hSH, hRE, hPR, hRA, hQ, hNet, hDP1, hdj, hXP, hRB, hRT, hRF, hRD, hRH, hRN, hVH, hBP, hBQ, hBX, hBF, hBT, hBC, hEC, hEP, hEX, hEn, hMW, hMU, hMW1, hBP1⟩ := hI2
  have hdst := dj9_dst hdj
  refine gMet.frame (wP g B S X) (c_X9_basis l g (B 0) (B 1) (B 5) (B 9) (B 16) (B 27) (B 35) (B 39) (B 46) (B 55) (S 33 0) (B 2) (B 3) (B 4) (S 0) (S 1) (S 2) (S 34 0) (B 6) (B 7) (B 8) (S 3) (S 4) (S 5) (S 35 0) (B 10) (B 11) (B 12) (B 13) (B 14) (B 15) (S 6) (S 7) (S 8) (S 9) (S 10) (S 11) (S 36 0) (S 37 0) (B 17) (B 18) (B 19) (B 20) (B 21) (B 22) (B 23) (B 24) (B 25) (B 26) (X 0) (X 1) (X 2) (X 3) (X 4) (X 5) (X 6) (X 7) (X 8) (X 9) (X 16 0) (X 17 0) (X 18 0) (X 19 0) (B 28) (B 29) (B 30) (B 31) (B 32) (B 33) (B 34) (S 12) (X 10) (B 47) (B 48) (B 49) (B 50) (B 51) (B 52) (B 53) (B 54) (S 22) (S 23) (S 24) (S 25) (S 26) (S 27) (S 28) (S 29) (S 40 0) (B 40) (B 41) (B 42) (B 43) (B 44) (B 45) (S 16) (S 17) (S 18) (S 19) (S 20) (S 21) (S 38 0) (S 39 0) hLP hLH hLU hnL hOP hOF hOT hnO hFL hDP hSH hRE hPR hRA hnY hQ hNet hDP1 hdst hXP hPA hRB hBP hBQ hBX hBF hBL hBT hBC hnB hEC hEF hES hEH hEP hEX hnE hnR hEn) [0, 1, 2, 3, 4, 5, 6, 7, 8, 9, 10, 11, 12, 13, 14, 15, 16, 17, 18, 19, 20, 21, 22, 23, 24, 25, 26, 27, 28, 32, 46, 47, 48, 49, 50, 51, 52, 53, 39, 40, 41, 42, 43, 44, 45] rfl (by decide) ?_
  · rintro v9 w9 ⟨SG2, SQ2, SP2, SD2, SC2, XH2, XP2, XR2, XC2, XL2, RB2, nl2, nr2, rfl, rfl, fhNet, fhXP, fhRB⟩
    refine q_and (w2 := wP g B S (sup (sup (sup (sup (sup (sup (sup (sup (sup (sup (sup (sup (sup (sup (sup X 16 (fun _ => S 35 0)) 17 (fun _ => S 36 0)) 18 (fun _ => nl2)) 19 (fun _ => nr2)) 0 SG2) 1 SQ2) 2 SP2) 3 SD2) 4 SC2) 5 XH2) 6 XP2) 7 XR2) 8 XC2) 9 XL2) 10 RB2)) ?_ (fsP g B _ _ _ _) ⟨trivial, (sup (sup (sup (sup (sup (sup (sup (sup (sup (sup (sup (sup (sup (sup (sup X 16 (fun _ => S 35 0)) 17 (fun _ => S 36 0)) 18 (fun _ => nl2)) 19 (fun _ => nr2)) 0 SG2) 1 SQ2) 2 SP2) 3 SD2) 4 SC2) 5 XH2) 6 XP2) 7 XR2) 8 XC2) 9 XL2) 10 RB2), rfl, rfl, ⟨hnL, hOP, hOF, hOT, hnO, hnY, hPA, hnE, hnR, hEF, hES, hEH, hnB, htn, hBL, hBE, hMC, hLP, hLH, hLU, hFL, hDP, hSH, hRE, hPR, hRA, hQ, (show ∀ k, 0 ≤ SG2 k - SQ2 k ∧ SG2 k - SQ2 k ≤ 3999960 from fhNet), hDP1, hdj, (show ∀ k, 0 ≤ XP2 k ∧ XP2 k ≤ 999999 from fhXP), (show ∀ k, 0 ≤ RB2 k ∧ RB2 k ≤ 100000000 from fhRB), hRT, hRF, hRD, hRH, hRN, hVH, hBP, hBQ, hBX, hBF, hBT, hBC, hEC, hEP, hEX, hEn, hMW, hMU, hMW1, hBP1⟩⟩
    simp only [putAll, wP, List.set_cons_succ, List.set_cons_zero, List.append_nil] <;> rfl

set_option maxHeartbeats 4000000 in
set_option maxRecDepth 100000 in
theorem p_price (l : Launch) (hst9 : l.stackTraces = false) (g : gD) (B : Nat → Nat) (S X : Nat → Int → Int) (y q : Int) (hI : iv9 S X) (h9y : -2147483648 ≤ y ∧ y < 2147483648) (h9q : -2147483648 ≤ q ∧ q < 2147483648) : gMetX l g yX9_price cX9_price 4 (some .long) 6 1 6 100 [.ref (B 0), vi y, vi q] (wP g B S X) (pO g B S (vl (vR_price y q S)) (vC_price y q S)) (pX g B S (vC_price y q S) [E2, E3]) := by
  have hI2 := hI
  obtain ⟨hnL, hOP, hOF, hOT, hnO, hnY, hPA, hnE, hnR, hEF, hES, hEH, hnB, htn, hBL, hBE, hMC, hLP, hLH, hLU, hFL, hDP, hSH, hRE, hPR, hRA, hQ, hNet, hDP1, hdj, hXP, hRB, hRT, hRF, hRD, hRH, hRN, hVH, hBP, hBQ, hBX, hBF, hBT, hBC, hEC, hEP, hEX, hEn, hMW, hMU, hMW1, hBP1⟩ := hI2
  have hdst := dj9_dst hdj
  refine gMetX.frame (wP g B S X) (c_X9_price l hst9 g (B 0) (B 1) (B 5) (B 9) (B 16) (B 27) (B 35) (B 39) (B 46) (B 55) (S 33 0) (B 56) (B 57) (B 58) (S 30) (S 31) (S 32) (B 10) (B 11) (B 12) (B 13) (B 14) (B 15) (S 6) (S 7) (S 8) (S 36 0) (S 37 0) y q hMW hMU hMC hFL hDP hSH hnY hQ (by omega) (by omega)) [0, 55, 56, 57, 58, 9, 10, 11, 12] rfl (by decide) ?_ ?_
  · rintro v9 w9 ⟨rfl, rfl, ok⟩
    refine q_and (w2 := wP g B S X) ?_ (fsP g B _ _ _ _) ⟨ok, X, rfl, rfl, hI⟩
    simp only [putAll, wP, List.set_cons_succ, List.set_cons_zero, List.append_nil] <;> rfl
  · rintro E9 w9 ⟨rfl, hp9⟩
    refine q_and (w2 := wP g B S X) ?_ rfl ⟨?_, ?_, X, rfl, hI⟩
    · simp only [putAll, wP, List.set_cons_succ, List.set_cons_zero, List.append_nil] <;> rfl
    · intro z; unfold vC_price at z; omega
    · rcases hp9 with ⟨rfl, -⟩ | ⟨rfl, -⟩ <;> simp

set_option maxHeartbeats 4000000 in
set_option maxRecDepth 100000 in
theorem p_tail (l : Launch) (hst9 : l.stackTraces = false) (g : gD) (B : Nat → Nat) (S X : Nat → Int → Int) (y q u : Int) (hI : iv9 S X) (h9y : -2147483648 ≤ y ∧ y < 2147483648) (h9q : -2147483648 ≤ q ∧ q < 2147483648) (h9u : -2147483648 ≤ u ∧ u < 2147483648) : gMetX l g yX9_tail cX9_tail 4 (some .int) 6 1 6 123 [.ref (B 0), vi y, vi q, vi u] (wP g B S X) (pO g B S (vi (vR_tail y q u S)) (vC_tail y q u S)) (pX g B S (vC_tail y q u S) [E1, E2, E3]) := by
  have hI2 := hI
  obtain ⟨hnL, hOP, hOF, hOT, hnO, hnY, hPA, hnE, hnR, hEF, hES, hEH, hnB, htn, hBL, hBE, hMC, hLP, hLH, hLU, hFL, hDP, hSH, hRE, hPR, hRA, hQ, hNet, hDP1, hdj, hXP, hRB, hRT, hRF, hRD, hRH, hRN, hVH, hBP, hBQ, hBX, hBF, hBT, hBC, hEC, hEP, hEX, hEn, hMW, hMU, hMW1, hBP1⟩ := hI2
  have hdst := dj9_dst hdj
  refine gMetX.frame (wP g B S X) (c_X9_tail l hst9 g (B 0) (B 1) (B 5) (B 9) (B 16) (B 27) (B 35) (B 39) (B 46) (B 55) (S 33 0) (B 56) (B 57) (B 58) (S 30) (S 31) (S 32) (B 10) (B 11) (B 12) (B 13) (B 14) (B 15) (S 6) (S 7) (S 8) (S 36 0) (S 37 0) y q u hMW hMU hMC hFL hDP hSH hnY hQ (by omega) (by omega) (by omega)) [0, 55, 56, 57, 58, 9, 10, 11, 12] rfl (by decide) ?_ ?_
  · rintro v9 w9 ⟨rfl, rfl, ok⟩
    refine q_and (w2 := wP g B S X) ?_ (fsP g B _ _ _ _) ⟨ok, X, rfl, rfl, hI⟩
    simp only [putAll, wP, List.set_cons_succ, List.set_cons_zero, List.append_nil] <;> rfl
  · rintro E9 w9 ⟨rfl, hp9⟩
    refine q_and (w2 := wP g B S X) ?_ rfl ⟨?_, ?_, X, rfl, hI⟩
    · simp only [putAll, wP, List.set_cons_succ, List.set_cons_zero, List.append_nil] <;> rfl
    · intro z; unfold vC_tail at z; omega
    · rcases hp9 with ⟨rfl, -⟩ | ⟨rfl, -⟩ | ⟨rfl, -⟩ <;> simp

set_option maxHeartbeats 4000000 in
set_option maxRecDepth 100000 in
theorem p_dearest (l : Launch) (hst9 : l.stackTraces = false) (g : gD) (B : Nat → Nat) (S X : Nat → Int → Int) (y bb : Int) (hI : iv9 S X) (h9y : -2147483648 ≤ y ∧ y < 2147483648) (h9bb : 0 ≤ bb ∧ bb ≤ 1) : gMetX l g yX9_dearest cX9_dearest 4 (some .long) 6 1 6 147 [.ref (B 0), vi y, vi bb] (wP g B S X) (pO g B S (vl (vR_dearest y bb S)) (vC_dearest y bb S)) (pX g B S (vC_dearest y bb S) [E3]) := by
  have hI2 := hI
  obtain ⟨hnL, hOP, hOF, hOT, hnO, hnY, hPA, hnE, hnR, hEF, hES, hEH, hnB, htn, hBL, hBE, hMC, hLP, hLH, hLU, hFL, hDP, hSH, hRE, hPR, hRA, hQ, hNet, hDP1, hdj, hXP, hRB, hRT, hRF, hRD, hRH, hRN, hVH, hBP, hBQ, hBX, hBF, hBT, hBC, hEC, hEP, hEX, hEn, hMW, hMU, hMW1, hBP1⟩ := hI2
  have hdst := dj9_dst hdj
  refine gMetX.frame (wP g B S X) (c_X9_dearest l hst9 g (B 0) (B 1) (B 5) (B 9) (B 16) (B 27) (B 35) (B 39) (B 46) (B 55) (S 33 0) (B 56) (B 57) (B 58) (S 30) (S 31) (S 32) (B 10) (B 11) (B 12) (B 13) (B 14) (B 15) (S 6) (S 7) (S 8) (S 36 0) (S 37 0) y bb hMW hMU hMC hFL hDP hSH hnY hQ hMW1 (by omega) (by omega)) [0, 55, 56, 57, 58, 9, 10, 11, 12] rfl (by decide) ?_ ?_
  · rintro v9 w9 ⟨z9, rfl, rfl, ok, fhz⟩
    refine q_and (w2 := wP g B S X) ?_ (fsP g B _ _ _ _) ⟨ok, X, (congrArg (fun q => some (vl q)) (dear_eps fhz)), rfl, hI⟩
    simp only [putAll, wP, List.set_cons_succ, List.set_cons_zero, List.append_nil] <;> rfl
  · rintro E9 w9 ⟨rfl, hp9⟩
    refine q_and (w2 := wP g B S X) ?_ rfl ⟨?_, ?_, X, rfl, hI⟩
    · simp only [putAll, wP, List.set_cons_succ, List.set_cons_zero, List.append_nil] <;> rfl
    · intro z; unfold vC_dearest at z; omega
    · obtain ⟨rfl, -⟩ := hp9; simp

set_option maxHeartbeats 4000000 in
set_option maxRecDepth 100000 in
theorem p_hour (l : Launch) (hst9 : l.stackTraces = false) (g : gD) (B : Nat → Nat) (S X : Nat → Int → Int) (hI : iv9 S X)  : gMet l g yX9_hour cX9_hour 1 (some .int) 0 0 0 0 [.ref (B 0)] (wP g B S X) (pO g B S (vi (vR_hour S)) True) := by
  have hI2 := hI
  obtain ⟨hnL, hOP, hOF, hOT, hnO, hnY, hPA, hnE, hnR, hEF, hES, hEH, hnB, htn, hBL, hBE, hMC, hLP, hLH, hLU, hFL, hDP, hSH, hRE, hPR, hRA, hQ, hNet, hDP1, hdj, hXP, hRB, hRT, hRF, hRD, hRH, hRN, hVH, hBP, hBQ, hBX, hBF, hBT, hBC, hEC, hEP, hEX, hEn, hMW, hMU, hMW1, hBP1⟩ := hI2
  have hdst := dj9_dst hdj
  refine gMet.frame (wP g B S X) (c_X9_hour l g (B 0) (B 1) (B 5) (B 9) (B 16) (B 27) (B 35) (B 39) (B 46) (B 55) (S 33 0)) [0] rfl (by decide) ?_
  · rintro v9 w9 ⟨rfl, rfl⟩
    refine q_and (w2 := wP g B S X) ?_ (fsP g B _ _ _ _) ⟨trivial, X, rfl, rfl, hI⟩
    simp only [putAll, wP, List.set_cons_succ, List.set_cons_zero, List.append_nil] <;> rfl

