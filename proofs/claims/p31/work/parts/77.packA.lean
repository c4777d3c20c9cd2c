set_option maxHeartbeats 4000000 in
set_option maxRecDepth 100000 in
theorem p_loss (l : Launch) (hst9 : l.stackTraces = false) (g : gD) (B : Nat → Nat) (S X : Nat → Int → Int) (p h u : Int) (hI : iv9 S X) (h9p : -2147483648 ≤ p ∧ p < 2147483648) (h9h : -2147483648 ≤ h ∧ h < 2147483648) (h9u : -2147483648 ≤ u ∧ u < 2147483648) : gMetX l g yX9_loss cX9_loss 4 (some .int) 6 1 6 100 [.ref (B 0), vi p, vi h, vi u] (wP g B S X) (pO g B (vN_loss p h u S) (vi (vR_loss p h u S)) (vC_loss p h u S)) (pX g B S (vC_loss p h u S) [E1, E2]) := by
  have hI2 := hI
  obtain ⟨hnL, hOP, hOF, hOT, hnO, hnY, hPA, hnE, hnR, hEF, hES, hEH, hnB, htn, hBL, hBE, hMC, hLP, hLH, hLU, hFL, hDP, hSH, hRE, hPR, hRA, hQ, hNet, hDP1, hdj, hXP, hRB, hRT, hRF, hRD, hRH, hRN, hVH, hBP, hBQ, hBX, hBF, hBT, hBC, hEC, hEP, hEX, hEn, hMW, hMU, hMW1, hBP1⟩ := hI2
  have hdst := dj9_dst hdj
  refine gMetX.frame (wP g B S X) (c_X9_loss l hst9 g (B 0) (B 1) (B 5) (B 9) (B 16) (B 27) (B 35) (B 39) (B 46) (B 55) (S 33 0) (B 2) (B 3) (B 4) (S 0) (S 1) (S 2) (S 34 0) p h u hnL (by omega) (by omega) (by omega)) [0, 1, 2, 3, 4] rfl (by decide) ?_ ?_
  · rintro v9 w9 ⟨rfl, rfl, ok⟩
    refine q_and (w2 := wP g B (vN_loss p h u S) X) ?_ (fsP g B _ _ _ _) ⟨ok, X, rfl, rfl, ⟨(show 0 ≤ ((S 34 0) + 1) ∧ ((S 34 0) + 1) ≤ 40 from (by first | omega | (show _ ∧ _; exact ⟨by omega, by omega⟩))), hOP, hOF, hOT, hnO, hnY, hPA, hnE, hnR, hEF, hES, hEH, hnB, htn, hBL, hBE, hMC, (show ∀ k, 0 ≤ (up (S 0) (S 34 0) p) k ∧ (up (S 0) (S 34 0) p) k ≤ 2 from (up_r hLP (by omega))), (show ∀ k, 0 ≤ (up (S 1) (S 34 0) h) k ∧ (up (S 1) (S 34 0) h) k ≤ 2199 from (up_r hLH (by omega))), (show ∀ k, 0 ≤ (up (S 2) (S 34 0) u) k ∧ (up (S 2) (S 34 0) u) k ≤ 99999 from (up_r hLU (by omega))), hFL, hDP, hSH, hRE, hPR, hRA, hQ, hNet, hDP1, hdj, hXP, hRB, hRT, hRF, hRD, hRH, hRN, hVH, hBP, hBQ, hBX, hBF, hBT, hBC, hEC, hEP, hEX, hEn, hMW, hMU, hMW1, hBP1⟩⟩
    simp only [putAll, wP, List.set_cons_succ, List.set_cons_zero, List.append_nil] <;> rfl
  · rintro E9 w9 ⟨rfl, hp9⟩
    refine q_and (w2 := wP g B S X) ?_ rfl ⟨?_, ?_, X, rfl, hI⟩
    · simp only [putAll, wP, List.set_cons_succ, List.set_cons_zero, List.append_nil] <;> rfl
    · intro z; unfold vC_loss at z; omega
    · rcases hp9 with ⟨rfl, -⟩ | ⟨rfl, -⟩ <;> simp

set_option maxHeartbeats 4000000 in
set_option maxRecDepth 100000 in
theorem p_creep (l : Launch) (hst9 : l.stackTraces = false) (g : gD) (B : Nat → Nat) (S X : Nat → Int → Int) (v u : Int) (hI : iv9 S X) (h9v : -2147483648 ≤ v ∧ v < 2147483648) (h9u : -2147483648 ≤ u ∧ u < 2147483648) : gMetX l g yX9_creep cX9_creep 3 (some .int) 6 1 6 100 [.ref (B 0), vi v, vi u] (wP g B S X) (pO g B (vN_creep v u S) (vi (vR_creep v u S)) (vC_creep v u S)) (pX g B S (vC_creep v u S) [E1, E3]) := by
  have hI2 := hI
  obtain ⟨hnL, hOP, hOF, hOT, hnO, hnY, hPA, hnE, hnR, hEF, hES, hEH, hnB, htn, hBL, hBE, hMC, hLP, hLH, hLU, hFL, hDP, hSH, hRE, hPR, hRA, hQ, hNet, hDP1, hdj, hXP, hRB, hRT, hRF, hRD, hRH, hRN, hVH, hBP, hBQ, hBX, hBF, hBT, hBC, hEC, hEP, hEX, hEn, hMW, hMU, hMW1, hBP1⟩ := hI2
  have hdst := dj9_dst hdj
  refine gMetX.frame (wP g B S X) (c_X9_creep l hst9 g (B 0) (B 1) (B 5) (B 9) (B 16) (B 27) (B 35) (B 39) (B 46) (B 55) (S 33 0) (B 2) (B 3) (B 4) (S 2) (S 34 0) v u hnL (by omega) (by omega)) [0, 1, 4] rfl (by decide) ?_ ?_
  · rintro v9 w9 ⟨rfl, rfl, ok⟩
    refine q_and (w2 := wP g B (vN_creep v u S) X) ?_ (fsP g B _ _ _ _) ⟨ok, X, rfl, rfl, ⟨hnL, hOP, hOF, hOT, hnO, hnY, hPA, hnE, hnR, hEF, hES, hEH, hnB, htn, hBL, hBE, hMC, hLP, hLH, (show ∀ k, 0 ≤ (up (S 2) v u) k ∧ (up (S 2) v u) k ≤ 99999 from (up_r hLU (by omega))), hFL, hDP, hSH, hRE, hPR, hRA, hQ, hNet, hDP1, hdj, hXP, hRB, hRT, hRF, hRD, hRH, hRN, hVH, hBP, hBQ, hBX, hBF, hBT, hBC, hEC, hEP, hEX, hEn, hMW, hMU, hMW1, hBP1⟩⟩
    simp only [putAll, wP, List.set_cons_succ, List.set_cons_zero, List.append_nil] <;> rfl
  · rintro E9 w9 ⟨rfl, hp9⟩
    refine q_and (w2 := wP g B S X) ?_ rfl ⟨?_, ?_, X, rfl, hI⟩
    · simp only [putAll, wP, List.set_cons_succ, List.set_cons_zero, List.append_nil] <;> rfl
    · intro z; unfold vC_creep at z; omega
    · rcases hp9 with ⟨rfl, -⟩ | ⟨rfl, -⟩ <;> simp

set_option maxHeartbeats 4000000 in
set_option maxRecDepth 100000 in
theorem p_choose (l : Launch) (hst9 : l.stackTraces = false) (g : gD) (B : Nat → Nat) (S X : Nat → Int → Int) (p a b : Int) (hI : iv9 S X) (h9p : -2147483648 ≤ p ∧ p < 2147483648) (h9a : -2147483648 ≤ a ∧ a < 2147483648) (h9b : -2147483648 ≤ b ∧ b < 2147483648) : gMetX l g yX9_choose cX9_choose 4 (some .int) 6 1 6 100 [.ref (B 0), vi p, vi a, vi b] (wP g B S X) (pO g B (vN_choose p a b S) (vi (vR_choose p a b S)) (vC_choose p a b S)) (pX g B S (vC_choose p a b S) [E1, E2]) := by
  have hI2 := hI
  obtain ⟨hnL, hOP, hOF, hOT, hnO, hnY, hPA, hnE, hnR, hEF, hES, hEH, hnB, htn, hBL, hBE, hMC, hLP, hLH, hLU, hFL, hDP, hSH, hRE, hPR, hRA, hQ, hNet, hDP1, hdj, hXP, hRB, hRT, hRF, hRD, hRH, hRN, hVH, hBP, hBQ, hBX, hBF, hBT, hBC, hEC, hEP, hEX, hEn, hMW, hMU, hMW1, hBP1⟩ := hI2
  have hdst := dj9_dst hdj
  refine gMetX.frame (wP g B S X) (c_X9_choose l hst9 g (B 0) (B 1) (B 5) (B 9) (B 16) (B 27) (B 35) (B 39) (B 46) (B 55) (S 33 0) (B 6) (B 7) (B 8) (S 3) (S 4) (S 5) (S 35 0) p a b hOP hOF hOT hnO (by omega) (by omega) (by omega)) [0, 5, 6, 7, 8] rfl (by decide) ?_ ?_
  · rintro v9 w9 ⟨rfl, rfl, ok⟩
    refine q_and (w2 := wP g B (vN_choose p a b S) X) ?_ (fsP g B _ _ _ _) ⟨ok, X, rfl, rfl, ⟨hnL, (show ∀ k, 0 ≤ (up (S 3) (S 35 0) p) k ∧ (up (S 3) (S 35 0) p) k ≤ 2 from (up_r hOP (by omega))), (show ∀ k, 0 ≤ (up (S 4) (S 35 0) a) k ∧ (up (S 4) (S 35 0) a) k ≤ 2199 from (up_r hOF (by omega))), (show ∀ k, 0 ≤ (up (S 5) (S 35 0) b) k ∧ (up (S 5) (S 35 0) b) k ≤ 2199 from (up_r hOT (by omega))), (show 0 ≤ ((S 35 0) + 1) ∧ ((S 35 0) + 1) ≤ 8 from (by first | omega | (show _ ∧ _; exact ⟨by omega, by omega⟩))), hnY, hPA, hnE, hnR, hEF, hES, hEH, hnB, htn, hBL, hBE, hMC, hLP, hLH, hLU, hFL, hDP, hSH, hRE, hPR, hRA, hQ, hNet, hDP1, (show dj9 (up (S 3) (S 35 0) p) (up (S 4) (S 35 0) a) (up (S 5) (S 35 0) b) ((S 35 0) + 1) from (dj9_more hdj ok.2.2 (by omega))), hXP, hRB, hRT, hRF, hRD, hRH, hRN, hVH, hBP, hBQ, hBX, hBF, hBT, hBC, hEC, hEP, hEX, hEn, hMW, hMU, hMW1, hBP1⟩⟩
    simp only [putAll, wP, List.set_cons_succ, List.set_cons_zero, List.append_nil] <;> rfl
  · rintro E9 w9 ⟨rfl, hp9⟩
    refine q_and (w2 := wP g B S X) ?_ rfl ⟨?_, ?_, X, rfl, hI⟩
    · simp only [putAll, wP, List.set_cons_succ, List.set_cons_zero, List.append_nil] <;> rfl
    · intro z; obtain ⟨z1, z2, z3⟩ := z; rcases hp9 with ⟨-, q⟩ | ⟨-, q1, q2 | q2⟩; (exact q z1); (omega); (exact z3 q2)
    · rcases hp9 with ⟨rfl, -⟩ | ⟨rfl, -⟩ <;> simp

set_option maxHeartbeats 4000000 in
set_option maxRecDepth 100000 in
theorem p_unchoose (l : Launch) (hst9 : l.stackTraces = false) (g : gD) (B : Nat → Nat) (S X : Nat → Int → Int) (hI : iv9 S X)  : gMetX l g yX9_unchoose cX9_unchoose 1 (some .int) 6 1 6 100 [.ref (B 0)] (wP g B S X) (pO g B (vN_unchoose S) (vi (vR_unchoose S)) (vC_unchoose S)) (pX g B S (vC_unchoose S) [E2]) := by
  have hI2 := hI
  obtain ⟨hnL, hOP, hOF, hOT, hnO, hnY, hPA, hnE, hnR, hEF, hES, hEH, hnB, htn, hBL, hBE, hMC, hLP, hLH, hLU, hFL, hDP, hSH, hRE, hPR, hRA, hQ, hNet, hDP1, hdj, hXP, hRB, hRT, hRF, hRD, hRH, hRN, hVH, hBP, hBQ, hBX, hBF, hBT, hBC, hEC, hEP, hEX, hEn, hMW, hMU, hMW1, hBP1⟩ := hI2
  have hdst := dj9_dst hdj
  refine gMetX.frame (wP g B S X) (c_X9_unchoose l hst9 g (B 0) (B 1) (B 5) (B 9) (B 16) (B 27) (B 35) (B 39) (B 46) (B 55) (S 33 0) (B 6) (B 7) (B 8) (S 35 0) hnO) [0, 5] rfl (by decide) ?_ ?_
  · rintro v9 w9 ⟨rfl, rfl, ok⟩
    refine q_and (w2 := wP g B (vN_unchoose S) X) ?_ (fsP g B _ _ _ _) ⟨ok, X, rfl, rfl, ⟨hnL, hOP, hOF, hOT, (show 0 ≤ ((S 35 0) - 1) ∧ ((S 35 0) - 1) ≤ 8 from (by first | omega | (show _ ∧ _; exact ⟨by omega, by omega⟩))), hnY, hPA, hnE, hnR, hEF, hES, hEH, hnB, htn, hBL, hBE, hMC, hLP, hLH, hLU, hFL, hDP, hSH, hRE, hPR, hRA, hQ, hNet, hDP1, (show dj9 (S 3) (S 4) (S 5) ((S 35 0) - 1) from (dj9_less hdj (by omega))), hXP, hRB, hRT, hRF, hRD, hRH, hRN, hVH, hBP, hBQ, hBX, hBF, hBT, hBC, hEC, hEP, hEX, hEn, hMW, hMU, hMW1, hBP1⟩⟩
    simp only [putAll, wP, List.set_cons_succ, List.set_cons_zero, List.append_nil] <;> rfl
  · rintro E9 w9 ⟨rfl, hp9⟩
    refine q_and (w2 := wP g B S X) ?_ rfl ⟨?_, ?_, X, rfl, hI⟩
    · simp only [putAll, wP, List.set_cons_succ, List.set_cons_zero, List.append_nil] <;> rfl
    · intro z; unfold vC_unchoose at z; omega
    · obtain ⟨rfl, -⟩ := hp9; simp

set_option maxHeartbeats 4000000 in
set_option maxRecDepth 100000 in
theorem p_quota (l : Launch) (hst9 : l.stackTraces = false) (g : gD) (B : Nat → Nat) (S X : Nat → Int → Int) (v : Int) (hI : iv9 S X) (h9v : -2147483648 ≤ v ∧ v < 2147483648) : gMetX l g yX9_quota cX9_quota 2 (some .int) 6 1 6 100 [.ref (B 0), vi v] (wP g B S X) (pO g B (vN_quota v S) (vi (vR_quota v S)) (vC_quota v S)) (pX g B S (vC_quota v S) [E1]) := by
  have hI2 := hI
  obtain ⟨hnL, hOP, hOF, hOT, hnO, hnY, hPA, hnE, hnR, hEF, hES, hEH, hnB, htn, hBL, hBE, hMC, hLP, hLH, hLU, hFL, hDP, hSH, hRE, hPR, hRA, hQ, hNet, hDP1, hdj, hXP, hRB, hRT, hRF, hRD, hRH, hRN, hVH, hBP, hBQ, hBX, hBF, hBT, hBC, hEC, hEP, hEX, hEn, hMW, hMU, hMW1, hBP1⟩ := hI2
  have hdst := dj9_dst hdj
  refine gMetX.frame (wP g B S X) (c_X9_quota l hst9 g (B 0) (B 1) (B 5) (B 9) (B 16) (B 27) (B 35) (B 39) (B 46) (B 55) (S 33 0) (B 10) (B 11) (B 12) (B 13) (B 14) (B 15) (S 36 0) (S 37 0) v (by omega)) [0, 9] rfl (by decide) ?_ ?_
  · rintro v9 w9 ⟨rfl, rfl, ok⟩
    refine q_and (w2 := wP g B (vN_quota v S) X) ?_ (fsP g B _ _ _ _) ⟨ok, X, rfl, rfl, ⟨hnL, hOP, hOF, hOT, hnO, hnY, hPA, hnE, hnR, hEF, hES, hEH, hnB, htn, hBL, hBE, hMC, hLP, hLH, hLU, hFL, hDP, hSH, hRE, hPR, hRA, (show 0 ≤ v ∧ v ≤ 90 from ok), hNet, hDP1, hdj, hXP, hRB, hRT, hRF, hRD, hRH, hRN, hVH, hBP, hBQ, hBX, hBF, hBT, hBC, hEC, hEP, hEX, hEn, hMW, hMU, hMW1, hBP1⟩⟩
    simp only [putAll, wP, List.set_cons_succ, List.set_cons_zero, List.append_nil] <;> rfl
  · rintro E9 w9 ⟨rfl, hp9⟩
    refine q_and (w2 := wP g B S X) ?_ rfl ⟨?_, ?_, X, rfl, hI⟩
    · simp only [putAll, wP, List.set_cons_succ, List.set_cons_zero, List.append_nil] <;> rfl
    · intro z; unfold vC_quota at z; omega
    · obtain ⟨rfl, -⟩ := hp9; simp

set_option maxHeartbeats 4000000 in
set_option maxRecDepth 100000 in
theorem p_layer (l : Launch) (hst9 : l.stackTraces = false) (g : gD) (B : Nat → Nat) (S X : Nat → Int → Int) (a1 a2 a3 a4 a5 a6 : Int) (hI : iv9 S X) (h9a1 : -2147483648 ≤ a1 ∧ a1 < 2147483648) (h9a2 : -2147483648 ≤ a2 ∧ a2 < 2147483648) (h9a3 : -2147483648 ≤ a3 ∧ a3 < 2147483648) (h9a4 : -2147483648 ≤ a4 ∧ a4 < 2147483648) (h9a5 : -2147483648 ≤ a5 ∧ a5 < 2147483648) (h9a6 : -2147483648 ≤ a6 ∧ a6 < 2147483648) : gMetX l g yX9_layer cX9_layer 8 (some .int) 6 1 6 100 [.ref (B 0), vi a1, vi a2, vi a3, vi a4, vi a5, vi a6] (wP g B S X) (pO g B (vN_layer a1 a2 a3 a4 a5 a6 S) (vi (vR_layer a1 a2 a3 a4 a5 a6 S)) (vC_layer a1 a2 a3 a4 a5 a6 S)) (pX g B S (vC_layer a1 a2 a3 a4 a5 a6 S) [E1, E2]) := by
  have hI2 := hI
  obtain ⟨hnL, hOP, hOF, hOT, hnO, hnY, hPA, hnE, hnR, hEF, hES, hEH, hnB, htn, hBL, hBE, hMC, hLP, hLH, hLU, hFL, hDP, hSH, hRE, hPR, hRA, hQ, hNet, hDP1, hdj, hXP, hRB, hRT, hRF, hRD, hRH, hRN, hVH, hBP, hBQ, hBX, hBF, hBT, hBC, hEC, hEP, hEX, hEn, hMW, hMU, hMW1, hBP1⟩ := hI2
  have hdst := dj9_dst hdj
  refine gMetX.frame (wP g B S X) (c_X9_layer l hst9 g (B 0) (B 1) (B 5) (B 9) (B 16) (B 27) (B 35) (B 39) (B 46) (B 55) (S 33 0) (B 10) (B 11) (B 12) (B 13) (B 14) (B 15) (S 6) (S 7) (S 8) (S 9) (S 10) (S 11) (S 36 0) (S 37 0) a1 a2 a3 a4 a5 a6 hnY (by omega) (by omega) (by omega) (by omega) (by omega) (by omega)) [0, 9, 10, 11, 12, 13, 14, 15] rfl (by decide) ?_ ?_
  · rintro v9 w9 ⟨rfl, rfl, ok⟩
    refine q_and (w2 := wP g B (vN_layer a1 a2 a3 a4 a5 a6 S) X) ?_ (fsP g B _ _ _ _) ⟨ok, X, rfl, rfl, ⟨hnL, hOP, hOF, hOT, hnO, (show 0 ≤ ((S 36 0) + 1) ∧ ((S 36 0) + 1) ≤ 5 from (by first | omega | (show _ ∧ _; exact ⟨by omega, by omega⟩))), hPA, hnE, hnR, hEF, hES, hEH, hnB, htn, hBL, hBE, hMC, hLP, hLH, hLU, (show ∀ k, 0 ≤ (up (S 6) (S 36 0) a1) k ∧ (up (S 6) (S 36 0) a1) k ≤ 999999 from (up_r hFL (by omega))), (show ∀ k, 0 ≤ (up (S 7) (S 36 0) a2) k ∧ (up (S 7) (S 36 0) a2) k ≤ 999999 from (up_r hDP (by omega))), (show ∀ k, 0 ≤ (up (S 8) (S 36 0) a3) k ∧ (up (S 8) (S 36 0) a3) k ≤ 100 from (up_r hSH (by omega))), (show ∀ k, 0 ≤ (up (S 9) (S 36 0) a4) k ∧ (up (S 9) (S 36 0) a4) k ≤ 3 from (up_r hRE (by omega))), (show ∀ k, 0 ≤ (up (S 10) (S 36 0) a5) k ∧ (up (S 10) (S 36 0) a5) k ≤ 99999 from (up_r hPR (by omega))), (show ∀ k, 0 ≤ (up (S 11) (S 36 0) a6) k ∧ (up (S 11) (S 36 0) a6) k ≤ 150 from (up_r hRA (by omega))), hQ, hNet, (show ∀ k, 0 ≤ k → k < ((S 36 0) + 1) → 1 ≤ (up (S 7) (S 36 0) a2) k from (one_up hDP1 (by omega))), hdj, hXP, hRB, hRT, hRF, hRD, hRH, hRN, hVH, hBP, hBQ, hBX, hBF, hBT, hBC, hEC, hEP, hEX, hEn, hMW, hMU, hMW1, hBP1⟩⟩
    simp only [putAll, wP, List.set_cons_succ, List.set_cons_zero, List.append_nil] <;> rfl
  · rintro E9 w9 ⟨rfl, hp9⟩
    refine q_and (w2 := wP g B S X) ?_ rfl ⟨?_, ?_, X, rfl, hI⟩
    · simp only [putAll, wP, List.set_cons_succ, List.set_cons_zero, List.append_nil] <;> rfl
    · intro z; unfold vC_layer at z; omega
    · rcases hp9 with ⟨rfl, -⟩ | ⟨rfl, -⟩ <;> simp

set_option maxHeartbeats 4000000 in
set_option maxRecDepth 100000 in
theorem p_part (l : Launch) (hst9 : l.stackTraces = false) (g : gD) (B : Nat → Nat) (S X : Nat → Int → Int) (y z v : Int) (hI : iv9 S X) (h9y : -2147483648 ≤ y ∧ y < 2147483648) (h9z : -2147483648 ≤ z ∧ z < 2147483648) (h9v : -2147483648 ≤ v ∧ v < 2147483648) : gMetX l g yX9_part cX9_part 4 (some .int) 6 1 6 100 [.ref (B 0), vi y, vi z, vi v] (wP g B S X) (pO g B (vN_part y z v S) (vi (vR_part y z v S)) (vC_part y z v S)) (pX g B S (vC_part y z v S) [E1, E2, E3]) := by
  have hI2 := hI
  obtain ⟨hnL, hOP, hOF, hOT, hnO, hnY, hPA, hnE, hnR, hEF, hES, hEH, hnB, htn, hBL, hBE, hMC, hLP, hLH, hLU, hFL, hDP, hSH, hRE, hPR, hRA, hQ, hNet, hDP1, hdj, hXP, hRB, hRT, hRF, hRD, hRH, hRN, hVH, hBP, hBQ, hBX, hBF, hBT, hBC, hEC, hEP, hEX, hEn, hMW, hMU, hMW1, hBP1⟩ := hI2
  have hdst := dj9_dst hdj
  refine gMetX.frame (wP g B S X) (c_X9_part l hst9 g (B 0) (B 1) (B 5) (B 9) (B 16) (B 27) (B 35) (B 39) (B 46) (B 55) (S 33 0) (B 10) (B 11) (B 12) (B 13) (B 14) (B 15) (S 36 0) (S 37 0) (B 28) (B 29) (B 30) (B 31) (B 32) (B 33) (B 34) (S 12) y z v hnY hPA (by omega) (by omega) (by omega)) [0, 9, 27, 28] rfl (by decide) ?_ ?_
  · rintro v9 w9 ⟨rfl, rfl, ok⟩
    refine q_and (w2 := wP g B (vN_part y z v S) X) ?_ (fsP g B _ _ _ _) ⟨ok, X, rfl, rfl, ⟨hnL, hOP, hOF, hOT, hnO, hnY, (show ∀ k, 0 ≤ (up (S 12) (y * 6 + z) v) k ∧ (up (S 12) (y * 6 + z) v) k ≤ 100 from (up_r hPA (by omega))), hnE, hnR, hEF, hES, hEH, hnB, htn, hBL, hBE, hMC, hLP, hLH, hLU, hFL, hDP, hSH, hRE, hPR, hRA, hQ, hNet, hDP1, hdj, hXP, hRB, hRT, hRF, hRD, hRH, hRN, hVH, hBP, hBQ, hBX, hBF, hBT, hBC, hEC, hEP, hEX, hEn, hMW, hMU, hMW1, hBP1⟩⟩
    simp only [putAll, wP, List.set_cons_succ, List.set_cons_zero, List.append_nil] <;> rfl
  · rintro E9 w9 ⟨rfl, hp9⟩
    refine q_and (w2 := wP g B S X) ?_ rfl ⟨?_, ?_, X, rfl, hI⟩
    · simp only [putAll, wP, List.set_cons_succ, List.set_cons_zero, List.append_nil] <;> rfl
    · intro z; unfold vC_part at z; omega
    · rcases hp9 with ⟨rfl, -⟩ | ⟨rfl, -⟩ | ⟨rfl, -⟩ <;> simp

set_option maxHeartbeats 4000000 in
set_option maxRecDepth 100000 in
theorem p_retro (l : Launch) (hst9 : l.stackTraces = false) (g : gD) (B : Nat → Nat) (S X : Nat → Int → Int) (y z a b : Int) (hI : iv9 S X) (h9y : -2147483648 ≤ y ∧ y < 2147483648) (h9z : -2147483648 ≤ z ∧ z < 2147483648) (h9a : -2147483648 ≤ a ∧ a < 2147483648) (h9b : -2147483648 ≤ b ∧ b < 2147483648) : gMetX l g yX9_retro cX9_retro 5 (some .int) 6 1 6 100 [.ref (B 0), vi y, vi z, vi a, vi b] (wP g B S X) (pO g B (vN_retro y z a b S) (vi (vR_retro y z a b S)) (vC_retro y z a b S)) (pX g B S (vC_retro y z a b S) [E1, E3]) := by
  have hI2 := hI
  obtain ⟨hnL, hOP, hOF, hOT, hnO, hnY, hPA, hnE, hnR, hEF, hES, hEH, hnB, htn, hBL, hBE, hMC, hLP, hLH, hLU, hFL, hDP, hSH, hRE, hPR, hRA, hQ, hNet, hDP1, hdj, hXP, hRB, hRT, hRF, hRD, hRH, hRN, hVH, hBP, hBQ, hBX, hBF, hBT, hBC, hEC, hEP, hEX, hEn, hMW, hMU, hMW1, hBP1⟩ := hI2
  have hdst := dj9_dst hdj
  refine gMetX.frame (wP g B S X) (c_X9_retro l hst9 g (B 0) (B 1) (B 5) (B 9) (B 16) (B 27) (B 35) (B 39) (B 46) (B 55) (S 33 0) (B 28) (B 29) (B 30) (B 31) (B 32) (B 33) (B 34) (S 13) (S 14) (S 15) y z a b (by omega) (by omega) (by omega) (by omega)) [0, 27, 29, 30, 31] rfl (by decide) ?_ ?_
  · rintro v9 w9 ⟨rfl, rfl, ok⟩
    refine q_and (w2 := wP g B (vN_retro y z a b S) X) ?_ (fsP g B _ _ _ _) ⟨ok, X, rfl, rfl, ⟨hnL, hOP, hOF, hOT, hnO, hnY, hPA, hnE, hnR, hEF, hES, hEH, hnB, htn, hBL, hBE, hMC, hLP, hLH, hLU, hFL, hDP, hSH, hRE, hPR, hRA, hQ, hNet, hDP1, hdj, hXP, hRB, (show ∀ k, 0 ≤ (up (S 13) y z) k ∧ (up (S 13) y z) k ≤ 5 from (up_r hRT (by omega))), (show ∀ k, 0 ≤ (up (S 14) y a) k ∧ (up (S 14) y a) k ≤ 999999 from (up_r hRF (by omega))), (show ∀ k, 0 ≤ (up (S 15) y b) k ∧ (up (S 15) y b) k ≤ 999999 from (up_r hRD (by omega))), hRH, hRN, hVH, hBP, hBQ, hBX, hBF, hBT, hBC, hEC, hEP, hEX, hEn, hMW, hMU, hMW1, hBP1⟩⟩
    simp only [putAll, wP, List.set_cons_succ, List.set_cons_zero, List.append_nil] <;> rfl
  · rintro E9 w9 ⟨rfl, hp9⟩
    refine q_and (w2 := wP g B S X) ?_ rfl ⟨?_, ?_, X, rfl, hI⟩
    · simp only [putAll, wP, List.set_cons_succ, List.set_cons_zero, List.append_nil] <;> rfl
    · intro z; unfold vC_retro at z; omega
    · rcases hp9 with ⟨rfl, -⟩ | ⟨rfl, -⟩ <;> simp

set_option maxHeartbeats 4000000 in
set_option maxRecDepth 100000 in
theorem p_station (l : Launch) (hst9 : l.stackTraces = false) (g : gD) (B : Nat → Nat) (S X : Nat → Int → Int) (v : Int) (hI : iv9 S X) (h9v : -2147483648 ≤ v ∧ v < 2147483648) : gMetX l g yX9_station cX9_station 2 (some .int) 6 1 6 100 [.ref (B 0), vi v] (wP g B S X) (pO g B (vN_station v S) (vi (vR_station v S)) (vC_station v S)) (pX g B S (vC_station v S) [E1, E2]) := by
  have hI2 := hI
  obtain ⟨hnL, hOP, hOF, hOT, hnO, hnY, hPA, hnE, hnR, hEF, hES, hEH, hnB, htn, hBL, hBE, hMC, hLP, hLH, hLU, hFL, hDP, hSH, hRE, hPR, hRA, hQ, hNet, hDP1, hdj, hXP, hRB, hRT, hRF, hRD, hRH, hRN, hVH, hBP, hBQ, hBX, hBF, hBT, hBC, hEC, hEP, hEX, hEn, hMW, hMU, hMW1, hBP1⟩ := hI2
  have hdst := dj9_dst hdj
  refine gMetX.frame (wP g B S X) (c_X9_station l hst9 g (B 0) (B 1) (B 5) (B 9) (B 16) (B 27) (B 35) (B 39) (B 46) (B 55) (S 33 0) (B 40) (B 41) (B 42) (B 43) (B 44) (B 45) (S 16) (S 17) (S 38 0) (S 39 0) v hnE (by omega)) [0, 39, 40, 41] rfl (by decide) ?_ ?_
  · rintro v9 w9 ⟨rfl, rfl, ok⟩
    refine q_and (w2 := wP g B (vN_station v S) X) ?_ (fsP g B _ _ _ _) ⟨ok, X, rfl, rfl, ⟨hnL, hOP, hOF, hOT, hnO, hnY, hPA, (show 0 ≤ ((S 38 0) + 1) ∧ ((S 38 0) + 1) ≤ 6 from (by first | omega | (show _ ∧ _; exact ⟨by omega, by omega⟩))), hnR, (show ∀ k, 0 ≤ (up (S 17) (S 38 0) 2200) k ∧ (up (S 17) (S 38 0) 2200) k ≤ 2200 from (up_r hEF (by omega))), hES, hEH, hnB, htn, hBL, hBE, hMC, hLP, hLH, hLU, hFL, hDP, hSH, hRE, hPR, hRA, hQ, hNet, hDP1, hdj, hXP, hRB, hRT, hRF, hRD, hRH, hRN, hVH, hBP, hBQ, hBX, hBF, hBT, hBC, (show ∀ k, 0 ≤ (up (S 16) (S 38 0) v) k ∧ (up (S 16) (S 38 0) v) k ≤ 15 from (up_r hEC (by omega))), hEP, hEX, (show ∀ k9, 0 ≤ k9 → k9 < (S 39 0) → (S 18) k9 < ((S 38 0) + 1) from (fun k9 k0 k1 => Int.lt_of_lt_of_le (hEn k9 k0 k1) (Int.le_add_of_nonneg_right (by decide)))), hMW, hMU, hMW1, hBP1⟩⟩
    simp only [putAll, wP, List.set_cons_succ, List.set_cons_zero, List.append_nil] <;> rfl
  · rintro E9 w9 ⟨rfl, hp9⟩
    refine q_and (w2 := wP g B S X) ?_ rfl ⟨?_, ?_, X, rfl, hI⟩
    · simp only [putAll, wP, List.set_cons_succ, List.set_cons_zero, List.append_nil] <;> rfl
    · intro z; unfold vC_station at z; omega
    · rcases hp9 with ⟨rfl, -⟩ | ⟨rfl, -⟩ <;> simp

set_option maxHeartbeats 4000000 in
set_option maxRecDepth 100000 in
theorem p_reading (l : Launch) (hst9 : l.stackTraces = false) (g : gD) (B : Nat → Nat) (S X : Nat → Int → Int) (a1 a2 a3 a4 : Int) (hI : iv9 S X) (h9a1 : -2147483648 ≤ a1 ∧ a1 < 2147483648) (h9a2 : -2147483648 ≤ a2 ∧ a2 < 2147483648) (h9a3 : -2147483648 ≤ a3 ∧ a3 < 2147483648) (h9a4 : -2147483648 ≤ a4 ∧ a4 < 2147483648) : gMetX l g yX9_reading cX9_reading 5 (some .int) 6 1 6 100 [.ref (B 0), vi a1, vi a2, vi a3, vi a4] (wP g B S X) (pO g B (vN_reading a1 a2 a3 a4 S) (vi (vR_reading a1 a2 a3 a4 S)) (vC_reading a1 a2 a3 a4 S)) (pX g B S (vC_reading a1 a2 a3 a4 S) [E1, E2, E3]) := by
  have hI2 := hI
  obtain ⟨hnL, hOP, hOF, hOT, hnO, hnY, hPA, hnE, hnR, hEF, hES, hEH, hnB, htn, hBL, hBE, hMC, hLP, hLH, hLU, hFL, hDP, hSH, hRE, hPR, hRA, hQ, hNet, hDP1, hdj, hXP, hRB, hRT, hRF, hRD, hRH, hRN, hVH, hBP, hBQ, hBX, hBF, hBT, hBC, hEC, hEP, hEX, hEn, hMW, hMU, hMW1, hBP1⟩ := hI2
  have hdst := dj9_dst hdj
  refine gMetX.frame (wP g B S X) (c_X9_reading l hst9 g (B 0) (B 1) (B 5) (B 9) (B 16) (B 27) (B 35) (B 39) (B 46) (B 55) (S 33 0) (B 40) (B 41) (B 42) (B 43) (B 44) (B 45) (S 18) (S 19) (S 20) (S 21) (S 38 0) (S 39 0) a1 a2 a3 a4 hnE hnR (by omega) (by omega) (by omega) (by omega)) [0, 39, 42, 43, 44, 45] rfl (by decide) ?_ ?_
  · rintro v9 w9 ⟨rfl, rfl, ok⟩
    refine q_and (w2 := wP g B (vN_reading a1 a2 a3 a4 S) X) ?_ (fsP g B _ _ _ _) ⟨ok, X, rfl, rfl, ⟨hnL, hOP, hOF, hOT, hnO, hnY, hPA, hnE, (show 0 ≤ ((S 39 0) + 1) ∧ ((S 39 0) + 1) ≤ 60 from (by first | omega | (show _ ∧ _; exact ⟨by omega, by omega⟩))), hEF, (show ∀ k, 0 ≤ (up (S 18) (S 39 0) a1) k ∧ (up (S 18) (S 39 0) a1) k ≤ 5 from (up_r hES (by omega))), (show ∀ k, 0 ≤ (up (S 19) (S 39 0) a2) k ∧ (up (S 19) (S 39 0) a2) k ≤ 2199 from (up_r hEH (by omega))), hnB, htn, hBL, hBE, hMC, hLP, hLH, hLU, hFL, hDP, hSH, hRE, hPR, hRA, hQ, hNet, hDP1, hdj, hXP, hRB, hRT, hRF, hRD, hRH, hRN, hVH, hBP, hBQ, hBX, hBF, hBT, hBC, hEC, (show ∀ k, 0 ≤ (up (S 20) (S 39 0) a3) k ∧ (up (S 20) (S 39 0) a3) k ≤ 2 from (up_r hEP (by omega))), (show ∀ k, 0 ≤ (up (S 21) (S 39 0) a4) k ∧ (up (S 21) (S 39 0) a4) k ≤ 9 from (up_r hEX (by omega))), (show ∀ k9, 0 ≤ k9 → k9 < ((S 39 0) + 1) → (up (S 18) (S 39 0) a1) k9 < (S 38 0) from (en_up hEn (by omega))), hMW, hMU, hMW1, hBP1⟩⟩
    simp only [putAll, wP, List.set_cons_succ, List.set_cons_zero, List.append_nil] <;> rfl
  · rintro E9 w9 ⟨rfl, hp9⟩
    refine q_and (w2 := wP g B S X) ?_ rfl ⟨?_, ?_, X, rfl, hI⟩
    · simp only [putAll, wP, List.set_cons_succ, List.set_cons_zero, List.append_nil] <;> rfl
    · intro z; unfold vC_reading at z; omega
    · rcases hp9 with ⟨rfl, -⟩ | ⟨rfl, -⟩ | ⟨rfl, -⟩ <;> simp

set_option maxHeartbeats 4000000 in
set_option maxRecDepth 100000 in
theorem p_fails (l : Launch) (hst9 : l.stackTraces = false) (g : gD) (B : Nat → Nat) (S X : Nat → Int → Int) (s h : Int) (hI : iv9 S X) (h9s : -2147483648 ≤ s ∧ s < 2147483648) (h9h : -2147483648 ≤ h ∧ h < 2147483648) : gMetX l g yX9_fails cX9_fails 3 (some .int) 6 1 6 100 [.ref (B 0), vi s, vi h] (wP g B S X) (pO g B (vN_fails s h S) (vi (vR_fails s h S)) (vC_fails s h S)) (pX g B S (vC_fails s h S) [E1, E2, E3]) := by
  have hI2 := hI
  obtain ⟨hnL, hOP, hOF, hOT, hnO, hnY, hPA, hnE, hnR, hEF, hES, hEH, hnB, htn, hBL, hBE, hMC, hLP, hLH, hLU, hFL, hDP, hSH, hRE, hPR, hRA, hQ, hNet, hDP1, hdj, hXP, hRB, hRT, hRF, hRD, hRH, hRN, hVH, hBP, hBQ, hBX, hBF, hBT, hBC, hEC, hEP, hEX, hEn, hMW, hMU, hMW1, hBP1⟩ := hI2
  have hdst := dj9_dst hdj
  refine gMetX.frame (wP g B S X) (c_X9_fails l hst9 g (B 0) (B 1) (B 5) (B 9) (B 16) (B 27) (B 35) (B 39) (B 46) (B 55) (S 33 0) (B 40) (B 41) (B 42) (B 43) (B 44) (B 45) (S 17) (S 18) (S 19) (S 38 0) (S 39 0) s h hEF hES hEH hnE hnR (by omega) (by omega)) [0, 39, 41, 42, 43] rfl (by decide) ?_ ?_
  · rintro v9 w9 ⟨rfl, rfl, ok⟩
    refine q_and (w2 := wP g B (vN_fails s h S) X) ?_ (fsP g B _ _ _ _) ⟨ok, X, rfl, rfl, ⟨hnL, hOP, hOF, hOT, hnO, hnY, hPA, hnE, hnR, (show ∀ k, 0 ≤ (up (S 17) s h) k ∧ (up (S 17) s h) k ≤ 2200 from (up_r hEF (by omega))), hES, hEH, hnB, htn, hBL, hBE, hMC, hLP, hLH, hLU, hFL, hDP, hSH, hRE, hPR, hRA, hQ, hNet, hDP1, hdj, hXP, hRB, hRT, hRF, hRD, hRH, hRN, hVH, hBP, hBQ, hBX, hBF, hBT, hBC, hEC, hEP, hEX, hEn, hMW, hMU, hMW1, hBP1⟩⟩
    simp only [putAll, wP, List.set_cons_succ, List.set_cons_zero, List.append_nil] <;> rfl
  · rintro E9 w9 ⟨rfl, hp9⟩
    refine q_and (w2 := wP g B S X) ?_ rfl ⟨?_, ?_, X, rfl, hI⟩
    · simp only [putAll, wP, List.set_cons_succ, List.set_cons_zero, List.append_nil] <;> rfl
    · intro z; unfold vC_fails at z; omega
    · rcases hp9 with ⟨rfl, -⟩ | ⟨rfl, -⟩ | ⟨rfl, -⟩ <;> simp

set_option maxHeartbeats 4000000 in
set_option maxRecDepth 100000 in
theorem p_bond (l : Launch) (hst9 : l.stackTraces = false) (g : gD) (B : Nat → Nat) (S X : Nat → Int → Int) (a1 a2 a3 a4 a5 a6 a7 : Int) (hI : iv9 S X) (h9a1 : -2147483648 ≤ a1 ∧ a1 < 2147483648) (h9a2 : -2147483648 ≤ a2 ∧ a2 < 2147483648) (h9a3 : -2147483648 ≤ a3 ∧ a3 < 2147483648) (h9a4 : -2147483648 ≤ a4 ∧ a4 < 2147483648) (h9a5 : -2147483648 ≤ a5 ∧ a5 < 2147483648) (h9a6 : -2147483648 ≤ a6 ∧ a6 < 2147483648) (h9a7 : -2147483648 ≤ a7 ∧ a7 < 2147483648) : gMetX l g yX9_bond cX9_bond 10 (some .int) 6 1 6 100 [.ref (B 0), vi a1, vi a2, vi a3, vi a4, vi a5, vi a6, vi a7] (wP g B S X) (pO g B (vN_bond a1 a2 a3 a4 a5 a6 a7 S) (vi (vR_bond a1 a2 a3 a4 a5 a6 a7 S)) (vC_bond a1 a2 a3 a4 a5 a6 a7 S)) (pX g B S (vC_bond a1 a2 a3 a4 a5 a6 a7 S) [E1, E2]) := by
  have hI2 := hI
  obtain ⟨hnL, hOP, hOF, hOT, hnO, hnY, hPA, hnE, hnR, hEF, hES, hEH, hnB, htn, hBL, hBE, hMC, hLP, hLH, hLU, hFL, hDP, hSH, hRE, hPR, hRA, hQ, hNet, hDP1, hdj, hXP, hRB, hRT, hRF, hRD, hRH, hRN, hVH, hBP, hBQ, hBX, hBF, hBT, hBC, hEC, hEP, hEX, hEn, hMW, hMU, hMW1, hBP1⟩ := hI2
  have hdst := dj9_dst hdj
  refine gMetX.frame (wP g B S X) (c_X9_bond l hst9 g (B 0) (B 1) (B 5) (B 9) (B 16) (B 27) (B 35) (B 39) (B 46) (B 55) (S 33 0) (B 47) (B 48) (B 49) (B 50) (B 51) (B 52) (B 53) (B 54) (S 22) (S 23) (S 24) (S 25) (S 26) (S 27) (S 28) (S 29) (S 40 0) a1 a2 a3 a4 a5 a6 a7 hnB htn (by omega) (by omega) (by omega) (by omega) (by omega) (by omega) (by omega)) [0, 46, 47, 48, 49, 50, 51, 52, 53, 54] rfl (by decide) ?_ ?_
  · rintro v9 w9 ⟨rfl, rfl, ok⟩
    refine q_and (w2 := wP g B (vN_bond a1 a2 a3 a4 a5 a6 a7 S) X) ?_ (fsP g B _ _ _ _) ⟨ok, X, rfl, rfl, ⟨hnL, hOP, hOF, hOT, hnO, hnY, hPA, hnE, hnR, hEF, hES, hEH, (show 0 ≤ ((S 40 0) + 1) ∧ ((S 40 0) + 1) ≤ 5 from (by first | omega | (show _ ∧ _; exact ⟨by omega, by omega⟩))), htn, (show ∀ k, 0 ≤ (up (S 26) (S 40 0) a5) k ∧ (up (S 26) (S 40 0) a5) k ≤ 2199 from (up_r hBL (by omega))), (show ∀ k, 0 ≤ (up (S 29) (S 40 0) a5) k ∧ (up (S 29) (S 40 0) a5) k ≤ 2699 from (up_r hBE (by omega))), hMC, hLP, hLH, hLU, hFL, hDP, hSH, hRE, hPR, hRA, hQ, hNet, hDP1, hdj, hXP, hRB, hRT, hRF, hRD, hRH, hRN, hVH, (show ∀ k, 0 ≤ (up (S 22) (S 40 0) a1) k ∧ (up (S 22) (S 40 0) a1) k ≤ 999999 from (up_r hBP (by omega))), (show ∀ k, 0 ≤ (up (S 23) (S 40 0) a2) k ∧ (up (S 23) (S 40 0) a2) k ≤ 2 from (up_r hBQ (by omega))), (show ∀ k, 0 ≤ (up (S 24) (S 40 0) a3) k ∧ (up (S 24) (S 40 0) a3) k ≤ 65535 from (up_r hBX (by omega))), (show ∀ k, 0 ≤ (up (S 25) (S 40 0) a4) k ∧ (up (S 25) (S 40 0) a4) k ≤ 2199 from (up_r hBF (by omega))), (show ∀ k, 0 ≤ (up (S 27) (S 40 0) a6) k ∧ (up (S 27) (S 40 0) a6) k ≤ 9 from (up_r hBT (by omega))), (show ∀ k, 0 ≤ (up (S 28) (S 40 0) a7) k ∧ (up (S 28) (S 40 0) a7) k ≤ 100 from (up_r hBC (by omega))), hEC, hEP, hEX, hEn, hMW, hMU, hMW1, (show ∀ k, 0 ≤ k → k < ((S 40 0) + 1) → 1 ≤ (up (S 22) (S 40 0) a1) k from (one_up hBP1 (by omega)))⟩⟩
    simp only [putAll, wP, List.set_cons_succ, List.set_cons_zero, List.append_nil] <;> rfl
  · rintro E9 w9 ⟨rfl, hp9⟩
    refine q_and (w2 := wP g B S X) ?_ rfl ⟨?_, ?_, X, rfl, hI⟩
    · simp only [putAll, wP, List.set_cons_succ, List.set_cons_zero, List.append_nil] <;> rfl
    · intro z; unfold vC_bond at z; omega
    · rcases hp9 with ⟨rfl, -⟩ | ⟨rfl, -⟩ <;> simp

set_option maxHeartbeats 4000000 in
set_option maxRecDepth 100000 in
theorem p_extend (l : Launch) (hst9 : l.stackTraces = false) (g : gD) (B : Nat → Nat) (S X : Nat → Int → Int) (b h : Int) (hI : iv9 S X) (h9b : -2147483648 ≤ b ∧ b < 2147483648) (h9h : -2147483648 ≤ h ∧ h < 2147483648) : gMetX l g yX9_extend cX9_extend 3 (some .int) 6 1 6 100 [.ref (B 0), vi b, vi h] (wP g B S X) (pO g B (vN_extend b h S) (vi (vR_extend b h S)) (vC_extend b h S)) (pX g B S (vC_extend b h S) [E1, E2, E3]) := by
  have hI2 := hI
  obtain ⟨hnL, hOP, hOF, hOT, hnO, hnY, hPA, hnE, hnR, hEF, hES, hEH, hnB, htn, hBL, hBE, hMC, hLP, hLH, hLU, hFL, hDP, hSH, hRE, hPR, hRA, hQ, hNet, hDP1, hdj, hXP, hRB, hRT, hRF, hRD, hRH, hRN, hVH, hBP, hBQ, hBX, hBF, hBT, hBC, hEC, hEP, hEX, hEn, hMW, hMU, hMW1, hBP1⟩ := hI2
  have hdst := dj9_dst hdj
  refine gMetX.frame (wP g B S X) (c_X9_extend l hst9 g (B 0) (B 1) (B 5) (B 9) (B 16) (B 27) (B 35) (B 39) (B 46) (B 55) (S 33 0) (B 47) (B 48) (B 49) (B 50) (B 51) (B 52) (B 53) (B 54) (S 26) (S 29) (S 40 0) b h hBL hBE hnB htn (by omega) (by omega)) [0, 46, 51, 54] rfl (by decide) ?_ ?_
  · rintro v9 w9 ⟨rfl, rfl, ok⟩
    have e9 := hBL b
    refine q_and (w2 := wP g B (vN_extend b h S) X) ?_ (fsP g B _ _ _ _) ⟨ok, X, rfl, rfl, ⟨hnL, hOP, hOF, hOT, hnO, hnY, hPA, hnE, hnR, hEF, hES, hEH, hnB, htn, hBL, (show ∀ k, 0 ≤ (up (S 29) b ((S 26) b + h)) k ∧ (up (S 29) b ((S 26) b + h)) k ≤ 2699 from (up_r hBE (by omega))), hMC, hLP, hLH, hLU, hFL, hDP, hSH, hRE, hPR, hRA, hQ, hNet, hDP1, hdj, hXP, hRB, hRT, hRF, hRD, hRH, hRN, hVH, hBP, hBQ, hBX, hBF, hBT, hBC, hEC, hEP, hEX, hEn, hMW, hMU, hMW1, hBP1⟩⟩
    simp only [putAll, wP, List.set_cons_succ, List.set_cons_zero, List.append_nil] <;> rfl
  · rintro E9 w9 ⟨rfl, hp9⟩
    refine q_and (w2 := wP g B S X) ?_ rfl ⟨?_, ?_, X, rfl, hI⟩
    · simp only [putAll, wP, List.set_cons_succ, List.set_cons_zero, List.append_nil] <;> rfl
    · intro z; unfold vC_extend at z; omega
    · rcases hp9 with ⟨rfl, -⟩ | ⟨rfl, -⟩ | ⟨rfl, -⟩ <;> simp

set_option maxHeartbeats 4000000 in
set_option maxRecDepth 100000 in
theorem p_pass (l : Launch) (hst9 : l.stackTraces = false) (g : gD) (B : Nat → Nat) (S X : Nat → Int → Int) (h : Int) (hI : iv9 S X) (h9h : -2147483648 ≤ h ∧ h < 2147483648) : gMetX l g yX9_pass cX9_pass 2 (some .int) 6 1 6 100 [.ref (B 0), vi h] (wP g B S X) (pO g B (vN_pass h S) (vi (vR_pass h S)) (vC_pass h S)) (pX g B S (vC_pass h S) [E1, E2]) := by
  have hI2 := hI
  obtain ⟨hnL, hOP, hOF, hOT, hnO, hnY, hPA, hnE, hnR, hEF, hES, hEH, hnB, htn, hBL, hBE, hMC, hLP, hLH, hLU, hFL, hDP, hSH, hRE, hPR, hRA, hQ, hNet, hDP1, hdj, hXP, hRB, hRT, hRF, hRD, hRH, hRN, hVH, hBP, hBQ, hBX, hBF, hBT, hBC, hEC, hEP, hEX, hEn, hMW, hMU, hMW1, hBP1⟩ := hI2
  have hdst := dj9_dst hdj
  refine gMetX.frame (wP g B S X) (c_X9_pass l hst9 g (B 0) (B 1) (B 5) (B 9) (B 16) (B 27) (B 35) (B 39) (B 46) (B 55) (S 33 0) h htn (by omega)) [0] rfl (by decide) ?_ ?_
  · rintro v9 w9 ⟨rfl, rfl, ok⟩
    refine q_and (w2 := wP g B (vN_pass h S) X) ?_ (fsP g B _ _ _ _) ⟨ok, X, rfl, rfl, ⟨hnL, hOP, hOF, hOT, hnO, hnY, hPA, hnE, hnR, hEF, hES, hEH, hnB, (show 0 ≤ ((S 33 0) + h) ∧ ((S 33 0) + h) ≤ 2199 from (by first | omega | (show _ ∧ _; exact ⟨by omega, by omega⟩))), hBL, hBE, hMC, hLP, hLH, hLU, hFL, hDP, hSH, hRE, hPR, hRA, hQ, hNet, hDP1, hdj, hXP, hRB, hRT, hRF, hRD, hRH, hRN, hVH, hBP, hBQ, hBX, hBF, hBT, hBC, hEC, hEP, hEX, hEn, hMW, hMU, hMW1, hBP1⟩⟩
    simp only [putAll, wP, List.set_cons_succ, List.set_cons_zero, List.append_nil] <;> rfl
  · rintro E9 w9 ⟨rfl, hp9⟩
    refine q_and (w2 := wP g B S X) ?_ rfl ⟨?_, ?_, X, rfl, hI⟩
    · simp only [putAll, wP, List.set_cons_succ, List.set_cons_zero, List.append_nil] <;> rfl
    · intro z; unfold vC_pass at z; omega
    · rcases hp9 with ⟨rfl, -⟩ | ⟨rfl, -⟩ <;> simp

set_option maxHeartbeats 4000000 in
set_option maxRecDepth 100000 in
theorem p_scenario (l : Launch) (hst9 : l.stackTraces = false) (g : gD) (B : Nat → Nat) (S X : Nat → Int → Int) (q a b : Int) (hI : iv9 S X) (h9q : -2147483648 ≤ q ∧ q < 2147483648) (h9a : -2147483648 ≤ a ∧ a < 2147483648) (h9b : -2147483648 ≤ b ∧ b < 2147483648) : gMetX l g yX9_scenario cX9_scenario 4 (some .int) 6 1 6 100 [.ref (B 0), vi q, vi a, vi b] (wP g B S X) (pO g B (vN_scenario q a b S) (vi (vR_scenario q a b S)) (vC_scenario q a b S)) (pX g B S (vC_scenario q a b S) [E1, E2, E3]) := by
  have hI2 := hI
  obtain ⟨hnL, hOP, hOF, hOT, hnO, hnY, hPA, hnE, hnR, hEF, hES, hEH, hnB, htn, hBL, hBE, hMC, hLP, hLH, hLU, hFL, hDP, hSH, hRE, hPR, hRA, hQ, hNet, hDP1, hdj, hXP, hRB, hRT, hRF, hRD, hRH, hRN, hVH, hBP, hBQ, hBX, hBF, hBT, hBC, hEC, hEP, hEX, hEn, hMW, hMU, hMW1, hBP1⟩ := hI2
  have hdst := dj9_dst hdj
  refine gMetX.frame (wP g B S X) (c_X9_scenario l hst9 g (B 0) (B 1) (B 5) (B 9) (B 16) (B 27) (B 35) (B 39) (B 46) (B 55) (S 33 0) (B 56) (B 57) (B 58) (S 30) (S 31) (S 32) q a b hMC (by omega) (by omega) (by omega)) [0, 55, 56, 57, 58] rfl (by decide) ?_ ?_
  · rintro v9 w9 ⟨rfl, rfl, ok⟩
    have e9 := hMC q
    refine q_and (w2 := wP g B (vN_scenario q a b S) X) ?_ (fsP g B _ _ _ _) ⟨ok, X, rfl, rfl, ⟨hnL, hOP, hOF, hOT, hnO, hnY, hPA, hnE, hnR, hEF, hES, hEH, hnB, htn, hBL, hBE, (show ∀ k, 0 ≤ (up (S 32) q ((S 32) q + 1)) k ∧ (up (S 32) q ((S 32) q + 1)) k ≤ 12 from (up_r hMC (by omega))), hLP, hLH, hLU, hFL, hDP, hSH, hRE, hPR, hRA, hQ, hNet, hDP1, hdj, hXP, hRB, hRT, hRF, hRD, hRH, hRN, hVH, hBP, hBQ, hBX, hBF, hBT, hBC, hEC, hEP, hEX, hEn, (show ∀ k, 0 ≤ (up (S 30) (q * 12 + (S 32) q) a) k ∧ (up (S 30) (q * 12 + (S 32) q) a) k ≤ 99 from (up_r hMW (by omega))), (show ∀ k, 0 ≤ (up (S 31) (q * 12 + (S 32) q) b) k ∧ (up (S 31) (q * 12 + (S 32) q) b) k ≤ 999999 from (up_r hMU (by omega))), (show ∀ q9 k9, 0 ≤ q9 → q9 < 3 → 0 ≤ k9 → k9 < (up (S 32) q ((S 32) q + 1)) q9 → 1 ≤ (up (S 30) (q * 12 + (S 32) q) a) (q9 * 12 + k9) from (mw_up hMW1 hMC (by omega) (by omega) (by omega))), hBP1⟩⟩
    simp only [putAll, wP, List.set_cons_succ, List.set_cons_zero, List.append_nil] <;> rfl
  · rintro E9 w9 ⟨rfl, hp9⟩
    refine q_and (w2 := wP g B S X) ?_ rfl ⟨?_, ?_, X, rfl, hI⟩
    · simp only [putAll, wP, List.set_cons_succ, List.set_cons_zero, List.append_nil] <;> rfl
    · intro z; unfold vC_scenario at z; omega
    · rcases hp9 with ⟨rfl, -⟩ | ⟨rfl, -⟩ | ⟨rfl, -⟩ <;> simp

