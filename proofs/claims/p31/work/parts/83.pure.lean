theorem nt0_of {OP OF : Int → Int} {nO : Int} (hd : dst9 OP OF nO) (LP LH LU : Int → Int) (nL : Int) (OT : Int → Int) (Q : Int) {o : Int} (o0 : 0 ≤ o) (o1 : o < nO) : nt0 LP LH LU nL OP OF OT nO Q (plc OP OF nO o) = gro LP LH LU nL OP OF OT o - qto Q (gro LP LH LU nL OP OF OT o) := by
  unfold nt0 sNt nt sGr sQt
  rw [sOr_plc hd _ o0 o1, cpy_in ⟨o0, o1⟩, cpy_in ⟨o0, o1⟩]

/-! what the property says of the book, in numbers -/
def oG (S : Nat → Int → Int) (o : Int) : Int := gro (S 0) (S 1) (S 2) (S 34 0) (S 3) (S 4) (S 5) o
def oQ (S : Nat → Int → Int) (o : Int) : Int := qto (S 37 0) (gro (S 0) (S 1) (S 2) (S 34 0) (S 3) (S 4) (S 5) o)
def oD (S : Nat → Int → Int) (o : Int) : Int := kD (S 0) (S 1) (S 2) (S 34 0) (S 3) (S 4) (S 5) (S 35 0) (S 37 0) (S 6) (S 7) (S 8) (S 9) (S 10) (S 11) (S 36 0) o
def oE (S : Nat → Int → Int) (o : Int) : Int := kE (S 0) (S 1) (S 2) (S 34 0) (S 3) (S 4) (S 5) (S 35 0) (S 37 0) (S 6) (S 7) (S 8) (S 9) (S 10) (S 11) (S 36 0) o
def oP (S : Nat → Int → Int) (o : Int) : Int := plc (S 3) (S 4) (S 35 0) o
def hH (S : Nat → Int → Int) (y o : Int) : Int := kH (S 0) (S 1) (S 2) (S 34 0) (S 3) (S 4) (S 5) (S 35 0) (S 37 0) (S 6) (S 7) (S 8) (S 9) (S 10) (S 11) y o
def hP (S : Nat → Int → Int) (y o : Int) : Int := kP (S 0) (S 1) (S 2) (S 34 0) (S 3) (S 4) (S 5) (S 35 0) (S 37 0) (S 6) (S 7) (S 8) (S 9) (S 10) (S 11) y o
def hR_ (S : Nat → Int → Int) (y o : Int) : Int := kR (S 0) (S 1) (S 2) (S 34 0) (S 3) (S 4) (S 5) (S 35 0) (S 37 0) (S 6) (S 7) (S 8) (S 9) (S 10) (S 11) y o
def hC_ (S : Nat → Int → Int) (y o : Int) : Int := kC (S 0) (S 1) (S 2) (S 34 0) (S 3) (S 4) (S 5) (S 35 0) (S 37 0) (S 6) (S 7) (S 8) (S 9) (S 10) (S 11) y o
def hL_ (S : Nat → Int → Int) (y o : Int) : Int := kL (S 0) (S 1) (S 2) (S 34 0) (S 3) (S 4) (S 5) (S 35 0) (S 37 0) (S 6) (S 7) (S 8) (S 9) (S 10) (S 11) y o
def oB (S : Nat → Int → Int) (z : Int) : Int := kB (S 0) (S 1) (S 2) (S 34 0) (S 3) (S 4) (S 5) (S 35 0) (S 37 0) (S 6) (S 7) (S 8) (S 9) (S 10) (S 11) (S 12) (S 36 0) z
noncomputable def oI (S : Nat → Int → Int) (b : Int) : Int := idx9 (S 16) (S 17) (S 18) (S 19) (S 20) (S 21) (S 38 0) (S 39 0) (S 23) (S 24) (S 25) (S 26) b
noncomputable def oY (S : Nat → Int → Int) (b : Int) : Int := pyo (S 22) (S 27) (S 28) b (idx9 (S 16) (S 17) (S 18) (S 19) (S 20) (S 21) (S 38 0) (S 39 0) (S 23) (S 24) (S 25) (S 26) b)
theorem occurrence_0 (o : Int) (S : Nat → Int → Int) : vR_occurrence o 0 S = oG S o := by
  unfold vR_occurrence; (rw [if_pos rfl]) <;> rfl
theorem occurrence_1 (o : Int) (S : Nat → Int → Int) : vR_occurrence o 1 S = oQ S o := by
  unfold vR_occurrence; (rw [if_neg (show ¬ (1 : Int) = 0 by decide), if_pos rfl]) <;> rfl
theorem occurrence_2 (o : Int) (S : Nat → Int → Int) : vR_occurrence o 2 S = oG S o - oQ S o := by
  unfold vR_occurrence; (rw [if_neg (show ¬ (2 : Int) = 0 by decide), if_neg (show ¬ (2 : Int) = 1 by decide), if_pos rfl]) <;> rfl
theorem occurrence_3 (o : Int) (S : Nat → Int → Int) : vR_occurrence o 3 S = oD S o := by
  unfold vR_occurrence; (rw [if_neg (show ¬ (3 : Int) = 0 by decide), if_neg (show ¬ (3 : Int) = 1 by decide), if_neg (show ¬ (3 : Int) = 2 by decide), if_pos rfl]) <;> rfl
theorem occurrence_4 (o : Int) (S : Nat → Int → Int) : vR_occurrence o 4 S = oE S o := by
  unfold vR_occurrence; (rw [if_neg (show ¬ (4 : Int) = 0 by decide), if_neg (show ¬ (4 : Int) = 1 by decide), if_neg (show ¬ (4 : Int) = 2 by decide), if_neg (show ¬ (4 : Int) = 3 by decide), if_pos rfl]) <;> rfl
theorem occurrence_5 (o : Int) (S : Nat → Int → Int) : vR_occurrence o 5 S = oP S o := by
  unfold vR_occurrence; (rw [if_neg (show ¬ (5 : Int) = 0 by decide), if_neg (show ¬ (5 : Int) = 1 by decide), if_neg (show ¬ (5 : Int) = 2 by decide), if_neg (show ¬ (5 : Int) = 3 by decide), if_neg (show ¬ (5 : Int) = 4 by decide)]) <;> rfl
theorem hit_0 (y o : Int) (S : Nat → Int → Int) : vR_hit y o 0 S = hH S y o := by
  unfold vR_hit; (rw [if_pos rfl]) <;> rfl
theorem hit_1 (y o : Int) (S : Nat → Int → Int) : vR_hit y o 1 S = hP S y o := by
  unfold vR_hit; (rw [if_neg (show ¬ (1 : Int) = 0 by decide), if_pos rfl]) <;> rfl
theorem hit_2 (y o : Int) (S : Nat → Int → Int) : vR_hit y o 2 S = hR_ S y o := by
  unfold vR_hit; (rw [if_neg (show ¬ (2 : Int) = 0 by decide), if_neg (show ¬ (2 : Int) = 1 by decide), if_pos rfl]) <;> rfl
theorem hit_3 (y o : Int) (S : Nat → Int → Int) : vR_hit y o 3 S = hC_ S y o := by
  unfold vR_hit; (rw [if_neg (show ¬ (3 : Int) = 0 by decide), if_neg (show ¬ (3 : Int) = 1 by decide), if_neg (show ¬ (3 : Int) = 2 by decide), if_pos rfl]) <;> rfl
theorem hit_4 (y o : Int) (S : Nat → Int → Int) : vR_hit y o 4 S = hL_ S y o := by
  unfold vR_hit; (rw [if_neg (show ¬ (4 : Int) = 0 by decide), if_neg (show ¬ (4 : Int) = 1 by decide), if_neg (show ¬ (4 : Int) = 2 by decide), if_neg (show ¬ (4 : Int) = 3 by decide)]) <;> rfl
theorem reinsurer_0 (z : Int) (S : Nat → Int → Int) : vR_reinsurer z 0 S = oB S z := by
  unfold vR_reinsurer; (rw [if_pos rfl]) <;> rfl
theorem reinsurer_1 (z : Int) (S : Nat → Int → Int) : vR_reinsurer z 1 S = itr (fun z => oB S z) (S 13) (S 14) (S 15) (vR_rounds S) z := by
  unfold vR_reinsurer; (rw [if_neg (show ¬ (1 : Int) = 0 by decide), if_pos rfl]) <;> rfl
theorem reinsurer_2 (z : Int) (S : Nat → Int → Int) : vR_reinsurer z 2 S = itr (fun z => oB S z) (S 13) (S 14) (S 15) (vR_rounds S) z - pso (S 14) (S 15) (itr (fun z => oB S z) (S 13) (S 14) (S 15) (vR_rounds S)) z := by
  unfold vR_reinsurer; (rw [if_neg (show ¬ (2 : Int) = 0 by decide), if_neg (show ¬ (2 : Int) = 1 by decide)]) <;> rfl
theorem sum_0 (S : Nat → Int → Int) : vR_sum 0 S = sm (S 2) (S 34 0) := by
  unfold vR_sum; (rw [if_pos rfl]) <;> rfl
theorem sum_1 (S : Nat → Int → Int) : vR_sum 1 S = sm (S 2) (S 34 0) - sm (fun o => oG S o) (S 35 0) := by
  unfold vR_sum; (rw [if_neg (show ¬ (1 : Int) = 0 by decide), if_pos rfl]) <;> rfl
theorem sum_2 (S : Nat → Int → Int) : vR_sum 2 S = sm (fun o => oQ S o) (S 35 0) := by
  unfold vR_sum; (rw [if_neg (show ¬ (2 : Int) = 0 by decide), if_neg (show ¬ (2 : Int) = 1 by decide), if_pos rfl]) <;> rfl
theorem sum_3 (S : Nat → Int → Int) : vR_sum 3 S = sm (fun o => oD S o) (S 35 0) := by
  unfold vR_sum; (rw [if_neg (show ¬ (3 : Int) = 0 by decide), if_neg (show ¬ (3 : Int) = 1 by decide), if_neg (show ¬ (3 : Int) = 2 by decide), if_pos rfl]) <;> rfl
theorem sum_4 (S : Nat → Int → Int) : vR_sum 4 S = sm (fun o => oQ S o) (S 35 0) + sm (fun o => oD S o) (S 35 0) - sm (fun z => oB S z) 6 := by
  unfold vR_sum; (rw [if_neg (show ¬ (4 : Int) = 0 by decide), if_neg (show ¬ (4 : Int) = 1 by decide), if_neg (show ¬ (4 : Int) = 2 by decide), if_neg (show ¬ (4 : Int) = 3 by decide), if_pos rfl]) <;> rfl
theorem sum_5 (S : Nat → Int → Int) : vR_sum 5 S = sm (fun o => oE S o) (S 35 0) := by
  unfold vR_sum; (rw [if_neg (show ¬ (5 : Int) = 0 by decide), if_neg (show ¬ (5 : Int) = 1 by decide), if_neg (show ¬ (5 : Int) = 2 by decide), if_neg (show ¬ (5 : Int) = 3 by decide), if_neg (show ¬ (5 : Int) = 4 by decide), if_pos rfl]) <;> rfl
theorem sum_6 (S : Nat → Int → Int) : vR_sum 6 S = sm (S 2) (S 34 0) - sm (fun z => oB S z) 6 + sm (fun o => oE S o) (S 35 0) := by
  unfold vR_sum; (rw [if_neg (show ¬ (6 : Int) = 0 by decide), if_neg (show ¬ (6 : Int) = 1 by decide), if_neg (show ¬ (6 : Int) = 2 by decide), if_neg (show ¬ (6 : Int) = 3 by decide), if_neg (show ¬ (6 : Int) = 4 by decide), if_neg (show ¬ (6 : Int) = 5 by decide), if_pos rfl]) <;> rfl
theorem sum_7 (S : Nat → Int → Int) : vR_sum 7 S = sm (fun z => oB S z) 6 := by
  unfold vR_sum; (rw [if_neg (show ¬ (7 : Int) = 0 by decide), if_neg (show ¬ (7 : Int) = 1 by decide), if_neg (show ¬ (7 : Int) = 2 by decide), if_neg (show ¬ (7 : Int) = 3 by decide), if_neg (show ¬ (7 : Int) = 4 by decide), if_neg (show ¬ (7 : Int) = 5 by decide), if_neg (show ¬ (7 : Int) = 6 by decide)]) <;> rfl
theorem ofBond_0 (b : Int) (S : Nat → Int → Int) : vR_ofBond b 0 S = oI S b := by
  unfold vR_ofBond; (rw [if_pos rfl]) <;> rfl
theorem ofBond_1 (b : Int) (S : Nat → Int → Int) : vR_ofBond b 1 S = oY S b := by
  unfold vR_ofBond; (rw [if_neg (show ¬ (1 : Int) = 0 by decide), if_pos rfl]) <;> rfl
theorem ofBond_2 (b : Int) (S : Nat → Int → Int) : vR_ofBond b 2 S = (if (S 33 0) ≤ S 29 b then 1 else 0) := by
  unfold vR_ofBond; (rw [if_neg (show ¬ (2 : Int) = 0 by decide), if_neg (show ¬ (2 : Int) = 1 by decide), if_pos rfl]) <;> rfl
theorem ofBond_3 (b : Int) (S : Nat → Int → Int) : vR_ofBond b 3 S = (if (S 33 0) ≤ S 29 b then 0 else oY S b) := by
  unfold vR_ofBond; (rw [if_neg (show ¬ (3 : Int) = 0 by decide), if_neg (show ¬ (3 : Int) = 1 by decide), if_neg (show ¬ (3 : Int) = 2 by decide), if_pos rfl]) <;> rfl
theorem ofBond_4 (b : Int) (S : Nat → Int → Int) : vR_ofBond b 4 S = (if (S 33 0) ≤ S 29 b then 0 else S 22 b - oY S b) := by
  unfold vR_ofBond; (rw [if_neg (show ¬ (4 : Int) = 0 by decide), if_neg (show ¬ (4 : Int) = 1 by decide), if_neg (show ¬ (4 : Int) = 2 by decide), if_neg (show ¬ (4 : Int) = 3 by decide), if_pos rfl]) <;> rfl
theorem basis_is (S : Nat → Int → Int) : vR_basis S = sm (fun b => oY S b) (S 40 0) - vR_sum 6 S := by
  (rw [sum_6]) <;> rfl
theorem oG_r {S X : Nat → Int → Int} (hI : iv9 S X) (o : Int) : 0 ≤ oG S o ∧ oG S o ≤ 3999960 := by
  obtain ⟨hnL, hOP, hOF, hOT, hnO, hnY, hPA, hnE, hnR, hEF, hES, hEH, hnB, htn, hBL, hBE, hMC, hLP, hLH, hLU, hFL, hDP, hSH, hRE, hPR, hRA, hQ, hNet, hDP1, hdj, hXP, hRB, hRT, hRF, hRD, hRH, hRN, hVH, hBP, hBQ, hBX, hBF, hBT, hBC, hEC, hEP, hEX, hEn, hMW, hMU, hMW1, hBP1⟩ := hI
  exact gro_r (LP := (S 0)) (LH := (S 1)) hLU hnL (S 3) (S 4) (S 5) o
theorem oQ_r {S X : Nat → Int → Int} (hI : iv9 S X) (o : Int) : 0 ≤ oQ S o ∧ oQ S o ≤ oG S o := by
  obtain ⟨hnL, hOP, hOF, hOT, hnO, hnY, hPA, hnE, hnR, hEF, hES, hEH, hnB, htn, hBL, hBE, hMC, hLP, hLH, hLU, hFL, hDP, hSH, hRE, hPR, hRA, hQ, hNet, hDP1, hdj, hXP, hRB, hRT, hRF, hRD, hRH, hRN, hVH, hBP, hBQ, hBX, hBF, hBT, hBC, hEC, hEP, hEX, hEn, hMW, hMU, hMW1, hBP1⟩ := hI
  exact qto_r hQ (gro_r (LP := (S 0)) (LH := (S 1)) hLU hnL (S 3) (S 4) (S 5) o)
theorem oP_r {S X : Nat → Int → Int} (hI : iv9 S X) {o : Int} (h0 : 0 ≤ o) (h1 : o < (S 35 0)) : 0 ≤ oP S o ∧ oP S o < 8 := by
  obtain ⟨hnL, hOP, hOF, hOT, hnO, hnY, hPA, hnE, hnR, hEF, hES, hEH, hnB, htn, hBL, hBE, hMC, hLP, hLH, hLU, hFL, hDP, hSH, hRE, hPR, hRA, hQ, hNet, hDP1, hdj, hXP, hRB, hRT, hRF, hRD, hRH, hRN, hVH, hBP, hBQ, hBX, hBF, hBT, hBC, hEC, hEP, hEX, hEn, hMW, hMU, hMW1, hBP1⟩ := hI
  have h := plc_r (S 3) (S 4) h0 h1
  unfold oP; omega
theorem hit_r {S X : Nat → Int → Int} (hI : iv9 S X) (y : Int) {o : Int} (h0 : 0 ≤ o) (h1 : o < (S 35 0)) : (0 ≤ hH S y o ∧ hH S y o ≤ 999999) ∧ (0 ≤ hP S y o ∧ hP S y o ≤ hH S y o) ∧ (0 ≤ hR_ S y o ∧ hR_ S y o ≤ hH S y o) ∧ (0 ≤ hL_ S y o ∧ hL_ S y o ≤ 3999996) ∧ hH S y o ≤ oG S o - oQ S o := by
  obtain ⟨hnL, hOP, hOF, hOT, hnO, hnY, hPA, hnE, hnR, hEF, hES, hEH, hnB, htn, hBL, hBE, hMC, hLP, hLH, hLU, hFL, hDP, hSH, hRE, hPR, hRA, hQ, hNet, hDP1, hdj, hXP, hRB, hRT, hRF, hRD, hRH, hRN, hVH, hBP, hBQ, hBX, hBF, hBT, hBC, hEC, hEP, hEX, hEn, hMW, hMU, hMW1, hBP1⟩ := hI
  have hp := plc_r (S 3) (S 4) h0 h1
  have h := hitA_r (FL := (S 6)) hDP hRE y (nt0 (S 0) (S 1) (S 2) (S 34 0) (S 3) (S 4) (S 5) (S 35 0) (S 37 0)) hp.1
  have h2 := pay_r hSH y h.1
  have h3 := lf_r (FL := (S 6)) hDP hRE y (nt0 (S 0) (S 1) (S 2) (S 34 0) (S 3) (S 4) (S 5) (S 35 0) (S 37 0)) (a := (plc (S 3) (S 4) (S 35 0) o) + 1) (by omega)
  have h7 := (lf_r (FL := (S 6)) hDP hRE y (nt0 (S 0) (S 1) (S 2) (S 34 0) (S 3) (S 4) (S 5) (S 35 0) (S 37 0)) (a := (plc (S 3) (S 4) (S 35 0) o)) (by omega))
  have h4 : (nt0 (S 0) (S 1) (S 2) (S 34 0) (S 3) (S 4) (S 5) (S 35 0) (S 37 0)) (plc (S 3) (S 4) (S 35 0) o) = oG S o - oQ S o := nt0_of (dj9_dst hdj) (S 0) (S 1) (S 2) (S 34 0) (S 5) (S 37 0) h0 h1
  have h5 := fhit_r (FL := (S 6)) hDP y ((nt0 (S 0) (S 1) (S 2) (S 34 0) (S 3) (S 4) (S 5) (S 35 0) (S 37 0)) (plc (S 3) (S 4) (S 35 0) o))
  have h6 : fhit (S 6) (S 7) y ((nt0 (S 0) (S 1) (S 2) (S 34 0) (S 3) (S 4) (S 5) (S 35 0) (S 37 0)) (plc (S 3) (S 4) (S 35 0) o)) ≤ (nt0 (S 0) (S 1) (S 2) (S 34 0) (S 3) (S 4) (S 5) (S 35 0) (S 37 0)) (plc (S 3) (S 4) (S 35 0) o) ∨ fhit (S 6) (S 7) y ((nt0 (S 0) (S 1) (S 2) (S 34 0) (S 3) (S 4) (S 5) (S 35 0) (S 37 0)) (plc (S 3) (S 4) (S 35 0) o)) ≤ 0 := by have := hFL y; unfold fhit; omega
  have h8 : hH S y o = mn (fhit (S 6) (S 7) y ((nt0 (S 0) (S 1) (S 2) (S 34 0) (S 3) (S 4) (S 5) (S 35 0) (S 37 0)) (plc (S 3) (S 4) (S 35 0) o))) (lf (S 6) (S 7) (S 9) y (nt0 (S 0) (S 1) (S 2) (S 34 0) (S 3) (S 4) (S 5) (S 35 0) (S 37 0)) (plc (S 3) (S 4) (S 35 0) o)) := rfl
  have h9 : hR_ S y o = mn (hH S y o) (rs (S 6) (S 7) (S 9) y (nt0 (S 0) (S 1) (S 2) (S 34 0) (S 3) (S 4) (S 5) (S 35 0) (S 37 0)) (plc (S 3) (S 4) (S 35 0) o)) := rfl
  have ha : hP S y o = pay (S 8) y (hH S y o) := rfl
  have hb : hL_ S y o = lf (S 6) (S 7) (S 9) y (nt0 (S 0) (S 1) (S 2) (S 34 0) (S 3) (S 4) (S 5) (S 35 0) (S 37 0)) ((plc (S 3) (S 4) (S 35 0) o) + 1) := rfl
  have hg := gro_r (LP := (S 0)) (LH := (S 1)) hLU hnL (S 3) (S 4) (S 5) o
  have hq := qto_r hQ hg
  have hn : 0 ≤ oG S o - oQ S o := by have e1 : oG S o = gro (S 0) (S 1) (S 2) (S 34 0) (S 3) (S 4) (S 5) o := rfl; have e2 : oQ S o = qto (S 37 0) (gro (S 0) (S 1) (S 2) (S 34 0) (S 3) (S 4) (S 5) o) := rfl; omega
  have hc : (0 ≤ hH S y o ∧ hH S y o ≤ 999999) := h.1
  have hd : 0 ≤ pay (S 8) y (hH S y o) ∧ pay (S 8) y (hH S y o) ≤ hH S y o := h2
  rw [ha, hb]
  refine ⟨hc, hd, ?_, h3.1, ?_⟩
  · rw [h9]; unfold mn; omega
  · rw [h8, ← h4]; rw [← h4] at hn; unfold mn; omega
theorem oB_r {S X : Nat → Int → Int} (hI : iv9 S X) (z : Int) : 0 ≤ oB S z ∧ oB S z ≤ 100000000 := by
  obtain ⟨hnL, hOP, hOF, hOT, hnO, hnY, hPA, hnE, hnR, hEF, hES, hEH, hnB, htn, hBL, hBE, hMC, hLP, hLH, hLU, hFL, hDP, hSH, hRE, hPR, hRA, hQ, hNet, hDP1, hdj, hXP, hRB, hRT, hRF, hRD, hRH, hRN, hVH, hBP, hBQ, hBX, hBF, hBT, hBC, hEC, hEP, hEX, hEn, hMW, hMU, hMW1, hBP1⟩ := hI
  exact kB_r hLU hnL (hnO := hnO) (hnY := hnY) (hQ := hQ) (hDP := hDP) (hSH := hSH) (hRE := hRE) hPA z
theorem itr_pos (RB RT RF RD : Int → Int) (n : Int) : itr RB RT RF RD n = itr RB RT RF RD (n.toNat : Int) := by
  unfold itr; rw [show ((n.toNat : Int)).toNat = n.toNat by omega]
theorem itr_ge {RB RT RF RD : Int → Int} (hRD : ∀ k, 0 ≤ RD k ∧ RD k ≤ 999999) (n : Int) (z : Int) : RB z ≤ itr RB RT RF RD n z := by
  rw [itr_pos]
  refine sm_ind (P := fun n => RB z ≤ itr RB RT RF RD n z) (Int.le_refl _) (fun i hi ih => ?_) (n.toNat : Int) (by omega)
  rw [itr_s _ _ _ _ hi]
  have h1 := sm_bound (F := fun j => if RT j = z then pso RF RD (itr RB RT RF RD i) j else 0) (lo := 0) (hi := 999999) (n := 6) (by omega) (fun j _ _ => by have := pso_r (RF := RF) hRD (itr RB RT RF RD i) j; split <;> omega)
  unfold stp; omega
theorem rei_r {S X : Nat → Int → Int} (hI : iv9 S X) (z : Int) : (0 ≤ vR_reinsurer z 0 S ∧ vR_reinsurer z 0 S ≤ 100000000) ∧ (vR_reinsurer z 0 S ≤ vR_reinsurer z 1 S ∧ vR_reinsurer z 1 S ≤ 105999994) ∧ (0 ≤ vR_reinsurer z 2 S ∧ vR_reinsurer z 2 S ≤ vR_reinsurer z 1 S) := by
  obtain ⟨hnL, hOP, hOF, hOT, hnO, hnY, hPA, hnE, hnR, hEF, hES, hEH, hnB, htn, hBL, hBE, hMC, hLP, hLH, hLU, hFL, hDP, hSH, hRE, hPR, hRA, hQ, hNet, hDP1, hdj, hXP, hRB, hRT, hRF, hRD, hRH, hRN, hVH, hBP, hBQ, hBX, hBF, hBT, hBC, hEC, hEP, hEX, hEn, hMW, hMU, hMW1, hBP1⟩ := hI
  have hB : ∀ z, 0 ≤ oB S z ∧ oB S z ≤ 100000000 := fun z => kB_r hLU hnL (hnO := hnO) (hnY := hnY) (hQ := hQ) (hDP := hDP) (hSH := hSH) (hRE := hRE) hPA z
  have h1 := itr_ge (RB := (fun z => oB S z)) (RT := (S 13)) (RF := (S 14)) hRD (vR_rounds S) z
  have h2 := itr_r (RB := (fun z => oB S z)) (RT := (S 13)) (RF := (S 14)) hRD hB (n := ((vR_rounds S).toNat : Int)) (by omega) z
  rw [← itr_pos] at h2
  have h3 := pso_r (RF := (S 14)) hRD (itr (fun z => oB S z) (S 13) (S 14) (S 15) (vR_rounds S)) z
  have h4 : pso (S 14) (S 15) (itr (fun z => oB S z) (S 13) (S 14) (S 15) (vR_rounds S)) z ≤ itr (fun z => oB S z) (S 13) (S 14) (S 15) (vR_rounds S) z := by have := hRF z; have := hRD z; unfold pso mn; omega
  have h5 := hB z
  have h6 : oB S z ≤ itr (fun z => oB S z) (S 13) (S 14) (S 15) (vR_rounds S) z := h1
  rw [reinsurer_0, reinsurer_1, reinsurer_2]
  omega
theorem oI_r {S X : Nat → Int → Int} (hI : iv9 S X) (b : Int) : 0 ≤ oI S b ∧ oI S b ≤ 9 := by
  obtain ⟨hnL, hOP, hOF, hOT, hnO, hnY, hPA, hnE, hnR, hEF, hES, hEH, hnB, htn, hBL, hBE, hMC, hLP, hLH, hLU, hFL, hDP, hSH, hRE, hPR, hRA, hQ, hNet, hDP1, hdj, hXP, hRB, hRT, hRF, hRD, hRH, hRN, hVH, hBP, hBQ, hBX, hBF, hBT, hBC, hEC, hEP, hEX, hEn, hMW, hMU, hMW1, hBP1⟩ := hI
  exact idx9_r hEX (S 16) (S 17) (S 18) (S 19) (S 20) (S 38 0) hnR (S 23) (S 24) (S 25) (S 26) b
theorem oY_r {S X : Nat → Int → Int} (hI : iv9 S X) (b : Int) : (0 ≤ oY S b ∧ oY S b ≤ S 22 b) ∧ S 22 b ≤ 999999 := by
  obtain ⟨hnL, hOP, hOF, hOT, hnO, hnY, hPA, hnE, hnR, hEF, hES, hEH, hnB, htn, hBL, hBE, hMC, hLP, hLH, hLU, hFL, hDP, hSH, hRE, hPR, hRA, hQ, hNet, hDP1, hdj, hXP, hRB, hRT, hRF, hRD, hRH, hRN, hVH, hBP, hBQ, hBX, hBF, hBT, hBC, hEC, hEP, hEX, hEn, hMW, hMU, hMW1, hBP1⟩ := hI
  exact ⟨pyo_r hBP hBC b _, (hBP b).2⟩
theorem oT_1 {S X : Nat → Int → Int} (hI : iv9 S X) (b : Int) (h0 : 0 ≤ b) (h1 : b < (S 40 0)) : 1 ≤ S 22 b := by
  obtain ⟨hnL, hOP, hOF, hOT, hnO, hnY, hPA, hnE, hnR, hEF, hES, hEH, hnB, htn, hBL, hBE, hMC, hLP, hLH, hLU, hFL, hDP, hSH, hRE, hPR, hRA, hQ, hNet, hDP1, hdj, hXP, hRB, hRT, hRF, hRD, hRH, hRN, hVH, hBP, hBQ, hBX, hBF, hBT, hBC, hEC, hEP, hEX, hEn, hMW, hMU, hMW1, hBP1⟩ := hI
  exact hBP1 b h0 h1
theorem lb9_anti (FL DP SH : Int → Int) (Q : Int) (MW MU : Int → Int) (q y N : Int) {a b : Int} (h : a ≤ b) {n : Int} (hn : 0 ≤ n) : lb9 FL DP SH Q MW MU q y N b n ≤ lb9 FL DP SH Q MW MU q y N a n := by
  refine sm_ind (P := fun n => lb9 FL DP SH Q MW MU q y N b n ≤ lb9 FL DP SH Q MW MU q y N a n) (Int.le_refl _) (fun i hi ih => ?_) n hn
  rw [lb9_s _ _ _ _ _ _ _ _ _ _ hi, lb9_s _ _ _ _ _ _ _ _ _ _ hi]
  omega
theorem lb9_r9 {DP SH : Int → Int} (hDP : ∀ k, 0 ≤ DP k ∧ DP k ≤ 999999) (hSH : ∀ k, 0 ≤ SH k ∧ SH k ≤ 100) (FL : Int → Int) (Q : Int) (MW MU : Int → Int) (q y N a : Int) {n : Int} (hn : 0 ≤ n) : 0 ≤ lb9 FL DP SH Q MW MU q y N a n ∧ lb9 FL DP SH Q MW MU q y N a n ≤ 999999 := by
  refine sm_ind (P := fun n => 0 ≤ lb9 FL DP SH Q MW MU q y N a n ∧ lb9 FL DP SH Q MW MU q y N a n ≤ 999999) (show (0 : Int) ≤ 999999 ∧ (999999 : Int) ≤ 999999 by omega) (fun i hi ih => ?_) n hn
  rw [lb9_s _ _ _ _ _ _ _ _ _ _ hi]
  have := mpy_r (FL := FL) hDP hSH Q MU q y i
  omega
theorem tail_mono {S X : Nat → Int → Int} (hI : iv9 S X) (y q : Int) {u : Int} (h0 : 0 ≤ u) (h1 : u ≤ 98) : aR_tail y q (u + 1) S ≤ aR_tail y q u S ∧ (-2147483648 ≤ aR_tail y q (u + 1) S ∧ aR_tail y q u S < 2147483648) := by
  obtain ⟨hnL, hOP, hOF, hOT, hnO, hnY, hPA, hnE, hnR, hEF, hES, hEH, hnB, htn, hBL, hBE, hMC, hLP, hLH, hLU, hFL, hDP, hSH, hRE, hPR, hRA, hQ, hNet, hDP1, hdj, hXP, hRB, hRT, hRF, hRD, hRH, hRN, hVH, hBP, hBQ, hBX, hBF, hBT, hBC, hEC, hEP, hEX, hEn, hMW, hMU, hMW1, hBP1⟩ := hI
  by_cases hc : vC_tail y q u S
  · have hc1 : vC_tail y q (u + 1) S := by unfold vC_tail at hc ⊢; omega
    have e1 : aR_tail y q u S = vR_tail y q u S := if_pos hc
    have e2 : aR_tail y q (u + 1) S = vR_tail y q (u + 1) S := if_pos hc1
    rw [e1, e2]
    have hm := hMC q
    have ht := twt_r hMW q hm
    have hu : u * sm (twt (S 30) q) (S 32 q) ≤ (u + 1) * sm (twt (S 30) q) (S 32 q) := by rw [Int.add_mul]; omega
    have a1 := lb9_anti (S 6) (S 7) (S 8) (S 37 0) (S 30) (S 31) q y (S 32 q) hu (n := S 32 q) hm.1
    have a2 := lb9_r9 hDP hSH (S 6) (S 37 0) (S 30) (S 31) q y (S 32 q) (u * sm (twt (S 30) q) (S 32 q)) (n := S 32 q) hm.1
    have a3 := lb9_r9 hDP hSH (S 6) (S 37 0) (S 30) (S 31) q y (S 32 q) ((u + 1) * sm (twt (S 30) q) (S 32 q)) (n := S 32 q) hm.1
    unfold vR_tail; omega
  · have hc1 : ¬ vC_tail y q (u + 1) S := fun z => hc (by unfold vC_tail at z ⊢; omega)
    have e1 : aR_tail y q u S = (-2000000000) := if_neg hc
    have e2 : aR_tail y q (u + 1) S = (-2000000000) := if_neg hc1
    rw [e1, e2]; omega
theorem occ_at {S X : Nat → Int → Int} (hI : iv9 S X) {o : Int} (h0 : 0 ≤ o) : aR_occurrence o 0 S = if o < (S 35 0) then oG S o else -2000000000 := by
  by_cases q : o < (S 35 0)
  · have hc : vC_occurrence o 0 S := by unfold vC_occurrence; omega
    have e1 : aR_occurrence o 0 S = vR_occurrence o 0 S := if_pos hc
    rw [e1, occurrence_0, if_pos q]
  · have hc : ¬ vC_occurrence o 0 S := by unfold vC_occurrence; omega
    have e1 : aR_occurrence o 0 S = (-2000000000) := if_neg hc
    rw [e1, if_neg q]
theorem hit_at {S X : Nat → Int → Int} (hI : iv9 S X) {y o : Int} (h0 : 0 ≤ y) (h1 : 0 ≤ o) (h2 : o < (S 35 0)) : aR_hit y o 0 S = if y < (S 36 0) then hH S y o else -2000000000 := by
  by_cases q : y < (S 36 0)
  · have hc : vC_hit y o 0 S := by unfold vC_hit; omega
    have e1 : aR_hit y o 0 S = vR_hit y o 0 S := if_pos hc
    rw [e1, hit_0, if_pos q]
  · have hc : ¬ vC_hit y o 0 S := by unfold vC_hit; omega
    have e1 : aR_hit y o 0 S = (-2000000000) := if_neg hc
    rw [e1, if_neg q]
theorem bond_at {S X : Nat → Int → Int} (hI : iv9 S X) {b : Int} (h0 : 0 ≤ b) : aR_ofBond b 0 S = if b < (S 40 0) then oI S b else -2000000000 := by
  by_cases q : b < (S 40 0)
  · have hc : vC_ofBond b 0 S := by unfold vC_ofBond; omega
    have e1 : aR_ofBond b 0 S = vR_ofBond b 0 S := if_pos hc
    rw [e1, ofBond_0, if_pos q]
  · have hc : ¬ vC_ofBond b 0 S := by unfold vC_ofBond; omega
    have e1 : aR_ofBond b 0 S = (-2000000000) := if_neg hc
    rw [e1, if_neg q]
theorem anew_at (p : Int) (S : Nat → Int → Int) : aR_bestAnew p S = vR_best p S ∨ aR_bestAnew p S = -2000000000 := by
  by_cases hc : vC_bestAnew p S
  · exact Or.inl (if_pos hc)
  · exact Or.inr (if_neg hc)
theorem mn_l {i n : Int} (h : i < n) : mn i n = i ∧ mn (i + 1) n = i + 1 := by unfold mn; omega
theorem mn_g {i n : Int} (h : n ≤ i) : mn i n = n ∧ mn (i + 1) n = n := by unfold mn; omega
theorem mn_0 {n : Int} (h : 0 ≤ n) : mn 0 n = 0 := by unfold mn; omega
theorem sm_mn (F : Int → Int) {i n : Int} (h0 : 0 ≤ i) (h : i < n) : sm F (mn (i + 1) n) = sm F (mn i n) + F i := by rw [(mn_l h).1, (mn_l h).2, sm_s _ h0]
theorem sm_mg (F : Int → Int) {i n : Int} (h : n ≤ i) : sm F (mn (i + 1) n) = sm F (mn i n) := by rw [(mn_g h).1, (mn_g h).2]
theorem bad_loss {S X : Nat → Int → Int} (hI : iv9 S X) {p h u : Int} (h0w : wI (aR_loss p h u S) = -2000000000) : aN_loss p h u S = S := by
  obtain ⟨hnL, hOP, hOF, hOT, hnO, hnY, hPA, hnE, hnR, hEF, hES, hEH, hnB, htn, hBL, hBE, hMC, hLP, hLH, hLU, hFL, hDP, hSH, hRE, hPR, hRA, hQ, hNet, hDP1, hdj, hXP, hRB, hRT, hRF, hRD, hRH, hRN, hVH, hBP, hBQ, hBX, hBF, hBT, hBC, hEC, hEP, hEX, hEn, hMW, hMU, hMW1, hBP1⟩ := hI
  by_cases hc : vC_loss p h u S
  · exfalso
    have e1 : aR_loss p h u S = vR_loss p h u S := if_pos hc
    unfold vC_loss at hc
    have r : -1000 ≤ vR_loss p h u S ∧ vR_loss p h u S ≤ 5000000 := by unfold vR_loss; omega
    have e3 : wI (vR_loss p h u S) = vR_loss p h u S := iI_t (by omega)
    rw [e1, e3] at h0w
    omega
  · exact if_neg hc
theorem bad_creep {S X : Nat → Int → Int} (hI : iv9 S X) {v u : Int} (h0w : wI (aR_creep v u S) = -2000000000) : aN_creep v u S = S := by
  obtain ⟨hnL, hOP, hOF, hOT, hnO, hnY, hPA, hnE, hnR, hEF, hES, hEH, hnB, htn, hBL, hBE, hMC, hLP, hLH, hLU, hFL, hDP, hSH, hRE, hPR, hRA, hQ, hNet, hDP1, hdj, hXP, hRB, hRT, hRF, hRD, hRH, hRN, hVH, hBP, hBQ, hBX, hBF, hBT, hBC, hEC, hEP, hEX, hEn, hMW, hMU, hMW1, hBP1⟩ := hI
  by_cases hc : vC_creep v u S
  · exfalso
    have e1 : aR_creep v u S = vR_creep v u S := if_pos hc
    unfold vC_creep at hc
    have h9 := hLU v
    have r : -1000 ≤ vR_creep v u S ∧ vR_creep v u S ≤ 5000000 := by unfold vR_creep; omega
    have e3 : wI (vR_creep v u S) = vR_creep v u S := iI_t (by omega)
    rw [e1, e3] at h0w
    omega
  · exact if_neg hc
theorem bad_choose {S X : Nat → Int → Int} (hI : iv9 S X) {p a b : Int} (h0w : wI (aR_choose p a b S) = -2000000000) : aN_choose p a b S = S := by
  obtain ⟨hnL, hOP, hOF, hOT, hnO, hnY, hPA, hnE, hnR, hEF, hES, hEH, hnB, htn, hBL, hBE, hMC, hLP, hLH, hLU, hFL, hDP, hSH, hRE, hPR, hRA, hQ, hNet, hDP1, hdj, hXP, hRB, hRT, hRF, hRD, hRH, hRN, hVH, hBP, hBQ, hBX, hBF, hBT, hBC, hEC, hEP, hEX, hEn, hMW, hMU, hMW1, hBP1⟩ := hI
  by_cases hc : vC_choose p a b S
  · exfalso
    have e1 : aR_choose p a b S = vR_choose p a b S := if_pos hc
    unfold vC_choose at hc
    have r : -1000 ≤ vR_choose p a b S ∧ vR_choose p a b S ≤ 5000000 := by unfold vR_choose; omega
    have e3 : wI (vR_choose p a b S) = vR_choose p a b S := iI_t (by omega)
    rw [e1, e3] at h0w
    omega
  · exact if_neg hc
theorem bad_unchoose {S X : Nat → Int → Int} (hI : iv9 S X) (h0w : wI (aR_unchoose S) = -2000000000) : aN_unchoose S = S := by
  obtain ⟨hnL, hOP, hOF, hOT, hnO, hnY, hPA, hnE, hnR, hEF, hES, hEH, hnB, htn, hBL, hBE, hMC, hLP, hLH, hLU, hFL, hDP, hSH, hRE, hPR, hRA, hQ, hNet, hDP1, hdj, hXP, hRB, hRT, hRF, hRD, hRH, hRN, hVH, hBP, hBQ, hBX, hBF, hBT, hBC, hEC, hEP, hEX, hEn, hMW, hMU, hMW1, hBP1⟩ := hI
  by_cases hc : vC_unchoose S
  · exfalso
    have e1 : aR_unchoose S = vR_unchoose S := if_pos hc
    unfold vC_unchoose at hc
    have r : -1000 ≤ vR_unchoose S ∧ vR_unchoose S ≤ 5000000 := by unfold vR_unchoose; omega
    have e3 : wI (vR_unchoose S) = vR_unchoose S := iI_t (by omega)
    rw [e1, e3] at h0w
    omega
  · exact if_neg hc
theorem bad_quota {S X : Nat → Int → Int} (hI : iv9 S X) {v : Int} (h0w : wI (aR_quota v S) = -2000000000) : aN_quota v S = S := by
  obtain ⟨hnL, hOP, hOF, hOT, hnO, hnY, hPA, hnE, hnR, hEF, hES, hEH, hnB, htn, hBL, hBE, hMC, hLP, hLH, hLU, hFL, hDP, hSH, hRE, hPR, hRA, hQ, hNet, hDP1, hdj, hXP, hRB, hRT, hRF, hRD, hRH, hRN, hVH, hBP, hBQ, hBX, hBF, hBT, hBC, hEC, hEP, hEX, hEn, hMW, hMU, hMW1, hBP1⟩ := hI
  by_cases hc : vC_quota v S
  · exfalso
    have e1 : aR_quota v S = vR_quota v S := if_pos hc
    unfold vC_quota at hc
    have r : -1000 ≤ vR_quota v S ∧ vR_quota v S ≤ 5000000 := by unfold vR_quota; omega
    have e3 : wI (vR_quota v S) = vR_quota v S := iI_t (by omega)
    rw [e1, e3] at h0w
    omega
  · exact if_neg hc
theorem bad_layer {S X : Nat → Int → Int} (hI : iv9 S X) {a1 a2 a3 a4 a5 a6 : Int} (h0w : wI (aR_layer a1 a2 a3 a4 a5 a6 S) = -2000000000) : aN_layer a1 a2 a3 a4 a5 a6 S = S := by
  obtain ⟨hnL, hOP, hOF, hOT, hnO, hnY, hPA, hnE, hnR, hEF, hES, hEH, hnB, htn, hBL, hBE, hMC, hLP, hLH, hLU, hFL, hDP, hSH, hRE, hPR, hRA, hQ, hNet, hDP1, hdj, hXP, hRB, hRT, hRF, hRD, hRH, hRN, hVH, hBP, hBQ, hBX, hBF, hBT, hBC, hEC, hEP, hEX, hEn, hMW, hMU, hMW1, hBP1⟩ := hI
  by_cases hc : vC_layer a1 a2 a3 a4 a5 a6 S
  · exfalso
    have e1 : aR_layer a1 a2 a3 a4 a5 a6 S = vR_layer a1 a2 a3 a4 a5 a6 S := if_pos hc
    unfold vC_layer at hc
    have r : -1000 ≤ vR_layer a1 a2 a3 a4 a5 a6 S ∧ vR_layer a1 a2 a3 a4 a5 a6 S ≤ 5000000 := by unfold vR_layer; omega
    have e3 : wI (vR_layer a1 a2 a3 a4 a5 a6 S) = vR_layer a1 a2 a3 a4 a5 a6 S := iI_t (by omega)
    rw [e1, e3] at h0w
    omega
  · exact if_neg hc
theorem bad_part {S X : Nat → Int → Int} (hI : iv9 S X) {y z v : Int} (h0w : wI (aR_part y z v S) = -2000000000) : aN_part y z v S = S := by
  obtain ⟨hnL, hOP, hOF, hOT, hnO, hnY, hPA, hnE, hnR, hEF, hES, hEH, hnB, htn, hBL, hBE, hMC, hLP, hLH, hLU, hFL, hDP, hSH, hRE, hPR, hRA, hQ, hNet, hDP1, hdj, hXP, hRB, hRT, hRF, hRD, hRH, hRN, hVH, hBP, hBQ, hBX, hBF, hBT, hBC, hEC, hEP, hEX, hEn, hMW, hMU, hMW1, hBP1⟩ := hI
  by_cases hc : vC_part y z v S
  · exfalso
    have e1 : aR_part y z v S = vR_part y z v S := if_pos hc
    unfold vC_part at hc
    have h9 := sm_bound (F := bes (up (S 12) (y * 6 + z) v) y (-1)) (lo := 0) (hi := 100) (n := 6) (by omega) (fun k _ _ => by have q := up_r (i := y * 6 + z) (v := v) hPA (by omega) (y * 6 + k); unfold bes; split <;> omega)
    have r : -1000 ≤ vR_part y z v S ∧ vR_part y z v S ≤ 5000000 := by unfold vR_part; omega
    have e3 : wI (vR_part y z v S) = vR_part y z v S := iI_t (by omega)
    rw [e1, e3] at h0w
    omega
  · exact if_neg hc
theorem bad_retro {S X : Nat → Int → Int} (hI : iv9 S X) {y z a b : Int} (h0w : wI (aR_retro y z a b S) = -2000000000) : aN_retro y z a b S = S := by
  obtain ⟨hnL, hOP, hOF, hOT, hnO, hnY, hPA, hnE, hnR, hEF, hES, hEH, hnB, htn, hBL, hBE, hMC, hLP, hLH, hLU, hFL, hDP, hSH, hRE, hPR, hRA, hQ, hNet, hDP1, hdj, hXP, hRB, hRT, hRF, hRD, hRH, hRN, hVH, hBP, hBQ, hBX, hBF, hBT, hBC, hEC, hEP, hEX, hEn, hMW, hMU, hMW1, hBP1⟩ := hI
  by_cases hc : vC_retro y z a b S
  · exfalso
    have e1 : aR_retro y z a b S = vR_retro y z a b S := if_pos hc
    unfold vC_retro at hc
    have h9 := hRD y
    have r : -1000 ≤ vR_retro y z a b S ∧ vR_retro y z a b S ≤ 5000000 := by unfold vR_retro; omega
    have e3 : wI (vR_retro y z a b S) = vR_retro y z a b S := iI_t (by omega)
    rw [e1, e3] at h0w
    omega
  · exact if_neg hc
theorem bad_station {S X : Nat → Int → Int} (hI : iv9 S X) {v : Int} (h0w : wI (aR_station v S) = -2000000000) : aN_station v S = S := by
  obtain ⟨hnL, hOP, hOF, hOT, hnO, hnY, hPA, hnE, hnR, hEF, hES, hEH, hnB, htn, hBL, hBE, hMC, hLP, hLH, hLU, hFL, hDP, hSH, hRE, hPR, hRA, hQ, hNet, hDP1, hdj, hXP, hRB, hRT, hRF, hRD, hRH, hRN, hVH, hBP, hBQ, hBX, hBF, hBT, hBC, hEC, hEP, hEX, hEn, hMW, hMU, hMW1, hBP1⟩ := hI
  by_cases hc : vC_station v S
  · exfalso
    have e1 : aR_station v S = vR_station v S := if_pos hc
    unfold vC_station at hc
    have r : -1000 ≤ vR_station v S ∧ vR_station v S ≤ 5000000 := by unfold vR_station; omega
    have e3 : wI (vR_station v S) = vR_station v S := iI_t (by omega)
    rw [e1, e3] at h0w
    omega
  · exact if_neg hc
theorem bad_reading {S X : Nat → Int → Int} (hI : iv9 S X) {a1 a2 a3 a4 : Int} (h0w : wI (aR_reading a1 a2 a3 a4 S) = -2000000000) : aN_reading a1 a2 a3 a4 S = S := by
  obtain ⟨hnL, hOP, hOF, hOT, hnO, hnY, hPA, hnE, hnR, hEF, hES, hEH, hnB, htn, hBL, hBE, hMC, hLP, hLH, hLU, hFL, hDP, hSH, hRE, hPR, hRA, hQ, hNet, hDP1, hdj, hXP, hRB, hRT, hRF, hRD, hRH, hRN, hVH, hBP, hBQ, hBX, hBF, hBT, hBC, hEC, hEP, hEX, hEn, hMW, hMU, hMW1, hBP1⟩ := hI
  by_cases hc : vC_reading a1 a2 a3 a4 S
  · exfalso
    have e1 : aR_reading a1 a2 a3 a4 S = vR_reading a1 a2 a3 a4 S := if_pos hc
    unfold vC_reading at hc
    have r : -1000 ≤ vR_reading a1 a2 a3 a4 S ∧ vR_reading a1 a2 a3 a4 S ≤ 5000000 := by unfold vR_reading; omega
    have e3 : wI (vR_reading a1 a2 a3 a4 S) = vR_reading a1 a2 a3 a4 S := iI_t (by omega)
    rw [e1, e3] at h0w
    omega
  · exact if_neg hc
theorem bad_fails {S X : Nat → Int → Int} (hI : iv9 S X) {s h : Int} (h0w : wI (aR_fails s h S) = -2000000000) : aN_fails s h S = S := by
  obtain ⟨hnL, hOP, hOF, hOT, hnO, hnY, hPA, hnE, hnR, hEF, hES, hEH, hnB, htn, hBL, hBE, hMC, hLP, hLH, hLU, hFL, hDP, hSH, hRE, hPR, hRA, hQ, hNet, hDP1, hdj, hXP, hRB, hRT, hRF, hRD, hRH, hRN, hVH, hBP, hBQ, hBX, hBF, hBT, hBC, hEC, hEP, hEX, hEn, hMW, hMU, hMW1, hBP1⟩ := hI
  by_cases hc : vC_fails s h S
  · exfalso
    have e1 : aR_fails s h S = vR_fails s h S := if_pos hc
    unfold vC_fails at hc
    have h9 := sm_bound (F := fcn (S 18) (S 19) s h) (lo := 0) (hi := 1) (n := (S 39 0)) hnR.1 (fun k _ _ => by unfold fcn; split <;> omega)
    have r : -1000 ≤ vR_fails s h S ∧ vR_fails s h S ≤ 5000000 := by unfold vR_fails; omega
    have e3 : wI (vR_fails s h S) = vR_fails s h S := iI_t (by omega)
    rw [e1, e3] at h0w
    omega
  · exact if_neg hc
theorem bad_bond {S X : Nat → Int → Int} (hI : iv9 S X) {a1 a2 a3 a4 a5 a6 a7 : Int} (h0w : wI (aR_bond a1 a2 a3 a4 a5 a6 a7 S) = -2000000000) : aN_bond a1 a2 a3 a4 a5 a6 a7 S = S := by
  obtain ⟨hnL, hOP, hOF, hOT, hnO, hnY, hPA, hnE, hnR, hEF, hES, hEH, hnB, htn, hBL, hBE, hMC, hLP, hLH, hLU, hFL, hDP, hSH, hRE, hPR, hRA, hQ, hNet, hDP1, hdj, hXP, hRB, hRT, hRF, hRD, hRH, hRN, hVH, hBP, hBQ, hBX, hBF, hBT, hBC, hEC, hEP, hEX, hEn, hMW, hMU, hMW1, hBP1⟩ := hI
  by_cases hc : vC_bond a1 a2 a3 a4 a5 a6 a7 S
  · exfalso
    have e1 : aR_bond a1 a2 a3 a4 a5 a6 a7 S = vR_bond a1 a2 a3 a4 a5 a6 a7 S := if_pos hc
    unfold vC_bond at hc
    have r : -1000 ≤ vR_bond a1 a2 a3 a4 a5 a6 a7 S ∧ vR_bond a1 a2 a3 a4 a5 a6 a7 S ≤ 5000000 := by unfold vR_bond; omega
    have e3 : wI (vR_bond a1 a2 a3 a4 a5 a6 a7 S) = vR_bond a1 a2 a3 a4 a5 a6 a7 S := iI_t (by omega)
    rw [e1, e3] at h0w
    omega
  · exact if_neg hc
theorem bad_extend {S X : Nat → Int → Int} (hI : iv9 S X) {b h : Int} (h0w : wI (aR_extend b h S) = -2000000000) : aN_extend b h S = S := by
  obtain ⟨hnL, hOP, hOF, hOT, hnO, hnY, hPA, hnE, hnR, hEF, hES, hEH, hnB, htn, hBL, hBE, hMC, hLP, hLH, hLU, hFL, hDP, hSH, hRE, hPR, hRA, hQ, hNet, hDP1, hdj, hXP, hRB, hRT, hRF, hRD, hRH, hRN, hVH, hBP, hBQ, hBX, hBF, hBT, hBC, hEC, hEP, hEX, hEn, hMW, hMU, hMW1, hBP1⟩ := hI
  by_cases hc : vC_extend b h S
  · exfalso
    have e1 : aR_extend b h S = vR_extend b h S := if_pos hc
    unfold vC_extend at hc
    have h9 := hBL b
    have r : -1000 ≤ vR_extend b h S ∧ vR_extend b h S ≤ 5000000 := by unfold vR_extend; omega
    have e3 : wI (vR_extend b h S) = vR_extend b h S := iI_t (by omega)
    rw [e1, e3] at h0w
    omega
  · exact if_neg hc
theorem bad_pass {S X : Nat → Int → Int} (hI : iv9 S X) {h : Int} (h0w : wI (aR_pass h S) = -2000000000) : aN_pass h S = S := by
  obtain ⟨hnL, hOP, hOF, hOT, hnO, hnY, hPA, hnE, hnR, hEF, hES, hEH, hnB, htn, hBL, hBE, hMC, hLP, hLH, hLU, hFL, hDP, hSH, hRE, hPR, hRA, hQ, hNet, hDP1, hdj, hXP, hRB, hRT, hRF, hRD, hRH, hRN, hVH, hBP, hBQ, hBX, hBF, hBT, hBC, hEC, hEP, hEX, hEn, hMW, hMU, hMW1, hBP1⟩ := hI
  by_cases hc : vC_pass h S
  · exfalso
    have e1 : aR_pass h S = vR_pass h S := if_pos hc
    unfold vC_pass at hc
    have r : -1000 ≤ vR_pass h S ∧ vR_pass h S ≤ 5000000 := by unfold vR_pass; omega
    have e3 : wI (vR_pass h S) = vR_pass h S := iI_t (by omega)
    rw [e1, e3] at h0w
    omega
  · exact if_neg hc
theorem bad_scenario {S X : Nat → Int → Int} (hI : iv9 S X) {q a b : Int} (h0w : wI (aR_scenario q a b S) = -2000000000) : aN_scenario q a b S = S := by
  obtain ⟨hnL, hOP, hOF, hOT, hnO, hnY, hPA, hnE, hnR, hEF, hES, hEH, hnB, htn, hBL, hBE, hMC, hLP, hLH, hLU, hFL, hDP, hSH, hRE, hPR, hRA, hQ, hNet, hDP1, hdj, hXP, hRB, hRT, hRF, hRD, hRH, hRN, hVH, hBP, hBQ, hBX, hBF, hBT, hBC, hEC, hEP, hEX, hEn, hMW, hMU, hMW1, hBP1⟩ := hI
  by_cases hc : vC_scenario q a b S
  · exfalso
    have e1 : aR_scenario q a b S = vR_scenario q a b S := if_pos hc
    unfold vC_scenario at hc
    have h9 := hMC q
    have r : -1000 ≤ vR_scenario q a b S ∧ vR_scenario q a b S ≤ 5000000 := by unfold vR_scenario; omega
    have e3 : wI (vR_scenario q a b S) = vR_scenario q a b S := iI_t (by omega)
    rw [e1, e3] at h0w
    omega
  · exact if_neg hc
theorem wJ_wI (z : Int) : wJ (wI z) = wI z := by
  have h := wI_r z
  exact jI_t (by omega)
