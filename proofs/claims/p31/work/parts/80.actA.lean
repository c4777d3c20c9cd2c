/-- what the act tells, and what is behind it -/
noncomputable def actR (v : Int) (S : Nat → Int → Int) : Int := if lo9 v 56 ≤ 6 then (wI (aR_loss (pe9 v) (ho9 v) (mu9 v) S)) else if lo9 v 56 ≤ 7 then (wI (aR_creep (if od9 v = 0 then on9 v else mu9 v) (if od9 v = 0 then lo9 (sh9 v 9) 9000 else v) S)) else if lo9 v 56 ≤ 12 then (wI (aR_choose (pe9 v) (ho9 v) (wI ((ho9 v) + (if od9 v = 0 then lo9 (sh9 v 3) 73 else fe9 v))) S)) else if lo9 v 56 ≤ 13 then (if lo9 (sh9 v 9) 2 = 0 then wI (aR_unchoose S) else wI (aR_quota (if od9 v = 0 then lo9 (sh9 v 9) 91 else mu9 v) S)) else if lo9 v 56 ≤ 16 then (wI (aR_layer (if od9 v = 0 then lo9 (sh9 v 5) 3000 else v) (if od9 v = 0 then 1 + (lo9 (sh9 v 8) 3000) else sh9 v 3) (if od9 v = 0 then 1 + (lo9 (sh9 v 3) 100) else mu9 v) (fe9 v) (if od9 v = 0 then lo9 (sh9 v 6) 2000 else mu9 v) (if od9 v = 0 then lo9 (sh9 v 11) 151 else mu9 v) S)) else if lo9 v 56 ≤ 20 then (wI (aR_part (la9 v) (on9 v) (if od9 v = 0 then lo9 (sh9 v 3) 60 else mu9 v) S)) else if lo9 v 56 ≤ 23 then (wI (aR_retro (on9 v) (ot9 v) (if od9 v = 0 then lo9 (sh9 v 5) 300 else v) (if od9 v = 0 then lo9 (sh9 v 8) 900 else sh9 v 3) S)) else if lo9 v 56 ≤ 25 then (wI (aR_station (if od9 v = 0 then lo9 (sh9 v 9) 16 else mu9 v) S)) else if lo9 v 56 ≤ 29 then (wI (aR_reading (on9 v) (ho9 v) (pe9 v) (if od9 v = 0 then lo9 (sh9 v 3) 10 else mu9 v) S)) else if lo9 v 56 ≤ 30 then (wI (aR_fails (on9 v) (ho9 v) S)) else if lo9 v 56 ≤ 32 then (wI (aR_bond (if od9 v = 0 then 1 + (mu9 v) else v) (pe9 v) (if od9 v = 0 then 1 + (lo9 (sh9 v 3) 65535) else mu9 v) (if od9 v = 0 then (ho9 v) / 2 else fe9 v) (ho9 v) (if od9 v = 0 then 1 + (lo9 (sh9 v 12) 9) else mu9 v) (if od9 v = 0 then 1 + (lo9 (sh9 v 10) 100) else mu9 v) S)) else if lo9 v 56 ≤ 33 then (wI (aR_extend (fe9 v) (if od9 v = 0 then 1 + (lo9 (sh9 v 3) 90) else mu9 v) S)) else if lo9 v 56 ≤ 34 then (wI (aR_pass (if od9 v = 0 then 1 + (lo9 (sh9 v 3) 60) else mu9 v) S)) else if lo9 v 56 ≤ 37 then (wI (aR_scenario (if od9 v = 0 then lo9 (sh9 v 3) 3 else fe9 v) (if od9 v = 0 then 1 + (lo9 (sh9 v 9) 99) else mu9 v) (if od9 v = 0 then lo9 (sh9 v 5) 9000 else v) S)) else if lo9 v 56 ≤ 39 then (wI (aR_occurrence (on9 v) (if od9 v = 0 then lo9 (sh9 v 3) 6 else fe9 v) S)) else if lo9 v 56 ≤ 41 then (wI (aR_hit (la9 v) (on9 v) (if od9 v = 0 then lo9 (sh9 v 3) 5 else fe9 v) S)) else if lo9 v 56 ≤ 44 then (wI (aR_sum (if od9 v = 0 then lo9 (sh9 v 3) 8 else fe9 v) S)) else if lo9 v 56 ≤ 46 then (wI (aR_reinsurer (if od9 v = 0 then lo9 (sh9 v 3) 6 else ot9 v) (if od9 v = 0 then lo9 (sh9 v 12) 3 else fe9 v) S)) else if lo9 v 56 ≤ 47 then (wI (vR_rounds S)) else if lo9 v 56 ≤ 48 then (wI (aR_best (pe9 v) S)) else if lo9 v 56 ≤ 49 then (if lo9 (sh9 v 9) 4 = 0 then wI (aR_bestAnew (pe9 v) S) else wI (vR_hour S)) else if lo9 v 56 ≤ 51 then (wI (aR_ofBond (fe9 v) (if od9 v = 0 then lo9 (sh9 v 3) 6 else mu9 v) S)) else if lo9 v 56 ≤ 52 then (wI (vR_basis S)) else if lo9 v 56 ≤ 53 then (aR_price (la9 v) (if od9 v = 0 then lo9 (sh9 v 3) 3 else fe9 v) S) else if lo9 v 56 ≤ 54 then (wI (aR_tail (la9 v) (if od9 v = 0 then lo9 (sh9 v 3) 3 else fe9 v) (if od9 v = 0 then lo9 (sh9 v 9) 100 else mu9 v) S)) else (aR_dearest (la9 v) (if an9 (sh9 v 3) 1 = 1 then 1 else 0) S)
noncomputable def actN (v : Int) (S : Nat → Int → Int) : Nat → Int → Int := if lo9 v 56 ≤ 6 then (aN_loss (pe9 v) (ho9 v) (mu9 v) S) else if lo9 v 56 ≤ 7 then (aN_creep (if od9 v = 0 then on9 v else mu9 v) (if od9 v = 0 then lo9 (sh9 v 9) 9000 else v) S) else if lo9 v 56 ≤ 12 then (aN_choose (pe9 v) (ho9 v) (wI ((ho9 v) + (if od9 v = 0 then lo9 (sh9 v 3) 73 else fe9 v))) S) else if lo9 v 56 ≤ 13 then (if lo9 (sh9 v 9) 2 = 0 then aN_unchoose S else aN_quota (if od9 v = 0 then lo9 (sh9 v 9) 91 else mu9 v) S) else if lo9 v 56 ≤ 16 then (aN_layer (if od9 v = 0 then lo9 (sh9 v 5) 3000 else v) (if od9 v = 0 then 1 + (lo9 (sh9 v 8) 3000) else sh9 v 3) (if od9 v = 0 then 1 + (lo9 (sh9 v 3) 100) else mu9 v) (fe9 v) (if od9 v = 0 then lo9 (sh9 v 6) 2000 else mu9 v) (if od9 v = 0 then lo9 (sh9 v 11) 151 else mu9 v) S) else if lo9 v 56 ≤ 20 then (aN_part (la9 v) (on9 v) (if od9 v = 0 then lo9 (sh9 v 3) 60 else mu9 v) S) else if lo9 v 56 ≤ 23 then (aN_retro (on9 v) (ot9 v) (if od9 v = 0 then lo9 (sh9 v 5) 300 else v) (if od9 v = 0 then lo9 (sh9 v 8) 900 else sh9 v 3) S) else if lo9 v 56 ≤ 25 then (aN_station (if od9 v = 0 then lo9 (sh9 v 9) 16 else mu9 v) S) else if lo9 v 56 ≤ 29 then (aN_reading (on9 v) (ho9 v) (pe9 v) (if od9 v = 0 then lo9 (sh9 v 3) 10 else mu9 v) S) else if lo9 v 56 ≤ 30 then (aN_fails (on9 v) (ho9 v) S) else if lo9 v 56 ≤ 32 then (aN_bond (if od9 v = 0 then 1 + (mu9 v) else v) (pe9 v) (if od9 v = 0 then 1 + (lo9 (sh9 v 3) 65535) else mu9 v) (if od9 v = 0 then (ho9 v) / 2 else fe9 v) (ho9 v) (if od9 v = 0 then 1 + (lo9 (sh9 v 12) 9) else mu9 v) (if od9 v = 0 then 1 + (lo9 (sh9 v 10) 100) else mu9 v) S) else if lo9 v 56 ≤ 33 then (aN_extend (fe9 v) (if od9 v = 0 then 1 + (lo9 (sh9 v 3) 90) else mu9 v) S) else if lo9 v 56 ≤ 34 then (aN_pass (if od9 v = 0 then 1 + (lo9 (sh9 v 3) 60) else mu9 v) S) else if lo9 v 56 ≤ 37 then (aN_scenario (if od9 v = 0 then lo9 (sh9 v 3) 3 else fe9 v) (if od9 v = 0 then 1 + (lo9 (sh9 v 9) 99) else mu9 v) (if od9 v = 0 then lo9 (sh9 v 5) 9000 else v) S) else if lo9 v 56 ≤ 39 then S else if lo9 v 56 ≤ 41 then S else if lo9 v 56 ≤ 44 then S else if lo9 v 56 ≤ 46 then S else if lo9 v 56 ≤ 47 then S else if lo9 v 56 ≤ 48 then S else if lo9 v 56 ≤ 49 then (if lo9 (sh9 v 9) 4 = 0 then S else S) else if lo9 v 56 ≤ 51 then S else if lo9 v 56 ≤ 52 then S else if lo9 v 56 ≤ 53 then S else if lo9 v 56 ≤ 54 then S else S
theorem act_0 {v : Int} {S : Nat → Int → Int} (hs : 0 ≤ lo9 v 56 ∧ lo9 v 56 ≤ 6) : actR v S = wI (aR_loss (pe9 v) (ho9 v) (mu9 v) S) ∧ actN v S = aN_loss (pe9 v) (ho9 v) (mu9 v) S := by
  refine ⟨?_, ?_⟩
  · unfold actR; rw [if_pos (by omega)]
  · unfold actN; rw [if_pos (by omega)]
theorem act_1 {v : Int} {S : Nat → Int → Int} (hs : 7 ≤ lo9 v 56 ∧ lo9 v 56 ≤ 7) : actR v S = wI (aR_creep (if od9 v = 0 then on9 v else mu9 v) (if od9 v = 0 then lo9 (sh9 v 9) 9000 else v) S) ∧ actN v S = aN_creep (if od9 v = 0 then on9 v else mu9 v) (if od9 v = 0 then lo9 (sh9 v 9) 9000 else v) S := by
  refine ⟨?_, ?_⟩
  · unfold actR; rw [if_neg (by omega), if_pos (by omega)]
  · unfold actN; rw [if_neg (by omega), if_pos (by omega)]
theorem act_2 {v : Int} {S : Nat → Int → Int} (hs : 8 ≤ lo9 v 56 ∧ lo9 v 56 ≤ 12) : actR v S = wI (aR_choose (pe9 v) (ho9 v) (wI ((ho9 v) + (if od9 v = 0 then lo9 (sh9 v 3) 73 else fe9 v))) S) ∧ actN v S = aN_choose (pe9 v) (ho9 v) (wI ((ho9 v) + (if od9 v = 0 then lo9 (sh9 v 3) 73 else fe9 v))) S := by
  refine ⟨?_, ?_⟩
  · unfold actR; rw [if_neg (by omega), if_neg (by omega), if_pos (by omega)]
  · unfold actN; rw [if_neg (by omega), if_neg (by omega), if_pos (by omega)]
theorem act_3b {v : Int} {S : Nat → Int → Int} (hs : 13 ≤ lo9 v 56 ∧ lo9 v 56 ≤ 13) (hc : ¬ (¬ lo9 (sh9 v 9) 2 = 0)) : actR v S = wI (aR_unchoose S) ∧ actN v S = aN_unchoose S := by
  have h9 := Classical.not_not.mp hc
  refine ⟨?_, ?_⟩
  · unfold actR; rw [if_neg (by omega), if_neg (by omega), if_neg (by omega), if_pos (by omega), if_pos h9]
  · unfold actN; rw [if_neg (by omega), if_neg (by omega), if_neg (by omega), if_pos (by omega), if_pos h9]
theorem act_3a {v : Int} {S : Nat → Int → Int} (hs : 13 ≤ lo9 v 56 ∧ lo9 v 56 ≤ 13) (hc : ¬ lo9 (sh9 v 9) 2 = 0) : actR v S = wI (aR_quota (if od9 v = 0 then lo9 (sh9 v 9) 91 else mu9 v) S) ∧ actN v S = aN_quota (if od9 v = 0 then lo9 (sh9 v 9) 91 else mu9 v) S := by
  refine ⟨?_, ?_⟩
  · unfold actR; rw [if_neg (by omega), if_neg (by omega), if_neg (by omega), if_pos (by omega), if_neg hc]
  · unfold actN; rw [if_neg (by omega), if_neg (by omega), if_neg (by omega), if_pos (by omega), if_neg hc]
theorem act_4 {v : Int} {S : Nat → Int → Int} (hs : 14 ≤ lo9 v 56 ∧ lo9 v 56 ≤ 16) : actR v S = wI (aR_layer (if od9 v = 0 then lo9 (sh9 v 5) 3000 else v) (if od9 v = 0 then 1 + (lo9 (sh9 v 8) 3000) else sh9 v 3) (if od9 v = 0 then 1 + (lo9 (sh9 v 3) 100) else mu9 v) (fe9 v) (if od9 v = 0 then lo9 (sh9 v 6) 2000 else mu9 v) (if od9 v = 0 then lo9 (sh9 v 11) 151 else mu9 v) S) ∧ actN v S = aN_layer (if od9 v = 0 then lo9 (sh9 v 5) 3000 else v) (if od9 v = 0 then 1 + (lo9 (sh9 v 8) 3000) else sh9 v 3) (if od9 v = 0 then 1 + (lo9 (sh9 v 3) 100) else mu9 v) (fe9 v) (if od9 v = 0 then lo9 (sh9 v 6) 2000 else mu9 v) (if od9 v = 0 then lo9 (sh9 v 11) 151 else mu9 v) S := by
  refine ⟨?_, ?_⟩
  · unfold actR; rw [if_neg (by omega), if_neg (by omega), if_neg (by omega), if_neg (by omega), if_pos (by omega)]
  · unfold actN; rw [if_neg (by omega), if_neg (by omega), if_neg (by omega), if_neg (by omega), if_pos (by omega)]
theorem act_5 {v : Int} {S : Nat → Int → Int} (hs : 17 ≤ lo9 v 56 ∧ lo9 v 56 ≤ 20) : actR v S = wI (aR_part (la9 v) (on9 v) (if od9 v = 0 then lo9 (sh9 v 3) 60 else mu9 v) S) ∧ actN v S = aN_part (la9 v) (on9 v) (if od9 v = 0 then lo9 (sh9 v 3) 60 else mu9 v) S := by
  refine ⟨?_, ?_⟩
  · unfold actR; rw [if_neg (by omega), if_neg (by omega), if_neg (by omega), if_neg (by omega), if_neg (by omega), if_pos (by omega)]
  · unfold actN; rw [if_neg (by omega), if_neg (by omega), if_neg (by omega), if_neg (by omega), if_neg (by omega), if_pos (by omega)]
theorem act_6 {v : Int} {S : Nat → Int → Int} (hs : 21 ≤ lo9 v 56 ∧ lo9 v 56 ≤ 23) : actR v S = wI (aR_retro (on9 v) (ot9 v) (if od9 v = 0 then lo9 (sh9 v 5) 300 else v) (if od9 v = 0 then lo9 (sh9 v 8) 900 else sh9 v 3) S) ∧ actN v S = aN_retro (on9 v) (ot9 v) (if od9 v = 0 then lo9 (sh9 v 5) 300 else v) (if od9 v = 0 then lo9 (sh9 v 8) 900 else sh9 v 3) S := by
  refine ⟨?_, ?_⟩
  · unfold actR; rw [if_neg (by omega), if_neg (by omega), if_neg (by omega), if_neg (by omega), if_neg (by omega), if_neg (by omega), if_pos (by omega)]
  · unfold actN; rw [if_neg (by omega), if_neg (by omega), if_neg (by omega), if_neg (by omega), if_neg (by omega), if_neg (by omega), if_pos (by omega)]
theorem act_7 {v : Int} {S : Nat → Int → Int} (hs : 24 ≤ lo9 v 56 ∧ lo9 v 56 ≤ 25) : actR v S = wI (aR_station (if od9 v = 0 then lo9 (sh9 v 9) 16 else mu9 v) S) ∧ actN v S = aN_station (if od9 v = 0 then lo9 (sh9 v 9) 16 else mu9 v) S := by
  refine ⟨?_, ?_⟩
  · unfold actR; rw [if_neg (by omega), if_neg (by omega), if_neg (by omega), if_neg (by omega), if_neg (by omega), if_neg (by omega), if_neg (by omega), if_pos (by omega)]
  · unfold actN; rw [if_neg (by omega), if_neg (by omega), if_neg (by omega), if_neg (by omega), if_neg (by omega), if_neg (by omega), if_neg (by omega), if_pos (by omega)]
theorem act_8 {v : Int} {S : Nat → Int → Int} (hs : 26 ≤ lo9 v 56 ∧ lo9 v 56 ≤ 29) : actR v S = wI (aR_reading (on9 v) (ho9 v) (pe9 v) (if od9 v = 0 then lo9 (sh9 v 3) 10 else mu9 v) S) ∧ actN v S = aN_reading (on9 v) (ho9 v) (pe9 v) (if od9 v = 0 then lo9 (sh9 v 3) 10 else mu9 v) S := by
  refine ⟨?_, ?_⟩
  · unfold actR; rw [if_neg (by omega), if_neg (by omega), if_neg (by omega), if_neg (by omega), if_neg (by omega), if_neg (by omega), if_neg (by omega), if_neg (by omega), if_pos (by omega)]
  · unfold actN; rw [if_neg (by omega), if_neg (by omega), if_neg (by omega), if_neg (by omega), if_neg (by omega), if_neg (by omega), if_neg (by omega), if_neg (by omega), if_pos (by omega)]
theorem act_9 {v : Int} {S : Nat → Int → Int} (hs : 30 ≤ lo9 v 56 ∧ lo9 v 56 ≤ 30) : actR v S = wI (aR_fails (on9 v) (ho9 v) S) ∧ actN v S = aN_fails (on9 v) (ho9 v) S := by
  refine ⟨?_, ?_⟩
  · unfold actR; rw [if_neg (by omega), if_neg (by omega), if_neg (by omega), if_neg (by omega), if_neg (by omega), if_neg (by omega), if_neg (by omega), if_neg (by omega), if_neg (by omega), if_pos (by omega)]
  · unfold actN; rw [if_neg (by omega), if_neg (by omega), if_neg (by omega), if_neg (by omega), if_neg (by omega), if_neg (by omega), if_neg (by omega), if_neg (by omega), if_neg (by omega), if_pos (by omega)]
theorem act_10 {v : Int} {S : Nat → Int → Int} (hs : 31 ≤ lo9 v 56 ∧ lo9 v 56 ≤ 32) : actR v S = wI (aR_bond (if od9 v = 0 then 1 + (mu9 v) else v) (pe9 v) (if od9 v = 0 then 1 + (lo9 (sh9 v 3) 65535) else mu9 v) (if od9 v = 0 then (ho9 v) / 2 else fe9 v) (ho9 v) (if od9 v = 0 then 1 + (lo9 (sh9 v 12) 9) else mu9 v) (if od9 v = 0 then 1 + (lo9 (sh9 v 10) 100) else mu9 v) S) ∧ actN v S = aN_bond (if od9 v = 0 then 1 + (mu9 v) else v) (pe9 v) (if od9 v = 0 then 1 + (lo9 (sh9 v 3) 65535) else mu9 v) (if od9 v = 0 then (ho9 v) / 2 else fe9 v) (ho9 v) (if od9 v = 0 then 1 + (lo9 (sh9 v 12) 9) else mu9 v) (if od9 v = 0 then 1 + (lo9 (sh9 v 10) 100) else mu9 v) S := by
  refine ⟨?_, ?_⟩
  · unfold actR; rw [if_neg (by omega), if_neg (by omega), if_neg (by omega), if_neg (by omega), if_neg (by omega), if_neg (by omega), if_neg (by omega), if_neg (by omega), if_neg (by omega), if_neg (by omega), if_pos (by omega)]
  · unfold actN; rw [if_neg (by omega), if_neg (by omega), if_neg (by omega), if_neg (by omega), if_neg (by omega), if_neg (by omega), if_neg (by omega), if_neg (by omega), if_neg (by omega), if_neg (by omega), if_pos (by omega)]
theorem act_11 {v : Int} {S : Nat → Int → Int} (hs : 33 ≤ lo9 v 56 ∧ lo9 v 56 ≤ 33) : actR v S = wI (aR_extend (fe9 v) (if od9 v = 0 then 1 + (lo9 (sh9 v 3) 90) else mu9 v) S) ∧ actN v S = aN_extend (fe9 v) (if od9 v = 0 then 1 + (lo9 (sh9 v 3) 90) else mu9 v) S := by
  refine ⟨?_, ?_⟩
  · unfold actR; rw [if_neg (by omega), if_neg (by omega), if_neg (by omega), if_neg (by omega), if_neg (by omega), if_neg (by omega), if_neg (by omega), if_neg (by omega), if_neg (by omega), if_neg (by omega), if_neg (by omega), if_pos (by omega)]
  · unfold actN; rw [if_neg (by omega), if_neg (by omega), if_neg (by omega), if_neg (by omega), if_neg (by omega), if_neg (by omega), if_neg (by omega), if_neg (by omega), if_neg (by omega), if_neg (by omega), if_neg (by omega), if_pos (by omega)]
theorem act_12 {v : Int} {S : Nat → Int → Int} (hs : 34 ≤ lo9 v 56 ∧ lo9 v 56 ≤ 34) : actR v S = wI (aR_pass (if od9 v = 0 then 1 + (lo9 (sh9 v 3) 60) else mu9 v) S) ∧ actN v S = aN_pass (if od9 v = 0 then 1 + (lo9 (sh9 v 3) 60) else mu9 v) S := by
  refine ⟨?_, ?_⟩
  · unfold actR; rw [if_neg (by omega), if_neg (by omega), if_neg (by omega), if_neg (by omega), if_neg (by omega), if_neg (by omega), if_neg (by omega), if_neg (by omega), if_neg (by omega), if_neg (by omega), if_neg (by omega), if_neg (by omega), if_pos (by omega)]
  · unfold actN; rw [if_neg (by omega), if_neg (by omega), if_neg (by omega), if_neg (by omega), if_neg (by omega), if_neg (by omega), if_neg (by omega), if_neg (by omega), if_neg (by omega), if_neg (by omega), if_neg (by omega), if_neg (by omega), if_pos (by omega)]
theorem act_13 {v : Int} {S : Nat → Int → Int} (hs : 35 ≤ lo9 v 56 ∧ lo9 v 56 ≤ 37) : actR v S = wI (aR_scenario (if od9 v = 0 then lo9 (sh9 v 3) 3 else fe9 v) (if od9 v = 0 then 1 + (lo9 (sh9 v 9) 99) else mu9 v) (if od9 v = 0 then lo9 (sh9 v 5) 9000 else v) S) ∧ actN v S = aN_scenario (if od9 v = 0 then lo9 (sh9 v 3) 3 else fe9 v) (if od9 v = 0 then 1 + (lo9 (sh9 v 9) 99) else mu9 v) (if od9 v = 0 then lo9 (sh9 v 5) 9000 else v) S := by
  refine ⟨?_, ?_⟩
  · unfold actR; rw [if_neg (by omega), if_neg (by omega), if_neg (by omega), if_neg (by omega), if_neg (by omega), if_neg (by omega), if_neg (by omega), if_neg (by omega), if_neg (by omega), if_neg (by omega), if_neg (by omega), if_neg (by omega), if_neg (by omega), if_pos (by omega)]
  · unfold actN; rw [if_neg (by omega), if_neg (by omega), if_neg (by omega), if_neg (by omega), if_neg (by omega), if_neg (by omega), if_neg (by omega), if_neg (by omega), if_neg (by omega), if_neg (by omega), if_neg (by omega), if_neg (by omega), if_neg (by omega), if_pos (by omega)]
theorem act_14 {v : Int} {S : Nat → Int → Int} (hs : 38 ≤ lo9 v 56 ∧ lo9 v 56 ≤ 39) : actR v S = wI (aR_occurrence (on9 v) (if od9 v = 0 then lo9 (sh9 v 3) 6 else fe9 v) S) ∧ actN v S = S := by
  refine ⟨?_, ?_⟩
  · unfold actR; rw [if_neg (by omega), if_neg (by omega), if_neg (by omega), if_neg (by omega), if_neg (by omega), if_neg (by omega), if_neg (by omega), if_neg (by omega), if_neg (by omega), if_neg (by omega), if_neg (by omega), if_neg (by omega), if_neg (by omega), if_neg (by omega), if_pos (by omega)]
  · unfold actN; rw [if_neg (by omega), if_neg (by omega), if_neg (by omega), if_neg (by omega), if_neg (by omega), if_neg (by omega), if_neg (by omega), if_neg (by omega), if_neg (by omega), if_neg (by omega), if_neg (by omega), if_neg (by omega), if_neg (by omega), if_neg (by omega), if_pos (by omega)]
theorem act_15 {v : Int} {S : Nat → Int → Int} (hs : 40 ≤ lo9 v 56 ∧ lo9 v 56 ≤ 41) : actR v S = wI (aR_hit (la9 v) (on9 v) (if od9 v = 0 then lo9 (sh9 v 3) 5 else fe9 v) S) ∧ actN v S = S := by
  refine ⟨?_, ?_⟩
  · unfold actR; rw [if_neg (by omega), if_neg (by omega), if_neg (by omega), if_neg (by omega), if_neg (by omega), if_neg (by omega), if_neg (by omega), if_neg (by omega), if_neg (by omega), if_neg (by omega), if_neg (by omega), if_neg (by omega), if_neg (by omega), if_neg (by omega), if_neg (by omega), if_pos (by omega)]
  · unfold actN; rw [if_neg (by omega), if_neg (by omega), if_neg (by omega), if_neg (by omega), if_neg (by omega), if_neg (by omega), if_neg (by omega), if_neg (by omega), if_neg (by omega), if_neg (by omega), if_neg (by omega), if_neg (by omega), if_neg (by omega), if_neg (by omega), if_neg (by omega), if_pos (by omega)]
theorem act_16 {v : Int} {S : Nat → Int → Int} (hs : 42 ≤ lo9 v 56 ∧ lo9 v 56 ≤ 44) : actR v S = wI (aR_sum (if od9 v = 0 then lo9 (sh9 v 3) 8 else fe9 v) S) ∧ actN v S = S := by
  refine ⟨?_, ?_⟩
  · unfold actR; rw [if_neg (by omega), if_neg (by omega), if_neg (by omega), if_neg (by omega), if_neg (by omega), if_neg (by omega), if_neg (by omega), if_neg (by omega), if_neg (by omega), if_neg (by omega), if_neg (by omega), if_neg (by omega), if_neg (by omega), if_neg (by omega), if_neg (by omega), if_neg (by omega), if_pos (by omega)]
  · unfold actN; rw [if_neg (by omega), if_neg (by omega), if_neg (by omega), if_neg (by omega), if_neg (by omega), if_neg (by omega), if_neg (by omega), if_neg (by omega), if_neg (by omega), if_neg (by omega), if_neg (by omega), if_neg (by omega), if_neg (by omega), if_neg (by omega), if_neg (by omega), if_neg (by omega), if_pos (by omega)]
theorem act_17 {v : Int} {S : Nat → Int → Int} (hs : 45 ≤ lo9 v 56 ∧ lo9 v 56 ≤ 46) : actR v S = wI (aR_reinsurer (if od9 v = 0 then lo9 (sh9 v 3) 6 else ot9 v) (if od9 v = 0 then lo9 (sh9 v 12) 3 else fe9 v) S) ∧ actN v S = S := by
  refine ⟨?_, ?_⟩
  · unfold actR; rw [if_neg (by omega), if_neg (by omega), if_neg (by omega), if_neg (by omega), if_neg (by omega), if_neg (by omega), if_neg (by omega), if_neg (by omega), if_neg (by omega), if_neg (by omega), if_neg (by omega), if_neg (by omega), if_neg (by omega), if_neg (by omega), if_neg (by omega), if_neg (by omega), if_neg (by omega), if_pos (by omega)]
  · unfold actN; rw [if_neg (by omega), if_neg (by omega), if_neg (by omega), if_neg (by omega), if_neg (by omega), if_neg (by omega), if_neg (by omega), if_neg (by omega), if_neg (by omega), if_neg (by omega), if_neg (by omega), if_neg (by omega), if_neg (by omega), if_neg (by omega), if_neg (by omega), if_neg (by omega), if_neg (by omega), if_pos (by omega)]
theorem act_18 {v : Int} {S : Nat → Int → Int} (hs : 47 ≤ lo9 v 56 ∧ lo9 v 56 ≤ 47) : actR v S = wI (vR_rounds S) ∧ actN v S = S := by
  refine ⟨?_, ?_⟩
  · unfold actR; rw [if_neg (by omega), if_neg (by omega), if_neg (by omega), if_neg (by omega), if_neg (by omega), if_neg (by omega), if_neg (by omega), if_neg (by omega), if_neg (by omega), if_neg (by omega), if_neg (by omega), if_neg (by omega), if_neg (by omega), if_neg (by omega), if_neg (by omega), if_neg (by omega), if_neg (by omega), if_neg (by omega), if_pos (by omega)]
  · unfold actN; rw [if_neg (by omega), if_neg (by omega), if_neg (by omega), if_neg (by omega), if_neg (by omega), if_neg (by omega), if_neg (by omega), if_neg (by omega), if_neg (by omega), if_neg (by omega), if_neg (by omega), if_neg (by omega), if_neg (by omega), if_neg (by omega), if_neg (by omega), if_neg (by omega), if_neg (by omega), if_neg (by omega), if_pos (by omega)]
theorem act_19 {v : Int} {S : Nat → Int → Int} (hs : 48 ≤ lo9 v 56 ∧ lo9 v 56 ≤ 48) : actR v S = wI (aR_best (pe9 v) S) ∧ actN v S = S := by
  refine ⟨?_, ?_⟩
  · unfold actR; rw [if_neg (by omega), if_neg (by omega), if_neg (by omega), if_neg (by omega), if_neg (by omega), if_neg (by omega), if_neg (by omega), if_neg (by omega), if_neg (by omega), if_neg (by omega), if_neg (by omega), if_neg (by omega), if_neg (by omega), if_neg (by omega), if_neg (by omega), if_neg (by omega), if_neg (by omega), if_neg (by omega), if_neg (by omega), if_pos (by omega)]
  · unfold actN; rw [if_neg (by omega), if_neg (by omega), if_neg (by omega), if_neg (by omega), if_neg (by omega), if_neg (by omega), if_neg (by omega), if_neg (by omega), if_neg (by omega), if_neg (by omega), if_neg (by omega), if_neg (by omega), if_neg (by omega), if_neg (by omega), if_neg (by omega), if_neg (by omega), if_neg (by omega), if_neg (by omega), if_neg (by omega), if_pos (by omega)]
theorem act_20b {v : Int} {S : Nat → Int → Int} (hs : 49 ≤ lo9 v 56 ∧ lo9 v 56 ≤ 49) (hc : ¬ (¬ lo9 (sh9 v 9) 4 = 0)) : actR v S = wI (aR_bestAnew (pe9 v) S) ∧ actN v S = S := by
  have h9 := Classical.not_not.mp hc
  refine ⟨?_, ?_⟩
  · unfold actR; rw [if_neg (by omega), if_neg (by omega), if_neg (by omega), if_neg (by omega), if_neg (by omega), if_neg (by omega), if_neg (by omega), if_neg (by omega), if_neg (by omega), if_neg (by omega), if_neg (by omega), if_neg (by omega), if_neg (by omega), if_neg (by omega), if_neg (by omega), if_neg (by omega), if_neg (by omega), if_neg (by omega), if_neg (by omega), if_neg (by omega), if_pos (by omega), if_pos h9]
  · unfold actN; rw [if_neg (by omega), if_neg (by omega), if_neg (by omega), if_neg (by omega), if_neg (by omega), if_neg (by omega), if_neg (by omega), if_neg (by omega), if_neg (by omega), if_neg (by omega), if_neg (by omega), if_neg (by omega), if_neg (by omega), if_neg (by omega), if_neg (by omega), if_neg (by omega), if_neg (by omega), if_neg (by omega), if_neg (by omega), if_neg (by omega), if_pos (by omega), if_pos h9]
theorem act_20a {v : Int} {S : Nat → Int → Int} (hs : 49 ≤ lo9 v 56 ∧ lo9 v 56 ≤ 49) (hc : ¬ lo9 (sh9 v 9) 4 = 0) : actR v S = wI (vR_hour S) ∧ actN v S = S := by
  refine ⟨?_, ?_⟩
  · unfold actR; rw [if_neg (by omega), if_neg (by omega), if_neg (by omega), if_neg (by omega), if_neg (by omega), if_neg (by omega), if_neg (by omega), if_neg (by omega), if_neg (by omega), if_neg (by omega), if_neg (by omega), if_neg (by omega), if_neg (by omega), if_neg (by omega), if_neg (by omega), if_neg (by omega), if_neg (by omega), if_neg (by omega), if_neg (by omega), if_neg (by omega), if_pos (by omega), if_neg hc]
  · unfold actN; rw [if_neg (by omega), if_neg (by omega), if_neg (by omega), if_neg (by omega), if_neg (by omega), if_neg (by omega), if_neg (by omega), if_neg (by omega), if_neg (by omega), if_neg (by omega), if_neg (by omega), if_neg (by omega), if_neg (by omega), if_neg (by omega), if_neg (by omega), if_neg (by omega), if_neg (by omega), if_neg (by omega), if_neg (by omega), if_neg (by omega), if_pos (by omega), if_neg hc]
theorem act_21 {v : Int} {S : Nat → Int → Int} (hs : 50 ≤ lo9 v 56 ∧ lo9 v 56 ≤ 51) : actR v S = wI (aR_ofBond (fe9 v) (if od9 v = 0 then lo9 (sh9 v 3) 6 else mu9 v) S) ∧ actN v S = S := by
  refine ⟨?_, ?_⟩
  · unfold actR; rw [if_neg (by omega), if_neg (by omega), if_neg (by omega), if_neg (by omega), if_neg (by omega), if_neg (by omega), if_neg (by omega), if_neg (by omega), if_neg (by omega), if_neg (by omega), if_neg (by omega), if_neg (by omega), if_neg (by omega), if_neg (by omega), if_neg (by omega), if_neg (by omega), if_neg (by omega), if_neg (by omega), if_neg (by omega), if_neg (by omega), if_neg (by omega), if_pos (by omega)]
  · unfold actN; rw [if_neg (by omega), if_neg (by omega), if_neg (by omega), if_neg (by omega), if_neg (by omega), if_neg (by omega), if_neg (by omega), if_neg (by omega), if_neg (by omega), if_neg (by omega), if_neg (by omega), if_neg (by omega), if_neg (by omega), if_neg (by omega), if_neg (by omega), if_neg (by omega), if_neg (by omega), if_neg (by omega), if_neg (by omega), if_neg (by omega), if_neg (by omega), if_pos (by omega)]
theorem act_22 {v : Int} {S : Nat → Int → Int} (hs : 52 ≤ lo9 v 56 ∧ lo9 v 56 ≤ 52) : actR v S = wI (vR_basis S) ∧ actN v S = S := by
  refine ⟨?_, ?_⟩
  · unfold actR; rw [if_neg (by omega), if_neg (by omega), if_neg (by omega), if_neg (by omega), if_neg (by omega), if_neg (by omega), if_neg (by omega), if_neg (by omega), if_neg (by omega), if_neg (by omega), if_neg (by omega), if_neg (by omega), if_neg (by omega), if_neg (by omega), if_neg (by omega), if_neg (by omega), if_neg (by omega), if_neg (by omega), if_neg (by omega), if_neg (by omega), if_neg (by omega), if_neg (by omega), if_pos (by omega)]
  · unfold actN; rw [if_neg (by omega), if_neg (by omega), if_neg (by omega), if_neg (by omega), if_neg (by omega), if_neg (by omega), if_neg (by omega), if_neg (by omega), if_neg (by omega), if_neg (by omega), if_neg (by omega), if_neg (by omega), if_neg (by omega), if_neg (by omega), if_neg (by omega), if_neg (by omega), if_neg (by omega), if_neg (by omega), if_neg (by omega), if_neg (by omega), if_neg (by omega), if_neg (by omega), if_pos (by omega)]
theorem act_23 {v : Int} {S : Nat → Int → Int} (hs : 53 ≤ lo9 v 56 ∧ lo9 v 56 ≤ 53) : actR v S = aR_price (la9 v) (if od9 v = 0 then lo9 (sh9 v 3) 3 else fe9 v) S ∧ actN v S = S := by
  refine ⟨?_, ?_⟩
  · unfold actR; rw [if_neg (by omega), if_neg (by omega), if_neg (by omega), if_neg (by omega), if_neg (by omega), if_neg (by omega), if_neg (by omega), if_neg (by omega), if_neg (by omega), if_neg (by omega), if_neg (by omega), if_neg (by omega), if_neg (by omega), if_neg (by omega), if_neg (by omega), if_neg (by omega), if_neg (by omega), if_neg (by omega), if_neg (by omega), if_neg (by omega), if_neg (by omega), if_neg (by omega), if_neg (by omega), if_pos (by omega)]
  · unfold actN; rw [if_neg (by omega), if_neg (by omega), if_neg (by omega), if_neg (by omega), if_neg (by omega), if_neg (by omega), if_neg (by omega), if_neg (by omega), if_neg (by omega), if_neg (by omega), if_neg (by omega), if_neg (by omega), if_neg (by omega), if_neg (by omega), if_neg (by omega), if_neg (by omega), if_neg (by omega), if_neg (by omega), if_neg (by omega), if_neg (by omega), if_neg (by omega), if_neg (by omega), if_neg (by omega), if_pos (by omega)]
theorem act_24 {v : Int} {S : Nat → Int → Int} (hs : 54 ≤ lo9 v 56 ∧ lo9 v 56 ≤ 54) : actR v S = wI (aR_tail (la9 v) (if od9 v = 0 then lo9 (sh9 v 3) 3 else fe9 v) (if od9 v = 0 then lo9 (sh9 v 9) 100 else mu9 v) S) ∧ actN v S = S := by
  refine ⟨?_, ?_⟩
  · unfold actR; rw [if_neg (by omega), if_neg (by omega), if_neg (by omega), if_neg (by omega), if_neg (by omega), if_neg (by omega), if_neg (by omega), if_neg (by omega), if_neg (by omega), if_neg (by omega), if_neg (by omega), if_neg (by omega), if_neg (by omega), if_neg (by omega), if_neg (by omega), if_neg (by omega), if_neg (by omega), if_neg (by omega), if_neg (by omega), if_neg (by omega), if_neg (by omega), if_neg (by omega), if_neg (by omega), if_neg (by omega), if_pos (by omega)]
  · unfold actN; rw [if_neg (by omega), if_neg (by omega), if_neg (by omega), if_neg (by omega), if_neg (by omega), if_neg (by omega), if_neg (by omega), if_neg (by omega), if_neg (by omega), if_neg (by omega), if_neg (by omega), if_neg (by omega), if_neg (by omega), if_neg (by omega), if_neg (by omega), if_neg (by omega), if_neg (by omega), if_neg (by omega), if_neg (by omega), if_neg (by omega), if_neg (by omega), if_neg (by omega), if_neg (by omega), if_neg (by omega), if_pos (by omega)]
theorem act_25 {v : Int} {S : Nat → Int → Int} (hs : 55 ≤ lo9 v 56 ∧ lo9 v 56 ≤ 55) : actR v S = aR_dearest (la9 v) (if an9 (sh9 v 3) 1 = 1 then 1 else 0) S ∧ actN v S = S := by
  refine ⟨?_, ?_⟩
  · unfold actR; rw [if_neg (by omega), if_neg (by omega), if_neg (by omega), if_neg (by omega), if_neg (by omega), if_neg (by omega), if_neg (by omega), if_neg (by omega), if_neg (by omega), if_neg (by omega), if_neg (by omega), if_neg (by omega), if_neg (by omega), if_neg (by omega), if_neg (by omega), if_neg (by omega), if_neg (by omega), if_neg (by omega), if_neg (by omega), if_neg (by omega), if_neg (by omega), if_neg (by omega), if_neg (by omega), if_neg (by omega), if_neg (by omega)]
  · unfold actN; rw [if_neg (by omega), if_neg (by omega), if_neg (by omega), if_neg (by omega), if_neg (by omega), if_neg (by omega), if_neg (by omega), if_neg (by omega), if_neg (by omega), if_neg (by omega), if_neg (by omega), if_neg (by omega), if_neg (by omega), if_neg (by omega), if_neg (by omega), if_neg (by omega), if_neg (by omega), if_neg (by omega), if_neg (by omega), if_neg (by omega), if_neg (by omega), if_neg (by omega), if_neg (by omega), if_neg (by omega), if_neg (by omega)]

set_option maxHeartbeats 4000000 in
set_option maxRecDepth 100000 in
theorem a_0 {g : gD} {x : gX} {B : Nat → Nat} {S X : Nat → Int → Int} {v : Int} (C : gC g x RL cL_act 10 14 1 6 341) (hZ : gZx x) (hst9 : x.1.2.1.stackTraces = false) (hR : gR g x (some .long) 1 6 (wP g B S X) (pO g B (actN v S) (vl (actR v S)) True)) (hI : iv9 S X) (hv : -2147483648 ≤ v ∧ v < 2147483648) (hs : (0 ≤ lo9 v 56 ∧ lo9 v 56 ≤ 6)) : gW g x (wP g B S X) 0 0 [(9, vi (fe9 v)), (8, vi (mu9 v)), (7, vi (ot9 v)), (6, vi (on9 v)), (5, vi (la9 v)), (4, vi (ho9 v)), (3, vi (pe9 v)), (2, vi (od9 v)), (0, .ref (B 0)), (1, vi v)] 452 [] := by
  have hpe9 := pe9_r v
  have hho9 := ho9_r v
  have hla9 := la9_r v
  have hon9 := on9_r v
  have hot9 := ot9_r v
  have hmu9 := mu9_r v
  have hfe9 := fe9_r v
  have hod := od9_r v
  have hmb := mu9_b (v := v)
  refine g_aload_n C 8 dL_act_452 rfl ?_
  refine g_iload_n C 6 dL_act_453 rfl ?_
  refine g_iload C 5 dL_act_454 rfl ?_
  refine g_iload C 1 dL_act_456 rfl ?_
  refine g_callSZ C hZ [.ref (B 0), vi (pe9 v), vi (ho9 v), vi (mu9 v)] [] (q_loss x.1.2.1 hst9 g B S X (pe9 v) (ho9 v) (mu9 v) hI (by omega) (by omega) (by omega)) y_L_loss l_L_108 isP (hCP _ _ _ _) ndP rfl (Nat.le_of_ble_eq_true rfl) rfl (by decide) dL_act_458 (fun v9 w9 hp9 => ?_)
  obtain ⟨hc458, X458, rfl, rfl, hI458⟩ := hp9
  rw [puP]
  show gW g x (wP g B (aN_loss (pe9 v) (ho9 v) (mu9 v) S) X458) 1 6 [(9, vi (fe9 v)), (8, vi (mu9 v)), (7, vi (ot9 v)), (6, vi (on9 v)), (5, vi (la9 v)), (4, vi (ho9 v)), (3, vi (pe9 v)), (2, vi (od9 v)), (0, .ref (B 0)), (1, vi v)] 461 [vi (aR_loss (pe9 v) (ho9 v) (mu9 v) S)]
  refine g_i2lw C dL_act_461 ?_
  exact g_lret C hR dL_act_462 ⟨trivial, X458, (congrArg (fun q => some (vl q)) (act_0 (v := v) (S := S) hs).1.symm), (by rw [(act_0 (v := v) (S := S) hs).2]), (by rw [(act_0 (v := v) (S := S) hs).2]; exact hI458)⟩ rfl

set_option maxHeartbeats 4000000 in
set_option maxRecDepth 100000 in
theorem a_1 {g : gD} {x : gX} {B : Nat → Nat} {S X : Nat → Int → Int} {v : Int} (C : gC g x RL cL_act 10 14 1 6 341) (hZ : gZx x) (hst9 : x.1.2.1.stackTraces = false) (hR : gR g x (some .long) 1 6 (wP g B S X) (pO g B (actN v S) (vl (actR v S)) True)) (hI : iv9 S X) (hv : -2147483648 ≤ v ∧ v < 2147483648) (hs : (7 ≤ lo9 v 56 ∧ lo9 v 56 ≤ 7)) : gW g x (wP g B S X) 0 0 [(9, vi (fe9 v)), (8, vi (mu9 v)), (7, vi (ot9 v)), (6, vi (on9 v)), (5, vi (la9 v)), (4, vi (ho9 v)), (3, vi (pe9 v)), (2, vi (od9 v)), (0, .ref (B 0)), (1, vi v)] 463 [] := by
  have hpe9 := pe9_r v
  have hho9 := ho9_r v
  have hla9 := la9_r v
  have hon9 := on9_r v
  have hot9 := ot9_r v
  have hmu9 := mu9_r v
  have hfe9 := fe9_r v
  have hod := od9_r v
  have hmb := mu9_b (v := v)
  have hf0 := lo9_r (sh9 v 9) (n := 9000) (by decide)
  have hf1 := sh9_r v 9
  refine g_aload_n C 8 dL_act_463 rfl ?_
  refine g_iload_n C 7 dL_act_464 rfl ?_
  have J475 : ∀ (w475 : Int), (w475 = (if od9 v = 0 then on9 v else mu9 v)) → gW g x (wP g B S X) 0 0 [(9, vi (fe9 v)), (8, vi (mu9 v)), (7, vi (ot9 v)), (6, vi (on9 v)), (5, vi (la9 v)), (4, vi (ho9 v)), (3, vi (pe9 v)), (2, vi (od9 v)), (0, .ref (B 0)), (1, vi v)] 475 [vi w475, .ref (B 0)] := by
    intro w475 hJ475
    subst hJ475
    refine g_iload_n C 7 dL_act_475 rfl ?_
    have J493 : ∀ (w493 : Int), (w493 = (if od9 v = 0 then lo9 (sh9 v 9) 9000 else v)) → gW g x (wP g B S X) 0 0 [(9, vi (fe9 v)), (8, vi (mu9 v)), (7, vi (ot9 v)), (6, vi (on9 v)), (5, vi (la9 v)), (4, vi (ho9 v)), (3, vi (pe9 v)), (2, vi (od9 v)), (0, .ref (B 0)), (1, vi v)] 493 [vi w493, vi (if od9 v = 0 then on9 v else mu9 v), .ref (B 0)] := by
      intro w493 hJ493
      subst hJ493
      refine g_callSZ C hZ [.ref (B 0), vi (if od9 v = 0 then on9 v else mu9 v), vi (if od9 v = 0 then lo9 (sh9 v 9) 9000 else v)] [] (q_creep x.1.2.1 hst9 g B S X (if od9 v = 0 then on9 v else mu9 v) (if od9 v = 0 then lo9 (sh9 v 9) 9000 else v) hI (by omega) (by omega)) y_L_creep l_L_111 isP (hCP _ _ _ _) ndP rfl (Nat.le_of_ble_eq_true rfl) rfl (by decide) dL_act_493 (fun v9 w9 hp9 => ?_)
      obtain ⟨hc493, X493, rfl, rfl, hI493⟩ := hp9
      rw [puP]
      show gW g x (wP g B (aN_creep (if od9 v = 0 then on9 v else mu9 v) (if od9 v = 0 then lo9 (sh9 v 9) 9000 else v) S) X493) 1 6 [(9, vi (fe9 v)), (8, vi (mu9 v)), (7, vi (ot9 v)), (6, vi (on9 v)), (5, vi (la9 v)), (4, vi (ho9 v)), (3, vi (pe9 v)), (2, vi (od9 v)), (0, .ref (B 0)), (1, vi v)] 496 [vi (aR_creep (if od9 v = 0 then on9 v else mu9 v) (if od9 v = 0 then lo9 (sh9 v 9) 9000 else v) S)]
      refine g_i2lw C dL_act_496 ?_
      exact g_lret C hR dL_act_497 ⟨trivial, X493, (congrArg (fun q => some (vl q)) (act_1 (v := v) (S := S) hs).1.symm), (by rw [(act_1 (v := v) (S := S) hs).2]), (by rw [(act_1 (v := v) (S := S) hs).2]; exact hI493)⟩ rfl
    refine g_if_eq C 483 dL_act_476 (by decide) (by omega) (fun c476 => ?_) (fun c476 => ?_)
    · refine g_iload_n C 9 dL_act_483 rfl ?_
      refine g_bipush C dL_act_484 (by decide) ?_
      refine g_ishrY C dL_act_486 ?_
      refine g_sipush C dL_act_487 (by decide) ?_
      refine g_callSp C [vi (sh9 v 9), vi 9000] [vi (if od9 v = 0 then on9 v else mu9 v), .ref (B 0)] (c_L_low x.1.2.1 g (sh9 v 9) 9000 (by omega)) y_L_low l_L_103 [] rfl (by decide) rfl (Nat.le_of_ble_eq_true rfl) rfl (by decide) dL_act_490 ?_
      exact J493 (lo9 (sh9 v 9) 9000) (by omega)
    refine g_iload_n C 9 dL_act_479 rfl ?_
    refine g_goto C 493 dL_act_480 (by decide) ?_
    exact J493 v (by omega)
  refine g_if_eq C 473 dL_act_465 (by decide) (by omega) (fun c465 => ?_) (fun c465 => ?_)
  · refine g_iload C 3 dL_act_473 rfl ?_
    exact J475 (on9 v) (by omega)
  refine g_iload C 1 dL_act_468 rfl ?_
  refine g_goto C 475 dL_act_470 (by decide) ?_
  exact J475 (mu9 v) (by omega)

set_option maxHeartbeats 4000000 in
set_option maxRecDepth 100000 in
theorem a_2 {g : gD} {x : gX} {B : Nat → Nat} {S X : Nat → Int → Int} {v : Int} (C : gC g x RL cL_act 10 14 1 6 341) (hZ : gZx x) (hst9 : x.1.2.1.stackTraces = false) (hR : gR g x (some .long) 1 6 (wP g B S X) (pO g B (actN v S) (vl (actR v S)) True)) (hI : iv9 S X) (hv : -2147483648 ≤ v ∧ v < 2147483648) (hs : (8 ≤ lo9 v 56 ∧ lo9 v 56 ≤ 12)) : gW g x (wP g B S X) 0 0 [(9, vi (fe9 v)), (8, vi (mu9 v)), (7, vi (ot9 v)), (6, vi (on9 v)), (5, vi (la9 v)), (4, vi (ho9 v)), (3, vi (pe9 v)), (2, vi (od9 v)), (0, .ref (B 0)), (1, vi v)] 498 [] := by
  have hpe9 := pe9_r v
  have hho9 := ho9_r v
  have hla9 := la9_r v
  have hon9 := on9_r v
  have hot9 := ot9_r v
  have hmu9 := mu9_r v
  have hfe9 := fe9_r v
  have hod := od9_r v
  have hmb := mu9_b (v := v)
  have hf0 := lo9_r (sh9 v 3) (n := 73) (by decide)
  have hf1 := sh9_r v 3
  refine g_aload_n C 8 dL_act_498 rfl ?_
  refine g_iload_n C 6 dL_act_499 rfl ?_
  refine g_iload C 5 dL_act_500 rfl ?_
  refine g_iload C 5 dL_act_502 rfl ?_
  refine g_iload_n C 7 dL_act_504 rfl ?_
  have J521 : ∀ (w521 : Int), (w521 = (if od9 v = 0 then lo9 (sh9 v 3) 73 else fe9 v)) → gW g x (wP g B S X) 0 0 [(9, vi (fe9 v)), (8, vi (mu9 v)), (7, vi (ot9 v)), (6, vi (on9 v)), (5, vi (la9 v)), (4, vi (ho9 v)), (3, vi (pe9 v)), (2, vi (od9 v)), (0, .ref (B 0)), (1, vi v)] 521 [vi w521, vi (ho9 v), vi (ho9 v), vi (pe9 v), .ref (B 0)] := by
    intro w521 hJ521
    subst hJ521
    refine g_iadd C dL_act_521 ?_
    refine g_wrap ?_
    have hw522 := wI_r ((ho9 v) + (if od9 v = 0 then lo9 (sh9 v 3) 73 else fe9 v))
    refine g_callSZ C hZ [.ref (B 0), vi (pe9 v), vi (ho9 v), vi (wI ((ho9 v) + (if od9 v = 0 then lo9 (sh9 v 3) 73 else fe9 v)))] [] (q_choose x.1.2.1 hst9 g B S X (pe9 v) (ho9 v) (wI ((ho9 v) + (if od9 v = 0 then lo9 (sh9 v 3) 73 else fe9 v))) hI (by omega) (by omega) (by omega)) y_L_choose l_L_114 isP (hCP _ _ _ _) ndP rfl (Nat.le_of_ble_eq_true rfl) rfl (by decide) dL_act_522 (fun v9 w9 hp9 => ?_)
    obtain ⟨hc522, X522, rfl, rfl, hI522⟩ := hp9
    rw [puP]
    show gW g x (wP g B (aN_choose (pe9 v) (ho9 v) (wI ((ho9 v) + (if od9 v = 0 then lo9 (sh9 v 3) 73 else fe9 v))) S) X522) 1 6 [(9, vi (fe9 v)), (8, vi (mu9 v)), (7, vi (ot9 v)), (6, vi (on9 v)), (5, vi (la9 v)), (4, vi (ho9 v)), (3, vi (pe9 v)), (2, vi (od9 v)), (0, .ref (B 0)), (1, vi v)] 525 [vi (aR_choose (pe9 v) (ho9 v) (wI ((ho9 v) + (if od9 v = 0 then lo9 (sh9 v 3) 73 else fe9 v))) S)]
    refine g_i2lw C dL_act_525 ?_
    exact g_lret C hR dL_act_526 ⟨trivial, X522, (congrArg (fun q => some (vl q)) (act_2 (v := v) (S := S) hs).1.symm), (by rw [(act_2 (v := v) (S := S) hs).2]), (by rw [(act_2 (v := v) (S := S) hs).2]; exact hI522)⟩ rfl
  refine g_if_eq C 513 dL_act_505 (by decide) (by omega) (fun c505 => ?_) (fun c505 => ?_)
  · refine g_iload_n C 9 dL_act_513 rfl ?_
    refine g_iconst C dL_act_514 ?_
    refine g_ishrY C dL_act_515 ?_
    refine g_bipush C dL_act_516 (by decide) ?_
    refine g_callSp C [vi (sh9 v 3), vi 73] [vi (ho9 v), vi (ho9 v), vi (pe9 v), .ref (B 0)] (c_L_low x.1.2.1 g (sh9 v 3) 73 (by omega)) y_L_low l_L_103 [] rfl (by decide) rfl (Nat.le_of_ble_eq_true rfl) rfl (by decide) dL_act_518 ?_
    exact J521 (lo9 (sh9 v 3) 73) (by omega)
  refine g_iload C 0 dL_act_508 rfl ?_
  refine g_goto C 521 dL_act_510 (by decide) ?_
  exact J521 (fe9 v) (by omega)

set_option maxHeartbeats 4000000 in
set_option maxRecDepth 100000 in
theorem a_3 {g : gD} {x : gX} {B : Nat → Nat} {S X : Nat → Int → Int} {v : Int} (C : gC g x RL cL_act 10 14 1 6 341) (hZ : gZx x) (hst9 : x.1.2.1.stackTraces = false) (hR : gR g x (some .long) 1 6 (wP g B S X) (pO g B (actN v S) (vl (actR v S)) True)) (hI : iv9 S X) (hv : -2147483648 ≤ v ∧ v < 2147483648) (hs : (13 ≤ lo9 v 56 ∧ lo9 v 56 ≤ 13)) : gW g x (wP g B S X) 0 0 [(9, vi (fe9 v)), (8, vi (mu9 v)), (7, vi (ot9 v)), (6, vi (on9 v)), (5, vi (la9 v)), (4, vi (ho9 v)), (3, vi (pe9 v)), (2, vi (od9 v)), (0, .ref (B 0)), (1, vi v)] 527 [] := by
  have hpe9 := pe9_r v
  have hho9 := ho9_r v
  have hla9 := la9_r v
  have hon9 := on9_r v
  have hot9 := ot9_r v
  have hmu9 := mu9_r v
  have hfe9 := fe9_r v
  have hod := od9_r v
  have hmb := mu9_b (v := v)
  have hf0 := lo9_r (sh9 v 9) (n := 91) (by decide)
  have hf1 := lo9_r (sh9 v 9) (n := 2) (by decide)
  have hf2 := lo9_r (sh9 v 9) (n := 4) (by decide)
  have hf3 := sh9_r v 9
  refine g_iload_n C 9 dL_act_527 rfl ?_
  refine g_bipush C dL_act_528 (by decide) ?_
  refine g_ishrY C dL_act_530 ?_
  refine g_iconst C dL_act_531 ?_
  refine g_callSp C [vi (sh9 v 9), vi 2] [] (c_L_low x.1.2.1 g (sh9 v 9) 2 (by omega)) y_L_low l_L_103 [] rfl (by decide) rfl (Nat.le_of_ble_eq_true rfl) rfl (by decide) dL_act_532 ?_
  refine g_if_ne C 546 dL_act_535 (by decide) (by omega) (fun c535 => ?_) (fun c535 => ?_)
  · refine g_aload_n C 8 dL_act_546 rfl ?_
    refine g_iload_n C 7 dL_act_547 rfl ?_
    have J565 : ∀ (w565 : Int), (w565 = (if od9 v = 0 then lo9 (sh9 v 9) 91 else mu9 v)) → gW g x (wP g B S X) 0 0 [(9, vi (fe9 v)), (8, vi (mu9 v)), (7, vi (ot9 v)), (6, vi (on9 v)), (5, vi (la9 v)), (4, vi (ho9 v)), (3, vi (pe9 v)), (2, vi (od9 v)), (0, .ref (B 0)), (1, vi v)] 565 [vi w565, .ref (B 0)] := by
      intro w565 hJ565
      subst hJ565
      refine g_callSZ C hZ [.ref (B 0), vi (if od9 v = 0 then lo9 (sh9 v 9) 91 else mu9 v)] [] (q_quota x.1.2.1 hst9 g B S X (if od9 v = 0 then lo9 (sh9 v 9) 91 else mu9 v) hI (by omega)) y_L_quota l_L_119 isP (hCP _ _ _ _) ndP rfl (Nat.le_of_ble_eq_true rfl) rfl (by decide) dL_act_565 (fun v9 w9 hp9 => ?_)
      obtain ⟨hc565, X565, rfl, rfl, hI565⟩ := hp9
      rw [puP]
      show gW g x (wP g B (aN_quota (if od9 v = 0 then lo9 (sh9 v 9) 91 else mu9 v) S) X565) 1 6 [(9, vi (fe9 v)), (8, vi (mu9 v)), (7, vi (ot9 v)), (6, vi (on9 v)), (5, vi (la9 v)), (4, vi (ho9 v)), (3, vi (pe9 v)), (2, vi (od9 v)), (0, .ref (B 0)), (1, vi v)] 568 [vi (aR_quota (if od9 v = 0 then lo9 (sh9 v 9) 91 else mu9 v) S)]
      refine g_i2lw C dL_act_568 ?_
      exact g_lret C hR dL_act_569 ⟨trivial, X565, (congrArg (fun q => some (vl q)) (act_3a (v := v) (S := S) hs c535).1.symm), (by rw [(act_3a (v := v) (S := S) hs c535).2]), (by rw [(act_3a (v := v) (S := S) hs c535).2]; exact hI565)⟩ rfl
    refine g_if_eq C 556 dL_act_548 (by decide) (by omega) (fun c548 => ?_) (fun c548 => ?_)
    · refine g_iload_n C 9 dL_act_556 rfl ?_
      refine g_bipush C dL_act_557 (by decide) ?_
      refine g_ishrY C dL_act_559 ?_
      refine g_bipush C dL_act_560 (by decide) ?_
      refine g_callSp C [vi (sh9 v 9), vi 91] [.ref (B 0)] (c_L_low x.1.2.1 g (sh9 v 9) 91 (by omega)) y_L_low l_L_103 [] rfl (by decide) rfl (Nat.le_of_ble_eq_true rfl) rfl (by decide) dL_act_562 ?_
      exact J565 (lo9 (sh9 v 9) 91) (by omega)
    refine g_iload C 1 dL_act_551 rfl ?_
    refine g_goto C 565 dL_act_553 (by decide) ?_
    exact J565 (mu9 v) (by omega)
  refine g_aload_n C 8 dL_act_538 rfl ?_
  refine g_callSZ C hZ [.ref (B 0)] [] (q_unchoose x.1.2.1 hst9 g B S X  hI) y_L_unchoose l_L_116 isP (hCP _ _ _ _) ndP rfl (Nat.le_of_ble_eq_true rfl) rfl (by decide) dL_act_539 (fun v9 w9 hp9 => ?_)
  obtain ⟨hc539, X539, rfl, rfl, hI539⟩ := hp9
  rw [puP]
  show gW g x (wP g B (aN_unchoose S) X539) 1 6 [(9, vi (fe9 v)), (8, vi (mu9 v)), (7, vi (ot9 v)), (6, vi (on9 v)), (5, vi (la9 v)), (4, vi (ho9 v)), (3, vi (pe9 v)), (2, vi (od9 v)), (0, .ref (B 0)), (1, vi v)] 542 [vi (aR_unchoose S)]
  refine g_i2lw C dL_act_542 ?_
  refine g_goto C 569 dL_act_543 (by decide) ?_
  exact g_lret C hR dL_act_569 ⟨trivial, X539, (congrArg (fun q => some (vl q)) (act_3b (v := v) (S := S) hs c535).1.symm), (by rw [(act_3b (v := v) (S := S) hs c535).2]), (by rw [(act_3b (v := v) (S := S) hs c535).2]; exact hI539)⟩ rfl

set_option maxHeartbeats 4000000 in
set_option maxRecDepth 100000 in
theorem a_4 {g : gD} {x : gX} {B : Nat → Nat} {S X : Nat → Int → Int} {v : Int} (C : gC g x RL cL_act 10 14 1 6 341) (hZ : gZx x) (hst9 : x.1.2.1.stackTraces = false) (hR : gR g x (some .long) 1 6 (wP g B S X) (pO g B (actN v S) (vl (actR v S)) True)) (hI : iv9 S X) (hv : -2147483648 ≤ v ∧ v < 2147483648) (hs : (14 ≤ lo9 v 56 ∧ lo9 v 56 ≤ 16)) : gW g x (wP g B S X) 0 0 [(9, vi (fe9 v)), (8, vi (mu9 v)), (7, vi (ot9 v)), (6, vi (on9 v)), (5, vi (la9 v)), (4, vi (ho9 v)), (3, vi (pe9 v)), (2, vi (od9 v)), (0, .ref (B 0)), (1, vi v)] 570 [] := by
  have hpe9 := pe9_r v
  have hho9 := ho9_r v
  have hla9 := la9_r v
  have hon9 := on9_r v
  have hot9 := ot9_r v
  have hmu9 := mu9_r v
  have hfe9 := fe9_r v
  have hod := od9_r v
  have hmb := mu9_b (v := v)
  have hf0 := lo9_r (sh9 v 5) (n := 3000) (by decide)
  have hf1 := lo9_r (sh9 v 8) (n := 3000) (by decide)
  have hf2 := lo9_r (sh9 v 3) (n := 100) (by decide)
  have hf3 := lo9_r (sh9 v 6) (n := 2000) (by decide)
  have hf4 := lo9_r (sh9 v 11) (n := 151) (by decide)
  have hf5 := sh9_r v 5
  have hf6 := sh9_r v 8
  have hf7 := sh9_r v 3
  have hf8 := sh9_r v 6
  have hf9 := sh9_r v 11
  refine g_aload_n C 8 dL_act_570 rfl ?_
  refine g_iload_n C 7 dL_act_571 rfl ?_
  have J588 : ∀ (w588 : Int), (w588 = (if od9 v = 0 then lo9 (sh9 v 5) 3000 else v)) → gW g x (wP g B S X) 0 0 [(9, vi (fe9 v)), (8, vi (mu9 v)), (7, vi (ot9 v)), (6, vi (on9 v)), (5, vi (la9 v)), (4, vi (ho9 v)), (3, vi (pe9 v)), (2, vi (od9 v)), (0, .ref (B 0)), (1, vi v)] 588 [vi w588, .ref (B 0)] := by
    intro w588 hJ588
    subst hJ588
    refine g_iload_n C 7 dL_act_588 rfl ?_
    have J610 : ∀ (w610 : Int), (w610 = (if od9 v = 0 then 1 + (lo9 (sh9 v 8) 3000) else sh9 v 3)) → gW g x (wP g B S X) 0 0 [(9, vi (fe9 v)), (8, vi (mu9 v)), (7, vi (ot9 v)), (6, vi (on9 v)), (5, vi (la9 v)), (4, vi (ho9 v)), (3, vi (pe9 v)), (2, vi (od9 v)), (0, .ref (B 0)), (1, vi v)] 610 [vi w610, vi (if od9 v = 0 then lo9 (sh9 v 5) 3000 else v), .ref (B 0)] := by
      intro w610 hJ610
      subst hJ610
      refine g_iload_n C 7 dL_act_610 rfl ?_
      have J629 : ∀ (w629 : Int), (w629 = (if od9 v = 0 then 1 + (lo9 (sh9 v 3) 100) else mu9 v)) → gW g x (wP g B S X) 0 0 [(9, vi (fe9 v)), (8, vi (mu9 v)), (7, vi (ot9 v)), (6, vi (on9 v)), (5, vi (la9 v)), (4, vi (ho9 v)), (3, vi (pe9 v)), (2, vi (od9 v)), (0, .ref (B 0)), (1, vi v)] 629 [vi w629, vi (if od9 v = 0 then 1 + (lo9 (sh9 v 8) 3000) else sh9 v 3), vi (if od9 v = 0 then lo9 (sh9 v 5) 3000 else v), .ref (B 0)] := by
        intro w629 hJ629
        subst hJ629
        refine g_iload C 0 dL_act_629 rfl ?_
        refine g_iload_n C 7 dL_act_631 rfl ?_
        have J650 : ∀ (w650 : Int), (w650 = (if od9 v = 0 then lo9 (sh9 v 6) 2000 else mu9 v)) → gW g x (wP g B S X) 0 0 [(9, vi (fe9 v)), (8, vi (mu9 v)), (7, vi (ot9 v)), (6, vi (on9 v)), (5, vi (la9 v)), (4, vi (ho9 v)), (3, vi (pe9 v)), (2, vi (od9 v)), (0, .ref (B 0)), (1, vi v)] 650 [vi w650, vi (fe9 v), vi (if od9 v = 0 then 1 + (lo9 (sh9 v 3) 100) else mu9 v), vi (if od9 v = 0 then 1 + (lo9 (sh9 v 8) 3000) else sh9 v 3), vi (if od9 v = 0 then lo9 (sh9 v 5) 3000 else v), .ref (B 0)] := by
          intro w650 hJ650
          subst hJ650
          refine g_iload_n C 7 dL_act_650 rfl ?_
          have J669 : ∀ (w669 : Int), (w669 = (if od9 v = 0 then lo9 (sh9 v 11) 151 else mu9 v)) → gW g x (wP g B S X) 0 0 [(9, vi (fe9 v)), (8, vi (mu9 v)), (7, vi (ot9 v)), (6, vi (on9 v)), (5, vi (la9 v)), (4, vi (ho9 v)), (3, vi (pe9 v)), (2, vi (od9 v)), (0, .ref (B 0)), (1, vi v)] 669 [vi w669, vi (if od9 v = 0 then lo9 (sh9 v 6) 2000 else mu9 v), vi (fe9 v), vi (if od9 v = 0 then 1 + (lo9 (sh9 v 3) 100) else mu9 v), vi (if od9 v = 0 then 1 + (lo9 (sh9 v 8) 3000) else sh9 v 3), vi (if od9 v = 0 then lo9 (sh9 v 5) 3000 else v), .ref (B 0)] := by
            intro w669 hJ669
            subst hJ669
            refine g_callSZ C hZ [.ref (B 0), vi (if od9 v = 0 then lo9 (sh9 v 5) 3000 else v), vi (if od9 v = 0 then 1 + (lo9 (sh9 v 8) 3000) else sh9 v 3), vi (if od9 v = 0 then 1 + (lo9 (sh9 v 3) 100) else mu9 v), vi (fe9 v), vi (if od9 v = 0 then lo9 (sh9 v 6) 2000 else mu9 v), vi (if od9 v = 0 then lo9 (sh9 v 11) 151 else mu9 v)] [] (q_layer x.1.2.1 hst9 g B S X (if od9 v = 0 then lo9 (sh9 v 5) 3000 else v) (if od9 v = 0 then 1 + (lo9 (sh9 v 8) 3000) else sh9 v 3) (if od9 v = 0 then 1 + (lo9 (sh9 v 3) 100) else mu9 v) (fe9 v) (if od9 v = 0 then lo9 (sh9 v 6) 2000 else mu9 v) (if od9 v = 0 then lo9 (sh9 v 11) 151 else mu9 v) hI (by omega) (by omega) (by omega) (by omega) (by omega) (by omega)) y_L_layer l_L_122 isP (hCP _ _ _ _) ndP rfl (Nat.le_of_ble_eq_true rfl) rfl (by decide) dL_act_669 (fun v9 w9 hp9 => ?_)
            obtain ⟨hc669, X669, rfl, rfl, hI669⟩ := hp9
            rw [puP]
            show gW g x (wP g B (aN_layer (if od9 v = 0 then lo9 (sh9 v 5) 3000 else v) (if od9 v = 0 then 1 + (lo9 (sh9 v 8) 3000) else sh9 v 3) (if od9 v = 0 then 1 + (lo9 (sh9 v 3) 100) else mu9 v) (fe9 v) (if od9 v = 0 then lo9 (sh9 v 6) 2000 else mu9 v) (if od9 v = 0 then lo9 (sh9 v 11) 151 else mu9 v) S) X669) 1 6 [(9, vi (fe9 v)), (8, vi (mu9 v)), (7, vi (ot9 v)), (6, vi (on9 v)), (5, vi (la9 v)), (4, vi (ho9 v)), (3, vi (pe9 v)), (2, vi (od9 v)), (0, .ref (B 0)), (1, vi v)] 672 [vi (aR_layer (if od9 v = 0 then lo9 (sh9 v 5) 3000 else v) (if od9 v = 0 then 1 + (lo9 (sh9 v 8) 3000) else sh9 v 3) (if od9 v = 0 then 1 + (lo9 (sh9 v 3) 100) else mu9 v) (fe9 v) (if od9 v = 0 then lo9 (sh9 v 6) 2000 else mu9 v) (if od9 v = 0 then lo9 (sh9 v 11) 151 else mu9 v) S)]
            refine g_i2lw C dL_act_672 ?_
            exact g_lret C hR dL_act_673 ⟨trivial, X669, (congrArg (fun q => some (vl q)) (act_4 (v := v) (S := S) hs).1.symm), (by rw [(act_4 (v := v) (S := S) hs).2]), (by rw [(act_4 (v := v) (S := S) hs).2]; exact hI669)⟩ rfl
          refine g_if_eq C 659 dL_act_651 (by decide) (by omega) (fun c651 => ?_) (fun c651 => ?_)
          · refine g_iload_n C 9 dL_act_659 rfl ?_
            refine g_bipush C dL_act_660 (by decide) ?_
            refine g_ishrY C dL_act_662 ?_
            refine g_sipush C dL_act_663 (by decide) ?_
            refine g_callSp C [vi (sh9 v 11), vi 151] [vi (if od9 v = 0 then lo9 (sh9 v 6) 2000 else mu9 v), vi (fe9 v), vi (if od9 v = 0 then 1 + (lo9 (sh9 v 3) 100) else mu9 v), vi (if od9 v = 0 then 1 + (lo9 (sh9 v 8) 3000) else sh9 v 3), vi (if od9 v = 0 then lo9 (sh9 v 5) 3000 else v), .ref (B 0)] (c_L_low x.1.2.1 g (sh9 v 11) 151 (by omega)) y_L_low l_L_103 [] rfl (by decide) rfl (Nat.le_of_ble_eq_true rfl) rfl (by decide) dL_act_666 ?_
            exact J669 (lo9 (sh9 v 11) 151) (by omega)
          refine g_iload C 1 dL_act_654 rfl ?_
          refine g_goto C 669 dL_act_656 (by decide) ?_
          exact J669 (mu9 v) (by omega)
        refine g_if_eq C 640 dL_act_632 (by decide) (by omega) (fun c632 => ?_) (fun c632 => ?_)
        · refine g_iload_n C 9 dL_act_640 rfl ?_
          refine g_bipush C dL_act_641 (by decide) ?_
          refine g_ishrY C dL_act_643 ?_
          refine g_sipush C dL_act_644 (by decide) ?_
          refine g_callSp C [vi (sh9 v 6), vi 2000] [vi (fe9 v), vi (if od9 v = 0 then 1 + (lo9 (sh9 v 3) 100) else mu9 v), vi (if od9 v = 0 then 1 + (lo9 (sh9 v 8) 3000) else sh9 v 3), vi (if od9 v = 0 then lo9 (sh9 v 5) 3000 else v), .ref (B 0)] (c_L_low x.1.2.1 g (sh9 v 6) 2000 (by omega)) y_L_low l_L_103 [] rfl (by decide) rfl (Nat.le_of_ble_eq_true rfl) rfl (by decide) dL_act_647 ?_
          exact J650 (lo9 (sh9 v 6) 2000) (by omega)
        refine g_iload C 1 dL_act_635 rfl ?_
        refine g_goto C 650 dL_act_637 (by decide) ?_
        exact J650 (mu9 v) (by omega)
      refine g_if_eq C 619 dL_act_611 (by decide) (by omega) (fun c611 => ?_) (fun c611 => ?_)
      · refine g_iconst C dL_act_619 ?_
        refine g_iload_n C 9 dL_act_620 rfl ?_
        refine g_iconst C dL_act_621 ?_
        refine g_ishrY C dL_act_622 ?_
        refine g_bipush C dL_act_623 (by decide) ?_
        refine g_callSp C [vi (sh9 v 3), vi 100] [vi 1, vi (if od9 v = 0 then 1 + (lo9 (sh9 v 8) 3000) else sh9 v 3), vi (if od9 v = 0 then lo9 (sh9 v 5) 3000 else v), .ref (B 0)] (c_L_low x.1.2.1 g (sh9 v 3) 100 (by omega)) y_L_low l_L_103 [] rfl (by decide) rfl (Nat.le_of_ble_eq_true rfl) rfl (by decide) dL_act_625 ?_
        refine g_iadd C dL_act_628 ?_
        exact J629 (1 + (lo9 (sh9 v 3) 100)) (by omega)
      refine g_iload C 1 dL_act_614 rfl ?_
      refine g_goto C 629 dL_act_616 (by decide) ?_
      exact J629 (mu9 v) (by omega)
    refine g_if_eq C 598 dL_act_589 (by decide) (by omega) (fun c589 => ?_) (fun c589 => ?_)
    · refine g_iconst C dL_act_598 ?_
      refine g_iload_n C 9 dL_act_599 rfl ?_
      refine g_bipush C dL_act_600 (by decide) ?_
      refine g_ishrY C dL_act_602 ?_
      refine g_sipush C dL_act_603 (by decide) ?_
      refine g_callSp C [vi (sh9 v 8), vi 3000] [vi 1, vi (if od9 v = 0 then lo9 (sh9 v 5) 3000 else v), .ref (B 0)] (c_L_low x.1.2.1 g (sh9 v 8) 3000 (by omega)) y_L_low l_L_103 [] rfl (by decide) rfl (Nat.le_of_ble_eq_true rfl) rfl (by decide) dL_act_606 ?_
      refine g_iadd C dL_act_609 ?_
      exact J610 (1 + (lo9 (sh9 v 8) 3000)) (by omega)
    refine g_iload_n C 9 dL_act_592 rfl ?_
    refine g_iconst C dL_act_593 ?_
    refine g_ishrY C dL_act_594 ?_
    refine g_goto C 610 dL_act_595 (by decide) ?_
    exact J610 (sh9 v 3) (by omega)
  refine g_if_eq C 579 dL_act_572 (by decide) (by omega) (fun c572 => ?_) (fun c572 => ?_)
  · refine g_iload_n C 9 dL_act_579 rfl ?_
    refine g_iconst C dL_act_580 ?_
    refine g_ishrY C dL_act_581 ?_
    refine g_sipush C dL_act_582 (by decide) ?_
    refine g_callSp C [vi (sh9 v 5), vi 3000] [.ref (B 0)] (c_L_low x.1.2.1 g (sh9 v 5) 3000 (by omega)) y_L_low l_L_103 [] rfl (by decide) rfl (Nat.le_of_ble_eq_true rfl) rfl (by decide) dL_act_585 ?_
    exact J588 (lo9 (sh9 v 5) 3000) (by omega)
  refine g_iload_n C 9 dL_act_575 rfl ?_
  refine g_goto C 588 dL_act_576 (by decide) ?_
  exact J588 v (by omega)

set_option maxHeartbeats 4000000 in
set_option maxRecDepth 100000 in
theorem a_5 {g : gD} {x : gX} {B : Nat → Nat} {S X : Nat → Int → Int} {v : Int} (C : gC g x RL cL_act 10 14 1 6 341) (hZ : gZx x) (hst9 : x.1.2.1.stackTraces = false) (hR : gR g x (some .long) 1 6 (wP g B S X) (pO g B (actN v S) (vl (actR v S)) True)) (hI : iv9 S X) (hv : -2147483648 ≤ v ∧ v < 2147483648) (hs : (17 ≤ lo9 v 56 ∧ lo9 v 56 ≤ 20)) : gW g x (wP g B S X) 0 0 [(9, vi (fe9 v)), (8, vi (mu9 v)), (7, vi (ot9 v)), (6, vi (on9 v)), (5, vi (la9 v)), (4, vi (ho9 v)), (3, vi (pe9 v)), (2, vi (od9 v)), (0, .ref (B 0)), (1, vi v)] 674 [] := by
  have hpe9 := pe9_r v
  have hho9 := ho9_r v
  have hla9 := la9_r v
  have hon9 := on9_r v
  have hot9 := ot9_r v
  have hmu9 := mu9_r v
  have hfe9 := fe9_r v
  have hod := od9_r v
  have hmb := mu9_b (v := v)
  have hf0 := lo9_r (sh9 v 3) (n := 60) (by decide)
  have hf1 := sh9_r v 3
  refine g_aload_n C 8 dL_act_674 rfl ?_
  refine g_iload C 4 dL_act_675 rfl ?_
  refine g_iload C 3 dL_act_677 rfl ?_
  refine g_iload_n C 7 dL_act_679 rfl ?_
  have J696 : ∀ (w696 : Int), (w696 = (if od9 v = 0 then lo9 (sh9 v 3) 60 else mu9 v)) → gW g x (wP g B S X) 0 0 [(9, vi (fe9 v)), (8, vi (mu9 v)), (7, vi (ot9 v)), (6, vi (on9 v)), (5, vi (la9 v)), (4, vi (ho9 v)), (3, vi (pe9 v)), (2, vi (od9 v)), (0, .ref (B 0)), (1, vi v)] 696 [vi w696, vi (on9 v), vi (la9 v), .ref (B 0)] := by
    intro w696 hJ696
    subst hJ696
    refine g_callSZ C hZ [.ref (B 0), vi (la9 v), vi (on9 v), vi (if od9 v = 0 then lo9 (sh9 v 3) 60 else mu9 v)] [] (q_part x.1.2.1 hst9 g B S X (la9 v) (on9 v) (if od9 v = 0 then lo9 (sh9 v 3) 60 else mu9 v) hI (by omega) (by omega) (by omega)) y_L_part l_L_125 isP (hCP _ _ _ _) ndP rfl (Nat.le_of_ble_eq_true rfl) rfl (by decide) dL_act_696 (fun v9 w9 hp9 => ?_)
    obtain ⟨hc696, X696, rfl, rfl, hI696⟩ := hp9
    rw [puP]
    show gW g x (wP g B (aN_part (la9 v) (on9 v) (if od9 v = 0 then lo9 (sh9 v 3) 60 else mu9 v) S) X696) 1 6 [(9, vi (fe9 v)), (8, vi (mu9 v)), (7, vi (ot9 v)), (6, vi (on9 v)), (5, vi (la9 v)), (4, vi (ho9 v)), (3, vi (pe9 v)), (2, vi (od9 v)), (0, .ref (B 0)), (1, vi v)] 699 [vi (aR_part (la9 v) (on9 v) (if od9 v = 0 then lo9 (sh9 v 3) 60 else mu9 v) S)]
    refine g_i2lw C dL_act_699 ?_
    exact g_lret C hR dL_act_700 ⟨trivial, X696, (congrArg (fun q => some (vl q)) (act_5 (v := v) (S := S) hs).1.symm), (by rw [(act_5 (v := v) (S := S) hs).2]), (by rw [(act_5 (v := v) (S := S) hs).2]; exact hI696)⟩ rfl
  refine g_if_eq C 688 dL_act_680 (by decide) (by omega) (fun c680 => ?_) (fun c680 => ?_)
  · refine g_iload_n C 9 dL_act_688 rfl ?_
    refine g_iconst C dL_act_689 ?_
    refine g_ishrY C dL_act_690 ?_
    refine g_bipush C dL_act_691 (by decide) ?_
    refine g_callSp C [vi (sh9 v 3), vi 60] [vi (on9 v), vi (la9 v), .ref (B 0)] (c_L_low x.1.2.1 g (sh9 v 3) 60 (by omega)) y_L_low l_L_103 [] rfl (by decide) rfl (Nat.le_of_ble_eq_true rfl) rfl (by decide) dL_act_693 ?_
    exact J696 (lo9 (sh9 v 3) 60) (by omega)
  refine g_iload C 1 dL_act_683 rfl ?_
  refine g_goto C 696 dL_act_685 (by decide) ?_
  exact J696 (mu9 v) (by omega)

set_option maxHeartbeats 4000000 in
set_option maxRecDepth 100000 in
theorem a_6 {g : gD} {x : gX} {B : Nat → Nat} {S X : Nat → Int → Int} {v : Int} (C : gC g x RL cL_act 10 14 1 6 341) (hZ : gZx x) (hst9 : x.1.2.1.stackTraces = false) (hR : gR g x (some .long) 1 6 (wP g B S X) (pO g B (actN v S) (vl (actR v S)) True)) (hI : iv9 S X) (hv : -2147483648 ≤ v ∧ v < 2147483648) (hs : (21 ≤ lo9 v 56 ∧ lo9 v 56 ≤ 23)) : gW g x (wP g B S X) 0 0 [(9, vi (fe9 v)), (8, vi (mu9 v)), (7, vi (ot9 v)), (6, vi (on9 v)), (5, vi (la9 v)), (4, vi (ho9 v)), (3, vi (pe9 v)), (2, vi (od9 v)), (0, .ref (B 0)), (1, vi v)] 701 [] := by
  have hpe9 := pe9_r v
  have hho9 := ho9_r v
  have hla9 := la9_r v
  have hon9 := on9_r v
  have hot9 := ot9_r v
  have hmu9 := mu9_r v
  have hfe9 := fe9_r v
  have hod := od9_r v
  have hmb := mu9_b (v := v)
  have hf0 := lo9_r (sh9 v 5) (n := 300) (by decide)
  have hf1 := lo9_r (sh9 v 8) (n := 900) (by decide)
  have hf2 := sh9_r v 5
  have hf3 := sh9_r v 8
  have hf4 := sh9_r v 3
  refine g_aload_n C 8 dL_act_701 rfl ?_
  refine g_iload C 3 dL_act_702 rfl ?_
  refine g_iload C 2 dL_act_704 rfl ?_
  refine g_iload_n C 7 dL_act_706 rfl ?_
  have J723 : ∀ (w723 : Int), (w723 = (if od9 v = 0 then lo9 (sh9 v 5) 300 else v)) → gW g x (wP g B S X) 0 0 [(9, vi (fe9 v)), (8, vi (mu9 v)), (7, vi (ot9 v)), (6, vi (on9 v)), (5, vi (la9 v)), (4, vi (ho9 v)), (3, vi (pe9 v)), (2, vi (od9 v)), (0, .ref (B 0)), (1, vi v)] 723 [vi w723, vi (ot9 v), vi (on9 v), .ref (B 0)] := by
    intro w723 hJ723
    subst hJ723
    refine g_iload_n C 7 dL_act_723 rfl ?_
    have J743 : ∀ (w743 : Int), (w743 = (if od9 v = 0 then lo9 (sh9 v 8) 900 else sh9 v 3)) → gW g x (wP g B S X) 0 0 [(9, vi (fe9 v)), (8, vi (mu9 v)), (7, vi (ot9 v)), (6, vi (on9 v)), (5, vi (la9 v)), (4, vi (ho9 v)), (3, vi (pe9 v)), (2, vi (od9 v)), (0, .ref (B 0)), (1, vi v)] 743 [vi w743, vi (if od9 v = 0 then lo9 (sh9 v 5) 300 else v), vi (ot9 v), vi (on9 v), .ref (B 0)] := by
      intro w743 hJ743
      subst hJ743
      refine g_callSZ C hZ [.ref (B 0), vi (on9 v), vi (ot9 v), vi (if od9 v = 0 then lo9 (sh9 v 5) 300 else v), vi (if od9 v = 0 then lo9 (sh9 v 8) 900 else sh9 v 3)] [] (q_retro x.1.2.1 hst9 g B S X (on9 v) (ot9 v) (if od9 v = 0 then lo9 (sh9 v 5) 300 else v) (if od9 v = 0 then lo9 (sh9 v 8) 900 else sh9 v 3) hI (by omega) (by omega) (by omega) (by omega)) y_L_retro l_L_127 isP (hCP _ _ _ _) ndP rfl (Nat.le_of_ble_eq_true rfl) rfl (by decide) dL_act_743 (fun v9 w9 hp9 => ?_)
      obtain ⟨hc743, X743, rfl, rfl, hI743⟩ := hp9
      rw [puP]
      show gW g x (wP g B (aN_retro (on9 v) (ot9 v) (if od9 v = 0 then lo9 (sh9 v 5) 300 else v) (if od9 v = 0 then lo9 (sh9 v 8) 900 else sh9 v 3) S) X743) 1 6 [(9, vi (fe9 v)), (8, vi (mu9 v)), (7, vi (ot9 v)), (6, vi (on9 v)), (5, vi (la9 v)), (4, vi (ho9 v)), (3, vi (pe9 v)), (2, vi (od9 v)), (0, .ref (B 0)), (1, vi v)] 746 [vi (aR_retro (on9 v) (ot9 v) (if od9 v = 0 then lo9 (sh9 v 5) 300 else v) (if od9 v = 0 then lo9 (sh9 v 8) 900 else sh9 v 3) S)]
      refine g_i2lw C dL_act_746 ?_
      exact g_lret C hR dL_act_747 ⟨trivial, X743, (congrArg (fun q => some (vl q)) (act_6 (v := v) (S := S) hs).1.symm), (by rw [(act_6 (v := v) (S := S) hs).2]), (by rw [(act_6 (v := v) (S := S) hs).2]; exact hI743)⟩ rfl
    refine g_if_eq C 733 dL_act_724 (by decide) (by omega) (fun c724 => ?_) (fun c724 => ?_)
    · refine g_iload_n C 9 dL_act_733 rfl ?_
      refine g_bipush C dL_act_734 (by decide) ?_
      refine g_ishrY C dL_act_736 ?_
      refine g_sipush C dL_act_737 (by decide) ?_
      refine g_callSp C [vi (sh9 v 8), vi 900] [vi (if od9 v = 0 then lo9 (sh9 v 5) 300 else v), vi (ot9 v), vi (on9 v), .ref (B 0)] (c_L_low x.1.2.1 g (sh9 v 8) 900 (by omega)) y_L_low l_L_103 [] rfl (by decide) rfl (Nat.le_of_ble_eq_true rfl) rfl (by decide) dL_act_740 ?_
      exact J743 (lo9 (sh9 v 8) 900) (by omega)
    refine g_iload_n C 9 dL_act_727 rfl ?_
    refine g_iconst C dL_act_728 ?_
    refine g_ishrY C dL_act_729 ?_
    refine g_goto C 743 dL_act_730 (by decide) ?_
    exact J743 (sh9 v 3) (by omega)
  refine g_if_eq C 714 dL_act_707 (by decide) (by omega) (fun c707 => ?_) (fun c707 => ?_)
  · refine g_iload_n C 9 dL_act_714 rfl ?_
    refine g_iconst C dL_act_715 ?_
    refine g_ishrY C dL_act_716 ?_
    refine g_sipush C dL_act_717 (by decide) ?_
    refine g_callSp C [vi (sh9 v 5), vi 300] [vi (ot9 v), vi (on9 v), .ref (B 0)] (c_L_low x.1.2.1 g (sh9 v 5) 300 (by omega)) y_L_low l_L_103 [] rfl (by decide) rfl (Nat.le_of_ble_eq_true rfl) rfl (by decide) dL_act_720 ?_
    exact J723 (lo9 (sh9 v 5) 300) (by omega)
  refine g_iload_n C 9 dL_act_710 rfl ?_
  refine g_goto C 723 dL_act_711 (by decide) ?_
  exact J723 v (by omega)

set_option maxHeartbeats 4000000 in
set_option maxRecDepth 100000 in
theorem a_7 {g : gD} {x : gX} {B : Nat → Nat} {S X : Nat → Int → Int} {v : Int} (C : gC g x RL cL_act 10 14 1 6 341) (hZ : gZx x) (hst9 : x.1.2.1.stackTraces = false) (hR : gR g x (some .long) 1 6 (wP g B S X) (pO g B (actN v S) (vl (actR v S)) True)) (hI : iv9 S X) (hv : -2147483648 ≤ v ∧ v < 2147483648) (hs : (24 ≤ lo9 v 56 ∧ lo9 v 56 ≤ 25)) : gW g x (wP g B S X) 0 0 [(9, vi (fe9 v)), (8, vi (mu9 v)), (7, vi (ot9 v)), (6, vi (on9 v)), (5, vi (la9 v)), (4, vi (ho9 v)), (3, vi (pe9 v)), (2, vi (od9 v)), (0, .ref (B 0)), (1, vi v)] 748 [] := by
  have hpe9 := pe9_r v
  have hho9 := ho9_r v
  have hla9 := la9_r v
  have hon9 := on9_r v
  have hot9 := ot9_r v
  have hmu9 := mu9_r v
  have hfe9 := fe9_r v
  have hod := od9_r v
  have hmb := mu9_b (v := v)
  have hf0 := lo9_r (sh9 v 9) (n := 16) (by decide)
  have hf1 := sh9_r v 9
  refine g_aload_n C 8 dL_act_748 rfl ?_
  refine g_iload_n C 7 dL_act_749 rfl ?_
  have J767 : ∀ (w767 : Int), (w767 = (if od9 v = 0 then lo9 (sh9 v 9) 16 else mu9 v)) → gW g x (wP g B S X) 0 0 [(9, vi (fe9 v)), (8, vi (mu9 v)), (7, vi (ot9 v)), (6, vi (on9 v)), (5, vi (la9 v)), (4, vi (ho9 v)), (3, vi (pe9 v)), (2, vi (od9 v)), (0, .ref (B 0)), (1, vi v)] 767 [vi w767, .ref (B 0)] := by
    intro w767 hJ767
    subst hJ767
    refine g_callSZ C hZ [.ref (B 0), vi (if od9 v = 0 then lo9 (sh9 v 9) 16 else mu9 v)] [] (q_station x.1.2.1 hst9 g B S X (if od9 v = 0 then lo9 (sh9 v 9) 16 else mu9 v) hI (by omega)) y_L_station l_L_130 isP (hCP _ _ _ _) ndP rfl (Nat.le_of_ble_eq_true rfl) rfl (by decide) dL_act_767 (fun v9 w9 hp9 => ?_)
    obtain ⟨hc767, X767, rfl, rfl, hI767⟩ := hp9
    rw [puP]
    show gW g x (wP g B (aN_station (if od9 v = 0 then lo9 (sh9 v 9) 16 else mu9 v) S) X767) 1 6 [(9, vi (fe9 v)), (8, vi (mu9 v)), (7, vi (ot9 v)), (6, vi (on9 v)), (5, vi (la9 v)), (4, vi (ho9 v)), (3, vi (pe9 v)), (2, vi (od9 v)), (0, .ref (B 0)), (1, vi v)] 770 [vi (aR_station (if od9 v = 0 then lo9 (sh9 v 9) 16 else mu9 v) S)]
    refine g_i2lw C dL_act_770 ?_
    exact g_lret C hR dL_act_771 ⟨trivial, X767, (congrArg (fun q => some (vl q)) (act_7 (v := v) (S := S) hs).1.symm), (by rw [(act_7 (v := v) (S := S) hs).2]), (by rw [(act_7 (v := v) (S := S) hs).2]; exact hI767)⟩ rfl
  refine g_if_eq C 758 dL_act_750 (by decide) (by omega) (fun c750 => ?_) (fun c750 => ?_)
  · refine g_iload_n C 9 dL_act_758 rfl ?_
    refine g_bipush C dL_act_759 (by decide) ?_
    refine g_ishrY C dL_act_761 ?_
    refine g_bipush C dL_act_762 (by decide) ?_
    refine g_callSp C [vi (sh9 v 9), vi 16] [.ref (B 0)] (c_L_low x.1.2.1 g (sh9 v 9) 16 (by omega)) y_L_low l_L_103 [] rfl (by decide) rfl (Nat.le_of_ble_eq_true rfl) rfl (by decide) dL_act_764 ?_
    exact J767 (lo9 (sh9 v 9) 16) (by omega)
  refine g_iload C 1 dL_act_753 rfl ?_
  refine g_goto C 767 dL_act_755 (by decide) ?_
  exact J767 (mu9 v) (by omega)

set_option maxHeartbeats 4000000 in
set_option maxRecDepth 100000 in
theorem a_8 {g : gD} {x : gX} {B : Nat → Nat} {S X : Nat → Int → Int} {v : Int} (C : gC g x RL cL_act 10 14 1 6 341) (hZ : gZx x) (hst9 : x.1.2.1.stackTraces = false) (hR : gR g x (some .long) 1 6 (wP g B S X) (pO g B (actN v S) (vl (actR v S)) True)) (hI : iv9 S X) (hv : -2147483648 ≤ v ∧ v < 2147483648) (hs : (26 ≤ lo9 v 56 ∧ lo9 v 56 ≤ 29)) : gW g x (wP g B S X) 0 0 [(9, vi (fe9 v)), (8, vi (mu9 v)), (7, vi (ot9 v)), (6, vi (on9 v)), (5, vi (la9 v)), (4, vi (ho9 v)), (3, vi (pe9 v)), (2, vi (od9 v)), (0, .ref (B 0)), (1, vi v)] 772 [] := by
  have hpe9 := pe9_r v
  have hho9 := ho9_r v
  have hla9 := la9_r v
  have hon9 := on9_r v
  have hot9 := ot9_r v
  have hmu9 := mu9_r v
  have hfe9 := fe9_r v
  have hod := od9_r v
  have hmb := mu9_b (v := v)
  have hf0 := lo9_r (sh9 v 3) (n := 10) (by decide)
  have hf1 := sh9_r v 3
  refine g_aload_n C 8 dL_act_772 rfl ?_
  refine g_iload C 3 dL_act_773 rfl ?_
  refine g_iload C 5 dL_act_775 rfl ?_
  refine g_iload_n C 6 dL_act_777 rfl ?_
  refine g_iload_n C 7 dL_act_778 rfl ?_
  have J795 : ∀ (w795 : Int), (w795 = (if od9 v = 0 then lo9 (sh9 v 3) 10 else mu9 v)) → gW g x (wP g B S X) 0 0 [(9, vi (fe9 v)), (8, vi (mu9 v)), (7, vi (ot9 v)), (6, vi (on9 v)), (5, vi (la9 v)), (4, vi (ho9 v)), (3, vi (pe9 v)), (2, vi (od9 v)), (0, .ref (B 0)), (1, vi v)] 795 [vi w795, vi (pe9 v), vi (ho9 v), vi (on9 v), .ref (B 0)] := by
    intro w795 hJ795
    subst hJ795
    refine g_callSZ C hZ [.ref (B 0), vi (on9 v), vi (ho9 v), vi (pe9 v), vi (if od9 v = 0 then lo9 (sh9 v 3) 10 else mu9 v)] [] (q_reading x.1.2.1 hst9 g B S X (on9 v) (ho9 v) (pe9 v) (if od9 v = 0 then lo9 (sh9 v 3) 10 else mu9 v) hI (by omega) (by omega) (by omega) (by omega)) y_L_reading l_L_132 isP (hCP _ _ _ _) ndP rfl (Nat.le_of_ble_eq_true rfl) rfl (by decide) dL_act_795 (fun v9 w9 hp9 => ?_)
    obtain ⟨hc795, X795, rfl, rfl, hI795⟩ := hp9
    rw [puP]
    show gW g x (wP g B (aN_reading (on9 v) (ho9 v) (pe9 v) (if od9 v = 0 then lo9 (sh9 v 3) 10 else mu9 v) S) X795) 1 6 [(9, vi (fe9 v)), (8, vi (mu9 v)), (7, vi (ot9 v)), (6, vi (on9 v)), (5, vi (la9 v)), (4, vi (ho9 v)), (3, vi (pe9 v)), (2, vi (od9 v)), (0, .ref (B 0)), (1, vi v)] 798 [vi (aR_reading (on9 v) (ho9 v) (pe9 v) (if od9 v = 0 then lo9 (sh9 v 3) 10 else mu9 v) S)]
    refine g_i2lw C dL_act_798 ?_
    exact g_lret C hR dL_act_799 ⟨trivial, X795, (congrArg (fun q => some (vl q)) (act_8 (v := v) (S := S) hs).1.symm), (by rw [(act_8 (v := v) (S := S) hs).2]), (by rw [(act_8 (v := v) (S := S) hs).2]; exact hI795)⟩ rfl
  refine g_if_eq C 787 dL_act_779 (by decide) (by omega) (fun c779 => ?_) (fun c779 => ?_)
  · refine g_iload_n C 9 dL_act_787 rfl ?_
    refine g_iconst C dL_act_788 ?_
    refine g_ishrY C dL_act_789 ?_
    refine g_bipush C dL_act_790 (by decide) ?_
    refine g_callSp C [vi (sh9 v 3), vi 10] [vi (pe9 v), vi (ho9 v), vi (on9 v), .ref (B 0)] (c_L_low x.1.2.1 g (sh9 v 3) 10 (by omega)) y_L_low l_L_103 [] rfl (by decide) rfl (Nat.le_of_ble_eq_true rfl) rfl (by decide) dL_act_792 ?_
    exact J795 (lo9 (sh9 v 3) 10) (by omega)
  refine g_iload C 1 dL_act_782 rfl ?_
  refine g_goto C 795 dL_act_784 (by decide) ?_
  exact J795 (mu9 v) (by omega)

set_option maxHeartbeats 4000000 in
set_option maxRecDepth 100000 in
theorem a_9 {g : gD} {x : gX} {B : Nat → Nat} {S X : Nat → Int → Int} {v : Int} (C : gC g x RL cL_act 10 14 1 6 341) (hZ : gZx x) (hst9 : x.1.2.1.stackTraces = false) (hR : gR g x (some .long) 1 6 (wP g B S X) (pO g B (actN v S) (vl (actR v S)) True)) (hI : iv9 S X) (hv : -2147483648 ≤ v ∧ v < 2147483648) (hs : (30 ≤ lo9 v 56 ∧ lo9 v 56 ≤ 30)) : gW g x (wP g B S X) 0 0 [(9, vi (fe9 v)), (8, vi (mu9 v)), (7, vi (ot9 v)), (6, vi (on9 v)), (5, vi (la9 v)), (4, vi (ho9 v)), (3, vi (pe9 v)), (2, vi (od9 v)), (0, .ref (B 0)), (1, vi v)] 800 [] := by
  have hpe9 := pe9_r v
  have hho9 := ho9_r v
  have hla9 := la9_r v
  have hon9 := on9_r v
  have hot9 := ot9_r v
  have hmu9 := mu9_r v
  have hfe9 := fe9_r v
  have hod := od9_r v
  have hmb := mu9_b (v := v)
  refine g_aload_n C 8 dL_act_800 rfl ?_
  refine g_iload C 3 dL_act_801 rfl ?_
  refine g_iload C 5 dL_act_803 rfl ?_
  refine g_callSZ C hZ [.ref (B 0), vi (on9 v), vi (ho9 v)] [] (q_fails x.1.2.1 hst9 g B S X (on9 v) (ho9 v) hI (by omega) (by omega)) y_L_fails l_L_134 isP (hCP _ _ _ _) ndP rfl (Nat.le_of_ble_eq_true rfl) rfl (by decide) dL_act_805 (fun v9 w9 hp9 => ?_)
  obtain ⟨hc805, X805, rfl, rfl, hI805⟩ := hp9
  rw [puP]
  show gW g x (wP g B (aN_fails (on9 v) (ho9 v) S) X805) 1 6 [(9, vi (fe9 v)), (8, vi (mu9 v)), (7, vi (ot9 v)), (6, vi (on9 v)), (5, vi (la9 v)), (4, vi (ho9 v)), (3, vi (pe9 v)), (2, vi (od9 v)), (0, .ref (B 0)), (1, vi v)] 808 [vi (aR_fails (on9 v) (ho9 v) S)]
  refine g_i2lw C dL_act_808 ?_
  exact g_lret C hR dL_act_809 ⟨trivial, X805, (congrArg (fun q => some (vl q)) (act_9 (v := v) (S := S) hs).1.symm), (by rw [(act_9 (v := v) (S := S) hs).2]), (by rw [(act_9 (v := v) (S := S) hs).2]; exact hI805)⟩ rfl

set_option maxHeartbeats 4000000 in
set_option maxRecDepth 100000 in
theorem a_10 {g : gD} {x : gX} {B : Nat → Nat} {S X : Nat → Int → Int} {v : Int} (C : gC g x RL cL_act 10 14 1 6 341) (hZ : gZx x) (hst9 : x.1.2.1.stackTraces = false) (hR : gR g x (some .long) 1 6 (wP g B S X) (pO g B (actN v S) (vl (actR v S)) True)) (hI : iv9 S X) (hv : -2147483648 ≤ v ∧ v < 2147483648) (hs : (31 ≤ lo9 v 56 ∧ lo9 v 56 ≤ 32)) : gW g x (wP g B S X) 0 0 [(9, vi (fe9 v)), (8, vi (mu9 v)), (7, vi (ot9 v)), (6, vi (on9 v)), (5, vi (la9 v)), (4, vi (ho9 v)), (3, vi (pe9 v)), (2, vi (od9 v)), (0, .ref (B 0)), (1, vi v)] 810 [] := by
  have hpe9 := pe9_r v
  have hho9 := ho9_r v
  have hla9 := la9_r v
  have hon9 := on9_r v
  have hot9 := ot9_r v
  have hmu9 := mu9_r v
  have hfe9 := fe9_r v
  have hod := od9_r v
  have hmb := mu9_b (v := v)
  have hf0 := lo9_r (sh9 v 3) (n := 65535) (by decide)
  have hf1 := lo9_r (sh9 v 12) (n := 9) (by decide)
  have hf2 := lo9_r (sh9 v 10) (n := 100) (by decide)
  have hf3 := sh9_r v 3
  have hf4 := sh9_r v 12
  have hf5 := sh9_r v 10
  refine g_aload_n C 8 dL_act_810 rfl ?_
  refine g_iload_n C 7 dL_act_811 rfl ?_
  have J823 : ∀ (w823 : Int), (w823 = (if od9 v = 0 then 1 + (mu9 v) else v)) → gW g x (wP g B S X) 0 0 [(9, vi (fe9 v)), (8, vi (mu9 v)), (7, vi (ot9 v)), (6, vi (on9 v)), (5, vi (la9 v)), (4, vi (ho9 v)), (3, vi (pe9 v)), (2, vi (od9 v)), (0, .ref (B 0)), (1, vi v)] 823 [vi w823, .ref (B 0)] := by
    intro w823 hJ823
    subst hJ823
    refine g_iload_n C 6 dL_act_823 rfl ?_
    refine g_iload_n C 7 dL_act_824 rfl ?_
    have J843 : ∀ (w843 : Int), (w843 = (if od9 v = 0 then 1 + (lo9 (sh9 v 3) 65535) else mu9 v)) → gW g x (wP g B S X) 0 0 [(9, vi (fe9 v)), (8, vi (mu9 v)), (7, vi (ot9 v)), (6, vi (on9 v)), (5, vi (la9 v)), (4, vi (ho9 v)), (3, vi (pe9 v)), (2, vi (od9 v)), (0, .ref (B 0)), (1, vi v)] 843 [vi w843, vi (pe9 v), vi (if od9 v = 0 then 1 + (mu9 v) else v), .ref (B 0)] := by
      intro w843 hJ843
      subst hJ843
      refine g_iload_n C 7 dL_act_843 rfl ?_
      have J856 : ∀ (w856 : Int), (w856 = (if od9 v = 0 then (ho9 v) / 2 else fe9 v)) → gW g x (wP g B S X) 0 0 [(9, vi (fe9 v)), (8, vi (mu9 v)), (7, vi (ot9 v)), (6, vi (on9 v)), (5, vi (la9 v)), (4, vi (ho9 v)), (3, vi (pe9 v)), (2, vi (od9 v)), (0, .ref (B 0)), (1, vi v)] 856 [vi w856, vi (if od9 v = 0 then 1 + (lo9 (sh9 v 3) 65535) else mu9 v), vi (pe9 v), vi (if od9 v = 0 then 1 + (mu9 v) else v), .ref (B 0)] := by
        intro w856 hJ856
        subst hJ856
        refine g_iload C 5 dL_act_856 rfl ?_
        refine g_iload_n C 7 dL_act_858 rfl ?_
        have J878 : ∀ (w878 : Int), (w878 = (if od9 v = 0 then 1 + (lo9 (sh9 v 12) 9) else mu9 v)) → gW g x (wP g B S X) 0 0 [(9, vi (fe9 v)), (8, vi (mu9 v)), (7, vi (ot9 v)), (6, vi (on9 v)), (5, vi (la9 v)), (4, vi (ho9 v)), (3, vi (pe9 v)), (2, vi (od9 v)), (0, .ref (B 0)), (1, vi v)] 878 [vi w878, vi (ho9 v), vi (if od9 v = 0 then (ho9 v) / 2 else fe9 v), vi (if od9 v = 0 then 1 + (lo9 (sh9 v 3) 65535) else mu9 v), vi (pe9 v), vi (if od9 v = 0 then 1 + (mu9 v) else v), .ref (B 0)] := by
          intro w878 hJ878
          subst hJ878
          refine g_iload_n C 7 dL_act_878 rfl ?_
          have J898 : ∀ (w898 : Int), (w898 = (if od9 v = 0 then 1 + (lo9 (sh9 v 10) 100) else mu9 v)) → gW g x (wP g B S X) 0 0 [(9, vi (fe9 v)), (8, vi (mu9 v)), (7, vi (ot9 v)), (6, vi (on9 v)), (5, vi (la9 v)), (4, vi (ho9 v)), (3, vi (pe9 v)), (2, vi (od9 v)), (0, .ref (B 0)), (1, vi v)] 898 [vi w898, vi (if od9 v = 0 then 1 + (lo9 (sh9 v 12) 9) else mu9 v), vi (ho9 v), vi (if od9 v = 0 then (ho9 v) / 2 else fe9 v), vi (if od9 v = 0 then 1 + (lo9 (sh9 v 3) 65535) else mu9 v), vi (pe9 v), vi (if od9 v = 0 then 1 + (mu9 v) else v), .ref (B 0)] := by
            intro w898 hJ898
            subst hJ898
            refine g_callSZ C hZ [.ref (B 0), vi (if od9 v = 0 then 1 + (mu9 v) else v), vi (pe9 v), vi (if od9 v = 0 then 1 + (lo9 (sh9 v 3) 65535) else mu9 v), vi (if od9 v = 0 then (ho9 v) / 2 else fe9 v), vi (ho9 v), vi (if od9 v = 0 then 1 + (lo9 (sh9 v 12) 9) else mu9 v), vi (if od9 v = 0 then 1 + (lo9 (sh9 v 10) 100) else mu9 v)] [] (q_bond x.1.2.1 hst9 g B S X (if od9 v = 0 then 1 + (mu9 v) else v) (pe9 v) (if od9 v = 0 then 1 + (lo9 (sh9 v 3) 65535) else mu9 v) (if od9 v = 0 then (ho9 v) / 2 else fe9 v) (ho9 v) (if od9 v = 0 then 1 + (lo9 (sh9 v 12) 9) else mu9 v) (if od9 v = 0 then 1 + (lo9 (sh9 v 10) 100) else mu9 v) hI (by omega) (by omega) (by omega) (by omega) (by omega) (by omega) (by omega)) y_L_bond l_L_137 isP (hCP _ _ _ _) ndP rfl (Nat.le_of_ble_eq_true rfl) rfl (by decide) dL_act_898 (fun v9 w9 hp9 => ?_)
            obtain ⟨hc898, X898, rfl, rfl, hI898⟩ := hp9
            rw [puP]
            show gW g x (wP g B (aN_bond (if od9 v = 0 then 1 + (mu9 v) else v) (pe9 v) (if od9 v = 0 then 1 + (lo9 (sh9 v 3) 65535) else mu9 v) (if od9 v = 0 then (ho9 v) / 2 else fe9 v) (ho9 v) (if od9 v = 0 then 1 + (lo9 (sh9 v 12) 9) else mu9 v) (if od9 v = 0 then 1 + (lo9 (sh9 v 10) 100) else mu9 v) S) X898) 1 6 [(9, vi (fe9 v)), (8, vi (mu9 v)), (7, vi (ot9 v)), (6, vi (on9 v)), (5, vi (la9 v)), (4, vi (ho9 v)), (3, vi (pe9 v)), (2, vi (od9 v)), (0, .ref (B 0)), (1, vi v)] 901 [vi (aR_bond (if od9 v = 0 then 1 + (mu9 v) else v) (pe9 v) (if od9 v = 0 then 1 + (lo9 (sh9 v 3) 65535) else mu9 v) (if od9 v = 0 then (ho9 v) / 2 else fe9 v) (ho9 v) (if od9 v = 0 then 1 + (lo9 (sh9 v 12) 9) else mu9 v) (if od9 v = 0 then 1 + (lo9 (sh9 v 10) 100) else mu9 v) S)]
            refine g_i2lw C dL_act_901 ?_
            exact g_lret C hR dL_act_902 ⟨trivial, X898, (congrArg (fun q => some (vl q)) (act_10 (v := v) (S := S) hs).1.symm), (by rw [(act_10 (v := v) (S := S) hs).2]), (by rw [(act_10 (v := v) (S := S) hs).2]; exact hI898)⟩ rfl
          refine g_if_eq C 887 dL_act_879 (by decide) (by omega) (fun c879 => ?_) (fun c879 => ?_)
          · refine g_iconst C dL_act_887 ?_
            refine g_iload_n C 9 dL_act_888 rfl ?_
            refine g_bipush C dL_act_889 (by decide) ?_
            refine g_ishrY C dL_act_891 ?_
            refine g_bipush C dL_act_892 (by decide) ?_
            refine g_callSp C [vi (sh9 v 10), vi 100] [vi 1, vi (if od9 v = 0 then 1 + (lo9 (sh9 v 12) 9) else mu9 v), vi (ho9 v), vi (if od9 v = 0 then (ho9 v) / 2 else fe9 v), vi (if od9 v = 0 then 1 + (lo9 (sh9 v 3) 65535) else mu9 v), vi (pe9 v), vi (if od9 v = 0 then 1 + (mu9 v) else v), .ref (B 0)] (c_L_low x.1.2.1 g (sh9 v 10) 100 (by omega)) y_L_low l_L_103 [] rfl (by decide) rfl (Nat.le_of_ble_eq_true rfl) rfl (by decide) dL_act_894 ?_
            refine g_iadd C dL_act_897 ?_
            exact J898 (1 + (lo9 (sh9 v 10) 100)) (by omega)
          refine g_iload C 1 dL_act_882 rfl ?_
          refine g_goto C 898 dL_act_884 (by decide) ?_
          exact J898 (mu9 v) (by omega)
        refine g_if_eq C 867 dL_act_859 (by decide) (by omega) (fun c859 => ?_) (fun c859 => ?_)
        · refine g_iconst C dL_act_867 ?_
          refine g_iload_n C 9 dL_act_868 rfl ?_
          refine g_bipush C dL_act_869 (by decide) ?_
          refine g_ishrY C dL_act_871 ?_
          refine g_bipush C dL_act_872 (by decide) ?_
          refine g_callSp C [vi (sh9 v 12), vi 9] [vi 1, vi (ho9 v), vi (if od9 v = 0 then (ho9 v) / 2 else fe9 v), vi (if od9 v = 0 then 1 + (lo9 (sh9 v 3) 65535) else mu9 v), vi (pe9 v), vi (if od9 v = 0 then 1 + (mu9 v) else v), .ref (B 0)] (c_L_low x.1.2.1 g (sh9 v 12) 9 (by omega)) y_L_low l_L_103 [] rfl (by decide) rfl (Nat.le_of_ble_eq_true rfl) rfl (by decide) dL_act_874 ?_
          refine g_iadd C dL_act_877 ?_
          exact J878 (1 + (lo9 (sh9 v 12) 9)) (by omega)
        refine g_iload C 1 dL_act_862 rfl ?_
        refine g_goto C 878 dL_act_864 (by decide) ?_
        exact J878 (mu9 v) (by omega)
      refine g_if_eq C 852 dL_act_844 (by decide) (by omega) (fun c844 => ?_) (fun c844 => ?_)
      · refine g_iload C 5 dL_act_852 rfl ?_
        refine g_iconst C dL_act_854 ?_
        have h855 := ho9_nn (v := v) (by omega)
        refine g_idiv C dL_act_855 (by omega) (by omega) ?_
        exact J856 ((ho9 v) / 2) (by omega)
      refine g_iload C 0 dL_act_847 rfl ?_
      refine g_goto C 856 dL_act_849 (by decide) ?_
      exact J856 (fe9 v) (by omega)
    refine g_if_eq C 833 dL_act_825 (by decide) (by omega) (fun c825 => ?_) (fun c825 => ?_)
    · refine g_iconst C dL_act_833 ?_
      refine g_iload_n C 9 dL_act_834 rfl ?_
      refine g_iconst C dL_act_835 ?_
      refine g_ishrY C dL_act_836 ?_
      refine g_ldc C (65535) n_L_136 (by decide) dL_act_837 ?_
      refine g_callSp C [vi (sh9 v 3), vi 65535] [vi 1, vi (pe9 v), vi (if od9 v = 0 then 1 + (mu9 v) else v), .ref (B 0)] (c_L_low x.1.2.1 g (sh9 v 3) 65535 (by omega)) y_L_low l_L_103 [] rfl (by decide) rfl (Nat.le_of_ble_eq_true rfl) rfl (by decide) dL_act_839 ?_
      refine g_iadd C dL_act_842 ?_
      exact J843 (1 + (lo9 (sh9 v 3) 65535)) (by omega)
    refine g_iload C 1 dL_act_828 rfl ?_
    refine g_goto C 843 dL_act_830 (by decide) ?_
    exact J843 (mu9 v) (by omega)
  refine g_if_eq C 819 dL_act_812 (by decide) (by omega) (fun c812 => ?_) (fun c812 => ?_)
  · refine g_iconst C dL_act_819 ?_
    refine g_iload C 1 dL_act_820 rfl ?_
    refine g_iadd C dL_act_822 ?_
    exact J823 (1 + (mu9 v)) (by omega)
  refine g_iload_n C 9 dL_act_815 rfl ?_
  refine g_goto C 823 dL_act_816 (by decide) ?_
  exact J823 v (by omega)

set_option maxHeartbeats 4000000 in
set_option maxRecDepth 100000 in
theorem a_11 {g : gD} {x : gX} {B : Nat → Nat} {S X : Nat → Int → Int} {v : Int} (C : gC g x RL cL_act 10 14 1 6 341) (hZ : gZx x) (hst9 : x.1.2.1.stackTraces = false) (hR : gR g x (some .long) 1 6 (wP g B S X) (pO g B (actN v S) (vl (actR v S)) True)) (hI : iv9 S X) (hv : -2147483648 ≤ v ∧ v < 2147483648) (hs : (33 ≤ lo9 v 56 ∧ lo9 v 56 ≤ 33)) : gW g x (wP g B S X) 0 0 [(9, vi (fe9 v)), (8, vi (mu9 v)), (7, vi (ot9 v)), (6, vi (on9 v)), (5, vi (la9 v)), (4, vi (ho9 v)), (3, vi (pe9 v)), (2, vi (od9 v)), (0, .ref (B 0)), (1, vi v)] 903 [] := by
  have hpe9 := pe9_r v
  have hho9 := ho9_r v
  have hla9 := la9_r v
  have hon9 := on9_r v
  have hot9 := ot9_r v
  have hmu9 := mu9_r v
  have hfe9 := fe9_r v
  have hod := od9_r v
  have hmb := mu9_b (v := v)
  have hf0 := lo9_r (sh9 v 3) (n := 90) (by decide)
  have hf1 := sh9_r v 3
  refine g_aload_n C 8 dL_act_903 rfl ?_
  refine g_iload C 0 dL_act_904 rfl ?_
  refine g_iload_n C 7 dL_act_906 rfl ?_
  have J925 : ∀ (w925 : Int), (w925 = (if od9 v = 0 then 1 + (lo9 (sh9 v 3) 90) else mu9 v)) → gW g x (wP g B S X) 0 0 [(9, vi (fe9 v)), (8, vi (mu9 v)), (7, vi (ot9 v)), (6, vi (on9 v)), (5, vi (la9 v)), (4, vi (ho9 v)), (3, vi (pe9 v)), (2, vi (od9 v)), (0, .ref (B 0)), (1, vi v)] 925 [vi w925, vi (fe9 v), .ref (B 0)] := by
    intro w925 hJ925
    subst hJ925
    refine g_callSZ C hZ [.ref (B 0), vi (fe9 v), vi (if od9 v = 0 then 1 + (lo9 (sh9 v 3) 90) else mu9 v)] [] (q_extend x.1.2.1 hst9 g B S X (fe9 v) (if od9 v = 0 then 1 + (lo9 (sh9 v 3) 90) else mu9 v) hI (by omega) (by omega)) y_L_extend l_L_140 isP (hCP _ _ _ _) ndP rfl (Nat.le_of_ble_eq_true rfl) rfl (by decide) dL_act_925 (fun v9 w9 hp9 => ?_)
    obtain ⟨hc925, X925, rfl, rfl, hI925⟩ := hp9
    rw [puP]
    show gW g x (wP g B (aN_extend (fe9 v) (if od9 v = 0 then 1 + (lo9 (sh9 v 3) 90) else mu9 v) S) X925) 1 6 [(9, vi (fe9 v)), (8, vi (mu9 v)), (7, vi (ot9 v)), (6, vi (on9 v)), (5, vi (la9 v)), (4, vi (ho9 v)), (3, vi (pe9 v)), (2, vi (od9 v)), (0, .ref (B 0)), (1, vi v)] 928 [vi (aR_extend (fe9 v) (if od9 v = 0 then 1 + (lo9 (sh9 v 3) 90) else mu9 v) S)]
    refine g_i2lw C dL_act_928 ?_
    exact g_lret C hR dL_act_929 ⟨trivial, X925, (congrArg (fun q => some (vl q)) (act_11 (v := v) (S := S) hs).1.symm), (by rw [(act_11 (v := v) (S := S) hs).2]), (by rw [(act_11 (v := v) (S := S) hs).2]; exact hI925)⟩ rfl
  refine g_if_eq C 915 dL_act_907 (by decide) (by omega) (fun c907 => ?_) (fun c907 => ?_)
  · refine g_iconst C dL_act_915 ?_
    refine g_iload_n C 9 dL_act_916 rfl ?_
    refine g_iconst C dL_act_917 ?_
    refine g_ishrY C dL_act_918 ?_
    refine g_bipush C dL_act_919 (by decide) ?_
    refine g_callSp C [vi (sh9 v 3), vi 90] [vi 1, vi (fe9 v), .ref (B 0)] (c_L_low x.1.2.1 g (sh9 v 3) 90 (by omega)) y_L_low l_L_103 [] rfl (by decide) rfl (Nat.le_of_ble_eq_true rfl) rfl (by decide) dL_act_921 ?_
    refine g_iadd C dL_act_924 ?_
    exact J925 (1 + (lo9 (sh9 v 3) 90)) (by omega)
  refine g_iload C 1 dL_act_910 rfl ?_
  refine g_goto C 925 dL_act_912 (by decide) ?_
  exact J925 (mu9 v) (by omega)

set_option maxHeartbeats 4000000 in
set_option maxRecDepth 100000 in
theorem a_12 {g : gD} {x : gX} {B : Nat → Nat} {S X : Nat → Int → Int} {v : Int} (C : gC g x RL cL_act 10 14 1 6 341) (hZ : gZx x) (hst9 : x.1.2.1.stackTraces = false) (hR : gR g x (some .long) 1 6 (wP g B S X) (pO g B (actN v S) (vl (actR v S)) True)) (hI : iv9 S X) (hv : -2147483648 ≤ v ∧ v < 2147483648) (hs : (34 ≤ lo9 v 56 ∧ lo9 v 56 ≤ 34)) : gW g x (wP g B S X) 0 0 [(9, vi (fe9 v)), (8, vi (mu9 v)), (7, vi (ot9 v)), (6, vi (on9 v)), (5, vi (la9 v)), (4, vi (ho9 v)), (3, vi (pe9 v)), (2, vi (od9 v)), (0, .ref (B 0)), (1, vi v)] 930 [] := by
  have hpe9 := pe9_r v
  have hho9 := ho9_r v
  have hla9 := la9_r v
  have hon9 := on9_r v
  have hot9 := ot9_r v
  have hmu9 := mu9_r v
  have hfe9 := fe9_r v
  have hod := od9_r v
  have hmb := mu9_b (v := v)
  have hf0 := lo9_r (sh9 v 3) (n := 60) (by decide)
  have hf1 := sh9_r v 3
  refine g_aload_n C 8 dL_act_930 rfl ?_
  refine g_iload_n C 7 dL_act_931 rfl ?_
  have J950 : ∀ (w950 : Int), (w950 = (if od9 v = 0 then 1 + (lo9 (sh9 v 3) 60) else mu9 v)) → gW g x (wP g B S X) 0 0 [(9, vi (fe9 v)), (8, vi (mu9 v)), (7, vi (ot9 v)), (6, vi (on9 v)), (5, vi (la9 v)), (4, vi (ho9 v)), (3, vi (pe9 v)), (2, vi (od9 v)), (0, .ref (B 0)), (1, vi v)] 950 [vi w950, .ref (B 0)] := by
    intro w950 hJ950
    subst hJ950
    refine g_callSZ C hZ [.ref (B 0), vi (if od9 v = 0 then 1 + (lo9 (sh9 v 3) 60) else mu9 v)] [] (q_pass x.1.2.1 hst9 g B S X (if od9 v = 0 then 1 + (lo9 (sh9 v 3) 60) else mu9 v) hI (by omega)) y_L_pass l_L_142 isP (hCP _ _ _ _) ndP rfl (Nat.le_of_ble_eq_true rfl) rfl (by decide) dL_act_950 (fun v9 w9 hp9 => ?_)
    obtain ⟨hc950, X950, rfl, rfl, hI950⟩ := hp9
    rw [puP]
    show gW g x (wP g B (aN_pass (if od9 v = 0 then 1 + (lo9 (sh9 v 3) 60) else mu9 v) S) X950) 1 6 [(9, vi (fe9 v)), (8, vi (mu9 v)), (7, vi (ot9 v)), (6, vi (on9 v)), (5, vi (la9 v)), (4, vi (ho9 v)), (3, vi (pe9 v)), (2, vi (od9 v)), (0, .ref (B 0)), (1, vi v)] 953 [vi (aR_pass (if od9 v = 0 then 1 + (lo9 (sh9 v 3) 60) else mu9 v) S)]
    refine g_i2lw C dL_act_953 ?_
    exact g_lret C hR dL_act_954 ⟨trivial, X950, (congrArg (fun q => some (vl q)) (act_12 (v := v) (S := S) hs).1.symm), (by rw [(act_12 (v := v) (S := S) hs).2]), (by rw [(act_12 (v := v) (S := S) hs).2]; exact hI950)⟩ rfl
  refine g_if_eq C 940 dL_act_932 (by decide) (by omega) (fun c932 => ?_) (fun c932 => ?_)
  · refine g_iconst C dL_act_940 ?_
    refine g_iload_n C 9 dL_act_941 rfl ?_
    refine g_iconst C dL_act_942 ?_
    refine g_ishrY C dL_act_943 ?_
    refine g_bipush C dL_act_944 (by decide) ?_
    refine g_callSp C [vi (sh9 v 3), vi 60] [vi 1, .ref (B 0)] (c_L_low x.1.2.1 g (sh9 v 3) 60 (by omega)) y_L_low l_L_103 [] rfl (by decide) rfl (Nat.le_of_ble_eq_true rfl) rfl (by decide) dL_act_946 ?_
    refine g_iadd C dL_act_949 ?_
    exact J950 (1 + (lo9 (sh9 v 3) 60)) (by omega)
  refine g_iload C 1 dL_act_935 rfl ?_
  refine g_goto C 950 dL_act_937 (by decide) ?_
  exact J950 (mu9 v) (by omega)

