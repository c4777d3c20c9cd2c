noncomputable def aR_loss (p h u : Int) (S : Nat → Int → Int) : Int := @ite Int (vC_loss p h u S) (Classical.propDecidable _) (vR_loss p h u S) (-2000000000)
noncomputable def aN_loss (p h u : Int) (S : Nat → Int → Int) : Nat → Int → Int := @ite (Nat → Int → Int) (vC_loss p h u S) (Classical.propDecidable _) (vN_loss p h u S) S
noncomputable def aR_creep (v u : Int) (S : Nat → Int → Int) : Int := @ite Int (vC_creep v u S) (Classical.propDecidable _) (vR_creep v u S) (-2000000000)
noncomputable def aN_creep (v u : Int) (S : Nat → Int → Int) : Nat → Int → Int := @ite (Nat → Int → Int) (vC_creep v u S) (Classical.propDecidable _) (vN_creep v u S) S
noncomputable def aR_choose (p a b : Int) (S : Nat → Int → Int) : Int := @ite Int (vC_choose p a b S) (Classical.propDecidable _) (vR_choose p a b S) (-2000000000)
noncomputable def aN_choose (p a b : Int) (S : Nat → Int → Int) : Nat → Int → Int := @ite (Nat → Int → Int) (vC_choose p a b S) (Classical.propDecidable _) (vN_choose p a b S) S
noncomputable def aR_unchoose (S : Nat → Int → Int) : Int := @ite Int (vC_unchoose S) (Classical.propDecidable _) (vR_unchoose S) (-2000000000)
noncomputable def aN_unchoose (S : Nat → Int → Int) : Nat → Int → Int := @ite (Nat → Int → Int) (vC_unchoose S) (Classical.propDecidable _) (vN_unchoose S) S
noncomputable def aR_quota (v : Int) (S : Nat → Int → Int) : Int := @ite Int (vC_quota v S) (Classical.propDecidable _) (vR_quota v S) (-2000000000)
noncomputable def aN_quota (v : Int) (S : Nat → Int → Int) : Nat → Int → Int := @ite (Nat → Int → Int) (vC_quota v S) (Classical.propDecidable _) (vN_quota v S) S
noncomputable def aR_layer (a1 a2 a3 a4 a5 a6 : Int) (S : Nat → Int → Int) : Int := @ite Int (vC_layer a1 a2 a3 a4 a5 a6 S) (Classical.propDecidable _) (vR_layer a1 a2 a3 a4 a5 a6 S) (-2000000000)
noncomputable def aN_layer (a1 a2 a3 a4 a5 a6 : Int) (S : Nat → Int → Int) : Nat → Int → Int := @ite (Nat → Int → Int) (vC_layer a1 a2 a3 a4 a5 a6 S) (Classical.propDecidable _) (vN_layer a1 a2 a3 a4 a5 a6 S) S
noncomputable def aR_part (y z v : Int) (S : Nat → Int → Int) : Int := @ite Int (vC_part y z v S) (Classical.propDecidable _) (vR_part y z v S) (-2000000000)
noncomputable def aN_part (y z v : Int) (S : Nat → Int → Int) : Nat → Int → Int := @ite (Nat → Int → Int) (vC_part y z v S) (Classical.propDecidable _) (vN_part y z v S) S
noncomputable def aR_retro (y z a b : Int) (S : Nat → Int → Int) : Int := @ite Int (vC_retro y z a b S) (Classical.propDecidable _) (vR_retro y z a b S) (-2000000000)
noncomputable def aN_retro (y z a b : Int) (S : Nat → Int → Int) : Nat → Int → Int := @ite (Nat → Int → Int) (vC_retro y z a b S) (Classical.propDecidable _) (vN_retro y z a b S) S
noncomputable def aR_station (v : Int) (S : Nat → Int → Int) : Int := @ite Int (vC_station v S) (Classical.propDecidable _) (vR_station v S) (-2000000000)
noncomputable def aN_station (v : Int) (S : Nat → Int → Int) : Nat → Int → Int := @ite (Nat → Int → Int) (vC_station v S) (Classical.propDecidable _) (vN_station v S) S
noncomputable def aR_reading (a1 a2 a3 a4 : Int) (S : Nat → Int → Int) : Int := @ite Int (vC_reading a1 a2 a3 a4 S) (Classical.propDecidable _) (vR_reading a1 a2 a3 a4 S) (-2000000000)
noncomputable def aN_reading (a1 a2 a3 a4 : Int) (S : Nat → Int → Int) : Nat → Int → Int := @ite (Nat → Int → Int) (vC_reading a1 a2 a3 a4 S) (Classical.propDecidable _) (vN_reading a1 a2 a3 a4 S) S
noncomputable def aR_fails (s h : Int) (S : Nat → Int → Int) : Int := @ite Int (vC_fails s h S) (Classical.propDecidable _) (vR_fails s h S) (-2000000000)
noncomputable def aN_fails (s h : Int) (S : Nat → Int → Int) : Nat → Int → Int := @ite (Nat → Int → Int) (vC_fails s h S) (Classical.propDecidable _) (vN_fails s h S) S
noncomputable def aR_bond (a1 a2 a3 a4 a5 a6 a7 : Int) (S : Nat → Int → Int) : Int := @ite Int (vC_bond a1 a2 a3 a4 a5 a6 a7 S) (Classical.propDecidable _) (vR_bond a1 a2 a3 a4 a5 a6 a7 S) (-2000000000)
noncomputable def aN_bond (a1 a2 a3 a4 a5 a6 a7 : Int) (S : Nat → Int → Int) : Nat → Int → Int := @ite (Nat → Int → Int) (vC_bond a1 a2 a3 a4 a5 a6 a7 S) (Classical.propDecidable _) (vN_bond a1 a2 a3 a4 a5 a6 a7 S) S
noncomputable def aR_extend (b h : Int) (S : Nat → Int → Int) : Int := @ite Int (vC_extend b h S) (Classical.propDecidable _) (vR_extend b h S) (-2000000000)
noncomputable def aN_extend (b h : Int) (S : Nat → Int → Int) : Nat → Int → Int := @ite (Nat → Int → Int) (vC_extend b h S) (Classical.propDecidable _) (vN_extend b h S) S
noncomputable def aR_pass (h : Int) (S : Nat → Int → Int) : Int := @ite Int (vC_pass h S) (Classical.propDecidable _) (vR_pass h S) (-2000000000)
noncomputable def aN_pass (h : Int) (S : Nat → Int → Int) : Nat → Int → Int := @ite (Nat → Int → Int) (vC_pass h S) (Classical.propDecidable _) (vN_pass h S) S
noncomputable def aR_scenario (q a b : Int) (S : Nat → Int → Int) : Int := @ite Int (vC_scenario q a b S) (Classical.propDecidable _) (vR_scenario q a b S) (-2000000000)
noncomputable def aN_scenario (q a b : Int) (S : Nat → Int → Int) : Nat → Int → Int := @ite (Nat → Int → Int) (vC_scenario q a b S) (Classical.propDecidable _) (vN_scenario q a b S) S
noncomputable def aR_occurrence (o w : Int) (S : Nat → Int → Int) : Int := @ite Int (vC_occurrence o w S) (Classical.propDecidable _) (vR_occurrence o w S) (-2000000000)
noncomputable def aR_hit (y o w : Int) (S : Nat → Int → Int) : Int := @ite Int (vC_hit y o w S) (Classical.propDecidable _) (vR_hit y o w S) (-2000000000)
noncomputable def aR_sum (w : Int) (S : Nat → Int → Int) : Int := @ite Int (vC_sum w S) (Classical.propDecidable _) (vR_sum w S) (-2000000000)
noncomputable def aR_reinsurer (z w : Int) (S : Nat → Int → Int) : Int := @ite Int (vC_reinsurer z w S) (Classical.propDecidable _) (vR_reinsurer z w S) (-2000000000)
noncomputable def aR_best (p : Int) (S : Nat → Int → Int) : Int := @ite Int (vC_best p S) (Classical.propDecidable _) (vR_best p S) (-2000000000)
noncomputable def aR_bestAnew (p : Int) (S : Nat → Int → Int) : Int := @ite Int (vC_bestAnew p S) (Classical.propDecidable _) (vR_bestAnew p S) (-2000000000)
noncomputable def aR_ofBond (b w : Int) (S : Nat → Int → Int) : Int := @ite Int (vC_ofBond b w S) (Classical.propDecidable _) (vR_ofBond b w S) (-2000000000)
noncomputable def aR_price (y q : Int) (S : Nat → Int → Int) : Int := @ite Int (vC_price y q S) (Classical.propDecidable _) (vR_price y q S) (-9000000000000000)
noncomputable def aR_tail (y q u : Int) (S : Nat → Int → Int) : Int := @ite Int (vC_tail y q u S) (Classical.propDecidable _) (vR_tail y q u S) (-2000000000)
noncomputable def aR_dearest (y bb : Int) (S : Nat → Int → Int) : Int := @ite Int (vC_dearest y bb S) (Classical.propDecidable _) (vR_dearest y bb S) (-9000000000000000)

set_option maxHeartbeats 4000000 in
set_option maxRecDepth 100000 in
theorem q_loss (l : Launch) (hst9 : l.stackTraces = false) (g : gD) (B : Nat → Nat) (S X : Nat → Int → Int) (p h u : Int) (hI : iv9 S X) (h9p : -2147483648 ≤ p ∧ p < 2147483648) (h9h : -2147483648 ≤ h ∧ h < 2147483648) (h9u : -2147483648 ≤ u ∧ u < 2147483648) : gMetZ l g yL_loss cL_loss 5 (some .int) [(0, 7, 8, 14), (0, 7, 13, 17)] 7 1 6 123 [.ref (B 0), vi p, vi h, vi u] (wP g B S X) (pO g B (aN_loss p h u S) (vi (aR_loss p h u S)) True) := by
  refine gMetZ.of (by decide +kernel) (Nat.le_of_ble_eq_true rfl) ?_
  intro x hlx C hR hZ hT
  subst hlx
  have C : gC g x RL cL_loss 5 7 1 6 123 := C
  show gW g x (wP g B S X) 0 0 [(0, .ref (B 0)), (1, vi p), (2, vi h), (3, vi u)] 0 []
  refine g_aload_n C 0 dL_loss_0 rfl ?_
  refine g_iload_n C 1 dL_loss_1 rfl ?_
  refine g_iload_n C 2 dL_loss_2 rfl ?_
  refine g_iload_n C 3 dL_loss_3 rfl ?_
  refine g_callVX C hZ [vi p, vi h, vi u] [] (p_loss x.1.2.1 hst9 g B S X p h u hI h9p h9h h9u) y_X9_loss l_L_8 isP (hCP g B S X) ndP 0 rfl rfl rfl (Nat.le_of_ble_eq_true rfl) rfl (by decide) dL_loss_4 (fun v9 w9 hp9 => ?_) (fun E9 w9 hp9 => ?_)
  · obtain ⟨hc, X2, rfl, rfl, hI2⟩ := hp9
    rw [puP]
    have e1 : aR_loss p h u S = vR_loss p h u S := if_pos hc
    have e2 : aN_loss p h u S = vN_loss p h u S := if_pos hc
    exact g_iret C hR dL_loss_7 ⟨trivial, X2, by rw [e1], (by rw [e2]), (by rw [e2]; exact hI2)⟩ rfl
  · obtain ⟨hc, hE, X2, rfl, hI2⟩ := hp9
    rw [puP]
    have e1 : aR_loss p h u S = (-2000000000) := if_neg hc
    have e2 : aN_loss p h u S = S := if_neg hc
    simp only [List.mem_cons, List.not_mem_nil, or_false] at hE
    rcases hE with rfl | rfl
    · refine g_catch C hZ hT [] _ _ rfl (fun _ h => absurd h List.not_mem_nil) (by decide) (by decide) h_L_14 (by decide +kernel) (fun q9 => ?_)
      refine g_astore C [(4, .ref q9), (0, .ref (B 0)), (1, vi p), (2, vi h), (3, vi u)] dL_loss_8 (by decide) rfl ?_
      refine g_ldc C (-2000000000) n_L_16 (by decide) dL_loss_10 ?_
      exact g_iret C hR dL_loss_12 ⟨trivial, X2, by rw [e1], (by rw [e2]), (by rw [e2]; exact hI2)⟩ rfl
    · refine g_catch C hZ hT [_] _ _ rfl (List.forall_mem_cons.mpr ⟨Or.inr ⟨by decide, E1, h_L_14, by decide +kernel⟩, (fun _ h => absurd h List.not_mem_nil)⟩) (by decide) (by decide) h_L_17 (by decide +kernel) (fun q9 => ?_)
      refine g_astore C [(4, .ref q9), (0, .ref (B 0)), (1, vi p), (2, vi h), (3, vi u)] dL_loss_13 (by decide) rfl ?_
      refine g_ldc C (-2000000000) n_L_16 (by decide) dL_loss_15 ?_
      exact g_iret C hR dL_loss_17 ⟨trivial, X2, by rw [e1], (by rw [e2]), (by rw [e2]; exact hI2)⟩ rfl

set_option maxHeartbeats 4000000 in
set_option maxRecDepth 100000 in
theorem q_creep (l : Launch) (hst9 : l.stackTraces = false) (g : gD) (B : Nat → Nat) (S X : Nat → Int → Int) (v u : Int) (hI : iv9 S X) (h9v : -2147483648 ≤ v ∧ v < 2147483648) (h9u : -2147483648 ≤ u ∧ u < 2147483648) : gMetZ l g yL_creep cL_creep 4 (some .int) [(0, 6, 7, 23), (0, 6, 11, 14)] 7 1 6 122 [.ref (B 0), vi v, vi u] (wP g B S X) (pO g B (aN_creep v u S) (vi (aR_creep v u S)) True) := by
  refine gMetZ.of (by decide +kernel) (Nat.le_of_ble_eq_true rfl) ?_
  intro x hlx C hR hZ hT
  subst hlx
  have C : gC g x RL cL_creep 4 7 1 6 122 := C
  show gW g x (wP g B S X) 0 0 [(0, .ref (B 0)), (1, vi v), (2, vi u)] 0 []
  refine g_aload_n C 0 dL_creep_0 rfl ?_
  refine g_iload_n C 1 dL_creep_1 rfl ?_
  refine g_iload_n C 2 dL_creep_2 rfl ?_
  refine g_callVX C hZ [vi v, vi u] [] (p_creep x.1.2.1 hst9 g B S X v u hI h9v h9u) y_X9_creep l_L_19 isP (hCP g B S X) ndP 0 rfl rfl rfl (Nat.le_of_ble_eq_true rfl) rfl (by decide) dL_creep_3 (fun v9 w9 hp9 => ?_) (fun E9 w9 hp9 => ?_)
  · obtain ⟨hc, X2, rfl, rfl, hI2⟩ := hp9
    rw [puP]
    have e1 : aR_creep v u S = vR_creep v u S := if_pos hc
    have e2 : aN_creep v u S = vN_creep v u S := if_pos hc
    exact g_iret C hR dL_creep_6 ⟨trivial, X2, by rw [e1], (by rw [e2]), (by rw [e2]; exact hI2)⟩ rfl
  · obtain ⟨hc, hE, X2, rfl, hI2⟩ := hp9
    rw [puP]
    have e1 : aR_creep v u S = (-2000000000) := if_neg hc
    have e2 : aN_creep v u S = S := if_neg hc
    simp only [List.mem_cons, List.not_mem_nil, or_false] at hE
    rcases hE with rfl | rfl
    · refine g_catch C hZ hT [_] _ _ rfl (List.forall_mem_cons.mpr ⟨Or.inr ⟨by decide, E3, h_L_23, by decide +kernel⟩, (fun _ h => absurd h List.not_mem_nil)⟩) (by decide) (by decide) h_L_14 (by decide +kernel) (fun q9 => ?_)
      refine g_astore_n C [(3, .ref q9), (0, .ref (B 0)), (1, vi v), (2, vi u)] dL_creep_11 (by decide) rfl ?_
      refine g_ldc C (-2000000000) n_L_16 (by decide) dL_creep_12 ?_
      exact g_iret C hR dL_creep_14 ⟨trivial, X2, by rw [e1], (by rw [e2]), (by rw [e2]; exact hI2)⟩ rfl
    · refine g_catch C hZ hT [] _ _ rfl (fun _ h => absurd h List.not_mem_nil) (by decide) (by decide) h_L_23 (by decide +kernel) (fun q9 => ?_)
      refine g_astore_n C [(3, .ref q9), (0, .ref (B 0)), (1, vi v), (2, vi u)] dL_creep_7 (by decide) rfl ?_
      refine g_ldc C (-2000000000) n_L_16 (by decide) dL_creep_8 ?_
      exact g_iret C hR dL_creep_10 ⟨trivial, X2, by rw [e1], (by rw [e2]), (by rw [e2]; exact hI2)⟩ rfl

set_option maxHeartbeats 4000000 in
set_option maxRecDepth 100000 in
theorem q_choose (l : Launch) (hst9 : l.stackTraces = false) (g : gD) (B : Nat → Nat) (S X : Nat → Int → Int) (p a b : Int) (hI : iv9 S X) (h9p : -2147483648 ≤ p ∧ p < 2147483648) (h9a : -2147483648 ≤ a ∧ a < 2147483648) (h9b : -2147483648 ≤ b ∧ b < 2147483648) : gMetZ l g yL_choose cL_choose 5 (some .int) [(0, 7, 8, 14), (0, 7, 13, 17)] 7 1 6 123 [.ref (B 0), vi p, vi a, vi b] (wP g B S X) (pO g B (aN_choose p a b S) (vi (aR_choose p a b S)) True) := by
  refine gMetZ.of (by decide +kernel) (Nat.le_of_ble_eq_true rfl) ?_
  intro x hlx C hR hZ hT
  subst hlx
  have C : gC g x RL cL_choose 5 7 1 6 123 := C
  show gW g x (wP g B S X) 0 0 [(0, .ref (B 0)), (1, vi p), (2, vi a), (3, vi b)] 0 []
  refine g_aload_n C 0 dL_choose_0 rfl ?_
  refine g_iload_n C 1 dL_choose_1 rfl ?_
  refine g_iload_n C 2 dL_choose_2 rfl ?_
  refine g_iload_n C 3 dL_choose_3 rfl ?_
  refine g_callVX C hZ [vi p, vi a, vi b] [] (p_choose x.1.2.1 hst9 g B S X p a b hI h9p h9a h9b) y_X9_choose l_L_25 isP (hCP g B S X) ndP 0 rfl rfl rfl (Nat.le_of_ble_eq_true rfl) rfl (by decide) dL_choose_4 (fun v9 w9 hp9 => ?_) (fun E9 w9 hp9 => ?_)
  · obtain ⟨hc, X2, rfl, rfl, hI2⟩ := hp9
    rw [puP]
    have e1 : aR_choose p a b S = vR_choose p a b S := if_pos hc
    have e2 : aN_choose p a b S = vN_choose p a b S := if_pos hc
    exact g_iret C hR dL_choose_7 ⟨trivial, X2, by rw [e1], (by rw [e2]), (by rw [e2]; exact hI2)⟩ rfl
  · obtain ⟨hc, hE, X2, rfl, hI2⟩ := hp9
    rw [puP]
    have e1 : aR_choose p a b S = (-2000000000) := if_neg hc
    have e2 : aN_choose p a b S = S := if_neg hc
    simp only [List.mem_cons, List.not_mem_nil, or_false] at hE
    rcases hE with rfl | rfl
    · refine g_catch C hZ hT [] _ _ rfl (fun _ h => absurd h List.not_mem_nil) (by decide) (by decide) h_L_14 (by decide +kernel) (fun q9 => ?_)
      refine g_astore C [(4, .ref q9), (0, .ref (B 0)), (1, vi p), (2, vi a), (3, vi b)] dL_choose_8 (by decide) rfl ?_
      refine g_ldc C (-2000000000) n_L_16 (by decide) dL_choose_10 ?_
      exact g_iret C hR dL_choose_12 ⟨trivial, X2, by rw [e1], (by rw [e2]), (by rw [e2]; exact hI2)⟩ rfl
    · refine g_catch C hZ hT [_] _ _ rfl (List.forall_mem_cons.mpr ⟨Or.inr ⟨by decide, E1, h_L_14, by decide +kernel⟩, (fun _ h => absurd h List.not_mem_nil)⟩) (by decide) (by decide) h_L_17 (by decide +kernel) (fun q9 => ?_)
      refine g_astore C [(4, .ref q9), (0, .ref (B 0)), (1, vi p), (2, vi a), (3, vi b)] dL_choose_13 (by decide) rfl ?_
      refine g_ldc C (-2000000000) n_L_16 (by decide) dL_choose_15 ?_
      exact g_iret C hR dL_choose_17 ⟨trivial, X2, by rw [e1], (by rw [e2]), (by rw [e2]; exact hI2)⟩ rfl

set_option maxHeartbeats 4000000 in
set_option maxRecDepth 100000 in
theorem q_unchoose (l : Launch) (hst9 : l.stackTraces = false) (g : gD) (B : Nat → Nat) (S X : Nat → Int → Int) (hI : iv9 S X) : gMetZ l g yL_unchoose cL_unchoose 2 (some .int) [(0, 4, 5, 17)] 7 1 6 120 [.ref (B 0)] (wP g B S X) (pO g B (aN_unchoose S) (vi (aR_unchoose S)) True) := by
  refine gMetZ.of (by decide +kernel) (Nat.le_of_ble_eq_true rfl) ?_
  intro x hlx C hR hZ hT
  subst hlx
  have C : gC g x RL cL_unchoose 2 7 1 6 120 := C
  show gW g x (wP g B S X) 0 0 [(0, .ref (B 0))] 0 []
  refine g_aload_n C 0 dL_unchoose_0 rfl ?_
  refine g_callVX C hZ [] [] (p_unchoose x.1.2.1 hst9 g B S X  hI ) y_X9_unchoose l_L_28 isP (hCP g B S X) ndP 0 rfl rfl rfl (Nat.le_of_ble_eq_true rfl) rfl (by decide) dL_unchoose_1 (fun v9 w9 hp9 => ?_) (fun E9 w9 hp9 => ?_)
  · obtain ⟨hc, X2, rfl, rfl, hI2⟩ := hp9
    rw [puP]
    have e1 : aR_unchoose S = vR_unchoose S := if_pos hc
    have e2 : aN_unchoose S = vN_unchoose S := if_pos hc
    exact g_iret C hR dL_unchoose_4 ⟨trivial, X2, by rw [e1], (by rw [e2]), (by rw [e2]; exact hI2)⟩ rfl
  · obtain ⟨hc, hE, X2, rfl, hI2⟩ := hp9
    rw [puP]
    have e1 : aR_unchoose S = (-2000000000) := if_neg hc
    have e2 : aN_unchoose S = S := if_neg hc
    simp only [List.mem_cons, List.not_mem_nil, or_false] at hE
    subst hE
    refine g_catch C hZ hT [] _ _ rfl (fun _ h => absurd h List.not_mem_nil) (by decide) (by decide) h_L_17 (by decide +kernel) (fun q9 => ?_)
    refine g_astore_n C [(1, .ref q9), (0, .ref (B 0))] dL_unchoose_5 (by decide) rfl ?_
    refine g_ldc C (-2000000000) n_L_16 (by decide) dL_unchoose_6 ?_
    exact g_iret C hR dL_unchoose_8 ⟨trivial, X2, by rw [e1], (by rw [e2]), (by rw [e2]; exact hI2)⟩ rfl

set_option maxHeartbeats 4000000 in
set_option maxRecDepth 100000 in
theorem q_quota (l : Launch) (hst9 : l.stackTraces = false) (g : gD) (B : Nat → Nat) (S X : Nat → Int → Int) (v : Int) (hI : iv9 S X) (h9v : -2147483648 ≤ v ∧ v < 2147483648) : gMetZ l g yL_quota cL_quota 3 (some .int) [(0, 5, 6, 14)] 7 1 6 121 [.ref (B 0), vi v] (wP g B S X) (pO g B (aN_quota v S) (vi (aR_quota v S)) True) := by
  refine gMetZ.of (by decide +kernel) (Nat.le_of_ble_eq_true rfl) ?_
  intro x hlx C hR hZ hT
  subst hlx
  have C : gC g x RL cL_quota 3 7 1 6 121 := C
  show gW g x (wP g B S X) 0 0 [(0, .ref (B 0)), (1, vi v)] 0 []
  refine g_aload_n C 0 dL_quota_0 rfl ?_
  refine g_iload_n C 1 dL_quota_1 rfl ?_
  refine g_callVX C hZ [vi v] [] (p_quota x.1.2.1 hst9 g B S X v hI h9v) y_X9_quota l_L_32 isP (hCP g B S X) ndP 0 rfl rfl rfl (Nat.le_of_ble_eq_true rfl) rfl (by decide) dL_quota_2 (fun v9 w9 hp9 => ?_) (fun E9 w9 hp9 => ?_)
  · obtain ⟨hc, X2, rfl, rfl, hI2⟩ := hp9
    rw [puP]
    have e1 : aR_quota v S = vR_quota v S := if_pos hc
    have e2 : aN_quota v S = vN_quota v S := if_pos hc
    exact g_iret C hR dL_quota_5 ⟨trivial, X2, by rw [e1], (by rw [e2]), (by rw [e2]; exact hI2)⟩ rfl
  · obtain ⟨hc, hE, X2, rfl, hI2⟩ := hp9
    rw [puP]
    have e1 : aR_quota v S = (-2000000000) := if_neg hc
    have e2 : aN_quota v S = S := if_neg hc
    simp only [List.mem_cons, List.not_mem_nil, or_false] at hE
    subst hE
    refine g_catch C hZ hT [] _ _ rfl (fun _ h => absurd h List.not_mem_nil) (by decide) (by decide) h_L_14 (by decide +kernel) (fun q9 => ?_)
    refine g_astore_n C [(2, .ref q9), (0, .ref (B 0)), (1, vi v)] dL_quota_6 (by decide) rfl ?_
    refine g_ldc C (-2000000000) n_L_16 (by decide) dL_quota_7 ?_
    exact g_iret C hR dL_quota_9 ⟨trivial, X2, by rw [e1], (by rw [e2]), (by rw [e2]; exact hI2)⟩ rfl

set_option maxHeartbeats 4000000 in
set_option maxRecDepth 100000 in
theorem q_layer (l : Launch) (hst9 : l.stackTraces = false) (g : gD) (B : Nat → Nat) (S X : Nat → Int → Int) (a1 a2 a3 a4 a5 a6 : Int) (hI : iv9 S X) (h9a1 : -2147483648 ≤ a1 ∧ a1 < 2147483648) (h9a2 : -2147483648 ≤ a2 ∧ a2 < 2147483648) (h9a3 : -2147483648 ≤ a3 ∧ a3 < 2147483648) (h9a4 : -2147483648 ≤ a4 ∧ a4 < 2147483648) (h9a5 : -2147483648 ≤ a5 ∧ a5 < 2147483648) (h9a6 : -2147483648 ≤ a6 ∧ a6 < 2147483648) : gMetZ l g yL_layer cL_layer 8 (some .int) [(0, 13, 14, 14), (0, 13, 19, 17)] 7 1 6 127 [.ref (B 0), vi a1, vi a2, vi a3, vi a4, vi a5, vi a6] (wP g B S X) (pO g B (aN_layer a1 a2 a3 a4 a5 a6 S) (vi (aR_layer a1 a2 a3 a4 a5 a6 S)) True) := by
  refine gMetZ.of (by decide +kernel) (Nat.le_of_ble_eq_true rfl) ?_
  intro x hlx C hR hZ hT
  subst hlx
  have C : gC g x RL cL_layer 8 7 1 6 127 := C
  show gW g x (wP g B S X) 0 0 [(0, .ref (B 0)), (1, vi a1), (2, vi a2), (3, vi a3), (4, vi a4), (5, vi a5), (6, vi a6)] 0 []
  refine g_aload_n C 0 dL_layer_0 rfl ?_
  refine g_iload_n C 1 dL_layer_1 rfl ?_
  refine g_iload_n C 2 dL_layer_2 rfl ?_
  refine g_iload_n C 3 dL_layer_3 rfl ?_
  refine g_iload C 4 dL_layer_4 rfl ?_
  refine g_iload C 5 dL_layer_6 rfl ?_
  refine g_iload C 6 dL_layer_8 rfl ?_
  refine g_callVX C hZ [vi a1, vi a2, vi a3, vi a4, vi a5, vi a6] [] (p_layer x.1.2.1 hst9 g B S X a1 a2 a3 a4 a5 a6 hI h9a1 h9a2 h9a3 h9a4 h9a5 h9a6) y_X9_layer l_L_36 isP (hCP g B S X) ndP 0 rfl rfl rfl (Nat.le_of_ble_eq_true rfl) rfl (by decide) dL_layer_10 (fun v9 w9 hp9 => ?_) (fun E9 w9 hp9 => ?_)
  · obtain ⟨hc, X2, rfl, rfl, hI2⟩ := hp9
    rw [puP]
    have e1 : aR_layer a1 a2 a3 a4 a5 a6 S = vR_layer a1 a2 a3 a4 a5 a6 S := if_pos hc
    have e2 : aN_layer a1 a2 a3 a4 a5 a6 S = vN_layer a1 a2 a3 a4 a5 a6 S := if_pos hc
    exact g_iret C hR dL_layer_13 ⟨trivial, X2, by rw [e1], (by rw [e2]), (by rw [e2]; exact hI2)⟩ rfl
  · obtain ⟨hc, hE, X2, rfl, hI2⟩ := hp9
    rw [puP]
    have e1 : aR_layer a1 a2 a3 a4 a5 a6 S = (-2000000000) := if_neg hc
    have e2 : aN_layer a1 a2 a3 a4 a5 a6 S = S := if_neg hc
    simp only [List.mem_cons, List.not_mem_nil, or_false] at hE
    rcases hE with rfl | rfl
    · refine g_catch C hZ hT [] _ _ rfl (fun _ h => absurd h List.not_mem_nil) (by decide) (by decide) h_L_14 (by decide +kernel) (fun q9 => ?_)
      refine g_astore C [(7, .ref q9), (0, .ref (B 0)), (1, vi a1), (2, vi a2), (3, vi a3), (4, vi a4), (5, vi a5), (6, vi a6)] dL_layer_14 (by decide) rfl ?_
      refine g_ldc C (-2000000000) n_L_16 (by decide) dL_layer_16 ?_
      exact g_iret C hR dL_layer_18 ⟨trivial, X2, by rw [e1], (by rw [e2]), (by rw [e2]; exact hI2)⟩ rfl
    · refine g_catch C hZ hT [_] _ _ rfl (List.forall_mem_cons.mpr ⟨Or.inr ⟨by decide, E1, h_L_14, by decide +kernel⟩, (fun _ h => absurd h List.not_mem_nil)⟩) (by decide) (by decide) h_L_17 (by decide +kernel) (fun q9 => ?_)
      refine g_astore C [(7, .ref q9), (0, .ref (B 0)), (1, vi a1), (2, vi a2), (3, vi a3), (4, vi a4), (5, vi a5), (6, vi a6)] dL_layer_19 (by decide) rfl ?_
      refine g_ldc C (-2000000000) n_L_16 (by decide) dL_layer_21 ?_
      exact g_iret C hR dL_layer_23 ⟨trivial, X2, by rw [e1], (by rw [e2]), (by rw [e2]; exact hI2)⟩ rfl

set_option maxHeartbeats 4000000 in
set_option maxRecDepth 100000 in
theorem q_part (l : Launch) (hst9 : l.stackTraces = false) (g : gD) (B : Nat → Nat) (S X : Nat → Int → Int) (y z v : Int) (hI : iv9 S X) (h9y : -2147483648 ≤ y ∧ y < 2147483648) (h9z : -2147483648 ≤ z ∧ z < 2147483648) (h9v : -2147483648 ≤ v ∧ v < 2147483648) : gMetZ l g yL_part cL_part 5 (some .int) [(0, 7, 8, 23), (0, 7, 13, 14), (0, 7, 18, 17)] 7 1 6 123 [.ref (B 0), vi y, vi z, vi v] (wP g B S X) (pO g B (aN_part y z v S) (vi (aR_part y z v S)) True) := by
  refine gMetZ.of (by decide +kernel) (Nat.le_of_ble_eq_true rfl) ?_
  intro x hlx C hR hZ hT
  subst hlx
  have C : gC g x RL cL_part 5 7 1 6 123 := C
  show gW g x (wP g B S X) 0 0 [(0, .ref (B 0)), (1, vi y), (2, vi z), (3, vi v)] 0 []
  refine g_aload_n C 0 dL_part_0 rfl ?_
  refine g_iload_n C 1 dL_part_1 rfl ?_
  refine g_iload_n C 2 dL_part_2 rfl ?_
  refine g_iload_n C 3 dL_part_3 rfl ?_
  refine g_callVX C hZ [vi y, vi z, vi v] [] (p_part x.1.2.1 hst9 g B S X y z v hI h9y h9z h9v) y_X9_part l_L_40 isP (hCP g B S X) ndP 0 rfl rfl rfl (Nat.le_of_ble_eq_true rfl) rfl (by decide) dL_part_4 (fun v9 w9 hp9 => ?_) (fun E9 w9 hp9 => ?_)
  · obtain ⟨hc, X2, rfl, rfl, hI2⟩ := hp9
    rw [puP]
    have e1 : aR_part y z v S = vR_part y z v S := if_pos hc
    have e2 : aN_part y z v S = vN_part y z v S := if_pos hc
    exact g_iret C hR dL_part_7 ⟨trivial, X2, by rw [e1], (by rw [e2]), (by rw [e2]; exact hI2)⟩ rfl
  · obtain ⟨hc, hE, X2, rfl, hI2⟩ := hp9
    rw [puP]
    have e1 : aR_part y z v S = (-2000000000) := if_neg hc
    have e2 : aN_part y z v S = S := if_neg hc
    simp only [List.mem_cons, List.not_mem_nil, or_false] at hE
    rcases hE with rfl | rfl | rfl
    · refine g_catch C hZ hT [_] _ _ rfl (List.forall_mem_cons.mpr ⟨Or.inr ⟨by decide, E3, h_L_23, by decide +kernel⟩, (fun _ h => absurd h List.not_mem_nil)⟩) (by decide) (by decide) h_L_14 (by decide +kernel) (fun q9 => ?_)
      refine g_astore C [(4, .ref q9), (0, .ref (B 0)), (1, vi y), (2, vi z), (3, vi v)] dL_part_13 (by decide) rfl ?_
      refine g_ldc C (-2000000000) n_L_16 (by decide) dL_part_15 ?_
      exact g_iret C hR dL_part_17 ⟨trivial, X2, by rw [e1], (by rw [e2]), (by rw [e2]; exact hI2)⟩ rfl
    · refine g_catch C hZ hT [_, _] _ _ rfl (List.forall_mem_cons.mpr ⟨Or.inr ⟨by decide, E3, h_L_23, by decide +kernel⟩, (List.forall_mem_cons.mpr ⟨Or.inr ⟨by decide, E1, h_L_14, by decide +kernel⟩, (fun _ h => absurd h List.not_mem_nil)⟩)⟩) (by decide) (by decide) h_L_17 (by decide +kernel) (fun q9 => ?_)
      refine g_astore C [(4, .ref q9), (0, .ref (B 0)), (1, vi y), (2, vi z), (3, vi v)] dL_part_18 (by decide) rfl ?_
      refine g_ldc C (-2000000000) n_L_16 (by decide) dL_part_20 ?_
      exact g_iret C hR dL_part_22 ⟨trivial, X2, by rw [e1], (by rw [e2]), (by rw [e2]; exact hI2)⟩ rfl
    · refine g_catch C hZ hT [] _ _ rfl (fun _ h => absurd h List.not_mem_nil) (by decide) (by decide) h_L_23 (by decide +kernel) (fun q9 => ?_)
      refine g_astore C [(4, .ref q9), (0, .ref (B 0)), (1, vi y), (2, vi z), (3, vi v)] dL_part_8 (by decide) rfl ?_
      refine g_ldc C (-2000000000) n_L_16 (by decide) dL_part_10 ?_
      exact g_iret C hR dL_part_12 ⟨trivial, X2, by rw [e1], (by rw [e2]), (by rw [e2]; exact hI2)⟩ rfl

set_option maxHeartbeats 4000000 in
set_option maxRecDepth 100000 in
theorem q_retro (l : Launch) (hst9 : l.stackTraces = false) (g : gD) (B : Nat → Nat) (S X : Nat → Int → Int) (y z a b : Int) (hI : iv9 S X) (h9y : -2147483648 ≤ y ∧ y < 2147483648) (h9z : -2147483648 ≤ z ∧ z < 2147483648) (h9a : -2147483648 ≤ a ∧ a < 2147483648) (h9b : -2147483648 ≤ b ∧ b < 2147483648) : gMetZ l g yL_retro cL_retro 6 (some .int) [(0, 9, 10, 23), (0, 9, 15, 14)] 7 1 6 124 [.ref (B 0), vi y, vi z, vi a, vi b] (wP g B S X) (pO g B (aN_retro y z a b S) (vi (aR_retro y z a b S)) True) := by
  refine gMetZ.of (by decide +kernel) (Nat.le_of_ble_eq_true rfl) ?_
  intro x hlx C hR hZ hT
  subst hlx
  have C : gC g x RL cL_retro 6 7 1 6 124 := C
  show gW g x (wP g B S X) 0 0 [(0, .ref (B 0)), (1, vi y), (2, vi z), (3, vi a), (4, vi b)] 0 []
  refine g_aload_n C 0 dL_retro_0 rfl ?_
  refine g_iload_n C 1 dL_retro_1 rfl ?_
  refine g_iload_n C 2 dL_retro_2 rfl ?_
  refine g_iload_n C 3 dL_retro_3 rfl ?_
  refine g_iload C 4 dL_retro_4 rfl ?_
  refine g_callVX C hZ [vi y, vi z, vi a, vi b] [] (p_retro x.1.2.1 hst9 g B S X y z a b hI h9y h9z h9a h9b) y_X9_retro l_L_43 isP (hCP g B S X) ndP 0 rfl rfl rfl (Nat.le_of_ble_eq_true rfl) rfl (by decide) dL_retro_6 (fun v9 w9 hp9 => ?_) (fun E9 w9 hp9 => ?_)
  · obtain ⟨hc, X2, rfl, rfl, hI2⟩ := hp9
    rw [puP]
    have e1 : aR_retro y z a b S = vR_retro y z a b S := if_pos hc
    have e2 : aN_retro y z a b S = vN_retro y z a b S := if_pos hc
    exact g_iret C hR dL_retro_9 ⟨trivial, X2, by rw [e1], (by rw [e2]), (by rw [e2]; exact hI2)⟩ rfl
  · obtain ⟨hc, hE, X2, rfl, hI2⟩ := hp9
    rw [puP]
    have e1 : aR_retro y z a b S = (-2000000000) := if_neg hc
    have e2 : aN_retro y z a b S = S := if_neg hc
    simp only [List.mem_cons, List.not_mem_nil, or_false] at hE
    rcases hE with rfl | rfl
    · refine g_catch C hZ hT [_] _ _ rfl (List.forall_mem_cons.mpr ⟨Or.inr ⟨by decide, E3, h_L_23, by decide +kernel⟩, (fun _ h => absurd h List.not_mem_nil)⟩) (by decide) (by decide) h_L_14 (by decide +kernel) (fun q9 => ?_)
      refine g_astore C [(5, .ref q9), (0, .ref (B 0)), (1, vi y), (2, vi z), (3, vi a), (4, vi b)] dL_retro_15 (by decide) rfl ?_
      refine g_ldc C (-2000000000) n_L_16 (by decide) dL_retro_17 ?_
      exact g_iret C hR dL_retro_19 ⟨trivial, X2, by rw [e1], (by rw [e2]), (by rw [e2]; exact hI2)⟩ rfl
    · refine g_catch C hZ hT [] _ _ rfl (fun _ h => absurd h List.not_mem_nil) (by decide) (by decide) h_L_23 (by decide +kernel) (fun q9 => ?_)
      refine g_astore C [(5, .ref q9), (0, .ref (B 0)), (1, vi y), (2, vi z), (3, vi a), (4, vi b)] dL_retro_10 (by decide) rfl ?_
      refine g_ldc C (-2000000000) n_L_16 (by decide) dL_retro_12 ?_
      exact g_iret C hR dL_retro_14 ⟨trivial, X2, by rw [e1], (by rw [e2]), (by rw [e2]; exact hI2)⟩ rfl

set_option maxHeartbeats 4000000 in
set_option maxRecDepth 100000 in
theorem q_station (l : Launch) (hst9 : l.stackTraces = false) (g : gD) (B : Nat → Nat) (S X : Nat → Int → Int) (v : Int) (hI : iv9 S X) (h9v : -2147483648 ≤ v ∧ v < 2147483648) : gMetZ l g yL_station cL_station 3 (some .int) [(0, 5, 6, 14), (0, 5, 10, 17)] 7 1 6 121 [.ref (B 0), vi v] (wP g B S X) (pO g B (aN_station v S) (vi (aR_station v S)) True) := by
  refine gMetZ.of (by decide +kernel) (Nat.le_of_ble_eq_true rfl) ?_
  intro x hlx C hR hZ hT
  subst hlx
  have C : gC g x RL cL_station 3 7 1 6 121 := C
  show gW g x (wP g B S X) 0 0 [(0, .ref (B 0)), (1, vi v)] 0 []
  refine g_aload_n C 0 dL_station_0 rfl ?_
  refine g_iload_n C 1 dL_station_1 rfl ?_
  refine g_callVX C hZ [vi v] [] (p_station x.1.2.1 hst9 g B S X v hI h9v) y_X9_station l_L_47 isP (hCP g B S X) ndP 0 rfl rfl rfl (Nat.le_of_ble_eq_true rfl) rfl (by decide) dL_station_2 (fun v9 w9 hp9 => ?_) (fun E9 w9 hp9 => ?_)
  · obtain ⟨hc, X2, rfl, rfl, hI2⟩ := hp9
    rw [puP]
    have e1 : aR_station v S = vR_station v S := if_pos hc
    have e2 : aN_station v S = vN_station v S := if_pos hc
    exact g_iret C hR dL_station_5 ⟨trivial, X2, by rw [e1], (by rw [e2]), (by rw [e2]; exact hI2)⟩ rfl
  · obtain ⟨hc, hE, X2, rfl, hI2⟩ := hp9
    rw [puP]
    have e1 : aR_station v S = (-2000000000) := if_neg hc
    have e2 : aN_station v S = S := if_neg hc
    simp only [List.mem_cons, List.not_mem_nil, or_false] at hE
    rcases hE with rfl | rfl
    · refine g_catch C hZ hT [] _ _ rfl (fun _ h => absurd h List.not_mem_nil) (by decide) (by decide) h_L_14 (by decide +kernel) (fun q9 => ?_)
      refine g_astore_n C [(2, .ref q9), (0, .ref (B 0)), (1, vi v)] dL_station_6 (by decide) rfl ?_
      refine g_ldc C (-2000000000) n_L_16 (by decide) dL_station_7 ?_
      exact g_iret C hR dL_station_9 ⟨trivial, X2, by rw [e1], (by rw [e2]), (by rw [e2]; exact hI2)⟩ rfl
    · refine g_catch C hZ hT [_] _ _ rfl (List.forall_mem_cons.mpr ⟨Or.inr ⟨by decide, E1, h_L_14, by decide +kernel⟩, (fun _ h => absurd h List.not_mem_nil)⟩) (by decide) (by decide) h_L_17 (by decide +kernel) (fun q9 => ?_)
      refine g_astore_n C [(2, .ref q9), (0, .ref (B 0)), (1, vi v)] dL_station_10 (by decide) rfl ?_
      refine g_ldc C (-2000000000) n_L_16 (by decide) dL_station_11 ?_
      exact g_iret C hR dL_station_13 ⟨trivial, X2, by rw [e1], (by rw [e2]), (by rw [e2]; exact hI2)⟩ rfl

set_option maxHeartbeats 4000000 in
set_option maxRecDepth 100000 in
theorem q_reading (l : Launch) (hst9 : l.stackTraces = false) (g : gD) (B : Nat → Nat) (S X : Nat → Int → Int) (a1 a2 a3 a4 : Int) (hI : iv9 S X) (h9a1 : -2147483648 ≤ a1 ∧ a1 < 2147483648) (h9a2 : -2147483648 ≤ a2 ∧ a2 < 2147483648) (h9a3 : -2147483648 ≤ a3 ∧ a3 < 2147483648) (h9a4 : -2147483648 ≤ a4 ∧ a4 < 2147483648) : gMetZ l g yL_reading cL_reading 6 (some .int) [(0, 9, 10, 23), (0, 9, 15, 14), (0, 9, 20, 17)] 7 1 6 124 [.ref (B 0), vi a1, vi a2, vi a3, vi a4] (wP g B S X) (pO g B (aN_reading a1 a2 a3 a4 S) (vi (aR_reading a1 a2 a3 a4 S)) True) := by
  refine gMetZ.of (by decide +kernel) (Nat.le_of_ble_eq_true rfl) ?_
  intro x hlx C hR hZ hT
  subst hlx
  have C : gC g x RL cL_reading 6 7 1 6 124 := C
  show gW g x (wP g B S X) 0 0 [(0, .ref (B 0)), (1, vi a1), (2, vi a2), (3, vi a3), (4, vi a4)] 0 []
  refine g_aload_n C 0 dL_reading_0 rfl ?_
  refine g_iload_n C 1 dL_reading_1 rfl ?_
  refine g_iload_n C 2 dL_reading_2 rfl ?_
  refine g_iload_n C 3 dL_reading_3 rfl ?_
  refine g_iload C 4 dL_reading_4 rfl ?_
  refine g_callVX C hZ [vi a1, vi a2, vi a3, vi a4] [] (p_reading x.1.2.1 hst9 g B S X a1 a2 a3 a4 hI h9a1 h9a2 h9a3 h9a4) y_X9_reading l_L_50 isP (hCP g B S X) ndP 0 rfl rfl rfl (Nat.le_of_ble_eq_true rfl) rfl (by decide) dL_reading_6 (fun v9 w9 hp9 => ?_) (fun E9 w9 hp9 => ?_)
  · obtain ⟨hc, X2, rfl, rfl, hI2⟩ := hp9
    rw [puP]
    have e1 : aR_reading a1 a2 a3 a4 S = vR_reading a1 a2 a3 a4 S := if_pos hc
    have e2 : aN_reading a1 a2 a3 a4 S = vN_reading a1 a2 a3 a4 S := if_pos hc
    exact g_iret C hR dL_reading_9 ⟨trivial, X2, by rw [e1], (by rw [e2]), (by rw [e2]; exact hI2)⟩ rfl
  · obtain ⟨hc, hE, X2, rfl, hI2⟩ := hp9
    rw [puP]
    have e1 : aR_reading a1 a2 a3 a4 S = (-2000000000) := if_neg hc
    have e2 : aN_reading a1 a2 a3 a4 S = S := if_neg hc
    simp only [List.mem_cons, List.not_mem_nil, or_false] at hE
    rcases hE with rfl | rfl | rfl
    · refine g_catch C hZ hT [_] _ _ rfl (List.forall_mem_cons.mpr ⟨Or.inr ⟨by decide, E3, h_L_23, by decide +kernel⟩, (fun _ h => absurd h List.not_mem_nil)⟩) (by decide) (by decide) h_L_14 (by decide +kernel) (fun q9 => ?_)
      refine g_astore C [(5, .ref q9), (0, .ref (B 0)), (1, vi a1), (2, vi a2), (3, vi a3), (4, vi a4)] dL_reading_15 (by decide) rfl ?_
      refine g_ldc C (-2000000000) n_L_16 (by decide) dL_reading_17 ?_
      exact g_iret C hR dL_reading_19 ⟨trivial, X2, by rw [e1], (by rw [e2]), (by rw [e2]; exact hI2)⟩ rfl
    · refine g_catch C hZ hT [_, _] _ _ rfl (List.forall_mem_cons.mpr ⟨Or.inr ⟨by decide, E3, h_L_23, by decide +kernel⟩, (List.forall_mem_cons.mpr ⟨Or.inr ⟨by decide, E1, h_L_14, by decide +kernel⟩, (fun _ h => absurd h List.not_mem_nil)⟩)⟩) (by decide) (by decide) h_L_17 (by decide +kernel) (fun q9 => ?_)
      refine g_astore C [(5, .ref q9), (0, .ref (B 0)), (1, vi a1), (2, vi a2), (3, vi a3), (4, vi a4)] dL_reading_20 (by decide) rfl ?_
      refine g_ldc C (-2000000000) n_L_16 (by decide) dL_reading_22 ?_
      exact g_iret C hR dL_reading_24 ⟨trivial, X2, by rw [e1], (by rw [e2]), (by rw [e2]; exact hI2)⟩ rfl
    · refine g_catch C hZ hT [] _ _ rfl (fun _ h => absurd h List.not_mem_nil) (by decide) (by decide) h_L_23 (by decide +kernel) (fun q9 => ?_)
      refine g_astore C [(5, .ref q9), (0, .ref (B 0)), (1, vi a1), (2, vi a2), (3, vi a3), (4, vi a4)] dL_reading_10 (by decide) rfl ?_
      refine g_ldc C (-2000000000) n_L_16 (by decide) dL_reading_12 ?_
      exact g_iret C hR dL_reading_14 ⟨trivial, X2, by rw [e1], (by rw [e2]), (by rw [e2]; exact hI2)⟩ rfl

set_option maxHeartbeats 4000000 in
set_option maxRecDepth 100000 in
theorem q_fails (l : Launch) (hst9 : l.stackTraces = false) (g : gD) (B : Nat → Nat) (S X : Nat → Int → Int) (s h : Int) (hI : iv9 S X) (h9s : -2147483648 ≤ s ∧ s < 2147483648) (h9h : -2147483648 ≤ h ∧ h < 2147483648) : gMetZ l g yL_fails cL_fails 4 (some .int) [(0, 6, 7, 23), (0, 6, 11, 14), (0, 6, 15, 17)] 7 1 6 122 [.ref (B 0), vi s, vi h] (wP g B S X) (pO g B (aN_fails s h S) (vi (aR_fails s h S)) True) := by
  refine gMetZ.of (by decide +kernel) (Nat.le_of_ble_eq_true rfl) ?_
  intro x hlx C hR hZ hT
  subst hlx
  have C : gC g x RL cL_fails 4 7 1 6 122 := C
  show gW g x (wP g B S X) 0 0 [(0, .ref (B 0)), (1, vi s), (2, vi h)] 0 []
  refine g_aload_n C 0 dL_fails_0 rfl ?_
  refine g_iload_n C 1 dL_fails_1 rfl ?_
  refine g_iload_n C 2 dL_fails_2 rfl ?_
  refine g_callVX C hZ [vi s, vi h] [] (p_fails x.1.2.1 hst9 g B S X s h hI h9s h9h) y_X9_fails l_L_53 isP (hCP g B S X) ndP 0 rfl rfl rfl (Nat.le_of_ble_eq_true rfl) rfl (by decide) dL_fails_3 (fun v9 w9 hp9 => ?_) (fun E9 w9 hp9 => ?_)
  · obtain ⟨hc, X2, rfl, rfl, hI2⟩ := hp9
    rw [puP]
    have e1 : aR_fails s h S = vR_fails s h S := if_pos hc
    have e2 : aN_fails s h S = vN_fails s h S := if_pos hc
    exact g_iret C hR dL_fails_6 ⟨trivial, X2, by rw [e1], (by rw [e2]), (by rw [e2]; exact hI2)⟩ rfl
  · obtain ⟨hc, hE, X2, rfl, hI2⟩ := hp9
    rw [puP]
    have e1 : aR_fails s h S = (-2000000000) := if_neg hc
    have e2 : aN_fails s h S = S := if_neg hc
    simp only [List.mem_cons, List.not_mem_nil, or_false] at hE
    rcases hE with rfl | rfl | rfl
    · refine g_catch C hZ hT [_] _ _ rfl (List.forall_mem_cons.mpr ⟨Or.inr ⟨by decide, E3, h_L_23, by decide +kernel⟩, (fun _ h => absurd h List.not_mem_nil)⟩) (by decide) (by decide) h_L_14 (by decide +kernel) (fun q9 => ?_)
      refine g_astore_n C [(3, .ref q9), (0, .ref (B 0)), (1, vi s), (2, vi h)] dL_fails_11 (by decide) rfl ?_
      refine g_ldc C (-2000000000) n_L_16 (by decide) dL_fails_12 ?_
      exact g_iret C hR dL_fails_14 ⟨trivial, X2, by rw [e1], (by rw [e2]), (by rw [e2]; exact hI2)⟩ rfl
    · refine g_catch C hZ hT [_, _] _ _ rfl (List.forall_mem_cons.mpr ⟨Or.inr ⟨by decide, E3, h_L_23, by decide +kernel⟩, (List.forall_mem_cons.mpr ⟨Or.inr ⟨by decide, E1, h_L_14, by decide +kernel⟩, (fun _ h => absurd h List.not_mem_nil)⟩)⟩) (by decide) (by decide) h_L_17 (by decide +kernel) (fun q9 => ?_)
      refine g_astore_n C [(3, .ref q9), (0, .ref (B 0)), (1, vi s), (2, vi h)] dL_fails_15 (by decide) rfl ?_
      refine g_ldc C (-2000000000) n_L_16 (by decide) dL_fails_16 ?_
      exact g_iret C hR dL_fails_18 ⟨trivial, X2, by rw [e1], (by rw [e2]), (by rw [e2]; exact hI2)⟩ rfl
    · refine g_catch C hZ hT [] _ _ rfl (fun _ h => absurd h List.not_mem_nil) (by decide) (by decide) h_L_23 (by decide +kernel) (fun q9 => ?_)
      refine g_astore_n C [(3, .ref q9), (0, .ref (B 0)), (1, vi s), (2, vi h)] dL_fails_7 (by decide) rfl ?_
      refine g_ldc C (-2000000000) n_L_16 (by decide) dL_fails_8 ?_
      exact g_iret C hR dL_fails_10 ⟨trivial, X2, by rw [e1], (by rw [e2]), (by rw [e2]; exact hI2)⟩ rfl

set_option maxHeartbeats 4000000 in
set_option maxRecDepth 100000 in
theorem q_bond (l : Launch) (hst9 : l.stackTraces = false) (g : gD) (B : Nat → Nat) (S X : Nat → Int → Int) (a1 a2 a3 a4 a5 a6 a7 : Int) (hI : iv9 S X) (h9a1 : -2147483648 ≤ a1 ∧ a1 < 2147483648) (h9a2 : -2147483648 ≤ a2 ∧ a2 < 2147483648) (h9a3 : -2147483648 ≤ a3 ∧ a3 < 2147483648) (h9a4 : -2147483648 ≤ a4 ∧ a4 < 2147483648) (h9a5 : -2147483648 ≤ a5 ∧ a5 < 2147483648) (h9a6 : -2147483648 ≤ a6 ∧ a6 < 2147483648) (h9a7 : -2147483648 ≤ a7 ∧ a7 < 2147483648) : gMetZ l g yL_bond cL_bond 9 (some .int) [(0, 15, 16, 14), (0, 15, 21, 17)] 7 1 6 129 [.ref (B 0), vi a1, vi a2, vi a3, vi a4, vi a5, vi a6, vi a7] (wP g B S X) (pO g B (aN_bond a1 a2 a3 a4 a5 a6 a7 S) (vi (aR_bond a1 a2 a3 a4 a5 a6 a7 S)) True) := by
  refine gMetZ.of (by decide +kernel) (Nat.le_of_ble_eq_true rfl) ?_
  intro x hlx C hR hZ hT
  subst hlx
  have C : gC g x RL cL_bond 9 7 1 6 129 := C
  show gW g x (wP g B S X) 0 0 [(0, .ref (B 0)), (1, vi a1), (2, vi a2), (3, vi a3), (4, vi a4), (5, vi a5), (6, vi a6), (7, vi a7)] 0 []
  refine g_aload_n C 0 dL_bond_0 rfl ?_
  refine g_iload_n C 1 dL_bond_1 rfl ?_
  refine g_iload_n C 2 dL_bond_2 rfl ?_
  refine g_iload_n C 3 dL_bond_3 rfl ?_
  refine g_iload C 4 dL_bond_4 rfl ?_
  refine g_iload C 5 dL_bond_6 rfl ?_
  refine g_iload C 6 dL_bond_8 rfl ?_
  refine g_iload C 7 dL_bond_10 rfl ?_
  refine g_callVX C hZ [vi a1, vi a2, vi a3, vi a4, vi a5, vi a6, vi a7] [] (p_bond x.1.2.1 hst9 g B S X a1 a2 a3 a4 a5 a6 a7 hI h9a1 h9a2 h9a3 h9a4 h9a5 h9a6 h9a7) y_X9_bond l_L_56 isP (hCP g B S X) ndP 0 rfl rfl rfl (Nat.le_of_ble_eq_true rfl) rfl (by decide) dL_bond_12 (fun v9 w9 hp9 => ?_) (fun E9 w9 hp9 => ?_)
  · obtain ⟨hc, X2, rfl, rfl, hI2⟩ := hp9
    rw [puP]
    have e1 : aR_bond a1 a2 a3 a4 a5 a6 a7 S = vR_bond a1 a2 a3 a4 a5 a6 a7 S := if_pos hc
    have e2 : aN_bond a1 a2 a3 a4 a5 a6 a7 S = vN_bond a1 a2 a3 a4 a5 a6 a7 S := if_pos hc
    exact g_iret C hR dL_bond_15 ⟨trivial, X2, by rw [e1], (by rw [e2]), (by rw [e2]; exact hI2)⟩ rfl
  · obtain ⟨hc, hE, X2, rfl, hI2⟩ := hp9
    rw [puP]
    have e1 : aR_bond a1 a2 a3 a4 a5 a6 a7 S = (-2000000000) := if_neg hc
    have e2 : aN_bond a1 a2 a3 a4 a5 a6 a7 S = S := if_neg hc
    simp only [List.mem_cons, List.not_mem_nil, or_false] at hE
    rcases hE with rfl | rfl
    · refine g_catch C hZ hT [] _ _ rfl (fun _ h => absurd h List.not_mem_nil) (by decide) (by decide) h_L_14 (by decide +kernel) (fun q9 => ?_)
      refine g_astore C [(8, .ref q9), (0, .ref (B 0)), (1, vi a1), (2, vi a2), (3, vi a3), (4, vi a4), (5, vi a5), (6, vi a6), (7, vi a7)] dL_bond_16 (by decide) rfl ?_
      refine g_ldc C (-2000000000) n_L_16 (by decide) dL_bond_18 ?_
      exact g_iret C hR dL_bond_20 ⟨trivial, X2, by rw [e1], (by rw [e2]), (by rw [e2]; exact hI2)⟩ rfl
    · refine g_catch C hZ hT [_] _ _ rfl (List.forall_mem_cons.mpr ⟨Or.inr ⟨by decide, E1, h_L_14, by decide +kernel⟩, (fun _ h => absurd h List.not_mem_nil)⟩) (by decide) (by decide) h_L_17 (by decide +kernel) (fun q9 => ?_)
      refine g_astore C [(8, .ref q9), (0, .ref (B 0)), (1, vi a1), (2, vi a2), (3, vi a3), (4, vi a4), (5, vi a5), (6, vi a6), (7, vi a7)] dL_bond_21 (by decide) rfl ?_
      refine g_ldc C (-2000000000) n_L_16 (by decide) dL_bond_23 ?_
      exact g_iret C hR dL_bond_25 ⟨trivial, X2, by rw [e1], (by rw [e2]), (by rw [e2]; exact hI2)⟩ rfl

set_option maxHeartbeats 4000000 in
set_option maxRecDepth 100000 in
theorem q_extend (l : Launch) (hst9 : l.stackTraces = false) (g : gD) (B : Nat → Nat) (S X : Nat → Int → Int) (b h : Int) (hI : iv9 S X) (h9b : -2147483648 ≤ b ∧ b < 2147483648) (h9h : -2147483648 ≤ h ∧ h < 2147483648) : gMetZ l g yL_extend cL_extend 4 (some .int) [(0, 6, 7, 23), (0, 6, 11, 14), (0, 6, 15, 17)] 7 1 6 122 [.ref (B 0), vi b, vi h] (wP g B S X) (pO g B (aN_extend b h S) (vi (aR_extend b h S)) True) := by
  refine gMetZ.of (by decide +kernel) (Nat.le_of_ble_eq_true rfl) ?_
  intro x hlx C hR hZ hT
  subst hlx
  have C : gC g x RL cL_extend 4 7 1 6 122 := C
  show gW g x (wP g B S X) 0 0 [(0, .ref (B 0)), (1, vi b), (2, vi h)] 0 []
  refine g_aload_n C 0 dL_extend_0 rfl ?_
  refine g_iload_n C 1 dL_extend_1 rfl ?_
  refine g_iload_n C 2 dL_extend_2 rfl ?_
  refine g_callVX C hZ [vi b, vi h] [] (p_extend x.1.2.1 hst9 g B S X b h hI h9b h9h) y_X9_extend l_L_60 isP (hCP g B S X) ndP 0 rfl rfl rfl (Nat.le_of_ble_eq_true rfl) rfl (by decide) dL_extend_3 (fun v9 w9 hp9 => ?_) (fun E9 w9 hp9 => ?_)
  · obtain ⟨hc, X2, rfl, rfl, hI2⟩ := hp9
    rw [puP]
    have e1 : aR_extend b h S = vR_extend b h S := if_pos hc
    have e2 : aN_extend b h S = vN_extend b h S := if_pos hc
    exact g_iret C hR dL_extend_6 ⟨trivial, X2, by rw [e1], (by rw [e2]), (by rw [e2]; exact hI2)⟩ rfl
  · obtain ⟨hc, hE, X2, rfl, hI2⟩ := hp9
    rw [puP]
    have e1 : aR_extend b h S = (-2000000000) := if_neg hc
    have e2 : aN_extend b h S = S := if_neg hc
    simp only [List.mem_cons, List.not_mem_nil, or_false] at hE
    rcases hE with rfl | rfl | rfl
    · refine g_catch C hZ hT [_] _ _ rfl (List.forall_mem_cons.mpr ⟨Or.inr ⟨by decide, E3, h_L_23, by decide +kernel⟩, (fun _ h => absurd h List.not_mem_nil)⟩) (by decide) (by decide) h_L_14 (by decide +kernel) (fun q9 => ?_)
      refine g_astore_n C [(3, .ref q9), (0, .ref (B 0)), (1, vi b), (2, vi h)] dL_extend_11 (by decide) rfl ?_
      refine g_ldc C (-2000000000) n_L_16 (by decide) dL_extend_12 ?_
      exact g_iret C hR dL_extend_14 ⟨trivial, X2, by rw [e1], (by rw [e2]), (by rw [e2]; exact hI2)⟩ rfl
    · refine g_catch C hZ hT [_, _] _ _ rfl (List.forall_mem_cons.mpr ⟨Or.inr ⟨by decide, E3, h_L_23, by decide +kernel⟩, (List.forall_mem_cons.mpr ⟨Or.inr ⟨by decide, E1, h_L_14, by decide +kernel⟩, (fun _ h => absurd h List.not_mem_nil)⟩)⟩) (by decide) (by decide) h_L_17 (by decide +kernel) (fun q9 => ?_)
      refine g_astore_n C [(3, .ref q9), (0, .ref (B 0)), (1, vi b), (2, vi h)] dL_extend_15 (by decide) rfl ?_
      refine g_ldc C (-2000000000) n_L_16 (by decide) dL_extend_16 ?_
      exact g_iret C hR dL_extend_18 ⟨trivial, X2, by rw [e1], (by rw [e2]), (by rw [e2]; exact hI2)⟩ rfl
    · refine g_catch C hZ hT [] _ _ rfl (fun _ h => absurd h List.not_mem_nil) (by decide) (by decide) h_L_23 (by decide +kernel) (fun q9 => ?_)
      refine g_astore_n C [(3, .ref q9), (0, .ref (B 0)), (1, vi b), (2, vi h)] dL_extend_7 (by decide) rfl ?_
      refine g_ldc C (-2000000000) n_L_16 (by decide) dL_extend_8 ?_
      exact g_iret C hR dL_extend_10 ⟨trivial, X2, by rw [e1], (by rw [e2]), (by rw [e2]; exact hI2)⟩ rfl

set_option maxHeartbeats 4000000 in
set_option maxRecDepth 100000 in
theorem q_pass (l : Launch) (hst9 : l.stackTraces = false) (g : gD) (B : Nat → Nat) (S X : Nat → Int → Int) (h : Int) (hI : iv9 S X) (h9h : -2147483648 ≤ h ∧ h < 2147483648) : gMetZ l g yL_pass cL_pass 3 (some .int) [(0, 5, 6, 14), (0, 5, 10, 17)] 7 1 6 121 [.ref (B 0), vi h] (wP g B S X) (pO g B (aN_pass h S) (vi (aR_pass h S)) True) := by
  refine gMetZ.of (by decide +kernel) (Nat.le_of_ble_eq_true rfl) ?_
  intro x hlx C hR hZ hT
  subst hlx
  have C : gC g x RL cL_pass 3 7 1 6 121 := C
  show gW g x (wP g B S X) 0 0 [(0, .ref (B 0)), (1, vi h)] 0 []
  refine g_aload_n C 0 dL_pass_0 rfl ?_
  refine g_iload_n C 1 dL_pass_1 rfl ?_
  refine g_callVX C hZ [vi h] [] (p_pass x.1.2.1 hst9 g B S X h hI h9h) y_X9_pass l_L_63 isP (hCP g B S X) ndP 0 rfl rfl rfl (Nat.le_of_ble_eq_true rfl) rfl (by decide) dL_pass_2 (fun v9 w9 hp9 => ?_) (fun E9 w9 hp9 => ?_)
  · obtain ⟨hc, X2, rfl, rfl, hI2⟩ := hp9
    rw [puP]
    have e1 : aR_pass h S = vR_pass h S := if_pos hc
    have e2 : aN_pass h S = vN_pass h S := if_pos hc
    exact g_iret C hR dL_pass_5 ⟨trivial, X2, by rw [e1], (by rw [e2]), (by rw [e2]; exact hI2)⟩ rfl
  · obtain ⟨hc, hE, X2, rfl, hI2⟩ := hp9
    rw [puP]
    have e1 : aR_pass h S = (-2000000000) := if_neg hc
    have e2 : aN_pass h S = S := if_neg hc
    simp only [List.mem_cons, List.not_mem_nil, or_false] at hE
    rcases hE with rfl | rfl
    · refine g_catch C hZ hT [] _ _ rfl (fun _ h => absurd h List.not_mem_nil) (by decide) (by decide) h_L_14 (by decide +kernel) (fun q9 => ?_)
      refine g_astore_n C [(2, .ref q9), (0, .ref (B 0)), (1, vi h)] dL_pass_6 (by decide) rfl ?_
      refine g_ldc C (-2000000000) n_L_16 (by decide) dL_pass_7 ?_
      exact g_iret C hR dL_pass_9 ⟨trivial, X2, by rw [e1], (by rw [e2]), (by rw [e2]; exact hI2)⟩ rfl
    · refine g_catch C hZ hT [_] _ _ rfl (List.forall_mem_cons.mpr ⟨Or.inr ⟨by decide, E1, h_L_14, by decide +kernel⟩, (fun _ h => absurd h List.not_mem_nil)⟩) (by decide) (by decide) h_L_17 (by decide +kernel) (fun q9 => ?_)
      refine g_astore_n C [(2, .ref q9), (0, .ref (B 0)), (1, vi h)] dL_pass_10 (by decide) rfl ?_
      refine g_ldc C (-2000000000) n_L_16 (by decide) dL_pass_11 ?_
      exact g_iret C hR dL_pass_13 ⟨trivial, X2, by rw [e1], (by rw [e2]), (by rw [e2]; exact hI2)⟩ rfl

set_option maxHeartbeats 4000000 in
set_option maxRecDepth 100000 in
theorem q_scenario (l : Launch) (hst9 : l.stackTraces = false) (g : gD) (B : Nat → Nat) (S X : Nat → Int → Int) (q a b : Int) (hI : iv9 S X) (h9q : -2147483648 ≤ q ∧ q < 2147483648) (h9a : -2147483648 ≤ a ∧ a < 2147483648) (h9b : -2147483648 ≤ b ∧ b < 2147483648) : gMetZ l g yL_scenario cL_scenario 5 (some .int) [(0, 7, 8, 23), (0, 7, 13, 14), (0, 7, 18, 17)] 7 1 6 123 [.ref (B 0), vi q, vi a, vi b] (wP g B S X) (pO g B (aN_scenario q a b S) (vi (aR_scenario q a b S)) True) := by
  refine gMetZ.of (by decide +kernel) (Nat.le_of_ble_eq_true rfl) ?_
  intro x hlx C hR hZ hT
  subst hlx
  have C : gC g x RL cL_scenario 5 7 1 6 123 := C
  show gW g x (wP g B S X) 0 0 [(0, .ref (B 0)), (1, vi q), (2, vi a), (3, vi b)] 0 []
  refine g_aload_n C 0 dL_scenario_0 rfl ?_
  refine g_iload_n C 1 dL_scenario_1 rfl ?_
  refine g_iload_n C 2 dL_scenario_2 rfl ?_
  refine g_iload_n C 3 dL_scenario_3 rfl ?_
  refine g_callVX C hZ [vi q, vi a, vi b] [] (p_scenario x.1.2.1 hst9 g B S X q a b hI h9q h9a h9b) y_X9_scenario l_L_66 isP (hCP g B S X) ndP 0 rfl rfl rfl (Nat.le_of_ble_eq_true rfl) rfl (by decide) dL_scenario_4 (fun v9 w9 hp9 => ?_) (fun E9 w9 hp9 => ?_)
  · obtain ⟨hc, X2, rfl, rfl, hI2⟩ := hp9
    rw [puP]
    have e1 : aR_scenario q a b S = vR_scenario q a b S := if_pos hc
    have e2 : aN_scenario q a b S = vN_scenario q a b S := if_pos hc
    exact g_iret C hR dL_scenario_7 ⟨trivial, X2, by rw [e1], (by rw [e2]), (by rw [e2]; exact hI2)⟩ rfl
  · obtain ⟨hc, hE, X2, rfl, hI2⟩ := hp9
    rw [puP]
    have e1 : aR_scenario q a b S = (-2000000000) := if_neg hc
    have e2 : aN_scenario q a b S = S := if_neg hc
    simp only [List.mem_cons, List.not_mem_nil, or_false] at hE
    rcases hE with rfl | rfl | rfl
    · refine g_catch C hZ hT [_] _ _ rfl (List.forall_mem_cons.mpr ⟨Or.inr ⟨by decide, E3, h_L_23, by decide +kernel⟩, (fun _ h => absurd h List.not_mem_nil)⟩) (by decide) (by decide) h_L_14 (by decide +kernel) (fun q9 => ?_)
      refine g_astore C [(4, .ref q9), (0, .ref (B 0)), (1, vi q), (2, vi a), (3, vi b)] dL_scenario_13 (by decide) rfl ?_
      refine g_ldc C (-2000000000) n_L_16 (by decide) dL_scenario_15 ?_
      exact g_iret C hR dL_scenario_17 ⟨trivial, X2, by rw [e1], (by rw [e2]), (by rw [e2]; exact hI2)⟩ rfl
    · refine g_catch C hZ hT [_, _] _ _ rfl (List.forall_mem_cons.mpr ⟨Or.inr ⟨by decide, E3, h_L_23, by decide +kernel⟩, (List.forall_mem_cons.mpr ⟨Or.inr ⟨by decide, E1, h_L_14, by decide +kernel⟩, (fun _ h => absurd h List.not_mem_nil)⟩)⟩) (by decide) (by decide) h_L_17 (by decide +kernel) (fun q9 => ?_)
      refine g_astore C [(4, .ref q9), (0, .ref (B 0)), (1, vi q), (2, vi a), (3, vi b)] dL_scenario_18 (by decide) rfl ?_
      refine g_ldc C (-2000000000) n_L_16 (by decide) dL_scenario_20 ?_
      exact g_iret C hR dL_scenario_22 ⟨trivial, X2, by rw [e1], (by rw [e2]), (by rw [e2]; exact hI2)⟩ rfl
    · refine g_catch C hZ hT [] _ _ rfl (fun _ h => absurd h List.not_mem_nil) (by decide) (by decide) h_L_23 (by decide +kernel) (fun q9 => ?_)
      refine g_astore C [(4, .ref q9), (0, .ref (B 0)), (1, vi q), (2, vi a), (3, vi b)] dL_scenario_8 (by decide) rfl ?_
      refine g_ldc C (-2000000000) n_L_16 (by decide) dL_scenario_10 ?_
      exact g_iret C hR dL_scenario_12 ⟨trivial, X2, by rw [e1], (by rw [e2]), (by rw [e2]; exact hI2)⟩ rfl

set_option maxHeartbeats 4000000 in
set_option maxRecDepth 100000 in
theorem q_occurrence (l : Launch) (hst9 : l.stackTraces = false) (g : gD) (B : Nat → Nat) (S X : Nat → Int → Int) (o w : Int) (hI : iv9 S X) (h9o : -2147483648 ≤ o ∧ o < 2147483648) (h9w : -2147483648 ≤ w ∧ w < 2147483648) : gMetZ l g yL_occurrence cL_occurrence 4 (some .int) [(0, 6, 7, 23), (0, 6, 11, 14)] 7 1 6 134 [.ref (B 0), vi o, vi w] (wP g B S X) (pO g B (S) (vi (aR_occurrence o w S)) True) := by
  refine gMetZ.of (by decide +kernel) (Nat.le_of_ble_eq_true rfl) ?_
  intro x hlx C hR hZ hT
  subst hlx
  have C : gC g x RL cL_occurrence 4 7 1 6 134 := C
  show gW g x (wP g B S X) 0 0 [(0, .ref (B 0)), (1, vi o), (2, vi w)] 0 []
  refine g_aload_n C 0 dL_occurrence_0 rfl ?_
  refine g_iload_n C 1 dL_occurrence_1 rfl ?_
  refine g_iload_n C 2 dL_occurrence_2 rfl ?_
  refine g_callVX C hZ [vi o, vi w] [] (p_occurrence x.1.2.1 hst9 g B S X o w hI h9o h9w) y_X9_occurrence l_L_69 isP (hCP g B S X) ndP 0 rfl rfl rfl (Nat.le_of_ble_eq_true rfl) rfl (by decide) dL_occurrence_3 (fun v9 w9 hp9 => ?_) (fun E9 w9 hp9 => ?_)
  · obtain ⟨hc, X2, rfl, rfl, hI2⟩ := hp9
    rw [puP]
    have e1 : aR_occurrence o w S = vR_occurrence o w S := if_pos hc
    exact g_iret C hR dL_occurrence_6 ⟨trivial, X2, by rw [e1], rfl, hI2⟩ rfl
  · obtain ⟨hc, hE, X2, rfl, hI2⟩ := hp9
    rw [puP]
    have e1 : aR_occurrence o w S = (-2000000000) := if_neg hc
    simp only [List.mem_cons, List.not_mem_nil, or_false] at hE
    rcases hE with rfl | rfl
    · refine g_catch C hZ hT [_] _ _ rfl (List.forall_mem_cons.mpr ⟨Or.inr ⟨by decide, E3, h_L_23, by decide +kernel⟩, (fun _ h => absurd h List.not_mem_nil)⟩) (by decide) (by decide) h_L_14 (by decide +kernel) (fun q9 => ?_)
      refine g_astore_n C [(3, .ref q9), (0, .ref (B 0)), (1, vi o), (2, vi w)] dL_occurrence_11 (by decide) rfl ?_
      refine g_ldc C (-2000000000) n_L_16 (by decide) dL_occurrence_12 ?_
      exact g_iret C hR dL_occurrence_14 ⟨trivial, X2, by rw [e1], rfl, hI2⟩ rfl
    · refine g_catch C hZ hT [] _ _ rfl (fun _ h => absurd h List.not_mem_nil) (by decide) (by decide) h_L_23 (by decide +kernel) (fun q9 => ?_)
      refine g_astore_n C [(3, .ref q9), (0, .ref (B 0)), (1, vi o), (2, vi w)] dL_occurrence_7 (by decide) rfl ?_
      refine g_ldc C (-2000000000) n_L_16 (by decide) dL_occurrence_8 ?_
      exact g_iret C hR dL_occurrence_10 ⟨trivial, X2, by rw [e1], rfl, hI2⟩ rfl

set_option maxHeartbeats 4000000 in
set_option maxRecDepth 100000 in
theorem q_hit (l : Launch) (hst9 : l.stackTraces = false) (g : gD) (B : Nat → Nat) (S X : Nat → Int → Int) (y o w : Int) (hI : iv9 S X) (h9y : -2147483648 ≤ y ∧ y < 2147483648) (h9o : -2147483648 ≤ o ∧ o < 2147483648) (h9w : -2147483648 ≤ w ∧ w < 2147483648) : gMetZ l g yL_hit cL_hit 5 (some .int) [(0, 7, 8, 23), (0, 7, 13, 14)] 7 1 6 135 [.ref (B 0), vi y, vi o, vi w] (wP g B S X) (pO g B (S) (vi (aR_hit y o w S)) True) := by
  refine gMetZ.of (by decide +kernel) (Nat.le_of_ble_eq_true rfl) ?_
  intro x hlx C hR hZ hT
  subst hlx
  have C : gC g x RL cL_hit 5 7 1 6 135 := C
  show gW g x (wP g B S X) 0 0 [(0, .ref (B 0)), (1, vi y), (2, vi o), (3, vi w)] 0 []
  refine g_aload_n C 0 dL_hit_0 rfl ?_
  refine g_iload_n C 1 dL_hit_1 rfl ?_
  refine g_iload_n C 2 dL_hit_2 rfl ?_
  refine g_iload_n C 3 dL_hit_3 rfl ?_
  refine g_callVX C hZ [vi y, vi o, vi w] [] (p_hit x.1.2.1 hst9 g B S X y o w hI h9y h9o h9w) y_X9_hit l_L_72 isP (hCP g B S X) ndP 0 rfl rfl rfl (Nat.le_of_ble_eq_true rfl) rfl (by decide) dL_hit_4 (fun v9 w9 hp9 => ?_) (fun E9 w9 hp9 => ?_)
  · obtain ⟨hc, X2, rfl, rfl, hI2⟩ := hp9
    rw [puP]
    have e1 : aR_hit y o w S = vR_hit y o w S := if_pos hc
    exact g_iret C hR dL_hit_7 ⟨trivial, X2, by rw [e1], rfl, hI2⟩ rfl
  · obtain ⟨hc, hE, X2, rfl, hI2⟩ := hp9
    rw [puP]
    have e1 : aR_hit y o w S = (-2000000000) := if_neg hc
    simp only [List.mem_cons, List.not_mem_nil, or_false] at hE
    rcases hE with rfl | rfl
    · refine g_catch C hZ hT [_] _ _ rfl (List.forall_mem_cons.mpr ⟨Or.inr ⟨by decide, E3, h_L_23, by decide +kernel⟩, (fun _ h => absurd h List.not_mem_nil)⟩) (by decide) (by decide) h_L_14 (by decide +kernel) (fun q9 => ?_)
      refine g_astore C [(4, .ref q9), (0, .ref (B 0)), (1, vi y), (2, vi o), (3, vi w)] dL_hit_13 (by decide) rfl ?_
      refine g_ldc C (-2000000000) n_L_16 (by decide) dL_hit_15 ?_
      exact g_iret C hR dL_hit_17 ⟨trivial, X2, by rw [e1], rfl, hI2⟩ rfl
    · refine g_catch C hZ hT [] _ _ rfl (fun _ h => absurd h List.not_mem_nil) (by decide) (by decide) h_L_23 (by decide +kernel) (fun q9 => ?_)
      refine g_astore C [(4, .ref q9), (0, .ref (B 0)), (1, vi y), (2, vi o), (3, vi w)] dL_hit_8 (by decide) rfl ?_
      refine g_ldc C (-2000000000) n_L_16 (by decide) dL_hit_10 ?_
      exact g_iret C hR dL_hit_12 ⟨trivial, X2, by rw [e1], rfl, hI2⟩ rfl

set_option maxHeartbeats 4000000 in
set_option maxRecDepth 100000 in
theorem q_sum (l : Launch) (hst9 : l.stackTraces = false) (g : gD) (B : Nat → Nat) (S X : Nat → Int → Int) (w : Int) (hI : iv9 S X) (h9w : -2147483648 ≤ w ∧ w < 2147483648) : gMetZ l g yL_sum cL_sum 3 (some .int) [(0, 5, 6, 14)] 7 1 6 153 [.ref (B 0), vi w] (wP g B S X) (pO g B (S) (vi (aR_sum w S)) True) := by
  refine gMetZ.of (by decide +kernel) (Nat.le_of_ble_eq_true rfl) ?_
  intro x hlx C hR hZ hT
  subst hlx
  have C : gC g x RL cL_sum 3 7 1 6 153 := C
  show gW g x (wP g B S X) 0 0 [(0, .ref (B 0)), (1, vi w)] 0 []
  refine g_aload_n C 0 dL_sum_0 rfl ?_
  refine g_iload_n C 1 dL_sum_1 rfl ?_
  refine g_callVX C hZ [vi w] [] (p_sum x.1.2.1 hst9 g B S X w hI h9w) y_X9_sum l_L_75 isP (hCP g B S X) ndP 0 rfl rfl rfl (Nat.le_of_ble_eq_true rfl) rfl (by decide) dL_sum_2 (fun v9 w9 hp9 => ?_) (fun E9 w9 hp9 => ?_)
  · obtain ⟨hc, X2, rfl, rfl, hI2⟩ := hp9
    rw [puP]
    have e1 : aR_sum w S = vR_sum w S := if_pos hc
    exact g_iret C hR dL_sum_5 ⟨trivial, X2, by rw [e1], rfl, hI2⟩ rfl
  · obtain ⟨hc, hE, X2, rfl, hI2⟩ := hp9
    rw [puP]
    have e1 : aR_sum w S = (-2000000000) := if_neg hc
    simp only [List.mem_cons, List.not_mem_nil, or_false] at hE
    subst hE
    refine g_catch C hZ hT [] _ _ rfl (fun _ h => absurd h List.not_mem_nil) (by decide) (by decide) h_L_14 (by decide +kernel) (fun q9 => ?_)
    refine g_astore_n C [(2, .ref q9), (0, .ref (B 0)), (1, vi w)] dL_sum_6 (by decide) rfl ?_
    refine g_ldc C (-2000000000) n_L_16 (by decide) dL_sum_7 ?_
    exact g_iret C hR dL_sum_9 ⟨trivial, X2, by rw [e1], rfl, hI2⟩ rfl

set_option maxHeartbeats 4000000 in
set_option maxRecDepth 100000 in
theorem q_reinsurer (l : Launch) (hst9 : l.stackTraces = false) (g : gD) (B : Nat → Nat) (S X : Nat → Int → Int) (z w : Int) (hI : iv9 S X) (h9z : -2147483648 ≤ z ∧ z < 2147483648) (h9w : -2147483648 ≤ w ∧ w < 2147483648) : gMetZ l g yL_reinsurer cL_reinsurer 4 (some .int) [(0, 6, 7, 23), (0, 6, 11, 14)] 7 1 6 154 [.ref (B 0), vi z, vi w] (wP g B S X) (pO g B (S) (vi (aR_reinsurer z w S)) True) := by
  refine gMetZ.of (by decide +kernel) (Nat.le_of_ble_eq_true rfl) ?_
  intro x hlx C hR hZ hT
  subst hlx
  have C : gC g x RL cL_reinsurer 4 7 1 6 154 := C
  show gW g x (wP g B S X) 0 0 [(0, .ref (B 0)), (1, vi z), (2, vi w)] 0 []
  refine g_aload_n C 0 dL_reinsurer_0 rfl ?_
  refine g_iload_n C 1 dL_reinsurer_1 rfl ?_
  refine g_iload_n C 2 dL_reinsurer_2 rfl ?_
  refine g_callVX C hZ [vi z, vi w] [] (p_reinsurer x.1.2.1 hst9 g B S X z w hI h9z h9w) y_X9_reinsurer l_L_78 isP (hCP g B S X) ndP 0 rfl rfl rfl (Nat.le_of_ble_eq_true rfl) rfl (by decide) dL_reinsurer_3 (fun v9 w9 hp9 => ?_) (fun E9 w9 hp9 => ?_)
  · obtain ⟨hc, X2, rfl, rfl, hI2⟩ := hp9
    rw [puP]
    have e1 : aR_reinsurer z w S = vR_reinsurer z w S := if_pos hc
    exact g_iret C hR dL_reinsurer_6 ⟨trivial, X2, by rw [e1], rfl, hI2⟩ rfl
  · obtain ⟨hc, hE, X2, rfl, hI2⟩ := hp9
    rw [puP]
    have e1 : aR_reinsurer z w S = (-2000000000) := if_neg hc
    simp only [List.mem_cons, List.not_mem_nil, or_false] at hE
    rcases hE with rfl | rfl
    · refine g_catch C hZ hT [_] _ _ rfl (List.forall_mem_cons.mpr ⟨Or.inr ⟨by decide, E3, h_L_23, by decide +kernel⟩, (fun _ h => absurd h List.not_mem_nil)⟩) (by decide) (by decide) h_L_14 (by decide +kernel) (fun q9 => ?_)
      refine g_astore_n C [(3, .ref q9), (0, .ref (B 0)), (1, vi z), (2, vi w)] dL_reinsurer_11 (by decide) rfl ?_
      refine g_ldc C (-2000000000) n_L_16 (by decide) dL_reinsurer_12 ?_
      exact g_iret C hR dL_reinsurer_14 ⟨trivial, X2, by rw [e1], rfl, hI2⟩ rfl
    · refine g_catch C hZ hT [] _ _ rfl (fun _ h => absurd h List.not_mem_nil) (by decide) (by decide) h_L_23 (by decide +kernel) (fun q9 => ?_)
      refine g_astore_n C [(3, .ref q9), (0, .ref (B 0)), (1, vi z), (2, vi w)] dL_reinsurer_7 (by decide) rfl ?_
      refine g_ldc C (-2000000000) n_L_16 (by decide) dL_reinsurer_8 ?_
      exact g_iret C hR dL_reinsurer_10 ⟨trivial, X2, by rw [e1], rfl, hI2⟩ rfl

set_option maxHeartbeats 4000000 in
set_option maxRecDepth 100000 in
theorem q_best (l : Launch) (hst9 : l.stackTraces = false) (g : gD) (B : Nat → Nat) (S X : Nat → Int → Int) (p : Int) (hI : iv9 S X) (h9p : -2147483648 ≤ p ∧ p < 2147483648) : gMetZ l g yL_best cL_best 3 (some .int) [(0, 5, 6, 14)] 7 1 6 121 [.ref (B 0), vi p] (wP g B S X) (pO g B (S) (vi (aR_best p S)) True) := by
  refine gMetZ.of (by decide +kernel) (Nat.le_of_ble_eq_true rfl) ?_
  intro x hlx C hR hZ hT
  subst hlx
  have C : gC g x RL cL_best 3 7 1 6 121 := C
  show gW g x (wP g B S X) 0 0 [(0, .ref (B 0)), (1, vi p)] 0 []
  refine g_aload_n C 0 dL_best_0 rfl ?_
  refine g_iload_n C 1 dL_best_1 rfl ?_
  refine g_callVX C hZ [vi p] [] (p_best x.1.2.1 hst9 g B S X p hI h9p) y_X9_best l_L_81 isP (hCP g B S X) ndP 0 rfl rfl rfl (Nat.le_of_ble_eq_true rfl) rfl (by decide) dL_best_2 (fun v9 w9 hp9 => ?_) (fun E9 w9 hp9 => ?_)
  · obtain ⟨hc, X2, rfl, rfl, hI2⟩ := hp9
    rw [puP]
    have hc := hc.1
    have e1 : aR_best p S = vR_best p S := if_pos hc
    exact g_iret C hR dL_best_5 ⟨trivial, X2, by rw [e1], rfl, hI2⟩ rfl
  · obtain ⟨hc, hE, X2, rfl, hI2⟩ := hp9
    rw [puP]
    have e1 : aR_best p S = (-2000000000) := if_neg hc
    simp only [List.mem_cons, List.not_mem_nil, or_false] at hE
    subst hE
    refine g_catch C hZ hT [] _ _ rfl (fun _ h => absurd h List.not_mem_nil) (by decide) (by decide) h_L_14 (by decide +kernel) (fun q9 => ?_)
    refine g_astore_n C [(2, .ref q9), (0, .ref (B 0)), (1, vi p)] dL_best_6 (by decide) rfl ?_
    refine g_ldc C (-2000000000) n_L_16 (by decide) dL_best_7 ?_
    exact g_iret C hR dL_best_9 ⟨trivial, X2, by rw [e1], rfl, hI2⟩ rfl

set_option maxHeartbeats 4000000 in
set_option maxRecDepth 100000 in
theorem q_bestAnew (l : Launch) (hst9 : l.stackTraces = false) (g : gD) (B : Nat → Nat) (S X : Nat → Int → Int) (p : Int) (hI : iv9 S X) (h9p : -2147483648 ≤ p ∧ p < 2147483648) : gMetZ l g yL_bestAnew cL_bestAnew 3 (some .int) [(0, 5, 6, 14), (0, 5, 10, 17)] 13 1 6 319 [.ref (B 0), vi p] (wP g B S X) (pO g B (S) (vi (aR_bestAnew p S)) True) := by
  refine gMetZ.of (by decide +kernel) (Nat.le_of_ble_eq_true rfl) ?_
  intro x hlx C hR hZ hT
  subst hlx
  have C : gC g x RL cL_bestAnew 3 13 1 6 319 := C
  show gW g x (wP g B S X) 0 0 [(0, .ref (B 0)), (1, vi p)] 0 []
  refine g_aload_n C 0 dL_bestAnew_0 rfl ?_
  refine g_iload_n C 1 dL_bestAnew_1 rfl ?_
  refine g_callVX C hZ [vi p] [] (p_bestAnew x.1.2.1 hst9 g B S X p hI h9p) y_X9_bestAnew l_L_84 isP (hCP g B S X) ndP 0 rfl rfl rfl (Nat.le_of_ble_eq_true rfl) rfl (by decide) dL_bestAnew_2 (fun v9 w9 hp9 => ?_) (fun E9 w9 hp9 => ?_)
  · obtain ⟨hc, X2, rfl, rfl, hI2⟩ := hp9
    rw [puP]
    have e1 : aR_bestAnew p S = vR_bestAnew p S := if_pos hc
    exact g_iret C hR dL_bestAnew_5 ⟨trivial, X2, by rw [e1], rfl, hI2⟩ rfl
  · obtain ⟨hc, hE, X2, rfl, hI2⟩ := hp9
    rw [puP]
    have e1 : aR_bestAnew p S = (-2000000000) := if_neg hc
    simp only [List.mem_cons, List.not_mem_nil, or_false] at hE
    rcases hE with rfl | rfl
    · refine g_catch C hZ hT [] _ _ rfl (fun _ h => absurd h List.not_mem_nil) (by decide) (by decide) h_L_14 (by decide +kernel) (fun q9 => ?_)
      refine g_astore_n C [(2, .ref q9), (0, .ref (B 0)), (1, vi p)] dL_bestAnew_6 (by decide) rfl ?_
      refine g_ldc C (-2000000000) n_L_16 (by decide) dL_bestAnew_7 ?_
      exact g_iret C hR dL_bestAnew_9 ⟨trivial, X2, by rw [e1], rfl, hI2⟩ rfl
    · refine g_catch C hZ hT [_] _ _ rfl (List.forall_mem_cons.mpr ⟨Or.inr ⟨by decide, E1, h_L_14, by decide +kernel⟩, (fun _ h => absurd h List.not_mem_nil)⟩) (by decide) (by decide) h_L_17 (by decide +kernel) (fun q9 => ?_)
      refine g_astore_n C [(2, .ref q9), (0, .ref (B 0)), (1, vi p)] dL_bestAnew_10 (by decide) rfl ?_
      refine g_ldc C (-2000000000) n_L_16 (by decide) dL_bestAnew_11 ?_
      exact g_iret C hR dL_bestAnew_13 ⟨trivial, X2, by rw [e1], rfl, hI2⟩ rfl

set_option maxHeartbeats 4000000 in
set_option maxRecDepth 100000 in
theorem q_ofBond (l : Launch) (hst9 : l.stackTraces = false) (g : gD) (B : Nat → Nat) (S X : Nat → Int → Int) (b w : Int) (hI : iv9 S X) (h9b : -2147483648 ≤ b ∧ b < 2147483648) (h9w : -2147483648 ≤ w ∧ w < 2147483648) : gMetZ l g yL_ofBond cL_ofBond 4 (some .int) [(0, 6, 7, 23), (0, 6, 11, 14)] 7 1 6 166 [.ref (B 0), vi b, vi w] (wP g B S X) (pO g B (S) (vi (aR_ofBond b w S)) True) := by
  refine gMetZ.of (by decide +kernel) (Nat.le_of_ble_eq_true rfl) ?_
  intro x hlx C hR hZ hT
  subst hlx
  have C : gC g x RL cL_ofBond 4 7 1 6 166 := C
  show gW g x (wP g B S X) 0 0 [(0, .ref (B 0)), (1, vi b), (2, vi w)] 0 []
  refine g_aload_n C 0 dL_ofBond_0 rfl ?_
  refine g_iload_n C 1 dL_ofBond_1 rfl ?_
  refine g_iload_n C 2 dL_ofBond_2 rfl ?_
  refine g_callVX C hZ [vi b, vi w] [] (p_ofBond x.1.2.1 hst9 g B S X b w hI h9b h9w) y_X9_ofBond l_L_87 isP (hCP g B S X) ndP 0 rfl rfl rfl (Nat.le_of_ble_eq_true rfl) rfl (by decide) dL_ofBond_3 (fun v9 w9 hp9 => ?_) (fun E9 w9 hp9 => ?_)
  · obtain ⟨hc, X2, rfl, rfl, hI2⟩ := hp9
    rw [puP]
    have e1 : aR_ofBond b w S = vR_ofBond b w S := if_pos hc
    exact g_iret C hR dL_ofBond_6 ⟨trivial, X2, by rw [e1], rfl, hI2⟩ rfl
  · obtain ⟨hc, hE, X2, rfl, hI2⟩ := hp9
    rw [puP]
    have e1 : aR_ofBond b w S = (-2000000000) := if_neg hc
    simp only [List.mem_cons, List.not_mem_nil, or_false] at hE
    rcases hE with rfl | rfl
    · refine g_catch C hZ hT [_] _ _ rfl (List.forall_mem_cons.mpr ⟨Or.inr ⟨by decide, E3, h_L_23, by decide +kernel⟩, (fun _ h => absurd h List.not_mem_nil)⟩) (by decide) (by decide) h_L_14 (by decide +kernel) (fun q9 => ?_)
      refine g_astore_n C [(3, .ref q9), (0, .ref (B 0)), (1, vi b), (2, vi w)] dL_ofBond_11 (by decide) rfl ?_
      refine g_ldc C (-2000000000) n_L_16 (by decide) dL_ofBond_12 ?_
      exact g_iret C hR dL_ofBond_14 ⟨trivial, X2, by rw [e1], rfl, hI2⟩ rfl
    · refine g_catch C hZ hT [] _ _ rfl (fun _ h => absurd h List.not_mem_nil) (by decide) (by decide) h_L_23 (by decide +kernel) (fun q9 => ?_)
      refine g_astore_n C [(3, .ref q9), (0, .ref (B 0)), (1, vi b), (2, vi w)] dL_ofBond_7 (by decide) rfl ?_
      refine g_ldc C (-2000000000) n_L_16 (by decide) dL_ofBond_8 ?_
      exact g_iret C hR dL_ofBond_10 ⟨trivial, X2, by rw [e1], rfl, hI2⟩ rfl

set_option maxHeartbeats 4000000 in
set_option maxRecDepth 100000 in
theorem q_price (l : Launch) (hst9 : l.stackTraces = false) (g : gD) (B : Nat → Nat) (S X : Nat → Int → Int) (y q : Int) (hI : iv9 S X) (h9y : -2147483648 ≤ y ∧ y < 2147483648) (h9q : -2147483648 ≤ q ∧ q < 2147483648) : gMetZ l g yL_price cL_price 4 (some .long) [(0, 6, 7, 23), (0, 6, 12, 17)] 7 1 6 123 [.ref (B 0), vi y, vi q] (wP g B S X) (pO g B (S) (vl (aR_price y q S)) True) := by
  refine gMetZ.of (by decide +kernel) (Nat.le_of_ble_eq_true rfl) ?_
  intro x hlx C hR hZ hT
  subst hlx
  have C : gC g x RL cL_price 4 7 1 6 123 := C
  show gW g x (wP g B S X) 0 0 [(0, .ref (B 0)), (1, vi y), (2, vi q)] 0 []
  refine g_aload_n C 0 dL_price_0 rfl ?_
  refine g_iload_n C 1 dL_price_1 rfl ?_
  refine g_iload_n C 2 dL_price_2 rfl ?_
  refine g_callVX C hZ [vi y, vi q] [] (p_price x.1.2.1 hst9 g B S X y q hI h9y h9q) y_X9_price l_L_90 isP (hCP g B S X) ndP 0 rfl rfl rfl (Nat.le_of_ble_eq_true rfl) rfl (by decide) dL_price_3 (fun v9 w9 hp9 => ?_) (fun E9 w9 hp9 => ?_)
  · obtain ⟨hc, X2, rfl, rfl, hI2⟩ := hp9
    rw [puP]
    have e1 : aR_price y q S = vR_price y q S := if_pos hc
    exact g_lret C hR dL_price_6 ⟨trivial, X2, by rw [e1], rfl, hI2⟩ rfl
  · obtain ⟨hc, hE, X2, rfl, hI2⟩ := hp9
    rw [puP]
    have e1 : aR_price y q S = (-9000000000000000) := if_neg hc
    simp only [List.mem_cons, List.not_mem_nil, or_false] at hE
    rcases hE with rfl | rfl
    · refine g_catch C hZ hT [_] _ _ rfl (List.forall_mem_cons.mpr ⟨Or.inr ⟨by decide, E3, h_L_23, by decide +kernel⟩, (fun _ h => absurd h List.not_mem_nil)⟩) (by decide) (by decide) h_L_17 (by decide +kernel) (fun q9 => ?_)
      refine g_astore_n C [(3, .ref q9), (0, .ref (B 0)), (1, vi y), (2, vi q)] dL_price_12 (by decide) rfl ?_
      refine g_ldc2 C (-9000000000000000) n_L_94 (by decide) dL_price_13 ?_
      exact g_lret C hR dL_price_16 ⟨trivial, X2, by rw [e1], rfl, hI2⟩ rfl
    · refine g_catch C hZ hT [] _ _ rfl (fun _ h => absurd h List.not_mem_nil) (by decide) (by decide) h_L_23 (by decide +kernel) (fun q9 => ?_)
      refine g_astore_n C [(3, .ref q9), (0, .ref (B 0)), (1, vi y), (2, vi q)] dL_price_7 (by decide) rfl ?_
      refine g_ldc2 C (-9000000000000000) n_L_94 (by decide) dL_price_8 ?_
      exact g_lret C hR dL_price_11 ⟨trivial, X2, by rw [e1], rfl, hI2⟩ rfl

set_option maxHeartbeats 4000000 in
set_option maxRecDepth 100000 in
theorem q_tail (l : Launch) (hst9 : l.stackTraces = false) (g : gD) (B : Nat → Nat) (S X : Nat → Int → Int) (y q u : Int) (hI : iv9 S X) (h9y : -2147483648 ≤ y ∧ y < 2147483648) (h9q : -2147483648 ≤ q ∧ q < 2147483648) (h9u : -2147483648 ≤ u ∧ u < 2147483648) : gMetZ l g yL_tail cL_tail 5 (some .int) [(0, 7, 8, 23), (0, 7, 13, 14), (0, 7, 18, 17)] 7 1 6 146 [.ref (B 0), vi y, vi q, vi u] (wP g B S X) (pO g B (S) (vi (aR_tail y q u S)) True) := by
  refine gMetZ.of (by decide +kernel) (Nat.le_of_ble_eq_true rfl) ?_
  intro x hlx C hR hZ hT
  subst hlx
  have C : gC g x RL cL_tail 5 7 1 6 146 := C
  show gW g x (wP g B S X) 0 0 [(0, .ref (B 0)), (1, vi y), (2, vi q), (3, vi u)] 0 []
  refine g_aload_n C 0 dL_tail_0 rfl ?_
  refine g_iload_n C 1 dL_tail_1 rfl ?_
  refine g_iload_n C 2 dL_tail_2 rfl ?_
  refine g_iload_n C 3 dL_tail_3 rfl ?_
  refine g_callVX C hZ [vi y, vi q, vi u] [] (p_tail x.1.2.1 hst9 g B S X y q u hI h9y h9q h9u) y_X9_tail l_L_96 isP (hCP g B S X) ndP 0 rfl rfl rfl (Nat.le_of_ble_eq_true rfl) rfl (by decide) dL_tail_4 (fun v9 w9 hp9 => ?_) (fun E9 w9 hp9 => ?_)
  · obtain ⟨hc, X2, rfl, rfl, hI2⟩ := hp9
    rw [puP]
    have e1 : aR_tail y q u S = vR_tail y q u S := if_pos hc
    exact g_iret C hR dL_tail_7 ⟨trivial, X2, by rw [e1], rfl, hI2⟩ rfl
  · obtain ⟨hc, hE, X2, rfl, hI2⟩ := hp9
    rw [puP]
    have e1 : aR_tail y q u S = (-2000000000) := if_neg hc
    simp only [List.mem_cons, List.not_mem_nil, or_false] at hE
    rcases hE with rfl | rfl | rfl
    · refine g_catch C hZ hT [_] _ _ rfl (List.forall_mem_cons.mpr ⟨Or.inr ⟨by decide, E3, h_L_23, by decide +kernel⟩, (fun _ h => absurd h List.not_mem_nil)⟩) (by decide) (by decide) h_L_14 (by decide +kernel) (fun q9 => ?_)
      refine g_astore C [(4, .ref q9), (0, .ref (B 0)), (1, vi y), (2, vi q), (3, vi u)] dL_tail_13 (by decide) rfl ?_
      refine g_ldc C (-2000000000) n_L_16 (by decide) dL_tail_15 ?_
      exact g_iret C hR dL_tail_17 ⟨trivial, X2, by rw [e1], rfl, hI2⟩ rfl
    · refine g_catch C hZ hT [_, _] _ _ rfl (List.forall_mem_cons.mpr ⟨Or.inr ⟨by decide, E3, h_L_23, by decide +kernel⟩, (List.forall_mem_cons.mpr ⟨Or.inr ⟨by decide, E1, h_L_14, by decide +kernel⟩, (fun _ h => absurd h List.not_mem_nil)⟩)⟩) (by decide) (by decide) h_L_17 (by decide +kernel) (fun q9 => ?_)
      refine g_astore C [(4, .ref q9), (0, .ref (B 0)), (1, vi y), (2, vi q), (3, vi u)] dL_tail_18 (by decide) rfl ?_
      refine g_ldc C (-2000000000) n_L_16 (by decide) dL_tail_20 ?_
      exact g_iret C hR dL_tail_22 ⟨trivial, X2, by rw [e1], rfl, hI2⟩ rfl
    · refine g_catch C hZ hT [] _ _ rfl (fun _ h => absurd h List.not_mem_nil) (by decide) (by decide) h_L_23 (by decide +kernel) (fun q9 => ?_)
      refine g_astore C [(4, .ref q9), (0, .ref (B 0)), (1, vi y), (2, vi q), (3, vi u)] dL_tail_8 (by decide) rfl ?_
      refine g_ldc C (-2000000000) n_L_16 (by decide) dL_tail_10 ?_
      exact g_iret C hR dL_tail_12 ⟨trivial, X2, by rw [e1], rfl, hI2⟩ rfl

set_option maxHeartbeats 4000000 in
set_option maxRecDepth 100000 in
theorem q_dearest (l : Launch) (hst9 : l.stackTraces = false) (g : gD) (B : Nat → Nat) (S X : Nat → Int → Int) (y bb : Int) (hI : iv9 S X) (h9y : -2147483648 ≤ y ∧ y < 2147483648) (h9bb : 0 ≤ bb ∧ bb ≤ 1) : gMetZ l g yL_dearest cL_dearest 4 (some .long) [(0, 6, 7, 23)] 7 1 6 170 [.ref (B 0), vi y, vi bb] (wP g B S X) (pO g B (S) (vl (aR_dearest y bb S)) True) := by
  refine gMetZ.of (by decide +kernel) (Nat.le_of_ble_eq_true rfl) ?_
  intro x hlx C hR hZ hT
  subst hlx
  have C : gC g x RL cL_dearest 4 7 1 6 170 := C
  show gW g x (wP g B S X) 0 0 [(0, .ref (B 0)), (1, vi y), (2, vi bb)] 0 []
  refine g_aload_n C 0 dL_dearest_0 rfl ?_
  refine g_iload_n C 1 dL_dearest_1 rfl ?_
  refine g_iload_n C 2 dL_dearest_2 rfl ?_
  refine g_callVX C hZ [vi y, vi bb] [] (p_dearest x.1.2.1 hst9 g B S X y bb hI h9y h9bb) y_X9_dearest l_L_99 isP (hCP g B S X) ndP 0 rfl rfl rfl (Nat.le_of_ble_eq_true rfl) rfl (by decide) dL_dearest_3 (fun v9 w9 hp9 => ?_) (fun E9 w9 hp9 => ?_)
  · obtain ⟨hc, X2, rfl, rfl, hI2⟩ := hp9
    rw [puP]
    have e1 : aR_dearest y bb S = vR_dearest y bb S := if_pos hc
    exact g_lret C hR dL_dearest_6 ⟨trivial, X2, by rw [e1], rfl, hI2⟩ rfl
  · obtain ⟨hc, hE, X2, rfl, hI2⟩ := hp9
    rw [puP]
    have e1 : aR_dearest y bb S = (-9000000000000000) := if_neg hc
    simp only [List.mem_cons, List.not_mem_nil, or_false] at hE
    subst hE
    refine g_catch C hZ hT [] _ _ rfl (fun _ h => absurd h List.not_mem_nil) (by decide) (by decide) h_L_23 (by decide +kernel) (fun q9 => ?_)
    refine g_astore_n C [(3, .ref q9), (0, .ref (B 0)), (1, vi y), (2, vi bb)] dL_dearest_7 (by decide) rfl ?_
    refine g_ldc2 C (-9000000000000000) n_L_94 (by decide) dL_dearest_8 ?_
    exact g_lret C hR dL_dearest_11 ⟨trivial, X2, by rw [e1], rfl, hI2⟩ rfl

