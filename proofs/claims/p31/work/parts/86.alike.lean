set_option maxHeartbeats 4000000 in
set_option maxRecDepth 100000 in
theorem q_alike (l : Launch) (hst9 : l.stackTraces = false) (g : gD) (B D : Nat → Nat) (S X Y : Nat → Int → Int) (v : Int) (hI : iv9 S X) (hK : iv9 S Y) : gMetQ l g yL_areAlike cL_areAlike 5 (some .boolean) 8 60 360 193 [.ref (B 0), .ref (D 0), vi v] (wP g B S X ++ wP g D S Y) (fun v9 w9 => ∃ X2 Y2, v9 = some (vi 1) ∧ w9 = wP g B S X2 ++ wP g D S Y2 ∧ iv9 S X2 ∧ iv9 S Y2) := by
  refine gMetQ.of (by decide +kernel) (Nat.le_of_ble_eq_true rfl) ?_
  intro x hlx C hR hZ
  subst hlx
  have C : gC g x RL cL_areAlike 5 8 60 360 193 := C
  have hl3 := lo9_r v (n := 3) (by decide)
  have hl6 := lo9_r v (n := 6) (by decide)
  show gW g x (wP g B S X ++ wP g D S Y) 0 0 [(0, .ref (B 0)), (1, .ref (D 0)), (2, vi v)] 0 []
  refine g_aload_n C 0 dL_areAlike_0 rfl ?_
  refine g_callV C [] [] (wM_a (p_rounds x.1.2.1 hst9 g B S X  hI) D S Y) y_X9_rounds l_L_154 (isP ++ isQ) (hCPQ _ _ _ _ _ _ _) ndPQ 0 rfl rfl rfl (Nat.le_of_ble_eq_true rfl) rfl (by omega) dL_areAlike_1 (fun v9 w9 hp9 => ?_)
  obtain ⟨hc1, X1, rfl, rfl, hI1⟩ := hp9
  rw [puPQ]
  show gW g x (wP g B S X1 ++ wP g D S Y) 0 0 [(0, .ref (B 0)), (1, .ref (D 0)), (2, vi v)] 4 [vi (vR_rounds S)]
  refine g_aload_n C 1 dL_areAlike_4 rfl ?_
  refine g_callV C [] [vi (vR_rounds S)] (wM_b (p_rounds x.1.2.1 hst9 g D S Y  hK) B S X1) y_X9_rounds l_L_154 (isP ++ isQ) (hCPQ _ _ _ _ _ _ _) ndPQ 59 rfl rfl rfl (Nat.le_of_ble_eq_true rfl) rfl (by omega) dL_areAlike_5 (fun v9 w9 hp9 => ?_)
  obtain ⟨hc5, X5, rfl, rfl, hI5⟩ := hp9
  rw [puPQ]
  show gW g x (wP g B S X1 ++ wP g D S X5) 0 0 [(0, .ref (B 0)), (1, .ref (D 0)), (2, vi v)] 8 [vi (vR_rounds S), vi (vR_rounds S)]
  refine g_icmpSn C 37 dL_areAlike_8 (by decide) ?_
  refine g_aload_n C 0 dL_areAlike_11 rfl ?_
  refine g_callV C [] [] (wM_a (p_basis x.1.2.1 hst9 g B S X1  hI1) D S X5) y_X9_basis l_L_166 (isP ++ isQ) (hCPQ _ _ _ _ _ _ _) ndPQ 0 rfl rfl rfl (Nat.le_of_ble_eq_true rfl) rfl (by omega) dL_areAlike_12 (fun v9 w9 hp9 => ?_)
  obtain ⟨hc12, X12, rfl, rfl, hI12⟩ := hp9
  rw [puPQ]
  show gW g x (wP g B S X12 ++ wP g D S X5) 0 0 [(0, .ref (B 0)), (1, .ref (D 0)), (2, vi v)] 15 [vi (vR_basis S)]
  refine g_aload_n C 1 dL_areAlike_15 rfl ?_
  refine g_callV C [] [vi (vR_basis S)] (wM_b (p_basis x.1.2.1 hst9 g D S X5  hI5) B S X12) y_X9_basis l_L_166 (isP ++ isQ) (hCPQ _ _ _ _ _ _ _) ndPQ 59 rfl rfl rfl (Nat.le_of_ble_eq_true rfl) rfl (by omega) dL_areAlike_16 (fun v9 w9 hp9 => ?_)
  obtain ⟨hc16, X16, rfl, rfl, hI16⟩ := hp9
  rw [puPQ]
  show gW g x (wP g B S X12 ++ wP g D S X16) 0 0 [(0, .ref (B 0)), (1, .ref (D 0)), (2, vi v)] 19 [vi (vR_basis S), vi (vR_basis S)]
  refine g_icmpSn C 37 dL_areAlike_19 (by decide) ?_
  refine g_aload_n C 0 dL_areAlike_22 rfl ?_
  refine g_callV C [] [] (wM_a (p_hour x.1.2.1 hst9 g B S X12  hI12) D S X16) y_X9_hour l_L_161 (isP ++ isQ) (hCPQ _ _ _ _ _ _ _) ndPQ 0 rfl rfl rfl (Nat.le_of_ble_eq_true rfl) rfl (by omega) dL_areAlike_23 (fun v9 w9 hp9 => ?_)
  obtain ⟨hc23, X23, rfl, rfl, hI23⟩ := hp9
  rw [puPQ]
  show gW g x (wP g B S X23 ++ wP g D S X16) 0 0 [(0, .ref (B 0)), (1, .ref (D 0)), (2, vi v)] 26 [vi (vR_hour S)]
  refine g_aload_n C 1 dL_areAlike_26 rfl ?_
  refine g_callV C [] [vi (vR_hour S)] (wM_b (p_hour x.1.2.1 hst9 g D S X16  hI16) B S X23) y_X9_hour l_L_161 (isP ++ isQ) (hCPQ _ _ _ _ _ _ _) ndPQ 59 rfl rfl rfl (Nat.le_of_ble_eq_true rfl) rfl (by omega) dL_areAlike_27 (fun v9 w9 hp9 => ?_)
  obtain ⟨hc27, X27, rfl, rfl, hI27⟩ := hp9
  rw [puPQ]
  show gW g x (wP g B S X23 ++ wP g D S X27) 0 0 [(0, .ref (B 0)), (1, .ref (D 0)), (2, vi v)] 30 [vi (vR_hour S), vi (vR_hour S)]
  refine g_icmpSn C 37 dL_areAlike_30 (by decide) ?_
  refine g_iconst C dL_areAlike_33 ?_
  refine g_goto C 38 dL_areAlike_34 (by decide) ?_
  refine g_istore_n C [(3, vi 1), (0, .ref (B 0)), (1, .ref (D 0)), (2, vi v)] dL_areAlike_38 (by decide) rfl ?_
  refine g_iconst C dL_areAlike_39 ?_
  refine g_istore C [(4, vi 0), (3, vi 1), (0, .ref (B 0)), (1, .ref (D 0)), (2, vi v)] dL_areAlike_40 (by decide) rfl ?_
  have L42 : ∀ (f : Nat) (i : Int) (Xa : Nat → Int → Int) (Ya : Nat → Int → Int) (k9 : Nat) (n9 : Nat), (0 ≤ i ∧ i ≤ 6 ∧ iv9 S Xa ∧ iv9 S Ya ∧ (k9 : Int) ≤ 10 * i ∧ (n9 : Int) ≤ 60 * i) → (6 - i).toNat < f → gW g x (wP g B S Xa ++ wP g D S Ya) k9 n9 [(4, vi i), (3, vi 1), (0, .ref (B 0)), (1, .ref (D 0)), (2, vi v)] 42 [] := by
    intro f
    induction f with
    | zero => intro i Xa Ya k9 n9 hI42 hf; exact absurd hf (Nat.not_lt_zero _)
    | succ f ih42 =>
      intro i Xa Ya k9 n9 hI42 hf42
      obtain ⟨hi0, hi1, hXa, hYa, hk9, hn9⟩ := hI42
      refine g_iload C 0 dL_areAlike_42 rfl ?_
      refine g_bipush C dL_areAlike_44 (by decide) ?_
      refine g_icmp_ge C 177 dL_areAlike_46 (by decide) (by omega) (by omega) (fun c46 => ?_) (fun c46 => ?_)
      · refine g_iload_n C 1 dL_areAlike_177 rfl ?_
        refine g_widen (k' := 60) (n' := 360) (by omega) (by omega) ?_
        exact g_zret C hR dL_areAlike_178 (by omega) ⟨Xa, Ya, rfl, rfl, hXa, hYa⟩ rfl
      refine g_iload_n C 1 dL_areAlike_49 rfl ?_
      refine g_if_eq C 177 dL_areAlike_50 (by decide) (by omega) (fun c50 => (by exfalso; omega)) (fun c50 => ?_)
      refine g_aload_n C 2 dL_areAlike_53 rfl ?_
      refine g_iload C 0 dL_areAlike_54 rfl ?_
      refine g_callSZ C hZ [.ref (B 0), vi i] [] (wZ_a (q_sum x.1.2.1 hst9 g B S Xa i hXa (by omega)) D S Ya) y_L_sum l_L_150 (isP ++ isQ) (hCPQ _ _ _ _ _ _ _) ndPQ rfl (Nat.le_of_ble_eq_true rfl) rfl (by omega) dL_areAlike_56 (fun v9 w9 hp9 => ?_)
      obtain ⟨hc56, X56, rfl, rfl, hI56⟩ := hp9
      rw [puPQ]
      show gW g x (wP g B S X56 ++ wP g D S Ya) (k9 + 1) (n9 + 6) [(4, vi i), (3, vi 1), (0, .ref (B 0)), (1, .ref (D 0)), (2, vi v)] 59 [vi (aR_sum i S)]
      refine g_aload_n C 3 dL_areAlike_59 rfl ?_
      refine g_iload C 0 dL_areAlike_60 rfl ?_
      refine g_callSZ C hZ [.ref (D 0), vi i] [vi (aR_sum i S)] (wZ_b (q_sum x.1.2.1 hst9 g D S Ya i hYa (by omega)) B S X56) y_L_sum l_L_150 (isP ++ isQ) (hCPQ _ _ _ _ _ _ _) ndPQ rfl (Nat.le_of_ble_eq_true rfl) rfl (by omega) dL_areAlike_62 (fun v9 w9 hp9 => ?_)
      obtain ⟨hc62, X62, rfl, rfl, hI62⟩ := hp9
      rw [puPQ]
      show gW g x (wP g B S X56 ++ wP g D S X62) (k9 + 2) (n9 + 12) [(4, vi i), (3, vi 1), (0, .ref (B 0)), (1, .ref (D 0)), (2, vi v)] 65 [vi (aR_sum i S), vi (aR_sum i S)]
      refine g_icmpSn C 169 dL_areAlike_65 (by decide) ?_
      refine g_aload_n C 2 dL_areAlike_68 rfl ?_
      refine g_iload C 0 dL_areAlike_69 rfl ?_
      refine g_iload_n C 4 dL_areAlike_71 rfl ?_
      refine g_iconst C dL_areAlike_72 ?_
      refine g_callSp C [vi v, vi 3] [vi i, .ref (B 0)] (c_L_low x.1.2.1 g v 3 (by omega)) y_L_low l_L_103 [] rfl (by decide) rfl (Nat.le_of_ble_eq_true rfl) rfl (by omega) dL_areAlike_73 ?_
      refine g_callSZ C hZ [.ref (B 0), vi i, vi (lo9 v 3)] [] (wZ_a (q_reinsurer x.1.2.1 hst9 g B S X56 i (lo9 v 3) hI56 (by omega) (by omega)) D S X62) y_L_reinsurer l_L_152 (isP ++ isQ) (hCPQ _ _ _ _ _ _ _) ndPQ rfl (Nat.le_of_ble_eq_true rfl) rfl (by omega) dL_areAlike_76 (fun v9 w9 hp9 => ?_)
      obtain ⟨hc76, X76, rfl, rfl, hI76⟩ := hp9
      rw [puPQ]
      show gW g x (wP g B S X76 ++ wP g D S X62) (k9 + 3) (n9 + 18) [(4, vi i), (3, vi 1), (0, .ref (B 0)), (1, .ref (D 0)), (2, vi v)] 79 [vi (aR_reinsurer i (lo9 v 3) S)]
      refine g_aload_n C 3 dL_areAlike_79 rfl ?_
      refine g_iload C 0 dL_areAlike_80 rfl ?_
      refine g_iload_n C 4 dL_areAlike_82 rfl ?_
      refine g_iconst C dL_areAlike_83 ?_
      refine g_callSp C [vi v, vi 3] [vi i, .ref (D 0), vi (aR_reinsurer i (lo9 v 3) S)] (c_L_low x.1.2.1 g v 3 (by omega)) y_L_low l_L_103 [] rfl (by decide) rfl (Nat.le_of_ble_eq_true rfl) rfl (by omega) dL_areAlike_84 ?_
      refine g_callSZ C hZ [.ref (D 0), vi i, vi (lo9 v 3)] [vi (aR_reinsurer i (lo9 v 3) S)] (wZ_b (q_reinsurer x.1.2.1 hst9 g D S X62 i (lo9 v 3) hI62 (by omega) (by omega)) B S X76) y_L_reinsurer l_L_152 (isP ++ isQ) (hCPQ _ _ _ _ _ _ _) ndPQ rfl (Nat.le_of_ble_eq_true rfl) rfl (by omega) dL_areAlike_87 (fun v9 w9 hp9 => ?_)
      obtain ⟨hc87, X87, rfl, rfl, hI87⟩ := hp9
      rw [puPQ]
      show gW g x (wP g B S X76 ++ wP g D S X87) (k9 + 4) (n9 + 24) [(4, vi i), (3, vi 1), (0, .ref (B 0)), (1, .ref (D 0)), (2, vi v)] 90 [vi (aR_reinsurer i (lo9 v 3) S), vi (aR_reinsurer i (lo9 v 3) S)]
      refine g_icmpSn C 169 dL_areAlike_90 (by decide) ?_
      refine g_aload_n C 2 dL_areAlike_93 rfl ?_
      refine g_iload C 0 dL_areAlike_94 rfl ?_
      refine g_iload_n C 4 dL_areAlike_96 rfl ?_
      refine g_bipush C dL_areAlike_97 (by decide) ?_
      refine g_callSp C [vi v, vi 6] [vi i, .ref (B 0)] (c_L_low x.1.2.1 g v 6 (by omega)) y_L_low l_L_103 [] rfl (by decide) rfl (Nat.le_of_ble_eq_true rfl) rfl (by omega) dL_areAlike_99 ?_
      refine g_callSZ C hZ [.ref (B 0), vi i, vi (lo9 v 6)] [] (wZ_a (q_ofBond x.1.2.1 hst9 g B S X76 i (lo9 v 6) hI76 (by omega) (by omega)) D S X87) y_L_ofBond l_L_164 (isP ++ isQ) (hCPQ _ _ _ _ _ _ _) ndPQ rfl (Nat.le_of_ble_eq_true rfl) rfl (by omega) dL_areAlike_102 (fun v9 w9 hp9 => ?_)
      obtain ⟨hc102, X102, rfl, rfl, hI102⟩ := hp9
      rw [puPQ]
      show gW g x (wP g B S X102 ++ wP g D S X87) (k9 + 5) (n9 + 30) [(4, vi i), (3, vi 1), (0, .ref (B 0)), (1, .ref (D 0)), (2, vi v)] 105 [vi (aR_ofBond i (lo9 v 6) S)]
      refine g_aload_n C 3 dL_areAlike_105 rfl ?_
      refine g_iload C 0 dL_areAlike_106 rfl ?_
      refine g_iload_n C 4 dL_areAlike_108 rfl ?_
      refine g_bipush C dL_areAlike_109 (by decide) ?_
      refine g_callSp C [vi v, vi 6] [vi i, .ref (D 0), vi (aR_ofBond i (lo9 v 6) S)] (c_L_low x.1.2.1 g v 6 (by omega)) y_L_low l_L_103 [] rfl (by decide) rfl (Nat.le_of_ble_eq_true rfl) rfl (by omega) dL_areAlike_111 ?_
      refine g_callSZ C hZ [.ref (D 0), vi i, vi (lo9 v 6)] [vi (aR_ofBond i (lo9 v 6) S)] (wZ_b (q_ofBond x.1.2.1 hst9 g D S X87 i (lo9 v 6) hI87 (by omega) (by omega)) B S X102) y_L_ofBond l_L_164 (isP ++ isQ) (hCPQ _ _ _ _ _ _ _) ndPQ rfl (Nat.le_of_ble_eq_true rfl) rfl (by omega) dL_areAlike_114 (fun v9 w9 hp9 => ?_)
      obtain ⟨hc114, X114, rfl, rfl, hI114⟩ := hp9
      rw [puPQ]
      show gW g x (wP g B S X102 ++ wP g D S X114) (k9 + 6) (n9 + 36) [(4, vi i), (3, vi 1), (0, .ref (B 0)), (1, .ref (D 0)), (2, vi v)] 117 [vi (aR_ofBond i (lo9 v 6) S), vi (aR_ofBond i (lo9 v 6) S)]
      refine g_icmpSn C 169 dL_areAlike_117 (by decide) ?_
      refine g_aload_n C 2 dL_areAlike_120 rfl ?_
      refine g_iload C 0 dL_areAlike_121 rfl ?_
      refine g_iload_n C 4 dL_areAlike_123 rfl ?_
      refine g_bipush C dL_areAlike_124 (by decide) ?_
      refine g_callSp C [vi v, vi 6] [vi i, .ref (B 0)] (c_L_low x.1.2.1 g v 6 (by omega)) y_L_low l_L_103 [] rfl (by decide) rfl (Nat.le_of_ble_eq_true rfl) rfl (by omega) dL_areAlike_126 ?_
      refine g_callSZ C hZ [.ref (B 0), vi i, vi (lo9 v 6)] [] (wZ_a (q_occurrence x.1.2.1 hst9 g B S X102 i (lo9 v 6) hI102 (by omega) (by omega)) D S X114) y_L_occurrence l_L_146 (isP ++ isQ) (hCPQ _ _ _ _ _ _ _) ndPQ rfl (Nat.le_of_ble_eq_true rfl) rfl (by omega) dL_areAlike_129 (fun v9 w9 hp9 => ?_)
      obtain ⟨hc129, X129, rfl, rfl, hI129⟩ := hp9
      rw [puPQ]
      show gW g x (wP g B S X129 ++ wP g D S X114) (k9 + 7) (n9 + 42) [(4, vi i), (3, vi 1), (0, .ref (B 0)), (1, .ref (D 0)), (2, vi v)] 132 [vi (aR_occurrence i (lo9 v 6) S)]
      refine g_aload_n C 3 dL_areAlike_132 rfl ?_
      refine g_iload C 0 dL_areAlike_133 rfl ?_
      refine g_iload_n C 4 dL_areAlike_135 rfl ?_
      refine g_bipush C dL_areAlike_136 (by decide) ?_
      refine g_callSp C [vi v, vi 6] [vi i, .ref (D 0), vi (aR_occurrence i (lo9 v 6) S)] (c_L_low x.1.2.1 g v 6 (by omega)) y_L_low l_L_103 [] rfl (by decide) rfl (Nat.le_of_ble_eq_true rfl) rfl (by omega) dL_areAlike_138 ?_
      refine g_callSZ C hZ [.ref (D 0), vi i, vi (lo9 v 6)] [vi (aR_occurrence i (lo9 v 6) S)] (wZ_b (q_occurrence x.1.2.1 hst9 g D S X114 i (lo9 v 6) hI114 (by omega) (by omega)) B S X129) y_L_occurrence l_L_146 (isP ++ isQ) (hCPQ _ _ _ _ _ _ _) ndPQ rfl (Nat.le_of_ble_eq_true rfl) rfl (by omega) dL_areAlike_141 (fun v9 w9 hp9 => ?_)
      obtain ⟨hc141, X141, rfl, rfl, hI141⟩ := hp9
      rw [puPQ]
      show gW g x (wP g B S X129 ++ wP g D S X141) (k9 + 8) (n9 + 48) [(4, vi i), (3, vi 1), (0, .ref (B 0)), (1, .ref (D 0)), (2, vi v)] 144 [vi (aR_occurrence i (lo9 v 6) S), vi (aR_occurrence i (lo9 v 6) S)]
      refine g_icmpSn C 169 dL_areAlike_144 (by decide) ?_
      refine g_aload_n C 2 dL_areAlike_147 rfl ?_
      refine g_iload C 0 dL_areAlike_148 rfl ?_
      refine g_iconst C dL_areAlike_150 ?_
      refine g_callSZ C hZ [.ref (B 0), vi i, vi 1] [] (wZ_a (q_dearest x.1.2.1 hst9 g B S X129 i 1 hI129 (by omega) (by omega)) D S X141) y_L_dearest l_L_174 (isP ++ isQ) (hCPQ _ _ _ _ _ _ _) ndPQ rfl (Nat.le_of_ble_eq_true rfl) rfl (by omega) dL_areAlike_151 (fun v9 w9 hp9 => ?_)
      obtain ⟨hc151, X151, rfl, rfl, hI151⟩ := hp9
      rw [puPQ]
      show gW g x (wP g B S X151 ++ wP g D S X141) (k9 + 9) (n9 + 54) [(4, vi i), (3, vi 1), (0, .ref (B 0)), (1, .ref (D 0)), (2, vi v)] 154 [vl (aR_dearest i 1 S)]
      refine g_aload_n C 3 dL_areAlike_154 rfl ?_
      refine g_iload C 0 dL_areAlike_155 rfl ?_
      refine g_iconst C dL_areAlike_157 ?_
      refine g_callSZ C hZ [.ref (D 0), vi i, vi 1] [vl (aR_dearest i 1 S)] (wZ_b (q_dearest x.1.2.1 hst9 g D S X141 i 1 hI141 (by omega) (by omega)) B S X151) y_L_dearest l_L_174 (isP ++ isQ) (hCPQ _ _ _ _ _ _ _) ndPQ rfl (Nat.le_of_ble_eq_true rfl) rfl (by omega) dL_areAlike_158 (fun v9 w9 hp9 => ?_)
      obtain ⟨hc158, X158, rfl, rfl, hI158⟩ := hp9
      rw [puPQ]
      show gW g x (wP g B S X151 ++ wP g D S X158) (k9 + 10) (n9 + 60) [(4, vi i), (3, vi 1), (0, .ref (B 0)), (1, .ref (D 0)), (2, vi v)] 161 [vl (aR_dearest i 1 S), vl (aR_dearest i 1 S)]
      refine g_lcmpS C dL_areAlike_161 ?_
      refine g_if_ne C 169 dL_areAlike_162 (by decide) (by omega) (fun c162 => (by exfalso; omega)) (fun c162 => ?_)
      refine g_iconst C dL_areAlike_165 ?_
      refine g_goto C 170 dL_areAlike_166 (by decide) ?_
      refine g_istore_n C [(3, vi 1), (4, vi i), (0, .ref (B 0)), (1, .ref (D 0)), (2, vi v)] dL_areAlike_170 (by decide) rfl ?_
      refine g_iinc C 1 [(4, vi (i + 1)), (3, vi 1), (0, .ref (B 0)), (1, .ref (D 0)), (2, vi v)] dL_areAlike_171 rfl (by decide) rfl ?_
      refine g_goto C 42 dL_areAlike_174 (by decide) ?_
      exact ih42 (i + 1) X151 X158 (k9 + 10) (n9 + 60) ⟨by omega, by omega, hI151, hI158, by omega, by omega⟩ (by omega)
  exact L42 _ 0 X23 X27 0 0 ⟨by omega, by omega, hI23, hI27, by omega, by omega⟩ (Nat.lt_succ_self _)

