set_option maxHeartbeats 4000000 in
set_option maxRecDepth 100000 in
theorem q_act (l : Launch) (hst9 : l.stackTraces = false) (g : gD) (B : Nat → Nat) (S X : Nat → Int → Int) (v : Int) (hI : iv9 S X) (hv : -2147483648 ≤ v ∧ v < 2147483648) : gMetQ l g yL_act cL_act 10 (some .long) 14 1 6 341 [.ref (B 0), vi v] (wP g B S X) (pO g B (actN v S) (vl (actR v S)) True) := by
  refine gMetQ.of (by decide +kernel) (Nat.le_of_ble_eq_true rfl) ?_
  intro x hlx C hR hZ
  subst hlx
  have C : gC g x RL cL_act 10 14 1 6 341 := C
  have hf0 := lo9_r (sh9 v 26) (n := 14) (by decide)
  have hf1 := lo9_r (sh9 v 4) (n := 3) (by decide)
  have hf2 := lo9_r (sh9 v 4) (n := 6) (by decide)
  have hf3 := lo9_r (sh9 v 6) (n := 12) (by decide)
  have hf4 := lo9_r (sh9 v 9) (n := 40) (by decide)
  have hf5 := lo9_r (sh9 v 7) (n := 3) (by decide)
  have hf6 := lo9_r (sh9 v 7) (n := 8) (by decide)
  have hf7 := lo9_r (sh9 v 10) (n := 4) (by decide)
  have hf8 := lo9_r (sh9 v 10) (n := 9) (by decide)
  have hf9 := lo9_r (sh9 v 13) (n := 5) (by decide)
  have hf10 := lo9_r (sh9 v 13) (n := 9) (by decide)
  have hf11 := lo9_r (sh9 v 5) (n := 4000) (by decide)
  have hf12 := lo9_r (sh9 v 12) (n := 4) (by decide)
  have hf13 := lo9_r (sh9 v 12) (n := 14) (by decide)
  have hf14 := lo9_r v (n := 56) (by decide)
  have hf15 := sh9_r v 26
  have hf16 := sh9_r v 4
  have hf17 := sh9_r v 6
  have hf18 := sh9_r v 9
  have hf19 := sh9_r v 7
  have hf20 := sh9_r v 10
  have hf21 := sh9_r v 13
  have hf22 := sh9_r v 5
  have hf23 := sh9_r v 12
  show gW g x (wP g B S X) 0 0 [(0, .ref (B 0)), (1, vi v)] 0 []
  refine g_iload_n C 1 dL_act_0 rfl ?_
  refine g_bipush C dL_act_1 (by decide) ?_
  refine g_ishrY C dL_act_3 ?_
  refine g_bipush C dL_act_4 (by decide) ?_
  refine g_callSp C [vi (sh9 v 26), vi 14] [] (c_L_low x.1.2.1 g (sh9 v 26) 14 (by omega)) y_L_low l_L_103 [] rfl (by decide) rfl (Nat.le_of_ble_eq_true rfl) rfl (by omega) dL_act_6 ?_
  have J17 : ∀ (w17 : Int), (w17 = od9 v) → gW g x (wP g B S X) 0 0 [(0, .ref (B 0)), (1, vi v)] 17 [vi w17] := by
    intro w17 hJ17
    subst hJ17
    have hod := od9_r v
    refine g_istore_n C [(2, vi (od9 v)), (0, .ref (B 0)), (1, vi v)] dL_act_17 (by decide) rfl ?_
    refine g_iload_n C 0 dL_act_18 rfl ?_
    have J42 : ∀ (w42 : Int), (w42 = pe9 v) → gW g x (wP g B S X) 0 0 [(2, vi (od9 v)), (0, .ref (B 0)), (1, vi v)] 42 [vi w42] := by
      intro w42 hJ42
      subst hJ42
      refine g_istore_n C [(3, vi (pe9 v)), (2, vi (od9 v)), (0, .ref (B 0)), (1, vi v)] dL_act_42 (by decide) rfl ?_
      refine g_iload_n C 1 dL_act_43 rfl ?_
      have J76 : ∀ (w76 : Int), (w76 = ho9 v) → gW g x (wP g B S X) 0 0 [(3, vi (pe9 v)), (2, vi (od9 v)), (0, .ref (B 0)), (1, vi v)] 76 [vi w76] := by
        intro w76 hJ76
        subst hJ76
        refine g_istore C [(4, vi (ho9 v)), (3, vi (pe9 v)), (2, vi (od9 v)), (0, .ref (B 0)), (1, vi v)] dL_act_76 (by decide) rfl ?_
        refine g_iload_n C 2 dL_act_78 rfl ?_
        have J104 : ∀ (w104 : Int), (w104 = la9 v) → gW g x (wP g B S X) 0 0 [(4, vi (ho9 v)), (3, vi (pe9 v)), (2, vi (od9 v)), (0, .ref (B 0)), (1, vi v)] 104 [vi w104] := by
          intro w104 hJ104
          subst hJ104
          refine g_istore C [(5, vi (la9 v)), (4, vi (ho9 v)), (3, vi (pe9 v)), (2, vi (od9 v)), (0, .ref (B 0)), (1, vi v)] dL_act_104 (by decide) rfl ?_
          refine g_iload_n C 3 dL_act_106 rfl ?_
          have J132 : ∀ (w132 : Int), (w132 = on9 v) → gW g x (wP g B S X) 0 0 [(5, vi (la9 v)), (4, vi (ho9 v)), (3, vi (pe9 v)), (2, vi (od9 v)), (0, .ref (B 0)), (1, vi v)] 132 [vi w132] := by
            intro w132 hJ132
            subst hJ132
            refine g_istore C [(6, vi (on9 v)), (5, vi (la9 v)), (4, vi (ho9 v)), (3, vi (pe9 v)), (2, vi (od9 v)), (0, .ref (B 0)), (1, vi v)] dL_act_132 (by decide) rfl ?_
            refine g_iload_n C 4 dL_act_134 rfl ?_
            have J160 : ∀ (w160 : Int), (w160 = ot9 v) → gW g x (wP g B S X) 0 0 [(6, vi (on9 v)), (5, vi (la9 v)), (4, vi (ho9 v)), (3, vi (pe9 v)), (2, vi (od9 v)), (0, .ref (B 0)), (1, vi v)] 160 [vi w160] := by
              intro w160 hJ160
              subst hJ160
              refine g_istore C [(7, vi (ot9 v)), (6, vi (on9 v)), (5, vi (la9 v)), (4, vi (ho9 v)), (3, vi (pe9 v)), (2, vi (od9 v)), (0, .ref (B 0)), (1, vi v)] dL_act_160 (by decide) rfl ?_
              refine g_iload_n C 5 dL_act_162 rfl ?_
              have J181 : ∀ (w181 : Int), (w181 = mu9 v) → gW g x (wP g B S X) 0 0 [(7, vi (ot9 v)), (6, vi (on9 v)), (5, vi (la9 v)), (4, vi (ho9 v)), (3, vi (pe9 v)), (2, vi (od9 v)), (0, .ref (B 0)), (1, vi v)] 181 [vi w181] := by
                intro w181 hJ181
                subst hJ181
                refine g_istore C [(8, vi (mu9 v)), (7, vi (ot9 v)), (6, vi (on9 v)), (5, vi (la9 v)), (4, vi (ho9 v)), (3, vi (pe9 v)), (2, vi (od9 v)), (0, .ref (B 0)), (1, vi v)] dL_act_181 (by decide) rfl ?_
                refine g_iload_n C 6 dL_act_183 rfl ?_
                have J209 : ∀ (w209 : Int), (w209 = fe9 v) → gW g x (wP g B S X) 0 0 [(8, vi (mu9 v)), (7, vi (ot9 v)), (6, vi (on9 v)), (5, vi (la9 v)), (4, vi (ho9 v)), (3, vi (pe9 v)), (2, vi (od9 v)), (0, .ref (B 0)), (1, vi v)] 209 [vi w209] := by
                  intro w209 hJ209
                  subst hJ209
                  refine g_istore C [(9, vi (fe9 v)), (8, vi (mu9 v)), (7, vi (ot9 v)), (6, vi (on9 v)), (5, vi (la9 v)), (4, vi (ho9 v)), (3, vi (pe9 v)), (2, vi (od9 v)), (0, .ref (B 0)), (1, vi v)] dL_act_209 (by decide) rfl ?_
                  refine g_iload_n C 9 dL_act_211 rfl ?_
                  refine g_bipush C dL_act_212 (by decide) ?_
                  refine g_callSp C [vi v, vi 56] [] (c_L_low x.1.2.1 g v 56 (by omega)) y_L_low l_L_103 [] rfl (by decide) rfl (Nat.le_of_ble_eq_true rfl) rfl (by omega) dL_act_214 ?_
                  refine g_lv [(9, vi (fe9 v)), (8, vi (mu9 v)), (7, vi (ot9 v)), (6, vi (on9 v)), (5, vi (la9 v)), (4, vi (ho9 v)), (3, vi (pe9 v)), (2, vi (od9 v)), (0, .ref (B 0)), (1, vi v)] [0, 1, 2, 3, 4, 5, 6, 7, 8, 9] rfl ?_
                  by_cases e0 : lo9 v 56 = 0
                  · exact g_tin C 452 dL_act_217 0 e0 (by decide) rfl (by decide) (a_0 C hZ hst9 hR hI hv (by omega))
                  by_cases e1 : lo9 v 56 = 1
                  · exact g_tin C 452 dL_act_217 1 e1 (by decide) rfl (by decide) (a_0 C hZ hst9 hR hI hv (by omega))
                  by_cases e2 : lo9 v 56 = 2
                  · exact g_tin C 452 dL_act_217 2 e2 (by decide) rfl (by decide) (a_0 C hZ hst9 hR hI hv (by omega))
                  by_cases e3 : lo9 v 56 = 3
                  · exact g_tin C 452 dL_act_217 3 e3 (by decide) rfl (by decide) (a_0 C hZ hst9 hR hI hv (by omega))
                  by_cases e4 : lo9 v 56 = 4
                  · exact g_tin C 452 dL_act_217 4 e4 (by decide) rfl (by decide) (a_0 C hZ hst9 hR hI hv (by omega))
                  by_cases e5 : lo9 v 56 = 5
                  · exact g_tin C 452 dL_act_217 5 e5 (by decide) rfl (by decide) (a_0 C hZ hst9 hR hI hv (by omega))
                  by_cases e6 : lo9 v 56 = 6
                  · exact g_tin C 452 dL_act_217 6 e6 (by decide) rfl (by decide) (a_0 C hZ hst9 hR hI hv (by omega))
                  by_cases e7 : lo9 v 56 = 7
                  · exact g_tin C 463 dL_act_217 7 e7 (by decide) rfl (by decide) (a_1 C hZ hst9 hR hI hv (by omega))
                  by_cases e8 : lo9 v 56 = 8
                  · exact g_tin C 498 dL_act_217 8 e8 (by decide) rfl (by decide) (a_2 C hZ hst9 hR hI hv (by omega))
                  by_cases e9 : lo9 v 56 = 9
                  · exact g_tin C 498 dL_act_217 9 e9 (by decide) rfl (by decide) (a_2 C hZ hst9 hR hI hv (by omega))
                  by_cases e10 : lo9 v 56 = 10
                  · exact g_tin C 498 dL_act_217 10 e10 (by decide) rfl (by decide) (a_2 C hZ hst9 hR hI hv (by omega))
                  by_cases e11 : lo9 v 56 = 11
                  · exact g_tin C 498 dL_act_217 11 e11 (by decide) rfl (by decide) (a_2 C hZ hst9 hR hI hv (by omega))
                  by_cases e12 : lo9 v 56 = 12
                  · exact g_tin C 498 dL_act_217 12 e12 (by decide) rfl (by decide) (a_2 C hZ hst9 hR hI hv (by omega))
                  by_cases e13 : lo9 v 56 = 13
                  · exact g_tin C 527 dL_act_217 13 e13 (by decide) rfl (by decide) (a_3 C hZ hst9 hR hI hv (by omega))
                  by_cases e14 : lo9 v 56 = 14
                  · exact g_tin C 570 dL_act_217 14 e14 (by decide) rfl (by decide) (a_4 C hZ hst9 hR hI hv (by omega))
                  by_cases e15 : lo9 v 56 = 15
                  · exact g_tin C 570 dL_act_217 15 e15 (by decide) rfl (by decide) (a_4 C hZ hst9 hR hI hv (by omega))
                  by_cases e16 : lo9 v 56 = 16
                  · exact g_tin C 570 dL_act_217 16 e16 (by decide) rfl (by decide) (a_4 C hZ hst9 hR hI hv (by omega))
                  by_cases e17 : lo9 v 56 = 17
                  · exact g_tin C 674 dL_act_217 17 e17 (by decide) rfl (by decide) (a_5 C hZ hst9 hR hI hv (by omega))
                  by_cases e18 : lo9 v 56 = 18
                  · exact g_tin C 674 dL_act_217 18 e18 (by decide) rfl (by decide) (a_5 C hZ hst9 hR hI hv (by omega))
                  by_cases e19 : lo9 v 56 = 19
                  · exact g_tin C 674 dL_act_217 19 e19 (by decide) rfl (by decide) (a_5 C hZ hst9 hR hI hv (by omega))
                  by_cases e20 : lo9 v 56 = 20
                  · exact g_tin C 674 dL_act_217 20 e20 (by decide) rfl (by decide) (a_5 C hZ hst9 hR hI hv (by omega))
                  by_cases e21 : lo9 v 56 = 21
                  · exact g_tin C 701 dL_act_217 21 e21 (by decide) rfl (by decide) (a_6 C hZ hst9 hR hI hv (by omega))
                  by_cases e22 : lo9 v 56 = 22
                  · exact g_tin C 701 dL_act_217 22 e22 (by decide) rfl (by decide) (a_6 C hZ hst9 hR hI hv (by omega))
                  by_cases e23 : lo9 v 56 = 23
                  · exact g_tin C 701 dL_act_217 23 e23 (by decide) rfl (by decide) (a_6 C hZ hst9 hR hI hv (by omega))
                  by_cases e24 : lo9 v 56 = 24
                  · exact g_tin C 748 dL_act_217 24 e24 (by decide) rfl (by decide) (a_7 C hZ hst9 hR hI hv (by omega))
                  by_cases e25 : lo9 v 56 = 25
                  · exact g_tin C 748 dL_act_217 25 e25 (by decide) rfl (by decide) (a_7 C hZ hst9 hR hI hv (by omega))
                  by_cases e26 : lo9 v 56 = 26
                  · exact g_tin C 772 dL_act_217 26 e26 (by decide) rfl (by decide) (a_8 C hZ hst9 hR hI hv (by omega))
                  by_cases e27 : lo9 v 56 = 27
                  · exact g_tin C 772 dL_act_217 27 e27 (by decide) rfl (by decide) (a_8 C hZ hst9 hR hI hv (by omega))
                  by_cases e28 : lo9 v 56 = 28
                  · exact g_tin C 772 dL_act_217 28 e28 (by decide) rfl (by decide) (a_8 C hZ hst9 hR hI hv (by omega))
                  by_cases e29 : lo9 v 56 = 29
                  · exact g_tin C 772 dL_act_217 29 e29 (by decide) rfl (by decide) (a_8 C hZ hst9 hR hI hv (by omega))
                  by_cases e30 : lo9 v 56 = 30
                  · exact g_tin C 800 dL_act_217 30 e30 (by decide) rfl (by decide) (a_9 C hZ hst9 hR hI hv (by omega))
                  by_cases e31 : lo9 v 56 = 31
                  · exact g_tin C 810 dL_act_217 31 e31 (by decide) rfl (by decide) (a_10 C hZ hst9 hR hI hv (by omega))
                  by_cases e32 : lo9 v 56 = 32
                  · exact g_tin C 810 dL_act_217 32 e32 (by decide) rfl (by decide) (a_10 C hZ hst9 hR hI hv (by omega))
                  by_cases e33 : lo9 v 56 = 33
                  · exact g_tin C 903 dL_act_217 33 e33 (by decide) rfl (by decide) (a_11 C hZ hst9 hR hI hv (by omega))
                  by_cases e34 : lo9 v 56 = 34
                  · exact g_tin C 930 dL_act_217 34 e34 (by decide) rfl (by decide) (a_12 C hZ hst9 hR hI hv (by omega))
                  by_cases e35 : lo9 v 56 = 35
                  · exact g_tin C 955 dL_act_217 35 e35 (by decide) rfl (by decide) (a_13 C hZ hst9 hR hI hv (by omega))
                  by_cases e36 : lo9 v 56 = 36
                  · exact g_tin C 955 dL_act_217 36 e36 (by decide) rfl (by decide) (a_13 C hZ hst9 hR hI hv (by omega))
                  by_cases e37 : lo9 v 56 = 37
                  · exact g_tin C 955 dL_act_217 37 e37 (by decide) rfl (by decide) (a_13 C hZ hst9 hR hI hv (by omega))
                  by_cases e38 : lo9 v 56 = 38
                  · exact g_tin C 1014 dL_act_217 38 e38 (by decide) rfl (by decide) (a_14 C hZ hst9 hR hI hv (by omega))
                  by_cases e39 : lo9 v 56 = 39
                  · exact g_tin C 1014 dL_act_217 39 e39 (by decide) rfl (by decide) (a_14 C hZ hst9 hR hI hv (by omega))
                  by_cases e40 : lo9 v 56 = 40
                  · exact g_tin C 1039 dL_act_217 40 e40 (by decide) rfl (by decide) (a_15 C hZ hst9 hR hI hv (by omega))
                  by_cases e41 : lo9 v 56 = 41
                  · exact g_tin C 1039 dL_act_217 41 e41 (by decide) rfl (by decide) (a_15 C hZ hst9 hR hI hv (by omega))
                  by_cases e42 : lo9 v 56 = 42
                  · exact g_tin C 1065 dL_act_217 42 e42 (by decide) rfl (by decide) (a_16 C hZ hst9 hR hI hv (by omega))
                  by_cases e43 : lo9 v 56 = 43
                  · exact g_tin C 1065 dL_act_217 43 e43 (by decide) rfl (by decide) (a_16 C hZ hst9 hR hI hv (by omega))
                  by_cases e44 : lo9 v 56 = 44
                  · exact g_tin C 1065 dL_act_217 44 e44 (by decide) rfl (by decide) (a_16 C hZ hst9 hR hI hv (by omega))
                  by_cases e45 : lo9 v 56 = 45
                  · exact g_tin C 1088 dL_act_217 45 e45 (by decide) rfl (by decide) (a_17 C hZ hst9 hR hI hv (by omega))
                  by_cases e46 : lo9 v 56 = 46
                  · exact g_tin C 1088 dL_act_217 46 e46 (by decide) rfl (by decide) (a_17 C hZ hst9 hR hI hv (by omega))
                  by_cases e47 : lo9 v 56 = 47
                  · exact g_tin C 1128 dL_act_217 47 e47 (by decide) rfl (by decide) (a_18 C hZ hst9 hR hI hv (by omega))
                  by_cases e48 : lo9 v 56 = 48
                  · exact g_tin C 1134 dL_act_217 48 e48 (by decide) rfl (by decide) (a_19 C hZ hst9 hR hI hv (by omega))
                  by_cases e49 : lo9 v 56 = 49
                  · exact g_tin C 1141 dL_act_217 49 e49 (by decide) rfl (by decide) (a_20 C hZ hst9 hR hI hv (by omega))
                  by_cases e50 : lo9 v 56 = 50
                  · exact g_tin C 1167 dL_act_217 50 e50 (by decide) rfl (by decide) (a_21 C hZ hst9 hR hI hv (by omega))
                  by_cases e51 : lo9 v 56 = 51
                  · exact g_tin C 1167 dL_act_217 51 e51 (by decide) rfl (by decide) (a_21 C hZ hst9 hR hI hv (by omega))
                  by_cases e52 : lo9 v 56 = 52
                  · exact g_tin C 1192 dL_act_217 52 e52 (by decide) rfl (by decide) (a_22 C hZ hst9 hR hI hv (by omega))
                  by_cases e53 : lo9 v 56 = 53
                  · exact g_tin C 1198 dL_act_217 53 e53 (by decide) rfl (by decide) (a_23 C hZ hst9 hR hI hv (by omega))
                  by_cases e54 : lo9 v 56 = 54
                  · exact g_tin C 1221 dL_act_217 54 e54 (by decide) rfl (by decide) (a_24 C hZ hst9 hR hI hv (by omega))
                  exact g_tout C 1263 dL_act_217 (by omega) (by omega) (by decide) (a_25 C hZ hst9 hR hI hv (by omega))
                refine g_if_eq C 201 dL_act_184 (by decide) (by omega) (fun c184 => ?_) (fun c184 => ?_)
                · refine g_iload_n C 8 dL_act_201 rfl ?_
                  refine g_bipush C dL_act_202 (by decide) ?_
                  refine g_ishrY C dL_act_204 ?_
                  refine g_iconst C dL_act_205 ?_
                  refine g_callSp C [vi (sh9 v 12), vi 4] [] (c_L_low x.1.2.1 g (sh9 v 12) 4 (by omega)) y_L_low l_L_103 [] rfl (by decide) rfl (Nat.le_of_ble_eq_true rfl) rfl (by omega) dL_act_206 ?_
                  exact J209 (lo9 (sh9 v 12) 4) (by unfold fe9; omega)
                refine g_iload_n C 8 dL_act_187 rfl ?_
                refine g_bipush C dL_act_188 (by decide) ?_
                refine g_ishrY C dL_act_190 ?_
                refine g_bipush C dL_act_191 (by decide) ?_
                refine g_callSp C [vi (sh9 v 12), vi 14] [] (c_L_low x.1.2.1 g (sh9 v 12) 14 (by omega)) y_L_low l_L_103 [] rfl (by decide) rfl (Nat.le_of_ble_eq_true rfl) rfl (by omega) dL_act_193 ?_
                refine g_iconst C dL_act_196 ?_
                refine g_isub C dL_act_197 ?_
                refine g_goto C 209 dL_act_198 (by decide) ?_
                exact J209 ((lo9 (sh9 v 12) 14) - 2) (by unfold fe9; omega)
              refine g_if_eq C 172 dL_act_163 (by decide) (by omega) (fun c163 => ?_) (fun c163 => ?_)
              · refine g_iload_n C 7 dL_act_172 rfl ?_
                refine g_iconst C dL_act_173 ?_
                refine g_ishrY C dL_act_174 ?_
                refine g_sipush C dL_act_175 (by decide) ?_
                refine g_callSp C [vi (sh9 v 5), vi 4000] [] (c_L_low x.1.2.1 g (sh9 v 5) 4000 (by omega)) y_L_low l_L_103 [] rfl (by decide) rfl (Nat.le_of_ble_eq_true rfl) rfl (by omega) dL_act_178 ?_
                exact J181 (lo9 (sh9 v 5) 4000) (by unfold mu9; omega)
              refine g_iload_n C 7 dL_act_166 rfl ?_
              refine g_iconst C dL_act_167 ?_
              refine g_ishrY C dL_act_168 ?_
              refine g_goto C 181 dL_act_169 (by decide) ?_
              exact J181 (sh9 v 5) (by unfold mu9; omega)
            refine g_if_eq C 152 dL_act_135 (by decide) (by omega) (fun c135 => ?_) (fun c135 => ?_)
            · refine g_iload_n C 6 dL_act_152 rfl ?_
              refine g_bipush C dL_act_153 (by decide) ?_
              refine g_ishrY C dL_act_155 ?_
              refine g_iconst C dL_act_156 ?_
              refine g_callSp C [vi (sh9 v 13), vi 5] [] (c_L_low x.1.2.1 g (sh9 v 13) 5 (by omega)) y_L_low l_L_103 [] rfl (by decide) rfl (Nat.le_of_ble_eq_true rfl) rfl (by omega) dL_act_157 ?_
              exact J160 (lo9 (sh9 v 13) 5) (by unfold ot9; omega)
            refine g_iload_n C 6 dL_act_138 rfl ?_
            refine g_bipush C dL_act_139 (by decide) ?_
            refine g_ishrY C dL_act_141 ?_
            refine g_bipush C dL_act_142 (by decide) ?_
            refine g_callSp C [vi (sh9 v 13), vi 9] [] (c_L_low x.1.2.1 g (sh9 v 13) 9 (by omega)) y_L_low l_L_103 [] rfl (by decide) rfl (Nat.le_of_ble_eq_true rfl) rfl (by omega) dL_act_144 ?_
            refine g_iconst C dL_act_147 ?_
            refine g_isub C dL_act_148 ?_
            refine g_goto C 160 dL_act_149 (by decide) ?_
            exact J160 ((lo9 (sh9 v 13) 9) - 1) (by unfold ot9; omega)
          refine g_if_eq C 124 dL_act_107 (by decide) (by omega) (fun c107 => ?_) (fun c107 => ?_)
          · refine g_iload_n C 5 dL_act_124 rfl ?_
            refine g_bipush C dL_act_125 (by decide) ?_
            refine g_ishrY C dL_act_127 ?_
            refine g_iconst C dL_act_128 ?_
            refine g_callSp C [vi (sh9 v 10), vi 4] [] (c_L_low x.1.2.1 g (sh9 v 10) 4 (by omega)) y_L_low l_L_103 [] rfl (by decide) rfl (Nat.le_of_ble_eq_true rfl) rfl (by omega) dL_act_129 ?_
            exact J132 (lo9 (sh9 v 10) 4) (by unfold on9; omega)
          refine g_iload_n C 5 dL_act_110 rfl ?_
          refine g_bipush C dL_act_111 (by decide) ?_
          refine g_ishrY C dL_act_113 ?_
          refine g_bipush C dL_act_114 (by decide) ?_
          refine g_callSp C [vi (sh9 v 10), vi 9] [] (c_L_low x.1.2.1 g (sh9 v 10) 9 (by omega)) y_L_low l_L_103 [] rfl (by decide) rfl (Nat.le_of_ble_eq_true rfl) rfl (by omega) dL_act_116 ?_
          refine g_iconst C dL_act_119 ?_
          refine g_isub C dL_act_120 ?_
          refine g_goto C 132 dL_act_121 (by decide) ?_
          exact J132 ((lo9 (sh9 v 10) 9) - 1) (by unfold on9; omega)
        refine g_if_eq C 96 dL_act_79 (by decide) (by omega) (fun c79 => ?_) (fun c79 => ?_)
        · refine g_iload_n C 4 dL_act_96 rfl ?_
          refine g_bipush C dL_act_97 (by decide) ?_
          refine g_ishrY C dL_act_99 ?_
          refine g_iconst C dL_act_100 ?_
          refine g_callSp C [vi (sh9 v 7), vi 3] [] (c_L_low x.1.2.1 g (sh9 v 7) 3 (by omega)) y_L_low l_L_103 [] rfl (by decide) rfl (Nat.le_of_ble_eq_true rfl) rfl (by omega) dL_act_101 ?_
          exact J104 (lo9 (sh9 v 7) 3) (by unfold la9; omega)
        refine g_iload_n C 4 dL_act_82 rfl ?_
        refine g_bipush C dL_act_83 (by decide) ?_
        refine g_ishrY C dL_act_85 ?_
        refine g_bipush C dL_act_86 (by decide) ?_
        refine g_callSp C [vi (sh9 v 7), vi 8] [] (c_L_low x.1.2.1 g (sh9 v 7) 8 (by omega)) y_L_low l_L_103 [] rfl (by decide) rfl (Nat.le_of_ble_eq_true rfl) rfl (by omega) dL_act_88 ?_
        refine g_iconst C dL_act_91 ?_
        refine g_isub C dL_act_92 ?_
        refine g_goto C 104 dL_act_93 (by decide) ?_
        exact J104 ((lo9 (sh9 v 7) 8) - 1) (by unfold la9; omega)
      refine g_if_eq C 54 dL_act_44 (by decide) (by omega) (fun c44 => ?_) (fun c44 => ?_)
      · refine g_bipush C dL_act_54 (by decide) ?_
        refine g_iload_n C 3 dL_act_56 rfl ?_
        refine g_bipush C dL_act_57 (by decide) ?_
        refine g_ishrY C dL_act_59 ?_
        refine g_bipush C dL_act_60 (by decide) ?_
        refine g_callSp C [vi (sh9 v 6), vi 12] [vi 40] (c_L_low x.1.2.1 g (sh9 v 6) 12 (by omega)) y_L_low l_L_103 [] rfl (by decide) rfl (Nat.le_of_ble_eq_true rfl) rfl (by omega) dL_act_62 ?_
        refine g_imul C dL_act_65 ?_
        refine g_iload_n C 3 dL_act_66 rfl ?_
        refine g_bipush C dL_act_67 (by decide) ?_
        refine g_ishrY C dL_act_69 ?_
        refine g_bipush C dL_act_70 (by decide) ?_
        refine g_callSp C [vi (sh9 v 9), vi 40] [vi (40 * (lo9 (sh9 v 6) 12))] (c_L_low x.1.2.1 g (sh9 v 9) 40 (by omega)) y_L_low l_L_103 [] rfl (by decide) rfl (Nat.le_of_ble_eq_true rfl) rfl (by omega) dL_act_72 ?_
        refine g_iadd C dL_act_75 ?_
        exact J76 ((40 * (lo9 (sh9 v 6) 12)) + (lo9 (sh9 v 9) 40)) (by unfold ho9; omega)
      refine g_iload_n C 3 dL_act_47 rfl ?_
      refine g_bipush C dL_act_48 (by decide) ?_
      refine g_ishrY C dL_act_50 ?_
      refine g_goto C 76 dL_act_51 (by decide) ?_
      exact J76 (sh9 v 6) (by unfold ho9; omega)
    refine g_if_eq C 35 dL_act_19 (by decide) (by omega) (fun c19 => ?_) (fun c19 => ?_)
    · refine g_iload_n C 2 dL_act_35 rfl ?_
      refine g_iconst C dL_act_36 ?_
      refine g_ishrY C dL_act_37 ?_
      refine g_iconst C dL_act_38 ?_
      refine g_callSp C [vi (sh9 v 4), vi 3] [] (c_L_low x.1.2.1 g (sh9 v 4) 3 (by omega)) y_L_low l_L_103 [] rfl (by decide) rfl (Nat.le_of_ble_eq_true rfl) rfl (by omega) dL_act_39 ?_
      exact J42 (lo9 (sh9 v 4) 3) (by unfold pe9; omega)
    refine g_iload_n C 2 dL_act_22 rfl ?_
    refine g_iconst C dL_act_23 ?_
    refine g_ishrY C dL_act_24 ?_
    refine g_bipush C dL_act_25 (by decide) ?_
    refine g_callSp C [vi (sh9 v 4), vi 6] [] (c_L_low x.1.2.1 g (sh9 v 4) 6 (by omega)) y_L_low l_L_103 [] rfl (by decide) rfl (Nat.le_of_ble_eq_true rfl) rfl (by omega) dL_act_27 ?_
    refine g_iconst C dL_act_30 ?_
    refine g_isub C dL_act_31 ?_
    refine g_goto C 42 dL_act_32 (by decide) ?_
    exact J42 ((lo9 (sh9 v 4) 6) - 1) (by unfold pe9; omega)
  refine g_if_ne C 16 dL_act_9 (by decide) (by omega) (fun c9 => ?_) (fun c9 => ?_)
  · refine g_iconst C dL_act_16 ?_
    exact J17 0 (by unfold od9; omega)
  refine g_iconst C dL_act_12 ?_
  refine g_goto C 17 dL_act_13 (by decide) ?_
  exact J17 1 (by unfold od9; omega)

