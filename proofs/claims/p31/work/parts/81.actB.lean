set_option maxHeartbeats 4000000 in
set_option maxRecDepth 100000 in
theorem a_13 {g : gD} {x : gX} {B : Nat → Nat} {S X : Nat → Int → Int} {v : Int} (C : gC g x RL cL_act 10 14 1 6 341) (hZ : gZx x) (hst9 : x.1.2.1.stackTraces = false) (hR : gR g x (some .long) 1 6 (wP g B S X) (pO g B (actN v S) (vl (actR v S)) True)) (hI : iv9 S X) (hv : -2147483648 ≤ v ∧ v < 2147483648) (hs : (35 ≤ lo9 v 56 ∧ lo9 v 56 ≤ 37)) : gW g x (wP g B S X) 0 0 [(9, vi (fe9 v)), (8, vi (mu9 v)), (7, vi (ot9 v)), (6, vi (on9 v)), (5, vi (la9 v)), (4, vi (ho9 v)), (3, vi (pe9 v)), (2, vi (od9 v)), (0, .ref (B 0)), (1, vi v)] 955 [] := by
  have hpe9 := pe9_r v
  have hho9 := ho9_r v
  have hla9 := la9_r v
  have hon9 := on9_r v
  have hot9 := ot9_r v
  have hmu9 := mu9_r v
  have hfe9 := fe9_r v
  have hod := od9_r v
  have hmb := mu9_b (v := v)
  have hf0 := lo9_r (sh9 v 3) (n := 3) (by decide)
  have hf1 := lo9_r (sh9 v 9) (n := 99) (by decide)
  have hf2 := lo9_r (sh9 v 5) (n := 9000) (by decide)
  have hf3 := sh9_r v 3
  have hf4 := sh9_r v 9
  have hf5 := sh9_r v 5
  refine g_aload_n C 8 dL_act_955 rfl ?_
  refine g_iload_n C 7 dL_act_956 rfl ?_
  have J972 : ∀ (w972 : Int), (w972 = (if od9 v = 0 then lo9 (sh9 v 3) 3 else fe9 v)) → gW g x (wP g B S X) 0 0 [(9, vi (fe9 v)), (8, vi (mu9 v)), (7, vi (ot9 v)), (6, vi (on9 v)), (5, vi (la9 v)), (4, vi (ho9 v)), (3, vi (pe9 v)), (2, vi (od9 v)), (0, .ref (B 0)), (1, vi v)] 972 [vi w972, .ref (B 0)] := by
    intro w972 hJ972
    subst hJ972
    refine g_iload_n C 7 dL_act_972 rfl ?_
    have J992 : ∀ (w992 : Int), (w992 = (if od9 v = 0 then 1 + (lo9 (sh9 v 9) 99) else mu9 v)) → gW g x (wP g B S X) 0 0 [(9, vi (fe9 v)), (8, vi (mu9 v)), (7, vi (ot9 v)), (6, vi (on9 v)), (5, vi (la9 v)), (4, vi (ho9 v)), (3, vi (pe9 v)), (2, vi (od9 v)), (0, .ref (B 0)), (1, vi v)] 992 [vi w992, vi (if od9 v = 0 then lo9 (sh9 v 3) 3 else fe9 v), .ref (B 0)] := by
      intro w992 hJ992
      subst hJ992
      refine g_iload_n C 7 dL_act_992 rfl ?_
      have J1009 : ∀ (w1009 : Int), (w1009 = (if od9 v = 0 then lo9 (sh9 v 5) 9000 else v)) → gW g x (wP g B S X) 0 0 [(9, vi (fe9 v)), (8, vi (mu9 v)), (7, vi (ot9 v)), (6, vi (on9 v)), (5, vi (la9 v)), (4, vi (ho9 v)), (3, vi (pe9 v)), (2, vi (od9 v)), (0, .ref (B 0)), (1, vi v)] 1009 [vi w1009, vi (if od9 v = 0 then 1 + (lo9 (sh9 v 9) 99) else mu9 v), vi (if od9 v = 0 then lo9 (sh9 v 3) 3 else fe9 v), .ref (B 0)] := by
        intro w1009 hJ1009
        subst hJ1009
        refine g_callSZ C hZ [.ref (B 0), vi (if od9 v = 0 then lo9 (sh9 v 3) 3 else fe9 v), vi (if od9 v = 0 then 1 + (lo9 (sh9 v 9) 99) else mu9 v), vi (if od9 v = 0 then lo9 (sh9 v 5) 9000 else v)] [] (q_scenario x.1.2.1 hst9 g B S X (if od9 v = 0 then lo9 (sh9 v 3) 3 else fe9 v) (if od9 v = 0 then 1 + (lo9 (sh9 v 9) 99) else mu9 v) (if od9 v = 0 then lo9 (sh9 v 5) 9000 else v) hI (by omega) (by omega) (by omega)) y_L_scenario l_L_144 isP (hCP _ _ _ _) ndP rfl (Nat.le_of_ble_eq_true rfl) rfl (by decide) dL_act_1009 (fun v9 w9 hp9 => ?_)
        obtain ⟨hc1009, X1009, rfl, rfl, hI1009⟩ := hp9
        rw [puP]
        show gW g x (wP g B (aN_scenario (if od9 v = 0 then lo9 (sh9 v 3) 3 else fe9 v) (if od9 v = 0 then 1 + (lo9 (sh9 v 9) 99) else mu9 v) (if od9 v = 0 then lo9 (sh9 v 5) 9000 else v) S) X1009) 1 6 [(9, vi (fe9 v)), (8, vi (mu9 v)), (7, vi (ot9 v)), (6, vi (on9 v)), (5, vi (la9 v)), (4, vi (ho9 v)), (3, vi (pe9 v)), (2, vi (od9 v)), (0, .ref (B 0)), (1, vi v)] 1012 [vi (aR_scenario (if od9 v = 0 then lo9 (sh9 v 3) 3 else fe9 v) (if od9 v = 0 then 1 + (lo9 (sh9 v 9) 99) else mu9 v) (if od9 v = 0 then lo9 (sh9 v 5) 9000 else v) S)]
        refine g_i2lw C dL_act_1012 ?_
        exact g_lret C hR dL_act_1013 ⟨trivial, X1009, (congrArg (fun q => some (vl q)) (act_13 (v := v) (S := S) hs).1.symm), (by rw [(act_13 (v := v) (S := S) hs).2]), (by rw [(act_13 (v := v) (S := S) hs).2]; exact hI1009)⟩ rfl
      refine g_if_eq C 1000 dL_act_993 (by decide) (by omega) (fun c993 => ?_) (fun c993 => ?_)
      · refine g_iload_n C 9 dL_act_1000 rfl ?_
        refine g_iconst C dL_act_1001 ?_
        refine g_ishrY C dL_act_1002 ?_
        refine g_sipush C dL_act_1003 (by decide) ?_
        refine g_callSp C [vi (sh9 v 5), vi 9000] [vi (if od9 v = 0 then 1 + (lo9 (sh9 v 9) 99) else mu9 v), vi (if od9 v = 0 then lo9 (sh9 v 3) 3 else fe9 v), .ref (B 0)] (c_L_low x.1.2.1 g (sh9 v 5) 9000 (by omega)) y_L_low l_L_103 [] rfl (by decide) rfl (Nat.le_of_ble_eq_true rfl) rfl (by decide) dL_act_1006 ?_
        exact J1009 (lo9 (sh9 v 5) 9000) (by omega)
      refine g_iload_n C 9 dL_act_996 rfl ?_
      refine g_goto C 1009 dL_act_997 (by decide) ?_
      exact J1009 v (by omega)
    refine g_if_eq C 981 dL_act_973 (by decide) (by omega) (fun c973 => ?_) (fun c973 => ?_)
    · refine g_iconst C dL_act_981 ?_
      refine g_iload_n C 9 dL_act_982 rfl ?_
      refine g_bipush C dL_act_983 (by decide) ?_
      refine g_ishrY C dL_act_985 ?_
      refine g_bipush C dL_act_986 (by decide) ?_
      refine g_callSp C [vi (sh9 v 9), vi 99] [vi 1, vi (if od9 v = 0 then lo9 (sh9 v 3) 3 else fe9 v), .ref (B 0)] (c_L_low x.1.2.1 g (sh9 v 9) 99 (by omega)) y_L_low l_L_103 [] rfl (by decide) rfl (Nat.le_of_ble_eq_true rfl) rfl (by decide) dL_act_988 ?_
      refine g_iadd C dL_act_991 ?_
      exact J992 (1 + (lo9 (sh9 v 9) 99)) (by omega)
    refine g_iload C 1 dL_act_976 rfl ?_
    refine g_goto C 992 dL_act_978 (by decide) ?_
    exact J992 (mu9 v) (by omega)
  refine g_if_eq C 965 dL_act_957 (by decide) (by omega) (fun c957 => ?_) (fun c957 => ?_)
  · refine g_iload_n C 9 dL_act_965 rfl ?_
    refine g_iconst C dL_act_966 ?_
    refine g_ishrY C dL_act_967 ?_
    refine g_iconst C dL_act_968 ?_
    refine g_callSp C [vi (sh9 v 3), vi 3] [.ref (B 0)] (c_L_low x.1.2.1 g (sh9 v 3) 3 (by omega)) y_L_low l_L_103 [] rfl (by decide) rfl (Nat.le_of_ble_eq_true rfl) rfl (by decide) dL_act_969 ?_
    exact J972 (lo9 (sh9 v 3) 3) (by omega)
  refine g_iload C 0 dL_act_960 rfl ?_
  refine g_goto C 972 dL_act_962 (by decide) ?_
  exact J972 (fe9 v) (by omega)

set_option maxHeartbeats 4000000 in
set_option maxRecDepth 100000 in
theorem a_14 {g : gD} {x : gX} {B : Nat → Nat} {S X : Nat → Int → Int} {v : Int} (C : gC g x RL cL_act 10 14 1 6 341) (hZ : gZx x) (hst9 : x.1.2.1.stackTraces = false) (hR : gR g x (some .long) 1 6 (wP g B S X) (pO g B (actN v S) (vl (actR v S)) True)) (hI : iv9 S X) (hv : -2147483648 ≤ v ∧ v < 2147483648) (hs : (38 ≤ lo9 v 56 ∧ lo9 v 56 ≤ 39)) : gW g x (wP g B S X) 0 0 [(9, vi (fe9 v)), (8, vi (mu9 v)), (7, vi (ot9 v)), (6, vi (on9 v)), (5, vi (la9 v)), (4, vi (ho9 v)), (3, vi (pe9 v)), (2, vi (od9 v)), (0, .ref (B 0)), (1, vi v)] 1014 [] := by
  have hpe9 := pe9_r v
  have hho9 := ho9_r v
  have hla9 := la9_r v
  have hon9 := on9_r v
  have hot9 := ot9_r v
  have hmu9 := mu9_r v
  have hfe9 := fe9_r v
  have hod := od9_r v
  have hmb := mu9_b (v := v)
  have hf0 := lo9_r (sh9 v 3) (n := 6) (by decide)
  have hf1 := sh9_r v 3
  refine g_aload_n C 8 dL_act_1014 rfl ?_
  refine g_iload C 3 dL_act_1015 rfl ?_
  refine g_iload_n C 7 dL_act_1017 rfl ?_
  have J1034 : ∀ (w1034 : Int), (w1034 = (if od9 v = 0 then lo9 (sh9 v 3) 6 else fe9 v)) → gW g x (wP g B S X) 0 0 [(9, vi (fe9 v)), (8, vi (mu9 v)), (7, vi (ot9 v)), (6, vi (on9 v)), (5, vi (la9 v)), (4, vi (ho9 v)), (3, vi (pe9 v)), (2, vi (od9 v)), (0, .ref (B 0)), (1, vi v)] 1034 [vi w1034, vi (on9 v), .ref (B 0)] := by
    intro w1034 hJ1034
    subst hJ1034
    refine g_callSZ C hZ [.ref (B 0), vi (on9 v), vi (if od9 v = 0 then lo9 (sh9 v 3) 6 else fe9 v)] [] (q_occurrence x.1.2.1 hst9 g B S X (on9 v) (if od9 v = 0 then lo9 (sh9 v 3) 6 else fe9 v) hI (by omega) (by omega)) y_L_occurrence l_L_146 isP (hCP _ _ _ _) ndP rfl (Nat.le_of_ble_eq_true rfl) rfl (by decide) dL_act_1034 (fun v9 w9 hp9 => ?_)
    obtain ⟨hc1034, X1034, rfl, rfl, hI1034⟩ := hp9
    rw [puP]
    show gW g x (wP g B S X1034) 1 6 [(9, vi (fe9 v)), (8, vi (mu9 v)), (7, vi (ot9 v)), (6, vi (on9 v)), (5, vi (la9 v)), (4, vi (ho9 v)), (3, vi (pe9 v)), (2, vi (od9 v)), (0, .ref (B 0)), (1, vi v)] 1037 [vi (aR_occurrence (on9 v) (if od9 v = 0 then lo9 (sh9 v 3) 6 else fe9 v) S)]
    refine g_i2lw C dL_act_1037 ?_
    exact g_lret C hR dL_act_1038 ⟨trivial, X1034, (congrArg (fun q => some (vl q)) (act_14 (v := v) (S := S) hs).1.symm), (by rw [(act_14 (v := v) (S := S) hs).2]), (by rw [(act_14 (v := v) (S := S) hs).2]; exact hI1034)⟩ rfl
  refine g_if_eq C 1026 dL_act_1018 (by decide) (by omega) (fun c1018 => ?_) (fun c1018 => ?_)
  · refine g_iload_n C 9 dL_act_1026 rfl ?_
    refine g_iconst C dL_act_1027 ?_
    refine g_ishrY C dL_act_1028 ?_
    refine g_bipush C dL_act_1029 (by decide) ?_
    refine g_callSp C [vi (sh9 v 3), vi 6] [vi (on9 v), .ref (B 0)] (c_L_low x.1.2.1 g (sh9 v 3) 6 (by omega)) y_L_low l_L_103 [] rfl (by decide) rfl (Nat.le_of_ble_eq_true rfl) rfl (by decide) dL_act_1031 ?_
    exact J1034 (lo9 (sh9 v 3) 6) (by omega)
  refine g_iload C 0 dL_act_1021 rfl ?_
  refine g_goto C 1034 dL_act_1023 (by decide) ?_
  exact J1034 (fe9 v) (by omega)

set_option maxHeartbeats 4000000 in
set_option maxRecDepth 100000 in
theorem a_15 {g : gD} {x : gX} {B : Nat → Nat} {S X : Nat → Int → Int} {v : Int} (C : gC g x RL cL_act 10 14 1 6 341) (hZ : gZx x) (hst9 : x.1.2.1.stackTraces = false) (hR : gR g x (some .long) 1 6 (wP g B S X) (pO g B (actN v S) (vl (actR v S)) True)) (hI : iv9 S X) (hv : -2147483648 ≤ v ∧ v < 2147483648) (hs : (40 ≤ lo9 v 56 ∧ lo9 v 56 ≤ 41)) : gW g x (wP g B S X) 0 0 [(9, vi (fe9 v)), (8, vi (mu9 v)), (7, vi (ot9 v)), (6, vi (on9 v)), (5, vi (la9 v)), (4, vi (ho9 v)), (3, vi (pe9 v)), (2, vi (od9 v)), (0, .ref (B 0)), (1, vi v)] 1039 [] := by
  have hpe9 := pe9_r v
  have hho9 := ho9_r v
  have hla9 := la9_r v
  have hon9 := on9_r v
  have hot9 := ot9_r v
  have hmu9 := mu9_r v
  have hfe9 := fe9_r v
  have hod := od9_r v
  have hmb := mu9_b (v := v)
  have hf0 := lo9_r (sh9 v 3) (n := 5) (by decide)
  have hf1 := sh9_r v 3
  refine g_aload_n C 8 dL_act_1039 rfl ?_
  refine g_iload C 4 dL_act_1040 rfl ?_
  refine g_iload C 3 dL_act_1042 rfl ?_
  refine g_iload_n C 7 dL_act_1044 rfl ?_
  have J1060 : ∀ (w1060 : Int), (w1060 = (if od9 v = 0 then lo9 (sh9 v 3) 5 else fe9 v)) → gW g x (wP g B S X) 0 0 [(9, vi (fe9 v)), (8, vi (mu9 v)), (7, vi (ot9 v)), (6, vi (on9 v)), (5, vi (la9 v)), (4, vi (ho9 v)), (3, vi (pe9 v)), (2, vi (od9 v)), (0, .ref (B 0)), (1, vi v)] 1060 [vi w1060, vi (on9 v), vi (la9 v), .ref (B 0)] := by
    intro w1060 hJ1060
    subst hJ1060
    refine g_callSZ C hZ [.ref (B 0), vi (la9 v), vi (on9 v), vi (if od9 v = 0 then lo9 (sh9 v 3) 5 else fe9 v)] [] (q_hit x.1.2.1 hst9 g B S X (la9 v) (on9 v) (if od9 v = 0 then lo9 (sh9 v 3) 5 else fe9 v) hI (by omega) (by omega) (by omega)) y_L_hit l_L_148 isP (hCP _ _ _ _) ndP rfl (Nat.le_of_ble_eq_true rfl) rfl (by decide) dL_act_1060 (fun v9 w9 hp9 => ?_)
    obtain ⟨hc1060, X1060, rfl, rfl, hI1060⟩ := hp9
    rw [puP]
    show gW g x (wP g B S X1060) 1 6 [(9, vi (fe9 v)), (8, vi (mu9 v)), (7, vi (ot9 v)), (6, vi (on9 v)), (5, vi (la9 v)), (4, vi (ho9 v)), (3, vi (pe9 v)), (2, vi (od9 v)), (0, .ref (B 0)), (1, vi v)] 1063 [vi (aR_hit (la9 v) (on9 v) (if od9 v = 0 then lo9 (sh9 v 3) 5 else fe9 v) S)]
    refine g_i2lw C dL_act_1063 ?_
    exact g_lret C hR dL_act_1064 ⟨trivial, X1060, (congrArg (fun q => some (vl q)) (act_15 (v := v) (S := S) hs).1.symm), (by rw [(act_15 (v := v) (S := S) hs).2]), (by rw [(act_15 (v := v) (S := S) hs).2]; exact hI1060)⟩ rfl
  refine g_if_eq C 1053 dL_act_1045 (by decide) (by omega) (fun c1045 => ?_) (fun c1045 => ?_)
  · refine g_iload_n C 9 dL_act_1053 rfl ?_
    refine g_iconst C dL_act_1054 ?_
    refine g_ishrY C dL_act_1055 ?_
    refine g_iconst C dL_act_1056 ?_
    refine g_callSp C [vi (sh9 v 3), vi 5] [vi (on9 v), vi (la9 v), .ref (B 0)] (c_L_low x.1.2.1 g (sh9 v 3) 5 (by omega)) y_L_low l_L_103 [] rfl (by decide) rfl (Nat.le_of_ble_eq_true rfl) rfl (by decide) dL_act_1057 ?_
    exact J1060 (lo9 (sh9 v 3) 5) (by omega)
  refine g_iload C 0 dL_act_1048 rfl ?_
  refine g_goto C 1060 dL_act_1050 (by decide) ?_
  exact J1060 (fe9 v) (by omega)

set_option maxHeartbeats 4000000 in
set_option maxRecDepth 100000 in
theorem a_16 {g : gD} {x : gX} {B : Nat → Nat} {S X : Nat → Int → Int} {v : Int} (C : gC g x RL cL_act 10 14 1 6 341) (hZ : gZx x) (hst9 : x.1.2.1.stackTraces = false) (hR : gR g x (some .long) 1 6 (wP g B S X) (pO g B (actN v S) (vl (actR v S)) True)) (hI : iv9 S X) (hv : -2147483648 ≤ v ∧ v < 2147483648) (hs : (42 ≤ lo9 v 56 ∧ lo9 v 56 ≤ 44)) : gW g x (wP g B S X) 0 0 [(9, vi (fe9 v)), (8, vi (mu9 v)), (7, vi (ot9 v)), (6, vi (on9 v)), (5, vi (la9 v)), (4, vi (ho9 v)), (3, vi (pe9 v)), (2, vi (od9 v)), (0, .ref (B 0)), (1, vi v)] 1065 [] := by
  have hpe9 := pe9_r v
  have hho9 := ho9_r v
  have hla9 := la9_r v
  have hon9 := on9_r v
  have hot9 := ot9_r v
  have hmu9 := mu9_r v
  have hfe9 := fe9_r v
  have hod := od9_r v
  have hmb := mu9_b (v := v)
  have hf0 := lo9_r (sh9 v 3) (n := 8) (by decide)
  have hf1 := sh9_r v 3
  refine g_aload_n C 8 dL_act_1065 rfl ?_
  refine g_iload_n C 7 dL_act_1066 rfl ?_
  have J1083 : ∀ (w1083 : Int), (w1083 = (if od9 v = 0 then lo9 (sh9 v 3) 8 else fe9 v)) → gW g x (wP g B S X) 0 0 [(9, vi (fe9 v)), (8, vi (mu9 v)), (7, vi (ot9 v)), (6, vi (on9 v)), (5, vi (la9 v)), (4, vi (ho9 v)), (3, vi (pe9 v)), (2, vi (od9 v)), (0, .ref (B 0)), (1, vi v)] 1083 [vi w1083, .ref (B 0)] := by
    intro w1083 hJ1083
    subst hJ1083
    refine g_callSZ C hZ [.ref (B 0), vi (if od9 v = 0 then lo9 (sh9 v 3) 8 else fe9 v)] [] (q_sum x.1.2.1 hst9 g B S X (if od9 v = 0 then lo9 (sh9 v 3) 8 else fe9 v) hI (by omega)) y_L_sum l_L_150 isP (hCP _ _ _ _) ndP rfl (Nat.le_of_ble_eq_true rfl) rfl (by decide) dL_act_1083 (fun v9 w9 hp9 => ?_)
    obtain ⟨hc1083, X1083, rfl, rfl, hI1083⟩ := hp9
    rw [puP]
    show gW g x (wP g B S X1083) 1 6 [(9, vi (fe9 v)), (8, vi (mu9 v)), (7, vi (ot9 v)), (6, vi (on9 v)), (5, vi (la9 v)), (4, vi (ho9 v)), (3, vi (pe9 v)), (2, vi (od9 v)), (0, .ref (B 0)), (1, vi v)] 1086 [vi (aR_sum (if od9 v = 0 then lo9 (sh9 v 3) 8 else fe9 v) S)]
    refine g_i2lw C dL_act_1086 ?_
    exact g_lret C hR dL_act_1087 ⟨trivial, X1083, (congrArg (fun q => some (vl q)) (act_16 (v := v) (S := S) hs).1.symm), (by rw [(act_16 (v := v) (S := S) hs).2]), (by rw [(act_16 (v := v) (S := S) hs).2]; exact hI1083)⟩ rfl
  refine g_if_eq C 1075 dL_act_1067 (by decide) (by omega) (fun c1067 => ?_) (fun c1067 => ?_)
  · refine g_iload_n C 9 dL_act_1075 rfl ?_
    refine g_iconst C dL_act_1076 ?_
    refine g_ishrY C dL_act_1077 ?_
    refine g_bipush C dL_act_1078 (by decide) ?_
    refine g_callSp C [vi (sh9 v 3), vi 8] [.ref (B 0)] (c_L_low x.1.2.1 g (sh9 v 3) 8 (by omega)) y_L_low l_L_103 [] rfl (by decide) rfl (Nat.le_of_ble_eq_true rfl) rfl (by decide) dL_act_1080 ?_
    exact J1083 (lo9 (sh9 v 3) 8) (by omega)
  refine g_iload C 0 dL_act_1070 rfl ?_
  refine g_goto C 1083 dL_act_1072 (by decide) ?_
  exact J1083 (fe9 v) (by omega)

set_option maxHeartbeats 4000000 in
set_option maxRecDepth 100000 in
theorem a_17 {g : gD} {x : gX} {B : Nat → Nat} {S X : Nat → Int → Int} {v : Int} (C : gC g x RL cL_act 10 14 1 6 341) (hZ : gZx x) (hst9 : x.1.2.1.stackTraces = false) (hR : gR g x (some .long) 1 6 (wP g B S X) (pO g B (actN v S) (vl (actR v S)) True)) (hI : iv9 S X) (hv : -2147483648 ≤ v ∧ v < 2147483648) (hs : (45 ≤ lo9 v 56 ∧ lo9 v 56 ≤ 46)) : gW g x (wP g B S X) 0 0 [(9, vi (fe9 v)), (8, vi (mu9 v)), (7, vi (ot9 v)), (6, vi (on9 v)), (5, vi (la9 v)), (4, vi (ho9 v)), (3, vi (pe9 v)), (2, vi (od9 v)), (0, .ref (B 0)), (1, vi v)] 1088 [] := by
  have hpe9 := pe9_r v
  have hho9 := ho9_r v
  have hla9 := la9_r v
  have hon9 := on9_r v
  have hot9 := ot9_r v
  have hmu9 := mu9_r v
  have hfe9 := fe9_r v
  have hod := od9_r v
  have hmb := mu9_b (v := v)
  have hf0 := lo9_r (sh9 v 3) (n := 6) (by decide)
  have hf1 := lo9_r (sh9 v 12) (n := 3) (by decide)
  have hf2 := sh9_r v 3
  have hf3 := sh9_r v 12
  refine g_aload_n C 8 dL_act_1088 rfl ?_
  refine g_iload_n C 7 dL_act_1089 rfl ?_
  have J1106 : ∀ (w1106 : Int), (w1106 = (if od9 v = 0 then lo9 (sh9 v 3) 6 else ot9 v)) → gW g x (wP g B S X) 0 0 [(9, vi (fe9 v)), (8, vi (mu9 v)), (7, vi (ot9 v)), (6, vi (on9 v)), (5, vi (la9 v)), (4, vi (ho9 v)), (3, vi (pe9 v)), (2, vi (od9 v)), (0, .ref (B 0)), (1, vi v)] 1106 [vi w1106, .ref (B 0)] := by
    intro w1106 hJ1106
    subst hJ1106
    refine g_iload_n C 7 dL_act_1106 rfl ?_
    have J1123 : ∀ (w1123 : Int), (w1123 = (if od9 v = 0 then lo9 (sh9 v 12) 3 else fe9 v)) → gW g x (wP g B S X) 0 0 [(9, vi (fe9 v)), (8, vi (mu9 v)), (7, vi (ot9 v)), (6, vi (on9 v)), (5, vi (la9 v)), (4, vi (ho9 v)), (3, vi (pe9 v)), (2, vi (od9 v)), (0, .ref (B 0)), (1, vi v)] 1123 [vi w1123, vi (if od9 v = 0 then lo9 (sh9 v 3) 6 else ot9 v), .ref (B 0)] := by
      intro w1123 hJ1123
      subst hJ1123
      refine g_callSZ C hZ [.ref (B 0), vi (if od9 v = 0 then lo9 (sh9 v 3) 6 else ot9 v), vi (if od9 v = 0 then lo9 (sh9 v 12) 3 else fe9 v)] [] (q_reinsurer x.1.2.1 hst9 g B S X (if od9 v = 0 then lo9 (sh9 v 3) 6 else ot9 v) (if od9 v = 0 then lo9 (sh9 v 12) 3 else fe9 v) hI (by omega) (by omega)) y_L_reinsurer l_L_152 isP (hCP _ _ _ _) ndP rfl (Nat.le_of_ble_eq_true rfl) rfl (by decide) dL_act_1123 (fun v9 w9 hp9 => ?_)
      obtain ⟨hc1123, X1123, rfl, rfl, hI1123⟩ := hp9
      rw [puP]
      show gW g x (wP g B S X1123) 1 6 [(9, vi (fe9 v)), (8, vi (mu9 v)), (7, vi (ot9 v)), (6, vi (on9 v)), (5, vi (la9 v)), (4, vi (ho9 v)), (3, vi (pe9 v)), (2, vi (od9 v)), (0, .ref (B 0)), (1, vi v)] 1126 [vi (aR_reinsurer (if od9 v = 0 then lo9 (sh9 v 3) 6 else ot9 v) (if od9 v = 0 then lo9 (sh9 v 12) 3 else fe9 v) S)]
      refine g_i2lw C dL_act_1126 ?_
      exact g_lret C hR dL_act_1127 ⟨trivial, X1123, (congrArg (fun q => some (vl q)) (act_17 (v := v) (S := S) hs).1.symm), (by rw [(act_17 (v := v) (S := S) hs).2]), (by rw [(act_17 (v := v) (S := S) hs).2]; exact hI1123)⟩ rfl
    refine g_if_eq C 1115 dL_act_1107 (by decide) (by omega) (fun c1107 => ?_) (fun c1107 => ?_)
    · refine g_iload_n C 9 dL_act_1115 rfl ?_
      refine g_bipush C dL_act_1116 (by decide) ?_
      refine g_ishrY C dL_act_1118 ?_
      refine g_iconst C dL_act_1119 ?_
      refine g_callSp C [vi (sh9 v 12), vi 3] [vi (if od9 v = 0 then lo9 (sh9 v 3) 6 else ot9 v), .ref (B 0)] (c_L_low x.1.2.1 g (sh9 v 12) 3 (by omega)) y_L_low l_L_103 [] rfl (by decide) rfl (Nat.le_of_ble_eq_true rfl) rfl (by decide) dL_act_1120 ?_
      exact J1123 (lo9 (sh9 v 12) 3) (by omega)
    refine g_iload C 0 dL_act_1110 rfl ?_
    refine g_goto C 1123 dL_act_1112 (by decide) ?_
    exact J1123 (fe9 v) (by omega)
  refine g_if_eq C 1098 dL_act_1090 (by decide) (by omega) (fun c1090 => ?_) (fun c1090 => ?_)
  · refine g_iload_n C 9 dL_act_1098 rfl ?_
    refine g_iconst C dL_act_1099 ?_
    refine g_ishrY C dL_act_1100 ?_
    refine g_bipush C dL_act_1101 (by decide) ?_
    refine g_callSp C [vi (sh9 v 3), vi 6] [.ref (B 0)] (c_L_low x.1.2.1 g (sh9 v 3) 6 (by omega)) y_L_low l_L_103 [] rfl (by decide) rfl (Nat.le_of_ble_eq_true rfl) rfl (by decide) dL_act_1103 ?_
    exact J1106 (lo9 (sh9 v 3) 6) (by omega)
  refine g_iload C 2 dL_act_1093 rfl ?_
  refine g_goto C 1106 dL_act_1095 (by decide) ?_
  exact J1106 (ot9 v) (by omega)

set_option maxHeartbeats 4000000 in
set_option maxRecDepth 100000 in
theorem a_18 {g : gD} {x : gX} {B : Nat → Nat} {S X : Nat → Int → Int} {v : Int} (C : gC g x RL cL_act 10 14 1 6 341) (hZ : gZx x) (hst9 : x.1.2.1.stackTraces = false) (hR : gR g x (some .long) 1 6 (wP g B S X) (pO g B (actN v S) (vl (actR v S)) True)) (hI : iv9 S X) (hv : -2147483648 ≤ v ∧ v < 2147483648) (hs : (47 ≤ lo9 v 56 ∧ lo9 v 56 ≤ 47)) : gW g x (wP g B S X) 0 0 [(9, vi (fe9 v)), (8, vi (mu9 v)), (7, vi (ot9 v)), (6, vi (on9 v)), (5, vi (la9 v)), (4, vi (ho9 v)), (3, vi (pe9 v)), (2, vi (od9 v)), (0, .ref (B 0)), (1, vi v)] 1128 [] := by
  have hpe9 := pe9_r v
  have hho9 := ho9_r v
  have hla9 := la9_r v
  have hon9 := on9_r v
  have hot9 := ot9_r v
  have hmu9 := mu9_r v
  have hfe9 := fe9_r v
  have hod := od9_r v
  have hmb := mu9_b (v := v)
  refine g_aload_n C 8 dL_act_1128 rfl ?_
  refine g_callV C [] [] (p_rounds x.1.2.1 hst9 g B S X  hI) y_X9_rounds l_L_154 isP (hCP _ _ _ _) ndP 0 rfl rfl rfl (Nat.le_of_ble_eq_true rfl) rfl (by decide) dL_act_1129 (fun v9 w9 hp9 => ?_)
  obtain ⟨hc1129, X1129, rfl, rfl, hI1129⟩ := hp9
  rw [puP]
  show gW g x (wP g B S X1129) 0 0 [(9, vi (fe9 v)), (8, vi (mu9 v)), (7, vi (ot9 v)), (6, vi (on9 v)), (5, vi (la9 v)), (4, vi (ho9 v)), (3, vi (pe9 v)), (2, vi (od9 v)), (0, .ref (B 0)), (1, vi v)] 1132 [vi (vR_rounds S)]
  refine g_i2lw C dL_act_1132 ?_
  refine g_widen (k' := 1) (n' := 6) (by decide) (by decide) ?_
  exact g_lret C hR dL_act_1133 ⟨trivial, X1129, (congrArg (fun q => some (vl q)) (act_18 (v := v) (S := S) hs).1.symm), (by rw [(act_18 (v := v) (S := S) hs).2]), (by rw [(act_18 (v := v) (S := S) hs).2]; exact hI1129)⟩ rfl

set_option maxHeartbeats 4000000 in
set_option maxRecDepth 100000 in
theorem a_19 {g : gD} {x : gX} {B : Nat → Nat} {S X : Nat → Int → Int} {v : Int} (C : gC g x RL cL_act 10 14 1 6 341) (hZ : gZx x) (hst9 : x.1.2.1.stackTraces = false) (hR : gR g x (some .long) 1 6 (wP g B S X) (pO g B (actN v S) (vl (actR v S)) True)) (hI : iv9 S X) (hv : -2147483648 ≤ v ∧ v < 2147483648) (hs : (48 ≤ lo9 v 56 ∧ lo9 v 56 ≤ 48)) : gW g x (wP g B S X) 0 0 [(9, vi (fe9 v)), (8, vi (mu9 v)), (7, vi (ot9 v)), (6, vi (on9 v)), (5, vi (la9 v)), (4, vi (ho9 v)), (3, vi (pe9 v)), (2, vi (od9 v)), (0, .ref (B 0)), (1, vi v)] 1134 [] := by
  have hpe9 := pe9_r v
  have hho9 := ho9_r v
  have hla9 := la9_r v
  have hon9 := on9_r v
  have hot9 := ot9_r v
  have hmu9 := mu9_r v
  have hfe9 := fe9_r v
  have hod := od9_r v
  have hmb := mu9_b (v := v)
  refine g_aload_n C 8 dL_act_1134 rfl ?_
  refine g_iload_n C 6 dL_act_1135 rfl ?_
  refine g_callSZ C hZ [.ref (B 0), vi (pe9 v)] [] (q_best x.1.2.1 hst9 g B S X (pe9 v) hI (by omega)) y_L_best l_L_157 isP (hCP _ _ _ _) ndP rfl (Nat.le_of_ble_eq_true rfl) rfl (by decide) dL_act_1136 (fun v9 w9 hp9 => ?_)
  obtain ⟨hc1136, X1136, rfl, rfl, hI1136⟩ := hp9
  rw [puP]
  show gW g x (wP g B S X1136) 1 6 [(9, vi (fe9 v)), (8, vi (mu9 v)), (7, vi (ot9 v)), (6, vi (on9 v)), (5, vi (la9 v)), (4, vi (ho9 v)), (3, vi (pe9 v)), (2, vi (od9 v)), (0, .ref (B 0)), (1, vi v)] 1139 [vi (aR_best (pe9 v) S)]
  refine g_i2lw C dL_act_1139 ?_
  exact g_lret C hR dL_act_1140 ⟨trivial, X1136, (congrArg (fun q => some (vl q)) (act_19 (v := v) (S := S) hs).1.symm), (by rw [(act_19 (v := v) (S := S) hs).2]), (by rw [(act_19 (v := v) (S := S) hs).2]; exact hI1136)⟩ rfl

set_option maxHeartbeats 4000000 in
set_option maxRecDepth 100000 in
theorem a_20 {g : gD} {x : gX} {B : Nat → Nat} {S X : Nat → Int → Int} {v : Int} (C : gC g x RL cL_act 10 14 1 6 341) (hZ : gZx x) (hst9 : x.1.2.1.stackTraces = false) (hR : gR g x (some .long) 1 6 (wP g B S X) (pO g B (actN v S) (vl (actR v S)) True)) (hI : iv9 S X) (hv : -2147483648 ≤ v ∧ v < 2147483648) (hs : (49 ≤ lo9 v 56 ∧ lo9 v 56 ≤ 49)) : gW g x (wP g B S X) 0 0 [(9, vi (fe9 v)), (8, vi (mu9 v)), (7, vi (ot9 v)), (6, vi (on9 v)), (5, vi (la9 v)), (4, vi (ho9 v)), (3, vi (pe9 v)), (2, vi (od9 v)), (0, .ref (B 0)), (1, vi v)] 1141 [] := by
  have hpe9 := pe9_r v
  have hho9 := ho9_r v
  have hla9 := la9_r v
  have hon9 := on9_r v
  have hot9 := ot9_r v
  have hmu9 := mu9_r v
  have hfe9 := fe9_r v
  have hod := od9_r v
  have hmb := mu9_b (v := v)
  have hf0 := lo9_r (sh9 v 9) (n := 2) (by decide)
  have hf1 := lo9_r (sh9 v 9) (n := 4) (by decide)
  have hf2 := sh9_r v 9
  refine g_iload_n C 9 dL_act_1141 rfl ?_
  refine g_bipush C dL_act_1142 (by decide) ?_
  refine g_ishrY C dL_act_1144 ?_
  refine g_iconst C dL_act_1145 ?_
  refine g_callSp C [vi (sh9 v 9), vi 4] [] (c_L_low x.1.2.1 g (sh9 v 9) 4 (by omega)) y_L_low l_L_103 [] rfl (by decide) rfl (Nat.le_of_ble_eq_true rfl) rfl (by decide) dL_act_1146 ?_
  refine g_if_ne C 1161 dL_act_1149 (by decide) (by omega) (fun c1149 => ?_) (fun c1149 => ?_)
  · refine g_aload_n C 8 dL_act_1161 rfl ?_
    refine g_callV C [] [] (p_hour x.1.2.1 hst9 g B S X  hI) y_X9_hour l_L_161 isP (hCP _ _ _ _) ndP 0 rfl rfl rfl (Nat.le_of_ble_eq_true rfl) rfl (by decide) dL_act_1162 (fun v9 w9 hp9 => ?_)
    obtain ⟨hc1162, X1162, rfl, rfl, hI1162⟩ := hp9
    rw [puP]
    show gW g x (wP g B S X1162) 0 0 [(9, vi (fe9 v)), (8, vi (mu9 v)), (7, vi (ot9 v)), (6, vi (on9 v)), (5, vi (la9 v)), (4, vi (ho9 v)), (3, vi (pe9 v)), (2, vi (od9 v)), (0, .ref (B 0)), (1, vi v)] 1165 [vi (vR_hour S)]
    refine g_i2lw C dL_act_1165 ?_
    refine g_widen (k' := 1) (n' := 6) (by decide) (by decide) ?_
    exact g_lret C hR dL_act_1166 ⟨trivial, X1162, (congrArg (fun q => some (vl q)) (act_20a (v := v) (S := S) hs c1149).1.symm), (by rw [(act_20a (v := v) (S := S) hs c1149).2]), (by rw [(act_20a (v := v) (S := S) hs c1149).2]; exact hI1162)⟩ rfl
  refine g_aload_n C 8 dL_act_1152 rfl ?_
  refine g_iload_n C 6 dL_act_1153 rfl ?_
  refine g_callSZ C hZ [.ref (B 0), vi (pe9 v)] [] (q_bestAnew x.1.2.1 hst9 g B S X (pe9 v) hI (by omega)) y_L_bestAnew l_L_159 isP (hCP _ _ _ _) ndP rfl (Nat.le_of_ble_eq_true rfl) rfl (by decide) dL_act_1154 (fun v9 w9 hp9 => ?_)
  obtain ⟨hc1154, X1154, rfl, rfl, hI1154⟩ := hp9
  rw [puP]
  show gW g x (wP g B S X1154) 1 6 [(9, vi (fe9 v)), (8, vi (mu9 v)), (7, vi (ot9 v)), (6, vi (on9 v)), (5, vi (la9 v)), (4, vi (ho9 v)), (3, vi (pe9 v)), (2, vi (od9 v)), (0, .ref (B 0)), (1, vi v)] 1157 [vi (aR_bestAnew (pe9 v) S)]
  refine g_i2lw C dL_act_1157 ?_
  refine g_goto C 1166 dL_act_1158 (by decide) ?_
  exact g_lret C hR dL_act_1166 ⟨trivial, X1154, (congrArg (fun q => some (vl q)) (act_20b (v := v) (S := S) hs c1149).1.symm), (by rw [(act_20b (v := v) (S := S) hs c1149).2]), (by rw [(act_20b (v := v) (S := S) hs c1149).2]; exact hI1154)⟩ rfl

set_option maxHeartbeats 4000000 in
set_option maxRecDepth 100000 in
theorem a_21 {g : gD} {x : gX} {B : Nat → Nat} {S X : Nat → Int → Int} {v : Int} (C : gC g x RL cL_act 10 14 1 6 341) (hZ : gZx x) (hst9 : x.1.2.1.stackTraces = false) (hR : gR g x (some .long) 1 6 (wP g B S X) (pO g B (actN v S) (vl (actR v S)) True)) (hI : iv9 S X) (hv : -2147483648 ≤ v ∧ v < 2147483648) (hs : (50 ≤ lo9 v 56 ∧ lo9 v 56 ≤ 51)) : gW g x (wP g B S X) 0 0 [(9, vi (fe9 v)), (8, vi (mu9 v)), (7, vi (ot9 v)), (6, vi (on9 v)), (5, vi (la9 v)), (4, vi (ho9 v)), (3, vi (pe9 v)), (2, vi (od9 v)), (0, .ref (B 0)), (1, vi v)] 1167 [] := by
  have hpe9 := pe9_r v
  have hho9 := ho9_r v
  have hla9 := la9_r v
  have hon9 := on9_r v
  have hot9 := ot9_r v
  have hmu9 := mu9_r v
  have hfe9 := fe9_r v
  have hod := od9_r v
  have hmb := mu9_b (v := v)
  have hf0 := lo9_r (sh9 v 3) (n := 6) (by decide)
  have hf1 := sh9_r v 3
  refine g_aload_n C 8 dL_act_1167 rfl ?_
  refine g_iload C 0 dL_act_1168 rfl ?_
  refine g_iload_n C 7 dL_act_1170 rfl ?_
  have J1187 : ∀ (w1187 : Int), (w1187 = (if od9 v = 0 then lo9 (sh9 v 3) 6 else mu9 v)) → gW g x (wP g B S X) 0 0 [(9, vi (fe9 v)), (8, vi (mu9 v)), (7, vi (ot9 v)), (6, vi (on9 v)), (5, vi (la9 v)), (4, vi (ho9 v)), (3, vi (pe9 v)), (2, vi (od9 v)), (0, .ref (B 0)), (1, vi v)] 1187 [vi w1187, vi (fe9 v), .ref (B 0)] := by
    intro w1187 hJ1187
    subst hJ1187
    refine g_callSZ C hZ [.ref (B 0), vi (fe9 v), vi (if od9 v = 0 then lo9 (sh9 v 3) 6 else mu9 v)] [] (q_ofBond x.1.2.1 hst9 g B S X (fe9 v) (if od9 v = 0 then lo9 (sh9 v 3) 6 else mu9 v) hI (by omega) (by omega)) y_L_ofBond l_L_164 isP (hCP _ _ _ _) ndP rfl (Nat.le_of_ble_eq_true rfl) rfl (by decide) dL_act_1187 (fun v9 w9 hp9 => ?_)
    obtain ⟨hc1187, X1187, rfl, rfl, hI1187⟩ := hp9
    rw [puP]
    show gW g x (wP g B S X1187) 1 6 [(9, vi (fe9 v)), (8, vi (mu9 v)), (7, vi (ot9 v)), (6, vi (on9 v)), (5, vi (la9 v)), (4, vi (ho9 v)), (3, vi (pe9 v)), (2, vi (od9 v)), (0, .ref (B 0)), (1, vi v)] 1190 [vi (aR_ofBond (fe9 v) (if od9 v = 0 then lo9 (sh9 v 3) 6 else mu9 v) S)]
    refine g_i2lw C dL_act_1190 ?_
    exact g_lret C hR dL_act_1191 ⟨trivial, X1187, (congrArg (fun q => some (vl q)) (act_21 (v := v) (S := S) hs).1.symm), (by rw [(act_21 (v := v) (S := S) hs).2]), (by rw [(act_21 (v := v) (S := S) hs).2]; exact hI1187)⟩ rfl
  refine g_if_eq C 1179 dL_act_1171 (by decide) (by omega) (fun c1171 => ?_) (fun c1171 => ?_)
  · refine g_iload_n C 9 dL_act_1179 rfl ?_
    refine g_iconst C dL_act_1180 ?_
    refine g_ishrY C dL_act_1181 ?_
    refine g_bipush C dL_act_1182 (by decide) ?_
    refine g_callSp C [vi (sh9 v 3), vi 6] [vi (fe9 v), .ref (B 0)] (c_L_low x.1.2.1 g (sh9 v 3) 6 (by omega)) y_L_low l_L_103 [] rfl (by decide) rfl (Nat.le_of_ble_eq_true rfl) rfl (by decide) dL_act_1184 ?_
    exact J1187 (lo9 (sh9 v 3) 6) (by omega)
  refine g_iload C 1 dL_act_1174 rfl ?_
  refine g_goto C 1187 dL_act_1176 (by decide) ?_
  exact J1187 (mu9 v) (by omega)

set_option maxHeartbeats 4000000 in
set_option maxRecDepth 100000 in
theorem a_22 {g : gD} {x : gX} {B : Nat → Nat} {S X : Nat → Int → Int} {v : Int} (C : gC g x RL cL_act 10 14 1 6 341) (hZ : gZx x) (hst9 : x.1.2.1.stackTraces = false) (hR : gR g x (some .long) 1 6 (wP g B S X) (pO g B (actN v S) (vl (actR v S)) True)) (hI : iv9 S X) (hv : -2147483648 ≤ v ∧ v < 2147483648) (hs : (52 ≤ lo9 v 56 ∧ lo9 v 56 ≤ 52)) : gW g x (wP g B S X) 0 0 [(9, vi (fe9 v)), (8, vi (mu9 v)), (7, vi (ot9 v)), (6, vi (on9 v)), (5, vi (la9 v)), (4, vi (ho9 v)), (3, vi (pe9 v)), (2, vi (od9 v)), (0, .ref (B 0)), (1, vi v)] 1192 [] := by
  have hpe9 := pe9_r v
  have hho9 := ho9_r v
  have hla9 := la9_r v
  have hon9 := on9_r v
  have hot9 := ot9_r v
  have hmu9 := mu9_r v
  have hfe9 := fe9_r v
  have hod := od9_r v
  have hmb := mu9_b (v := v)
  refine g_aload_n C 8 dL_act_1192 rfl ?_
  refine g_callV C [] [] (p_basis x.1.2.1 hst9 g B S X  hI) y_X9_basis l_L_166 isP (hCP _ _ _ _) ndP 0 rfl rfl rfl (Nat.le_of_ble_eq_true rfl) rfl (by decide) dL_act_1193 (fun v9 w9 hp9 => ?_)
  obtain ⟨hc1193, X1193, rfl, rfl, hI1193⟩ := hp9
  rw [puP]
  show gW g x (wP g B S X1193) 0 0 [(9, vi (fe9 v)), (8, vi (mu9 v)), (7, vi (ot9 v)), (6, vi (on9 v)), (5, vi (la9 v)), (4, vi (ho9 v)), (3, vi (pe9 v)), (2, vi (od9 v)), (0, .ref (B 0)), (1, vi v)] 1196 [vi (vR_basis S)]
  refine g_i2lw C dL_act_1196 ?_
  refine g_widen (k' := 1) (n' := 6) (by decide) (by decide) ?_
  exact g_lret C hR dL_act_1197 ⟨trivial, X1193, (congrArg (fun q => some (vl q)) (act_22 (v := v) (S := S) hs).1.symm), (by rw [(act_22 (v := v) (S := S) hs).2]), (by rw [(act_22 (v := v) (S := S) hs).2]; exact hI1193)⟩ rfl

set_option maxHeartbeats 4000000 in
set_option maxRecDepth 100000 in
theorem a_23 {g : gD} {x : gX} {B : Nat → Nat} {S X : Nat → Int → Int} {v : Int} (C : gC g x RL cL_act 10 14 1 6 341) (hZ : gZx x) (hst9 : x.1.2.1.stackTraces = false) (hR : gR g x (some .long) 1 6 (wP g B S X) (pO g B (actN v S) (vl (actR v S)) True)) (hI : iv9 S X) (hv : -2147483648 ≤ v ∧ v < 2147483648) (hs : (53 ≤ lo9 v 56 ∧ lo9 v 56 ≤ 53)) : gW g x (wP g B S X) 0 0 [(9, vi (fe9 v)), (8, vi (mu9 v)), (7, vi (ot9 v)), (6, vi (on9 v)), (5, vi (la9 v)), (4, vi (ho9 v)), (3, vi (pe9 v)), (2, vi (od9 v)), (0, .ref (B 0)), (1, vi v)] 1198 [] := by
  have hpe9 := pe9_r v
  have hho9 := ho9_r v
  have hla9 := la9_r v
  have hon9 := on9_r v
  have hot9 := ot9_r v
  have hmu9 := mu9_r v
  have hfe9 := fe9_r v
  have hod := od9_r v
  have hmb := mu9_b (v := v)
  have hf0 := lo9_r (sh9 v 3) (n := 3) (by decide)
  have hf1 := sh9_r v 3
  refine g_aload_n C 8 dL_act_1198 rfl ?_
  refine g_iload C 4 dL_act_1199 rfl ?_
  refine g_iload_n C 7 dL_act_1201 rfl ?_
  have J1217 : ∀ (w1217 : Int), (w1217 = (if od9 v = 0 then lo9 (sh9 v 3) 3 else fe9 v)) → gW g x (wP g B S X) 0 0 [(9, vi (fe9 v)), (8, vi (mu9 v)), (7, vi (ot9 v)), (6, vi (on9 v)), (5, vi (la9 v)), (4, vi (ho9 v)), (3, vi (pe9 v)), (2, vi (od9 v)), (0, .ref (B 0)), (1, vi v)] 1217 [vi w1217, vi (la9 v), .ref (B 0)] := by
    intro w1217 hJ1217
    subst hJ1217
    refine g_callSZ C hZ [.ref (B 0), vi (la9 v), vi (if od9 v = 0 then lo9 (sh9 v 3) 3 else fe9 v)] [] (q_price x.1.2.1 hst9 g B S X (la9 v) (if od9 v = 0 then lo9 (sh9 v 3) 3 else fe9 v) hI (by omega) (by omega)) y_L_price l_L_169 isP (hCP _ _ _ _) ndP rfl (Nat.le_of_ble_eq_true rfl) rfl (by decide) dL_act_1217 (fun v9 w9 hp9 => ?_)
    obtain ⟨hc1217, X1217, rfl, rfl, hI1217⟩ := hp9
    rw [puP]
    show gW g x (wP g B S X1217) 1 6 [(9, vi (fe9 v)), (8, vi (mu9 v)), (7, vi (ot9 v)), (6, vi (on9 v)), (5, vi (la9 v)), (4, vi (ho9 v)), (3, vi (pe9 v)), (2, vi (od9 v)), (0, .ref (B 0)), (1, vi v)] 1220 [vl (aR_price (la9 v) (if od9 v = 0 then lo9 (sh9 v 3) 3 else fe9 v) S)]
    exact g_lret C hR dL_act_1220 ⟨trivial, X1217, (congrArg (fun q => some (vl q)) (act_23 (v := v) (S := S) hs).1.symm), (by rw [(act_23 (v := v) (S := S) hs).2]), (by rw [(act_23 (v := v) (S := S) hs).2]; exact hI1217)⟩ rfl
  refine g_if_eq C 1210 dL_act_1202 (by decide) (by omega) (fun c1202 => ?_) (fun c1202 => ?_)
  · refine g_iload_n C 9 dL_act_1210 rfl ?_
    refine g_iconst C dL_act_1211 ?_
    refine g_ishrY C dL_act_1212 ?_
    refine g_iconst C dL_act_1213 ?_
    refine g_callSp C [vi (sh9 v 3), vi 3] [vi (la9 v), .ref (B 0)] (c_L_low x.1.2.1 g (sh9 v 3) 3 (by omega)) y_L_low l_L_103 [] rfl (by decide) rfl (Nat.le_of_ble_eq_true rfl) rfl (by decide) dL_act_1214 ?_
    exact J1217 (lo9 (sh9 v 3) 3) (by omega)
  refine g_iload C 0 dL_act_1205 rfl ?_
  refine g_goto C 1217 dL_act_1207 (by decide) ?_
  exact J1217 (fe9 v) (by omega)

set_option maxHeartbeats 4000000 in
set_option maxRecDepth 100000 in
theorem a_24 {g : gD} {x : gX} {B : Nat → Nat} {S X : Nat → Int → Int} {v : Int} (C : gC g x RL cL_act 10 14 1 6 341) (hZ : gZx x) (hst9 : x.1.2.1.stackTraces = false) (hR : gR g x (some .long) 1 6 (wP g B S X) (pO g B (actN v S) (vl (actR v S)) True)) (hI : iv9 S X) (hv : -2147483648 ≤ v ∧ v < 2147483648) (hs : (54 ≤ lo9 v 56 ∧ lo9 v 56 ≤ 54)) : gW g x (wP g B S X) 0 0 [(9, vi (fe9 v)), (8, vi (mu9 v)), (7, vi (ot9 v)), (6, vi (on9 v)), (5, vi (la9 v)), (4, vi (ho9 v)), (3, vi (pe9 v)), (2, vi (od9 v)), (0, .ref (B 0)), (1, vi v)] 1221 [] := by
  have hpe9 := pe9_r v
  have hho9 := ho9_r v
  have hla9 := la9_r v
  have hon9 := on9_r v
  have hot9 := ot9_r v
  have hmu9 := mu9_r v
  have hfe9 := fe9_r v
  have hod := od9_r v
  have hmb := mu9_b (v := v)
  have hf0 := lo9_r (sh9 v 3) (n := 3) (by decide)
  have hf1 := lo9_r (sh9 v 9) (n := 100) (by decide)
  have hf2 := sh9_r v 3
  have hf3 := sh9_r v 9
  refine g_aload_n C 8 dL_act_1221 rfl ?_
  refine g_iload C 4 dL_act_1222 rfl ?_
  refine g_iload_n C 7 dL_act_1224 rfl ?_
  have J1240 : ∀ (w1240 : Int), (w1240 = (if od9 v = 0 then lo9 (sh9 v 3) 3 else fe9 v)) → gW g x (wP g B S X) 0 0 [(9, vi (fe9 v)), (8, vi (mu9 v)), (7, vi (ot9 v)), (6, vi (on9 v)), (5, vi (la9 v)), (4, vi (ho9 v)), (3, vi (pe9 v)), (2, vi (od9 v)), (0, .ref (B 0)), (1, vi v)] 1240 [vi w1240, vi (la9 v), .ref (B 0)] := by
    intro w1240 hJ1240
    subst hJ1240
    refine g_iload_n C 7 dL_act_1240 rfl ?_
    have J1258 : ∀ (w1258 : Int), (w1258 = (if od9 v = 0 then lo9 (sh9 v 9) 100 else mu9 v)) → gW g x (wP g B S X) 0 0 [(9, vi (fe9 v)), (8, vi (mu9 v)), (7, vi (ot9 v)), (6, vi (on9 v)), (5, vi (la9 v)), (4, vi (ho9 v)), (3, vi (pe9 v)), (2, vi (od9 v)), (0, .ref (B 0)), (1, vi v)] 1258 [vi w1258, vi (if od9 v = 0 then lo9 (sh9 v 3) 3 else fe9 v), vi (la9 v), .ref (B 0)] := by
      intro w1258 hJ1258
      subst hJ1258
      refine g_callSZ C hZ [.ref (B 0), vi (la9 v), vi (if od9 v = 0 then lo9 (sh9 v 3) 3 else fe9 v), vi (if od9 v = 0 then lo9 (sh9 v 9) 100 else mu9 v)] [] (q_tail x.1.2.1 hst9 g B S X (la9 v) (if od9 v = 0 then lo9 (sh9 v 3) 3 else fe9 v) (if od9 v = 0 then lo9 (sh9 v 9) 100 else mu9 v) hI (by omega) (by omega) (by omega)) y_L_tail l_L_172 isP (hCP _ _ _ _) ndP rfl (Nat.le_of_ble_eq_true rfl) rfl (by decide) dL_act_1258 (fun v9 w9 hp9 => ?_)
      obtain ⟨hc1258, X1258, rfl, rfl, hI1258⟩ := hp9
      rw [puP]
      show gW g x (wP g B S X1258) 1 6 [(9, vi (fe9 v)), (8, vi (mu9 v)), (7, vi (ot9 v)), (6, vi (on9 v)), (5, vi (la9 v)), (4, vi (ho9 v)), (3, vi (pe9 v)), (2, vi (od9 v)), (0, .ref (B 0)), (1, vi v)] 1261 [vi (aR_tail (la9 v) (if od9 v = 0 then lo9 (sh9 v 3) 3 else fe9 v) (if od9 v = 0 then lo9 (sh9 v 9) 100 else mu9 v) S)]
      refine g_i2lw C dL_act_1261 ?_
      exact g_lret C hR dL_act_1262 ⟨trivial, X1258, (congrArg (fun q => some (vl q)) (act_24 (v := v) (S := S) hs).1.symm), (by rw [(act_24 (v := v) (S := S) hs).2]), (by rw [(act_24 (v := v) (S := S) hs).2]; exact hI1258)⟩ rfl
    refine g_if_eq C 1249 dL_act_1241 (by decide) (by omega) (fun c1241 => ?_) (fun c1241 => ?_)
    · refine g_iload_n C 9 dL_act_1249 rfl ?_
      refine g_bipush C dL_act_1250 (by decide) ?_
      refine g_ishrY C dL_act_1252 ?_
      refine g_bipush C dL_act_1253 (by decide) ?_
      refine g_callSp C [vi (sh9 v 9), vi 100] [vi (if od9 v = 0 then lo9 (sh9 v 3) 3 else fe9 v), vi (la9 v), .ref (B 0)] (c_L_low x.1.2.1 g (sh9 v 9) 100 (by omega)) y_L_low l_L_103 [] rfl (by decide) rfl (Nat.le_of_ble_eq_true rfl) rfl (by decide) dL_act_1255 ?_
      exact J1258 (lo9 (sh9 v 9) 100) (by omega)
    refine g_iload C 1 dL_act_1244 rfl ?_
    refine g_goto C 1258 dL_act_1246 (by decide) ?_
    exact J1258 (mu9 v) (by omega)
  refine g_if_eq C 1233 dL_act_1225 (by decide) (by omega) (fun c1225 => ?_) (fun c1225 => ?_)
  · refine g_iload_n C 9 dL_act_1233 rfl ?_
    refine g_iconst C dL_act_1234 ?_
    refine g_ishrY C dL_act_1235 ?_
    refine g_iconst C dL_act_1236 ?_
    refine g_callSp C [vi (sh9 v 3), vi 3] [vi (la9 v), .ref (B 0)] (c_L_low x.1.2.1 g (sh9 v 3) 3 (by omega)) y_L_low l_L_103 [] rfl (by decide) rfl (Nat.le_of_ble_eq_true rfl) rfl (by decide) dL_act_1237 ?_
    exact J1240 (lo9 (sh9 v 3) 3) (by omega)
  refine g_iload C 0 dL_act_1228 rfl ?_
  refine g_goto C 1240 dL_act_1230 (by decide) ?_
  exact J1240 (fe9 v) (by omega)

set_option maxHeartbeats 4000000 in
set_option maxRecDepth 100000 in
theorem a_25 {g : gD} {x : gX} {B : Nat → Nat} {S X : Nat → Int → Int} {v : Int} (C : gC g x RL cL_act 10 14 1 6 341) (hZ : gZx x) (hst9 : x.1.2.1.stackTraces = false) (hR : gR g x (some .long) 1 6 (wP g B S X) (pO g B (actN v S) (vl (actR v S)) True)) (hI : iv9 S X) (hv : -2147483648 ≤ v ∧ v < 2147483648) (hs : (55 ≤ lo9 v 56 ∧ lo9 v 56 ≤ 55)) : gW g x (wP g B S X) 0 0 [(9, vi (fe9 v)), (8, vi (mu9 v)), (7, vi (ot9 v)), (6, vi (on9 v)), (5, vi (la9 v)), (4, vi (ho9 v)), (3, vi (pe9 v)), (2, vi (od9 v)), (0, .ref (B 0)), (1, vi v)] 1263 [] := by
  have hpe9 := pe9_r v
  have hho9 := ho9_r v
  have hla9 := la9_r v
  have hon9 := on9_r v
  have hot9 := ot9_r v
  have hmu9 := mu9_r v
  have hfe9 := fe9_r v
  have hod := od9_r v
  have hmb := mu9_b (v := v)
  have hf0 := sh9_r v 3
  refine g_aload_n C 8 dL_act_1263 rfl ?_
  refine g_iload C 4 dL_act_1264 rfl ?_
  refine g_iload_n C 9 dL_act_1266 rfl ?_
  refine g_iconst C dL_act_1267 ?_
  refine g_ishrY C dL_act_1268 ?_
  refine g_iconst C dL_act_1269 ?_
  refine g_iandY C dL_act_1270 ?_
  refine g_iconst C dL_act_1271 ?_
  have J1280 : ∀ (w1280 : Int), (w1280 = (if an9 (sh9 v 3) 1 = 1 then 1 else 0)) → gW g x (wP g B S X) 0 0 [(9, vi (fe9 v)), (8, vi (mu9 v)), (7, vi (ot9 v)), (6, vi (on9 v)), (5, vi (la9 v)), (4, vi (ho9 v)), (3, vi (pe9 v)), (2, vi (od9 v)), (0, .ref (B 0)), (1, vi v)] 1280 [vi w1280, vi (la9 v), .ref (B 0)] := by
    intro w1280 hJ1280
    subst hJ1280
    refine g_callSZ C hZ [.ref (B 0), vi (la9 v), vi (if an9 (sh9 v 3) 1 = 1 then 1 else 0)] [] (q_dearest x.1.2.1 hst9 g B S X (la9 v) (if an9 (sh9 v 3) 1 = 1 then 1 else 0) hI (by omega) (by omega)) y_L_dearest l_L_174 isP (hCP _ _ _ _) ndP rfl (Nat.le_of_ble_eq_true rfl) rfl (by decide) dL_act_1280 (fun v9 w9 hp9 => ?_)
    obtain ⟨hc1280, X1280, rfl, rfl, hI1280⟩ := hp9
    rw [puP]
    show gW g x (wP g B S X1280) 1 6 [(9, vi (fe9 v)), (8, vi (mu9 v)), (7, vi (ot9 v)), (6, vi (on9 v)), (5, vi (la9 v)), (4, vi (ho9 v)), (3, vi (pe9 v)), (2, vi (od9 v)), (0, .ref (B 0)), (1, vi v)] 1283 [vl (aR_dearest (la9 v) (if an9 (sh9 v 3) 1 = 1 then 1 else 0) S)]
    exact g_lret C hR dL_act_1283 ⟨trivial, X1280, (congrArg (fun q => some (vl q)) (act_25 (v := v) (S := S) hs).1.symm), (by rw [(act_25 (v := v) (S := S) hs).2]), (by rw [(act_25 (v := v) (S := S) hs).2]; exact hI1280)⟩ rfl
  have h1272 := an9_r (sh9 v 3) 1
  refine g_icmp_ne C 1279 dL_act_1272 (by decide) (by omega) (by omega) (fun c1272 => ?_) (fun c1272 => ?_)
  · refine g_iconst C dL_act_1279 ?_
    exact J1280 0 (by omega)
  refine g_iconst C dL_act_1275 ?_
  refine g_goto C 1280 dL_act_1276 (by decide) ?_
  exact J1280 1 (by omega)

