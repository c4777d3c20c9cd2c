theorem act_bad {S X : Nat → Int → Int} (hI : iv9 S X) {v : Int} (hb : wJ (actR v S) = -2000000000 ∨ wJ (actR v S) = -9000000000000000) : actN v S = S := by
  have hs := lo9_r v (n := 56) (by decide)
  by_cases h0 : lo9 v 56 ≤ 6
  · have hh : 0 ≤ lo9 v 56 ∧ lo9 v 56 ≤ 6 := by omega
    have e := act_0 (v := v) (S := S) hh
    exact (e.2.trans (bad_loss hI (by rw [e.1, wJ_wI] at hb; have := wI_r (aR_loss (pe9 v) (ho9 v) (mu9 v) S); omega)))
  by_cases h1 : lo9 v 56 ≤ 7
  · have hh : 7 ≤ lo9 v 56 ∧ lo9 v 56 ≤ 7 := by omega
    have e := act_1 (v := v) (S := S) hh
    exact (e.2.trans (bad_creep hI (by rw [e.1, wJ_wI] at hb; have := wI_r (aR_creep (if od9 v = 0 then on9 v else mu9 v) (if od9 v = 0 then lo9 (sh9 v 9) 9000 else v) S); omega)))
  by_cases h2 : lo9 v 56 ≤ 12
  · have hh : 8 ≤ lo9 v 56 ∧ lo9 v 56 ≤ 12 := by omega
    have e := act_2 (v := v) (S := S) hh
    exact (e.2.trans (bad_choose hI (by rw [e.1, wJ_wI] at hb; have := wI_r (aR_choose (pe9 v) (ho9 v) (wI ((ho9 v) + (if od9 v = 0 then lo9 (sh9 v 3) 73 else fe9 v))) S); omega)))
  by_cases h3 : lo9 v 56 ≤ 13
  · have hh : 13 ≤ lo9 v 56 ∧ lo9 v 56 ≤ 13 := by omega
    by_cases hc : lo9 (sh9 v 9) 2 = 0
    · have e := act_3b (v := v) (S := S) hh (fun z => z hc)
      exact (e.2.trans (bad_unchoose hI (by rw [e.1, wJ_wI] at hb; have := wI_r (aR_unchoose S); omega)))
    · have e := act_3a (v := v) (S := S) hh hc
      exact (e.2.trans (bad_quota hI (by rw [e.1, wJ_wI] at hb; have := wI_r (aR_quota (if od9 v = 0 then lo9 (sh9 v 9) 91 else mu9 v) S); omega)))
  by_cases h4 : lo9 v 56 ≤ 16
  · have hh : 14 ≤ lo9 v 56 ∧ lo9 v 56 ≤ 16 := by omega
    have e := act_4 (v := v) (S := S) hh
    exact (e.2.trans (bad_layer hI (by rw [e.1, wJ_wI] at hb; have := wI_r (aR_layer (if od9 v = 0 then lo9 (sh9 v 5) 3000 else v) (if od9 v = 0 then 1 + (lo9 (sh9 v 8) 3000) else sh9 v 3) (if od9 v = 0 then 1 + (lo9 (sh9 v 3) 100) else mu9 v) (fe9 v) (if od9 v = 0 then lo9 (sh9 v 6) 2000 else mu9 v) (if od9 v = 0 then lo9 (sh9 v 11) 151 else mu9 v) S); omega)))
  by_cases h5 : lo9 v 56 ≤ 20
  · have hh : 17 ≤ lo9 v 56 ∧ lo9 v 56 ≤ 20 := by omega
    have e := act_5 (v := v) (S := S) hh
    exact (e.2.trans (bad_part hI (by rw [e.1, wJ_wI] at hb; have := wI_r (aR_part (la9 v) (on9 v) (if od9 v = 0 then lo9 (sh9 v 3) 60 else mu9 v) S); omega)))
  by_cases h6 : lo9 v 56 ≤ 23
  · have hh : 21 ≤ lo9 v 56 ∧ lo9 v 56 ≤ 23 := by omega
    have e := act_6 (v := v) (S := S) hh
    exact (e.2.trans (bad_retro hI (by rw [e.1, wJ_wI] at hb; have := wI_r (aR_retro (on9 v) (ot9 v) (if od9 v = 0 then lo9 (sh9 v 5) 300 else v) (if od9 v = 0 then lo9 (sh9 v 8) 900 else sh9 v 3) S); omega)))
  by_cases h7 : lo9 v 56 ≤ 25
  · have hh : 24 ≤ lo9 v 56 ∧ lo9 v 56 ≤ 25 := by omega
    have e := act_7 (v := v) (S := S) hh
    exact (e.2.trans (bad_station hI (by rw [e.1, wJ_wI] at hb; have := wI_r (aR_station (if od9 v = 0 then lo9 (sh9 v 9) 16 else mu9 v) S); omega)))
  by_cases h8 : lo9 v 56 ≤ 29
  · have hh : 26 ≤ lo9 v 56 ∧ lo9 v 56 ≤ 29 := by omega
    have e := act_8 (v := v) (S := S) hh
    exact (e.2.trans (bad_reading hI (by rw [e.1, wJ_wI] at hb; have := wI_r (aR_reading (on9 v) (ho9 v) (pe9 v) (if od9 v = 0 then lo9 (sh9 v 3) 10 else mu9 v) S); omega)))
  by_cases h9 : lo9 v 56 ≤ 30
  · have hh : 30 ≤ lo9 v 56 ∧ lo9 v 56 ≤ 30 := by omega
    have e := act_9 (v := v) (S := S) hh
    exact (e.2.trans (bad_fails hI (by rw [e.1, wJ_wI] at hb; have := wI_r (aR_fails (on9 v) (ho9 v) S); omega)))
  by_cases h10 : lo9 v 56 ≤ 32
  · have hh : 31 ≤ lo9 v 56 ∧ lo9 v 56 ≤ 32 := by omega
    have e := act_10 (v := v) (S := S) hh
    exact (e.2.trans (bad_bond hI (by rw [e.1, wJ_wI] at hb; have := wI_r (aR_bond (if od9 v = 0 then 1 + (mu9 v) else v) (pe9 v) (if od9 v = 0 then 1 + (lo9 (sh9 v 3) 65535) else mu9 v) (if od9 v = 0 then (ho9 v) / 2 else fe9 v) (ho9 v) (if od9 v = 0 then 1 + (lo9 (sh9 v 12) 9) else mu9 v) (if od9 v = 0 then 1 + (lo9 (sh9 v 10) 100) else mu9 v) S); omega)))
  by_cases h11 : lo9 v 56 ≤ 33
  · have hh : 33 ≤ lo9 v 56 ∧ lo9 v 56 ≤ 33 := by omega
    have e := act_11 (v := v) (S := S) hh
    exact (e.2.trans (bad_extend hI (by rw [e.1, wJ_wI] at hb; have := wI_r (aR_extend (fe9 v) (if od9 v = 0 then 1 + (lo9 (sh9 v 3) 90) else mu9 v) S); omega)))
  by_cases h12 : lo9 v 56 ≤ 34
  · have hh : 34 ≤ lo9 v 56 ∧ lo9 v 56 ≤ 34 := by omega
    have e := act_12 (v := v) (S := S) hh
    exact (e.2.trans (bad_pass hI (by rw [e.1, wJ_wI] at hb; have := wI_r (aR_pass (if od9 v = 0 then 1 + (lo9 (sh9 v 3) 60) else mu9 v) S); omega)))
  by_cases h13 : lo9 v 56 ≤ 37
  · have hh : 35 ≤ lo9 v 56 ∧ lo9 v 56 ≤ 37 := by omega
    have e := act_13 (v := v) (S := S) hh
    exact (e.2.trans (bad_scenario hI (by rw [e.1, wJ_wI] at hb; have := wI_r (aR_scenario (if od9 v = 0 then lo9 (sh9 v 3) 3 else fe9 v) (if od9 v = 0 then 1 + (lo9 (sh9 v 9) 99) else mu9 v) (if od9 v = 0 then lo9 (sh9 v 5) 9000 else v) S); omega)))
  by_cases h14 : lo9 v 56 ≤ 39
  · have hh : 38 ≤ lo9 v 56 ∧ lo9 v 56 ≤ 39 := by omega
    have e := act_14 (v := v) (S := S) hh
    exact e.2
  by_cases h15 : lo9 v 56 ≤ 41
  · have hh : 40 ≤ lo9 v 56 ∧ lo9 v 56 ≤ 41 := by omega
    have e := act_15 (v := v) (S := S) hh
    exact e.2
  by_cases h16 : lo9 v 56 ≤ 44
  · have hh : 42 ≤ lo9 v 56 ∧ lo9 v 56 ≤ 44 := by omega
    have e := act_16 (v := v) (S := S) hh
    exact e.2
  by_cases h17 : lo9 v 56 ≤ 46
  · have hh : 45 ≤ lo9 v 56 ∧ lo9 v 56 ≤ 46 := by omega
    have e := act_17 (v := v) (S := S) hh
    exact e.2
  by_cases h18 : lo9 v 56 ≤ 47
  · have hh : 47 ≤ lo9 v 56 ∧ lo9 v 56 ≤ 47 := by omega
    have e := act_18 (v := v) (S := S) hh
    exact e.2
  by_cases h19 : lo9 v 56 ≤ 48
  · have hh : 48 ≤ lo9 v 56 ∧ lo9 v 56 ≤ 48 := by omega
    have e := act_19 (v := v) (S := S) hh
    exact e.2
  by_cases h20 : lo9 v 56 ≤ 49
  · have hh : 49 ≤ lo9 v 56 ∧ lo9 v 56 ≤ 49 := by omega
    by_cases hc : lo9 (sh9 v 9) 4 = 0
    · have e := act_20b (v := v) (S := S) hh (fun z => z hc)
      exact e.2
    · have e := act_20a (v := v) (S := S) hh hc
      exact e.2
  by_cases h21 : lo9 v 56 ≤ 51
  · have hh : 50 ≤ lo9 v 56 ∧ lo9 v 56 ≤ 51 := by omega
    have e := act_21 (v := v) (S := S) hh
    exact e.2
  by_cases h22 : lo9 v 56 ≤ 52
  · have hh : 52 ≤ lo9 v 56 ∧ lo9 v 56 ≤ 52 := by omega
    have e := act_22 (v := v) (S := S) hh
    exact e.2
  by_cases h23 : lo9 v 56 ≤ 53
  · have hh : 53 ≤ lo9 v 56 ∧ lo9 v 56 ≤ 53 := by omega
    have e := act_23 (v := v) (S := S) hh
    exact e.2
  by_cases h24 : lo9 v 56 ≤ 54
  · have hh : 54 ≤ lo9 v 56 ∧ lo9 v 56 ≤ 54 := by omega
    have e := act_24 (v := v) (S := S) hh
    exact e.2
  have hh : 55 ≤ lo9 v 56 ∧ lo9 v 56 ≤ 55 := by omega
  have e := act_25 (v := v) (S := S) hh
  exact e.2
set_option maxHeartbeats 4000000 in
set_option maxRecDepth 100000 in
theorem law_loop {g : gD} {x : gX} {B D : Nat → Nat} {S0 X0 Y0 : Nat → Int → Int} {b L : Nat} {sc : Int → Int} (C : gC g x RL code 8 2048 610414 7270587 84000) (hZ : gZx x) (hst9 : x.1.2.1.stackTraces = false) (hX : gScr x b L sc) (hsc : ∀ j, -2147483648 ≤ sc j ∧ sc j < 2147483648) (hL : L ≤ 4096) (hI0 : iv9 S0 X0) (hK0 : iv9 S0 Y0)
    (hEnd : ∀ (ws : va_W) (k n : Nat) (lv : List (Nat × Value)), k ≤ 610414 → n ≤ 7270587 → gW g x ws k n lv 120 [vi 1]) {k0 n0 : Nat} (hk0 : k0 ≤ 1000) (hn0 : n0 ≤ 6000) : gW g x (wP g B S0 X0 ++ wP g D S0 Y0) k0 n0 [(3, vi 0), (2, .ref (D 0)), (1, .ref (B 0)), (0, .ref b)] 18 [] := by
  have L18 : ∀ (f : Nat) (e9 : Int) (S : Nat → Int → Int) (X : Nat → Int → Int) (Y : Nat → Int → Int) (k9 : Nat) (n9 : Nat), (0 ≤ e9 ∧ e9 ≤ 110 ∧ iv9 S X ∧ iv9 S Y ∧ (k9 : Int) ≤ 1000 + 100 * e9 ∧ (n9 : Int) ≤ 6000 + 600 * e9) → (110 - e9).toNat < f → gW g x (wP g B S X ++ wP g D S Y) k9 n9 [(3, vi e9), (2, .ref (D 0)), (1, .ref (B 0)), (0, .ref b)] 18 [] := by
    intro f
    induction f with
    | zero => intro e9 S X Y k9 n9 hI18 hf; exact absurd hf (Nat.not_lt_zero _)
    | succ f ih18 =>
      intro e9 S X Y k9 n9 hI18 hf18
      obtain ⟨he0, he1, hI, hK, hk9, hn9⟩ := hI18
      refine g_iload_n C 0 dL_law_18 rfl ?_
      refine g_bipush C dL_law_19 (by decide) ?_
      refine g_icmp_ge C 110 dL_law_21 (by decide) (by omega) (by omega) (fun c21 => ?_) (fun c21 => ?_)
      · refine g_aload_n C 2 dL_law_110 rfl ?_
        refine g_aload_n C 3 dL_law_111 rfl ?_
        refine g_bipush C dL_law_112 (by decide) ?_
        refine g_callSC C hX [.ref b, vi 110] [.ref (B 0)] (q_cell x.1.2.1 g b L sc 110 (by omega) hL) y_L_cell l_L_182 rfl (Nat.le_of_ble_eq_true rfl) rfl (by omega) dL_law_114 (fun v9 hp9 => ?_)
        obtain rfl := hp9
        show gW g x (wP g B S X ++ wP g D S Y) k9 n9 [(3, vi e9), (2, .ref (D 0)), (1, .ref (B 0)), (0, .ref b)] 117 [vi (ce9 L sc 110), .ref (B 0)]
        refine g_wrap ?_
        have hw117 := wI_r (ce9 L sc 110)
        refine g_callSQ C hZ [.ref (B 0), vi (wI (ce9 L sc 110))] [] (wQ_a (q_so x.1.2.1 hst9 g B S X (wI (ce9 L sc 110)) hI) D S Y) y_L_isSo l_L_196 (isP ++ isQ) (hCPQ _ _ _ _ _ _ _) ndPQ rfl (Nat.le_of_ble_eq_true rfl) rfl (by omega) dL_law_117 (fun v9 w9 hp9 => ?_)
        obtain ⟨hc117, X117, rfl, rfl, hI117⟩ := hp9
        rw [puPQ]
        show gW g x (wP g B S X117 ++ wP g D S Y) (k9 + 900) (n9 + 5400) [(3, vi e9), (2, .ref (D 0)), (1, .ref (B 0)), (0, .ref b)] 120 [vi 1]
        exact hEnd _ _ _ _ (by omega) (by omega)
      refine g_aload_n C 3 dL_law_24 rfl ?_
      refine g_iload_n C 0 dL_law_25 rfl ?_
      refine g_callSC C hX [.ref b, vi e9] [] (q_cell x.1.2.1 g b L sc e9 (by omega) hL) y_L_cell l_L_182 rfl (Nat.le_of_ble_eq_true rfl) rfl (by omega) dL_law_26 (fun v9 hp9 => ?_)
      obtain rfl := hp9
      show gW g x (wP g B S X ++ wP g D S Y) k9 n9 [(3, vi e9), (2, .ref (D 0)), (1, .ref (B 0)), (0, .ref b)] 29 [vi (ce9 L sc e9)]
      refine g_wrap ?_
      have hw29 := wI_r (ce9 L sc e9)
      refine g_istore C [(4, vi (wI (ce9 L sc e9))), (3, vi e9), (2, .ref (D 0)), (1, .ref (B 0)), (0, .ref b)] dL_law_29 (by decide) rfl ?_
      refine g_aload_n C 3 dL_law_31 rfl ?_
      refine g_iload C 0 dL_law_32 rfl ?_
      have hv9 := wI_r (ce9 L sc e9)
      refine g_callSQ C hZ [.ref (B 0), vi (wI (ce9 L sc e9))] [] (wQ_a (q_act x.1.2.1 hst9 g B S X (wI (ce9 L sc e9)) hI (by omega)) D S Y) y_L_act l_L_186 (isP ++ isQ) (hCPQ _ _ _ _ _ _ _) ndPQ rfl (Nat.le_of_ble_eq_true rfl) rfl (by omega) dL_law_34 (fun v9 w9 hp9 => ?_)
      obtain ⟨hc34, X34, rfl, rfl, hI34⟩ := hp9
      rw [puPQ]
      show gW g x (wP g B (actN (wI (ce9 L sc e9)) S) X34 ++ wP g D S Y) (k9 + 1) (n9 + 6) [(4, vi (wI (ce9 L sc e9))), (3, vi e9), (2, .ref (D 0)), (1, .ref (B 0)), (0, .ref b)] 37 [vl (actR (wI (ce9 L sc e9)) S)]
      refine g_wrapl ?_
      have hw37 := wJ_r (actR (wI (ce9 L sc e9)) S)
      refine g_lstore C [(5, vl (wJ (actR (wI (ce9 L sc e9)) S))), (4, vi (wI (ce9 L sc e9))), (3, vi e9), (2, .ref (D 0)), (1, .ref (B 0)), (0, .ref b)] dL_law_37 (by decide) rfl ?_
      have J62 : ∀ (w62 : Int), ((w62 = 1 ∧ ((wJ (actR (wI (ce9 L sc e9)) S)) = -2000000000 ∨ (wJ (actR (wI (ce9 L sc e9)) S)) = -9000000000000000)) ∨ (w62 = 0 ∧ ¬ ((wJ (actR (wI (ce9 L sc e9)) S)) = -2000000000 ∨ (wJ (actR (wI (ce9 L sc e9)) S)) = -9000000000000000))) → gW g x (wP g B (actN (wI (ce9 L sc e9)) S) X34 ++ wP g D S Y) (k9 + 1) (n9 + 6) [(5, vl (wJ (actR (wI (ce9 L sc e9)) S))), (4, vi (wI (ce9 L sc e9))), (3, vi e9), (2, .ref (D 0)), (1, .ref (B 0)), (0, .ref b)] 62 [vi w62] := by
        intro w62 hJ62
        refine g_istore C [(7, vi w62), (5, vl (wJ (actR (wI (ce9 L sc e9)) S))), (4, vi (wI (ce9 L sc e9))), (3, vi e9), (2, .ref (D 0)), (1, .ref (B 0)), (0, .ref b)] dL_law_62 (by decide) rfl ?_
        have J81 : ∀ (Y81 : Nat → Int → Int) (k81 : Nat) (n81 : Nat), (iv9 (actN (wI (ce9 L sc e9)) S) Y81 ∧ (k81 : Int) ≤ 1002 + 100 * e9 ∧ (n81 : Int) ≤ 6012 + 600 * e9) → gW g x (wP g B (actN (wI (ce9 L sc e9)) S) X34 ++ wP g D (actN (wI (ce9 L sc e9)) S) Y81) k81 n81 [(7, vi w62), (5, vl (wJ (actR (wI (ce9 L sc e9)) S))), (4, vi (wI (ce9 L sc e9))), (3, vi e9), (2, .ref (D 0)), (1, .ref (B 0)), (0, .ref b)] 81 [] := by
          intro Y81 k81 n81 hJ81
          obtain ⟨hK81, hk81, hn81⟩ := hJ81
          refine g_iload_n C 3 dL_law_81 rfl ?_
          refine g_bipush C dL_law_82 (by decide) ?_
          refine g_irem C dL_law_84 (by omega) (by omega) ?_
          refine g_bipush C dL_law_85 (by decide) ?_
          refine g_icmp_ne C 104 dL_law_87 (by decide) (by omega) (by omega) (fun c87 => ?_) (fun c87 => ?_)
          · refine g_iinc C 3 [(3, vi (e9 + 1)), (7, vi w62), (5, vl (wJ (actR (wI (ce9 L sc e9)) S))), (4, vi (wI (ce9 L sc e9))), (2, .ref (D 0)), (1, .ref (B 0)), (0, .ref b)] dL_law_104 rfl (by decide) rfl ?_
            refine g_goto C 18 dL_law_107 (by decide) ?_
            refine g_lv [(3, vi (e9 + 1)), (2, .ref (D 0)), (1, .ref (B 0)), (0, .ref b)] [0, 4, 5, 6] rfl ?_
            exact ih18 (e9 + 1) (actN (wI (ce9 L sc e9)) S) X34 Y81 k81 n81 (by first | exact ⟨by omega, by omega, hI34, hK81, by omega, by omega⟩ | exact ⟨by omega, by omega, hI96, hK96, by omega, by omega⟩) (by omega)
          refine g_aload_n C 5 dL_law_90 rfl ?_
          refine g_aload_n C 4 dL_law_91 rfl ?_
          refine g_iload C 2 dL_law_92 rfl ?_
          refine g_iconst C dL_law_94 ?_
          refine g_ishrY C dL_law_95 ?_
          have hsh := sh9_r (wI (ce9 L sc e9)) 3
          refine g_callSQ C hZ [.ref (B 0), .ref (D 0), vi (sh9 (wI (ce9 L sc e9)) 3)] [] (q_alike x.1.2.1 hst9 g B D (actN (wI (ce9 L sc e9)) S) X34 Y81 (sh9 (wI (ce9 L sc e9)) 3) hI34 hK81) y_L_areAlike l_L_192 (isP ++ isQ) (hCPQ _ _ _ _ _ _ _) ndPQ rfl (Nat.le_of_ble_eq_true rfl) rfl (by omega) dL_law_96 (fun v9 w9 hp9 => ?_)
          obtain ⟨X96, Y96, rfl, rfl, hI96, hK96⟩ := hp9
          rw [puPQ]
          show gW g x (wP g B (actN (wI (ce9 L sc e9)) S) X96 ++ wP g D (actN (wI (ce9 L sc e9)) S) Y96) (k81 + 60) (n81 + 360) [(7, vi w62), (5, vl (wJ (actR (wI (ce9 L sc e9)) S))), (4, vi (wI (ce9 L sc e9))), (3, vi e9), (2, .ref (D 0)), (1, .ref (B 0)), (0, .ref b)] 99 [vi 1]
          refine g_if_ne C 104 dL_law_99 (by decide) (by omega) (fun c99 => ?_) (fun c99 => (by exfalso; omega))
          refine g_iinc C 3 [(3, vi (e9 + 1)), (7, vi w62), (5, vl (wJ (actR (wI (ce9 L sc e9)) S))), (4, vi (wI (ce9 L sc e9))), (2, .ref (D 0)), (1, .ref (B 0)), (0, .ref b)] dL_law_104 rfl (by decide) rfl ?_
          refine g_goto C 18 dL_law_107 (by decide) ?_
          refine g_lv [(3, vi (e9 + 1)), (2, .ref (D 0)), (1, .ref (B 0)), (0, .ref b)] [0, 4, 5, 6] rfl ?_
          exact ih18 (e9 + 1) (actN (wI (ce9 L sc e9)) S) X96 Y96 (k81 + 60) (n81 + 360) (by first | exact ⟨by omega, by omega, hI34, hK81, by omega, by omega⟩ | exact ⟨by omega, by omega, hI96, hK96, by omega, by omega⟩) (by omega)
        refine g_iload C 0 dL_law_64 rfl ?_
        refine g_if_ne C 81 dL_law_66 (by decide) (by omega) (fun c66 => ?_) (fun c66 => ?_)
        · have hN9 : actN (wI (ce9 L sc e9)) S = S := act_bad hI (by omega)
          rw [show wP g D S Y = wP g D (actN (wI (ce9 L sc e9)) S) Y by rw [hN9]]
          have hK9 : iv9 (actN (wI (ce9 L sc e9)) S) Y := by rw [hN9]; exact hK
          exact J81 Y (k9 + 1) (n9 + 6) (by first | exact ⟨hK9, by omega, by omega⟩ | exact ⟨hI72, by omega, by omega⟩)
        refine g_aload_n C 4 dL_law_69 rfl ?_
        refine g_iload C 2 dL_law_70 rfl ?_
        refine g_callSQ C hZ [.ref (D 0), vi (wI (ce9 L sc e9))] [] (wQ_b (q_act x.1.2.1 hst9 g D S Y (wI (ce9 L sc e9)) hK (by omega)) B (actN (wI (ce9 L sc e9)) S) X34) y_L_act l_L_186 (isP ++ isQ) (hCPQ _ _ _ _ _ _ _) ndPQ rfl (Nat.le_of_ble_eq_true rfl) rfl (by omega) dL_law_72 (fun v9 w9 hp9 => ?_)
        obtain ⟨hc72, X72, rfl, rfl, hI72⟩ := hp9
        rw [puPQ]
        show gW g x (wP g B (actN (wI (ce9 L sc e9)) S) X34 ++ wP g D (actN (wI (ce9 L sc e9)) S) X72) (k9 + 2) (n9 + 12) [(7, vi w62), (5, vl (wJ (actR (wI (ce9 L sc e9)) S))), (4, vi (wI (ce9 L sc e9))), (3, vi e9), (2, .ref (D 0)), (1, .ref (B 0)), (0, .ref b)] 75 [vl (actR (wI (ce9 L sc e9)) S)]
        refine g_wrapl ?_
        have hw75 := wJ_r (actR (wI (ce9 L sc e9)) S)
        refine g_lload C 1 dL_law_75 rfl ?_
        refine g_lcmpS C dL_law_77 ?_
        refine g_if_ne C 102 dL_law_78 (by decide) (by omega) (fun c78 => (by exfalso; omega)) (fun c78 => ?_)
        exact J81 X72 (k9 + 2) (n9 + 12) (by first | exact ⟨hK9, by omega, by omega⟩ | exact ⟨hI72, by omega, by omega⟩)
      refine g_lload C 0 dL_law_39 rfl ?_
      refine g_ldc2 C (-2000000000) n_L_190 (by decide) dL_law_41 ?_
      refine g_lcmp C dL_law_44 (by omega) (by omega) ?_
      refine g_if_eq C 57 dL_law_45 (by decide) (by omega) (fun c45 => ?_) (fun c45 => ?_)
      · refine g_iconst C dL_law_57 ?_
        refine g_goto C 62 dL_law_58 (by decide) ?_
        exact J62 1 (by omega)
      refine g_lload C 0 dL_law_48 rfl ?_
      refine g_ldc2 C (-9000000000000000) n_L_94 (by decide) dL_law_50 ?_
      refine g_lcmp C dL_law_53 (by omega) (by omega) ?_
      refine g_if_ne C 61 dL_law_54 (by decide) (by omega) (fun c54 => ?_) (fun c54 => ?_)
      · refine g_iconst C dL_law_61 ?_
        exact J62 0 (by omega)
      refine g_iconst C dL_law_57 ?_
      refine g_goto C 62 dL_law_58 (by decide) ?_
      exact J62 1 (by omega)
  exact L18 _ 0 S0 X0 Y0 k0 n0 ⟨by omega, by omega, hI0, hK0, by omega, by omega⟩ (Nat.lt_succ_self _)

