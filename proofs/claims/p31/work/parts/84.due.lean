theorem iv_nO {S X : Nat → Int → Int} (hI : iv9 S X) : 0 ≤ (S 35 0) ∧ (S 35 0) ≤ 8 := by
  obtain ⟨hnL, hOP, hOF, hOT, hnO, hnY, hPA, hnE, hnR, hEF, hES, hEH, hnB, htn, hBL, hBE, hMC, hLP, hLH, hLU, hFL, hDP, hSH, hRE, hPR, hRA, hQ, hNet, hDP1, hdj, hXP, hRB, hRT, hRF, hRD, hRH, hRN, hVH, hBP, hBQ, hBX, hBF, hBT, hBC, hEC, hEP, hEX, hEn, hMW, hMU, hMW1, hBP1⟩ := hI
  exact hnO
theorem iv_nY {S X : Nat → Int → Int} (hI : iv9 S X) : 0 ≤ (S 36 0) ∧ (S 36 0) ≤ 5 := by
  obtain ⟨hnL, hOP, hOF, hOT, hnO, hnY, hPA, hnE, hnR, hEF, hES, hEH, hnB, htn, hBL, hBE, hMC, hLP, hLH, hLU, hFL, hDP, hSH, hRE, hPR, hRA, hQ, hNet, hDP1, hdj, hXP, hRB, hRT, hRF, hRD, hRH, hRN, hVH, hBP, hBQ, hBX, hBF, hBT, hBC, hEC, hEP, hEX, hEn, hMW, hMU, hMW1, hBP1⟩ := hI
  exact hnY
theorem iv_nB {S X : Nat → Int → Int} (hI : iv9 S X) : 0 ≤ (S 40 0) ∧ (S 40 0) ≤ 5 := by
  obtain ⟨hnL, hOP, hOF, hOT, hnO, hnY, hPA, hnE, hnR, hEF, hES, hEH, hnB, htn, hBL, hBE, hMC, hLP, hLH, hLU, hFL, hDP, hSH, hRE, hPR, hRA, hQ, hNet, hDP1, hdj, hXP, hRB, hRT, hRF, hRD, hRH, hRN, hVH, hBP, hBQ, hBX, hBF, hBT, hBC, hEC, hEP, hEX, hEn, hMW, hMU, hMW1, hBP1⟩ := hI
  exact hnB
set_option maxHeartbeats 4000000 in
set_option maxRecDepth 100000 in
theorem q_due (l : Launch) (hst9 : l.stackTraces = false) (g : gD) (B : Nat → Nat) (S X : Nat → Int → Int) (hI : iv9 S X) : gMetQ l g yL_isDueSo cL_isDueSo 8 (some .boolean) 8 700 4200 159 [.ref (B 0)] (wP g B S X) (pO g B S (vi 1) True) := by
  refine gMetQ.of (by decide +kernel) (Nat.le_of_ble_eq_true rfl) ?_
  intro x hlx C hR hZ
  subst hlx
  have C : gC g x RL cL_isDueSo 8 8 700 4200 159 := C
  have hnO := iv_nO hI
  have hnY := iv_nY hI
  have hnB := iv_nB hI
  show gW g x (wP g B S X) 0 0 [(0, .ref (B 0))] 0 []
  refine g_iconst C dL_isDueSo_0 ?_
  refine g_istore_n C [(1, vi 0), (0, .ref (B 0))] dL_isDueSo_1 (by decide) rfl ?_
  refine g_iconst C dL_isDueSo_2 ?_
  refine g_istore_n C [(2, vi 0), (1, vi 0), (0, .ref (B 0))] dL_isDueSo_3 (by decide) rfl ?_
  refine g_iconst C dL_isDueSo_4 ?_
  refine g_istore_n C [(3, vi 0), (2, vi 0), (1, vi 0), (0, .ref (B 0))] dL_isDueSo_5 (by decide) rfl ?_
  refine g_iconst C dL_isDueSo_6 ?_
  refine g_istore C [(4, vi 0), (3, vi 0), (2, vi 0), (1, vi 0), (0, .ref (B 0))] dL_isDueSo_7 (by decide) rfl ?_
  refine g_iconst C dL_isDueSo_9 ?_
  refine g_istore C [(5, vi 1), (4, vi 0), (3, vi 0), (2, vi 0), (1, vi 0), (0, .ref (B 0))] dL_isDueSo_10 (by decide) rfl ?_
  refine g_iconst C dL_isDueSo_12 ?_
  refine g_istore C [(6, vi 0), (5, vi 1), (4, vi 0), (3, vi 0), (2, vi 0), (1, vi 0), (0, .ref (B 0))] dL_isDueSo_13 (by decide) rfl ?_
  have L15 : ∀ (f : Nat) (i : Int) (ce : Int) (pa : Int) (du : Int) (gr : Int) (Xa : Nat → Int → Int) (k9 : Nat) (n9 : Nat), (0 ≤ i ∧ i ≤ 8 ∧ ce = sm (fun o => oQ S o) (mn i (S 35 0)) ∧ pa = sm (fun o => oD S o) (mn i (S 35 0)) ∧ du = sm (fun o => oE S o) (mn i (S 35 0)) ∧ gr = sm (fun o => oG S o) (mn i (S 35 0)) ∧ iv9 S Xa ∧ (k9 : Int) ≤ 60 * i ∧ (n9 : Int) ≤ 360 * i) → (8 - i).toNat < f → gW g x (wP g B S Xa) k9 n9 [(6, vi i), (5, vi 1), (4, vi gr), (3, vi du), (2, vi pa), (1, vi ce), (0, .ref (B 0))] 15 [] := by
    intro f
    induction f with
    | zero => intro i ce pa du gr Xa k9 n9 hI15 hf; exact absurd hf (Nat.not_lt_zero _)
    | succ f ih15 =>
      intro i ce pa du gr Xa k9 n9 hI15 hf15
      obtain ⟨hi0, hi1, hce, hpa, hdu, hgr, hXa, hk9, hn9⟩ := hI15
      have hg := oG_r hI i
      have hq := oQ_r hI i
      refine g_iload C 0 dL_isDueSo_15 rfl ?_
      refine g_bipush C dL_isDueSo_17 (by decide) ?_
      refine g_icmp_ge C 241 dL_isDueSo_19 (by decide) (by omega) (by omega) (fun c19 => ?_) (fun c19 => ?_)
      · have hm8 : mn i (S 35 0) = (S 35 0) := by unfold mn; omega
        rw [hm8] at hce hpa hdu hgr
        refine g_iconst C dL_isDueSo_241 ?_
        refine g_istore C [(6, vi 0), (5, vi 1), (4, vi gr), (3, vi du), (2, vi pa), (1, vi ce), (0, .ref (B 0))] dL_isDueSo_242 (by decide) rfl ?_
        refine g_iconst C dL_isDueSo_244 ?_
        refine g_istore C [(7, vi 0), (6, vi 0), (5, vi 1), (4, vi gr), (3, vi du), (2, vi pa), (1, vi ce), (0, .ref (B 0))] dL_isDueSo_245 (by decide) rfl ?_
        have L247 : ∀ (f : Nat) (z9 : Int) (bo : Int) (Xc : Nat → Int → Int) (kc : Nat) (nc : Nat), (0 ≤ z9 ∧ z9 ≤ 6 ∧ bo = sm (fun z => oB S z) z9 ∧ iv9 S Xc ∧ (kc : Int) ≤ 480 + 8 * z9 ∧ (nc : Int) ≤ 2880 + 48 * z9) → (6 - z9).toNat < f → gW g x (wP g B S Xc) kc nc [(7, vi z9), (6, vi bo), (5, vi 1), (4, vi gr), (3, vi du), (2, vi pa), (1, vi ce), (0, .ref (B 0))] 247 [] := by
          intro f
          induction f with
          | zero => intro z9 bo Xc kc nc hI247 hf; exact absurd hf (Nat.not_lt_zero _)
          | succ f ih247 =>
            intro z9 bo Xc kc nc hI247 hf247
            obtain ⟨hz0, hz1, hbo, hXc, hkc, hnc⟩ := hI247
            have hr := rei_r hI z9
            refine g_iload C 0 dL_isDueSo_247 rfl ?_
            refine g_bipush C dL_isDueSo_249 (by decide) ?_
            refine g_icmp_ge C 328 dL_isDueSo_251 (by decide) (by omega) (by omega) (fun c251 => ?_) (fun c251 => ?_)
            · have hz6 : z9 = 6 := by omega
              rw [hz6] at hbo
              refine g_iload C 2 dL_isDueSo_328 rfl ?_
              refine g_if_eq C 405 dL_isDueSo_330 (by decide) (by omega) (fun c330 => (by exfalso; omega)) (fun c330 => ?_)
              refine g_aload_n C 7 dL_isDueSo_333 rfl ?_
              refine g_iconst C dL_isDueSo_334 ?_
              refine g_callVX C hZ [vi 0] [] (p_sum x.1.2.1 hst9 g B S Xc 0 hXc (by omega)) y_X9_sum l_L_75 isP (hCP _ _ _ _) ndP 0 rfl rfl rfl (Nat.le_of_ble_eq_true rfl) rfl (by omega) dL_isDueSo_335 (fun v9 w9 hp9 => ?_) (fun E9 w9 hp9 => absurd (show vC_sum 0 S from (by unfold vC_sum; omega)) hp9.1)
              obtain ⟨hc335, X335, rfl, rfl, hI335⟩ := hp9
              rw [puP]
              show gW g x (wP g B S X335) (kc + 1) (nc + 6) [(7, vi z9), (6, vi bo), (5, vi 1), (4, vi gr), (3, vi du), (2, vi pa), (1, vi ce), (0, .ref (B 0))] 338 [vi (vR_sum 0 S)]
              refine g_aload_n C 7 dL_isDueSo_338 rfl ?_
              refine g_iconst C dL_isDueSo_339 ?_
              refine g_callVX C hZ [vi 1] [vi (vR_sum 0 S)] (p_sum x.1.2.1 hst9 g B S X335 1 hI335 (by omega)) y_X9_sum l_L_75 isP (hCP _ _ _ _) ndP 0 rfl rfl rfl (Nat.le_of_ble_eq_true rfl) rfl (by omega) dL_isDueSo_340 (fun v9 w9 hp9 => ?_) (fun E9 w9 hp9 => absurd (show vC_sum 1 S from (by unfold vC_sum; omega)) hp9.1)
              obtain ⟨hc340, X340, rfl, rfl, hI340⟩ := hp9
              rw [puP]
              show gW g x (wP g B S X340) (kc + 2) (nc + 12) [(7, vi z9), (6, vi bo), (5, vi 1), (4, vi gr), (3, vi du), (2, vi pa), (1, vi ce), (0, .ref (B 0))] 343 [vi (vR_sum 1 S), vi (vR_sum 0 S)]
              refine g_iload C 3 dL_isDueSo_343 rfl ?_
              refine g_iadd C dL_isDueSo_345 ?_
              refine g_val (w := vR_sum 0 S) (by rw [sum_0, sum_1, hgr]; omega) ?_
              refine g_icmpSn C 405 dL_isDueSo_346 (by decide) ?_
              refine g_aload_n C 7 dL_isDueSo_349 rfl ?_
              refine g_iconst C dL_isDueSo_350 ?_
              refine g_callVX C hZ [vi 2] [] (p_sum x.1.2.1 hst9 g B S X340 2 hI340 (by omega)) y_X9_sum l_L_75 isP (hCP _ _ _ _) ndP 0 rfl rfl rfl (Nat.le_of_ble_eq_true rfl) rfl (by omega) dL_isDueSo_351 (fun v9 w9 hp9 => ?_) (fun E9 w9 hp9 => absurd (show vC_sum 2 S from (by unfold vC_sum; omega)) hp9.1)
              obtain ⟨hc351, X351, rfl, rfl, hI351⟩ := hp9
              rw [puP]
              show gW g x (wP g B S X351) (kc + 3) (nc + 18) [(7, vi z9), (6, vi bo), (5, vi 1), (4, vi gr), (3, vi du), (2, vi pa), (1, vi ce), (0, .ref (B 0))] 354 [vi (vR_sum 2 S)]
              refine g_iload_n C 6 dL_isDueSo_354 rfl ?_
              refine g_val (w := vR_sum 2 S) (by rw [sum_2, hce]) ?_
              refine g_icmpSn C 405 dL_isDueSo_355 (by decide) ?_
              refine g_aload_n C 7 dL_isDueSo_358 rfl ?_
              refine g_iconst C dL_isDueSo_359 ?_
              refine g_callVX C hZ [vi 3] [] (p_sum x.1.2.1 hst9 g B S X351 3 hI351 (by omega)) y_X9_sum l_L_75 isP (hCP _ _ _ _) ndP 0 rfl rfl rfl (Nat.le_of_ble_eq_true rfl) rfl (by omega) dL_isDueSo_360 (fun v9 w9 hp9 => ?_) (fun E9 w9 hp9 => absurd (show vC_sum 3 S from (by unfold vC_sum; omega)) hp9.1)
              obtain ⟨hc360, X360, rfl, rfl, hI360⟩ := hp9
              rw [puP]
              show gW g x (wP g B S X360) (kc + 4) (nc + 24) [(7, vi z9), (6, vi bo), (5, vi 1), (4, vi gr), (3, vi du), (2, vi pa), (1, vi ce), (0, .ref (B 0))] 363 [vi (vR_sum 3 S)]
              refine g_iload_n C 5 dL_isDueSo_363 rfl ?_
              refine g_val (w := vR_sum 3 S) (by rw [sum_3, hpa]) ?_
              refine g_icmpSn C 405 dL_isDueSo_364 (by decide) ?_
              refine g_aload_n C 7 dL_isDueSo_367 rfl ?_
              refine g_iconst C dL_isDueSo_368 ?_
              refine g_callVX C hZ [vi 5] [] (p_sum x.1.2.1 hst9 g B S X360 5 hI360 (by omega)) y_X9_sum l_L_75 isP (hCP _ _ _ _) ndP 0 rfl rfl rfl (Nat.le_of_ble_eq_true rfl) rfl (by omega) dL_isDueSo_369 (fun v9 w9 hp9 => ?_) (fun E9 w9 hp9 => absurd (show vC_sum 5 S from (by unfold vC_sum; omega)) hp9.1)
              obtain ⟨hc369, X369, rfl, rfl, hI369⟩ := hp9
              rw [puP]
              show gW g x (wP g B S X369) (kc + 5) (nc + 30) [(7, vi z9), (6, vi bo), (5, vi 1), (4, vi gr), (3, vi du), (2, vi pa), (1, vi ce), (0, .ref (B 0))] 372 [vi (vR_sum 5 S)]
              refine g_iload_n C 4 dL_isDueSo_372 rfl ?_
              refine g_val (w := vR_sum 5 S) (by rw [sum_5, hdu]) ?_
              refine g_icmpSn C 405 dL_isDueSo_373 (by decide) ?_
              refine g_aload_n C 7 dL_isDueSo_376 rfl ?_
              refine g_bipush C dL_isDueSo_377 (by decide) ?_
              refine g_callVX C hZ [vi 7] [] (p_sum x.1.2.1 hst9 g B S X369 7 hI369 (by omega)) y_X9_sum l_L_75 isP (hCP _ _ _ _) ndP 0 rfl rfl rfl (Nat.le_of_ble_eq_true rfl) rfl (by omega) dL_isDueSo_379 (fun v9 w9 hp9 => ?_) (fun E9 w9 hp9 => absurd (show vC_sum 7 S from (by unfold vC_sum; omega)) hp9.1)
              obtain ⟨hc379, X379, rfl, rfl, hI379⟩ := hp9
              rw [puP]
              show gW g x (wP g B S X379) (kc + 6) (nc + 36) [(7, vi z9), (6, vi bo), (5, vi 1), (4, vi gr), (3, vi du), (2, vi pa), (1, vi ce), (0, .ref (B 0))] 382 [vi (vR_sum 7 S)]
              refine g_iload C 1 dL_isDueSo_382 rfl ?_
              refine g_val (w := vR_sum 7 S) (by rw [sum_7, hbo]) ?_
              refine g_icmpSn C 405 dL_isDueSo_384 (by decide) ?_
              refine g_aload_n C 7 dL_isDueSo_387 rfl ?_
              refine g_iconst C dL_isDueSo_388 ?_
              refine g_callVX C hZ [vi 4] [] (p_sum x.1.2.1 hst9 g B S X379 4 hI379 (by omega)) y_X9_sum l_L_75 isP (hCP _ _ _ _) ndP 0 rfl rfl rfl (Nat.le_of_ble_eq_true rfl) rfl (by omega) dL_isDueSo_389 (fun v9 w9 hp9 => ?_) (fun E9 w9 hp9 => absurd (show vC_sum 4 S from (by unfold vC_sum; omega)) hp9.1)
              obtain ⟨hc389, X389, rfl, rfl, hI389⟩ := hp9
              rw [puP]
              show gW g x (wP g B S X389) (kc + 7) (nc + 42) [(7, vi z9), (6, vi bo), (5, vi 1), (4, vi gr), (3, vi du), (2, vi pa), (1, vi ce), (0, .ref (B 0))] 392 [vi (vR_sum 4 S)]
              refine g_iload_n C 5 dL_isDueSo_392 rfl ?_
              refine g_iload_n C 6 dL_isDueSo_393 rfl ?_
              refine g_iadd C dL_isDueSo_394 ?_
              refine g_iload C 1 dL_isDueSo_395 rfl ?_
              refine g_isub C dL_isDueSo_397 ?_
              refine g_val (w := vR_sum 4 S) (by rw [sum_4, hpa, hce, hbo]; omega) ?_
              refine g_icmpSn C 405 dL_isDueSo_398 (by decide) ?_
              refine g_iconst C dL_isDueSo_401 ?_
              refine g_goto C 406 dL_isDueSo_402 (by decide) ?_
              refine g_istore C [(5, vi 1), (7, vi z9), (6, vi bo), (4, vi gr), (3, vi du), (2, vi pa), (1, vi ce), (0, .ref (B 0))] dL_isDueSo_406 (by decide) rfl ?_
              refine g_iload C 0 dL_isDueSo_408 rfl ?_
              refine g_if_eq C 452 dL_isDueSo_410 (by decide) (by omega) (fun c410 => (by exfalso; omega)) (fun c410 => ?_)
              refine g_aload_n C 7 dL_isDueSo_413 rfl ?_
              refine g_bipush C dL_isDueSo_414 (by decide) ?_
              refine g_callVX C hZ [vi 6] [] (p_sum x.1.2.1 hst9 g B S X389 6 hI389 (by omega)) y_X9_sum l_L_75 isP (hCP _ _ _ _) ndP 0 rfl rfl rfl (Nat.le_of_ble_eq_true rfl) rfl (by omega) dL_isDueSo_416 (fun v9 w9 hp9 => ?_) (fun E9 w9 hp9 => absurd (show vC_sum 6 S from (by unfold vC_sum; omega)) hp9.1)
              obtain ⟨hc416, X416, rfl, rfl, hI416⟩ := hp9
              rw [puP]
              show gW g x (wP g B S X416) (kc + 8) (nc + 48) [(5, vi 1), (7, vi z9), (6, vi bo), (4, vi gr), (3, vi du), (2, vi pa), (1, vi ce), (0, .ref (B 0))] 419 [vi (vR_sum 6 S)]
              refine g_aload_n C 7 dL_isDueSo_419 rfl ?_
              refine g_iconst C dL_isDueSo_420 ?_
              refine g_callVX C hZ [vi 0] [vi (vR_sum 6 S)] (p_sum x.1.2.1 hst9 g B S X416 0 hI416 (by omega)) y_X9_sum l_L_75 isP (hCP _ _ _ _) ndP 0 rfl rfl rfl (Nat.le_of_ble_eq_true rfl) rfl (by omega) dL_isDueSo_421 (fun v9 w9 hp9 => ?_) (fun E9 w9 hp9 => absurd (show vC_sum 0 S from (by unfold vC_sum; omega)) hp9.1)
              obtain ⟨hc421, X421, rfl, rfl, hI421⟩ := hp9
              rw [puP]
              show gW g x (wP g B S X421) (kc + 9) (nc + 54) [(5, vi 1), (7, vi z9), (6, vi bo), (4, vi gr), (3, vi du), (2, vi pa), (1, vi ce), (0, .ref (B 0))] 424 [vi (vR_sum 0 S), vi (vR_sum 6 S)]
              refine g_iload C 2 dL_isDueSo_424 rfl ?_
              refine g_isub C dL_isDueSo_426 ?_
              refine g_iload_n C 4 dL_isDueSo_427 rfl ?_
              refine g_iadd C dL_isDueSo_428 ?_
              refine g_val (w := vR_sum 6 S) (by rw [sum_6, sum_0, hbo, hdu]) ?_
              refine g_icmpSn C 452 dL_isDueSo_429 (by decide) ?_
              refine g_aload_n C 7 dL_isDueSo_432 rfl ?_
              refine g_callV C [] [] (p_rounds x.1.2.1 hst9 g B S X421  hI421) y_X9_rounds l_L_154 isP (hCP _ _ _ _) ndP 0 rfl rfl rfl (Nat.le_of_ble_eq_true rfl) rfl (by omega) dL_isDueSo_433 (fun v9 w9 hp9 => ?_)
              obtain ⟨hc433, X433, rfl, rfl, hI433⟩ := hp9
              rw [puP]
              show gW g x (wP g B S X433) (kc + 9) (nc + 54) [(5, vi 1), (7, vi z9), (6, vi bo), (4, vi gr), (3, vi du), (2, vi pa), (1, vi ce), (0, .ref (B 0))] 436 [vi (vR_rounds S)]
              have hr1 := hc433.1
              have hr2 := hc433.2.1
              refine g_if_le C 452 dL_isDueSo_436 (by decide) (by omega) (fun c436 => absurd c436 (by omega)) (fun c436 => ?_)
              refine g_aload_n C 7 dL_isDueSo_439 rfl ?_
              refine g_callV C [] [] (p_rounds x.1.2.1 hst9 g B S X433  hI433) y_X9_rounds l_L_154 isP (hCP _ _ _ _) ndP 0 rfl rfl rfl (Nat.le_of_ble_eq_true rfl) rfl (by omega) dL_isDueSo_440 (fun v9 w9 hp9 => ?_)
              obtain ⟨hc440, X440, rfl, rfl, hI440⟩ := hp9
              rw [puP]
              show gW g x (wP g B S X440) (kc + 9) (nc + 54) [(5, vi 1), (7, vi z9), (6, vi bo), (4, vi gr), (3, vi du), (2, vi pa), (1, vi ce), (0, .ref (B 0))] 443 [vi (vR_rounds S)]
              refine g_bipush C dL_isDueSo_443 (by decide) ?_
              refine g_icmp_ge C 452 dL_isDueSo_445 (by decide) (by omega) (by omega) (fun c445 => absurd c445 (by omega)) (fun c445 => ?_)
              refine g_iconst C dL_isDueSo_448 ?_
              refine g_goto C 453 dL_isDueSo_449 (by decide) ?_
              refine g_widen (k' := 700) (n' := 4200) (by omega) (by omega) ?_
              exact g_zret C hR dL_isDueSo_453 (by omega) ⟨trivial, X440, rfl, rfl, hI440⟩ rfl
            refine g_iload C 1 dL_isDueSo_254 rfl ?_
            refine g_aload_n C 7 dL_isDueSo_256 rfl ?_
            refine g_iload C 0 dL_isDueSo_257 rfl ?_
            refine g_iconst C dL_isDueSo_259 ?_
            refine g_callVX C hZ [vi z9, vi 0] [vi bo] (p_reinsurer x.1.2.1 hst9 g B S Xc z9 0 hXc (by omega) (by omega)) y_X9_reinsurer l_L_78 isP (hCP _ _ _ _) ndP 0 rfl rfl rfl (Nat.le_of_ble_eq_true rfl) rfl (by omega) dL_isDueSo_260 (fun v9 w9 hp9 => ?_) (fun E9 w9 hp9 => absurd (show vC_reinsurer z9 0 S from (by unfold vC_reinsurer; omega)) hp9.1)
            obtain ⟨hc260, X260, rfl, rfl, hI260⟩ := hp9
            rw [puP]
            show gW g x (wP g B S X260) (kc + 1) (nc + 6) [(7, vi z9), (6, vi bo), (5, vi 1), (4, vi gr), (3, vi du), (2, vi pa), (1, vi ce), (0, .ref (B 0))] 263 [vi (vR_reinsurer z9 0 S), vi bo]
            refine g_iadd C dL_isDueSo_263 ?_
            refine g_istore C [(6, vi (bo + (vR_reinsurer z9 0 S))), (7, vi z9), (5, vi 1), (4, vi gr), (3, vi du), (2, vi pa), (1, vi ce), (0, .ref (B 0))] dL_isDueSo_264 (by decide) rfl ?_
            refine g_iload C 2 dL_isDueSo_266 rfl ?_
            refine g_if_eq C 319 dL_isDueSo_268 (by decide) (by omega) (fun c268 => (by exfalso; omega)) (fun c268 => ?_)
            refine g_aload_n C 7 dL_isDueSo_271 rfl ?_
            refine g_iload C 1 dL_isDueSo_272 rfl ?_
            refine g_iconst C dL_isDueSo_274 ?_
            refine g_callVX C hZ [vi z9, vi 1] [] (p_reinsurer x.1.2.1 hst9 g B S X260 z9 1 hI260 (by omega) (by omega)) y_X9_reinsurer l_L_78 isP (hCP _ _ _ _) ndP 0 rfl rfl rfl (Nat.le_of_ble_eq_true rfl) rfl (by omega) dL_isDueSo_275 (fun v9 w9 hp9 => ?_) (fun E9 w9 hp9 => absurd (show vC_reinsurer z9 1 S from (by unfold vC_reinsurer; omega)) hp9.1)
            obtain ⟨hc275, X275, rfl, rfl, hI275⟩ := hp9
            rw [puP]
            show gW g x (wP g B S X275) (kc + 2) (nc + 12) [(6, vi (bo + (vR_reinsurer z9 0 S))), (7, vi z9), (5, vi 1), (4, vi gr), (3, vi du), (2, vi pa), (1, vi ce), (0, .ref (B 0))] 278 [vi (vR_reinsurer z9 1 S)]
            refine g_aload_n C 7 dL_isDueSo_278 rfl ?_
            refine g_iload C 1 dL_isDueSo_279 rfl ?_
            refine g_iconst C dL_isDueSo_281 ?_
            refine g_callVX C hZ [vi z9, vi 0] [vi (vR_reinsurer z9 1 S)] (p_reinsurer x.1.2.1 hst9 g B S X275 z9 0 hI275 (by omega) (by omega)) y_X9_reinsurer l_L_78 isP (hCP _ _ _ _) ndP 0 rfl rfl rfl (Nat.le_of_ble_eq_true rfl) rfl (by omega) dL_isDueSo_282 (fun v9 w9 hp9 => ?_) (fun E9 w9 hp9 => absurd (show vC_reinsurer z9 0 S from (by unfold vC_reinsurer; omega)) hp9.1)
            obtain ⟨hc282, X282, rfl, rfl, hI282⟩ := hp9
            rw [puP]
            show gW g x (wP g B S X282) (kc + 3) (nc + 18) [(6, vi (bo + (vR_reinsurer z9 0 S))), (7, vi z9), (5, vi 1), (4, vi gr), (3, vi du), (2, vi pa), (1, vi ce), (0, .ref (B 0))] 285 [vi (vR_reinsurer z9 0 S), vi (vR_reinsurer z9 1 S)]
            refine g_icmp_lt C 319 dL_isDueSo_285 (by decide) (by omega) (by omega) (fun c285 => absurd c285 (by omega)) (fun c285 => ?_)
            refine g_aload_n C 7 dL_isDueSo_288 rfl ?_
            refine g_iload C 1 dL_isDueSo_289 rfl ?_
            refine g_iconst C dL_isDueSo_291 ?_
            refine g_callVX C hZ [vi z9, vi 2] [] (p_reinsurer x.1.2.1 hst9 g B S X282 z9 2 hI282 (by omega) (by omega)) y_X9_reinsurer l_L_78 isP (hCP _ _ _ _) ndP 0 rfl rfl rfl (Nat.le_of_ble_eq_true rfl) rfl (by omega) dL_isDueSo_292 (fun v9 w9 hp9 => ?_) (fun E9 w9 hp9 => absurd (show vC_reinsurer z9 2 S from (by unfold vC_reinsurer; omega)) hp9.1)
            obtain ⟨hc292, X292, rfl, rfl, hI292⟩ := hp9
            rw [puP]
            show gW g x (wP g B S X292) (kc + 4) (nc + 24) [(6, vi (bo + (vR_reinsurer z9 0 S))), (7, vi z9), (5, vi 1), (4, vi gr), (3, vi du), (2, vi pa), (1, vi ce), (0, .ref (B 0))] 295 [vi (vR_reinsurer z9 2 S)]
            refine g_aload_n C 7 dL_isDueSo_295 rfl ?_
            refine g_iload C 1 dL_isDueSo_296 rfl ?_
            refine g_iconst C dL_isDueSo_298 ?_
            refine g_callVX C hZ [vi z9, vi 1] [vi (vR_reinsurer z9 2 S)] (p_reinsurer x.1.2.1 hst9 g B S X292 z9 1 hI292 (by omega) (by omega)) y_X9_reinsurer l_L_78 isP (hCP _ _ _ _) ndP 0 rfl rfl rfl (Nat.le_of_ble_eq_true rfl) rfl (by omega) dL_isDueSo_299 (fun v9 w9 hp9 => ?_) (fun E9 w9 hp9 => absurd (show vC_reinsurer z9 1 S from (by unfold vC_reinsurer; omega)) hp9.1)
            obtain ⟨hc299, X299, rfl, rfl, hI299⟩ := hp9
            rw [puP]
            show gW g x (wP g B S X299) (kc + 5) (nc + 30) [(6, vi (bo + (vR_reinsurer z9 0 S))), (7, vi z9), (5, vi 1), (4, vi gr), (3, vi du), (2, vi pa), (1, vi ce), (0, .ref (B 0))] 302 [vi (vR_reinsurer z9 1 S), vi (vR_reinsurer z9 2 S)]
            refine g_icmp_gt C 319 dL_isDueSo_302 (by decide) (by omega) (by omega) (fun c302 => absurd c302 (by omega)) (fun c302 => ?_)
            refine g_aload_n C 7 dL_isDueSo_305 rfl ?_
            refine g_iload C 1 dL_isDueSo_306 rfl ?_
            refine g_iconst C dL_isDueSo_308 ?_
            refine g_callVX C hZ [vi z9, vi 2] [] (p_reinsurer x.1.2.1 hst9 g B S X299 z9 2 hI299 (by omega) (by omega)) y_X9_reinsurer l_L_78 isP (hCP _ _ _ _) ndP 0 rfl rfl rfl (Nat.le_of_ble_eq_true rfl) rfl (by omega) dL_isDueSo_309 (fun v9 w9 hp9 => ?_) (fun E9 w9 hp9 => absurd (show vC_reinsurer z9 2 S from (by unfold vC_reinsurer; omega)) hp9.1)
            obtain ⟨hc309, X309, rfl, rfl, hI309⟩ := hp9
            rw [puP]
            show gW g x (wP g B S X309) (kc + 6) (nc + 36) [(6, vi (bo + (vR_reinsurer z9 0 S))), (7, vi z9), (5, vi 1), (4, vi gr), (3, vi du), (2, vi pa), (1, vi ce), (0, .ref (B 0))] 312 [vi (vR_reinsurer z9 2 S)]
            refine g_if_lt C 319 dL_isDueSo_312 (by decide) (by omega) (fun c312 => absurd c312 (by omega)) (fun c312 => ?_)
            refine g_iconst C dL_isDueSo_315 ?_
            refine g_goto C 320 dL_isDueSo_316 (by decide) ?_
            refine g_istore C [(5, vi 1), (6, vi (bo + (vR_reinsurer z9 0 S))), (7, vi z9), (4, vi gr), (3, vi du), (2, vi pa), (1, vi ce), (0, .ref (B 0))] dL_isDueSo_320 (by decide) rfl ?_
            refine g_iinc C 2 [(7, vi (z9 + 1)), (5, vi 1), (6, vi (bo + (vR_reinsurer z9 0 S))), (4, vi gr), (3, vi du), (2, vi pa), (1, vi ce), (0, .ref (B 0))] dL_isDueSo_322 rfl (by decide) rfl ?_
            refine g_goto C 247 dL_isDueSo_325 (by decide) ?_
            refine g_lv [(7, vi (z9 + 1)), (6, vi (bo + (vR_reinsurer z9 0 S))), (5, vi 1), (4, vi gr), (3, vi du), (2, vi pa), (1, vi ce), (0, .ref (B 0))] [0, 2, 1, 3, 4, 5, 6, 7] rfl ?_
            exact ih247 (z9 + 1) (bo + (vR_reinsurer z9 0 S)) X309 (kc + 6) (nc + 36) ⟨by omega, by omega, (by have h := sm_s (fun z => oB S z) hz0; rw [← hbo] at h; rw [reinsurer_0]; exact h.symm), hI309, by omega, by omega⟩ (by omega)
        exact L247 _ 0 0 Xa k9 n9 ⟨by omega, by omega, rfl, hXa, by omega, by omega⟩ (Nat.lt_succ_self _)
      refine g_iload C 1 dL_isDueSo_22 rfl ?_
      refine g_if_eq C 241 dL_isDueSo_24 (by decide) (by omega) (fun c24 => (by exfalso; omega)) (fun c24 => ?_)
      refine g_aload_n C 6 dL_isDueSo_27 rfl ?_
      refine g_iload C 0 dL_isDueSo_28 rfl ?_
      refine g_iconst C dL_isDueSo_30 ?_
      refine g_callSZ C hZ [.ref (B 0), vi i, vi 0] [] (q_occurrence x.1.2.1 hst9 g B S Xa i 0 hXa (by omega) (by omega)) y_L_occurrence l_L_146 isP (hCP _ _ _ _) ndP rfl (Nat.le_of_ble_eq_true rfl) rfl (by omega) dL_isDueSo_31 (fun v9 w9 hp9 => ?_)
      obtain ⟨hc31, X31, rfl, rfl, hI31⟩ := hp9
      rw [puP]
      show gW g x (wP g B S X31) (k9 + 1) (n9 + 6) [(6, vi i), (5, vi 1), (4, vi gr), (3, vi du), (2, vi pa), (1, vi ce), (0, .ref (B 0))] 34 [vi (aR_occurrence i 0 S)]
      refine g_val (w := if i < (S 35 0) then oG S i else -2000000000) (occ_at hI hi0) ?_
      refine g_if_lt C 235 dL_isDueSo_34 (by decide) (by omega) (fun c34 => ?_) (fun c34 => ?_)
      · refine g_iinc C 0 [(6, vi (i + 1)), (5, vi 1), (4, vi gr), (3, vi du), (2, vi pa), (1, vi ce), (0, .ref (B 0))] dL_isDueSo_235 rfl (by decide) rfl ?_
        refine g_goto C 15 dL_isDueSo_238 (by decide) ?_
        exact ih15 (i + 1) ce pa du gr X31 (k9 + 1) (n9 + 6) (by first | exact ⟨by omega, by omega, (by have h := sm_mn (fun o => oQ S o) hi0 hlt; rw [← hce] at h; rw [occurrence_1]; exact h.symm), (by have h := sm_mn (fun o => oD S o) hi0 hlt; rw [← hpa] at h; rw [occurrence_3]; exact h.symm), (by have h := sm_mn (fun o => oE S o) hi0 hlt; rw [← hdu] at h; rw [occurrence_4]; exact h.symm), (by have h := sm_mn (fun o => oG S o) hi0 hlt; rw [← hgr] at h; rw [occurrence_0]; exact h.symm), hXb, by omega, by omega⟩ | exact ⟨by omega, by omega, (by rw [sm_mg (fun o => oQ S o) (by omega)]; exact hce), (by rw [sm_mg (fun o => oD S o) (by omega)]; exact hpa), (by rw [sm_mg (fun o => oE S o) (by omega)]; exact hdu), (by rw [sm_mg (fun o => oG S o) (by omega)]; exact hgr), hI31, by omega, by omega⟩) (by omega)
      have hlt : i < (S 35 0) := by omega
      have hp := oP_r hI hi0 hlt
      refine g_iload C 2 dL_isDueSo_37 rfl ?_
      refine g_aload_n C 6 dL_isDueSo_39 rfl ?_
      refine g_iload C 0 dL_isDueSo_40 rfl ?_
      refine g_iconst C dL_isDueSo_42 ?_
      refine g_callVX C hZ [vi i, vi 0] [vi gr] (p_occurrence x.1.2.1 hst9 g B S X31 i 0 hI31 (by omega) (by omega)) y_X9_occurrence l_L_69 isP (hCP _ _ _ _) ndP 0 rfl rfl rfl (Nat.le_of_ble_eq_true rfl) rfl (by omega) dL_isDueSo_43 (fun v9 w9 hp9 => ?_) (fun E9 w9 hp9 => absurd (show vC_occurrence i 0 S from (by unfold vC_occurrence; omega)) hp9.1)
      obtain ⟨hc43, X43, rfl, rfl, hI43⟩ := hp9
      rw [puP]
      show gW g x (wP g B S X43) (k9 + 2) (n9 + 12) [(6, vi i), (5, vi 1), (4, vi gr), (3, vi du), (2, vi pa), (1, vi ce), (0, .ref (B 0))] 46 [vi (vR_occurrence i 0 S), vi gr]
      refine g_iadd C dL_isDueSo_46 ?_
      refine g_istore C [(4, vi (gr + (vR_occurrence i 0 S))), (6, vi i), (5, vi 1), (3, vi du), (2, vi pa), (1, vi ce), (0, .ref (B 0))] dL_isDueSo_47 (by decide) rfl ?_
      refine g_iload_n C 5 dL_isDueSo_49 rfl ?_
      refine g_aload_n C 6 dL_isDueSo_50 rfl ?_
      refine g_iload C 1 dL_isDueSo_51 rfl ?_
      refine g_iconst C dL_isDueSo_53 ?_
      refine g_callVX C hZ [vi i, vi 1] [vi ce] (p_occurrence x.1.2.1 hst9 g B S X43 i 1 hI43 (by omega) (by omega)) y_X9_occurrence l_L_69 isP (hCP _ _ _ _) ndP 0 rfl rfl rfl (Nat.le_of_ble_eq_true rfl) rfl (by omega) dL_isDueSo_54 (fun v9 w9 hp9 => ?_) (fun E9 w9 hp9 => absurd (show vC_occurrence i 1 S from (by unfold vC_occurrence; omega)) hp9.1)
      obtain ⟨hc54, X54, rfl, rfl, hI54⟩ := hp9
      rw [puP]
      show gW g x (wP g B S X54) (k9 + 3) (n9 + 18) [(4, vi (gr + (vR_occurrence i 0 S))), (6, vi i), (5, vi 1), (3, vi du), (2, vi pa), (1, vi ce), (0, .ref (B 0))] 57 [vi (vR_occurrence i 1 S), vi ce]
      refine g_iadd C dL_isDueSo_57 ?_
      refine g_istore_n C [(1, vi (ce + (vR_occurrence i 1 S))), (4, vi (gr + (vR_occurrence i 0 S))), (6, vi i), (5, vi 1), (3, vi du), (2, vi pa), (0, .ref (B 0))] dL_isDueSo_58 (by decide) rfl ?_
      refine g_iload_n C 5 dL_isDueSo_59 rfl ?_
      refine g_aload_n C 6 dL_isDueSo_60 rfl ?_
      refine g_iload C 2 dL_isDueSo_61 rfl ?_
      refine g_iconst C dL_isDueSo_63 ?_
      refine g_callVX C hZ [vi i, vi 3] [vi pa] (p_occurrence x.1.2.1 hst9 g B S X54 i 3 hI54 (by omega) (by omega)) y_X9_occurrence l_L_69 isP (hCP _ _ _ _) ndP 0 rfl rfl rfl (Nat.le_of_ble_eq_true rfl) rfl (by omega) dL_isDueSo_64 (fun v9 w9 hp9 => ?_) (fun E9 w9 hp9 => absurd (show vC_occurrence i 3 S from (by unfold vC_occurrence; omega)) hp9.1)
      obtain ⟨hc64, X64, rfl, rfl, hI64⟩ := hp9
      rw [puP]
      show gW g x (wP g B S X64) (k9 + 4) (n9 + 24) [(1, vi (ce + (vR_occurrence i 1 S))), (4, vi (gr + (vR_occurrence i 0 S))), (6, vi i), (5, vi 1), (3, vi du), (2, vi pa), (0, .ref (B 0))] 67 [vi (vR_occurrence i 3 S), vi pa]
      refine g_iadd C dL_isDueSo_67 ?_
      refine g_istore_n C [(2, vi (pa + (vR_occurrence i 3 S))), (1, vi (ce + (vR_occurrence i 1 S))), (4, vi (gr + (vR_occurrence i 0 S))), (6, vi i), (5, vi 1), (3, vi du), (0, .ref (B 0))] dL_isDueSo_68 (by decide) rfl ?_
      refine g_iload_n C 5 dL_isDueSo_69 rfl ?_
      refine g_aload_n C 6 dL_isDueSo_70 rfl ?_
      refine g_iload C 3 dL_isDueSo_71 rfl ?_
      refine g_iconst C dL_isDueSo_73 ?_
      refine g_callVX C hZ [vi i, vi 4] [vi du] (p_occurrence x.1.2.1 hst9 g B S X64 i 4 hI64 (by omega) (by omega)) y_X9_occurrence l_L_69 isP (hCP _ _ _ _) ndP 0 rfl rfl rfl (Nat.le_of_ble_eq_true rfl) rfl (by omega) dL_isDueSo_74 (fun v9 w9 hp9 => ?_) (fun E9 w9 hp9 => absurd (show vC_occurrence i 4 S from (by unfold vC_occurrence; omega)) hp9.1)
      obtain ⟨hc74, X74, rfl, rfl, hI74⟩ := hp9
      rw [puP]
      show gW g x (wP g B S X74) (k9 + 5) (n9 + 30) [(2, vi (pa + (vR_occurrence i 3 S))), (1, vi (ce + (vR_occurrence i 1 S))), (4, vi (gr + (vR_occurrence i 0 S))), (6, vi i), (5, vi 1), (3, vi du), (0, .ref (B 0))] 77 [vi (vR_occurrence i 4 S), vi du]
      refine g_iadd C dL_isDueSo_77 ?_
      refine g_istore_n C [(3, vi (du + (vR_occurrence i 4 S))), (2, vi (pa + (vR_occurrence i 3 S))), (1, vi (ce + (vR_occurrence i 1 S))), (4, vi (gr + (vR_occurrence i 0 S))), (6, vi i), (5, vi 1), (0, .ref (B 0))] dL_isDueSo_78 (by decide) rfl ?_
      refine g_aload_n C 6 dL_isDueSo_79 rfl ?_
      refine g_iload C 4 dL_isDueSo_80 rfl ?_
      refine g_iconst C dL_isDueSo_82 ?_
      refine g_callVX C hZ [vi i, vi 0] [] (p_occurrence x.1.2.1 hst9 g B S X74 i 0 hI74 (by omega) (by omega)) y_X9_occurrence l_L_69 isP (hCP _ _ _ _) ndP 0 rfl rfl rfl (Nat.le_of_ble_eq_true rfl) rfl (by omega) dL_isDueSo_83 (fun v9 w9 hp9 => ?_) (fun E9 w9 hp9 => absurd (show vC_occurrence i 0 S from (by unfold vC_occurrence; omega)) hp9.1)
      obtain ⟨hc83, X83, rfl, rfl, hI83⟩ := hp9
      rw [puP]
      show gW g x (wP g B S X83) (k9 + 6) (n9 + 36) [(3, vi (du + (vR_occurrence i 4 S))), (2, vi (pa + (vR_occurrence i 3 S))), (1, vi (ce + (vR_occurrence i 1 S))), (4, vi (gr + (vR_occurrence i 0 S))), (6, vi i), (5, vi 1), (0, .ref (B 0))] 86 [vi (vR_occurrence i 0 S)]
      refine g_aload_n C 6 dL_isDueSo_86 rfl ?_
      refine g_iload C 4 dL_isDueSo_87 rfl ?_
      refine g_iconst C dL_isDueSo_89 ?_
      refine g_callVX C hZ [vi i, vi 1] [vi (vR_occurrence i 0 S)] (p_occurrence x.1.2.1 hst9 g B S X83 i 1 hI83 (by omega) (by omega)) y_X9_occurrence l_L_69 isP (hCP _ _ _ _) ndP 0 rfl rfl rfl (Nat.le_of_ble_eq_true rfl) rfl (by omega) dL_isDueSo_90 (fun v9 w9 hp9 => ?_) (fun E9 w9 hp9 => absurd (show vC_occurrence i 1 S from (by unfold vC_occurrence; omega)) hp9.1)
      obtain ⟨hc90, X90, rfl, rfl, hI90⟩ := hp9
      rw [puP]
      show gW g x (wP g B S X90) (k9 + 7) (n9 + 42) [(3, vi (du + (vR_occurrence i 4 S))), (2, vi (pa + (vR_occurrence i 3 S))), (1, vi (ce + (vR_occurrence i 1 S))), (4, vi (gr + (vR_occurrence i 0 S))), (6, vi i), (5, vi 1), (0, .ref (B 0))] 93 [vi (vR_occurrence i 1 S), vi (vR_occurrence i 0 S)]
      refine g_aload_n C 6 dL_isDueSo_93 rfl ?_
      refine g_iload C 4 dL_isDueSo_94 rfl ?_
      refine g_iconst C dL_isDueSo_96 ?_
      refine g_callVX C hZ [vi i, vi 2] [vi (vR_occurrence i 1 S), vi (vR_occurrence i 0 S)] (p_occurrence x.1.2.1 hst9 g B S X90 i 2 hI90 (by omega) (by omega)) y_X9_occurrence l_L_69 isP (hCP _ _ _ _) ndP 0 rfl rfl rfl (Nat.le_of_ble_eq_true rfl) rfl (by omega) dL_isDueSo_97 (fun v9 w9 hp9 => ?_) (fun E9 w9 hp9 => absurd (show vC_occurrence i 2 S from (by unfold vC_occurrence; omega)) hp9.1)
      obtain ⟨hc97, X97, rfl, rfl, hI97⟩ := hp9
      rw [puP]
      show gW g x (wP g B S X97) (k9 + 8) (n9 + 48) [(3, vi (du + (vR_occurrence i 4 S))), (2, vi (pa + (vR_occurrence i 3 S))), (1, vi (ce + (vR_occurrence i 1 S))), (4, vi (gr + (vR_occurrence i 0 S))), (6, vi i), (5, vi 1), (0, .ref (B 0))] 100 [vi (vR_occurrence i 2 S), vi (vR_occurrence i 1 S), vi (vR_occurrence i 0 S)]
      refine g_iadd C dL_isDueSo_100 ?_
      refine g_val (w := vR_occurrence i 0 S) (by rw [occurrence_0, occurrence_1, occurrence_2]; omega) ?_
      refine g_icmpSn C 120 dL_isDueSo_101 (by decide) ?_
      refine g_aload_n C 6 dL_isDueSo_104 rfl ?_
      refine g_iload C 4 dL_isDueSo_105 rfl ?_
      refine g_iconst C dL_isDueSo_107 ?_
      refine g_callVX C hZ [vi i, vi 5] [] (p_occurrence x.1.2.1 hst9 g B S X97 i 5 hI97 (by omega) (by omega)) y_X9_occurrence l_L_69 isP (hCP _ _ _ _) ndP 0 rfl rfl rfl (Nat.le_of_ble_eq_true rfl) rfl (by omega) dL_isDueSo_108 (fun v9 w9 hp9 => ?_) (fun E9 w9 hp9 => absurd (show vC_occurrence i 5 S from (by unfold vC_occurrence; omega)) hp9.1)
      obtain ⟨hc108, X108, rfl, rfl, hI108⟩ := hp9
      rw [puP]
      show gW g x (wP g B S X108) (k9 + 9) (n9 + 54) [(3, vi (du + (vR_occurrence i 4 S))), (2, vi (pa + (vR_occurrence i 3 S))), (1, vi (ce + (vR_occurrence i 1 S))), (4, vi (gr + (vR_occurrence i 0 S))), (6, vi i), (5, vi 1), (0, .ref (B 0))] 111 [vi (vR_occurrence i 5 S)]
      refine g_val (w := oP S i) (occurrence_5 i S) ?_
      refine g_bipush C dL_isDueSo_111 (by decide) ?_
      refine g_icmp_ge C 120 dL_isDueSo_113 (by decide) (by omega) (by omega) (fun c113 => absurd c113 (by omega)) (fun c113 => ?_)
      refine g_iconst C dL_isDueSo_116 ?_
      refine g_goto C 121 dL_isDueSo_117 (by decide) ?_
      refine g_istore C [(5, vi 1), (3, vi (du + (vR_occurrence i 4 S))), (2, vi (pa + (vR_occurrence i 3 S))), (1, vi (ce + (vR_occurrence i 1 S))), (4, vi (gr + (vR_occurrence i 0 S))), (6, vi i), (0, .ref (B 0))] dL_isDueSo_121 (by decide) rfl ?_
      refine g_iconst C dL_isDueSo_123 ?_
      refine g_istore C [(7, vi 0), (5, vi 1), (3, vi (du + (vR_occurrence i 4 S))), (2, vi (pa + (vR_occurrence i 3 S))), (1, vi (ce + (vR_occurrence i 1 S))), (4, vi (gr + (vR_occurrence i 0 S))), (6, vi i), (0, .ref (B 0))] dL_isDueSo_124 (by decide) rfl ?_
      have L126 : ∀ (f : Nat) (l9 : Int) (Xb : Nat → Int → Int) (ka : Nat) (na : Nat), (0 ≤ l9 ∧ l9 ≤ 5 ∧ iv9 S Xb ∧ (ka : Int) ≤ 60 * i + 11 + 9 * l9 ∧ (na : Int) ≤ 360 * i + 66 + 54 * l9) → (5 - l9).toNat < f → gW g x (wP g B S Xb) ka na [(7, vi l9), (5, vi 1), (3, vi (du + (vR_occurrence i 4 S))), (2, vi (pa + (vR_occurrence i 3 S))), (1, vi (ce + (vR_occurrence i 1 S))), (4, vi (gr + (vR_occurrence i 0 S))), (6, vi i), (0, .ref (B 0))] 126 [] := by
        intro f
        induction f with
        | zero => intro l9 Xb ka na hI126 hf; exact absurd hf (Nat.not_lt_zero _)
        | succ f ih126 =>
          intro l9 Xb ka na hI126 hf126
          obtain ⟨hl0, hl1, hXb, hka, hna⟩ := hI126
          have hh := hit_r hI l9 hi0 hlt
          refine g_iload C 0 dL_isDueSo_126 rfl ?_
          refine g_iconst C dL_isDueSo_128 ?_
          refine g_icmp_ge C 235 dL_isDueSo_129 (by decide) (by omega) (by omega) (fun c129 => ?_) (fun c129 => ?_)
          · refine g_iinc C 6 [(6, vi (i + 1)), (7, vi l9), (5, vi 1), (3, vi (du + (vR_occurrence i 4 S))), (2, vi (pa + (vR_occurrence i 3 S))), (1, vi (ce + (vR_occurrence i 1 S))), (4, vi (gr + (vR_occurrence i 0 S))), (0, .ref (B 0))] dL_isDueSo_235 rfl (by decide) rfl ?_
            refine g_goto C 15 dL_isDueSo_238 (by decide) ?_
            refine g_lv [(6, vi (i + 1)), (5, vi 1), (4, vi (gr + (vR_occurrence i 0 S))), (3, vi (du + (vR_occurrence i 4 S))), (2, vi (pa + (vR_occurrence i 3 S))), (1, vi (ce + (vR_occurrence i 1 S))), (0, .ref (B 0))] [0, 2, 6, 3, 4, 5, 7] rfl ?_
            exact ih15 (i + 1) (ce + (vR_occurrence i 1 S)) (pa + (vR_occurrence i 3 S)) (du + (vR_occurrence i 4 S)) (gr + (vR_occurrence i 0 S)) Xb ka na (by first | exact ⟨by omega, by omega, (by have h := sm_mn (fun o => oQ S o) hi0 hlt; rw [← hce] at h; rw [occurrence_1]; exact h.symm), (by have h := sm_mn (fun o => oD S o) hi0 hlt; rw [← hpa] at h; rw [occurrence_3]; exact h.symm), (by have h := sm_mn (fun o => oE S o) hi0 hlt; rw [← hdu] at h; rw [occurrence_4]; exact h.symm), (by have h := sm_mn (fun o => oG S o) hi0 hlt; rw [← hgr] at h; rw [occurrence_0]; exact h.symm), hXb, by omega, by omega⟩ | exact ⟨by omega, by omega, (by rw [sm_mg (fun o => oQ S o) (by omega)]; exact hce), (by rw [sm_mg (fun o => oD S o) (by omega)]; exact hpa), (by rw [sm_mg (fun o => oE S o) (by omega)]; exact hdu), (by rw [sm_mg (fun o => oG S o) (by omega)]; exact hgr), hI31, by omega, by omega⟩) (by omega)
          refine g_iload C 1 dL_isDueSo_132 rfl ?_
          refine g_if_eq C 235 dL_isDueSo_134 (by decide) (by omega) (fun c134 => (by exfalso; omega)) (fun c134 => ?_)
          refine g_aload_n C 7 dL_isDueSo_137 rfl ?_
          refine g_iload C 0 dL_isDueSo_138 rfl ?_
          refine g_iload C 6 dL_isDueSo_140 rfl ?_
          refine g_iconst C dL_isDueSo_142 ?_
          refine g_callSZ C hZ [.ref (B 0), vi l9, vi i, vi 0] [] (q_hit x.1.2.1 hst9 g B S Xb l9 i 0 hXb (by omega) (by omega) (by omega)) y_L_hit l_L_148 isP (hCP _ _ _ _) ndP rfl (Nat.le_of_ble_eq_true rfl) rfl (by omega) dL_isDueSo_143 (fun v9 w9 hp9 => ?_)
          obtain ⟨hc143, X143, rfl, rfl, hI143⟩ := hp9
          rw [puP]
          show gW g x (wP g B S X143) (ka + 1) (na + 6) [(7, vi l9), (5, vi 1), (3, vi (du + (vR_occurrence i 4 S))), (2, vi (pa + (vR_occurrence i 3 S))), (1, vi (ce + (vR_occurrence i 1 S))), (4, vi (gr + (vR_occurrence i 0 S))), (6, vi i), (0, .ref (B 0))] 146 [vi (aR_hit l9 i 0 S)]
          refine g_val (w := if l9 < (S 36 0) then hH S l9 i else -2000000000) (hit_at hI hl0 hi0 hlt) ?_
          refine g_if_lt C 222 dL_isDueSo_146 (by decide) (by omega) (fun c146 => ?_) (fun c146 => ?_)
          · refine g_iconst C dL_isDueSo_222 ?_
            refine g_goto C 227 dL_isDueSo_223 (by decide) ?_
            refine g_istore C [(5, vi 1), (7, vi l9), (3, vi (du + (vR_occurrence i 4 S))), (2, vi (pa + (vR_occurrence i 3 S))), (1, vi (ce + (vR_occurrence i 1 S))), (4, vi (gr + (vR_occurrence i 0 S))), (6, vi i), (0, .ref (B 0))] dL_isDueSo_227 (by decide) rfl ?_
            refine g_iinc C 1 [(7, vi (l9 + 1)), (5, vi 1), (3, vi (du + (vR_occurrence i 4 S))), (2, vi (pa + (vR_occurrence i 3 S))), (1, vi (ce + (vR_occurrence i 1 S))), (4, vi (gr + (vR_occurrence i 0 S))), (6, vi i), (0, .ref (B 0))] dL_isDueSo_229 rfl (by decide) rfl ?_
            refine g_goto C 126 dL_isDueSo_232 (by decide) ?_
            exact ih126 (l9 + 1) X143 (ka + 1) (na + 6) (by first | exact ⟨by omega, by omega, hI143, by omega, by omega⟩ | exact ⟨by omega, by omega, hI216, by omega, by omega⟩) (by omega)
          have hly : l9 < (S 36 0) := by omega
          refine g_aload_n C 7 dL_isDueSo_149 rfl ?_
          refine g_iload C 0 dL_isDueSo_150 rfl ?_
          refine g_iload C 6 dL_isDueSo_152 rfl ?_
          refine g_iconst C dL_isDueSo_154 ?_
          refine g_callVX C hZ [vi l9, vi i, vi 4] [] (p_hit x.1.2.1 hst9 g B S X143 l9 i 4 hI143 (by omega) (by omega) (by omega)) y_X9_hit l_L_72 isP (hCP _ _ _ _) ndP 0 rfl rfl rfl (Nat.le_of_ble_eq_true rfl) rfl (by omega) dL_isDueSo_155 (fun v9 w9 hp9 => ?_) (fun E9 w9 hp9 => absurd (show vC_hit l9 i 4 S from (by unfold vC_hit; omega)) hp9.1)
          obtain ⟨hc155, X155, rfl, rfl, hI155⟩ := hp9
          rw [puP]
          show gW g x (wP g B S X155) (ka + 2) (na + 12) [(7, vi l9), (5, vi 1), (3, vi (du + (vR_occurrence i 4 S))), (2, vi (pa + (vR_occurrence i 3 S))), (1, vi (ce + (vR_occurrence i 1 S))), (4, vi (gr + (vR_occurrence i 0 S))), (6, vi i), (0, .ref (B 0))] 158 [vi (vR_hit l9 i 4 S)]
          refine g_val (w := hL_ S l9 i) (hit_4 l9 i S) ?_
          refine g_if_lt C 226 dL_isDueSo_158 (by decide) (by omega) (fun c158 => absurd c158 (by omega)) (fun c158 => ?_)
          refine g_aload_n C 7 dL_isDueSo_161 rfl ?_
          refine g_iload C 0 dL_isDueSo_162 rfl ?_
          refine g_iload C 6 dL_isDueSo_164 rfl ?_
          refine g_iconst C dL_isDueSo_166 ?_
          refine g_callVX C hZ [vi l9, vi i, vi 2] [] (p_hit x.1.2.1 hst9 g B S X155 l9 i 2 hI155 (by omega) (by omega) (by omega)) y_X9_hit l_L_72 isP (hCP _ _ _ _) ndP 0 rfl rfl rfl (Nat.le_of_ble_eq_true rfl) rfl (by omega) dL_isDueSo_167 (fun v9 w9 hp9 => ?_) (fun E9 w9 hp9 => absurd (show vC_hit l9 i 2 S from (by unfold vC_hit; omega)) hp9.1)
          obtain ⟨hc167, X167, rfl, rfl, hI167⟩ := hp9
          rw [puP]
          show gW g x (wP g B S X167) (ka + 3) (na + 18) [(7, vi l9), (5, vi 1), (3, vi (du + (vR_occurrence i 4 S))), (2, vi (pa + (vR_occurrence i 3 S))), (1, vi (ce + (vR_occurrence i 1 S))), (4, vi (gr + (vR_occurrence i 0 S))), (6, vi i), (0, .ref (B 0))] 170 [vi (vR_hit l9 i 2 S)]
          refine g_val (w := hR_ S l9 i) (hit_2 l9 i S) ?_
          refine g_aload_n C 7 dL_isDueSo_170 rfl ?_
          refine g_iload C 0 dL_isDueSo_171 rfl ?_
          refine g_iload C 6 dL_isDueSo_173 rfl ?_
          refine g_iconst C dL_isDueSo_175 ?_
          refine g_callVX C hZ [vi l9, vi i, vi 0] [vi (hR_ S l9 i)] (p_hit x.1.2.1 hst9 g B S X167 l9 i 0 hI167 (by omega) (by omega) (by omega)) y_X9_hit l_L_72 isP (hCP _ _ _ _) ndP 0 rfl rfl rfl (Nat.le_of_ble_eq_true rfl) rfl (by omega) dL_isDueSo_176 (fun v9 w9 hp9 => ?_) (fun E9 w9 hp9 => absurd (show vC_hit l9 i 0 S from (by unfold vC_hit; omega)) hp9.1)
          obtain ⟨hc176, X176, rfl, rfl, hI176⟩ := hp9
          rw [puP]
          show gW g x (wP g B S X176) (ka + 4) (na + 24) [(7, vi l9), (5, vi 1), (3, vi (du + (vR_occurrence i 4 S))), (2, vi (pa + (vR_occurrence i 3 S))), (1, vi (ce + (vR_occurrence i 1 S))), (4, vi (gr + (vR_occurrence i 0 S))), (6, vi i), (0, .ref (B 0))] 179 [vi (vR_hit l9 i 0 S), vi (hR_ S l9 i)]
          refine g_val (w := hH S l9 i) (hit_0 l9 i S) ?_
          refine g_icmp_gt C 226 dL_isDueSo_179 (by decide) (by omega) (by omega) (fun c179 => absurd c179 (by omega)) (fun c179 => ?_)
          refine g_aload_n C 7 dL_isDueSo_182 rfl ?_
          refine g_iload C 0 dL_isDueSo_183 rfl ?_
          refine g_iload C 6 dL_isDueSo_185 rfl ?_
          refine g_iconst C dL_isDueSo_187 ?_
          refine g_callVX C hZ [vi l9, vi i, vi 1] [] (p_hit x.1.2.1 hst9 g B S X176 l9 i 1 hI176 (by omega) (by omega) (by omega)) y_X9_hit l_L_72 isP (hCP _ _ _ _) ndP 0 rfl rfl rfl (Nat.le_of_ble_eq_true rfl) rfl (by omega) dL_isDueSo_188 (fun v9 w9 hp9 => ?_) (fun E9 w9 hp9 => absurd (show vC_hit l9 i 1 S from (by unfold vC_hit; omega)) hp9.1)
          obtain ⟨hc188, X188, rfl, rfl, hI188⟩ := hp9
          rw [puP]
          show gW g x (wP g B S X188) (ka + 5) (na + 30) [(7, vi l9), (5, vi 1), (3, vi (du + (vR_occurrence i 4 S))), (2, vi (pa + (vR_occurrence i 3 S))), (1, vi (ce + (vR_occurrence i 1 S))), (4, vi (gr + (vR_occurrence i 0 S))), (6, vi i), (0, .ref (B 0))] 191 [vi (vR_hit l9 i 1 S)]
          refine g_val (w := hP S l9 i) (hit_1 l9 i S) ?_
          refine g_aload_n C 7 dL_isDueSo_191 rfl ?_
          refine g_iload C 0 dL_isDueSo_192 rfl ?_
          refine g_iload C 6 dL_isDueSo_194 rfl ?_
          refine g_iconst C dL_isDueSo_196 ?_
          refine g_callVX C hZ [vi l9, vi i, vi 0] [vi (hP S l9 i)] (p_hit x.1.2.1 hst9 g B S X188 l9 i 0 hI188 (by omega) (by omega) (by omega)) y_X9_hit l_L_72 isP (hCP _ _ _ _) ndP 0 rfl rfl rfl (Nat.le_of_ble_eq_true rfl) rfl (by omega) dL_isDueSo_197 (fun v9 w9 hp9 => ?_) (fun E9 w9 hp9 => absurd (show vC_hit l9 i 0 S from (by unfold vC_hit; omega)) hp9.1)
          obtain ⟨hc197, X197, rfl, rfl, hI197⟩ := hp9
          rw [puP]
          show gW g x (wP g B S X197) (ka + 6) (na + 36) [(7, vi l9), (5, vi 1), (3, vi (du + (vR_occurrence i 4 S))), (2, vi (pa + (vR_occurrence i 3 S))), (1, vi (ce + (vR_occurrence i 1 S))), (4, vi (gr + (vR_occurrence i 0 S))), (6, vi i), (0, .ref (B 0))] 200 [vi (vR_hit l9 i 0 S), vi (hP S l9 i)]
          refine g_val (w := hH S l9 i) (hit_0 l9 i S) ?_
          refine g_icmp_gt C 226 dL_isDueSo_200 (by decide) (by omega) (by omega) (fun c200 => absurd c200 (by omega)) (fun c200 => ?_)
          refine g_aload_n C 7 dL_isDueSo_203 rfl ?_
          refine g_iload C 0 dL_isDueSo_204 rfl ?_
          refine g_iload C 6 dL_isDueSo_206 rfl ?_
          refine g_iconst C dL_isDueSo_208 ?_
          refine g_callVX C hZ [vi l9, vi i, vi 0] [] (p_hit x.1.2.1 hst9 g B S X197 l9 i 0 hI197 (by omega) (by omega) (by omega)) y_X9_hit l_L_72 isP (hCP _ _ _ _) ndP 0 rfl rfl rfl (Nat.le_of_ble_eq_true rfl) rfl (by omega) dL_isDueSo_209 (fun v9 w9 hp9 => ?_) (fun E9 w9 hp9 => absurd (show vC_hit l9 i 0 S from (by unfold vC_hit; omega)) hp9.1)
          obtain ⟨hc209, X209, rfl, rfl, hI209⟩ := hp9
          rw [puP]
          show gW g x (wP g B S X209) (ka + 7) (na + 42) [(7, vi l9), (5, vi 1), (3, vi (du + (vR_occurrence i 4 S))), (2, vi (pa + (vR_occurrence i 3 S))), (1, vi (ce + (vR_occurrence i 1 S))), (4, vi (gr + (vR_occurrence i 0 S))), (6, vi i), (0, .ref (B 0))] 212 [vi (vR_hit l9 i 0 S)]
          refine g_val (w := hH S l9 i) (hit_0 l9 i S) ?_
          refine g_aload_n C 7 dL_isDueSo_212 rfl ?_
          refine g_iload C 6 dL_isDueSo_213 rfl ?_
          refine g_iconst C dL_isDueSo_215 ?_
          refine g_callVX C hZ [vi i, vi 2] [vi (hH S l9 i)] (p_occurrence x.1.2.1 hst9 g B S X209 i 2 hI209 (by omega) (by omega)) y_X9_occurrence l_L_69 isP (hCP _ _ _ _) ndP 0 rfl rfl rfl (Nat.le_of_ble_eq_true rfl) rfl (by omega) dL_isDueSo_216 (fun v9 w9 hp9 => ?_) (fun E9 w9 hp9 => absurd (show vC_occurrence i 2 S from (by unfold vC_occurrence; omega)) hp9.1)
          obtain ⟨hc216, X216, rfl, rfl, hI216⟩ := hp9
          rw [puP]
          show gW g x (wP g B S X216) (ka + 8) (na + 48) [(7, vi l9), (5, vi 1), (3, vi (du + (vR_occurrence i 4 S))), (2, vi (pa + (vR_occurrence i 3 S))), (1, vi (ce + (vR_occurrence i 1 S))), (4, vi (gr + (vR_occurrence i 0 S))), (6, vi i), (0, .ref (B 0))] 219 [vi (vR_occurrence i 2 S), vi (hH S l9 i)]
          refine g_val (w := oG S i - oQ S i) (occurrence_2 i S) ?_
          refine g_icmp_gt C 226 dL_isDueSo_219 (by decide) (by omega) (by omega) (fun c219 => absurd c219 (by omega)) (fun c219 => ?_)
          refine g_iconst C dL_isDueSo_222 ?_
          refine g_goto C 227 dL_isDueSo_223 (by decide) ?_
          refine g_istore C [(5, vi 1), (7, vi l9), (3, vi (du + (vR_occurrence i 4 S))), (2, vi (pa + (vR_occurrence i 3 S))), (1, vi (ce + (vR_occurrence i 1 S))), (4, vi (gr + (vR_occurrence i 0 S))), (6, vi i), (0, .ref (B 0))] dL_isDueSo_227 (by decide) rfl ?_
          refine g_iinc C 1 [(7, vi (l9 + 1)), (5, vi 1), (3, vi (du + (vR_occurrence i 4 S))), (2, vi (pa + (vR_occurrence i 3 S))), (1, vi (ce + (vR_occurrence i 1 S))), (4, vi (gr + (vR_occurrence i 0 S))), (6, vi i), (0, .ref (B 0))] dL_isDueSo_229 rfl (by decide) rfl ?_
          refine g_goto C 126 dL_isDueSo_232 (by decide) ?_
          exact ih126 (l9 + 1) X216 (ka + 8) (na + 48) (by first | exact ⟨by omega, by omega, hI143, by omega, by omega⟩ | exact ⟨by omega, by omega, hI216, by omega, by omega⟩) (by omega)
      exact L126 _ 0 X108 (k9 + 9) (n9 + 54) ⟨by omega, by omega, hI108, by omega, by omega⟩ (Nat.lt_succ_self _)
  exact L15 _ 0 0 0 0 0 X 0 0 ⟨by omega, by omega, by rw [mn_0 hnO.1]; rfl, by rw [mn_0 hnO.1]; rfl, by rw [mn_0 hnO.1]; rfl, by rw [mn_0 hnO.1]; rfl, hI, by omega, by omega⟩ (Nat.lt_succ_self _)

