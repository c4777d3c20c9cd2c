set_option maxHeartbeats 4000000 in
set_option maxRecDepth 100000 in
theorem c_X10_best (l : Launch) (g : gD) (ko : Nat) (A : Nat → Nat) (th : Int) (hr : Int) (nL : Int) (nO : Int) (Q : Int) (nY : Int) (nE : Int) (nR : Int) (nB : Int) (LP : Int → Int) (LH : Int → Int) (LU : Int → Int) (FL : Int → Int) (DP : Int → Int) (SH : Int → Int) (ZO : Int → Int) (ZM : Int → Int) (p : Int) (hLP : ∀ k, 0 ≤ LP k ∧ LP k ≤ 2) (hLH : ∀ k, 0 ≤ LH k ∧ LH k ≤ 2199) (hLU : ∀ k, 0 ≤ LU k ∧ LU k ≤ 99999) (hnL : 0 ≤ nL ∧ nL ≤ 40) (hFL : ∀ k, 0 ≤ FL k ∧ FL k ≤ 999999) (hDP : ∀ k, 0 ≤ DP k ∧ DP k ≤ 999999) (hSH : ∀ k, 0 ≤ SH k ∧ SH k ≤ 100) (hnY : 0 ≤ nY ∧ nY ≤ 5) (hQ : 0 ≤ Q ∧ Q ≤ 90) (hp : -2147483648 ≤ p ∧ p < 2147483648) : gMet l g yX10_best cX10_best 2 (some .int) 3 0 0 76 [.ref ko, vi p] [(ko, cO 10 (kF th hr nL nO Q nY nE nR nB A)), (A 3, cA g 40 LP), (A 4, cA g 40 LH), (A 5, cA g 40 LU), (A 12, cA g 5 FL), (A 13, cA g 5 DP), (A 14, cA g 5 SH), (A 49, cA g 40 ZO), (A 50, cJ g 41 ZM)] (fun v9 w9 => (∃ (ZO2 : Int → Int) (ZM2 : Int → Int) (n2 : Int), (0 ≤ p ∧ p ≤ 2) ∧ v9 = some (vi (Sv ZO2 (uU LP LH LU p nL ZO2) (wtt FL DP SH Q nY) (if p = 0 then 72 else 168) n2 0)) ∧ w9 = [(ko, cO 10 (kF 0 hr nL nO Q nY nE nR nB A)), (A 3, cA g 40 LP), (A 4, cA g 40 LH), (A 5, cA g 40 LU), (A 12, cA g 5 FL), (A 13, cA g 5 DP), (A 14, cA g 5 SH), (A 49, cA g 40 ZO2), (A 50, cJ g 41 ZM2)] ∧ (gvd LP LH LU p ZO2 (uU LP LH LU p nL ZO2) n2 nL)) ∨ ((¬ (0 ≤ p ∧ p ≤ 2)) ∧ v9 = some (vi 0) ∧ w9 = [(ko, cO 10 (kF 1 hr nL nO Q nY nE nR nB A)), (A 3, cA g 40 LP), (A 4, cA g 40 LH), (A 5, cA g 40 LU), (A 12, cA g 5 FL), (A 13, cA g 5 DP), (A 14, cA g 5 SH), (A 49, cA g 40 ZO), (A 50, cJ g 41 ZM)])) := by
  refine gMet.of y_X10_best.2.2.2.2.1 (Nat.le_of_ble_eq_true rfl) ?_
  intro x hlx C hR hnm
  subst hlx
  have C : gC g x RX10 cX10_best 2 3 0 0 76 := C
  show gW g x [(ko, cO 10 (kF th hr nL nO Q nY nE nR nB A)), (A 3, cA g 40 LP), (A 4, cA g 40 LH), (A 5, cA g 40 LU), (A 12, cA g 5 FL), (A 13, cA g 5 DP), (A 14, cA g 5 SH), (A 49, cA g 40 ZO), (A 50, cJ g 41 ZM)] 0 0 [(0, .ref ko), (1, vi p)] 0 []
  refine g_aload_n C 0 dX10_best_0 rfl ?_
  have J13 : ∀ (cd : Int), ((cd = 0 ∧ 0 ≤ p ∧ p ≤ 2) ∨ (cd = 1 ∧ ¬ (0 ≤ p ∧ p ≤ 2))) → gW g x [(ko, cO 10 (kF th hr nL nO Q nY nE nR nB A)), (A 3, cA g 40 LP), (A 4, cA g 40 LH), (A 5, cA g 40 LU), (A 12, cA g 5 FL), (A 13, cA g 5 DP), (A 14, cA g 5 SH), (A 49, cA g 40 ZO), (A 50, cJ g 41 ZM)] 0 0 [(0, .ref ko), (1, vi p)] 13 [vi cd, .ref ko] := by
    intro cd hJ13
    refine g_callV C [vi cd] [] (c_X10_goesWell x.1.2.1 g ko A th hr nL nO Q nY nE nR nB cd (by omega)) y_X10_goesWell l_X10_156 [0] rfl (by decide) 0 rfl rfl rfl (Nat.le_of_ble_eq_true rfl) rfl (by decide) dX10_best_13 (fun v9 w9 hp9 => ?_)
    obtain ⟨rfl, rfl⟩ := hp9
    simp only [putAll, List.set_cons_succ, List.set_cons_zero, List.cons_append, List.nil_append, List.append_nil, Option.toList]
    show gW g x [(ko, cO 10 (kF cd hr nL nO Q nY nE nR nB A)), (A 3, cA g 40 LP), (A 4, cA g 40 LH), (A 5, cA g 40 LU), (A 12, cA g 5 FL), (A 13, cA g 5 DP), (A 14, cA g 5 SH), (A 49, cA g 40 ZO), (A 50, cJ g 41 ZM)] 0 0 [(0, .ref ko), (1, vi p)] 16 [vi (if cd = 0 then 1 else 0)]
    refine g_if_eq C 32 dX10_best_16 (by decide) (by omega) (fun c16 => ?_) (fun c16 => ?_)
    · refine g_iconst C dX10_best_32 ?_
      first
      | exact g_iret C hR dX10_best_33 (Or.inl ⟨H223, ZM226, n223, hok, rfl, rfl, (lh9_gvd LU hnL.1 hLH hlh_23)⟩) rfl
      | exact g_iret C hR dX10_best_33 (by
          rcases hJ13 with ⟨e9, h9⟩ | ⟨e9, h9⟩
          · exfalso; omega
          · subst e9; exact Or.inr (⟨h9, rfl, rfl⟩)) rfl
    obtain ⟨rfl, hok⟩ : cd = 0 ∧ (0 ≤ p ∧ p ≤ 2) := by
      rcases hJ13 with ⟨e9, h9⟩ | ⟨e9, h9⟩
      · exact ⟨e9, h9⟩
      · exfalso; omega
    refine g_aload_n C 0 dX10_best_19 rfl ?_
    refine g_iload_n C 1 dX10_best_20 rfl ?_
    refine g_aload_n C 0 dX10_best_21 rfl ?_
    refine g_iload_n C 1 dX10_best_22 rfl ?_
    refine g_callV C [vi p] [vi p, .ref ko] (c_X10_layHours x.1.2.1 g ko A 0 hr nL nO Q nY nE nR nB LP LH ZO p hLP hLH hnL hp) y_X10_layHours l_X10_267 [0, 1, 2, 7] rfl (by decide) 0 rfl rfl rfl (Nat.le_of_ble_eq_true rfl) rfl (by decide) dX10_best_23 (fun v9 w9 hp9 => ?_)
    obtain ⟨H223, n223, rfl, rfl, hlh_23⟩ := hp9
    simp only [putAll, List.set_cons_succ, List.set_cons_zero, List.cons_append, List.nil_append, List.append_nil, Option.toList]
    show gW g x [(ko, cO 10 (kF 0 hr nL nO Q nY nE nR nB A)), (A 3, cA g 40 LP), (A 4, cA g 40 LH), (A 5, cA g 40 LU), (A 12, cA g 5 FL), (A 13, cA g 5 DP), (A 14, cA g 5 SH), (A 49, cA g 40 H223), (A 50, cJ g 41 ZM)] 0 0 [(0, .ref ko), (1, vi p)] 26 [vi n223, vi p, .ref ko]
    have hn23 := lh9_n hnL.1 hlh_23
    have hn24 := hlh_23.1
    refine g_callV C [vi p, vi n223] [] (c_X10_bestOf x.1.2.1 g ko A 0 hr nL nO Q nY nE nR nB LP LH LU FL DP SH H223 ZM p n223 hLP hLH hLU hnL hFL hDP hSH hnY hQ hlh_23 hp (by omega)) y_X10_bestOf l_X10_270 [0, 1, 2, 3, 4, 5, 6, 7, 8] rfl (by decide) 0 rfl rfl rfl (Nat.le_of_ble_eq_true rfl) rfl (by decide) dX10_best_26 (fun v9 w9 hp9 => ?_)
    obtain ⟨ZM226, rfl, rfl⟩ := hp9
    simp only [putAll, List.set_cons_succ, List.set_cons_zero, List.cons_append, List.nil_append, List.append_nil, Option.toList]
    show gW g x [(ko, cO 10 (kF 0 hr nL nO Q nY nE nR nB A)), (A 3, cA g 40 LP), (A 4, cA g 40 LH), (A 5, cA g 40 LU), (A 12, cA g 5 FL), (A 13, cA g 5 DP), (A 14, cA g 5 SH), (A 49, cA g 40 H223), (A 50, cJ g 41 ZM226)] 0 0 [(0, .ref ko), (1, vi p)] 29 [vi (Sv H223 (uU LP LH LU p nL H223) (wtt FL DP SH Q nY) (if p = 0 then 72 else 168) n223 0)]
    refine g_goto C 33 dX10_best_29 (by decide) ?_
    first
    | exact g_iret C hR dX10_best_33 (Or.inl ⟨H223, ZM226, n223, hok, rfl, rfl, (lh9_gvd LU hnL.1 hLH hlh_23)⟩) rfl
    | exact g_iret C hR dX10_best_33 (by
        rcases hJ13 with ⟨e9, h9⟩ | ⟨e9, h9⟩
        · exfalso; omega
        · subst e9; exact Or.inr (⟨h9, rfl, rfl⟩)) rfl
  refine g_iload_n C 1 dX10_best_1 rfl ?_
  refine g_callSp C [vi p] [.ref ko] (c_X10_isPeril x.1.2.1 g p hp) y_X10_isPeril l_X10_145 [] rfl (by decide) rfl (Nat.le_of_ble_eq_true rfl) rfl (by decide) dX10_best_2 ?_
  refine g_if_eq C 12 dX10_best_5 (by decide) (by omega) (fun c5 => ?_) (fun c5 => ?_)
  · refine g_iconst C dX10_best_12 ?_
    exact J13 1 (by omega)
  refine g_iconst C dX10_best_8 ?_
  refine g_goto C 13 dX10_best_9 (by decide) ?_
  exact J13 0 (by omega)

set_option maxHeartbeats 4000000 in
set_option maxRecDepth 100000 in
theorem c_X10_bestAnew (l : Launch) (g : gD) (ko : Nat) (A : Nat → Nat) (th : Int) (hr : Int) (nL : Int) (nO : Int) (Q : Int) (nY : Int) (nE : Int) (nR : Int) (nB : Int) (LP : Int → Int) (LH : Int → Int) (LU : Int → Int) (FL : Int → Int) (DP : Int → Int) (SH : Int → Int) (ZO : Int → Int) (ZM : Int → Int) (p : Int) (hLP : ∀ k, 0 ≤ LP k ∧ LP k ≤ 2) (hLH : ∀ k, 0 ≤ LH k ∧ LH k ≤ 2199) (hLU : ∀ k, 0 ≤ LU k ∧ LU k ≤ 99999) (hnL : 0 ≤ nL ∧ nL ≤ 40) (hFL : ∀ k, 0 ≤ FL k ∧ FL k ≤ 999999) (hDP : ∀ k, 0 ≤ DP k ∧ DP k ≤ 999999) (hSH : ∀ k, 0 ≤ SH k ∧ SH k ≤ 100) (hnY : 0 ≤ nY ∧ nY ≤ 5) (hQ : 0 ≤ Q ∧ Q ≤ 90) (hp : -2147483648 ≤ p ∧ p < 2147483648) : gMet l g yX10_bestAnew cX10_bestAnew 4 (some .int) 3 0 0 76 [.ref ko, vi p] [(ko, cO 10 (kF th hr nL nO Q nY nE nR nB A)), (A 3, cA g 40 LP), (A 4, cA g 40 LH), (A 5, cA g 40 LU), (A 12, cA g 5 FL), (A 13, cA g 5 DP), (A 14, cA g 5 SH), (A 49, cA g 40 ZO), (A 50, cJ g 41 ZM)] (fun v9 w9 => (∃ (ZO2 : Int → Int) (ZM2 : Int → Int) (n2 : Int), ((0 ≤ p ∧ p ≤ 2) ∧ n2 ≤ 7) ∧ v9 = some (vi (Sv ZO2 (uU LP LH LU p nL ZO2) (wtt FL DP SH Q nY) (if p = 0 then 72 else 168) n2 0)) ∧ w9 = [(ko, cO 10 (kF 0 hr nL nO Q nY nE nR nB A)), (A 3, cA g 40 LP), (A 4, cA g 40 LH), (A 5, cA g 40 LU), (A 12, cA g 5 FL), (A 13, cA g 5 DP), (A 14, cA g 5 SH), (A 49, cA g 40 ZO2), (A 50, cJ g 41 ZM2)] ∧ (gvd LP LH LU p ZO2 (uU LP LH LU p nL ZO2) n2 nL)) ∨ ((¬ (0 ≤ p ∧ p ≤ 2)) ∧ v9 = some (vi 0) ∧ w9 = [(ko, cO 10 (kF 1 hr nL nO Q nY nE nR nB A)), (A 3, cA g 40 LP), (A 4, cA g 40 LH), (A 5, cA g 40 LU), (A 12, cA g 5 FL), (A 13, cA g 5 DP), (A 14, cA g 5 SH), (A 49, cA g 40 ZO), (A 50, cJ g 41 ZM)]) ∨ (∃ (ZO2 : Int → Int) (n2 : Int), ((0 ≤ p ∧ p ≤ 2) ∧ 7 < n2) ∧ v9 = some (vi 0) ∧ w9 = [(ko, cO 10 (kF 2 hr nL nO Q nY nE nR nB A)), (A 3, cA g 40 LP), (A 4, cA g 40 LH), (A 5, cA g 40 LU), (A 12, cA g 5 FL), (A 13, cA g 5 DP), (A 14, cA g 5 SH), (A 49, cA g 40 ZO2), (A 50, cJ g 41 ZM)] ∧ (gvd LP LH LU p ZO2 (uU LP LH LU p nL ZO2) n2 nL))) := by
  refine gMet.of y_X10_bestAnew.2.2.2.2.1 (Nat.le_of_ble_eq_true rfl) ?_
  intro x hlx C hR hnm
  subst hlx
  have C : gC g x RX10 cX10_bestAnew 4 3 0 0 76 := C
  show gW g x [(ko, cO 10 (kF th hr nL nO Q nY nE nR nB A)), (A 3, cA g 40 LP), (A 4, cA g 40 LH), (A 5, cA g 40 LU), (A 12, cA g 5 FL), (A 13, cA g 5 DP), (A 14, cA g 5 SH), (A 49, cA g 40 ZO), (A 50, cJ g 41 ZM)] 0 0 [(0, .ref ko), (1, vi p)] 0 []
  refine g_iload_n C 1 dX10_bestAnew_0 rfl ?_
  refine g_callSp C [vi p] [] (c_X10_isPeril x.1.2.1 g p hp) y_X10_isPeril l_X10_145 [] rfl (by decide) rfl (Nat.le_of_ble_eq_true rfl) rfl (by decide) dX10_bestAnew_1 ?_
  refine g_istore_n C [(2, vi (if 0 ≤ p ∧ p ≤ 2 then 1 else 0)), (0, .ref ko), (1, vi p)] dX10_bestAnew_4 (by decide) rfl ?_
  have J18 : ∀ (n : Int) (cH : Int → Int), ((((0 ≤ p ∧ p ≤ 2) ∧ lh9 LP LH p nL cH n 2200) ∨ ((¬ (0 ≤ p ∧ p ≤ 2)) ∧ n = 0 ∧ cH = ZO))) → gW g x [(ko, cO 10 (kF th hr nL nO Q nY nE nR nB A)), (A 3, cA g 40 LP), (A 4, cA g 40 LH), (A 5, cA g 40 LU), (A 12, cA g 5 FL), (A 13, cA g 5 DP), (A 14, cA g 5 SH), (A 49, cA g 40 cH), (A 50, cJ g 41 ZM)] 0 0 [(2, vi (if 0 ≤ p ∧ p ≤ 2 then 1 else 0)), (0, .ref ko), (1, vi p)] 18 [vi n] := by
    intro n cH hJ18
    have hJ18l : (0 ≤ p ∧ p ≤ 2) → lh9 LP LH p nL cH n 2200 := fun q => hJ18.elim (fun z => z.2) (fun z => absurd q z.1)
    have hJ18r : ¬ (0 ≤ p ∧ p ≤ 2) → cH = ZO := fun q => hJ18.elim (fun z => absurd z.1 q) (fun z => z.2.2)
    have hn0 : 0 ≤ n ∧ n ≤ 40 := hJ18.elim (fun z => ⟨z.2.1, by have := lh9_n hnL.1 z.2; omega⟩) (fun z => by omega)
    refine g_istore_n C [(3, vi n), (2, vi (if 0 ≤ p ∧ p ≤ 2 then 1 else 0)), (0, .ref ko), (1, vi p)] dX10_bestAnew_18 (by decide) rfl ?_
    refine g_aload_n C 2 dX10_bestAnew_19 rfl ?_
    have J39 : ∀ (cd : Int), ((cd = 0 ∧ (0 ≤ p ∧ p ≤ 2) ∧ n ≤ 7) ∨ (cd = 1 ∧ (¬ (0 ≤ p ∧ p ≤ 2)) ∧ cH = ZO) ∨ (cd = 2 ∧ (0 ≤ p ∧ p ≤ 2) ∧ 7 < n)) → gW g x [(ko, cO 10 (kF th hr nL nO Q nY nE nR nB A)), (A 3, cA g 40 LP), (A 4, cA g 40 LH), (A 5, cA g 40 LU), (A 12, cA g 5 FL), (A 13, cA g 5 DP), (A 14, cA g 5 SH), (A 49, cA g 40 cH), (A 50, cJ g 41 ZM)] 0 0 [(3, vi n), (2, vi (if 0 ≤ p ∧ p ≤ 2 then 1 else 0)), (0, .ref ko), (1, vi p)] 39 [vi cd, .ref ko] := by
      intro cd hJ39
      refine g_callV C [vi cd] [] (c_X10_goesWell x.1.2.1 g ko A th hr nL nO Q nY nE nR nB cd (by omega)) y_X10_goesWell l_X10_156 [0] rfl (by decide) 0 rfl rfl rfl (Nat.le_of_ble_eq_true rfl) rfl (by decide) dX10_bestAnew_39 (fun v9 w9 hp9 => ?_)
      obtain ⟨rfl, rfl⟩ := hp9
      simp only [putAll, List.set_cons_succ, List.set_cons_zero, List.cons_append, List.nil_append, List.append_nil, Option.toList]
      show gW g x [(ko, cO 10 (kF cd hr nL nO Q nY nE nR nB A)), (A 3, cA g 40 LP), (A 4, cA g 40 LH), (A 5, cA g 40 LU), (A 12, cA g 5 FL), (A 13, cA g 5 DP), (A 14, cA g 5 SH), (A 49, cA g 40 cH), (A 50, cJ g 41 ZM)] 0 0 [(3, vi n), (2, vi (if 0 ≤ p ∧ p ≤ 2 then 1 else 0)), (0, .ref ko), (1, vi p)] 42 [vi (if cd = 0 then 1 else 0)]
      refine g_if_eq C 54 dX10_bestAnew_42 (by decide) (by omega) (fun c42 => ?_) (fun c42 => ?_)
      · refine g_iconst C dX10_bestAnew_54 ?_
        first
        | exact g_iret C hR dX10_bestAnew_55 (Or.inl ⟨cH, ZM248, n, hok, rfl, rfl, (lh9_gvd LU hnL.1 hLH (hJ18l hok.1))⟩) rfl
        | exact g_iret C hR dX10_bestAnew_55 (by
            rcases hJ39 with ⟨e9, h9⟩ | ⟨e9, h9⟩ | ⟨e9, h9⟩
            · exfalso; omega
            · subst e9; exact Or.inr (Or.inl ⟨h9.1, rfl, by rw [h9.2]⟩)
            · subst e9; exact Or.inr (Or.inr (⟨cH, n, h9, rfl, rfl, lh9_gvd LU hnL.1 hLH (hJ18l (by omega))⟩))) rfl
      obtain ⟨rfl, hok⟩ : cd = 0 ∧ ((0 ≤ p ∧ p ≤ 2) ∧ n ≤ 7) := by
        rcases hJ39 with ⟨e9, h9⟩ | ⟨e9, h9⟩ | ⟨e9, h9⟩
        · exact ⟨e9, h9⟩
        · exfalso; omega
        · exfalso; omega
      refine g_aload_n C 2 dX10_bestAnew_45 rfl ?_
      refine g_iload_n C 3 dX10_bestAnew_46 rfl ?_
      refine g_iload_n C 0 dX10_bestAnew_47 rfl ?_
      refine g_callV C [vi p, vi n] [] (c_X10_bestOf x.1.2.1 g ko A 0 hr nL nO Q nY nE nR nB LP LH LU FL DP SH cH ZM p n hLP hLH hLU hnL hFL hDP hSH hnY hQ (hJ18l hok.1) hp (by omega)) y_X10_bestOf l_X10_270 [0, 1, 2, 3, 4, 5, 6, 7, 8] rfl (by decide) 0 rfl rfl rfl (Nat.le_of_ble_eq_true rfl) rfl (by decide) dX10_bestAnew_48 (fun v9 w9 hp9 => ?_)
      obtain ⟨ZM248, rfl, rfl⟩ := hp9
      simp only [putAll, List.set_cons_succ, List.set_cons_zero, List.cons_append, List.nil_append, List.append_nil, Option.toList]
      show gW g x [(ko, cO 10 (kF 0 hr nL nO Q nY nE nR nB A)), (A 3, cA g 40 LP), (A 4, cA g 40 LH), (A 5, cA g 40 LU), (A 12, cA g 5 FL), (A 13, cA g 5 DP), (A 14, cA g 5 SH), (A 49, cA g 40 cH), (A 50, cJ g 41 ZM248)] 0 0 [(3, vi n), (2, vi (if 0 ≤ p ∧ p ≤ 2 then 1 else 0)), (0, .ref ko), (1, vi p)] 51 [vi (Sv cH (uU LP LH LU p nL cH) (wtt FL DP SH Q nY) (if p = 0 then 72 else 168) n 0)]
      refine g_goto C 55 dX10_bestAnew_51 (by decide) ?_
      first
      | exact g_iret C hR dX10_bestAnew_55 (Or.inl ⟨cH, ZM248, n, hok, rfl, rfl, (lh9_gvd LU hnL.1 hLH (hJ18l hok.1))⟩) rfl
      | exact g_iret C hR dX10_bestAnew_55 (by
          rcases hJ39 with ⟨e9, h9⟩ | ⟨e9, h9⟩ | ⟨e9, h9⟩
          · exfalso; omega
          · subst e9; exact Or.inr (Or.inl ⟨h9.1, rfl, by rw [h9.2]⟩)
          · subst e9; exact Or.inr (Or.inr (⟨cH, n, h9, rfl, rfl, lh9_gvd LU hnL.1 hLH (hJ18l (by omega))⟩))) rfl
    refine g_iload_n C 1 dX10_bestAnew_20 rfl ?_
    refine g_if_ne C 28 dX10_bestAnew_21 (by decide) (by omega) (fun c21 => ?_) (fun c21 => ?_)
    · refine g_iload_n C 0 dX10_bestAnew_28 rfl ?_
      refine g_bipush C dX10_bestAnew_29 (by decide) ?_
      refine g_icmp_le C 38 dX10_bestAnew_31 (by decide) (by omega) (by omega) (fun c31 => ?_) (fun c31 => ?_)
      · refine g_iconst C dX10_bestAnew_38 ?_
        exact J39 0 (by first | exact Or.inr (Or.inl ⟨rfl, by omega, hJ18r (by omega)⟩) | exact Or.inl ⟨rfl, by omega, by omega⟩ | exact Or.inr (Or.inr ⟨rfl, by omega, by omega⟩))
      refine g_iconst C dX10_bestAnew_34 ?_
      refine g_goto C 39 dX10_bestAnew_35 (by decide) ?_
      exact J39 2 (by first | exact Or.inr (Or.inl ⟨rfl, by omega, hJ18r (by omega)⟩) | exact Or.inl ⟨rfl, by omega, by omega⟩ | exact Or.inr (Or.inr ⟨rfl, by omega, by omega⟩))
    refine g_iconst C dX10_bestAnew_24 ?_
    refine g_goto C 39 dX10_bestAnew_25 (by decide) ?_
    exact J39 1 (by first | exact Or.inr (Or.inl ⟨rfl, by omega, hJ18r (by omega)⟩) | exact Or.inl ⟨rfl, by omega, by omega⟩ | exact Or.inr (Or.inr ⟨rfl, by omega, by omega⟩))
  refine g_iload_n C 0 dX10_bestAnew_5 rfl ?_
  refine g_if_eq C 17 dX10_bestAnew_6 (by decide) (by omega) (fun c6 => ?_) (fun c6 => ?_)
  · refine g_iconst C dX10_bestAnew_17 ?_
    exact J18 0 ZO (by first | exact Or.inl ⟨by omega, hlh_11⟩ | exact Or.inr ⟨by omega, rfl, rfl⟩)
  refine g_aload_n C 1 dX10_bestAnew_9 rfl ?_
  refine g_iload_n C 2 dX10_bestAnew_10 rfl ?_
  refine g_callV C [vi p] [] (c_X10_layHours x.1.2.1 g ko A th hr nL nO Q nY nE nR nB LP LH ZO p hLP hLH hnL hp) y_X10_layHours l_X10_267 [0, 1, 2, 7] rfl (by decide) 0 rfl rfl rfl (Nat.le_of_ble_eq_true rfl) rfl (by decide) dX10_bestAnew_11 (fun v9 w9 hp9 => ?_)
  obtain ⟨H211, n211, rfl, rfl, hlh_11⟩ := hp9
  simp only [putAll, List.set_cons_succ, List.set_cons_zero, List.cons_append, List.nil_append, List.append_nil, Option.toList]
  show gW g x [(ko, cO 10 (kF th hr nL nO Q nY nE nR nB A)), (A 3, cA g 40 LP), (A 4, cA g 40 LH), (A 5, cA g 40 LU), (A 12, cA g 5 FL), (A 13, cA g 5 DP), (A 14, cA g 5 SH), (A 49, cA g 40 H211), (A 50, cJ g 41 ZM)] 0 0 [(2, vi (if 0 ≤ p ∧ p ≤ 2 then 1 else 0)), (0, .ref ko), (1, vi p)] 14 [vi n211]
  refine g_goto C 18 dX10_bestAnew_14 (by decide) ?_
  exact J18 n211 H211 (by first | exact Or.inl ⟨by omega, hlh_11⟩ | exact Or.inr ⟨by omega, rfl, rfl⟩)

theorem pw9_0 : (2 : Int) ^ (0 : Int).toNat = 1 := by decide +kernel
theorem b9_0 {b : Int} (hx : ¬ ∃ i : Int, 0 ≤ i ∧ i < 16 ∧ b / 2 ^ i.toNat % 2 = 1) : b / 1 = 2 * (b / 2) := by
  have h : ¬ b / 1 % 2 = 1 := fun q => hx ⟨0, by omega, by omega, by rw [pw9_0]; exact q⟩
  clear hx
  omega
theorem c9_0 {b : Int} (a : b = 1 * (b / 1)) (e : b / 1 = 2 * (b / 2)) : b = 2 * (b / 2) := by omega
theorem pw9_1 : (2 : Int) ^ (1 : Int).toNat = 2 := by decide +kernel
theorem b9_1 {b : Int} (hx : ¬ ∃ i : Int, 0 ≤ i ∧ i < 16 ∧ b / 2 ^ i.toNat % 2 = 1) : b / 2 = 2 * (b / 4) := by
  have h : ¬ b / 2 % 2 = 1 := fun q => hx ⟨1, by omega, by omega, by rw [pw9_1]; exact q⟩
  clear hx
  omega
theorem c9_1 {b : Int} (a : b = 2 * (b / 2)) (e : b / 2 = 2 * (b / 4)) : b = 4 * (b / 4) := by omega
theorem pw9_2 : (2 : Int) ^ (2 : Int).toNat = 4 := by decide +kernel
theorem b9_2 {b : Int} (hx : ¬ ∃ i : Int, 0 ≤ i ∧ i < 16 ∧ b / 2 ^ i.toNat % 2 = 1) : b / 4 = 2 * (b / 8) := by
  have h : ¬ b / 4 % 2 = 1 := fun q => hx ⟨2, by omega, by omega, by rw [pw9_2]; exact q⟩
  clear hx
  omega
theorem c9_2 {b : Int} (a : b = 4 * (b / 4)) (e : b / 4 = 2 * (b / 8)) : b = 8 * (b / 8) := by omega
theorem pw9_3 : (2 : Int) ^ (3 : Int).toNat = 8 := by decide +kernel
theorem b9_3 {b : Int} (hx : ¬ ∃ i : Int, 0 ≤ i ∧ i < 16 ∧ b / 2 ^ i.toNat % 2 = 1) : b / 8 = 2 * (b / 16) := by
  have h : ¬ b / 8 % 2 = 1 := fun q => hx ⟨3, by omega, by omega, by rw [pw9_3]; exact q⟩
  clear hx
  omega
theorem c9_3 {b : Int} (a : b = 8 * (b / 8)) (e : b / 8 = 2 * (b / 16)) : b = 16 * (b / 16) := by omega
theorem pw9_4 : (2 : Int) ^ (4 : Int).toNat = 16 := by decide +kernel
theorem b9_4 {b : Int} (hx : ¬ ∃ i : Int, 0 ≤ i ∧ i < 16 ∧ b / 2 ^ i.toNat % 2 = 1) : b / 16 = 2 * (b / 32) := by
  have h : ¬ b / 16 % 2 = 1 := fun q => hx ⟨4, by omega, by omega, by rw [pw9_4]; exact q⟩
  clear hx
  omega
theorem c9_4 {b : Int} (a : b = 16 * (b / 16)) (e : b / 16 = 2 * (b / 32)) : b = 32 * (b / 32) := by omega
theorem pw9_5 : (2 : Int) ^ (5 : Int).toNat = 32 := by decide +kernel
theorem b9_5 {b : Int} (hx : ¬ ∃ i : Int, 0 ≤ i ∧ i < 16 ∧ b / 2 ^ i.toNat % 2 = 1) : b / 32 = 2 * (b / 64) := by
  have h : ¬ b / 32 % 2 = 1 := fun q => hx ⟨5, by omega, by omega, by rw [pw9_5]; exact q⟩
  clear hx
  omega
theorem c9_5 {b : Int} (a : b = 32 * (b / 32)) (e : b / 32 = 2 * (b / 64)) : b = 64 * (b / 64) := by omega
theorem pw9_6 : (2 : Int) ^ (6 : Int).toNat = 64 := by decide +kernel
theorem b9_6 {b : Int} (hx : ¬ ∃ i : Int, 0 ≤ i ∧ i < 16 ∧ b / 2 ^ i.toNat % 2 = 1) : b / 64 = 2 * (b / 128) := by
  have h : ¬ b / 64 % 2 = 1 := fun q => hx ⟨6, by omega, by omega, by rw [pw9_6]; exact q⟩
  clear hx
  omega
theorem c9_6 {b : Int} (a : b = 64 * (b / 64)) (e : b / 64 = 2 * (b / 128)) : b = 128 * (b / 128) := by omega
theorem pw9_7 : (2 : Int) ^ (7 : Int).toNat = 128 := by decide +kernel
theorem b9_7 {b : Int} (hx : ¬ ∃ i : Int, 0 ≤ i ∧ i < 16 ∧ b / 2 ^ i.toNat % 2 = 1) : b / 128 = 2 * (b / 256) := by
  have h : ¬ b / 128 % 2 = 1 := fun q => hx ⟨7, by omega, by omega, by rw [pw9_7]; exact q⟩
  clear hx
  omega
theorem c9_7 {b : Int} (a : b = 128 * (b / 128)) (e : b / 128 = 2 * (b / 256)) : b = 256 * (b / 256) := by omega
theorem pw9_8 : (2 : Int) ^ (8 : Int).toNat = 256 := by decide +kernel
theorem b9_8 {b : Int} (hx : ¬ ∃ i : Int, 0 ≤ i ∧ i < 16 ∧ b / 2 ^ i.toNat % 2 = 1) : b / 256 = 2 * (b / 512) := by
  have h : ¬ b / 256 % 2 = 1 := fun q => hx ⟨8, by omega, by omega, by rw [pw9_8]; exact q⟩
  clear hx
  omega
theorem c9_8 {b : Int} (a : b = 256 * (b / 256)) (e : b / 256 = 2 * (b / 512)) : b = 512 * (b / 512) := by omega
theorem pw9_9 : (2 : Int) ^ (9 : Int).toNat = 512 := by decide +kernel
theorem b9_9 {b : Int} (hx : ¬ ∃ i : Int, 0 ≤ i ∧ i < 16 ∧ b / 2 ^ i.toNat % 2 = 1) : b / 512 = 2 * (b / 1024) := by
  have h : ¬ b / 512 % 2 = 1 := fun q => hx ⟨9, by omega, by omega, by rw [pw9_9]; exact q⟩
  clear hx
  omega
theorem c9_9 {b : Int} (a : b = 512 * (b / 512)) (e : b / 512 = 2 * (b / 1024)) : b = 1024 * (b / 1024) := by omega
theorem pw9_10 : (2 : Int) ^ (10 : Int).toNat = 1024 := by decide +kernel
theorem b9_10 {b : Int} (hx : ¬ ∃ i : Int, 0 ≤ i ∧ i < 16 ∧ b / 2 ^ i.toNat % 2 = 1) : b / 1024 = 2 * (b / 2048) := by
  have h : ¬ b / 1024 % 2 = 1 := fun q => hx ⟨10, by omega, by omega, by rw [pw9_10]; exact q⟩
  clear hx
  omega
theorem c9_10 {b : Int} (a : b = 1024 * (b / 1024)) (e : b / 1024 = 2 * (b / 2048)) : b = 2048 * (b / 2048) := by omega
theorem pw9_11 : (2 : Int) ^ (11 : Int).toNat = 2048 := by decide +kernel
theorem b9_11 {b : Int} (hx : ¬ ∃ i : Int, 0 ≤ i ∧ i < 16 ∧ b / 2 ^ i.toNat % 2 = 1) : b / 2048 = 2 * (b / 4096) := by
  have h : ¬ b / 2048 % 2 = 1 := fun q => hx ⟨11, by omega, by omega, by rw [pw9_11]; exact q⟩
  clear hx
  omega
theorem c9_11 {b : Int} (a : b = 2048 * (b / 2048)) (e : b / 2048 = 2 * (b / 4096)) : b = 4096 * (b / 4096) := by omega
theorem pw9_12 : (2 : Int) ^ (12 : Int).toNat = 4096 := by decide +kernel
theorem b9_12 {b : Int} (hx : ¬ ∃ i : Int, 0 ≤ i ∧ i < 16 ∧ b / 2 ^ i.toNat % 2 = 1) : b / 4096 = 2 * (b / 8192) := by
  have h : ¬ b / 4096 % 2 = 1 := fun q => hx ⟨12, by omega, by omega, by rw [pw9_12]; exact q⟩
  clear hx
  omega
theorem c9_12 {b : Int} (a : b = 4096 * (b / 4096)) (e : b / 4096 = 2 * (b / 8192)) : b = 8192 * (b / 8192) := by omega
theorem pw9_13 : (2 : Int) ^ (13 : Int).toNat = 8192 := by decide +kernel
theorem b9_13 {b : Int} (hx : ¬ ∃ i : Int, 0 ≤ i ∧ i < 16 ∧ b / 2 ^ i.toNat % 2 = 1) : b / 8192 = 2 * (b / 16384) := by
  have h : ¬ b / 8192 % 2 = 1 := fun q => hx ⟨13, by omega, by omega, by rw [pw9_13]; exact q⟩
  clear hx
  omega
theorem c9_13 {b : Int} (a : b = 8192 * (b / 8192)) (e : b / 8192 = 2 * (b / 16384)) : b = 16384 * (b / 16384) := by omega
theorem pw9_14 : (2 : Int) ^ (14 : Int).toNat = 16384 := by decide +kernel
theorem b9_14 {b : Int} (hx : ¬ ∃ i : Int, 0 ≤ i ∧ i < 16 ∧ b / 2 ^ i.toNat % 2 = 1) : b / 16384 = 2 * (b / 32768) := by
  have h : ¬ b / 16384 % 2 = 1 := fun q => hx ⟨14, by omega, by omega, by rw [pw9_14]; exact q⟩
  clear hx
  omega
theorem c9_14 {b : Int} (a : b = 16384 * (b / 16384)) (e : b / 16384 = 2 * (b / 32768)) : b = 32768 * (b / 32768) := by omega
theorem pw9_15 : (2 : Int) ^ (15 : Int).toNat = 32768 := by decide +kernel
theorem b9_15 {b : Int} (hx : ¬ ∃ i : Int, 0 ≤ i ∧ i < 16 ∧ b / 2 ^ i.toNat % 2 = 1) : b / 32768 = 2 * (b / 65536) := by
  have h : ¬ b / 32768 % 2 = 1 := fun q => hx ⟨15, by omega, by omega, by rw [pw9_15]; exact q⟩
  clear hx
  omega
theorem c9_15 {b : Int} (a : b = 32768 * (b / 32768)) (e : b / 32768 = 2 * (b / 65536)) : b = 65536 * (b / 65536) := by omega
theorem bit9 {b : Int} (h0 : 1 ≤ b) (h1 : b ≤ 65535) : ∃ i : Int, 0 ≤ i ∧ i < 16 ∧ b / 2 ^ i.toNat % 2 = 1 := by
  refine Classical.byContradiction fun hx => ?_
  have m0 : b = 1 * (b / 1) := by clear hx; omega
  have m1 := c9_0 m0 (b9_0 hx)
  have m2 := c9_1 m1 (b9_1 hx)
  have m3 := c9_2 m2 (b9_2 hx)
  have m4 := c9_3 m3 (b9_3 hx)
  have m5 := c9_4 m4 (b9_4 hx)
  have m6 := c9_5 m5 (b9_5 hx)
  have m7 := c9_6 m6 (b9_6 hx)
  have m8 := c9_7 m7 (b9_7 hx)
  have m9 := c9_8 m8 (b9_8 hx)
  have m10 := c9_9 m9 (b9_9 hx)
  have m11 := c9_10 m10 (b9_10 hx)
  have m12 := c9_11 m11 (b9_11 hx)
  have m13 := c9_12 m12 (b9_12 hx)
  have m14 := c9_13 m13 (b9_13 hx)
  have m15 := c9_14 m14 (b9_14 hx)
  have m16 := c9_15 m15 (b9_15 hx)
  clear hx m0 m1 m2 m3 m4 m5 m6 m7 m8 m9 m10 m11 m12 m13 m14 m15
  omega
theorem dst_init {b c : Int} (h0 : 1 ≤ b) (h1 : b ≤ 65535) (hc : 0 ≤ c ∧ c ≤ 15) : dst b c 16 16 = dst b c 6 16 := by
  have := sm_ind (P := fun n => n ≤ 16 → dst b c 16 n = dst b c 6 n ∨ ((dst b c 16 n = 16 ∧ dst b c 6 n = 6) ∧ ∀ i, 0 ≤ i → i < n → ¬ b / 2 ^ i.toNat % 2 = 1)) (fun _ => Or.inr ⟨⟨rfl, rfl⟩, fun i a z => by omega⟩) (fun i hi ih hn => by
    have hd := dd9_r (i := i) (by omega) hc
    rw [dst_s _ _ _ hi, dst_s _ _ _ hi]
    by_cases q : b / 2 ^ i.toNat % 2 = 1
    · rw [if_pos q, if_pos q]
      rcases ih (by omega) with e | ⟨⟨e1, e2⟩, _⟩
      · rw [e]; exact Or.inl rfl
      · rw [e1, e2]; left; unfold mn; omega
    · rw [if_neg q, if_neg q]
      rcases ih (by omega) with e | ⟨e, h⟩
      · exact Or.inl e
      · refine Or.inr ⟨e, fun j j0 j1 => ?_⟩
        by_cases z : j = i
        · subst z; exact q
        · exact h j j0 (by omega)) 16 (by omega)
  rcases this (Int.le_refl _) with e | ⟨_, h⟩
  · exact e
  · obtain ⟨i, i0, i1, i2⟩ := bit9 h0 h1
    exact absurd i2 (h i i0 i1)

set_option maxHeartbeats 4000000 in
set_option maxRecDepth 100000 in
theorem c_X10_isInBox (l : Launch) (g : gD) (ko : Nat) (A : Nat → Nat) (th : Int) (hr : Int) (nL : Int) (nO : Int) (Q : Int) (nY : Int) (nE : Int) (nR : Int) (nB : Int) (EC : Int → Int) (BX : Int → Int) (s : Int) (b : Int) (hEC : ∀ k, 0 ≤ EC k ∧ EC k ≤ 15) (hBX : ∀ k, 0 ≤ BX k ∧ BX k ≤ 65535) (hb5 : 0 ≤ b ∧ b < 5) (hs6 : 0 ≤ s ∧ s < 6) (hs : -2147483648 ≤ s ∧ s < 2147483648) (hb : -2147483648 ≤ b ∧ b < 2147483648) : gMet l g yX10_isInBox cX10_isInBox 3 (some .boolean) 0 0 0 0 [.ref ko, vi s, vi b] [(ko, cO 10 (kF th hr nL nO Q nY nE nR nB A)), (A 23, cA g 6 EC), (A 33, cA g 5 BX)] (gM (some (vi (if inb EC (BX b) s = 1 then 1 else 0))) [(ko, cO 10 (kF th hr nL nO Q nY nE nR nB A)), (A 23, cA g 6 EC), (A 33, cA g 5 BX)]) := by
  refine gMet.of y_X10_isInBox.2.2.2.2.1 (Nat.le_of_ble_eq_true rfl) ?_
  intro x hlx C hR hnm
  subst hlx
  have C : gC g x RX10 cX10_isInBox 3 0 0 0 0 := C
  show gW g x [(ko, cO 10 (kF th hr nL nO Q nY nE nR nB A)), (A 23, cA g 6 EC), (A 33, cA g 5 BX)] 0 0 [(0, .ref ko), (1, vi s), (2, vi b)] 0 []
  refine g_aload_n C 0 dX10_isInBox_0 rfl ?_
  refine g_getf C k_X10 33 f_X10_82 0 rfl rfl (by decide) rfl rfl dX10_isInBox_1 ?_
  refine g_iload_n C 2 dX10_isInBox_4 rfl ?_
  refine g_iald C 2 rfl (by omega) dX10_isInBox_5 ?_
  have r1_5 := hBX b
  refine g_aload_n C 0 dX10_isInBox_6 rfl ?_
  refine g_getf C k_X10 23 f_X10_58 0 rfl rfl (by decide) rfl rfl dX10_isInBox_7 ?_
  refine g_iload_n C 1 dX10_isInBox_10 rfl ?_
  refine g_iald C 1 rfl (by omega) dX10_isInBox_11 ?_
  have r2_11 := hEC s
  have hp9 := pw_le (b := BX b) (c := EC s) (hBX b).1
  have h29 : inb EC (BX b) s = BX b / 2 ^ (EC s).toNat % 2 := rfl
  have hx9 := hBX b
  refine g_ishr C dX10_isInBox_12 (by omega) (by omega) ?_
  refine g_iconst C dX10_isInBox_13 ?_
  refine g_iand1 C dX10_isInBox_14 (by omega) ?_
  refine g_iconst C dX10_isInBox_15 ?_
  refine g_icmp_ne C 23 dX10_isInBox_16 (by decide) (by omega) (by omega) (fun c16 => ?_) (fun c16 => ?_)
  · refine g_iconst C dX10_isInBox_23 ?_
    exact g_zretM C hR dX10_isInBox_24 (by omega) (by first | rfl | omega) rfl rfl
  refine g_iconst C dX10_isInBox_19 ?_
  refine g_goto C 24 dX10_isInBox_20 (by decide) ?_
  exact g_zretM C hR dX10_isInBox_24 (by omega) (by first | rfl | omega) rfl rfl

set_option maxHeartbeats 4000000 in
set_option maxRecDepth 100000 in
theorem c_X10_lasts (l : Launch) (g : gD) (ko : Nat) (A : Nat → Nat) (th : Int) (hr : Int) (nL : Int) (nO : Int) (Q : Int) (nY : Int) (nE : Int) (nR : Int) (nB : Int) (EF : Int → Int) (BL : Int → Int) (s : Int) (b : Int) (hEF : ∀ k, 0 ≤ EF k ∧ EF k ≤ 2200) (hBL : ∀ k, 0 ≤ BL k ∧ BL k ≤ 2199) (hb5 : 0 ≤ b ∧ b < 5) (hs6 : 0 ≤ s ∧ s < 6) (hs : -2147483648 ≤ s ∧ s < 2147483648) (hb : -2147483648 ≤ b ∧ b < 2147483648) : gMet l g yX10_lasts cX10_lasts 3 (some .boolean) 0 0 0 0 [.ref ko, vi s, vi b] [(ko, cO 10 (kF th hr nL nO Q nY nE nR nB A)), (A 24, cA g 6 EF), (A 35, cA g 5 BL)] (gM (some (vi (if BL b < EF s then 1 else 0))) [(ko, cO 10 (kF th hr nL nO Q nY nE nR nB A)), (A 24, cA g 6 EF), (A 35, cA g 5 BL)]) := by
  refine gMet.of y_X10_lasts.2.2.2.2.1 (Nat.le_of_ble_eq_true rfl) ?_
  intro x hlx C hR hnm
  subst hlx
  have C : gC g x RX10 cX10_lasts 3 0 0 0 0 := C
  show gW g x [(ko, cO 10 (kF th hr nL nO Q nY nE nR nB A)), (A 24, cA g 6 EF), (A 35, cA g 5 BL)] 0 0 [(0, .ref ko), (1, vi s), (2, vi b)] 0 []
  refine g_aload_n C 0 dX10_lasts_0 rfl ?_
  refine g_getf C k_X10 24 f_X10_61 0 rfl rfl (by decide) rfl rfl dX10_lasts_1 ?_
  refine g_iload_n C 1 dX10_lasts_4 rfl ?_
  refine g_iald C 1 rfl (by omega) dX10_lasts_5 ?_
  have r1_5 := hEF s
  refine g_aload_n C 0 dX10_lasts_6 rfl ?_
  refine g_getf C k_X10 35 f_X10_88 0 rfl rfl (by decide) rfl rfl dX10_lasts_7 ?_
  refine g_iload_n C 2 dX10_lasts_10 rfl ?_
  refine g_iald C 2 rfl (by omega) dX10_lasts_11 ?_
  have r2_11 := hBL b
  refine g_icmp_le C 19 dX10_lasts_12 (by decide) (by omega) (by omega) (fun c12 => ?_) (fun c12 => ?_)
  · refine g_iconst C dX10_lasts_19 ?_
    exact g_zretM C hR dX10_lasts_20 (by omega) (by first | rfl | omega) rfl rfl
  refine g_iconst C dX10_lasts_15 ?_
  refine g_goto C 20 dX10_lasts_16 (by decide) ?_
  exact g_zretM C hR dX10_lasts_20 (by omega) (by first | rfl | omega) rfl rfl

set_option maxHeartbeats 4000000 in
set_option maxRecDepth 100000 in
theorem c_X10_far (l : Launch) (g : gD) (ko : Nat) (A : Nat → Nat) (th : Int) (hr : Int) (nL : Int) (nO : Int) (Q : Int) (nY : Int) (nE : Int) (nR : Int) (nB : Int) (EC : Int → Int) (BX : Int → Int) (s : Int) (b : Int) (hEC : ∀ k, 0 ≤ EC k ∧ EC k ≤ 15) (hBX : ∀ k, 0 ≤ BX k ∧ BX k ≤ 65535) (hb5 : 0 ≤ b ∧ b < 5) (hs6 : 0 ≤ s ∧ s < 6) (hbx1 : 1 ≤ BX b) (hs : -2147483648 ≤ s ∧ s < 2147483648) (hb : -2147483648 ≤ b ∧ b < 2147483648) : gMet l g yX10_far cX10_far 8 (some .int) 0 0 0 0 [.ref ko, vi s, vi b] [(ko, cO 10 (kF th hr nL nO Q nY nE nR nB A)), (A 23, cA g 6 EC), (A 33, cA g 5 BX)] (gM (some (vi (dst (BX b) (EC s) 6 16))) [(ko, cO 10 (kF th hr nL nO Q nY nE nR nB A)), (A 23, cA g 6 EC), (A 33, cA g 5 BX)]) := by
  refine gMet.of y_X10_far.2.2.2.2.1 (Nat.le_of_ble_eq_true rfl) ?_
  intro x hlx C hR hnm
  subst hlx
  have C : gC g x RX10 cX10_far 8 0 0 0 0 := C
  show gW g x [(ko, cO 10 (kF th hr nL nO Q nY nE nR nB A)), (A 23, cA g 6 EC), (A 33, cA g 5 BX)] 0 0 [(0, .ref ko), (1, vi s), (2, vi b)] 0 []
  refine g_bipush C dX10_far_0 (by decide) ?_
  refine g_istore_n C [(3, vi 16), (0, .ref ko), (1, vi s), (2, vi b)] dX10_far_2 (by decide) rfl ?_
  refine g_iconst C dX10_far_3 ?_
  refine g_istore C [(4, vi 0), (3, vi 16), (0, .ref ko), (1, vi s), (2, vi b)] dX10_far_4 (by decide) rfl ?_
  have L6 : ∀ (f : Nat) (i : Int) (le : Int), (0 ≤ i ∧ i ≤ 16 ∧ le = dst (BX b) (EC s) 16 i) → (16 - i).toNat < f → gW g x [(ko, cO 10 (kF th hr nL nO Q nY nE nR nB A)), (A 23, cA g 6 EC), (A 33, cA g 5 BX)] 0 0 [(4, vi i), (3, vi le), (0, .ref ko), (1, vi s), (2, vi b)] 6 [] := by
    intro f
    induction f with
    | zero => intro i le hI6 hf; exact absurd hf (Nat.not_lt_zero _)
    | succ f ih6 =>
      intro i le hI6 hf6
      obtain ⟨hi0, hi1, hl⟩ := hI6
      have hr9 := dst_r (b := BX b) (init := 16) (hEC s) (by omega) ⟨hi0, hi1⟩
      have hc9 := hEC s
      have hx9 := hBX b
      refine g_iload C 0 dX10_far_6 rfl ?_
      refine g_bipush C dX10_far_8 (by decide) ?_
      refine g_icmp_ge C 106 dX10_far_10 (by decide) (by omega) (by omega) (fun c10 => ?_) (fun c10 => ?_)
      · refine g_iload_n C 1 dX10_far_106 rfl ?_
        exact g_iretM C hR dX10_far_107 (by rw [hl, show i = 16 by omega]; exact dst_init hbx1 (hBX b).2 (hEC s)) rfl rfl
      refine g_aload_n C 2 dX10_far_13 rfl ?_
      refine g_getf C k_X10 23 f_X10_58 0 rfl rfl (by decide) rfl rfl dX10_far_14 ?_
      refine g_iload_n C 3 dX10_far_17 rfl ?_
      refine g_iald C 1 rfl (by omega) dX10_far_18 ?_
      have r1_18 := hEC s
      refine g_iconst C dX10_far_19 ?_
      refine g_idiv C dX10_far_20 (by omega) (by omega) ?_
      refine g_iload C 0 dX10_far_21 rfl ?_
      refine g_iconst C dX10_far_23 ?_
      refine g_idiv C dX10_far_24 (by omega) (by omega) ?_
      refine g_isub C dX10_far_25 ?_
      refine g_istore C [(5, vi (((EC s) / 4) - (i / 4))), (4, vi i), (3, vi le), (0, .ref ko), (1, vi s), (2, vi b)] dX10_far_26 (by decide) rfl ?_
      refine g_aload_n C 3 dX10_far_28 rfl ?_
      refine g_getf C k_X10 23 f_X10_58 0 rfl rfl (by decide) rfl rfl dX10_far_29 ?_
      refine g_iload_n C 4 dX10_far_32 rfl ?_
      refine g_iald C 1 rfl (by omega) dX10_far_33 ?_
      have r2_33 := hEC s
      refine g_iconst C dX10_far_34 ?_
      refine g_irem C dX10_far_35 (by omega) (by omega) ?_
      refine g_iload C 1 dX10_far_36 rfl ?_
      refine g_iconst C dX10_far_38 ?_
      refine g_irem C dX10_far_39 (by omega) (by omega) ?_
      refine g_isub C dX10_far_40 ?_
      refine g_istore C [(6, vi (((EC s) % 4) - (i % 4))), (5, vi (((EC s) / 4) - (i / 4))), (4, vi i), (3, vi le), (0, .ref ko), (1, vi s), (2, vi b)] dX10_far_41 (by decide) rfl ?_
      have J56 : ∀ (w1 : Int), (w1 = if 0 ≤ i / 4 - EC s / 4 then i / 4 - EC s / 4 else 0 - (i / 4 - EC s / 4)) → gW g x [(ko, cO 10 (kF th hr nL nO Q nY nE nR nB A)), (A 23, cA g 6 EC), (A 33, cA g 5 BX)] 0 0 [(6, vi (((EC s) % 4) - (i % 4))), (5, vi (((EC s) / 4) - (i / 4))), (4, vi i), (3, vi le), (0, .ref ko), (1, vi s), (2, vi b)] 56 [vi w1] := by
        intro w1 hJ56
        have hw1 := hJ56
        have J69 : ∀ (w2 : Int), (w2 = if 0 ≤ i % 4 - EC s % 4 then i % 4 - EC s % 4 else 0 - (i % 4 - EC s % 4)) → gW g x [(ko, cO 10 (kF th hr nL nO Q nY nE nR nB A)), (A 23, cA g 6 EC), (A 33, cA g 5 BX)] 0 0 [(6, vi (((EC s) % 4) - (i % 4))), (5, vi (((EC s) / 4) - (i / 4))), (4, vi i), (3, vi le), (0, .ref ko), (1, vi s), (2, vi b)] 69 [vi w2, vi w1] := by
          intro w2 hJ69
          have hw2 := hJ69
          refine g_iadd C dX10_far_69 ?_
          refine g_istore C [(7, vi (w1 + w2)), (6, vi (((EC s) % 4) - (i % 4))), (5, vi (((EC s) / 4) - (i / 4))), (4, vi i), (3, vi le), (0, .ref ko), (1, vi s), (2, vi b)] dX10_far_70 (by decide) rfl ?_
          have J99 : ∀ (w3 : Int), (w3 = if BX b / 2 ^ i.toNat % 2 = 1 ∧ w1 + w2 < le then w1 + w2 else le) → gW g x [(ko, cO 10 (kF th hr nL nO Q nY nE nR nB A)), (A 23, cA g 6 EC), (A 33, cA g 5 BX)] 0 0 [(7, vi (w1 + w2)), (6, vi (((EC s) % 4) - (i % 4))), (5, vi (((EC s) / 4) - (i / 4))), (4, vi i), (3, vi le), (0, .ref ko), (1, vi s), (2, vi b)] 99 [vi w3] := by
            intro w3 hJ99
            refine g_istore_n C [(3, vi w3), (7, vi (w1 + w2)), (6, vi (((EC s) % 4) - (i % 4))), (5, vi (((EC s) / 4) - (i / 4))), (4, vi i), (0, .ref ko), (1, vi s), (2, vi b)] dX10_far_99 (by decide) rfl ?_
            refine g_iinc C 4 [(4, vi (i + 1)), (3, vi w3), (7, vi (w1 + w2)), (6, vi (((EC s) % 4) - (i % 4))), (5, vi (((EC s) / 4) - (i / 4))), (0, .ref ko), (1, vi s), (2, vi b)] dX10_far_100 rfl (by decide) rfl ?_
            refine g_goto C 6 dX10_far_103 (by decide) ?_
            refine g_lv [(4, vi (i + 1)), (3, vi w3), (0, .ref ko), (1, vi s), (2, vi b)] [0, 1, 5, 6, 7] rfl ?_
            exact ih6 (i + 1) w3 ⟨by omega, by omega, by rw [hJ99, dst_s _ _ _ hi0, ← hl]; unfold dd9; rw [← hw1, ← hw2]; unfold mn; split <;> split <;> first | rfl | omega⟩ (by omega)
          refine g_aload_n C 5 dX10_far_72 rfl ?_
          refine g_getf C k_X10 33 f_X10_82 0 rfl rfl (by decide) rfl rfl dX10_far_73 ?_
          refine g_iload_n C 7 dX10_far_76 rfl ?_
          refine g_iald C 2 rfl (by omega) dX10_far_77 ?_
          have r3_77 := hBX b
          refine g_iload C 3 dX10_far_78 rfl ?_
          have hp9 := pw_le (b := BX b) (c := i) (hBX b).1
          refine g_ishr C dX10_far_80 (by omega) (by omega) ?_
          refine g_iconst C dX10_far_81 ?_
          refine g_iand1 C dX10_far_82 (by omega) ?_
          refine g_iconst C dX10_far_83 ?_
          refine g_icmp_ne C 98 dX10_far_84 (by decide) (by omega) (by omega) (fun c84 => ?_) (fun c84 => ?_)
          · refine g_iload_n C 4 dX10_far_98 rfl ?_
            exact J99 le (by omega)
          refine g_iload C 0 dX10_far_87 rfl ?_
          refine g_iload_n C 4 dX10_far_89 rfl ?_
          refine g_icmp_ge C 98 dX10_far_90 (by decide) (by omega) (by omega) (fun c90 => ?_) (fun c90 => ?_)
          · refine g_iload_n C 4 dX10_far_98 rfl ?_
            exact J99 le (by omega)
          refine g_iload C 0 dX10_far_93 rfl ?_
          refine g_goto C 99 dX10_far_95 (by decide) ?_
          exact J99 (w1 + w2) (by omega)
        refine g_iload C 0 dX10_far_56 rfl ?_
        refine g_if_ge C 67 dX10_far_58 (by decide) (by omega) (fun c58 => ?_) (fun c58 => ?_)
        · refine g_iload C 0 dX10_far_67 rfl ?_
          exact J69 (((EC s) % 4) - (i % 4)) (by omega)
        refine g_iload C 0 dX10_far_61 rfl ?_
        refine g_ineg C dX10_far_63 ?_
        refine g_goto C 69 dX10_far_64 (by decide) ?_
        exact J69 (-(((EC s) % 4) - (i % 4))) (by omega)
      refine g_iload C 1 dX10_far_43 rfl ?_
      refine g_if_ge C 54 dX10_far_45 (by decide) (by omega) (fun c45 => ?_) (fun c45 => ?_)
      · refine g_iload C 1 dX10_far_54 rfl ?_
        exact J56 (((EC s) / 4) - (i / 4)) (by omega)
      refine g_iload C 1 dX10_far_48 rfl ?_
      refine g_ineg C dX10_far_50 ?_
      refine g_goto C 56 dX10_far_51 (by decide) ?_
      exact J56 (-(((EC s) / 4) - (i / 4))) (by omega)
  exact L6 _ 0 16 ⟨by omega, by omega, rfl⟩ (Nat.lt_succ_self _)

set_option maxHeartbeats 4000000 in
set_option maxRecDepth 100000 in
theorem c_X10_instead (l : Launch) (g : gD) (ko : Nat) (A : Nat → Nat) (th : Int) (hr : Int) (nL : Int) (nO : Int) (Q : Int) (nY : Int) (nE : Int) (nR : Int) (nB : Int) (EC : Int → Int) (EF : Int → Int) (BX : Int → Int) (BL : Int → Int) (b : Int) (hEC : ∀ k, 0 ≤ EC k ∧ EC k ≤ 15) (hEF : ∀ k, 0 ≤ EF k ∧ EF k ≤ 2200) (hBX : ∀ k, 0 ≤ BX k ∧ BX k ≤ 65535) (hBL : ∀ k, 0 ≤ BL k ∧ BL k ≤ 2199) (hnE : 0 ≤ nE ∧ nE ≤ 6) (hb5 : 0 ≤ b ∧ b < 5) (hbx1 : 1 ≤ BX b) (hb : -2147483648 ≤ b ∧ b < 2147483648) : gMet l g yX10_instead cX10_instead 4 (some .int) 1 0 0 27 [.ref ko, vi b] [(ko, cO 10 (kF th hr nL nO Q nY nE nR nB A)), (A 23, cA g 6 EC), (A 24, cA g 6 EF), (A 33, cA g 5 BX), (A 35, cA g 5 BL)] (gM (some (vi (sti EC EF (BX b) (BL b) nE))) [(ko, cO 10 (kF th hr nL nO Q nY nE nR nB A)), (A 23, cA g 6 EC), (A 24, cA g 6 EF), (A 33, cA g 5 BX), (A 35, cA g 5 BL)]) := by
  refine gMet.of y_X10_instead.2.2.2.2.1 (Nat.le_of_ble_eq_true rfl) ?_
  intro x hlx C hR hnm
  subst hlx
  have C : gC g x RX10 cX10_instead 4 1 0 0 27 := C
  show gW g x [(ko, cO 10 (kF th hr nL nO Q nY nE nR nB A)), (A 23, cA g 6 EC), (A 24, cA g 6 EF), (A 33, cA g 5 BX), (A 35, cA g 5 BL)] 0 0 [(0, .ref ko), (1, vi b)] 0 []
  refine g_iconst C dX10_instead_0 ?_
  refine g_istore_n C [(2, vi (-1)), (0, .ref ko), (1, vi b)] dX10_instead_1 (by decide) rfl ?_
  refine g_iconst C dX10_instead_2 ?_
  refine g_istore_n C [(3, vi 0), (2, vi (-1)), (0, .ref ko), (1, vi b)] dX10_instead_3 (by decide) rfl ?_
  have L4 : ∀ (f : Nat) (fo : Int) (i : Int), (0 ≤ i ∧ i ≤ nE ∧ fo = stn EF (fun s => dst (BX b) (EC s) 6 16) (BL b) i ∧ ¬ hls EC EF (BX b) (BL b) i) → (nE - i).toNat < f → gW g x [(ko, cO 10 (kF th hr nL nO Q nY nE nR nB A)), (A 23, cA g 6 EC), (A 24, cA g 6 EF), (A 33, cA g 5 BX), (A 35, cA g 5 BL)] 0 0 [(3, vi i), (2, vi fo), (0, .ref ko), (1, vi b)] 4 [] := by
    intro f
    induction f with
    | zero => intro fo i hI4 hf; exact absurd hf (Nat.not_lt_zero _)
    | succ f ih4 =>
      intro fo i hI4 hf4
      obtain ⟨hi0, hi1, hfo, hno⟩ := hI4
      have hs9 := stn_r EF (fun s => dst (BX b) (EC s) 6 16) (BL b) hi0
      have hd9 := dst_r (b := BX b) (c := EC i) (init := 6) (hEC i) (by omega) (n := 16) (by omega)
      have hd8 := dst_r (b := BX b) (c := EC fo) (init := 6) (hEC fo) (by omega) (n := 16) (by omega)
      refine g_iload_n C 0 dX10_instead_4 rfl ?_
      refine g_aload_n C 2 dX10_instead_5 rfl ?_
      refine g_getf C k_X10 22 f_X10_188 0 rfl rfl (by decide) rfl rfl dX10_instead_6 ?_
      refine g_icmp_ge C 73 dX10_instead_9 (by decide) (by omega) (by omega) (fun c9 => ?_) (fun c9 => ?_)
      · refine g_iload_n C 1 dX10_instead_73 rfl ?_
        exact g_iretM C hR dX10_instead_74 (by rw [hfo, ← show i = nE by omega]; exact (sti_f hno).symm) rfl rfl
      have J32 : (¬ (inb EC (BX b) i = 1 ∧ BL b < EF i)) → gW g x [(ko, cO 10 (kF th hr nL nO Q nY nE nR nB A)), (A 23, cA g 6 EC), (A 24, cA g 6 EF), (A 33, cA g 5 BX), (A 35, cA g 5 BL)] 0 0 [(3, vi i), (2, vi fo), (0, .ref ko), (1, vi b)] 32 [] := by
        intro  hJ32
        have hc9 := hJ32
        have J66 : ∀ (w9 : Int), (w9 = if BL b < EF i ∧ (fo = -1 ∨ dst (BX b) (EC i) 6 16 < dst (BX b) (EC fo) 6 16) then i else fo) → gW g x [(ko, cO 10 (kF th hr nL nO Q nY nE nR nB A)), (A 23, cA g 6 EC), (A 24, cA g 6 EF), (A 33, cA g 5 BX), (A 35, cA g 5 BL)] 0 0 [(3, vi i), (2, vi fo), (0, .ref ko), (1, vi b)] 66 [vi w9] := by
          intro w9 hJ66
          refine g_istore_n C [(2, vi w9), (3, vi i), (0, .ref ko), (1, vi b)] dX10_instead_66 (by decide) rfl ?_
          refine g_iinc C 1 [(3, vi (i + 1)), (2, vi w9), (0, .ref ko), (1, vi b)] dX10_instead_67 rfl (by decide) rfl ?_
          refine g_goto C 4 dX10_instead_70 (by decide) ?_
          exact ih4 w9 (i + 1) ⟨by omega, by omega, by rw [hJ66, stn_s _ _ _ hi0, ← hfo], hls_no hno hc9⟩ (by omega)
        refine g_aload_n C 2 dX10_instead_32 rfl ?_
        refine g_iload_n C 0 dX10_instead_33 rfl ?_
        refine g_iload_n C 3 dX10_instead_34 rfl ?_
        refine g_callVp C [vi i, vi b] [] (c_X10_lasts x.1.2.1 g ko A th hr nL nO Q nY nE nR nB EF BL i b hEF hBL hb5 (by omega) (by omega) hb) y_X10_lasts l_X10_276 [0, 2, 4] rfl (by decide) 0 rfl rfl rfl (Nat.le_of_ble_eq_true rfl) rfl (by decide) dX10_instead_35 ?_
        refine g_if_eq C 65 dX10_instead_38 (by decide) (by omega) (fun c38 => ?_) (fun c38 => ?_)
        · refine g_iload_n C 1 dX10_instead_65 rfl ?_
          exact J66 fo (by omega)
        refine g_iload_n C 1 dX10_instead_41 rfl ?_
        refine g_iconst C dX10_instead_42 ?_
        refine g_icmp_eq C 61 dX10_instead_43 (by decide) (by omega) (by omega) (fun c43 => ?_) (fun c43 => ?_)
        · refine g_iload_n C 0 dX10_instead_61 rfl ?_
          refine g_goto C 66 dX10_instead_62 (by decide) ?_
          exact J66 i (by omega)
        refine g_aload_n C 2 dX10_instead_46 rfl ?_
        refine g_iload_n C 0 dX10_instead_47 rfl ?_
        refine g_iload_n C 3 dX10_instead_48 rfl ?_
        refine g_callVp C [vi i, vi b] [] (c_X10_far x.1.2.1 g ko A th hr nL nO Q nY nE nR nB EC BX i b hEC hBX hb5 (by omega) hbx1 (by omega) hb) y_X10_far l_X10_279 [0, 1, 3] rfl (by decide) 0 rfl rfl rfl (Nat.le_of_ble_eq_true rfl) rfl (by decide) dX10_instead_49 ?_
        refine g_aload_n C 2 dX10_instead_52 rfl ?_
        refine g_iload_n C 1 dX10_instead_53 rfl ?_
        refine g_iload_n C 3 dX10_instead_54 rfl ?_
        refine g_callVp C [vi fo, vi b] [vi (dst (BX b) (EC i) 6 16)] (c_X10_far x.1.2.1 g ko A th hr nL nO Q nY nE nR nB EC BX fo b hEC hBX hb5 (by omega) hbx1 (by omega) hb) y_X10_far l_X10_279 [0, 1, 3] rfl (by decide) 0 rfl rfl rfl (Nat.le_of_ble_eq_true rfl) rfl (by decide) dX10_instead_55 ?_
        refine g_icmp_ge C 65 dX10_instead_58 (by decide) (by omega) (by omega) (fun c58 => ?_) (fun c58 => ?_)
        · refine g_iload_n C 1 dX10_instead_65 rfl ?_
          exact J66 fo (by omega)
        refine g_iload_n C 0 dX10_instead_61 rfl ?_
        refine g_goto C 66 dX10_instead_62 (by decide) ?_
        exact J66 i (by omega)
      refine g_aload_n C 2 dX10_instead_12 rfl ?_
      refine g_iload_n C 0 dX10_instead_13 rfl ?_
      refine g_iload_n C 3 dX10_instead_14 rfl ?_
      refine g_callVp C [vi i, vi b] [] (c_X10_isInBox x.1.2.1 g ko A th hr nL nO Q nY nE nR nB EC BX i b hEC hBX hb5 (by omega) (by omega) hb) y_X10_isInBox l_X10_273 [0, 1, 3] rfl (by decide) 0 rfl rfl rfl (Nat.le_of_ble_eq_true rfl) rfl (by decide) dX10_instead_15 ?_
      refine g_if_eq C 32 dX10_instead_18 (by decide) (by omega) (fun c18 => ?_) (fun c18 => ?_)
      · exact J32  (by omega)
      refine g_aload_n C 2 dX10_instead_21 rfl ?_
      refine g_iload_n C 0 dX10_instead_22 rfl ?_
      refine g_iload_n C 3 dX10_instead_23 rfl ?_
      refine g_callVp C [vi i, vi b] [] (c_X10_lasts x.1.2.1 g ko A th hr nL nO Q nY nE nR nB EF BL i b hEF hBL hb5 (by omega) (by omega) hb) y_X10_lasts l_X10_276 [0, 2, 4] rfl (by decide) 0 rfl rfl rfl (Nat.le_of_ble_eq_true rfl) rfl (by decide) dX10_instead_24 ?_
      refine g_if_eq C 32 dX10_instead_27 (by decide) (by omega) (fun c27 => ?_) (fun c27 => ?_)
      · exact J32  (by omega)
      refine g_iconst C dX10_instead_30 ?_
      exact g_iretM C hR dX10_instead_31 (sti_t ⟨i, by omega, by omega, by omega, by omega⟩).symm rfl rfl
  exact L4 _ (-1) 0 ⟨by omega, by omega, rfl, fun ⟨_, h0, h1, _⟩ => by omega⟩ (Nat.lt_succ_self _)

set_option maxHeartbeats 4000000 in
set_option maxRecDepth 100000 in
theorem c_X10_index (l : Launch) (g : gD) (ko : Nat) (A : Nat → Nat) (th : Int) (hr : Int) (nL : Int) (nO : Int) (Q : Int) (nY : Int) (nE : Int) (nR : Int) (nB : Int) (EC : Int → Int) (EF : Int → Int) (ES : Int → Int) (EH : Int → Int) (EP : Int → Int) (EX : Int → Int) (BQ : Int → Int) (BX : Int → Int) (BF : Int → Int) (BL : Int → Int) (b : Int) (hEC : ∀ k, 0 ≤ EC k ∧ EC k ≤ 15) (hEF : ∀ k, 0 ≤ EF k ∧ EF k ≤ 2200) (hES : ∀ k, 0 ≤ ES k ∧ ES k ≤ 5) (hEH : ∀ k, 0 ≤ EH k ∧ EH k ≤ 2199) (hEP : ∀ k, 0 ≤ EP k ∧ EP k ≤ 2) (hEX : ∀ k, 0 ≤ EX k ∧ EX k ≤ 9) (hBQ : ∀ k, 0 ≤ BQ k ∧ BQ k ≤ 2) (hBX : ∀ k, 0 ≤ BX k ∧ BX k ≤ 65535) (hBF : ∀ k, 0 ≤ BF k ∧ BF k ≤ 2199) (hBL : ∀ k, 0 ≤ BL k ∧ BL k ≤ 2199) (hnE : 0 ≤ nE ∧ nE ≤ 6) (hnR : 0 ≤ nR ∧ nR ≤ 60) (hb5 : 0 ≤ b ∧ b < 5) (hbx1 : 1 ≤ BX b) (hb : -2147483648 ≤ b ∧ b < 2147483648) : gMet l g yX10_index cX10_index 8 (some .int) 2 0 0 50 [.ref ko, vi b] [(ko, cO 10 (kF th hr nL nO Q nY nE nR nB A)), (A 23, cA g 6 EC), (A 24, cA g 6 EF), (A 26, cA g 60 ES), (A 27, cA g 60 EH), (A 28, cA g 60 EP), (A 29, cA g 60 EX), (A 32, cA g 5 BQ), (A 33, cA g 5 BX), (A 34, cA g 5 BF), (A 35, cA g 5 BL)] (gM (some (vi (idx9 EC EF ES EH EP EX nE nR BQ BX BF BL b))) [(ko, cO 10 (kF th hr nL nO Q nY nE nR nB A)), (A 23, cA g 6 EC), (A 24, cA g 6 EF), (A 26, cA g 60 ES), (A 27, cA g 60 EH), (A 28, cA g 60 EP), (A 29, cA g 60 EX), (A 32, cA g 5 BQ), (A 33, cA g 5 BX), (A 34, cA g 5 BF), (A 35, cA g 5 BL)]) := by
  refine gMet.of y_X10_index.2.2.2.2.1 (Nat.le_of_ble_eq_true rfl) ?_
  intro x hlx C hR hnm
  subst hlx
  have C : gC g x RX10 cX10_index 8 2 0 0 50 := C
  show gW g x [(ko, cO 10 (kF th hr nL nO Q nY nE nR nB A)), (A 23, cA g 6 EC), (A 24, cA g 6 EF), (A 26, cA g 60 ES), (A 27, cA g 60 EH), (A 28, cA g 60 EP), (A 29, cA g 60 EX), (A 32, cA g 5 BQ), (A 33, cA g 5 BX), (A 34, cA g 5 BF), (A 35, cA g 5 BL)] 0 0 [(0, .ref ko), (1, vi b)] 0 []
  refine g_aload_n C 0 dX10_index_0 rfl ?_
  refine g_iload_n C 1 dX10_index_1 rfl ?_
  refine g_callVp C [vi b] [] (c_X10_instead x.1.2.1 g ko A th hr nL nO Q nY nE nR nB EC EF BX BL b hEC hEF hBX hBL hnE hb5 hbx1 hb) y_X10_instead l_X10_282 [0, 1, 2, 8, 10] rfl (by decide) 0 rfl rfl rfl (Nat.le_of_ble_eq_true rfl) rfl (by decide) dX10_index_2 ?_
  refine g_istore_n C [(2, vi (sti EC EF (BX b) (BL b) nE)), (0, .ref ko), (1, vi b)] dX10_index_5 (by decide) rfl ?_
  refine g_iconst C dX10_index_6 ?_
  refine g_istore_n C [(3, vi 0), (2, vi (sti EC EF (BX b) (BL b) nE)), (0, .ref ko), (1, vi b)] dX10_index_7 (by decide) rfl ?_
  refine g_iconst C dX10_index_8 ?_
  refine g_istore C [(4, vi 0), (3, vi 0), (2, vi (sti EC EF (BX b) (BL b) nE)), (0, .ref ko), (1, vi b)] dX10_index_9 (by decide) rfl ?_
  have L11 : ∀ (f : Nat) (i : Int) (gr : Int), (0 ≤ i ∧ i ≤ nR ∧ gr = gst (cnd EC EF ES EH EP (sti EC EF (BX b) (BL b) nE) (BX b) (BQ b) (BF b) (BL b)) EX i) → (nR - i).toNat < f → gW g x [(ko, cO 10 (kF th hr nL nO Q nY nE nR nB A)), (A 23, cA g 6 EC), (A 24, cA g 6 EF), (A 26, cA g 60 ES), (A 27, cA g 60 EH), (A 28, cA g 60 EP), (A 29, cA g 60 EX), (A 32, cA g 5 BQ), (A 33, cA g 5 BX), (A 34, cA g 5 BF), (A 35, cA g 5 BL)] 0 0 [(4, vi i), (3, vi gr), (2, vi (sti EC EF (BX b) (BL b) nE)), (0, .ref ko), (1, vi b)] 11 [] := by
    intro f
    induction f with
    | zero => intro i gr hI11 hf; exact absurd hf (Nat.not_lt_zero _)
    | succ f ih11 =>
      intro i gr hI11 hf11
      obtain ⟨hi0, hi1, hg⟩ := hI11
      have hg9 := gst_r (P := (cnd EC EF ES EH EP (sti EC EF (BX b) (BL b) nE) (BX b) (BQ b) (BF b) (BL b))) hEX hi0
      have hs9 := sti_r EC EF (BX b) (BL b) hnE.1
      have he9 := hES i
      have hx9 := hEX i
      refine g_iload C 0 dX10_index_11 rfl ?_
      refine g_aload_n C 3 dX10_index_13 rfl ?_
      refine g_getf C k_X10 25 f_X10_194 0 rfl rfl (by decide) rfl rfl dX10_index_14 ?_
      refine g_icmp_ge C 161 dX10_index_17 (by decide) (by omega) (by omega) (fun c17 => ?_) (fun c17 => ?_)
      · refine g_iload_n C 1 dX10_index_161 rfl ?_
        exact g_iretM C hR dX10_index_162 (by rw [hg, show i = nR by omega]; rfl) rfl rfl
      refine g_aload_n C 3 dX10_index_20 rfl ?_
      refine g_getf C k_X10 26 f_X10_64 0 rfl rfl (by decide) rfl rfl dX10_index_21 ?_
      refine g_iload C 0 dX10_index_24 rfl ?_
      refine g_iald C 3 rfl (by omega) dX10_index_26 ?_
      have r1_26 := hES i
      refine g_istore C [(5, vi (ES i)), (4, vi i), (3, vi gr), (2, vi (sti EC EF (BX b) (BL b) nE)), (0, .ref ko), (1, vi b)] dX10_index_27 (by decide) rfl ?_
      have J55 : ∀ (w9 : Int), ((w9 = 1 ↔ ((sti EC EF (BX b) (BL b) nE = -1 → inb EC (BX b) (ES i) = 1) ∧ (¬ sti EC EF (BX b) (BL b) nE = -1 → ES i = sti EC EF (BX b) (BL b) nE))) ∧ 0 ≤ w9 ∧ w9 ≤ 1) → gW g x [(ko, cO 10 (kF th hr nL nO Q nY nE nR nB A)), (A 23, cA g 6 EC), (A 24, cA g 6 EF), (A 26, cA g 60 ES), (A 27, cA g 60 EH), (A 28, cA g 60 EP), (A 29, cA g 60 EX), (A 32, cA g 5 BQ), (A 33, cA g 5 BX), (A 34, cA g 5 BF), (A 35, cA g 5 BL)] 0 0 [(5, vi (ES i)), (4, vi i), (3, vi gr), (2, vi (sti EC EF (BX b) (BL b) nE)), (0, .ref ko), (1, vi b)] 55 [vi w9] := by
        intro w9 hJ55
        refine g_istore C [(6, vi w9), (5, vi (ES i)), (4, vi i), (3, vi gr), (2, vi (sti EC EF (BX b) (BL b) nE)), (0, .ref ko), (1, vi b)] dX10_index_55 (by decide) rfl ?_
        have J125 : ∀ (u9 : Int), ((u9 = 1 ∧ (cnd EC EF ES EH EP (sti EC EF (BX b) (BL b) nE) (BX b) (BQ b) (BF b) (BL b)) i) ∨ (u9 = 0 ∧ ¬ (cnd EC EF ES EH EP (sti EC EF (BX b) (BL b) nE) (BX b) (BQ b) (BF b) (BL b)) i)) → gW g x [(ko, cO 10 (kF th hr nL nO Q nY nE nR nB A)), (A 23, cA g 6 EC), (A 24, cA g 6 EF), (A 26, cA g 60 ES), (A 27, cA g 60 EH), (A 28, cA g 60 EP), (A 29, cA g 60 EX), (A 32, cA g 5 BQ), (A 33, cA g 5 BX), (A 34, cA g 5 BF), (A 35, cA g 5 BL)] 0 0 [(6, vi w9), (5, vi (ES i)), (4, vi i), (3, vi gr), (2, vi (sti EC EF (BX b) (BL b) nE)), (0, .ref ko), (1, vi b)] 125 [vi u9] := by
          intro u9 hJ125
          have hu01 : 0 ≤ u9 ∧ u9 ≤ 1 := by rcases hJ125 with ⟨e, _⟩ | ⟨e, _⟩ <;> omega
          refine g_istore C [(7, vi u9), (6, vi w9), (5, vi (ES i)), (4, vi i), (3, vi gr), (2, vi (sti EC EF (BX b) (BL b) nE)), (0, .ref ko), (1, vi b)] dX10_index_125 (by decide) rfl ?_
          have J154 : ∀ (v9 : Int), (v9 = gst (cnd EC EF ES EH EP (sti EC EF (BX b) (BL b) nE) (BX b) (BQ b) (BF b) (BL b)) EX (i + 1)) → gW g x [(ko, cO 10 (kF th hr nL nO Q nY nE nR nB A)), (A 23, cA g 6 EC), (A 24, cA g 6 EF), (A 26, cA g 60 ES), (A 27, cA g 60 EH), (A 28, cA g 60 EP), (A 29, cA g 60 EX), (A 32, cA g 5 BQ), (A 33, cA g 5 BX), (A 34, cA g 5 BF), (A 35, cA g 5 BL)] 0 0 [(7, vi u9), (6, vi w9), (5, vi (ES i)), (4, vi i), (3, vi gr), (2, vi (sti EC EF (BX b) (BL b) nE)), (0, .ref ko), (1, vi b)] 154 [vi v9] := by
            intro v9 hJ154
            refine g_istore_n C [(3, vi v9), (7, vi u9), (6, vi w9), (5, vi (ES i)), (4, vi i), (2, vi (sti EC EF (BX b) (BL b) nE)), (0, .ref ko), (1, vi b)] dX10_index_154 (by decide) rfl ?_
            refine g_iinc C 4 [(4, vi (i + 1)), (3, vi v9), (7, vi u9), (6, vi w9), (5, vi (ES i)), (2, vi (sti EC EF (BX b) (BL b) nE)), (0, .ref ko), (1, vi b)] dX10_index_155 rfl (by decide) rfl ?_
            refine g_goto C 11 dX10_index_158 (by decide) ?_
            refine g_lv [(4, vi (i + 1)), (3, vi v9), (2, vi (sti EC EF (BX b) (BL b) nE)), (0, .ref ko), (1, vi b)] [0, 1, 5, 6, 7] rfl ?_
            exact ih11 (i + 1) v9 ⟨by omega, by omega, hJ154⟩ (by omega)
          refine g_iload C 0 dX10_index_127 rfl ?_
          refine g_if_eq C 153 dX10_index_129 (by decide) (by omega) (fun c129 => ?_) (fun c129 => ?_)
          · refine g_iload_n C 4 dX10_index_153 rfl ?_
            exact J154 gr (by rcases hJ125 with ⟨e, z⟩ | ⟨e, z⟩ <;> first | (exfalso; omega) | (rw [gst_f hi0 z, ← hg]; done) | (rw [gst_t hi0 z, ← hg, if_pos (by omega)]; done) | (rw [gst_t hi0 z, ← hg, if_neg (by omega)]; done))
          refine g_aload_n C 6 dX10_index_132 rfl ?_
          refine g_getf C k_X10 29 f_X10_73 0 rfl rfl (by decide) rfl rfl dX10_index_133 ?_
          refine g_iload C 3 dX10_index_136 rfl ?_
          refine g_iald C 6 rfl (by omega) dX10_index_138 ?_
          have r2_138 := hEX i
          refine g_iload_n C 4 dX10_index_139 rfl ?_
          refine g_icmp_le C 153 dX10_index_140 (by decide) (by omega) (by omega) (fun c140 => ?_) (fun c140 => ?_)
          · refine g_iload_n C 4 dX10_index_153 rfl ?_
            exact J154 gr (by rcases hJ125 with ⟨e, z⟩ | ⟨e, z⟩ <;> first | (exfalso; omega) | (rw [gst_f hi0 z, ← hg]; done) | (rw [gst_t hi0 z, ← hg, if_pos (by omega)]; done) | (rw [gst_t hi0 z, ← hg, if_neg (by omega)]; done))
          refine g_aload_n C 6 dX10_index_143 rfl ?_
          refine g_getf C k_X10 29 f_X10_73 0 rfl rfl (by decide) rfl rfl dX10_index_144 ?_
          refine g_iload C 3 dX10_index_147 rfl ?_
          refine g_iald C 6 rfl (by omega) dX10_index_149 ?_
          have r3_149 := hEX i
          refine g_goto C 154 dX10_index_150 (by decide) ?_
          exact J154 (EX i) (by rcases hJ125 with ⟨e, z⟩ | ⟨e, z⟩ <;> first | (exfalso; omega) | (rw [gst_f hi0 z, ← hg]; done) | (rw [gst_t hi0 z, ← hg, if_pos (by omega)]; done) | (rw [gst_t hi0 z, ← hg, if_neg (by omega)]; done))
        refine g_iload C 0 dX10_index_57 rfl ?_
        refine g_if_eq C 124 dX10_index_59 (by decide) (by omega) (fun c59 => ?_) (fun c59 => ?_)
        · refine g_iconst C dX10_index_124 ?_
          exact J125 0 (by first | exact Or.inl ⟨rfl, by omega, by omega, by omega, by omega, by omega, by omega⟩ | exact Or.inr ⟨rfl, fun z => by obtain ⟨z1, z2, z3, z4, z5, z6⟩ := z; omega⟩)
        refine g_aload_n C 5 dX10_index_62 rfl ?_
        refine g_getf C k_X10 28 f_X10_70 0 rfl rfl (by decide) rfl rfl dX10_index_63 ?_
        refine g_iload C 2 dX10_index_66 rfl ?_
        refine g_iald C 5 rfl (by omega) dX10_index_68 ?_
        have r4_68 := hEP i
        refine g_aload_n C 5 dX10_index_69 rfl ?_
        refine g_getf C k_X10 32 f_X10_79 0 rfl rfl (by decide) rfl rfl dX10_index_70 ?_
        refine g_iload_n C 6 dX10_index_73 rfl ?_
        refine g_iald C 7 rfl (by omega) dX10_index_74 ?_
        have r5_74 := hBQ b
        refine g_icmp_ne C 124 dX10_index_75 (by decide) (by omega) (by omega) (fun c75 => ?_) (fun c75 => ?_)
        · refine g_iconst C dX10_index_124 ?_
          exact J125 0 (by first | exact Or.inl ⟨rfl, by omega, by omega, by omega, by omega, by omega, by omega⟩ | exact Or.inr ⟨rfl, fun z => by obtain ⟨z1, z2, z3, z4, z5, z6⟩ := z; omega⟩)
        refine g_aload_n C 5 dX10_index_78 rfl ?_
        refine g_getf C k_X10 27 f_X10_67 0 rfl rfl (by decide) rfl rfl dX10_index_79 ?_
        refine g_iload C 2 dX10_index_82 rfl ?_
        refine g_iald C 4 rfl (by omega) dX10_index_84 ?_
        have r6_84 := hEH i
        refine g_aload_n C 5 dX10_index_85 rfl ?_
        refine g_getf C k_X10 34 f_X10_85 0 rfl rfl (by decide) rfl rfl dX10_index_86 ?_
        refine g_iload_n C 6 dX10_index_89 rfl ?_
        refine g_iald C 9 rfl (by omega) dX10_index_90 ?_
        have r7_90 := hBF b
        refine g_aload_n C 5 dX10_index_91 rfl ?_
        refine g_getf C k_X10 35 f_X10_88 0 rfl rfl (by decide) rfl rfl dX10_index_92 ?_
        refine g_iload_n C 6 dX10_index_95 rfl ?_
        refine g_iald C 10 rfl (by omega) dX10_index_96 ?_
        have r8_96 := hBL b
        refine g_callSp C [vi (EH i), vi (BF b), vi (BL b)] [] (c_X10_in x.1.2.1 g (EH i) (BF b) (BL b) (by omega) (by omega) (by omega)) y_X10_in l_X10_141 [] rfl (by decide) rfl (Nat.le_of_ble_eq_true rfl) rfl (by decide) dX10_index_97 ?_
        refine g_if_eq C 124 dX10_index_100 (by decide) (by omega) (fun c100 => ?_) (fun c100 => ?_)
        · refine g_iconst C dX10_index_124 ?_
          exact J125 0 (by first | exact Or.inl ⟨rfl, by omega, by omega, by omega, by omega, by omega, by omega⟩ | exact Or.inr ⟨rfl, fun z => by obtain ⟨z1, z2, z3, z4, z5, z6⟩ := z; omega⟩)
        refine g_aload_n C 5 dX10_index_103 rfl ?_
        refine g_getf C k_X10 27 f_X10_67 0 rfl rfl (by decide) rfl rfl dX10_index_104 ?_
        refine g_iload C 2 dX10_index_107 rfl ?_
        refine g_iald C 4 rfl (by omega) dX10_index_109 ?_
        have r9_109 := hEH i
        refine g_aload_n C 5 dX10_index_110 rfl ?_
        refine g_getf C k_X10 24 f_X10_61 0 rfl rfl (by decide) rfl rfl dX10_index_111 ?_
        refine g_iload C 1 dX10_index_114 rfl ?_
        refine g_iald C 2 rfl (by omega) dX10_index_116 ?_
        have r10_116 := hEF (ES i)
        refine g_icmp_ge C 124 dX10_index_117 (by decide) (by omega) (by omega) (fun c117 => ?_) (fun c117 => ?_)
        · refine g_iconst C dX10_index_124 ?_
          exact J125 0 (by first | exact Or.inl ⟨rfl, by omega, by omega, by omega, by omega, by omega, by omega⟩ | exact Or.inr ⟨rfl, fun z => by obtain ⟨z1, z2, z3, z4, z5, z6⟩ := z; omega⟩)
        refine g_iconst C dX10_index_120 ?_
        refine g_goto C 125 dX10_index_121 (by decide) ?_
        exact J125 1 (by first | exact Or.inl ⟨rfl, by omega, by omega, by omega, by omega, by omega, by omega⟩ | exact Or.inr ⟨rfl, fun z => by obtain ⟨z1, z2, z3, z4, z5, z6⟩ := z; omega⟩)
      refine g_iload_n C 3 dX10_index_29 rfl ?_
      refine g_iconst C dX10_index_30 ?_
      refine g_icmp_ne C 44 dX10_index_31 (by decide) (by omega) (by omega) (fun c31 => ?_) (fun c31 => ?_)
      · refine g_iload C 0 dX10_index_44 rfl ?_
        refine g_iload_n C 3 dX10_index_46 rfl ?_
        refine g_icmp_ne C 54 dX10_index_47 (by decide) (by omega) (by omega) (fun c47 => ?_) (fun c47 => ?_)
        · refine g_iconst C dX10_index_54 ?_
          exact J55 0 (by omega)
        refine g_iconst C dX10_index_50 ?_
        refine g_goto C 55 dX10_index_51 (by decide) ?_
        exact J55 1 (by omega)
      refine g_aload_n C 4 dX10_index_34 rfl ?_
      refine g_iload C 0 dX10_index_35 rfl ?_
      refine g_iload_n C 5 dX10_index_37 rfl ?_
      refine g_callVp C [vi (ES i), vi b] [] (c_X10_isInBox x.1.2.1 g ko A th hr nL nO Q nY nE nR nB EC BX (ES i) b hEC hBX hb5 (by omega) (by omega) hb) y_X10_isInBox l_X10_273 [0, 1, 8] rfl (by decide) 0 rfl rfl rfl (Nat.le_of_ble_eq_true rfl) rfl (by decide) dX10_index_38 ?_
      refine g_goto C 55 dX10_index_41 (by decide) ?_
      exact J55 (if inb EC (BX b) (ES i) = 1 then 1 else 0) (by omega)
  exact L11 _ 0 0 ⟨by omega, by omega, rfl⟩ (Nat.lt_succ_self _)

set_option maxHeartbeats 4000000 in
set_option maxRecDepth 100000 in
theorem c_X10_payout (l : Launch) (g : gD) (ko : Nat) (A : Nat → Nat) (th : Int) (hr : Int) (nL : Int) (nO : Int) (Q : Int) (nY : Int) (nE : Int) (nR : Int) (nB : Int) (EC : Int → Int) (EF : Int → Int) (ES : Int → Int) (EH : Int → Int) (EP : Int → Int) (EX : Int → Int) (BQ : Int → Int) (BX : Int → Int) (BF : Int → Int) (BL : Int → Int) (BP : Int → Int) (BT : Int → Int) (BC : Int → Int) (b : Int) (hEC : ∀ k, 0 ≤ EC k ∧ EC k ≤ 15) (hEF : ∀ k, 0 ≤ EF k ∧ EF k ≤ 2200) (hES : ∀ k, 0 ≤ ES k ∧ ES k ≤ 5) (hEH : ∀ k, 0 ≤ EH k ∧ EH k ≤ 2199) (hEP : ∀ k, 0 ≤ EP k ∧ EP k ≤ 2) (hEX : ∀ k, 0 ≤ EX k ∧ EX k ≤ 9) (hBQ : ∀ k, 0 ≤ BQ k ∧ BQ k ≤ 2) (hBX : ∀ k, 0 ≤ BX k ∧ BX k ≤ 65535) (hBF : ∀ k, 0 ≤ BF k ∧ BF k ≤ 2199) (hBL : ∀ k, 0 ≤ BL k ∧ BL k ≤ 2199) (hnE : 0 ≤ nE ∧ nE ≤ 6) (hnR : 0 ≤ nR ∧ nR ≤ 60) (hBP : ∀ k, 0 ≤ BP k ∧ BP k ≤ 999999) (hBT : ∀ k, 0 ≤ BT k ∧ BT k ≤ 9) (hBC : ∀ k, 0 ≤ BC k ∧ BC k ≤ 100) (hb5 : 0 ≤ b ∧ b < 5) (hbx1 : 1 ≤ BX b) (hb : -2147483648 ≤ b ∧ b < 2147483648) : gMet l g yX10_payout cX10_payout 5 (some .int) 3 0 0 77 [.ref ko, vi b] [(ko, cO 10 (kF th hr nL nO Q nY nE nR nB A)), (A 23, cA g 6 EC), (A 24, cA g 6 EF), (A 26, cA g 60 ES), (A 27, cA g 60 EH), (A 28, cA g 60 EP), (A 29, cA g 60 EX), (A 32, cA g 5 BQ), (A 33, cA g 5 BX), (A 34, cA g 5 BF), (A 35, cA g 5 BL), (A 31, cA g 5 BP), (A 36, cA g 5 BT), (A 37, cA g 5 BC)] (gM (some (vi (pyb EC EF ES EH EP EX nE nR BP BQ BX BF BL BT BC b))) [(ko, cO 10 (kF th hr nL nO Q nY nE nR nB A)), (A 23, cA g 6 EC), (A 24, cA g 6 EF), (A 26, cA g 60 ES), (A 27, cA g 60 EH), (A 28, cA g 60 EP), (A 29, cA g 60 EX), (A 32, cA g 5 BQ), (A 33, cA g 5 BX), (A 34, cA g 5 BF), (A 35, cA g 5 BL), (A 31, cA g 5 BP), (A 36, cA g 5 BT), (A 37, cA g 5 BC)]) := by
  refine gMet.of y_X10_payout.2.2.2.2.1 (Nat.le_of_ble_eq_true rfl) ?_
  intro x hlx C hR hnm
  subst hlx
  have C : gC g x RX10 cX10_payout 5 3 0 0 77 := C
  show gW g x [(ko, cO 10 (kF th hr nL nO Q nY nE nR nB A)), (A 23, cA g 6 EC), (A 24, cA g 6 EF), (A 26, cA g 60 ES), (A 27, cA g 60 EH), (A 28, cA g 60 EP), (A 29, cA g 60 EX), (A 32, cA g 5 BQ), (A 33, cA g 5 BX), (A 34, cA g 5 BF), (A 35, cA g 5 BL), (A 31, cA g 5 BP), (A 36, cA g 5 BT), (A 37, cA g 5 BC)] 0 0 [(0, .ref ko), (1, vi b)] 0 []
  refine g_aload_n C 0 dX10_payout_0 rfl ?_
  refine g_iload_n C 1 dX10_payout_1 rfl ?_
  refine g_callVp C [vi b] [] (c_X10_index x.1.2.1 g ko A th hr nL nO Q nY nE nR nB EC EF ES EH EP EX BQ BX BF BL b hEC hEF hES hEH hEP hEX hBQ hBX hBF hBL hnE hnR hb5 hbx1 hb) y_X10_index l_X10_285 [0, 1, 2, 3, 4, 5, 6, 7, 8, 9, 10] rfl (by decide) 0 rfl rfl rfl (Nat.le_of_ble_eq_true rfl) rfl (by decide) dX10_payout_2 ?_
  have hi9 := idx9_r hEX EC EF ES EH EP nE hnR BQ BX BF BL b
  have hbt := hBT b
  have hbp := hBP b
  have hm9 := mul_rng (hBC b) (hBP b)
  refine g_aload_n C 0 dX10_payout_5 rfl ?_
  refine g_getf C k_X10 36 f_X10_91 0 rfl rfl (by decide) rfl rfl dX10_payout_6 ?_
  refine g_iload_n C 1 dX10_payout_9 rfl ?_
  refine g_iald C 12 rfl (by omega) dX10_payout_10 ?_
  have r1_10 := hBT b
  refine g_isub C dX10_payout_11 ?_
  refine g_istore_n C [(2, vi ((idx9 EC EF ES EH EP EX nE nR BQ BX BF BL b) - (BT b))), (0, .ref ko), (1, vi b)] dX10_payout_12 (by decide) rfl ?_
  refine g_iload_n C 0 dX10_payout_13 rfl ?_
  refine g_if_ge C 19 dX10_payout_14 (by decide) (by omega) (fun c14 => ?_) (fun c14 => ?_)
  · refine g_aload_n C 1 dX10_payout_19 rfl ?_
    refine g_getf C k_X10 37 f_X10_94 0 rfl rfl (by decide) rfl rfl dX10_payout_20 ?_
    refine g_iload_n C 2 dX10_payout_23 rfl ?_
    refine g_iald C 13 rfl (by omega) dX10_payout_24 ?_
    have r2_24 := hBC b
    refine g_i2l C dX10_payout_25 (by omega) ?_
    refine g_aload_n C 1 dX10_payout_26 rfl ?_
    refine g_getf C k_X10 31 f_X10_76 0 rfl rfl (by decide) rfl rfl dX10_payout_27 ?_
    refine g_iload_n C 2 dX10_payout_30 rfl ?_
    refine g_iald C 11 rfl (by omega) dX10_payout_31 ?_
    have r3_31 := hBP b
    refine g_i2l C dX10_payout_32 (by omega) ?_
    refine g_lmul C dX10_payout_33 ?_
    refine g_ldc2 C (100) n_X10_173 (by decide) dX10_payout_34 ?_
    refine g_ldiv C dX10_payout_37 (by omega) (by omega) ?_
    refine g_l2i C dX10_payout_38 ?_
    refine g_istore_n C [(3, vi (((BC b) * (BP b)) / 100)), (2, vi ((idx9 EC EF ES EH EP EX nE nR BQ BX BF BL b) - (BT b))), (0, .ref ko), (1, vi b)] dX10_payout_39 (by decide) rfl ?_
    refine g_iconst C dX10_payout_40 ?_
    refine g_istore C [(4, vi 0), (3, vi (((BC b) * (BP b)) / 100)), (2, vi ((idx9 EC EF ES EH EP EX nE nR BQ BX BF BL b) - (BT b))), (0, .ref ko), (1, vi b)] dX10_payout_41 (by decide) rfl ?_
    have L43 : ∀ (f : Nat) (j : Int) (pa : Int), (0 ≤ j ∧ j ≤ idx9 EC EF ES EH EP EX nE nR BQ BX BF BL b - BT b ∧ pa = po9 (BP b) (BC b) j) → (idx9 EC EF ES EH EP EX nE nR BQ BX BF BL b - BT b - j).toNat < f → gW g x [(ko, cO 10 (kF th hr nL nO Q nY nE nR nB A)), (A 23, cA g 6 EC), (A 24, cA g 6 EF), (A 26, cA g 60 ES), (A 27, cA g 60 EH), (A 28, cA g 60 EP), (A 29, cA g 60 EX), (A 32, cA g 5 BQ), (A 33, cA g 5 BX), (A 34, cA g 5 BF), (A 35, cA g 5 BL), (A 31, cA g 5 BP), (A 36, cA g 5 BT), (A 37, cA g 5 BC)] 0 0 [(4, vi j), (3, vi pa), (2, vi ((idx9 EC EF ES EH EP EX nE nR BQ BX BF BL b) - (BT b))), (0, .ref ko), (1, vi b)] 43 [] := by
      intro f
      induction f with
      | zero => intro j pa hI43 hf; exact absurd hf (Nat.not_lt_zero _)
      | succ f ih43 =>
        intro j pa hI43 hf43
        obtain ⟨hj0, hj1, hp⟩ := hI43
        have hr9 := po9_r (hBP b) (hBC b) hj0
        refine g_iload C 0 dX10_payout_43 rfl ?_
        refine g_iload_n C 2 dX10_payout_45 rfl ?_
        refine g_icmp_ge C 68 dX10_payout_46 (by decide) (by omega) (by omega) (fun c46 => ?_) (fun c46 => ?_)
        · refine g_iload_n C 1 dX10_payout_68 rfl ?_
          exact g_iretM C hR dX10_payout_69 (by unfold pyb pyo; rw [if_neg (by omega), hp, show j = idx9 EC EF ES EH EP EX nE nR BQ BX BF BL b - BT b by omega]) rfl rfl
        refine g_iload_n C 1 dX10_payout_49 rfl ?_
        refine g_aload_n C 3 dX10_payout_50 rfl ?_
        refine g_getf C k_X10 31 f_X10_76 0 rfl rfl (by decide) rfl rfl dX10_payout_51 ?_
        refine g_iload_n C 4 dX10_payout_54 rfl ?_
        refine g_iald C 11 rfl (by omega) dX10_payout_55 ?_
        have r4_55 := hBP b
        refine g_iload_n C 1 dX10_payout_56 rfl ?_
        refine g_isub C dX10_payout_57 ?_
        refine g_iconst C dX10_payout_58 ?_
        refine g_idiv C dX10_payout_59 (by omega) (by omega) ?_
        refine g_iadd C dX10_payout_60 ?_
        refine g_istore_n C [(3, vi (pa + (((BP b) - pa) / 2))), (4, vi j), (2, vi ((idx9 EC EF ES EH EP EX nE nR BQ BX BF BL b) - (BT b))), (0, .ref ko), (1, vi b)] dX10_payout_61 (by decide) rfl ?_
        refine g_iinc C 1 [(4, vi (j + 1)), (3, vi (pa + (((BP b) - pa) / 2))), (2, vi ((idx9 EC EF ES EH EP EX nE nR BQ BX BF BL b) - (BT b))), (0, .ref ko), (1, vi b)] dX10_payout_62 rfl (by decide) rfl ?_
        refine g_goto C 43 dX10_payout_65 (by decide) ?_
        exact ih43 (j + 1) (pa + (((BP b) - pa) / 2)) ⟨by omega, by omega, by rw [po9_s _ _ hj0, ← hp]⟩ (by omega)
    exact L43 _ 0 (((BC b) * (BP b)) / 100) ⟨by omega, by omega, rfl⟩ (Nat.lt_succ_self _)
  refine g_iconst C dX10_payout_17 ?_
  exact g_iretM C hR dX10_payout_18 (by unfold pyb pyo; rw [if_pos (by omega)]) rfl rfl

