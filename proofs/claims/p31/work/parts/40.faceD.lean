theorem gvd_hit {VH : Int → Int} {n : Int} (hr : ∀ a b, 0 ≤ a → a < b → b < n → VH a < VH b) (LP LH LU : Int → Int) (p z : Int) (hz : 0 ≤ LU z ∧ LU z ≤ 99999) : ∀ m, 0 ≤ m → m ≤ n → (0 ≤ sm (fun a => utl LP LH LU p (VH a) z) m ∧ sm (fun a => utl LP LH LU p (VH a) z) m ≤ 99999) ∧ ((∀ a, 0 ≤ a → a < m → VH a < LH z) ∨ LP z ≠ p ∨ (∃ a, 0 ≤ a ∧ a < m ∧ LH z ≤ VH a)) ∧ ((∀ a, 0 ≤ a → a < m → ¬ LH z = VH a) → sm (fun a => utl LP LH LU p (VH a) z) m = 0) := by
  intro m hm
  refine sm_ind (P := fun m => m ≤ n → (0 ≤ sm (fun a => utl LP LH LU p (VH a) z) m ∧ sm (fun a => utl LP LH LU p (VH a) z) m ≤ 99999) ∧ ((∀ a, 0 ≤ a → a < m → VH a < LH z) ∨ LP z ≠ p ∨ (∃ a, 0 ≤ a ∧ a < m ∧ LH z ≤ VH a)) ∧ ((∀ a, 0 ≤ a → a < m → ¬ LH z = VH a) → sm (fun a => utl LP LH LU p (VH a) z) m = 0)) (fun _ => ⟨by rw [sm_0]; omega, Or.inl (fun a a0 a1 => by omega), fun _ => rfl⟩) (fun i hi ih him => ?_) m hm
  obtain ⟨h1, h2, h3⟩ := ih (by omega)
  have hu : 0 ≤ utl LP LH LU p (VH i) z ∧ utl LP LH LU p (VH i) z ≤ 99999 := by unfold utl; split <;> omega
  refine ⟨?_, ?_, ?_⟩
  · rw [sm_s _ hi]
    show 0 ≤ _ + utl LP LH LU p (VH i) z ∧ _ + utl LP LH LU p (VH i) z ≤ 99999
    by_cases e : LH z = VH i
    · rw [h3 (fun a a0 a1 q => by have := hr a i a0 a1 (by omega); omega)]; omega
    · have : utl LP LH LU p (VH i) z = 0 := by unfold utl; rw [if_neg (fun q => e q.2)]
      omega
  · by_cases e : LH z ≤ VH i
    · exact Or.inr (Or.inr ⟨i, hi, by omega, e⟩)
    · rcases h2 with h2 | h2 | ⟨a, a0, a1, a2⟩
      · refine Or.inl (fun a a0 a1 => ?_)
        by_cases q : a = i
        · subst q; omega
        · exact h2 a a0 (by omega)
      · exact Or.inr (Or.inl h2)
      · exact Or.inr (Or.inr ⟨a, a0, by omega, a2⟩)
  · intro h
    rw [sm_s _ hi, h3 (fun a a0 a1 => h a a0 (by omega))]
    show 0 + utl LP LH LU p (VH i) z = 0
    unfold utl; rw [if_neg (fun q => h i hi (by omega) q.2)]; omega
theorem gvd_sum {LP LH LU : Int → Int} {p : Int} {VH VU : Int → Int} {n nL : Int} (hLU : ∀ k, 0 ≤ LU k ∧ LU k ≤ 99999) (hnL : 0 ≤ nL ∧ nL ≤ 40) (h : gvd LP LH LU p VH VU n nL) : rise VH n ∧ (0 ≤ n ∧ n ≤ 40) ∧ (∀ k, 0 ≤ k → k < n → 0 ≤ VU k) ∧ sm VU n ≤ 3999960 := by
  obtain ⟨h1, h2, h3, h4, h5⟩ := h
  refine ⟨h2, by omega, fun k k0 k1 => ?_, ?_⟩
  · rw [h5 k k0 k1]
    have := sm_bound (F := utl LP LH LU p (VH k)) (lo := 0) (hi := 99999) hnL.1 (fun i _ _ => by have := hLU i; unfold utl; split <;> omega)
    omega
  · rw [sm_congr h1.1 (fun a a0 a1 => h5 a a0 a1), sm_swap (fun a z => utl LP LH LU p (VH a) z) h1.1 hnL.1]
    have := sm_bound (F := fun z => sm (fun a => utl LP LH LU p (VH a) z) n) (lo := 0) (hi := 99999) hnL.1 (fun z _ _ => (gvd_hit h2 LP LH LU p z (hLU z) n h1.1 (Int.le_refl _)).1)
    omega
/-- what is gathered is gathered one way -/
theorem gvd_one {LP LH LU : Int → Int} {p : Int} {VH VU KH KU : Int → Int} {n m i : Int} (h : gvd LP LH LU p VH VU n i) (k : gvd LP LH LU p KH KU m i) : n = m ∧ ∀ a, 0 ≤ a → a < n → VH a = KH a ∧ VU a = KU a := by
  have sub : ∀ {VH VU KH KU : Int → Int} {n m : Int}, gvd LP LH LU p VH VU n i → gvd LP LH LU p KH KU m i → ∀ a, 0 ≤ a → a < n → ∃ b, 0 ≤ b ∧ b < m ∧ KH b = VH a := fun h k a a0 a1 => by
    obtain ⟨z, z0, z1, z2, z3⟩ := h.2.2.1 a a0 a1
    obtain ⟨b, b0, b1, b2⟩ := k.2.2.2.1 z z0 z1 z2
    exact ⟨b, b0, b1, b2.trans z3⟩
  have low : ∀ {VH VU KH KU : Int → Int} {n m : Int}, gvd LP LH LU p VH VU n i → gvd LP LH LU p KH KU m i → ∀ a, 0 ≤ a → a < n → ∀ b, 0 ≤ b → b < m → KH b = VH a → a ≤ b := fun {VH VU KH KU n m} h k a a0 => by
    refine sm_ind (P := fun a => a < n → ∀ b, 0 ≤ b → b < m → KH b = VH a → a ≤ b) (fun _ b b0 _ _ => b0) (fun j hj ih hjn b b0 b1 e => ?_) a a0
    obtain ⟨c, c0, c1, c2⟩ := sub h k j hj (by omega)
    have h9 := ih (by omega) c c0 c1 c2
    have h8 := h.2.1 j (j + 1) hj (by omega) hjn
    by_cases q : b ≤ c
    · by_cases e2 : b = c
      · subst e2; omega
      · have := k.2.1 b c b0 (by omega) c1; omega
    · omega
  have key : ∀ a, 0 ≤ a → a < n → a < m ∧ VH a = KH a := fun a a0 a1 => by
    obtain ⟨b, b0, b1, e⟩ := sub h k a a0 a1
    have h9 := low h k a a0 a1 b b0 b1 e
    have h8 := low k h b b0 b1 a a0 a1 e.symm
    have e2 : a = b := by omega
    subst e2; exact ⟨b1, e.symm⟩
  have e : n = m := by
    have h1 := h.1; have k1 := k.1
    rcases Int.lt_trichotomy n m with q | q | q
    · obtain ⟨b, b0, b1, e⟩ := sub k h n (by omega) q
      have := low k h n (by omega) q b b0 b1 e; omega
    · exact q
    · have := key m (by omega) q; omega
  subst e
  refine ⟨rfl, fun a a0 a1 => ⟨(key a a0 a1).2, ?_⟩⟩
  rw [h.2.2.2.2 a a0 a1, k.2.2.2.2 a a0 a1, (key a a0 a1).2]

set_option maxHeartbeats 4000000 in
set_option maxRecDepth 100000 in
theorem c_X0_mostByAllWays (l : Launch) (g : gD) (vo : Nat) (vh : Nat) (vu : Nat) (vm : Nat) (VH : Int → Int) (VU : Int → Int) (nV : Int) (to : Nat) (tf : Nat) (td : Nat) (tS : Nat) (tr : Nat) (tp : Nat) (tt : Nat) (FL : Int → Int) (DP : Int → Int) (SH : Int → Int) (nY : Int) (Q : Int) (cl : Int) (hVH : ∀ k, 0 ≤ VH k ∧ VH k ≤ 2199) (hnV : 0 ≤ nV ∧ nV ≤ 7) (hrise : rise VH nV) (hVU : ∀ k, 0 ≤ k → k < nV → 0 ≤ VU k) (hVS : sm VU nV ≤ 3999960) (hcl : 0 ≤ cl ∧ cl ≤ 168) (hFL : ∀ k, 0 ≤ FL k ∧ FL k ≤ 999999) (hDP : ∀ k, 0 ≤ DP k ∧ DP k ≤ 999999) (hSH : ∀ k, 0 ≤ SH k ∧ SH k ≤ 100) (hnY : 0 ≤ nY ∧ nY ≤ 5) (hQ : 0 ≤ Q ∧ Q ≤ 90) : gMet l g yX0_mostByAllWays cX0_mostByAllWays 3 (some .int) 11 0 0 276 [.ref vo, .ref to, vi cl] [(vo, cO 0 [.ref vh, .ref vu, .ref vm, vi nV]), (vh, cA g 40 VH), (vu, cA g 40 VU), (to, cO 7 [.ref tf, .ref td, .ref tS, .ref tr, .ref tp, .ref tt, vi nY, vi Q]), (tf, cA g 5 FL), (td, cA g 5 DP), (tS, cA g 5 SH)] (gM (some (vi (Sv VH VU (wtt FL DP SH Q nY) cl nV 0))) [(vo, cO 0 [.ref vh, .ref vu, .ref vm, vi nV]), (vh, cA g 40 VH), (vu, cA g 40 VU), (to, cO 7 [.ref tf, .ref td, .ref tS, .ref tr, .ref tp, .ref tt, vi nY, vi Q]), (tf, cA g 5 FL), (td, cA g 5 DP), (tS, cA g 5 SH)]) := by
  refine gMet.of y_X0_mostByAllWays.2.2.2.2.1 (Nat.le_of_ble_eq_true rfl) ?_
  intro x hlx C hR hnm
  subst hlx
  have C : gC g x RX0 cX0_mostByAllWays 3 11 0 0 276 := C
  show gW g x [(vo, cO 0 [.ref vh, .ref vu, .ref vm, vi nV]), (vh, cA g 40 VH), (vu, cA g 40 VU), (to, cO 7 [.ref tf, .ref td, .ref tS, .ref tr, .ref tp, .ref tt, vi nY, vi Q]), (tf, cA g 5 FL), (td, cA g 5 DP), (tS, cA g 5 SH)] 0 0 [(0, .ref vo), (1, .ref to), (2, vi cl)] 0 []
  refine g_aload_n C 0 dX0_mostByAllWays_0 rfl ?_
  refine g_aload_n C 1 dX0_mostByAllWays_1 rfl ?_
  refine g_iload_n C 2 dX0_mostByAllWays_2 rfl ?_
  refine g_iconst C dX0_mostByAllWays_3 ?_
  refine g_callSp C [.ref vo, .ref to, vi cl, vi 0] [] (c_X0_mostFrom g vo vh vu vm VH VU nV to tf td tS tr tp tt FL DP SH nY Q cl hVH hnV hrise hVU hVS hcl hFL hDP hSH hnY hQ 7 0 x.1.2.1 (by omega) (by omega)) y_X0_mostFrom l_X0_49 [0, 1, 2, 3, 4, 5, 6] rfl (by decide) rfl (Nat.le_of_ble_eq_true rfl) rfl (by decide) dX0_mostByAllWays_4 ?_
  exact g_iretM C hR dX0_mostByAllWays_7 rfl rfl rfl

set_option maxHeartbeats 4000000 in
set_option maxRecDepth 100000 in
theorem c_X9_best (l : Launch) (hst9 : l.stackTraces = false) (g : gD) (zo : Nat) (lo : Nat) (wo : Nat) (to : Nat) (so : Nat) (ro : Nat) (vo : Nat) (eo : Nat) (bo : Nat) (mo : Nat) (tn : Int) (vh : Nat) (vu : Nat) (vm : Nat) (VH : Int → Int) (VU : Int → Int) (VM : Int → Int) (nV : Int) (lp : Nat) (lh : Nat) (lu : Nat) (LP : Int → Int) (LH : Int → Int) (LU : Int → Int) (nL : Int) (tf : Nat) (td : Nat) (tS : Nat) (tr : Nat) (tp : Nat) (tt : Nat) (FL : Int → Int) (DP : Int → Int) (SH : Int → Int) (nY : Int) (Q : Int) (p : Int) (hVH : ∀ k, 0 ≤ VH k ∧ VH k ≤ 2199) (hLP : ∀ k, 0 ≤ LP k ∧ LP k ≤ 2) (hLH : ∀ k, 0 ≤ LH k ∧ LH k ≤ 2199) (hLU : ∀ k, 0 ≤ LU k ∧ LU k ≤ 99999) (hnL : 0 ≤ nL ∧ nL ≤ 40) (hFL : ∀ k, 0 ≤ FL k ∧ FL k ≤ 999999) (hDP : ∀ k, 0 ≤ DP k ∧ DP k ≤ 999999) (hSH : ∀ k, 0 ≤ SH k ∧ SH k ≤ 100) (hnY : 0 ≤ nY ∧ nY ≤ 5) (hQ : 0 ≤ Q ∧ Q ≤ 90) (hp : -2147483648 ≤ p ∧ p < 2147483648) : gMetX l g yX9_best cX9_best 2 (some .int) 6 1 6 100 [.ref zo, vi p] [(zo, cO 9 [.ref lo, .ref wo, .ref to, .ref so, .ref ro, .ref vo, .ref eo, .ref bo, .ref mo, vi tn]), (vo, cO 0 [.ref vh, .ref vu, .ref vm, vi nV]), (vh, cA g 40 VH), (vu, cA g 40 VU), (vm, cA g 41 VM), (lo, cO 2 [.ref lp, .ref lh, .ref lu, vi nL]), (lp, cA g 40 LP), (lh, cA g 40 LH), (lu, cA g 40 LU), (to, cO 7 [.ref tf, .ref td, .ref tS, .ref tr, .ref tp, .ref tt, vi nY, vi Q]), (tf, cA g 5 FL), (td, cA g 5 DP), (tS, cA g 5 SH)] (fun v9 w9 => ∃ (H2 : Int → Int) (U2 : Int → Int) (M2 : Int → Int) (n2 : Int), v9 = (some (vi (Pv H2 U2 (wtt FL DP SH Q nY) (if p = 0 then 72 else 168) n2))) ∧ w9 = [(zo, cO 9 [.ref lo, .ref wo, .ref to, .ref so, .ref ro, .ref vo, .ref eo, .ref bo, .ref mo, vi tn]), (vo, cO 0 [.ref vh, .ref vu, .ref vm, vi n2]), (vh, cA g 40 H2), (vu, cA g 40 U2), (vm, cA g 41 M2), (lo, cO 2 [.ref lp, .ref lh, .ref lu, vi nL]), (lp, cA g 40 LP), (lh, cA g 40 LH), (lu, cA g 40 LU), (to, cO 7 [.ref tf, .ref td, .ref tS, .ref tr, .ref tp, .ref tt, vi nY, vi Q]), (tf, cA g 5 FL), (td, cA g 5 DP), (tS, cA g 5 SH)] ∧ (0 ≤ p ∧ p ≤ 2) ∧ (gvd LP LH LU p H2 U2 n2 nL) ∧ (∀ k, 0 ≤ H2 k ∧ H2 k ≤ 2199)) (fun E9 w9 => w9 = [(zo, cO 9 [.ref lo, .ref wo, .ref to, .ref so, .ref ro, .ref vo, .ref eo, .ref bo, .ref mo, vi tn]), (vo, cO 0 [.ref vh, .ref vu, .ref vm, vi nV]), (vh, cA g 40 VH), (vu, cA g 40 VU), (vm, cA g 41 VM), (lo, cO 2 [.ref lp, .ref lh, .ref lu, vi nL]), (lp, cA g 40 LP), (lh, cA g 40 LH), (lu, cA g 40 LU), (to, cO 7 [.ref tf, .ref td, .ref tS, .ref tr, .ref tp, .ref tt, vi nY, vi Q]), (tf, cA g 5 FL), (td, cA g 5 DP), (tS, cA g 5 SH)] ∧ ((E9 = E1 ∧ (¬ (0 ≤ p ∧ p ≤ 2))))) := by
  refine gMetX.of y_X9_best.2.2.2.2.1 (Nat.le_of_ble_eq_true rfl) hst9 ?_
  intro x hlx C hR
  subst hlx
  have C : gC g x RX9 cX9_best 2 6 1 6 100 := C
  show gW g x [(zo, cO 9 [.ref lo, .ref wo, .ref to, .ref so, .ref ro, .ref vo, .ref eo, .ref bo, .ref mo, vi tn]), (vo, cO 0 [.ref vh, .ref vu, .ref vm, vi nV]), (vh, cA g 40 VH), (vu, cA g 40 VU), (vm, cA g 41 VM), (lo, cO 2 [.ref lp, .ref lh, .ref lu, vi nL]), (lp, cA g 40 LP), (lh, cA g 40 LH), (lu, cA g 40 LU), (to, cO 7 [.ref tf, .ref td, .ref tS, .ref tr, .ref tp, .ref tt, vi nY, vi Q]), (tf, cA g 5 FL), (td, cA g 5 DP), (tS, cA g 5 SH)] 0 0 [(0, .ref zo), (1, vi p)] 0 []
  refine g_iload_n C 1 dX9_best_0 rfl ?_
  refine g_callSp C [vi p] [] (c_X9_isPeril x.1.2.1 g p hp) y_X9_isPeril l_X9_72 [] rfl (by decide) rfl (Nat.le_of_ble_eq_true rfl) rfl (by decide) dX9_best_1 ?_
  refine g_if_ne C 18 dX9_best_4 (by decide) (by omega) (fun c4 => ?_) (fun c4 => ?_)
  · refine g_aload_n C 0 dX9_best_18 rfl ?_
    refine g_getf C k_X9 5 f_X9_47 0 rfl rfl (by decide) rfl rfl dX9_best_19 ?_
    refine g_aload_n C 0 dX9_best_22 rfl ?_
    refine g_getf C k_X9 0 f_X9_12 0 rfl rfl (by decide) rfl rfl dX9_best_23 ?_
    refine g_iload_n C 1 dX9_best_26 rfl ?_
    refine g_callV C [.ref lo, vi p] [] (c_X0_gather x.1.2.1 g vo vh vu vm VH VU nV lo lp lh lu LP LH LU nL p hVH hLP hLH hLU hnL hp) y_X0_gather l_X9_300 [1, 2, 3, 5, 6, 7, 8] rfl (by decide) 1 rfl rfl rfl (Nat.le_of_ble_eq_true rfl) rfl (by decide) dX9_best_27 (fun v9 w9 hp9 => ?_)
    obtain ⟨H27, U27, n27, rfl, rfl, hgv_27, hHr_27⟩ := hp9
    simp only [putAll, List.set_cons_succ, List.set_cons_zero, List.cons_append, List.nil_append, List.append_nil, Option.toList]
    show gW g x [(zo, cO 9 [.ref lo, .ref wo, .ref to, .ref so, .ref ro, .ref vo, .ref eo, .ref bo, .ref mo, vi tn]), (vo, cO 0 [.ref vh, .ref vu, .ref vm, vi n27]), (vh, cA g 40 H27), (vu, cA g 40 U27), (vm, cA g 41 VM), (lo, cO 2 [.ref lp, .ref lh, .ref lu, vi nL]), (lp, cA g 40 LP), (lh, cA g 40 LH), (lu, cA g 40 LU), (to, cO 7 [.ref tf, .ref td, .ref tS, .ref tr, .ref tp, .ref tt, vi nY, vi Q]), (tf, cA g 5 FL), (td, cA g 5 DP), (tS, cA g 5 SH)] 0 0 [(0, .ref zo), (1, vi p)] 30 []
    refine g_aload_n C 0 dX9_best_30 rfl ?_
    refine g_getf C k_X9 5 f_X9_47 0 rfl rfl (by decide) rfl rfl dX9_best_31 ?_
    refine g_aload_n C 0 dX9_best_34 rfl ?_
    refine g_getf C k_X9 2 f_X9_26 0 rfl rfl (by decide) rfl rfl dX9_best_35 ?_
    refine g_iload_n C 1 dX9_best_38 rfl ?_
    refine g_callSp C [vi p] [.ref to, .ref vo] (c_X9_clauseOf x.1.2.1 g p hp) y_X9_clauseOf l_X9_122 [] rfl (by decide) rfl (Nat.le_of_ble_eq_true rfl) rfl (by decide) dX9_best_39 ?_
    obtain ⟨hr9, hn9, hu9, hs9⟩ := gvd_sum hLU hnL hgv_27
    have hcl9 : 0 ≤ (if p = 0 then (72 : Int) else 168) ∧ (if p = 0 then (72 : Int) else 168) ≤ 168 := by split <;> omega
    refine g_callV C [.ref to, vi (if p = 0 then 72 else 168)] [] (c_X0_mostByTable x.1.2.1 g vo vh vu vm H27 U27 VM n27 to tf td tS tr tp tt FL DP SH nY Q (if p = 0 then 72 else 168) hHr_27 hn9 hr9 hu9 hs9 hcl9 hFL hDP hSH hnY hQ) y_X0_mostByTable l_X9_304 [1, 2, 3, 4, 9, 10, 11, 12] rfl (by decide) 1 rfl rfl rfl (Nat.le_of_ble_eq_true rfl) rfl (by decide) dX9_best_42 (fun v9 w9 hp9 => ?_)
    obtain ⟨M42, rfl, rfl⟩ := hp9
    simp only [putAll, List.set_cons_succ, List.set_cons_zero, List.cons_append, List.nil_append, List.append_nil, Option.toList]
    show gW g x [(zo, cO 9 [.ref lo, .ref wo, .ref to, .ref so, .ref ro, .ref vo, .ref eo, .ref bo, .ref mo, vi tn]), (vo, cO 0 [.ref vh, .ref vu, .ref vm, vi n27]), (vh, cA g 40 H27), (vu, cA g 40 U27), (vm, cA g 41 M42), (lo, cO 2 [.ref lp, .ref lh, .ref lu, vi nL]), (lp, cA g 40 LP), (lh, cA g 40 LH), (lu, cA g 40 LU), (to, cO 7 [.ref tf, .ref td, .ref tS, .ref tr, .ref tp, .ref tt, vi nY, vi Q]), (tf, cA g 5 FL), (td, cA g 5 DP), (tS, cA g 5 SH)] 0 0 [(0, .ref zo), (1, vi p)] 45 [vi (Pv H27 U27 (wtt FL DP SH Q nY) (if p = 0 then 72 else 168) n27)]
    refine g_widen (k' := 1) (n' := 6) (by decide) (by decide) ?_
    refine g_outX C hR (fun x' C hR => ?_)
    exact g_iret C hR dX9_best_45 ⟨H27, U27, M42, n27, rfl, rfl, (by omega), hgv_27, hHr_27⟩ rfl
  exact g_throwW C hR t_84 t_84k t_84i (List.mem_of_getElem? (i := 32) rfl) dX9_best_7 dX9_best_10 dX9_best_11 dX9_best_14 dX9_best_17 ⟨by decide, Nat.le_of_ble_eq_true rfl, by decide, by decide, by decide, by decide⟩ ⟨rfl, ⟨rfl, (by omega)⟩⟩ rfl

set_option maxHeartbeats 4000000 in
set_option maxRecDepth 100000 in
theorem c_X9_bestAnew (l : Launch) (hst9 : l.stackTraces = false) (g : gD) (zo : Nat) (lo : Nat) (wo : Nat) (to : Nat) (so : Nat) (ro : Nat) (vo : Nat) (eo : Nat) (bo : Nat) (mo : Nat) (tn : Int) (vh : Nat) (vu : Nat) (vm : Nat) (VH : Int → Int) (VU : Int → Int) (nV : Int) (lp : Nat) (lh : Nat) (lu : Nat) (LP : Int → Int) (LH : Int → Int) (LU : Int → Int) (nL : Int) (tf : Nat) (td : Nat) (tS : Nat) (tr : Nat) (tp : Nat) (tt : Nat) (FL : Int → Int) (DP : Int → Int) (SH : Int → Int) (nY : Int) (Q : Int) (p : Int) (hVH : ∀ k, 0 ≤ VH k ∧ VH k ≤ 2199) (hLP : ∀ k, 0 ≤ LP k ∧ LP k ≤ 2) (hLH : ∀ k, 0 ≤ LH k ∧ LH k ≤ 2199) (hLU : ∀ k, 0 ≤ LU k ∧ LU k ≤ 99999) (hnL : 0 ≤ nL ∧ nL ≤ 40) (hFL : ∀ k, 0 ≤ FL k ∧ FL k ≤ 999999) (hDP : ∀ k, 0 ≤ DP k ∧ DP k ≤ 999999) (hSH : ∀ k, 0 ≤ SH k ∧ SH k ≤ 100) (hnY : 0 ≤ nY ∧ nY ≤ 5) (hQ : 0 ≤ Q ∧ Q ≤ 90) (hp : -2147483648 ≤ p ∧ p < 2147483648) : gMetX l g yX9_bestAnew cX9_bestAnew 2 (some .int) 12 1 6 298 [.ref zo, vi p] [(zo, cO 9 [.ref lo, .ref wo, .ref to, .ref so, .ref ro, .ref vo, .ref eo, .ref bo, .ref mo, vi tn]), (vo, cO 0 [.ref vh, .ref vu, .ref vm, vi nV]), (vh, cA g 40 VH), (vu, cA g 40 VU), (lo, cO 2 [.ref lp, .ref lh, .ref lu, vi nL]), (lp, cA g 40 LP), (lh, cA g 40 LH), (lu, cA g 40 LU), (to, cO 7 [.ref tf, .ref td, .ref tS, .ref tr, .ref tp, .ref tt, vi nY, vi Q]), (tf, cA g 5 FL), (td, cA g 5 DP), (tS, cA g 5 SH)] (fun v9 w9 => ∃ (H2 : Int → Int) (U2 : Int → Int) (n2 : Int), v9 = (some (vi (Sv H2 U2 (wtt FL DP SH Q nY) (if p = 0 then 72 else 168) n2 0))) ∧ w9 = [(zo, cO 9 [.ref lo, .ref wo, .ref to, .ref so, .ref ro, .ref vo, .ref eo, .ref bo, .ref mo, vi tn]), (vo, cO 0 [.ref vh, .ref vu, .ref vm, vi n2]), (vh, cA g 40 H2), (vu, cA g 40 U2), (lo, cO 2 [.ref lp, .ref lh, .ref lu, vi nL]), (lp, cA g 40 LP), (lh, cA g 40 LH), (lu, cA g 40 LU), (to, cO 7 [.ref tf, .ref td, .ref tS, .ref tr, .ref tp, .ref tt, vi nY, vi Q]), (tf, cA g 5 FL), (td, cA g 5 DP), (tS, cA g 5 SH)] ∧ ((0 ≤ p ∧ p ≤ 2) ∧ n2 ≤ 7) ∧ (gvd LP LH LU p H2 U2 n2 nL) ∧ (∀ k, 0 ≤ H2 k ∧ H2 k ≤ 2199)) (fun E9 w9 => (E9 = E1 ∧ w9 = [(zo, cO 9 [.ref lo, .ref wo, .ref to, .ref so, .ref ro, .ref vo, .ref eo, .ref bo, .ref mo, vi tn]), (vo, cO 0 [.ref vh, .ref vu, .ref vm, vi nV]), (vh, cA g 40 VH), (vu, cA g 40 VU), (lo, cO 2 [.ref lp, .ref lh, .ref lu, vi nL]), (lp, cA g 40 LP), (lh, cA g 40 LH), (lu, cA g 40 LU), (to, cO 7 [.ref tf, .ref td, .ref tS, .ref tr, .ref tp, .ref tt, vi nY, vi Q]), (tf, cA g 5 FL), (td, cA g 5 DP), (tS, cA g 5 SH)] ∧ ¬ (0 ≤ p ∧ p ≤ 2)) ∨ (E9 = E2 ∧ ∃ (H2 U2 : Int → Int) (n2 : Int), w9 = [(zo, cO 9 [.ref lo, .ref wo, .ref to, .ref so, .ref ro, .ref vo, .ref eo, .ref bo, .ref mo, vi tn]), (vo, cO 0 [.ref vh, .ref vu, .ref vm, vi n2]), (vh, cA g 40 H2), (vu, cA g 40 U2), (lo, cO 2 [.ref lp, .ref lh, .ref lu, vi nL]), (lp, cA g 40 LP), (lh, cA g 40 LH), (lu, cA g 40 LU), (to, cO 7 [.ref tf, .ref td, .ref tS, .ref tr, .ref tp, .ref tt, vi nY, vi Q]), (tf, cA g 5 FL), (td, cA g 5 DP), (tS, cA g 5 SH)] ∧ ((0 ≤ p ∧ p ≤ 2) ∧ 7 < n2) ∧ (gvd LP LH LU p H2 U2 n2 nL) ∧ (∀ k, 0 ≤ H2 k ∧ H2 k ≤ 2199))) := by
  refine gMetX.of y_X9_bestAnew.2.2.2.2.1 (Nat.le_of_ble_eq_true rfl) hst9 ?_
  intro x hlx C hR
  subst hlx
  have C : gC g x RX9 cX9_bestAnew 2 12 1 6 298 := C
  show gW g x [(zo, cO 9 [.ref lo, .ref wo, .ref to, .ref so, .ref ro, .ref vo, .ref eo, .ref bo, .ref mo, vi tn]), (vo, cO 0 [.ref vh, .ref vu, .ref vm, vi nV]), (vh, cA g 40 VH), (vu, cA g 40 VU), (lo, cO 2 [.ref lp, .ref lh, .ref lu, vi nL]), (lp, cA g 40 LP), (lh, cA g 40 LH), (lu, cA g 40 LU), (to, cO 7 [.ref tf, .ref td, .ref tS, .ref tr, .ref tp, .ref tt, vi nY, vi Q]), (tf, cA g 5 FL), (td, cA g 5 DP), (tS, cA g 5 SH)] 0 0 [(0, .ref zo), (1, vi p)] 0 []
  refine g_iload_n C 1 dX9_bestAnew_0 rfl ?_
  refine g_callSp C [vi p] [] (c_X9_isPeril x.1.2.1 g p hp) y_X9_isPeril l_X9_72 [] rfl (by decide) rfl (Nat.le_of_ble_eq_true rfl) rfl (by decide) dX9_bestAnew_1 ?_
  refine g_if_ne C 18 dX9_bestAnew_4 (by decide) (by omega) (fun c4 => ?_) (fun c4 => ?_)
  · refine g_aload_n C 0 dX9_bestAnew_18 rfl ?_
    refine g_getf C k_X9 5 f_X9_47 0 rfl rfl (by decide) rfl rfl dX9_bestAnew_19 ?_
    refine g_aload_n C 0 dX9_bestAnew_22 rfl ?_
    refine g_getf C k_X9 0 f_X9_12 0 rfl rfl (by decide) rfl rfl dX9_bestAnew_23 ?_
    refine g_iload_n C 1 dX9_bestAnew_26 rfl ?_
    refine g_callV C [.ref lo, vi p] [] (c_X0_gather x.1.2.1 g vo vh vu vm VH VU nV lo lp lh lu LP LH LU nL p hVH hLP hLH hLU hnL hp) y_X0_gather l_X9_300 [1, 2, 3, 4, 5, 6, 7] rfl (by decide) 1 rfl rfl rfl (Nat.le_of_ble_eq_true rfl) rfl (by decide) dX9_bestAnew_27 (fun v9 w9 hp9 => ?_)
    obtain ⟨H27, U27, n27, rfl, rfl, hgv_27, hHr_27⟩ := hp9
    simp only [putAll, List.set_cons_succ, List.set_cons_zero, List.cons_append, List.nil_append, List.append_nil, Option.toList]
    show gW g x [(zo, cO 9 [.ref lo, .ref wo, .ref to, .ref so, .ref ro, .ref vo, .ref eo, .ref bo, .ref mo, vi tn]), (vo, cO 0 [.ref vh, .ref vu, .ref vm, vi n27]), (vh, cA g 40 H27), (vu, cA g 40 U27), (lo, cO 2 [.ref lp, .ref lh, .ref lu, vi nL]), (lp, cA g 40 LP), (lh, cA g 40 LH), (lu, cA g 40 LU), (to, cO 7 [.ref tf, .ref td, .ref tS, .ref tr, .ref tp, .ref tt, vi nY, vi Q]), (tf, cA g 5 FL), (td, cA g 5 DP), (tS, cA g 5 SH)] 0 0 [(0, .ref zo), (1, vi p)] 30 []
    refine g_aload_n C 0 dX9_bestAnew_30 rfl ?_
    refine g_getf C k_X9 5 f_X9_47 0 rfl rfl (by decide) rfl rfl dX9_bestAnew_31 ?_
    refine g_callVp C [] [] (c_X0_countHours x.1.2.1 g vo vh vu vm n27) y_X0_countHours l_X9_308 [1] rfl (by decide) 1 rfl rfl rfl (Nat.le_of_ble_eq_true rfl) rfl (by decide) dX9_bestAnew_34 ?_
    refine g_bipush C dX9_bestAnew_37 (by decide) ?_
    obtain ⟨hr9, hn9, hu9, hs9⟩ := gvd_sum hLU hnL hgv_27
    have hcl9 : 0 ≤ (if p = 0 then (72 : Int) else 168) ∧ (if p = 0 then (72 : Int) else 168) ≤ 168 := by split <;> omega
    refine g_icmp_le C 53 dX9_bestAnew_39 (by decide) (by omega) (by omega) (fun c39 => ?_) (fun c39 => ?_)
    · refine g_aload_n C 0 dX9_bestAnew_53 rfl ?_
      refine g_getf C k_X9 5 f_X9_47 0 rfl rfl (by decide) rfl rfl dX9_bestAnew_54 ?_
      refine g_aload_n C 0 dX9_bestAnew_57 rfl ?_
      refine g_getf C k_X9 2 f_X9_26 0 rfl rfl (by decide) rfl rfl dX9_bestAnew_58 ?_
      refine g_iload_n C 1 dX9_bestAnew_61 rfl ?_
      refine g_callSp C [vi p] [.ref to, .ref vo] (c_X9_clauseOf x.1.2.1 g p hp) y_X9_clauseOf l_X9_122 [] rfl (by decide) rfl (Nat.le_of_ble_eq_true rfl) rfl (by decide) dX9_bestAnew_62 ?_
      refine g_callVp C [.ref to, vi (if p = 0 then 72 else 168)] [] (c_X0_mostByAllWays x.1.2.1 g vo vh vu vm H27 U27 n27 to tf td tS tr tp tt FL DP SH nY Q (if p = 0 then 72 else 168) hHr_27 (by omega) hr9 hu9 hs9 hcl9 hFL hDP hSH hnY hQ) y_X0_mostByAllWays l_X9_313 [1, 2, 3, 8, 9, 10, 11] rfl (by decide) 1 rfl rfl rfl (Nat.le_of_ble_eq_true rfl) rfl (by decide) dX9_bestAnew_65 ?_
      refine g_widen (k' := 1) (n' := 6) (by decide) (by decide) ?_
      refine g_outX C hR (fun x' C hR => ?_)
      exact g_iret C hR dX9_bestAnew_68 ⟨H27, U27, n27, rfl, rfl, (by omega), hgv_27, hHr_27⟩ rfl
    exact g_throwW C hR t_95 t_95k t_95i (List.mem_of_getElem? (i := 33) rfl) dX9_bestAnew_42 dX9_bestAnew_45 dX9_bestAnew_46 dX9_bestAnew_49 dX9_bestAnew_52 ⟨by decide, Nat.le_of_ble_eq_true rfl, by decide, by decide, by decide, by decide⟩ (Or.inr ⟨rfl, H27, U27, n27, rfl, by omega, hgv_27, hHr_27⟩) rfl
  exact g_throwW C hR t_84 t_84k t_84i (List.mem_of_getElem? (i := 32) rfl) dX9_bestAnew_7 dX9_bestAnew_10 dX9_bestAnew_11 dX9_bestAnew_14 dX9_bestAnew_17 ⟨by decide, Nat.le_of_ble_eq_true rfl, by decide, by decide, by decide, by decide⟩ (Or.inl ⟨rfl, rfl, by omega⟩) rfl

set_option maxHeartbeats 4000000 in
set_option maxRecDepth 100000 in
theorem c_X9_ofBond (l : Launch) (hst9 : l.stackTraces = false) (g : gD) (zo : Nat) (lo : Nat) (wo : Nat) (to : Nat) (so : Nat) (ro : Nat) (vo : Nat) (eo : Nat) (bo : Nat) (mo : Nat) (tn : Int) (bp : Nat) (bq : Nat) (bx : Nat) (bf : Nat) (bl : Nat) (bt : Nat) (bc : Nat) (be : Nat) (BP : Int → Int) (BQ : Int → Int) (BX : Int → Int) (BF : Int → Int) (BL : Int → Int) (BT : Int → Int) (BC : Int → Int) (BE : Int → Int) (nB : Int) (ec : Nat) (ef : Nat) (es : Nat) (eh : Nat) (ep : Nat) (ex : Nat) (EC : Int → Int) (EF : Int → Int) (ES : Int → Int) (EH : Int → Int) (EP : Int → Int) (EX : Int → Int) (nE : Int) (nR : Int) (b : Int) (w : Int) (hBP : ∀ k, 0 ≤ BP k ∧ BP k ≤ 999999) (hBQ : ∀ k, 0 ≤ BQ k ∧ BQ k ≤ 2) (hBX : ∀ k, 0 ≤ BX k ∧ BX k ≤ 65535) (hBF : ∀ k, 0 ≤ BF k ∧ BF k ≤ 2199) (hBL : ∀ k, 0 ≤ BL k ∧ BL k ≤ 2199) (hBT : ∀ k, 0 ≤ BT k ∧ BT k ≤ 9) (hBC : ∀ k, 0 ≤ BC k ∧ BC k ≤ 100) (hBE : ∀ k, 0 ≤ BE k ∧ BE k ≤ 2699) (hnB : 0 ≤ nB ∧ nB ≤ 5) (hEC : ∀ k, 0 ≤ EC k ∧ EC k ≤ 15) (hEF : ∀ k, 0 ≤ EF k ∧ EF k ≤ 2200) (hES : ∀ k, 0 ≤ ES k ∧ ES k ≤ 5) (hEH : ∀ k, 0 ≤ EH k ∧ EH k ≤ 2199) (hEP : ∀ k, 0 ≤ EP k ∧ EP k ≤ 2) (hEX : ∀ k, 0 ≤ EX k ∧ EX k ≤ 9) (hnE : 0 ≤ nE ∧ nE ≤ 6) (hnR : 0 ≤ nR ∧ nR ≤ 60) (hEn : ∀ k9, 0 ≤ k9 → k9 < nR → ES k9 < nE) (htn : 0 ≤ tn ∧ tn ≤ 2199) (hb : -2147483648 ≤ b ∧ b < 2147483648) (hw : -2147483648 ≤ w ∧ w < 2147483648) : gMetX l g yX9_ofBond cX9_ofBond 6 (some .int) 6 1 6 141 [.ref zo, vi b, vi w] [(zo, cO 9 [.ref lo, .ref wo, .ref to, .ref so, .ref ro, .ref vo, .ref eo, .ref bo, .ref mo, vi tn]), (bo, cO 1 [.ref bp, .ref bq, .ref bx, .ref bf, .ref bl, .ref bt, .ref bc, .ref be, vi nB]), (bp, cA g 5 BP), (bq, cA g 5 BQ), (bx, cA g 5 BX), (bf, cA g 5 BF), (bl, cA g 5 BL), (bt, cA g 5 BT), (bc, cA g 5 BC), (be, cA g 5 BE), (eo, cO 6 [.ref ec, .ref ef, .ref es, .ref eh, .ref ep, .ref ex, vi nE, vi nR]), (ec, cA g 6 EC), (ef, cA g 6 EF), (es, cA g 60 ES), (eh, cA g 60 EH), (ep, cA g 60 EP), (ex, cA g 60 EX)] (fun v9 w9 => v9 = (some (vi (if w = 0 then idx9 EC EF ES EH EP EX nE nR BQ BX BF BL b else if w = 1 then pyo BP BT BC b (idx9 EC EF ES EH EP EX nE nR BQ BX BF BL b) else if w = 2 then (if tn ≤ BE b then 1 else 0) else if w = 3 then (if tn ≤ BE b then 0 else pyo BP BT BC b (idx9 EC EF ES EH EP EX nE nR BQ BX BF BL b)) else if w = 4 then (if tn ≤ BE b then 0 else BP b - pyo BP BT BC b (idx9 EC EF ES EH EP EX nE nR BQ BX BF BL b)) else sti EC EF (BX b) (BL b) nE))) ∧ w9 = [(zo, cO 9 [.ref lo, .ref wo, .ref to, .ref so, .ref ro, .ref vo, .ref eo, .ref bo, .ref mo, vi tn]), (bo, cO 1 [.ref bp, .ref bq, .ref bx, .ref bf, .ref bl, .ref bt, .ref bc, .ref be, vi nB]), (bp, cA g 5 BP), (bq, cA g 5 BQ), (bx, cA g 5 BX), (bf, cA g 5 BF), (bl, cA g 5 BL), (bt, cA g 5 BT), (bc, cA g 5 BC), (be, cA g 5 BE), (eo, cO 6 [.ref ec, .ref ef, .ref es, .ref eh, .ref ep, .ref ex, vi nE, vi nR]), (ec, cA g 6 EC), (ef, cA g 6 EF), (es, cA g 60 ES), (eh, cA g 60 EH), (ep, cA g 60 EP), (ex, cA g 60 EX)] ∧ ((0 ≤ b ∧ b < nB) ∧ (0 ≤ w ∧ w ≤ 5))) (fun E9 w9 => w9 = [(zo, cO 9 [.ref lo, .ref wo, .ref to, .ref so, .ref ro, .ref vo, .ref eo, .ref bo, .ref mo, vi tn]), (bo, cO 1 [.ref bp, .ref bq, .ref bx, .ref bf, .ref bl, .ref bt, .ref bc, .ref be, vi nB]), (bp, cA g 5 BP), (bq, cA g 5 BQ), (bx, cA g 5 BX), (bf, cA g 5 BF), (bl, cA g 5 BL), (bt, cA g 5 BT), (bc, cA g 5 BC), (be, cA g 5 BE), (eo, cO 6 [.ref ec, .ref ef, .ref es, .ref eh, .ref ep, .ref ex, vi nE, vi nR]), (ec, cA g 6 EC), (ef, cA g 6 EF), (es, cA g 60 ES), (eh, cA g 60 EH), (ep, cA g 60 EP), (ex, cA g 60 EX)] ∧ ((E9 = E3 ∧ (¬ (0 ≤ b ∧ b < nB))) ∨ (E9 = E1 ∧ ((0 ≤ b ∧ b < nB) ∧ ¬ (0 ≤ w ∧ w ≤ 5))))) := by
  refine gMetX.of y_X9_ofBond.2.2.2.2.1 (Nat.le_of_ble_eq_true rfl) hst9 ?_
  intro x hlx C hR
  subst hlx
  have C : gC g x RX9 cX9_ofBond 6 6 1 6 141 := C
  show gW g x [(zo, cO 9 [.ref lo, .ref wo, .ref to, .ref so, .ref ro, .ref vo, .ref eo, .ref bo, .ref mo, vi tn]), (bo, cO 1 [.ref bp, .ref bq, .ref bx, .ref bf, .ref bl, .ref bt, .ref bc, .ref be, vi nB]), (bp, cA g 5 BP), (bq, cA g 5 BQ), (bx, cA g 5 BX), (bf, cA g 5 BF), (bl, cA g 5 BL), (bt, cA g 5 BT), (bc, cA g 5 BC), (be, cA g 5 BE), (eo, cO 6 [.ref ec, .ref ef, .ref es, .ref eh, .ref ep, .ref ex, vi nE, vi nR]), (ec, cA g 6 EC), (ef, cA g 6 EF), (es, cA g 60 ES), (eh, cA g 60 EH), (ep, cA g 60 EP), (ex, cA g 60 EX)] 0 0 [(0, .ref zo), (1, vi b), (2, vi w)] 0 []
  refine g_aload_n C 0 dX9_ofBond_0 rfl ?_
  refine g_getf C k_X9 7 f_X9_61 0 rfl rfl (by decide) rfl rfl dX9_ofBond_1 ?_
  refine g_iload_n C 1 dX9_ofBond_4 rfl ?_
  refine g_callVp C [vi b] [] (c_X1_has x.1.2.1 g bo bp bq bx bf bl bt bc be nB b hnB hb) y_X1_has l_X9_221 [1] rfl (by decide) 1 rfl rfl rfl (Nat.le_of_ble_eq_true rfl) rfl (by decide) dX9_ofBond_5 ?_
  refine g_if_ne C 21 dX9_ofBond_8 (by decide) (by omega) (fun c8 => ?_) (fun c8 => ?_)
  · refine g_iload_n C 2 dX9_ofBond_21 rfl ?_
    refine g_iconst C dX9_ofBond_22 ?_
    refine g_iconst C dX9_ofBond_23 ?_
    refine g_callSp C [vi w, vi 0, vi 5] [] (c_X9_isIn x.1.2.1 g w 0 5 hw (by omega) (by omega)) y_X9_isIn l_X9_80 [] rfl (by decide) rfl (Nat.le_of_ble_eq_true rfl) rfl (by decide) dX9_ofBond_24 ?_
    refine g_if_ne C 40 dX9_ofBond_27 (by decide) (by omega) (fun c27 => ?_) (fun c27 => ?_)
    · refine g_aload_n C 0 dX9_ofBond_40 rfl ?_
      refine g_getf C k_X9 7 f_X9_61 0 rfl rfl (by decide) rfl rfl dX9_ofBond_41 ?_
      refine g_iload_n C 1 dX9_ofBond_44 rfl ?_
      refine g_aload_n C 0 dX9_ofBond_45 rfl ?_
      refine g_getf C k_X9 9 f_X9_212 0 rfl rfl (by decide) rfl rfl dX9_ofBond_46 ?_
      refine g_callVp C [vi b, vi tn] [] (c_X1_isInTrust x.1.2.1 g bo bp bq bx bf bl bt bc be BE nB b tn hBE (by omega) (by omega)) y_X1_isInTrust l_X9_229 [1, 9] rfl (by decide) 1 rfl rfl rfl (Nat.le_of_ble_eq_true rfl) rfl (by decide) dX9_ofBond_49 ?_
      refine g_istore_n C [(3, vi (if tn ≤ BE b then 1 else 0)), (0, .ref zo), (1, vi b), (2, vi w)] dX9_ofBond_52 (by decide) rfl ?_
      refine g_aload_n C 1 dX9_ofBond_53 rfl ?_
      refine g_getf C k_X9 7 f_X9_61 0 rfl rfl (by decide) rfl rfl dX9_ofBond_54 ?_
      refine g_iload_n C 2 dX9_ofBond_57 rfl ?_
      refine g_aload_n C 1 dX9_ofBond_58 rfl ?_
      refine g_getf C k_X9 6 f_X9_54 0 rfl rfl (by decide) rfl rfl dX9_ofBond_59 ?_
      refine g_callVp C [vi b, .ref eo] [] (c_X1_indexOf x.1.2.1 g bo bp bq bx bf bl bt bc be BQ BX BF BL nB eo ec ef es eh ep ex EC EF ES EH EP EX nE nR b hBQ hBX hBF hBL hEC hEF hES hEH hEP hEX hnE hnR hEn (by omega)) y_X1_indexOf l_X9_316 [1, 3, 4, 5, 6, 10, 11, 12, 13, 14, 15, 16] rfl (by decide) 1 rfl rfl rfl (Nat.le_of_ble_eq_true rfl) rfl (by decide) dX9_ofBond_62 ?_
      refine g_istore C [(4, vi (idx9 EC EF ES EH EP EX nE nR BQ BX BF BL b)), (3, vi (if tn ≤ BE b then 1 else 0)), (0, .ref zo), (1, vi b), (2, vi w)] dX9_ofBond_65 (by decide) rfl ?_
      refine g_aload_n C 2 dX9_ofBond_67 rfl ?_
      refine g_getf C k_X9 7 f_X9_61 0 rfl rfl (by decide) rfl rfl dX9_ofBond_68 ?_
      refine g_iload_n C 3 dX9_ofBond_71 rfl ?_
      refine g_iload C 0 dX9_ofBond_72 rfl ?_
      have hi9 := idx9_r hEX EC EF ES EH EP nE hnR BQ BX BF BL b
      refine g_callVp C [vi b, vi (idx9 EC EF ES EH EP EX nE nR BQ BX BF BL b)] [] (c_X1_payoutAt x.1.2.1 g bo bp bq bx bf bl bt bc be BP BT BC nB b (idx9 EC EF ES EH EP EX nE nR BQ BX BF BL b) hBP hBT hBC (by omega) (by omega)) y_X1_payoutAt l_X9_320 [1, 2, 7, 8] rfl (by decide) 1 rfl rfl rfl (Nat.le_of_ble_eq_true rfl) rfl (by decide) dX9_ofBond_74 ?_
      refine g_istore C [(5, vi (pyo BP BT BC b (idx9 EC EF ES EH EP EX nE nR BQ BX BF BL b))), (4, vi (idx9 EC EF ES EH EP EX nE nR BQ BX BF BL b)), (3, vi (if tn ≤ BE b then 1 else 0)), (0, .ref zo), (1, vi b), (2, vi w)] dX9_ofBond_77 (by decide) rfl ?_
      refine g_iload_n C 5 dX9_ofBond_79 rfl ?_
      by_cases e80_0 : w = 0
      · refine g_tin C 116 dX9_ofBond_80 0 e80_0 (by decide) rfl (by decide) ?_
        refine g_iload C 1 dX9_ofBond_116 rfl ?_
        refine g_widen (k' := 1) (n' := 6) (by decide) (by decide) ?_
        refine g_outX C hR (fun x' C hR => ?_)
        exact g_iret C hR dX9_ofBond_118 ⟨(congrArg (fun q => some (vi q)) (by rw [if_pos (show w = 0 by omega)])), rfl, (by omega)⟩ rfl
      by_cases e80_1 : w = 1
      · refine g_tin C 119 dX9_ofBond_80 1 e80_1 (by decide) rfl (by decide) ?_
        refine g_iload C 0 dX9_ofBond_119 rfl ?_
        refine g_widen (k' := 1) (n' := 6) (by decide) (by decide) ?_
        refine g_outX C hR (fun x' C hR => ?_)
        exact g_iret C hR dX9_ofBond_121 ⟨(congrArg (fun q => some (vi q)) (by rw [if_neg (show ¬ w = 0 by omega), if_pos (show w = 1 by omega)])), rfl, (by omega)⟩ rfl
      by_cases e80_2 : w = 2
      · refine g_tin C 122 dX9_ofBond_80 2 e80_2 (by decide) rfl (by decide) ?_
        refine g_iload_n C 2 dX9_ofBond_122 rfl ?_
        refine g_if_eq C 130 dX9_ofBond_123 (by decide) (by omega) (fun c123 => ?_) (fun c123 => ?_)
        · refine g_iconst C dX9_ofBond_130 ?_
          refine g_widen (k' := 1) (n' := 6) (by decide) (by decide) ?_
          refine g_outX C hR (fun x' C hR => ?_)
          exact g_iret C hR dX9_ofBond_131 ⟨(congrArg (fun q => some (vi q)) (by rw [if_neg (show ¬ w = 0 by omega), if_neg (show ¬ w = 1 by omega), if_pos (show w = 2 by omega)]; first | (rw [if_pos (show tn ≤ BE b by omega)]; done) | (rw [if_neg (show ¬ (tn ≤ BE b) by omega)]; done))), rfl, (by omega)⟩ rfl
        refine g_iconst C dX9_ofBond_126 ?_
        refine g_goto C 131 dX9_ofBond_127 (by decide) ?_
        refine g_widen (k' := 1) (n' := 6) (by decide) (by decide) ?_
        refine g_outX C hR (fun x' C hR => ?_)
        exact g_iret C hR dX9_ofBond_131 ⟨(congrArg (fun q => some (vi q)) (by rw [if_neg (show ¬ w = 0 by omega), if_neg (show ¬ w = 1 by omega), if_pos (show w = 2 by omega)]; first | (rw [if_pos (show tn ≤ BE b by omega)]; done) | (rw [if_neg (show ¬ (tn ≤ BE b) by omega)]; done))), rfl, (by omega)⟩ rfl
      by_cases e80_3 : w = 3
      · refine g_tin C 132 dX9_ofBond_80 3 e80_3 (by decide) rfl (by decide) ?_
        refine g_iload_n C 2 dX9_ofBond_132 rfl ?_
        refine g_if_eq C 140 dX9_ofBond_133 (by decide) (by omega) (fun c133 => ?_) (fun c133 => ?_)
        · refine g_iload C 0 dX9_ofBond_140 rfl ?_
          refine g_widen (k' := 1) (n' := 6) (by decide) (by decide) ?_
          refine g_outX C hR (fun x' C hR => ?_)
          exact g_iret C hR dX9_ofBond_142 ⟨(congrArg (fun q => some (vi q)) (by rw [if_neg (show ¬ w = 0 by omega), if_neg (show ¬ w = 1 by omega), if_neg (show ¬ w = 2 by omega), if_pos (show w = 3 by omega)]; first | (rw [if_pos (show tn ≤ BE b by omega)]; done) | (rw [if_neg (show ¬ (tn ≤ BE b) by omega)]; done))), rfl, (by omega)⟩ rfl
        refine g_iconst C dX9_ofBond_136 ?_
        refine g_goto C 142 dX9_ofBond_137 (by decide) ?_
        refine g_widen (k' := 1) (n' := 6) (by decide) (by decide) ?_
        refine g_outX C hR (fun x' C hR => ?_)
        exact g_iret C hR dX9_ofBond_142 ⟨(congrArg (fun q => some (vi q)) (by rw [if_neg (show ¬ w = 0 by omega), if_neg (show ¬ w = 1 by omega), if_neg (show ¬ w = 2 by omega), if_pos (show w = 3 by omega)]; first | (rw [if_pos (show tn ≤ BE b by omega)]; done) | (rw [if_neg (show ¬ (tn ≤ BE b) by omega)]; done))), rfl, (by omega)⟩ rfl
      by_cases e80_4 : w = 4
      · refine g_tin C 143 dX9_ofBond_80 4 e80_4 (by decide) rfl (by decide) ?_
        refine g_iload_n C 2 dX9_ofBond_143 rfl ?_
        refine g_if_eq C 151 dX9_ofBond_144 (by decide) (by omega) (fun c144 => ?_) (fun c144 => ?_)
        · refine g_aload_n C 3 dX9_ofBond_151 rfl ?_
          refine g_getf C k_X9 7 f_X9_61 0 rfl rfl (by decide) rfl rfl dX9_ofBond_152 ?_
          refine g_iload_n C 4 dX9_ofBond_155 rfl ?_
          refine g_callVp C [vi b] [] (c_X1_principalOf x.1.2.1 g bo bp bq bx bf bl bt bc be BP nB b (by omega)) y_X1_principalOf l_X9_323 [1, 2] rfl (by decide) 1 rfl rfl rfl (Nat.le_of_ble_eq_true rfl) rfl (by decide) dX9_ofBond_156 ?_
          refine g_iload C 0 dX9_ofBond_159 rfl ?_
          refine g_isub C dX9_ofBond_161 ?_
          refine g_widen (k' := 1) (n' := 6) (by decide) (by decide) ?_
          refine g_outX C hR (fun x' C hR => ?_)
          exact g_iret C hR dX9_ofBond_162 ⟨(congrArg (fun q => some (vi q)) (by rw [if_neg (show ¬ w = 0 by omega), if_neg (show ¬ w = 1 by omega), if_neg (show ¬ w = 2 by omega), if_neg (show ¬ w = 3 by omega), if_pos (show w = 4 by omega)]; first | (rw [if_pos (show tn ≤ BE b by omega)]; done) | (rw [if_neg (show ¬ (tn ≤ BE b) by omega)]; done))), rfl, (by omega)⟩ rfl
        refine g_iconst C dX9_ofBond_147 ?_
        refine g_goto C 162 dX9_ofBond_148 (by decide) ?_
        refine g_widen (k' := 1) (n' := 6) (by decide) (by decide) ?_
        refine g_outX C hR (fun x' C hR => ?_)
        exact g_iret C hR dX9_ofBond_162 ⟨(congrArg (fun q => some (vi q)) (by rw [if_neg (show ¬ w = 0 by omega), if_neg (show ¬ w = 1 by omega), if_neg (show ¬ w = 2 by omega), if_neg (show ¬ w = 3 by omega), if_pos (show w = 4 by omega)]; first | (rw [if_pos (show tn ≤ BE b by omega)]; done) | (rw [if_neg (show ¬ (tn ≤ BE b) by omega)]; done))), rfl, (by omega)⟩ rfl
      refine g_tout C 163 dX9_ofBond_80 (by omega) (by omega) (by decide) ?_
      refine g_aload_n C 3 dX9_ofBond_163 rfl ?_
      refine g_getf C k_X9 7 f_X9_61 0 rfl rfl (by decide) rfl rfl dX9_ofBond_164 ?_
      refine g_iload_n C 4 dX9_ofBond_167 rfl ?_
      refine g_aload_n C 3 dX9_ofBond_168 rfl ?_
      refine g_getf C k_X9 6 f_X9_54 0 rfl rfl (by decide) rfl rfl dX9_ofBond_169 ?_
      refine g_callVp C [vi b, .ref eo] [] (c_X1_standInOf x.1.2.1 g bo bp bq bx bf bl bt bc be BX BL nB eo ec ef es eh ep ex EC EF nE nR b hBX hBL hEC hEF hnE (by omega)) y_X1_standInOf l_X9_326 [1, 4, 6, 10, 11, 12] rfl (by decide) 1 rfl rfl rfl (Nat.le_of_ble_eq_true rfl) rfl (by decide) dX9_ofBond_172 ?_
      refine g_widen (k' := 1) (n' := 6) (by decide) (by decide) ?_
      refine g_outX C hR (fun x' C hR => ?_)
      exact g_iret C hR dX9_ofBond_175 ⟨(congrArg (fun q => some (vi q)) (by rw [if_neg (show ¬ w = 0 by omega), if_neg (show ¬ w = 1 by omega), if_neg (show ¬ w = 2 by omega), if_neg (show ¬ w = 3 by omega), if_neg (show ¬ w = 4 by omega)])), rfl, (by omega)⟩ rfl
    exact g_throw C hR t_84 t_84k t_84i (List.mem_of_getElem? (i := 30) rfl) dX9_ofBond_30 dX9_ofBond_33 dX9_ofBond_34 dX9_ofBond_36 dX9_ofBond_39 ⟨by decide, Nat.le_of_ble_eq_true rfl, by decide, by decide, by decide, by decide⟩ ⟨rfl, Or.inr (⟨rfl, (by omega)⟩)⟩ rfl
  exact g_throw C hR t_107 t_107k t_107i (List.mem_of_getElem? (i := 22) rfl) dX9_ofBond_11 dX9_ofBond_14 dX9_ofBond_15 dX9_ofBond_17 dX9_ofBond_20 ⟨by decide, Nat.le_of_ble_eq_true rfl, by decide, by decide, by decide, by decide⟩ ⟨rfl, Or.inl ⟨rfl, (by omega)⟩⟩ rfl

set_option maxHeartbeats 4000000 in
set_option maxRecDepth 100000 in
theorem c_X9_price (l : Launch) (hst9 : l.stackTraces = false) (g : gD) (zo : Nat) (lo : Nat) (wo : Nat) (to : Nat) (so : Nat) (ro : Nat) (vo : Nat) (eo : Nat) (bo : Nat) (mo : Nat) (tn : Int) (mw : Nat) (mu : Nat) (mc : Nat) (MW : Int → Int) (MU : Int → Int) (MC : Int → Int) (tf : Nat) (td : Nat) (tS : Nat) (tr : Nat) (tp : Nat) (tt : Nat) (FL : Int → Int) (DP : Int → Int) (SH : Int → Int) (nY : Int) (Q : Int) (y : Int) (q : Int) (hMW : ∀ k, 0 ≤ MW k ∧ MW k ≤ 99) (hMU : ∀ k, 0 ≤ MU k ∧ MU k ≤ 999999) (hMC : ∀ k, 0 ≤ MC k ∧ MC k ≤ 12) (hFL : ∀ k, 0 ≤ FL k ∧ FL k ≤ 999999) (hDP : ∀ k, 0 ≤ DP k ∧ DP k ≤ 999999) (hSH : ∀ k, 0 ≤ SH k ∧ SH k ≤ 100) (hnY : 0 ≤ nY ∧ nY ≤ 5) (hQ : 0 ≤ Q ∧ Q ≤ 90) (hy : -2147483648 ≤ y ∧ y < 2147483648) (hq : -2147483648 ≤ q ∧ q < 2147483648) : gMetX l g yX9_price cX9_price 4 (some .long) 6 1 6 100 [.ref zo, vi y, vi q] [(zo, cO 9 [.ref lo, .ref wo, .ref to, .ref so, .ref ro, .ref vo, .ref eo, .ref bo, .ref mo, vi tn]), (mo, cO 3 [.ref mw, .ref mu, .ref mc]), (mw, cA g 36 MW), (mu, cA g 36 MU), (mc, cA g 3 MC), (to, cO 7 [.ref tf, .ref td, .ref tS, .ref tr, .ref tp, .ref tt, vi nY, vi Q]), (tf, cA g 5 FL), (td, cA g 5 DP), (tS, cA g 5 SH)] (fun v9 w9 => v9 = (some (vl (1000 * sm (wpy FL DP SH Q MW MU q y) (MC q) / sm (twt MW q) (MC q)))) ∧ w9 = [(zo, cO 9 [.ref lo, .ref wo, .ref to, .ref so, .ref ro, .ref vo, .ref eo, .ref bo, .ref mo, vi tn]), (mo, cO 3 [.ref mw, .ref mu, .ref mc]), (mw, cA g 36 MW), (mu, cA g 36 MU), (mc, cA g 3 MC), (to, cO 7 [.ref tf, .ref td, .ref tS, .ref tr, .ref tp, .ref tt, vi nY, vi Q]), (tf, cA g 5 FL), (td, cA g 5 DP), (tS, cA g 5 SH)] ∧ (((0 ≤ y ∧ y < nY) ∧ (0 ≤ q ∧ q ≤ 2)) ∧ 1 ≤ sm (twt MW q) (MC q))) (fun E9 w9 => w9 = [(zo, cO 9 [.ref lo, .ref wo, .ref to, .ref so, .ref ro, .ref vo, .ref eo, .ref bo, .ref mo, vi tn]), (mo, cO 3 [.ref mw, .ref mu, .ref mc]), (mw, cA g 36 MW), (mu, cA g 36 MU), (mc, cA g 3 MC), (to, cO 7 [.ref tf, .ref td, .ref tS, .ref tr, .ref tp, .ref tt, vi nY, vi Q]), (tf, cA g 5 FL), (td, cA g 5 DP), (tS, cA g 5 SH)] ∧ ((E9 = E3 ∧ (¬ ((0 ≤ y ∧ y < nY) ∧ (0 ≤ q ∧ q ≤ 2)))) ∨ (E9 = E2 ∧ (((0 ≤ y ∧ y < nY) ∧ (0 ≤ q ∧ q ≤ 2)) ∧ sm (twt MW q) (MC q) < 1)))) := by
  refine gMetX.of y_X9_price.2.2.2.2.1 (Nat.le_of_ble_eq_true rfl) hst9 ?_
  intro x hlx C hR
  subst hlx
  have C : gC g x RX9 cX9_price 4 6 1 6 100 := C
  show gW g x [(zo, cO 9 [.ref lo, .ref wo, .ref to, .ref so, .ref ro, .ref vo, .ref eo, .ref bo, .ref mo, vi tn]), (mo, cO 3 [.ref mw, .ref mu, .ref mc]), (mw, cA g 36 MW), (mu, cA g 36 MU), (mc, cA g 3 MC), (to, cO 7 [.ref tf, .ref td, .ref tS, .ref tr, .ref tp, .ref tt, vi nY, vi Q]), (tf, cA g 5 FL), (td, cA g 5 DP), (tS, cA g 5 SH)] 0 0 [(0, .ref zo), (1, vi y), (2, vi q)] 0 []
  refine g_aload_n C 0 dX9_price_0 rfl ?_
  refine g_getf C k_X9 2 f_X9_26 0 rfl rfl (by decide) rfl rfl dX9_price_1 ?_
  refine g_iload_n C 1 dX9_price_4 rfl ?_
  refine g_callVp C [vi y] [] (c_X7_has x.1.2.1 g to tf td tS tr tp tt nY Q y hnY hy) y_X7_has l_X9_158 [5] rfl (by decide) 5 rfl rfl rfl (Nat.le_of_ble_eq_true rfl) rfl (by decide) dX9_price_5 ?_
  refine g_if_eq C 18 dX9_price_8 (by decide) (by omega) (fun c8 => ?_) (fun c8 => ?_)
  · exact g_throwW C hR t_107 t_107k t_107i (List.mem_of_getElem? (i := 34) rfl) dX9_price_18 dX9_price_21 dX9_price_22 dX9_price_25 dX9_price_28 ⟨by decide, Nat.le_of_ble_eq_true rfl, by decide, by decide, by decide, by decide⟩ ⟨rfl, Or.inl ⟨rfl, (by omega)⟩⟩ rfl
  refine g_iload_n C 2 dX9_price_11 rfl ?_
  refine g_callSp C [vi q] [] (c_X9_isModel x.1.2.1 g q hq) y_X9_isModel l_X9_239 [] rfl (by decide) rfl (Nat.le_of_ble_eq_true rfl) rfl (by decide) dX9_price_12 ?_
  refine g_if_ne C 29 dX9_price_15 (by decide) (by omega) (fun c15 => ?_) (fun c15 => ?_)
  · refine g_aload_n C 0 dX9_price_29 rfl ?_
    refine g_getf C k_X9 8 f_X9_68 0 rfl rfl (by decide) rfl rfl dX9_price_30 ?_
    refine g_iload_n C 2 dX9_price_33 rfl ?_
    refine g_callVp C [vi q] [] (c_X3_totalWeight x.1.2.1 g mo mw mu mc MW MC q hMC (by omega)) y_X3_totalWeight l_X9_335 [1, 2, 4] rfl (by decide) 1 rfl rfl rfl (Nat.le_of_ble_eq_true rfl) rfl (by decide) dX9_price_34 ?_
    have hc9 := hMC q
    have ht9 := twt_r hMW q hc9
    refine g_istore_n C [(3, vi (sm (twt MW q) (MC q))), (0, .ref zo), (1, vi y), (2, vi q)] dX9_price_37 (by decide) rfl ?_
    refine g_iload_n C 0 dX9_price_38 rfl ?_
    refine g_iconst C dX9_price_39 ?_
    refine g_icmp_ge C 54 dX9_price_40 (by decide) (by omega) (by omega) (fun c40 => ?_) (fun c40 => ?_)
    · refine g_ldc2 C (1000) n_X9_340 (by decide) dX9_price_54 ?_
      refine g_aload_n C 1 dX9_price_57 rfl ?_
      refine g_getf C k_X9 8 f_X9_68 0 rfl rfl (by decide) rfl rfl dX9_price_58 ?_
      refine g_iload_n C 3 dX9_price_61 rfl ?_
      refine g_aload_n C 1 dX9_price_62 rfl ?_
      refine g_getf C k_X9 2 f_X9_26 0 rfl rfl (by decide) rfl rfl dX9_price_63 ?_
      refine g_iload_n C 2 dX9_price_66 rfl ?_
      refine g_callVp C [vi q, .ref to, vi y] [vl 1000] (c_X3_weighedPay x.1.2.1 g mo mw mu mc MW MU MC to tf td tS tr tp tt FL DP SH nY Q q y hMW hMU hMC hFL hDP hSH hQ (by omega) (by omega)) y_X3_weighedPay l_X9_342 [1, 2, 3, 4, 5, 6, 7, 8] rfl (by decide) 1 rfl rfl rfl (Nat.le_of_ble_eq_true rfl) rfl (by decide) dX9_price_67 ?_
      have hp9 := wpy_r (FL := FL) hMW hDP hSH Q MU q y hc9
      refine g_lmul C dX9_price_70 ?_
      refine g_iload_n C 0 dX9_price_71 rfl ?_
      refine g_i2l C dX9_price_72 (by omega) ?_
      refine g_ldiv C dX9_price_73 (by omega) (by omega) ?_
      refine g_widen (k' := 1) (n' := 6) (by decide) (by decide) ?_
      refine g_outX C hR (fun x' C hR => ?_)
      exact g_lret C hR dX9_price_74 ⟨rfl, rfl, (by omega)⟩ rfl
    exact g_throwW C hR t_95 t_95k t_95i (List.mem_of_getElem? (i := 35) rfl) dX9_price_43 dX9_price_46 dX9_price_47 dX9_price_50 dX9_price_53 ⟨by decide, Nat.le_of_ble_eq_true rfl, by decide, by decide, by decide, by decide⟩ ⟨rfl, Or.inr (⟨rfl, (by omega)⟩)⟩ rfl
  exact g_throwW C hR t_107 t_107k t_107i (List.mem_of_getElem? (i := 34) rfl) dX9_price_18 dX9_price_21 dX9_price_22 dX9_price_25 dX9_price_28 ⟨by decide, Nat.le_of_ble_eq_true rfl, by decide, by decide, by decide, by decide⟩ ⟨rfl, Or.inl ⟨rfl, (by omega)⟩⟩ rfl

set_option maxHeartbeats 4000000 in
set_option maxRecDepth 100000 in
theorem c_X9_tail (l : Launch) (hst9 : l.stackTraces = false) (g : gD) (zo : Nat) (lo : Nat) (wo : Nat) (to : Nat) (so : Nat) (ro : Nat) (vo : Nat) (eo : Nat) (bo : Nat) (mo : Nat) (tn : Int) (mw : Nat) (mu : Nat) (mc : Nat) (MW : Int → Int) (MU : Int → Int) (MC : Int → Int) (tf : Nat) (td : Nat) (tS : Nat) (tr : Nat) (tp : Nat) (tt : Nat) (FL : Int → Int) (DP : Int → Int) (SH : Int → Int) (nY : Int) (Q : Int) (y : Int) (q : Int) (u : Int) (hMW : ∀ k, 0 ≤ MW k ∧ MW k ≤ 99) (hMU : ∀ k, 0 ≤ MU k ∧ MU k ≤ 999999) (hMC : ∀ k, 0 ≤ MC k ∧ MC k ≤ 12) (hFL : ∀ k, 0 ≤ FL k ∧ FL k ≤ 999999) (hDP : ∀ k, 0 ≤ DP k ∧ DP k ≤ 999999) (hSH : ∀ k, 0 ≤ SH k ∧ SH k ≤ 100) (hnY : 0 ≤ nY ∧ nY ≤ 5) (hQ : 0 ≤ Q ∧ Q ≤ 90) (hy : -2147483648 ≤ y ∧ y < 2147483648) (hq : -2147483648 ≤ q ∧ q < 2147483648) (hu : -2147483648 ≤ u ∧ u < 2147483648) : gMetX l g yX9_tail cX9_tail 4 (some .int) 6 1 6 123 [.ref zo, vi y, vi q, vi u] [(zo, cO 9 [.ref lo, .ref wo, .ref to, .ref so, .ref ro, .ref vo, .ref eo, .ref bo, .ref mo, vi tn]), (mo, cO 3 [.ref mw, .ref mu, .ref mc]), (mw, cA g 36 MW), (mu, cA g 36 MU), (mc, cA g 3 MC), (to, cO 7 [.ref tf, .ref td, .ref tS, .ref tr, .ref tp, .ref tt, vi nY, vi Q]), (tf, cA g 5 FL), (td, cA g 5 DP), (tS, cA g 5 SH)] (fun v9 w9 => v9 = (some (vi (lb9 FL DP SH Q MW MU q y (MC q) (u * sm (twt MW q) (MC q)) (MC q)))) ∧ w9 = [(zo, cO 9 [.ref lo, .ref wo, .ref to, .ref so, .ref ro, .ref vo, .ref eo, .ref bo, .ref mo, vi tn]), (mo, cO 3 [.ref mw, .ref mu, .ref mc]), (mw, cA g 36 MW), (mu, cA g 36 MU), (mc, cA g 3 MC), (to, cO 7 [.ref tf, .ref td, .ref tS, .ref tr, .ref tp, .ref tt, vi nY, vi Q]), (tf, cA g 5 FL), (td, cA g 5 DP), (tS, cA g 5 SH)] ∧ ((((0 ≤ y ∧ y < nY) ∧ (0 ≤ q ∧ q ≤ 2)) ∧ (0 ≤ u ∧ u ≤ 99)) ∧ 1 ≤ MC q)) (fun E9 w9 => w9 = [(zo, cO 9 [.ref lo, .ref wo, .ref to, .ref so, .ref ro, .ref vo, .ref eo, .ref bo, .ref mo, vi tn]), (mo, cO 3 [.ref mw, .ref mu, .ref mc]), (mw, cA g 36 MW), (mu, cA g 36 MU), (mc, cA g 3 MC), (to, cO 7 [.ref tf, .ref td, .ref tS, .ref tr, .ref tp, .ref tt, vi nY, vi Q]), (tf, cA g 5 FL), (td, cA g 5 DP), (tS, cA g 5 SH)] ∧ ((E9 = E3 ∧ (¬ ((0 ≤ y ∧ y < nY) ∧ (0 ≤ q ∧ q ≤ 2)))) ∨ (E9 = E1 ∧ (((0 ≤ y ∧ y < nY) ∧ (0 ≤ q ∧ q ≤ 2)) ∧ ¬ (0 ≤ u ∧ u ≤ 99))) ∨ (E9 = E2 ∧ ((((0 ≤ y ∧ y < nY) ∧ (0 ≤ q ∧ q ≤ 2)) ∧ (0 ≤ u ∧ u ≤ 99)) ∧ MC q ≤ 0)))) := by
  refine gMetX.of y_X9_tail.2.2.2.2.1 (Nat.le_of_ble_eq_true rfl) hst9 ?_
  intro x hlx C hR
  subst hlx
  have C : gC g x RX9 cX9_tail 4 6 1 6 123 := C
  show gW g x [(zo, cO 9 [.ref lo, .ref wo, .ref to, .ref so, .ref ro, .ref vo, .ref eo, .ref bo, .ref mo, vi tn]), (mo, cO 3 [.ref mw, .ref mu, .ref mc]), (mw, cA g 36 MW), (mu, cA g 36 MU), (mc, cA g 3 MC), (to, cO 7 [.ref tf, .ref td, .ref tS, .ref tr, .ref tp, .ref tt, vi nY, vi Q]), (tf, cA g 5 FL), (td, cA g 5 DP), (tS, cA g 5 SH)] 0 0 [(0, .ref zo), (1, vi y), (2, vi q), (3, vi u)] 0 []
  refine g_aload_n C 0 dX9_tail_0 rfl ?_
  refine g_getf C k_X9 2 f_X9_26 0 rfl rfl (by decide) rfl rfl dX9_tail_1 ?_
  refine g_iload_n C 1 dX9_tail_4 rfl ?_
  refine g_callVp C [vi y] [] (c_X7_has x.1.2.1 g to tf td tS tr tp tt nY Q y hnY hy) y_X7_has l_X9_158 [5] rfl (by decide) 5 rfl rfl rfl (Nat.le_of_ble_eq_true rfl) rfl (by decide) dX9_tail_5 ?_
  refine g_if_eq C 18 dX9_tail_8 (by decide) (by omega) (fun c8 => ?_) (fun c8 => ?_)
  · exact g_throwW C hR t_107 t_107k t_107i (List.mem_of_getElem? (i := 34) rfl) dX9_tail_18 dX9_tail_21 dX9_tail_22 dX9_tail_25 dX9_tail_28 ⟨by decide, Nat.le_of_ble_eq_true rfl, by decide, by decide, by decide, by decide⟩ ⟨rfl, Or.inl ⟨rfl, (by omega)⟩⟩ rfl
  refine g_iload_n C 2 dX9_tail_11 rfl ?_
  refine g_callSp C [vi q] [] (c_X9_isModel x.1.2.1 g q hq) y_X9_isModel l_X9_239 [] rfl (by decide) rfl (Nat.le_of_ble_eq_true rfl) rfl (by decide) dX9_tail_12 ?_
  refine g_if_ne C 29 dX9_tail_15 (by decide) (by omega) (fun c15 => ?_) (fun c15 => ?_)
  · refine g_iload_n C 3 dX9_tail_29 rfl ?_
    refine g_iconst C dX9_tail_30 ?_
    refine g_bipush C dX9_tail_31 (by decide) ?_
    refine g_callSp C [vi u, vi 0, vi 99] [] (c_X9_isIn x.1.2.1 g u 0 99 hu (by omega) (by omega)) y_X9_isIn l_X9_80 [] rfl (by decide) rfl (Nat.le_of_ble_eq_true rfl) rfl (by decide) dX9_tail_33 ?_
    refine g_if_ne C 49 dX9_tail_36 (by decide) (by omega) (fun c36 => ?_) (fun c36 => ?_)
    · refine g_aload_n C 0 dX9_tail_49 rfl ?_
      refine g_getf C k_X9 8 f_X9_68 0 rfl rfl (by decide) rfl rfl dX9_tail_50 ?_
      refine g_iload_n C 2 dX9_tail_53 rfl ?_
      refine g_callVp C [vi q] [] (c_X3_isEmpty x.1.2.1 g mo mw mu mc MC q hMC (by omega)) y_X3_isEmpty l_X9_346 [1, 4] rfl (by decide) 1 rfl rfl rfl (Nat.le_of_ble_eq_true rfl) rfl (by decide) dX9_tail_54 ?_
      have hc9 := hMC q
      refine g_if_eq C 71 dX9_tail_57 (by decide) (by omega) (fun c57 => ?_) (fun c57 => ?_)
      · refine g_aload_n C 0 dX9_tail_71 rfl ?_
        refine g_getf C k_X9 8 f_X9_68 0 rfl rfl (by decide) rfl rfl dX9_tail_72 ?_
        refine g_iload_n C 2 dX9_tail_75 rfl ?_
        refine g_aload_n C 0 dX9_tail_76 rfl ?_
        refine g_getf C k_X9 2 f_X9_26 0 rfl rfl (by decide) rfl rfl dX9_tail_77 ?_
        refine g_iload_n C 1 dX9_tail_80 rfl ?_
        refine g_iload_n C 3 dX9_tail_81 rfl ?_
        refine g_callVp C [vi q, .ref to, vi y, vi u] [] (c_X3_leastBound x.1.2.1 g mo mw mu mc MW MU MC to tf td tS tr tp tt FL DP SH nY Q q y u hMW hMU hMC hFL hDP hSH hQ (by omega) (by omega) (by omega)) y_X3_leastBound l_X9_348 [1, 2, 3, 4, 5, 6, 7, 8] rfl (by decide) 1 rfl rfl rfl (Nat.le_of_ble_eq_true rfl) rfl (by decide) dX9_tail_82 ?_
        refine g_widen (k' := 1) (n' := 6) (by decide) (by decide) ?_
        refine g_outX C hR (fun x' C hR => ?_)
        exact g_iret C hR dX9_tail_85 ⟨rfl, rfl, (by omega)⟩ rfl
      exact g_throwW C hR t_95 t_95k t_95i (List.mem_of_getElem? (i := 35) rfl) dX9_tail_60 dX9_tail_63 dX9_tail_64 dX9_tail_67 dX9_tail_70 ⟨by decide, Nat.le_of_ble_eq_true rfl, by decide, by decide, by decide, by decide⟩ ⟨rfl, Or.inr (Or.inr (⟨rfl, (by omega)⟩))⟩ rfl
    exact g_throw C hR t_84 t_84k t_84i (List.mem_of_getElem? (i := 7) rfl) dX9_tail_39 dX9_tail_42 dX9_tail_43 dX9_tail_45 dX9_tail_48 ⟨by decide, Nat.le_of_ble_eq_true rfl, by decide, by decide, by decide, by decide⟩ ⟨rfl, Or.inr (Or.inl ⟨rfl, (by omega)⟩)⟩ rfl
  exact g_throwW C hR t_107 t_107k t_107i (List.mem_of_getElem? (i := 34) rfl) dX9_tail_18 dX9_tail_21 dX9_tail_22 dX9_tail_25 dX9_tail_28 ⟨by decide, Nat.le_of_ble_eq_true rfl, by decide, by decide, by decide, by decide⟩ ⟨rfl, Or.inl ⟨rfl, (by omega)⟩⟩ rfl

set_option maxHeartbeats 4000000 in
set_option maxRecDepth 100000 in
theorem c_X9_hour (l : Launch) (g : gD) (zo : Nat) (lo : Nat) (wo : Nat) (to : Nat) (so : Nat) (ro : Nat) (vo : Nat) (eo : Nat) (bo : Nat) (mo : Nat) (tn : Int)  : gMet l g yX9_hour cX9_hour 1 (some .int) 0 0 0 0 [.ref zo] [(zo, cO 9 [.ref lo, .ref wo, .ref to, .ref so, .ref ro, .ref vo, .ref eo, .ref bo, .ref mo, vi tn])] (gM (some (vi tn)) [(zo, cO 9 [.ref lo, .ref wo, .ref to, .ref so, .ref ro, .ref vo, .ref eo, .ref bo, .ref mo, vi tn])]) := by
  refine gMet.of y_X9_hour.2.2.2.2.1 (Nat.le_of_ble_eq_true rfl) ?_
  intro x hlx C hR hnm
  subst hlx
  have C : gC g x RX9 cX9_hour 1 0 0 0 0 := C
  show gW g x [(zo, cO 9 [.ref lo, .ref wo, .ref to, .ref so, .ref ro, .ref vo, .ref eo, .ref bo, .ref mo, vi tn])] 0 0 [(0, .ref zo)] 0 []
  refine g_aload_n C 0 dX9_hour_0 rfl ?_
  refine g_getf C k_X9 9 f_X9_212 0 rfl rfl (by decide) rfl rfl dX9_hour_1 ?_
  exact g_iretM C hR dX9_hour_4 rfl rfl rfl

