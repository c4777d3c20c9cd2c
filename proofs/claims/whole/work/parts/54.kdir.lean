/-- windows of one peril have no hour in common -/
def dj9 (OP OF OT : Int → Int) (n : Int) : Prop := (∀ i j, 0 ≤ i → i < n → 0 ≤ j → j < n → i ≠ j → OP i = OP j → OT i < OF j ∨ OT j < OF i) ∧ ∀ i, 0 ≤ i → i < n → OF i ≤ OT i
theorem dj9_dst {OP OF OT : Int → Int} {n : Int} (h : dj9 OP OF OT n) : dst9 OP OF n := fun i j i0 i1 j0 j1 e p => by
  by_cases q : i = j
  · exact q
  · have h1 := h.1 i j i0 i1 j0 j1 q p
    have h2 := h.2 i i0 i1
    have h3 := h.2 j j0 j1
    omega
noncomputable def ou9 (LP LH LU OP OF OT : Int → Int) (nO : Int) : Int → Int := fun l => if bI (¬ hic OP OF OT (LP l) (LH l) (LH l) nO) = 0 then 0 else LU l
theorem grd_one {OP OF OT : Int → Int} {n : Int} (hd : dj9 OP OF OT n) (LP LH LU : Int → Int) (l : Int) (hn : 0 ≤ n) : sm (fun o => grd LP LH LU (OP o) (OF o) (OT o) l) n = LU l - ou9 LP LH LU OP OF OT n l := by
  have key := sm_ind (P := fun m => m ≤ n → (hic OP OF OT (LP l) (LH l) (LH l) m → sm (fun o => grd LP LH LU (OP o) (OF o) (OT o) l) m = LU l) ∧ (¬ hic OP OF OT (LP l) (LH l) (LH l) m → sm (fun o => grd LP LH LU (OP o) (OF o) (OT o) l) m = 0)) (fun _ => ⟨fun ⟨k, h0, h1, _⟩ => by omega, fun _ => rfl⟩) (fun i hi ih him => by
    obtain ⟨h1, h2⟩ := ih (by omega)
    rw [sm_s _ hi]
    by_cases c : OP i = LP l ∧ OF i ≤ LH l ∧ LH l ≤ OT i
    · have e : grd LP LH LU (OP i) (OF i) (OT i) l = LU l := by unfold grd; rw [if_pos (by omega)]
      have hno : ¬ hic OP OF OT (LP l) (LH l) (LH l) i := fun ⟨k, k0, k1, k2, k3, k4⟩ => by
        have := hd.1 k i k0 (by omega) hi (by omega) (by omega) (by omega); omega
      refine ⟨fun _ => ?_, fun z => absurd ((hic_s hi).mpr (Or.inr c)) z⟩
      rw [h2 hno, e]; omega
    · have e : grd LP LH LU (OP i) (OF i) (OT i) l = 0 := by unfold grd; rw [if_neg (by omega)]
      rw [e]
      refine ⟨fun z => ?_, fun z => ?_⟩
      · rw [h1 (((hic_s hi).mp z).resolve_right c)]; omega
      · rw [h2 (fun y => z ((hic_s hi).mpr (Or.inl y)))]; omega) n hn (Int.le_refl _)
  unfold ou9
  by_cases q : hic OP OF OT (LP l) (LH l) (LH l) n
  · rw [key.1 q, bI_f (fun z => z q), if_pos rfl]; omega
  · rw [key.2 q, bI_t q, if_neg (by omega)]; omega
theorem sum_out {OP OF OT : Int → Int} {nO : Int} (hd : dj9 OP OF OT nO) (LP LH LU : Int → Int) {nL : Int} (hnL : 0 ≤ nL) (hnO : 0 ≤ nO) : sm (ou9 LP LH LU OP OF OT nO) nL = sm LU nL - sm (fun o => gro LP LH LU nL OP OF OT o) nO := by
  have e : sm (fun o => gro LP LH LU nL OP OF OT o) nO = sm (fun l => sm (fun o => grd LP LH LU (OP o) (OF o) (OT o) l) nO) nL := by unfold gro; exact sm_swap (fun o l => grd LP LH LU (OP o) (OF o) (OT o) l) hnO hnL
  have e2 : sm (fun l => sm (fun o => grd LP LH LU (OP o) (OF o) (OT o) l) nO) nL + sm (ou9 LP LH LU OP OF OT nO) nL = sm LU nL := by
    rw [← sm_add _ _ hnL]
    exact sm_congr hnL (fun l l0 l1 => by show sm (fun o => grd LP LH LU (OP o) (OF o) (OT o) l) nO + ou9 LP LH LU OP OF OT nO l = LU l; rw [grd_one hd LP LH LU l hnO]; omega)
  omega
/-- what the reinsurer z bears of the window o -/
def tT (LP LH LU : Int → Int) (nL : Int) (OP OF OT : Int → Int) (nO Q : Int) (FL DP SH RE PR RA : Int → Int) (PA : Int → Int) (nY z o : Int) : Int := (if z = 0 then qto Q (gro LP LH LU nL OP OF OT o) else 0) + sm (fun y => PA (6 * y + z) * kP LP LH LU nL OP OF OT nO Q FL DP SH RE PR RA y o / 100) nY
theorem tT_kB (LP LH LU : Int → Int) (nL : Int) (OP OF OT : Int → Int) (nO Q : Int) (FL DP SH RE PR RA : Int → Int) (PA : Int → Int) (nY z : Int) (hnO : 0 ≤ nO) (hnY : 0 ≤ nY) : sm (tT LP LH LU nL OP OF OT nO Q FL DP SH RE PR RA PA nY z) nO = kB LP LH LU nL OP OF OT nO Q FL DP SH RE PR RA PA nY z := by
  have e : sm (tT LP LH LU nL OP OF OT nO Q FL DP SH RE PR RA PA nY z) nO = sm (fun o => if z = 0 then qto Q (gro LP LH LU nL OP OF OT o) else 0) nO + sm (fun o => sm (fun y => PA (6 * y + z) * kP LP LH LU nL OP OF OT nO Q FL DP SH RE PR RA y o / 100) nY) nO := sm_add _ _ hnO
  rw [e, sm_swap (fun o y => PA (6 * y + z) * kP LP LH LU nL OP OF OT nO Q FL DP SH RE PR RA y o / 100) hnO hnY]
  unfold kB
  have e1 : sm (fun o => if z = 0 then qto Q (gro LP LH LU nL OP OF OT o) else 0) nO = if z = 0 then sm (fun o => qto Q (gro LP LH LU nL OP OF OT o)) nO else 0 := by
    by_cases q : z = 0
    · rw [if_pos q]; exact sm_congr hnO (fun o _ _ => if_pos q)
    · rw [if_neg q, sm_congr (G := fun _ => 0) hnO (fun o _ _ => if_neg q), sm_const0 hnO]
  rw [e1]
  congr 1
  refine sm_congr hnY (fun y _ _ => sm_congr hnO (fun o _ _ => ?_))
  rw [show 6 * y + z = y * 6 + z by omega]

set_option maxHeartbeats 4000000 in
set_option maxRecDepth 100000 in
theorem c_X10_isOutside (l : Launch) (g : gD) (ko : Nat) (A : Nat → Nat) (th : Int) (hr : Int) (nL : Int) (nO : Int) (Q : Int) (nY : Int) (nE : Int) (nR : Int) (nB : Int) (LP : Int → Int) (LH : Int → Int) (OP : Int → Int) (OF : Int → Int) (OT : Int → Int) (v : Int) (hLP : ∀ k, 0 ≤ LP k ∧ LP k ≤ 2) (hLH : ∀ k, 0 ≤ LH k ∧ LH k ≤ 2199) (hOP : ∀ k, 0 ≤ OP k ∧ OP k ≤ 2) (hOF : ∀ k, 0 ≤ OF k ∧ OF k ≤ 2199) (hOT : ∀ k, 0 ≤ OT k ∧ OT k ≤ 2199) (hnO : 0 ≤ nO ∧ nO ≤ 8) (hv4 : 0 ≤ v ∧ v < 40) (hv : -2147483648 ≤ v ∧ v < 2147483648) : gMet l g yX10_isOutside cX10_isOutside 4 (some .boolean) 2 0 0 44 [.ref ko, vi v] [(ko, cO 10 (kF th hr nL nO Q nY nE nR nB A)), (A 3, cA g 40 LP), (A 4, cA g 40 LH), (A 7, cA g 8 OP), (A 8, cA g 8 OF), (A 9, cA g 8 OT)] (gM (some (vi (bI (¬ hic OP OF OT (LP v) (LH v) (LH v) nO)))) [(ko, cO 10 (kF th hr nL nO Q nY nE nR nB A)), (A 3, cA g 40 LP), (A 4, cA g 40 LH), (A 7, cA g 8 OP), (A 8, cA g 8 OF), (A 9, cA g 8 OT)]) := by
  refine gMet.of y_X10_isOutside.2.2.2.2.1 (Nat.le_of_ble_eq_true rfl) ?_
  intro x hlx C hR hnm
  subst hlx
  have C : gC g x RX10 cX10_isOutside 4 2 0 0 44 := C
  show gW g x [(ko, cO 10 (kF th hr nL nO Q nY nE nR nB A)), (A 3, cA g 40 LP), (A 4, cA g 40 LH), (A 7, cA g 8 OP), (A 8, cA g 8 OF), (A 9, cA g 8 OT)] 0 0 [(0, .ref ko), (1, vi v)] 0 []
  refine g_iconst C dX10_isOutside_0 ?_
  refine g_istore_n C [(2, vi 1), (0, .ref ko), (1, vi v)] dX10_isOutside_1 (by decide) rfl ?_
  refine g_iconst C dX10_isOutside_2 ?_
  refine g_istore_n C [(3, vi 0), (2, vi 1), (0, .ref ko), (1, vi v)] dX10_isOutside_3 (by decide) rfl ?_
  have L4 : ∀ (f : Nat) (is9 : Int) (i : Int), (0 ≤ i ∧ i ≤ nO ∧ cn9 is9 OP OF OT (LP v) (LH v) (LH v) 0 i) → (nO - i).toNat < f → gW g x [(ko, cO 10 (kF th hr nL nO Q nY nE nR nB A)), (A 3, cA g 40 LP), (A 4, cA g 40 LH), (A 7, cA g 8 OP), (A 8, cA g 8 OF), (A 9, cA g 8 OT)] 0 0 [(3, vi i), (2, vi is9), (0, .ref ko), (1, vi v)] 4 [] := by
    intro f
    induction f with
    | zero => intro is9 i hI4 hf; exact absurd hf (Nat.not_lt_zero _)
    | succ f ih4 =>
      intro is9 i hI4 hf4
      obtain ⟨hi0, hi1, hcn⟩ := hI4
      have hcr := cn9_r hcn
      refine g_iload_n C 0 dX10_isOutside_4 rfl ?_
      refine g_aload_n C 2 dX10_isOutside_5 rfl ?_
      refine g_getf C k_X10 6 f_X10_163 0 rfl rfl (by decide) rfl rfl dX10_isOutside_6 ?_
      refine g_icmp_ge C 37 dX10_isOutside_9 (by decide) (by omega) (by omega) (fun c9 => ?_) (fun c9 => ?_)
      · have hcn := (show i = nO by omega) ▸ hcn
        refine g_iload_n C 1 dX10_isOutside_37 rfl ?_
        exact g_zretM C hR dX10_isOutside_38 (by omega) (by rcases hcn with ⟨e, q | q⟩ | ⟨e, _, q⟩; (omega); (rw [e, bI_f (fun z => z q)]); (rw [e, bI_t q])) rfl rfl
      have J30 : ∀ (w9 : Int), (w9 = if is9 = 1 ∧ ¬ (OP i = LP v ∧ OF i ≤ LH v ∧ LH v ≤ OT i) then 1 else 0) → gW g x [(ko, cO 10 (kF th hr nL nO Q nY nE nR nB A)), (A 3, cA g 40 LP), (A 4, cA g 40 LH), (A 7, cA g 8 OP), (A 8, cA g 8 OF), (A 9, cA g 8 OT)] 0 0 [(3, vi i), (2, vi is9), (0, .ref ko), (1, vi v)] 30 [vi w9] := by
        intro w9 hJ30
        refine g_istore_n C [(2, vi w9), (3, vi i), (0, .ref ko), (1, vi v)] dX10_isOutside_30 (by decide) rfl ?_
        refine g_iinc C 1 [(3, vi (i + 1)), (2, vi w9), (0, .ref ko), (1, vi v)] dX10_isOutside_31 rfl (by decide) rfl ?_
        refine g_goto C 4 dX10_isOutside_34 (by decide) ?_
        exact ih4 w9 (i + 1) ⟨by omega, by omega, cn9_s hi0 hcn hJ30⟩ (by omega)
      refine g_iload_n C 1 dX10_isOutside_12 rfl ?_
      refine g_if_eq C 29 dX10_isOutside_13 (by decide) (by omega) (fun c13 => ?_) (fun c13 => ?_)
      · refine g_iconst C dX10_isOutside_29 ?_
        exact J30 0 (by omega)
      refine g_aload_n C 2 dX10_isOutside_16 rfl ?_
      refine g_iload_n C 3 dX10_isOutside_17 rfl ?_
      refine g_iload_n C 0 dX10_isOutside_18 rfl ?_
      refine g_callVp C [vi v, vi i] [] (c_X10_isIn x.1.2.1 g ko A th hr nL nO Q nY nE nR nB LP LH OP OF OT v i hLP hLH hOP hOF hOT hv4 (by omega) hv (by omega)) y_X10_isIn l_X10_166 [0, 1, 2, 3, 4, 5] rfl (by decide) 0 rfl rfl rfl (Nat.le_of_ble_eq_true rfl) rfl (by decide) dX10_isOutside_19 ?_
      refine g_if_ne C 29 dX10_isOutside_22 (by decide) (by omega) (fun c22 => ?_) (fun c22 => ?_)
      · refine g_iconst C dX10_isOutside_29 ?_
        exact J30 0 (by omega)
      refine g_iconst C dX10_isOutside_25 ?_
      refine g_goto C 30 dX10_isOutside_26 (by decide) ?_
      exact J30 1 (by omega)
  exact L4 _ 1 0 ⟨by omega, by omega, cn9_0 (by omega)⟩ (Nat.lt_succ_self _)

set_option maxHeartbeats 4000000 in
set_option maxRecDepth 100000 in
theorem c_X10_findDirect (l : Launch) (g : gD) (ko : Nat) (A : Nat → Nat) (th : Int) (hr : Int) (nL : Int) (nO : Int) (Q : Int) (nY : Int) (nE : Int) (nR : Int) (nB : Int) (LP : Int → Int) (LH : Int → Int) (LU : Int → Int) (OP : Int → Int) (OF : Int → Int) (OT : Int → Int) (FL : Int → Int) (DP : Int → Int) (RE : Int → Int) (ZP : Int → Int) (ZH : Int → Int) (ZB : Int → Int) (ZL : Int → Int) (SH : Int → Int) (PR : Int → Int) (RA : Int → Int) (PA : Int → Int) (ZD : Int → Int) (hLP : ∀ k, 0 ≤ LP k ∧ LP k ≤ 2) (hLH : ∀ k, 0 ≤ LH k ∧ LH k ≤ 2199) (hLU : ∀ k, 0 ≤ LU k ∧ LU k ≤ 99999) (hnL : 0 ≤ nL ∧ nL ≤ 40) (hOP : ∀ k, 0 ≤ OP k ∧ OP k ≤ 2) (hOF : ∀ k, 0 ≤ OF k ∧ OF k ≤ 2199) (hOT : ∀ k, 0 ≤ OT k ∧ OT k ≤ 2199) (hnO : 0 ≤ nO ∧ nO ≤ 8) (hFL : ∀ k, 0 ≤ FL k ∧ FL k ≤ 999999) (hDP : ∀ k, 0 ≤ DP k ∧ DP k ≤ 999999) (hRE : ∀ k, 0 ≤ RE k ∧ RE k ≤ 3) (hnY : 0 ≤ nY ∧ nY ≤ 5) (hQ : 0 ≤ Q ∧ Q ≤ 90) (hZH : ∀ k, 0 ≤ ZH k ∧ ZH k ≤ 999999) (hZB : ∀ k, 0 ≤ ZB k ∧ ZB k ≤ 999999) (hdst : dst9 OP OF nO) (hSH : ∀ k, 0 ≤ SH k ∧ SH k ≤ 100) (hPR : ∀ k, 0 ≤ PR k ∧ PR k ≤ 99999) (hRA : ∀ k, 0 ≤ RA k ∧ RA k ≤ 150) (hDP1 : ∀ k, 0 ≤ k → k < nY → 1 ≤ DP k) (hPA : ∀ k, 0 ≤ PA k ∧ PA k ≤ 100) (hZD : ∀ k, 0 ≤ ZD k ∧ ZD k ≤ 100000000) : gMet l g yX10_findDirect cX10_findDirect 4 none 5 0 0 116 [.ref ko] [(ko, cO 10 (kF th hr nL nO Q nY nE nR nB A)), (A 3, cA g 40 LP), (A 4, cA g 40 LH), (A 5, cA g 40 LU), (A 7, cA g 8 OP), (A 8, cA g 8 OF), (A 9, cA g 8 OT), (A 12, cA g 5 FL), (A 13, cA g 5 DP), (A 15, cA g 5 RE), (A 42, cA g 8 ZP), (A 43, cA g 40 ZH), (A 44, cA g 40 ZB), (A 45, cA g 40 ZL), (A 14, cA g 5 SH), (A 16, cA g 5 PR), (A 17, cA g 5 RA), (A 18, cA g 30 PA), (A 46, cJ g 6 ZD)] (fun v9 w9 => ∃ (ZP2 : Int → Int) (ZH2 : Int → Int) (ZB2 : Int → Int) (ZL2 : Int → Int) (ZD2 : Int → Int), v9 = none ∧ w9 = [(ko, cO 10 (kF th hr nL nO Q nY nE nR nB A)), (A 3, cA g 40 LP), (A 4, cA g 40 LH), (A 5, cA g 40 LU), (A 7, cA g 8 OP), (A 8, cA g 8 OF), (A 9, cA g 8 OT), (A 12, cA g 5 FL), (A 13, cA g 5 DP), (A 15, cA g 5 RE), (A 42, cA g 8 ZP2), (A 43, cA g 40 ZH2), (A 44, cA g 40 ZB2), (A 45, cA g 40 ZL2), (A 14, cA g 5 SH), (A 16, cA g 5 PR), (A 17, cA g 5 RA), (A 18, cA g 30 PA), (A 46, cJ g 6 ZD2)] ∧ (∀ k, 0 ≤ k → k < nO → ZP2 k = plc OP OF nO k) ∧ (∀ y k, 0 ≤ y → y < nY → 0 ≤ k → k < nO → ZH2 (8 * y + k) = kH LP LH LU nL OP OF OT nO Q FL DP SH RE PR RA y k) ∧ (∀ y k, 0 ≤ y → y < nY → 0 ≤ k → k < nO → ZB2 (8 * y + k) = kR LP LH LU nL OP OF OT nO Q FL DP SH RE PR RA y k) ∧ (∀ y k, 0 ≤ y → y < nY → 0 ≤ k → k < nO → ZL2 (8 * y + k) = kL LP LH LU nL OP OF OT nO Q FL DP SH RE PR RA y k) ∧ (∀ k, 0 ≤ ZH2 k ∧ ZH2 k ≤ 999999) ∧ (∀ k, 0 ≤ ZB2 k ∧ ZB2 k ≤ 999999) ∧ (∀ z, 0 ≤ z → z < 6 → ZD2 z = kB LP LH LU nL OP OF OT nO Q FL DP SH RE PR RA PA nY z) ∧ (∀ k, 0 ≤ ZD2 k ∧ ZD2 k ≤ 100000000)) := by
  refine gMet.of y_X10_findDirect.2.2.2.2.1 (Nat.le_of_ble_eq_true rfl) ?_
  intro x hlx C hR hnm
  subst hlx
  have C : gC g x RX10 cX10_findDirect 4 5 0 0 116 := C
  show gW g x [(ko, cO 10 (kF th hr nL nO Q nY nE nR nB A)), (A 3, cA g 40 LP), (A 4, cA g 40 LH), (A 5, cA g 40 LU), (A 7, cA g 8 OP), (A 8, cA g 8 OF), (A 9, cA g 8 OT), (A 12, cA g 5 FL), (A 13, cA g 5 DP), (A 15, cA g 5 RE), (A 42, cA g 8 ZP), (A 43, cA g 40 ZH), (A 44, cA g 40 ZB), (A 45, cA g 40 ZL), (A 14, cA g 5 SH), (A 16, cA g 5 PR), (A 17, cA g 5 RA), (A 18, cA g 30 PA), (A 46, cJ g 6 ZD)] 0 0 [(0, .ref ko)] 0 []
  refine g_aload_n C 0 dX10_findDirect_0 rfl ?_
  refine g_callV C [] [] (c_X10_settle x.1.2.1 g ko A th hr nL nO Q nY nE nR nB LP LH LU OP OF OT FL DP RE ZP ZH ZB ZL SH PR RA hLP hLH hLU hnL hOP hOF hOT hnO hFL hDP hRE hnY hQ hZH hZB hdst) y_X10_settle l_X10_233 [0, 1, 2, 3, 4, 5, 6, 7, 8, 9, 10, 11, 12, 13] rfl (by decide) 0 rfl rfl rfl (Nat.le_of_ble_eq_true rfl) rfl (by decide) dX10_findDirect_1 (fun v9 w9 hp9 => ?_)
  obtain ⟨ZP21, ZH21, ZB21, ZL21, rfl, rfl, hfP_1, hfH_1, hfB_1, hfL_1, hZH_1, hZB_1⟩ := hp9
  simp only [putAll, List.set_cons_succ, List.set_cons_zero, List.cons_append, List.nil_append, List.append_nil, Option.toList]
  show gW g x [(ko, cO 10 (kF th hr nL nO Q nY nE nR nB A)), (A 3, cA g 40 LP), (A 4, cA g 40 LH), (A 5, cA g 40 LU), (A 7, cA g 8 OP), (A 8, cA g 8 OF), (A 9, cA g 8 OT), (A 12, cA g 5 FL), (A 13, cA g 5 DP), (A 15, cA g 5 RE), (A 42, cA g 8 ZP21), (A 43, cA g 40 ZH21), (A 44, cA g 40 ZB21), (A 45, cA g 40 ZL21), (A 14, cA g 5 SH), (A 16, cA g 5 PR), (A 17, cA g 5 RA), (A 18, cA g 30 PA), (A 46, cJ g 6 ZD)] 0 0 [(0, .ref ko)] 4 []
  refine g_iconst C dX10_findDirect_4 ?_
  refine g_istore_n C [(1, vi 0), (0, .ref ko)] dX10_findDirect_5 (by decide) rfl ?_
  have L6 : ∀ (f : Nat) (i : Int) (cB : Int → Int), (0 ≤ i ∧ i ≤ 6 ∧ cB = cpy (fun z => kB LP LH LU nL OP OF OT nO Q FL DP SH RE PR RA PA nY z) ZD i) → (6 - i).toNat < f → gW g x [(ko, cO 10 (kF th hr nL nO Q nY nE nR nB A)), (A 3, cA g 40 LP), (A 4, cA g 40 LH), (A 5, cA g 40 LU), (A 7, cA g 8 OP), (A 8, cA g 8 OF), (A 9, cA g 8 OT), (A 12, cA g 5 FL), (A 13, cA g 5 DP), (A 15, cA g 5 RE), (A 42, cA g 8 ZP21), (A 43, cA g 40 ZH21), (A 44, cA g 40 ZB21), (A 45, cA g 40 ZL21), (A 14, cA g 5 SH), (A 16, cA g 5 PR), (A 17, cA g 5 RA), (A 18, cA g 30 PA), (A 46, cJ g 6 cB)] 0 0 [(1, vi i), (0, .ref ko)] 6 [] := by
    intro f
    induction f with
    | zero => intro i cB hI6 hf; exact absurd hf (Nat.not_lt_zero _)
    | succ f ih6 =>
      intro i cB hI6 hf6
      obtain ⟨hi0, hi1, hB⟩ := hI6
      refine g_iload_n C 0 dX10_findDirect_6 rfl ?_
      refine g_bipush C dX10_findDirect_7 (by decide) ?_
      refine g_icmp_ge C 127 dX10_findDirect_9 (by decide) (by omega) (by omega) (fun c9 => ?_) (fun c9 => ?_)
      · exact g_vret C hR dX10_findDirect_127 ⟨ZP21, ZH21, ZB21, ZL21, cB, rfl, rfl, hfP_1, hfH_1, hfB_1, hfL_1, hZH_1, hZB_1, (fun z z0 z1 => by rw [hB, show i = 6 by omega, cpy_in ⟨z0, z1⟩]), (fun k => by rw [hB, show i = 6 by omega]; exact cpy_r (fun z h0 h1 => kB_r hLU hnL (hnO := hnO) (hnY := hnY) (hQ := hQ) (hDP := hDP) (hSH := hSH) (hRE := hRE) hPA z) hZD k)⟩ rfl
      refine g_aload_n C 1 dX10_findDirect_12 rfl ?_
      refine g_getf C k_X10 46 f_X10_121 0 rfl rfl (by decide) rfl rfl dX10_findDirect_13 ?_
      refine g_iload_n C 0 dX10_findDirect_16 rfl ?_
      refine g_lconst C dX10_findDirect_17 0 (by decide) ?_
      refine g_last C 18 rfl (by omega) [(ko, cO 10 (kF th hr nL nO Q nY nE nR nB A)), (A 3, cA g 40 LP), (A 4, cA g 40 LH), (A 5, cA g 40 LU), (A 7, cA g 8 OP), (A 8, cA g 8 OF), (A 9, cA g 8 OT), (A 12, cA g 5 FL), (A 13, cA g 5 DP), (A 15, cA g 5 RE), (A 42, cA g 8 ZP21), (A 43, cA g 40 ZH21), (A 44, cA g 40 ZB21), (A 45, cA g 40 ZL21), (A 14, cA g 5 SH), (A 16, cA g 5 PR), (A 17, cA g 5 RA), (A 18, cA g 30 PA), (A 46, cJ g 6 (up cB i 0))] rfl dX10_findDirect_18 ?_
      refine g_iconst C dX10_findDirect_19 ?_
      refine g_istore_n C [(2, vi 0), (1, vi i), (0, .ref ko)] dX10_findDirect_20 (by decide) rfl ?_
      have L21 : ∀ (f : Nat) (o : Int) (cD : Int → Int), (0 ≤ o ∧ o ≤ nO ∧ cD = up cB i (sm (tT LP LH LU nL OP OF OT nO Q FL DP SH RE PR RA PA nY i) o)) → (nO - o).toNat < f → gW g x [(ko, cO 10 (kF th hr nL nO Q nY nE nR nB A)), (A 3, cA g 40 LP), (A 4, cA g 40 LH), (A 5, cA g 40 LU), (A 7, cA g 8 OP), (A 8, cA g 8 OF), (A 9, cA g 8 OT), (A 12, cA g 5 FL), (A 13, cA g 5 DP), (A 15, cA g 5 RE), (A 42, cA g 8 ZP21), (A 43, cA g 40 ZH21), (A 44, cA g 40 ZB21), (A 45, cA g 40 ZL21), (A 14, cA g 5 SH), (A 16, cA g 5 PR), (A 17, cA g 5 RA), (A 18, cA g 30 PA), (A 46, cJ g 6 cD)] 0 0 [(2, vi o), (1, vi i), (0, .ref ko)] 21 [] := by
        intro f
        induction f with
        | zero => intro o cD hI21 hf; exact absurd hf (Nat.not_lt_zero _)
        | succ f ih21 =>
          intro o cD hI21 hf21
          obtain ⟨ho0, ho1, hD⟩ := hI21
          have hg9 := gro_r (LP := LP) (LH := LH) hLU hnL OP OF OT o
          have hq9 := qto_r hQ hg9
          refine g_iload_n C 0 dX10_findDirect_21 rfl ?_
          refine g_aload_n C 2 dX10_findDirect_22 rfl ?_
          refine g_getf C k_X10 6 f_X10_163 0 rfl rfl (by decide) rfl rfl dX10_findDirect_23 ?_
          refine g_icmp_ge C 121 dX10_findDirect_26 (by decide) (by omega) (by omega) (fun c26 => ?_) (fun c26 => ?_)
          · refine g_iinc C 1 [(1, vi (i + 1)), (2, vi o), (0, .ref ko)] dX10_findDirect_121 rfl (by decide) rfl ?_
            refine g_goto C 6 dX10_findDirect_124 (by decide) ?_
            refine g_lv [(1, vi (i + 1)), (0, .ref ko)] [0, 2] rfl ?_
            exact ih6 (i + 1) cD ⟨by omega, by omega, by rw [cpy_s _ _ hi0, ← hB, hD, show o = nO by omega, tT_kB _ _ _ _ _ _ _ _ _ _ _ _ _ _ _ _ _ _ hnO.1 hnY.1]⟩ (by omega)
          refine g_aload_n C 2 dX10_findDirect_29 rfl ?_
          refine g_getf C k_X10 46 f_X10_121 0 rfl rfl (by decide) rfl rfl dX10_findDirect_30 ?_
          refine g_iload_n C 1 dX10_findDirect_33 rfl ?_
          refine g_dup2 C dX10_findDirect_34 rfl rfl ?_
          refine g_lald C 18 rfl (by omega) dX10_findDirect_35 ?_
          have J54 : ∀ (w9 : Int), (w9 = if i = 0 then qto Q (gro LP LH LU nL OP OF OT o) else 0) → gW g x [(ko, cO 10 (kF th hr nL nO Q nY nE nR nB A)), (A 3, cA g 40 LP), (A 4, cA g 40 LH), (A 5, cA g 40 LU), (A 7, cA g 8 OP), (A 8, cA g 8 OF), (A 9, cA g 8 OT), (A 12, cA g 5 FL), (A 13, cA g 5 DP), (A 15, cA g 5 RE), (A 42, cA g 8 ZP21), (A 43, cA g 40 ZH21), (A 44, cA g 40 ZB21), (A 45, cA g 40 ZL21), (A 14, cA g 5 SH), (A 16, cA g 5 PR), (A 17, cA g 5 RA), (A 18, cA g 30 PA), (A 46, cJ g 6 cD)] 0 0 [(2, vi o), (1, vi i), (0, .ref ko)] 54 [vl w9, vl (cD i), vi i, .ref (A 46)] := by
            intro w9 hJ54
            refine g_ladd C dX10_findDirect_54 ?_
            refine g_last C 18 rfl (by omega) [(ko, cO 10 (kF th hr nL nO Q nY nE nR nB A)), (A 3, cA g 40 LP), (A 4, cA g 40 LH), (A 5, cA g 40 LU), (A 7, cA g 8 OP), (A 8, cA g 8 OF), (A 9, cA g 8 OT), (A 12, cA g 5 FL), (A 13, cA g 5 DP), (A 15, cA g 5 RE), (A 42, cA g 8 ZP21), (A 43, cA g 40 ZH21), (A 44, cA g 40 ZB21), (A 45, cA g 40 ZL21), (A 14, cA g 5 SH), (A 16, cA g 5 PR), (A 17, cA g 5 RA), (A 18, cA g 30 PA), (A 46, cJ g 6 (up cD i ((cD i) + w9)))] rfl dX10_findDirect_55 ?_
            refine g_iconst C dX10_findDirect_56 ?_
            refine g_istore_n C [(3, vi 0), (2, vi o), (1, vi i), (0, .ref ko)] dX10_findDirect_57 (by decide) rfl ?_
            have L58 : ∀ (f : Nat) (l : Int) (cE : Int → Int), (0 ≤ l ∧ l ≤ nY ∧ cE = up cB i (sm (tT LP LH LU nL OP OF OT nO Q FL DP SH RE PR RA PA nY i) o + (if i = 0 then qto Q (gro LP LH LU nL OP OF OT o) else 0) + sm (fun y => PA (6 * y + i) * kP LP LH LU nL OP OF OT nO Q FL DP SH RE PR RA y o / 100) l)) → (nY - l).toNat < f → gW g x [(ko, cO 10 (kF th hr nL nO Q nY nE nR nB A)), (A 3, cA g 40 LP), (A 4, cA g 40 LH), (A 5, cA g 40 LU), (A 7, cA g 8 OP), (A 8, cA g 8 OF), (A 9, cA g 8 OT), (A 12, cA g 5 FL), (A 13, cA g 5 DP), (A 15, cA g 5 RE), (A 42, cA g 8 ZP21), (A 43, cA g 40 ZH21), (A 44, cA g 40 ZB21), (A 45, cA g 40 ZL21), (A 14, cA g 5 SH), (A 16, cA g 5 PR), (A 17, cA g 5 RA), (A 18, cA g 30 PA), (A 46, cJ g 6 cE)] 0 0 [(3, vi l), (2, vi o), (1, vi i), (0, .ref ko)] 58 [] := by
              intro f
              induction f with
              | zero => intro l cE hI58 hf; exact absurd hf (Nat.not_lt_zero _)
              | succ f ih58 =>
                intro l cE hI58 hf58
                obtain ⟨hl0, hl1, hE⟩ := hI58
                refine g_iload_n C 0 dX10_findDirect_58 rfl ?_
                refine g_aload_n C 3 dX10_findDirect_59 rfl ?_
                refine g_getf C k_X10 11 f_X10_176 0 rfl rfl (by decide) rfl rfl dX10_findDirect_60 ?_
                refine g_icmp_ge C 115 dX10_findDirect_63 (by decide) (by omega) (by omega) (fun c63 => ?_) (fun c63 => ?_)
                · refine g_iinc C 1 [(2, vi (o + 1)), (3, vi l), (1, vi i), (0, .ref ko)] dX10_findDirect_115 rfl (by decide) rfl ?_
                  refine g_goto C 21 dX10_findDirect_118 (by decide) ?_
                  refine g_lv [(2, vi (o + 1)), (1, vi i), (0, .ref ko)] [0, 2, 3] rfl ?_
                  exact ih21 (o + 1) cE ⟨by omega, by omega, by rw [hE, sm_s _ ho0, show l = nY by omega]; congr 1; show _ = _ + ((if i = 0 then qto Q (gro LP LH LU nL OP OF OT o) else 0) + sm (fun y => PA (6 * y + i) * kP LP LH LU nL OP OF OT nO Q FL DP SH RE PR RA y o / 100) nY); omega⟩ (by omega)
                refine g_aload_n C 3 dX10_findDirect_66 rfl ?_
                refine g_getf C k_X10 46 f_X10_121 0 rfl rfl (by decide) rfl rfl dX10_findDirect_67 ?_
                refine g_iload_n C 2 dX10_findDirect_70 rfl ?_
                refine g_dup2 C dX10_findDirect_71 rfl rfl ?_
                refine g_lald C 18 rfl (by omega) dX10_findDirect_72 ?_
                refine g_aload_n C 3 dX10_findDirect_73 rfl ?_
                refine g_getf C k_X10 18 f_X10_46 0 rfl rfl (by decide) rfl rfl dX10_findDirect_74 ?_
                refine g_bipush C dX10_findDirect_77 (by decide) ?_
                refine g_iload_n C 0 dX10_findDirect_79 rfl ?_
                refine g_imul C dX10_findDirect_80 ?_
                refine g_iload_n C 2 dX10_findDirect_81 rfl ?_
                refine g_iadd C dX10_findDirect_82 ?_
                refine g_iald C 17 rfl (by omega) dX10_findDirect_83 ?_
                have r1_83 := hPA ((6 * l) + i)
                refine g_i2l C dX10_findDirect_84 (by omega) ?_
                refine g_aload_n C 3 dX10_findDirect_85 rfl ?_
                refine g_iload_n C 0 dX10_findDirect_86 rfl ?_
                refine g_aload_n C 3 dX10_findDirect_87 rfl ?_
                refine g_getf C k_X10 43 f_X10_112 0 rfl rfl (by decide) rfl rfl dX10_findDirect_88 ?_
                refine g_bipush C dX10_findDirect_91 (by decide) ?_
                refine g_iload_n C 0 dX10_findDirect_93 rfl ?_
                refine g_imul C dX10_findDirect_94 ?_
                refine g_iload_n C 1 dX10_findDirect_95 rfl ?_
                refine g_iadd C dX10_findDirect_96 ?_
                refine g_iald C 11 rfl (by omega) dX10_findDirect_97 ?_
                have r2_97 := hZH_1 ((8 * l) + o)
                have hz9 := hZH_1 (8 * l + o)
                refine g_callVp C [vi l, vi (ZH21 ((8 * l) + o))] [vl (PA ((6 * l) + i)), vl (cE i), vi i, .ref (A 46)] (c_X10_pays x.1.2.1 g ko A th hr nL nO Q nY nE nR nB SH l (ZH21 ((8 * l) + o)) hSH (by omega) (by omega) (by omega) (by omega)) y_X10_pays l_X10_236 [0, 14] rfl (by decide) 0 rfl rfl rfl (Nat.le_of_ble_eq_true rfl) rfl (by decide) dX10_findDirect_98 ?_
                have hp9 := pay_r hSH l (hZH_1 (8 * l + o))
                have hpa9 := hPA (6 * l + i)
                have hm9 := mul_rng hpa9 (show 0 ≤ pay SH l (ZH21 (8 * l + o)) ∧ pay SH l (ZH21 (8 * l + o)) ≤ 999999 by omega)
                refine g_i2l C dX10_findDirect_101 (by omega) ?_
                refine g_lmul C dX10_findDirect_102 ?_
                refine g_ldc2 C (100) n_X10_173 (by decide) dX10_findDirect_103 ?_
                refine g_ldiv C dX10_findDirect_106 (by omega) (by omega) ?_
                refine g_ladd C dX10_findDirect_107 ?_
                refine g_last C 18 rfl (by omega) [(ko, cO 10 (kF th hr nL nO Q nY nE nR nB A)), (A 3, cA g 40 LP), (A 4, cA g 40 LH), (A 5, cA g 40 LU), (A 7, cA g 8 OP), (A 8, cA g 8 OF), (A 9, cA g 8 OT), (A 12, cA g 5 FL), (A 13, cA g 5 DP), (A 15, cA g 5 RE), (A 42, cA g 8 ZP21), (A 43, cA g 40 ZH21), (A 44, cA g 40 ZB21), (A 45, cA g 40 ZL21), (A 14, cA g 5 SH), (A 16, cA g 5 PR), (A 17, cA g 5 RA), (A 18, cA g 30 PA), (A 46, cJ g 6 (up cE i ((cE i) + (((PA ((6 * l) + i)) * (pay SH l (ZH21 ((8 * l) + o)))) / 100))))] rfl dX10_findDirect_108 ?_
                refine g_iinc C 0 [(3, vi (l + 1)), (2, vi o), (1, vi i), (0, .ref ko)] dX10_findDirect_109 rfl (by decide) rfl ?_
                refine g_goto C 58 dX10_findDirect_112 (by decide) ?_
                exact ih58 (l + 1) (up cE i ((cE i) + (((PA ((6 * l) + i)) * (pay SH l (ZH21 ((8 * l) + o)))) / 100))) ⟨by omega, by omega, by rw [hE, up_s]; funext q; simp only [up]; by_cases e : q = i; (rw [if_pos e, if_pos e, sm_s _ hl0, hfH_1 l o hl0 (by omega) ho0 (by omega)]; show _ + _ = _ + (_ + PA (6 * l + i) * pay SH l (kH LP LH LU nL OP OF OT nO Q FL DP SH RE PR RA l o) / 100); omega); (rw [if_neg e, if_neg e, if_neg e])⟩ (by omega)
            exact L58 _ 0 (up cD i ((cD i) + w9)) ⟨by omega, by omega, by rw [hD, up_s, sm_0]; funext q; simp only [up]; by_cases e : q = i; (rw [if_pos e, if_pos e]; omega); (rw [if_neg e, if_neg e, if_neg e])⟩ (Nat.lt_succ_self _)
          refine g_iload_n C 1 dX10_findDirect_36 rfl ?_
          refine g_if_ne C 53 dX10_findDirect_37 (by decide) (by omega) (fun c37 => ?_) (fun c37 => ?_)
          · refine g_lconst C dX10_findDirect_53 0 (by decide) ?_
            exact J54 0 (by omega)
          refine g_aload_n C 2 dX10_findDirect_40 rfl ?_
          refine g_aload_n C 2 dX10_findDirect_41 rfl ?_
          refine g_iload_n C 0 dX10_findDirect_42 rfl ?_
          refine g_callVp C [vi o] [.ref ko, vl (cD i), vi i, .ref (A 46)] (c_X10_ground x.1.2.1 g ko A th hr nL nO Q nY nE nR nB LP LH LU OP OF OT o hLP hLH hLU hnL hOP hOF hOT (by omega) (by omega)) y_X10_ground l_X10_213 [0, 1, 2, 3, 4, 5, 6] rfl (by decide) 0 rfl rfl rfl (Nat.le_of_ble_eq_true rfl) rfl (by decide) dX10_findDirect_43 ?_
          refine g_callVp C [vi (gro LP LH LU nL OP OF OT o)] [vl (cD i), vi i, .ref (A 46)] (c_X10_ceded x.1.2.1 g ko A th hr nL nO Q nY nE nR nB (gro LP LH LU nL OP OF OT o) hQ (by omega) (by omega)) y_X10_ceded l_X10_216 [0] rfl (by decide) 0 rfl rfl rfl (Nat.le_of_ble_eq_true rfl) rfl (by decide) dX10_findDirect_46 ?_
          refine g_i2l C dX10_findDirect_49 (by omega) ?_
          refine g_goto C 54 dX10_findDirect_50 (by decide) ?_
          exact J54 (qto Q (gro LP LH LU nL OP OF OT o)) (by omega)
      exact L21 _ 0 (up cB i 0) ⟨by omega, by omega, by rw [sm_0]⟩ (Nat.lt_succ_self _)
  exact L6 _ 0 ZD ⟨by omega, by omega, (cpy_0 _ _).symm⟩ (Nat.lt_succ_self _)

