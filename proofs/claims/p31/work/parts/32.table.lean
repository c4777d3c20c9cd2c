def wtt (FL DP SH : Int → Int) (Q nY : Int) : Int → Int := fun u => sm (fun y => fresh FL DP SH Q y u) nY
theorem wtt_r {FL DP SH : Int → Int} (hDP : ∀ k, 0 ≤ DP k ∧ DP k ≤ 999999) (hSH : ∀ k, 0 ≤ SH k ∧ SH k ≤ 100) (Q : Int) {nY : Int} (hnY : 0 ≤ nY ∧ nY ≤ 5) (u : Int) : 0 ≤ wtt FL DP SH Q nY u ∧ wtt FL DP SH Q nY u ≤ 4999995 := by
  have h := sm_bound (F := fun y => fresh FL DP SH Q y u) (lo := 0) (hi := 999999) hnY.1 (fun i _ _ => fresh_r hDP hSH Q i u)
  unfold wtt; omega
theorem sm_mono {F : Int → Int} {n : Int} (h : ∀ k, 0 ≤ k → k < n → 0 ≤ F k) {a b : Int} (ha : 0 ≤ a) (hab : a ≤ b) (hb : b ≤ n) : sm F a ≤ sm F b := by
  have := sm_ind (P := fun d => a + d ≤ n → sm F a ≤ sm F (a + d)) (fun _ => by rw [Int.add_zero]; omega) (fun d hd ih q => by
    rw [← Int.add_assoc, sm_s _ (by omega)]
    have := ih (by omega)
    have := h (a + d) (by omega) (by omega)
    omega) (b - a) (by omega) (by omega)
  rw [show a + (b - a) = b by omega] at this
  exact this
theorem seg_r {F : Int → Int} {n : Int} (h : ∀ k, 0 ≤ k → k < n → 0 ≤ F k) (hS : sm F n ≤ 3999960) {a b : Int} (ha : 0 ≤ a) (hab : a ≤ b) (hb : b ≤ n) : 0 ≤ sm F b - sm F a ∧ sm F b - sm F a ≤ 3999960 := by
  have h1 := sm_mono h ha hab hb
  have h2 := sm_mono h (a := b) (by omega) hb (Int.le_refl _)
  have h3 := sm_mono h (a := 0) (b := a) (by omega) ha (by omega)
  rw [sm_0] at h3
  omega

set_option maxHeartbeats 4000000 in
set_option maxRecDepth 100000 in
theorem c_X0_mostByTable (l : Launch) (g : gD) (vo : Nat) (vh : Nat) (vu : Nat) (vm : Nat) (VH : Int → Int) (VU : Int → Int) (VM : Int → Int) (nV : Int) (to : Nat) (tf : Nat) (td : Nat) (tS : Nat) (tr : Nat) (tp : Nat) (tt : Nat) (FL : Int → Int) (DP : Int → Int) (SH : Int → Int) (nY : Int) (Q : Int) (cl : Int) (hVH : ∀ k, 0 ≤ VH k ∧ VH k ≤ 2199) (hnV : 0 ≤ nV ∧ nV ≤ 40) (hrise : rise VH nV) (hVU : ∀ k, 0 ≤ k → k < nV → 0 ≤ VU k) (hVS : sm VU nV ≤ 3999960) (hcl : 0 ≤ cl ∧ cl ≤ 168) (hFL : ∀ k, 0 ≤ FL k ∧ FL k ≤ 999999) (hDP : ∀ k, 0 ≤ DP k ∧ DP k ≤ 999999) (hSH : ∀ k, 0 ≤ SH k ∧ SH k ≤ 100) (hnY : 0 ≤ nY ∧ nY ≤ 5) (hQ : 0 ≤ Q ∧ Q ≤ 90) : gMet l g yX0_mostByTable cX0_mostByTable 7 (some .int) 3 0 0 68 [.ref vo, .ref to, vi cl] [(vo, cO 0 [.ref vh, .ref vu, .ref vm, vi nV]), (vh, cA g 40 VH), (vu, cA g 40 VU), (vm, cA g 41 VM), (to, cO 7 [.ref tf, .ref td, .ref tS, .ref tr, .ref tp, .ref tt, vi nY, vi Q]), (tf, cA g 5 FL), (td, cA g 5 DP), (tS, cA g 5 SH)] (fun v9 w9 => ∃ (M : Int → Int), v9 = (some (vi (Pv VH VU (wtt FL DP SH Q nY) cl nV))) ∧ w9 = [(vo, cO 0 [.ref vh, .ref vu, .ref vm, vi nV]), (vh, cA g 40 VH), (vu, cA g 40 VU), (vm, cA g 41 M), (to, cO 7 [.ref tf, .ref td, .ref tS, .ref tr, .ref tp, .ref tt, vi nY, vi Q]), (tf, cA g 5 FL), (td, cA g 5 DP), (tS, cA g 5 SH)]) := by
  refine gMet.of y_X0_mostByTable.2.2.2.2.1 (Nat.le_of_ble_eq_true rfl) ?_
  intro x hlx C hR hnm
  subst hlx
  have C : gC g x RX0 cX0_mostByTable 7 3 0 0 68 := C
  show gW g x [(vo, cO 0 [.ref vh, .ref vu, .ref vm, vi nV]), (vh, cA g 40 VH), (vu, cA g 40 VU), (vm, cA g 41 VM), (to, cO 7 [.ref tf, .ref td, .ref tS, .ref tr, .ref tp, .ref tt, vi nY, vi Q]), (tf, cA g 5 FL), (td, cA g 5 DP), (tS, cA g 5 SH)] 0 0 [(0, .ref vo), (1, .ref to), (2, vi cl)] 0 []
  refine g_aload_n C 0 dX0_mostByTable_0 rfl ?_
  refine g_getf C k_X0 2 f_X0_18 0 rfl rfl (by decide) rfl rfl dX0_mostByTable_1 ?_
  refine g_iconst C dX0_mostByTable_4 ?_
  refine g_iconst C dX0_mostByTable_5 ?_
  refine g_iast C 3 rfl (by omega) [(vo, cO 0 [.ref vh, .ref vu, .ref vm, vi nV]), (vh, cA g 40 VH), (vu, cA g 40 VU), (vm, cA g 41 (up VM 0 0)), (to, cO 7 [.ref tf, .ref td, .ref tS, .ref tr, .ref tp, .ref tt, vi nY, vi Q]), (tf, cA g 5 FL), (td, cA g 5 DP), (tS, cA g 5 SH)] rfl dX0_mostByTable_6 ?_
  refine g_iconst C dX0_mostByTable_7 ?_
  refine g_istore_n C [(3, vi 0), (0, .ref vo), (1, .ref to), (2, vi cl)] dX0_mostByTable_8 (by decide) rfl ?_
  have L9 : ∀ (f : Nat) (i : Int) (cM : Int → Int), (0 ≤ i ∧ i ≤ nV ∧ ∀ j, 0 ≤ j → j ≤ i → cM j = Pv VH VU (wtt FL DP SH Q nY) cl j) → (nV - i).toNat < f → gW g x [(vo, cO 0 [.ref vh, .ref vu, .ref vm, vi nV]), (vh, cA g 40 VH), (vu, cA g 40 VU), (vm, cA g 41 cM), (to, cO 7 [.ref tf, .ref td, .ref tS, .ref tr, .ref tp, .ref tt, vi nY, vi Q]), (tf, cA g 5 FL), (td, cA g 5 DP), (tS, cA g 5 SH)] 0 0 [(3, vi i), (0, .ref vo), (1, .ref to), (2, vi cl)] 9 [] := by
    intro f
    induction f with
    | zero => intro i cM hI9 hf; exact absurd hf (Nat.not_lt_zero _)
    | succ f ih9 =>
      intro i cM hI9 hf9
      obtain ⟨hi0, hi1, hM⟩ := hI9
      have hw9 := wtt_r (FL := FL) hDP hSH Q hnY
      refine g_iload_n C 0 dX0_mostByTable_9 rfl ?_
      refine g_aload_n C 1 dX0_mostByTable_10 rfl ?_
      refine g_getf C k_X0 3 f_X0_21 0 rfl rfl (by decide) rfl rfl dX0_mostByTable_11 ?_
      refine g_icmp_ge C 109 dX0_mostByTable_14 (by decide) (by omega) (by omega) (fun c14 => ?_) (fun c14 => ?_)
      · refine g_aload_n C 1 dX0_mostByTable_109 rfl ?_
        refine g_getf C k_X0 2 f_X0_18 0 rfl rfl (by decide) rfl rfl dX0_mostByTable_110 ?_
        refine g_aload_n C 1 dX0_mostByTable_113 rfl ?_
        refine g_getf C k_X0 3 f_X0_21 0 rfl rfl (by decide) rfl rfl dX0_mostByTable_114 ?_
        refine g_iald C 3 rfl (by omega) dX0_mostByTable_117 ?_
        exact g_iret C hR dX0_mostByTable_118 ⟨cM, (congrArg (fun q => some (vi q)) (show cM nV = _ from by rw [hM nV (by omega) (by omega)])), rfl⟩ rfl
      refine g_aload_n C 1 dX0_mostByTable_17 rfl ?_
      refine g_getf C k_X0 2 f_X0_18 0 rfl rfl (by decide) rfl rfl dX0_mostByTable_18 ?_
      refine g_iload_n C 0 dX0_mostByTable_21 rfl ?_
      refine g_iald C 3 rfl (by omega) dX0_mostByTable_22 ?_
      refine g_val (w := Pv VH VU (wtt FL DP SH Q nY) cl i) (hM i hi0 (Int.le_refl _)) ?_
      refine g_istore C [(4, vi (Pv VH VU (wtt FL DP SH Q nY) cl i)), (3, vi i), (0, .ref vo), (1, .ref to), (2, vi cl)] dX0_mostByTable_23 (by decide) rfl ?_
      have J93 : ∀ (be : Int), (be = Pv VH VU (wtt FL DP SH Q nY) cl (i + 1)) → gW g x [(vo, cO 0 [.ref vh, .ref vu, .ref vm, vi nV]), (vh, cA g 40 VH), (vu, cA g 40 VU), (vm, cA g 41 cM), (to, cO 7 [.ref tf, .ref td, .ref tS, .ref tr, .ref tp, .ref tt, vi nY, vi Q]), (tf, cA g 5 FL), (td, cA g 5 DP), (tS, cA g 5 SH)] 0 0 [(4, vi be), (3, vi i), (0, .ref vo), (1, .ref to), (2, vi cl)] 93 [] := by
        intro be hJ93
        refine g_aload_n C 2 dX0_mostByTable_93 rfl ?_
        refine g_getf C k_X0 2 f_X0_18 0 rfl rfl (by decide) rfl rfl dX0_mostByTable_94 ?_
        refine g_iload_n C 1 dX0_mostByTable_97 rfl ?_
        refine g_iconst C dX0_mostByTable_98 ?_
        refine g_iadd C dX0_mostByTable_99 ?_
        refine g_iload C 0 dX0_mostByTable_100 rfl ?_
        refine g_iast C 3 rfl (by omega) [(vo, cO 0 [.ref vh, .ref vu, .ref vm, vi nV]), (vh, cA g 40 VH), (vu, cA g 40 VU), (vm, cA g 41 (up cM (i + 1) be)), (to, cO 7 [.ref tf, .ref td, .ref tS, .ref tr, .ref tp, .ref tt, vi nY, vi Q]), (tf, cA g 5 FL), (td, cA g 5 DP), (tS, cA g 5 SH)] rfl dX0_mostByTable_102 ?_
        refine g_iinc C 1 [(3, vi (i + 1)), (4, vi be), (0, .ref vo), (1, .ref to), (2, vi cl)] dX0_mostByTable_103 rfl (by decide) rfl ?_
        refine g_goto C 9 dX0_mostByTable_106 (by decide) ?_
        refine g_lv [(3, vi (i + 1)), (0, .ref vo), (1, .ref to), (2, vi cl)] [0, 2, 3, 4] rfl ?_
        exact ih9 (i + 1) (up cM (i + 1) be) ⟨by omega, by omega, fun j h0 h1 => by
              by_cases e : j = i + 1
              · subst e; rw [up_s]; exact hJ93
              · rw [up_n e]; exact hM j h0 (by omega)⟩ (by omega)
      refine g_iconst C dX0_mostByTable_25 ?_
      refine g_istore C [(5, vi 0), (4, vi (Pv VH VU (wtt FL DP SH Q nY) cl i)), (3, vi i), (0, .ref vo), (1, .ref to), (2, vi cl)] dX0_mostByTable_26 (by decide) rfl ?_
      refine g_iload_n C 2 dX0_mostByTable_28 rfl ?_
      refine g_istore C [(6, vi i), (5, vi 0), (4, vi (Pv VH VU (wtt FL DP SH Q nY) cl i)), (3, vi i), (0, .ref vo), (1, .ref to), (2, vi cl)] dX0_mostByTable_29 (by decide) rfl ?_
      have L31 : ∀ (f : Nat) (z : Int) (gr : Int) (be : Int), (-1 ≤ z ∧ z ≤ i ∧ gr = sm VU (i + 1) - sm VU (z + 1) ∧ be = px9 VH VU (wtt FL DP SH Q nY) cl (Pv VH VU (wtt FL DP SH Q nY) cl) i (i - z)) → (z + 1).toNat < f → gW g x [(vo, cO 0 [.ref vh, .ref vu, .ref vm, vi nV]), (vh, cA g 40 VH), (vu, cA g 40 VU), (vm, cA g 41 cM), (to, cO 7 [.ref tf, .ref td, .ref tS, .ref tr, .ref tp, .ref tt, vi nY, vi Q]), (tf, cA g 5 FL), (td, cA g 5 DP), (tS, cA g 5 SH)] 0 0 [(6, vi z), (5, vi gr), (4, vi be), (3, vi i), (0, .ref vo), (1, .ref to), (2, vi cl)] 31 [] := by
        intro f
        induction f with
        | zero => intro z gr be hI31 hf; exact absurd hf (Nat.not_lt_zero _)
        | succ f ih31 =>
          intro z gr be hI31 hf31
          obtain ⟨hz0, hz1, hg, hb⟩ := hI31
          have hP9 : ∀ j, 0 ≤ j → j ≤ i → 0 ≤ Pv VH VU (wtt FL DP SH Q nY) cl j ∧ Pv VH VU (wtt FL DP SH Q nY) cl j ≤ j * 4999995 := fun j h0 h1 => ptT_r (VH := VH) (VU := VU) (cl := cl) hw9 (n := j) h0 j h0 (Int.le_refl _)
          have hbr := px9_r (VH := VH) (VU := VU) (cl := cl) (la := i) hw9 hP9 hi0 (k := i - z) (by omega) (by omega)
          rw [← hb] at hbr
          refine g_iload C 0 dX0_mostByTable_31 rfl ?_
          refine g_if_lt C 93 dX0_mostByTable_33 (by decide) (by omega) (fun c33 => ?_) (fun c33 => ?_)
          · refine g_lv [(4, vi be), (3, vi i), (0, .ref vo), (1, .ref to), (2, vi cl)] [2, 3, 4, 5, 6] rfl ?_
            exact J93 be (by first | (rw [Pv_s _ _ _ _ hi0, hb, show i - z = i + 1 by omega]; done) | (rw [Pv_s _ _ _ _ hi0, hb]; exact (px9_stop hrise (by omega) (k := i - z) (by omega) (fun _ => by rw [show i - (i - z) = z by omega]; omega) (i + 1) (by omega) (by omega)).symm))
          refine g_aload_n C 4 dX0_mostByTable_36 rfl ?_
          refine g_getf C k_X0 0 f_X0_9 0 rfl rfl (by decide) rfl rfl dX0_mostByTable_37 ?_
          refine g_iload_n C 3 dX0_mostByTable_40 rfl ?_
          refine g_iald C 1 rfl (by omega) dX0_mostByTable_41 ?_
          have r1_41 := hVH i
          refine g_aload_n C 4 dX0_mostByTable_42 rfl ?_
          refine g_getf C k_X0 0 f_X0_9 0 rfl rfl (by decide) rfl rfl dX0_mostByTable_43 ?_
          refine g_iload C 0 dX0_mostByTable_46 rfl ?_
          refine g_iald C 1 rfl (by omega) dX0_mostByTable_48 ?_
          have r2_48 := hVH z
          refine g_isub C dX0_mostByTable_49 ?_
          refine g_iload_n C 6 dX0_mostByTable_50 rfl ?_
          refine g_icmp_ge C 93 dX0_mostByTable_51 (by decide) (by omega) (by omega) (fun c51 => ?_) (fun c51 => ?_)
          · refine g_lv [(4, vi be), (3, vi i), (0, .ref vo), (1, .ref to), (2, vi cl)] [2, 3, 4, 5, 6] rfl ?_
            exact J93 be (by first | (rw [Pv_s _ _ _ _ hi0, hb, show i - z = i + 1 by omega]; done) | (rw [Pv_s _ _ _ _ hi0, hb]; exact (px9_stop hrise (by omega) (k := i - z) (by omega) (fun _ => by rw [show i - (i - z) = z by omega]; omega) (i + 1) (by omega) (by omega)).symm))
          refine g_iload C 1 dX0_mostByTable_54 rfl ?_
          refine g_aload_n C 4 dX0_mostByTable_56 rfl ?_
          refine g_getf C k_X0 1 f_X0_15 0 rfl rfl (by decide) rfl rfl dX0_mostByTable_57 ?_
          refine g_iload C 0 dX0_mostByTable_60 rfl ?_
          refine g_iald C 2 rfl (by omega) dX0_mostByTable_62 ?_
          have r3_62 := hVU z
          refine g_iadd C dX0_mostByTable_63 ?_
          refine g_istore C [(5, vi (gr + (VU z))), (6, vi z), (4, vi be), (3, vi i), (0, .ref vo), (1, .ref to), (2, vi cl)] dX0_mostByTable_64 (by decide) rfl ?_
          refine g_iload C 2 dX0_mostByTable_66 rfl ?_
          refine g_aload_n C 4 dX0_mostByTable_68 rfl ?_
          refine g_getf C k_X0 2 f_X0_18 0 rfl rfl (by decide) rfl rfl dX0_mostByTable_69 ?_
          refine g_iload C 1 dX0_mostByTable_72 rfl ?_
          refine g_iald C 3 rfl (by omega) dX0_mostByTable_74 ?_
          have hgr9 : gr + VU z = sm VU (i + 1) - sm VU z := by have := sm_s VU (i := z) (by omega); omega
          have hsg := seg_r hVU hVS (a := z) (b := i + 1) (by omega) (by omega) (by omega)
          have hfz := hw9 (gr + VU z)
          unfold wtt at hfz
          have hpz := hP9 z (by omega) hz1
          refine g_val (w := Pv VH VU (wtt FL DP SH Q nY) cl z) (hM z (by omega) hz1) ?_
          refine g_aload_n C 5 dX0_mostByTable_75 rfl ?_
          refine g_iload C 0 dX0_mostByTable_76 rfl ?_
          refine g_callVp C [vi (gr + (VU z))] [vi (Pv VH VU (wtt FL DP SH Q nY) cl z), vi be] (c_X7_freshPayOfAll x.1.2.1 g to tf td tS tr tp tt FL DP SH nY Q (gr + (VU z)) hFL hDP hSH hnY hQ (by omega)) y_X7_freshPayOfAll l_X0_37 [4, 5, 6, 7] rfl (by decide) 4 rfl rfl rfl (Nat.le_of_ble_eq_true rfl) rfl (by decide) dX0_mostByTable_78 ?_
          refine g_iadd C dX0_mostByTable_81 ?_
          refine g_mmax C l_X0_43 w_maxS w_mathI w_maxC (by omega) (by omega) dX0_mostByTable_82 ⟨Nat.le_of_ble_eq_true rfl, Nat.le_of_ble_eq_true rfl⟩ (by decide) (by decide) ?_
          refine g_istore C [(4, vi (if be < (Pv VH VU (wtt FL DP SH Q nY) cl z) + (sm (fun y => fresh FL DP SH Q y (gr + (VU z))) nY) then (Pv VH VU (wtt FL DP SH Q nY) cl z) + (sm (fun y => fresh FL DP SH Q y (gr + (VU z))) nY) else be)), (5, vi (gr + (VU z))), (6, vi z), (3, vi i), (0, .ref vo), (1, .ref to), (2, vi cl)] dX0_mostByTable_85 (by decide) rfl ?_
          refine g_iinc C 2 [(6, vi (z + (-1))), (4, vi (if be < (Pv VH VU (wtt FL DP SH Q nY) cl z) + (sm (fun y => fresh FL DP SH Q y (gr + (VU z))) nY) then (Pv VH VU (wtt FL DP SH Q nY) cl z) + (sm (fun y => fresh FL DP SH Q y (gr + (VU z))) nY) else be)), (5, vi (gr + (VU z))), (3, vi i), (0, .ref vo), (1, .ref to), (2, vi cl)] dX0_mostByTable_87 rfl (by decide) rfl ?_
          refine g_goto C 31 dX0_mostByTable_90 (by decide) ?_
          refine g_lv [(6, vi (z + (-1))), (5, vi (gr + (VU z))), (4, vi (if be < (Pv VH VU (wtt FL DP SH Q nY) cl z) + (sm (fun y => fresh FL DP SH Q y (gr + (VU z))) nY) then (Pv VH VU (wtt FL DP SH Q nY) cl z) + (sm (fun y => fresh FL DP SH Q y (gr + (VU z))) nY) else be)), (3, vi i), (0, .ref vo), (1, .ref to), (2, vi cl)] [0, 2, 1, 3, 4, 5, 6] rfl ?_
          exact ih31 (z + (-1)) (gr + (VU z)) (if be < (Pv VH VU (wtt FL DP SH Q nY) cl z) + (sm (fun y => fresh FL DP SH Q y (gr + (VU z))) nY) then (Pv VH VU (wtt FL DP SH Q nY) cl z) + (sm (fun y => fresh FL DP SH Q y (gr + (VU z))) nY) else be) ⟨by omega, by omega, by rw [show z + (-1) + 1 = z by omega]; exact hgr9, by rw [show i - (z + (-1)) = (i - z) + 1 by omega, px9_s _ _ _ _ _ _ (by omega), show i - (i - z) = z by omega, if_pos (show VH i - VH z < cl by omega), ← hb, ← hgr9]; rfl⟩ (by omega)
      exact L31 _ i 0 (Pv VH VU (wtt FL DP SH Q nY) cl i) ⟨by omega, by omega, by omega, by rw [Int.sub_self]; rfl⟩ (Nat.lt_succ_self _)
  exact L9 _ 0 (up VM 0 0) ⟨by omega, by omega, fun j h0 h1 => by rw [show j = 0 by omega, up_s]; rfl⟩ (Nat.lt_succ_self _)

