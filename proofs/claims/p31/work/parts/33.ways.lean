set_option maxHeartbeats 4000000 in
set_option maxRecDepth 100000 in
theorem c_X0_mostFrom (g : gD) (vo : Nat) (vh : Nat) (vu : Nat) (vm : Nat) (VH : Int → Int) (VU : Int → Int) (nV : Int) (to : Nat) (tf : Nat) (td : Nat) (tS : Nat) (tr : Nat) (tp : Nat) (tt : Nat) (FL : Int → Int) (DP : Int → Int) (SH : Int → Int) (nY : Int) (Q : Int) (cl : Int) (hVH : ∀ k, 0 ≤ VH k ∧ VH k ≤ 2199) (hnV : 0 ≤ nV ∧ nV ≤ 7) (hrise : rise VH nV) (hVU : ∀ k, 0 ≤ k → k < nV → 0 ≤ VU k) (hVS : sm VU nV ≤ 3999960) (hcl : 0 ≤ cl ∧ cl ≤ 168) (hFL : ∀ k, 0 ≤ FL k ∧ FL k ≤ 999999) (hDP : ∀ k, 0 ≤ DP k ∧ DP k ≤ 999999) (hSH : ∀ k, 0 ≤ SH k ∧ SH k ≤ 100) (hnY : 0 ≤ nY ∧ nY ≤ 5) (hQ : 0 ≤ Q ∧ Q ≤ 90) : ∀ (d : Nat) (z : Int) (l : Launch), (0 ≤ z ∧ z ≤ nV) → (nV - z).toNat ≤ d → gMet l g yX0_mostFrom cX0_mostFrom 7 (some .int) (3 + d) 0 0 (68 + 26 * d) [.ref vo, .ref to, vi cl, vi z] [(vo, cO 0 [.ref vh, .ref vu, .ref vm, vi nV]), (vh, cA g 40 VH), (vu, cA g 40 VU), (to, cO 7 [.ref tf, .ref td, .ref tS, .ref tr, .ref tp, .ref tt, vi nY, vi Q]), (tf, cA g 5 FL), (td, cA g 5 DP), (tS, cA g 5 SH)] (gM (some (vi (Sv VH VU (wtt FL DP SH Q nY) cl nV z))) [(vo, cO 0 [.ref vh, .ref vu, .ref vm, vi nV]), (vh, cA g 40 VH), (vu, cA g 40 VU), (to, cO 7 [.ref tf, .ref td, .ref tS, .ref tr, .ref tp, .ref tt, vi nY, vi Q]), (tf, cA g 5 FL), (td, cA g 5 DP), (tS, cA g 5 SH)]) := by
  intro d
  induction d with
  | zero =>
    intro z l hz hd
    refine gMet.of y_X0_mostFrom.2.2.2.1 (Nat.le_of_ble_eq_true rfl) ?_
    intro x hlx C hR hnm
    subst hlx
    have C : gC g x RX0 cX0_mostFrom 7 (3 + 0) 0 0 (68 + 26 * 0) := C
    show gW g x [(vo, cO 0 [.ref vh, .ref vu, .ref vm, vi nV]), (vh, cA g 40 VH), (vu, cA g 40 VU), (to, cO 7 [.ref tf, .ref td, .ref tS, .ref tr, .ref tp, .ref tt, vi nY, vi Q]), (tf, cA g 5 FL), (td, cA g 5 DP), (tS, cA g 5 SH)] 0 0 [(0, .ref vo), (1, .ref to), (2, vi cl), (3, vi z)] 0 []
    refine g_iload_n C 3 dX0_mostFrom_0 rfl ?_
    refine g_aload_n C 0 dX0_mostFrom_1 rfl ?_
    refine g_getf C k_X0 3 f_X0_21 0 rfl rfl (by decide) rfl rfl dX0_mostFrom_2 ?_
    refine g_icmp_ge C 14 dX0_mostFrom_5 (by decide) (by omega) (by omega) (fun c5 => ?_) (fun c5 => (absurd c5 (by omega)))
    refine g_iconst C dX0_mostFrom_14 ?_
    exact g_iretM C hR dX0_mostFrom_15 (by rw [show z = nV by omega, Sv_n]) rfl rfl

  | succ d ih =>
    intro z l hz hd
    refine gMet.of y_X0_mostFrom.2.2.2.1 (Nat.le_of_ble_eq_true rfl) ?_
    intro x hlx C hR hnm
    subst hlx
    have C : gC g x RX0 cX0_mostFrom 7 (3 + (d + 1)) 0 0 (68 + 26 * (d + 1)) := C
    have hw9 := wtt_r (FL := FL) hDP hSH Q hnY
    show gW g x [(vo, cO 0 [.ref vh, .ref vu, .ref vm, vi nV]), (vh, cA g 40 VH), (vu, cA g 40 VU), (to, cO 7 [.ref tf, .ref td, .ref tS, .ref tr, .ref tp, .ref tt, vi nY, vi Q]), (tf, cA g 5 FL), (td, cA g 5 DP), (tS, cA g 5 SH)] 0 0 [(0, .ref vo), (1, .ref to), (2, vi cl), (3, vi z)] 0 []
    refine g_iload_n C 3 dX0_mostFrom_0 rfl ?_
    refine g_aload_n C 0 dX0_mostFrom_1 rfl ?_
    refine g_getf C k_X0 3 f_X0_21 0 rfl rfl (by decide) rfl rfl dX0_mostFrom_2 ?_
    refine g_icmp_ge C 14 dX0_mostFrom_5 (by decide) (by omega) (by omega) (fun c5 => ?_) (fun c5 => ?_)
    · have e9 : z = nV := by omega
      refine g_iconst C dX0_mostFrom_14 ?_
      exact g_iretM C hR dX0_mostFrom_15 (by rw [show z = nV by omega, Sv_n]) rfl rfl
    refine g_iload_n C 3 dX0_mostFrom_8 rfl ?_
    refine g_bipush C dX0_mostFrom_9 (by decide) ?_
    refine g_icmp_lt C 16 dX0_mostFrom_11 (by decide) (by omega) (by omega) (fun c11 => ?_) (fun c11 => (absurd c11 (by omega)))
    refine g_aload_n C 0 dX0_mostFrom_16 rfl ?_
    refine g_aload_n C 1 dX0_mostFrom_17 rfl ?_
    refine g_iload_n C 2 dX0_mostFrom_18 rfl ?_
    refine g_iload_n C 3 dX0_mostFrom_19 rfl ?_
    refine g_iconst C dX0_mostFrom_20 ?_
    refine g_iadd C dX0_mostFrom_21 ?_
    refine g_callSp C [.ref vo, .ref to, vi cl, vi (z + 1)] [] (ih (z + 1) x.1.2.1 (by omega) (by omega)) y_X0_mostFrom l_X0_49 [0, 1, 2, 3, 4, 5, 6] rfl (by decide) rfl (Nat.le_of_ble_eq_true rfl) rfl (by omega) dX0_mostFrom_22 ?_
    refine g_istore C [(4, vi (Sv VH VU (wtt FL DP SH Q nY) cl nV (z + 1))), (0, .ref vo), (1, .ref to), (2, vi cl), (3, vi z)] dX0_mostFrom_25 (by decide) rfl ?_
    refine g_iconst C dX0_mostFrom_27 ?_
    refine g_istore C [(5, vi 0), (4, vi (Sv VH VU (wtt FL DP SH Q nY) cl nV (z + 1))), (0, .ref vo), (1, .ref to), (2, vi cl), (3, vi z)] dX0_mostFrom_28 (by decide) rfl ?_
    refine g_iload_n C 5 dX0_mostFrom_30 rfl ?_
    refine g_istore C [(6, vi z), (5, vi 0), (4, vi (Sv VH VU (wtt FL DP SH Q nY) cl nV (z + 1))), (0, .ref vo), (1, .ref to), (2, vi cl), (3, vi z)] dX0_mostFrom_31 (by decide) rfl ?_
    have L33 : ∀ (f : Nat) (w : Int) (gr : Int) (be : Int), (z ≤ w ∧ w ≤ nV ∧ gr = sm VU w - sm VU z ∧ be = sx9 VH VU (wtt FL DP SH Q nY) cl (Sv VH VU (wtt FL DP SH Q nY) cl nV) z (w - z)) → (nV - w).toNat < f → gW g x [(vo, cO 0 [.ref vh, .ref vu, .ref vm, vi nV]), (vh, cA g 40 VH), (vu, cA g 40 VU), (to, cO 7 [.ref tf, .ref td, .ref tS, .ref tr, .ref tp, .ref tt, vi nY, vi Q]), (tf, cA g 5 FL), (td, cA g 5 DP), (tS, cA g 5 SH)] 0 0 [(6, vi w), (5, vi gr), (4, vi be), (0, .ref vo), (1, .ref to), (2, vi cl), (3, vi z)] 33 [] := by
      intro f
      induction f with
      | zero => intro w gr be hI33 hf; exact absurd hf (Nat.not_lt_zero _)
      | succ f ih33 =>
        intro w gr be hI33 hf33
        obtain ⟨hw0, hw1, hg, hb⟩ := hI33
        have hS9 : ∀ j, z < j → j ≤ nV → 0 ≤ Sv VH VU (wtt FL DP SH Q nY) cl nV j ∧ Sv VH VU (wtt FL DP SH Q nY) cl nV j ≤ (nV - j) * 4999995 := fun j h0 h1 => Sv_r (VH := VH) (VU := VU) (cl := cl) hw9 (by omega) h1
        have hbr := sx9_r (VH := VH) (VU := VU) (cl := cl) (i := z) hw9 hS9 (by omega) (k := w - z) (by omega) (by omega)
        rw [← hb] at hbr
        refine g_iload C 0 dX0_mostFrom_33 rfl ?_
        refine g_aload_n C 3 dX0_mostFrom_35 rfl ?_
        refine g_getf C k_X0 3 f_X0_21 0 rfl rfl (by decide) rfl rfl dX0_mostFrom_36 ?_
        refine g_icmp_ge C 102 dX0_mostFrom_39 (by decide) (by omega) (by omega) (fun c39 => ?_) (fun c39 => ?_)
        · refine g_iload C 2 dX0_mostFrom_102 rfl ?_
          exact g_iretM C hR dX0_mostFrom_104 (by first | (rw [Sv_s _ _ _ _ (by omega), hb, show w - z = nV - z by omega]; done) | (rw [Sv_s _ _ _ _ (by omega), hb]; exact (sx9_stop hrise (by omega) (k := w - z) (by omega) (fun _ => by rw [show z + (w - z) = w by omega]; omega) (nV - z) (by omega) (by omega)).symm)) rfl rfl
        refine g_aload_n C 3 dX0_mostFrom_42 rfl ?_
        refine g_getf C k_X0 0 f_X0_9 0 rfl rfl (by decide) rfl rfl dX0_mostFrom_43 ?_
        refine g_iload C 0 dX0_mostFrom_46 rfl ?_
        refine g_iald C 1 rfl (by omega) dX0_mostFrom_48 ?_
        have r1_48 := hVH w
        refine g_aload_n C 3 dX0_mostFrom_49 rfl ?_
        refine g_getf C k_X0 0 f_X0_9 0 rfl rfl (by decide) rfl rfl dX0_mostFrom_50 ?_
        refine g_iload_n C 6 dX0_mostFrom_53 rfl ?_
        refine g_iald C 1 rfl (by omega) dX0_mostFrom_54 ?_
        have r2_54 := hVH z
        refine g_isub C dX0_mostFrom_55 ?_
        refine g_iload_n C 5 dX0_mostFrom_56 rfl ?_
        refine g_icmp_ge C 102 dX0_mostFrom_57 (by decide) (by omega) (by omega) (fun c57 => ?_) (fun c57 => ?_)
        · refine g_iload C 2 dX0_mostFrom_102 rfl ?_
          exact g_iretM C hR dX0_mostFrom_104 (by first | (rw [Sv_s _ _ _ _ (by omega), hb, show w - z = nV - z by omega]; done) | (rw [Sv_s _ _ _ _ (by omega), hb]; exact (sx9_stop hrise (by omega) (k := w - z) (by omega) (fun _ => by rw [show z + (w - z) = w by omega]; omega) (nV - z) (by omega) (by omega)).symm)) rfl rfl
        refine g_iload C 1 dX0_mostFrom_60 rfl ?_
        refine g_aload_n C 3 dX0_mostFrom_62 rfl ?_
        refine g_getf C k_X0 1 f_X0_15 0 rfl rfl (by decide) rfl rfl dX0_mostFrom_63 ?_
        refine g_iload C 0 dX0_mostFrom_66 rfl ?_
        refine g_iald C 2 rfl (by omega) dX0_mostFrom_68 ?_
        have r3_68 := hVU w
        refine g_iadd C dX0_mostFrom_69 ?_
        refine g_istore C [(5, vi (gr + (VU w))), (6, vi w), (4, vi be), (0, .ref vo), (1, .ref to), (2, vi cl), (3, vi z)] dX0_mostFrom_70 (by decide) rfl ?_
        refine g_iload C 2 dX0_mostFrom_72 rfl ?_
        refine g_aload_n C 4 dX0_mostFrom_74 rfl ?_
        refine g_iload C 0 dX0_mostFrom_75 rfl ?_
        have hgr9 : gr + VU w = sm VU (w + 1) - sm VU z := by have := sm_s VU (i := w) (by omega); omega
        have hsg := seg_r hVU hVS (a := z) (b := w + 1) (by omega) (by omega) (by omega)
        refine g_callVp C [vi (gr + (VU w))] [vi be] (c_X7_freshPayOfAll x.1.2.1 g to tf td tS tr tp tt FL DP SH nY Q (gr + (VU w)) hFL hDP hSH hnY hQ (by omega)) y_X7_freshPayOfAll l_X0_37 [3, 4, 5, 6] rfl (by decide) 3 rfl rfl rfl (Nat.le_of_ble_eq_true rfl) rfl (by omega) dX0_mostFrom_77 ?_
        refine g_aload_n C 3 dX0_mostFrom_80 rfl ?_
        refine g_aload_n C 4 dX0_mostFrom_81 rfl ?_
        refine g_iload_n C 5 dX0_mostFrom_82 rfl ?_
        refine g_iload C 1 dX0_mostFrom_83 rfl ?_
        refine g_iconst C dX0_mostFrom_85 ?_
        refine g_iadd C dX0_mostFrom_86 ?_
        refine g_callSp C [.ref vo, .ref to, vi cl, vi (w + 1)] [vi (sm (fun y => fresh FL DP SH Q y (gr + (VU w))) nY), vi be] (ih (w + 1) x.1.2.1 (by omega) (by omega)) y_X0_mostFrom l_X0_49 [0, 1, 2, 3, 4, 5, 6] rfl (by decide) rfl (Nat.le_of_ble_eq_true rfl) rfl (by omega) dX0_mostFrom_87 ?_
        refine g_iadd C dX0_mostFrom_90 ?_
        have hfz := hw9 (gr + VU w)
        unfold wtt at hfz
        have hsw := hS9 (w + 1) (by omega) (by omega)
        refine g_mmax C l_X0_43 w_maxS w_mathI w_maxC (by omega) (by omega) dX0_mostFrom_91 ⟨Nat.le_of_ble_eq_true rfl, Nat.le_of_ble_eq_true rfl⟩ (by decide) (by decide) ?_
        refine g_istore C [(4, vi (if be < (sm (fun y => fresh FL DP SH Q y (gr + (VU w))) nY) + (Sv VH VU (wtt FL DP SH Q nY) cl nV (w + 1)) then (sm (fun y => fresh FL DP SH Q y (gr + (VU w))) nY) + (Sv VH VU (wtt FL DP SH Q nY) cl nV (w + 1)) else be)), (5, vi (gr + (VU w))), (6, vi w), (0, .ref vo), (1, .ref to), (2, vi cl), (3, vi z)] dX0_mostFrom_94 (by decide) rfl ?_
        refine g_iinc C 2 [(6, vi (w + 1)), (4, vi (if be < (sm (fun y => fresh FL DP SH Q y (gr + (VU w))) nY) + (Sv VH VU (wtt FL DP SH Q nY) cl nV (w + 1)) then (sm (fun y => fresh FL DP SH Q y (gr + (VU w))) nY) + (Sv VH VU (wtt FL DP SH Q nY) cl nV (w + 1)) else be)), (5, vi (gr + (VU w))), (0, .ref vo), (1, .ref to), (2, vi cl), (3, vi z)] dX0_mostFrom_96 rfl (by decide) rfl ?_
        refine g_goto C 33 dX0_mostFrom_99 (by decide) ?_
        refine g_lv [(6, vi (w + 1)), (5, vi (gr + (VU w))), (4, vi (if be < (sm (fun y => fresh FL DP SH Q y (gr + (VU w))) nY) + (Sv VH VU (wtt FL DP SH Q nY) cl nV (w + 1)) then (sm (fun y => fresh FL DP SH Q y (gr + (VU w))) nY) + (Sv VH VU (wtt FL DP SH Q nY) cl nV (w + 1)) else be)), (0, .ref vo), (1, .ref to), (2, vi cl), (3, vi z)] [0, 2, 1, 3, 4, 5, 6] rfl ?_
        exact ih33 (w + 1) (gr + (VU w)) (if be < (sm (fun y => fresh FL DP SH Q y (gr + (VU w))) nY) + (Sv VH VU (wtt FL DP SH Q nY) cl nV (w + 1)) then (sm (fun y => fresh FL DP SH Q y (gr + (VU w))) nY) + (Sv VH VU (wtt FL DP SH Q nY) cl nV (w + 1)) else be) ⟨by omega, by omega, hgr9, by rw [show w + 1 - z = (w - z) + 1 by omega, sx9_s _ _ _ _ _ _ (by omega), show z + (w - z) = w by omega, if_pos (show VH w - VH z < cl by omega), ← hb, ← hgr9]; rfl⟩ (by omega)
    exact L33 _ z 0 (Sv VH VU (wtt FL DP SH Q nY) cl nV (z + 1)) ⟨by omega, by omega, by omega, by rw [Int.sub_self]; rfl⟩ (Nat.lt_succ_self _)

