def rw9 (F G v : Int → Int) (o l : Int) : Prop := (∀ y k, 0 ≤ y → 0 ≤ k → k < 8 → k ≠ o → F (8 * y + k) = G (8 * y + k)) ∧ (∀ y, 0 ≤ y → y < l → F (8 * y + o) = v y)
theorem rw9_0 (G v : Int → Int) (o : Int) : rw9 G G v o 0 := ⟨fun y k _ _ _ _ => rfl, fun y h0 h1 => by omega⟩
theorem rw9_s {F G v : Int → Int} {o l w : Int} (h : rw9 F G v o l) (ho : 0 ≤ o ∧ o < 8) (hl : 0 ≤ l) (hw : w = v l) : rw9 (up F (8 * l + o) w) G v o (l + 1) := by
  refine ⟨fun y k y0 k0 k1 hk => ?_, fun y y0 y1 => ?_⟩
  · rw [up_n (by omega)]; exact h.1 y k y0 k0 k1 hk
  · by_cases e : y = l
    · subst e; rw [up_s, hw]
    · rw [up_n (by omega)]; exact h.2 y y0 (by omega)
def dn9 (F : Int → Int) (v : Int → Int → Int) (OP OF : Int → Int) (nO nY at9 o : Int) : Prop := ∀ y k, 0 ≤ y → y < nY → 0 ≤ k → k < nO → (plc OP OF nO k < at9 ∨ (plc OP OF nO k = at9 ∧ k < o)) → F (8 * y + k) = v y k
theorem dn9_0 (F : Int → Int) (v : Int → Int → Int) (OP OF : Int → Int) (nO nY : Int) : dn9 F v OP OF nO nY 0 0 := fun y k y0 y1 k0 k1 h => by
  have := plc_r OP OF (n := nO) k0 k1; omega
theorem dn9_skip {F : Int → Int} {v : Int → Int → Int} {OP OF : Int → Int} {nO nY at9 o : Int} (h : dn9 F v OP OF nO nY at9 o) (hn : plc OP OF nO o ≠ at9) : dn9 F v OP OF nO nY at9 (o + 1) := fun y k y0 y1 k0 k1 q => h y k y0 y1 k0 k1 (by
  by_cases e : k = o
  · subst e; omega
  · omega)
theorem dn9_do {F G : Int → Int} {v : Int → Int → Int} {OP OF : Int → Int} {nO nY at9 o : Int} (h : dn9 G v OP OF nO nY at9 o) (hn8 : nO ≤ 8) (hw : rw9 F G (fun y => v y o) o nY) : dn9 F v OP OF nO nY at9 (o + 1) := fun y k y0 y1 k0 k1 q => by
  by_cases e : k = o
  · subst e; exact hw.2 y y0 y1
  · rw [hw.1 y k y0 k0 (by omega) e]; exact h y k y0 y1 k0 k1 (by omega)
theorem dn9_next {F : Int → Int} {v : Int → Int → Int} {OP OF : Int → Int} {nO nY at9 : Int} (h : dn9 F v OP OF nO nY at9 nO) : dn9 F v OP OF nO nY (at9 + 1) 0 := fun y k y0 y1 k0 k1 q => h y k y0 y1 k0 k1 (by omega)
theorem dn9_end {F : Int → Int} {v : Int → Int → Int} {OP OF : Int → Int} {nO nY : Int} (h : dn9 F v OP OF nO nY nO 0) : ∀ y k, 0 ≤ y → y < nY → 0 ≤ k → k < nO → F (8 * y + k) = v y k := fun y k y0 y1 k0 k1 => h y k y0 y1 k0 k1 (Or.inl (by have := plc_r OP OF (n := nO) k0 k1; omega))
/-- the net at a window's place -/
theorem nt0_plc {OP OF : Int → Int} {nO : Int} (hd : dst9 OP OF nO) (LP LH LU : Int → Int) (nL : Int) (OT : Int → Int) (Q : Int) {o : Int} (o0 : 0 ≤ o) (o1 : o < nO) : nt0 LP LH LU nL OP OF OT nO Q (plc OP OF nO o) = gro LP LH LU nL OP OF OT o - qto Q (gro LP LH LU nL OP OF OT o) := by
  unfold nt0 sNt nt sGr sQt
  rw [sOr_plc hd _ o0 o1, cpy_in ⟨o0, o1⟩, cpy_in ⟨o0, o1⟩]
/-- a sum over the windows before a place -/
def bf9 (OP OF : Int → Int) (nO at9 : Int) (f : Int → Int) : Int → Int := fun k => if plc OP OF nO k < at9 then f (plc OP OF nO k) else 0
theorem bf9_sum {OP OF : Int → Int} {nO : Int} (hd : dst9 OP OF nO) (hn : 0 ≤ nO) (f : Int → Int) {at9 : Int} (h0 : 0 ≤ at9) : at9 ≤ nO → sm (bf9 OP OF nO at9 f) nO = sm f at9 := by
  refine sm_ind (P := fun at9 => at9 ≤ nO → sm (bf9 OP OF nO at9 f) nO = sm f at9) (fun _ => ?_) (fun i hi ih hm => ?_) at9 h0
  · rw [sm_0, sm_congr (G := fun _ => 0) hn (fun k k0 k1 => by have := plc_r OP OF (n := nO) k0 k1; unfold bf9; rw [if_neg (by omega)]), sm_const0 hn]
  · obtain ⟨o, o0, o1, e⟩ := plc_sur hd hi (by omega)
    have e1 : sm (fun k => if k = o then f i else 0) nO = f i := by
      have := sm_ind (P := fun m => (m ≤ o → sm (fun k => if k = o then f i else 0) m = 0) ∧ (o < m → sm (fun k => if k = o then f i else 0) m = f i)) ⟨fun _ => rfl, fun q => by omega⟩ (fun j hj ihj => by
        rw [sm_s _ hj]
        by_cases q : j = o
        · subst q; rw [if_pos rfl]; exact ⟨fun z => by omega, fun _ => by rw [ihj.1 (Int.le_refl _)]; omega⟩
        · rw [if_neg q]; exact ⟨fun z => by rw [ihj.1 (by omega)]; rfl, fun z => by rw [ihj.2 (by omega)]; omega⟩) nO hn
      exact this.2 o1
    rw [sm_s _ hi, ← ih (by omega), ← e1, ← sm_add _ _ hn]
    refine sm_congr hn (fun k k0 k1 => ?_)
    show bf9 OP OF nO (i + 1) f k = bf9 OP OF nO i f k + if k = o then f i else 0
    unfold bf9
    by_cases q : k = o
    · subst q; rw [if_pos rfl, if_pos (by omega), if_neg (by omega), e]; omega
    · have hne : plc OP OF nO k ≠ i := fun z => q (plc_inj hd k0 k1 o0 o1 (z.trans e.symm))
      rw [if_neg q]
      by_cases z : plc OP OF nO k < i
      · rw [if_pos z, if_pos (by omega)]; omega
      · rw [if_neg z, if_neg (by omega)]; omega
theorem lf_sum (FL DP RE : Int → Int) (y : Int) (net : Int → Int) {a : Int} (h : 0 ≤ a) : lf FL DP RE y net a = cap DP RE y - sm (hitA FL DP RE y net) a ∧ rs FL DP RE y net a = DP y * RE y - sm (resA FL DP RE y net) a := by
  refine sm_ind (P := fun a => lf FL DP RE y net a = cap DP RE y - sm (hitA FL DP RE y net) a ∧ rs FL DP RE y net a = DP y * RE y - sm (resA FL DP RE y net) a) ⟨by rw [lf_0, sm_0]; omega, by rw [rs_0, sm_0]; omega⟩ (fun i hi ih => ?_) a h
  rw [lf_s _ _ _ _ _ hi, rs_s _ _ _ _ _ hi, sm_s _ hi, sm_s _ hi]; omega

set_option maxHeartbeats 4000000 in
set_option maxRecDepth 100000 in
theorem c_X10_settleOne (l : Launch) (g : gD) (ko : Nat) (A : Nat → Nat) (th : Int) (hr : Int) (nL : Int) (nO : Int) (Q : Int) (nY : Int) (nE : Int) (nR : Int) (nB : Int) (LP : Int → Int) (LH : Int → Int) (LU : Int → Int) (OP : Int → Int) (OF : Int → Int) (OT : Int → Int) (FL : Int → Int) (DP : Int → Int) (RE : Int → Int) (ZP : Int → Int) (ZH : Int → Int) (ZB : Int → Int) (ZL : Int → Int) (SH : Int → Int) (PR : Int → Int) (RA : Int → Int) (o : Int) (t : Int) (hLP : ∀ k, 0 ≤ LP k ∧ LP k ≤ 2) (hLH : ∀ k, 0 ≤ LH k ∧ LH k ≤ 2199) (hLU : ∀ k, 0 ≤ LU k ∧ LU k ≤ 99999) (hnL : 0 ≤ nL ∧ nL ≤ 40) (hOP : ∀ k, 0 ≤ OP k ∧ OP k ≤ 2) (hOF : ∀ k, 0 ≤ OF k ∧ OF k ≤ 2199) (hOT : ∀ k, 0 ≤ OT k ∧ OT k ≤ 2199) (hnO : 0 ≤ nO ∧ nO ≤ 8) (hFL : ∀ k, 0 ≤ FL k ∧ FL k ≤ 999999) (hDP : ∀ k, 0 ≤ DP k ∧ DP k ≤ 999999) (hRE : ∀ k, 0 ≤ RE k ∧ RE k ≤ 3) (hnY : 0 ≤ nY ∧ nY ≤ 5) (hQ : 0 ≤ Q ∧ Q ≤ 90) (hZH : ∀ k, 0 ≤ ZH k ∧ ZH k ≤ 999999) (hZB : ∀ k, 0 ≤ ZB k ∧ ZB k ≤ 999999) (hdst : dst9 OP OF nO) (hZP : ∀ k, 0 ≤ k → k < nO → ZP k = plc OP OF nO k) (ho8 : 0 ≤ o ∧ o < nO) (hat : plc OP OF nO o = t) (hpH : ∀ y k, 0 ≤ y → y < nY → 0 ≤ k → k < nO → plc OP OF nO k < t → ZH (8 * y + k) = kH LP LH LU nL OP OF OT nO Q FL DP SH RE PR RA y k) (hpB : ∀ y k, 0 ≤ y → y < nY → 0 ≤ k → k < nO → plc OP OF nO k < t → ZB (8 * y + k) = kR LP LH LU nL OP OF OT nO Q FL DP SH RE PR RA y k) (ho : -2147483648 ≤ o ∧ o < 2147483648) (ht : -2147483648 ≤ t ∧ t < 2147483648) : gMet l g yX10_settleOne cX10_settleOne 8 none 3 0 0 67 [.ref ko, vi o, vi t] [(ko, cO 10 (kF th hr nL nO Q nY nE nR nB A)), (A 3, cA g 40 LP), (A 4, cA g 40 LH), (A 5, cA g 40 LU), (A 7, cA g 8 OP), (A 8, cA g 8 OF), (A 9, cA g 8 OT), (A 12, cA g 5 FL), (A 13, cA g 5 DP), (A 15, cA g 5 RE), (A 42, cA g 8 ZP), (A 43, cA g 40 ZH), (A 44, cA g 40 ZB), (A 45, cA g 40 ZL)] (fun v9 w9 => ∃ (ZH2 : Int → Int) (ZB2 : Int → Int) (ZL2 : Int → Int), v9 = none ∧ w9 = [(ko, cO 10 (kF th hr nL nO Q nY nE nR nB A)), (A 3, cA g 40 LP), (A 4, cA g 40 LH), (A 5, cA g 40 LU), (A 7, cA g 8 OP), (A 8, cA g 8 OF), (A 9, cA g 8 OT), (A 12, cA g 5 FL), (A 13, cA g 5 DP), (A 15, cA g 5 RE), (A 42, cA g 8 ZP), (A 43, cA g 40 ZH2), (A 44, cA g 40 ZB2), (A 45, cA g 40 ZL2)] ∧ (rw9 ZH2 ZH (fun y => kH LP LH LU nL OP OF OT nO Q FL DP SH RE PR RA y o) o nY) ∧ (rw9 ZB2 ZB (fun y => kR LP LH LU nL OP OF OT nO Q FL DP SH RE PR RA y o) o nY) ∧ (rw9 ZL2 ZL (fun y => kL LP LH LU nL OP OF OT nO Q FL DP SH RE PR RA y o) o nY) ∧ (∀ k, 0 ≤ ZH2 k ∧ ZH2 k ≤ 999999) ∧ (∀ k, 0 ≤ ZB2 k ∧ ZB2 k ≤ 999999)) := by
  refine gMet.of y_X10_settleOne.2.2.2.2.1 (Nat.le_of_ble_eq_true rfl) ?_
  intro x hlx C hR hnm
  subst hlx
  have C : gC g x RX10 cX10_settleOne 8 3 0 0 67 := C
  show gW g x [(ko, cO 10 (kF th hr nL nO Q nY nE nR nB A)), (A 3, cA g 40 LP), (A 4, cA g 40 LH), (A 5, cA g 40 LU), (A 7, cA g 8 OP), (A 8, cA g 8 OF), (A 9, cA g 8 OT), (A 12, cA g 5 FL), (A 13, cA g 5 DP), (A 15, cA g 5 RE), (A 42, cA g 8 ZP), (A 43, cA g 40 ZH), (A 44, cA g 40 ZB), (A 45, cA g 40 ZL)] 0 0 [(0, .ref ko), (1, vi o), (2, vi t)] 0 []
  refine g_aload_n C 0 dX10_settleOne_0 rfl ?_
  refine g_iload_n C 1 dX10_settleOne_1 rfl ?_
  refine g_callVp C [vi o] [] (c_X10_ground x.1.2.1 g ko A th hr nL nO Q nY nE nR nB LP LH LU OP OF OT o hLP hLH hLU hnL hOP hOF hOT (by omega) ho) y_X10_ground l_X10_213 [0, 1, 2, 3, 4, 5, 6] rfl (by decide) 0 rfl rfl rfl (Nat.le_of_ble_eq_true rfl) rfl (by decide) dX10_settleOne_2 ?_
  have ho9 : 0 ≤ o ∧ o < 8 := by omega
  have ht0 := plc_r OP OF (n := nO) ho8.1 ho8.2
  rw [hat] at ht0
  have hg9 := gro_r (LP := LP) (LH := LH) hLU hnL OP OF OT o
  have hq9 := qto_r hQ hg9
  refine g_aload_n C 0 dX10_settleOne_5 rfl ?_
  refine g_aload_n C 0 dX10_settleOne_6 rfl ?_
  refine g_iload_n C 1 dX10_settleOne_7 rfl ?_
  refine g_callVp C [vi o] [.ref ko, vi (gro LP LH LU nL OP OF OT o)] (c_X10_ground x.1.2.1 g ko A th hr nL nO Q nY nE nR nB LP LH LU OP OF OT o hLP hLH hLU hnL hOP hOF hOT (by omega) ho) y_X10_ground l_X10_213 [0, 1, 2, 3, 4, 5, 6] rfl (by decide) 0 rfl rfl rfl (Nat.le_of_ble_eq_true rfl) rfl (by decide) dX10_settleOne_8 ?_
  refine g_callVp C [vi (gro LP LH LU nL OP OF OT o)] [vi (gro LP LH LU nL OP OF OT o)] (c_X10_ceded x.1.2.1 g ko A th hr nL nO Q nY nE nR nB (gro LP LH LU nL OP OF OT o) hQ (by omega) (by omega)) y_X10_ceded l_X10_216 [0] rfl (by decide) 0 rfl rfl rfl (Nat.le_of_ble_eq_true rfl) rfl (by decide) dX10_settleOne_11 ?_
  refine g_isub C dX10_settleOne_14 ?_
  refine g_val (w := (nt0 LP LH LU nL OP OF OT nO Q) t) (by rw [← hat]; exact (nt0_plc hdst LP LH LU nL OT Q ho8.1 ho8.2).symm) ?_
  refine g_istore_n C [(3, vi ((nt0 LP LH LU nL OP OF OT nO Q) t)), (0, .ref ko), (1, vi o), (2, vi t)] dX10_settleOne_15 (by decide) rfl ?_
  have hn9 : 0 ≤ (nt0 LP LH LU nL OP OF OT nO Q) t ∧ (nt0 LP LH LU nL OP OF OT nO Q) t ≤ 3999960 := by rw [← hat, nt0_plc hdst LP LH LU nL OT Q ho8.1 ho8.2]; omega
  refine g_iconst C dX10_settleOne_16 ?_
  refine g_istore C [(4, vi 0), (3, vi ((nt0 LP LH LU nL OP OF OT nO Q) t)), (0, .ref ko), (1, vi o), (2, vi t)] dX10_settleOne_17 (by decide) rfl ?_
  have L19 : ∀ (f : Nat) (l : Int) (cH : Int → Int) (cB : Int → Int) (cL : Int → Int), (0 ≤ l ∧ l ≤ nY ∧ rw9 cH ZH (fun y => kH LP LH LU nL OP OF OT nO Q FL DP SH RE PR RA y o) o l ∧ rw9 cB ZB (fun y => kR LP LH LU nL OP OF OT nO Q FL DP SH RE PR RA y o) o l ∧ rw9 cL ZL (fun y => kL LP LH LU nL OP OF OT nO Q FL DP SH RE PR RA y o) o l ∧ (∀ k, 0 ≤ cH k ∧ cH k ≤ 999999) ∧ (∀ k, 0 ≤ cB k ∧ cB k ≤ 999999)) → (nY - l).toNat < f → gW g x [(ko, cO 10 (kF th hr nL nO Q nY nE nR nB A)), (A 3, cA g 40 LP), (A 4, cA g 40 LH), (A 5, cA g 40 LU), (A 7, cA g 8 OP), (A 8, cA g 8 OF), (A 9, cA g 8 OT), (A 12, cA g 5 FL), (A 13, cA g 5 DP), (A 15, cA g 5 RE), (A 42, cA g 8 ZP), (A 43, cA g 40 cH), (A 44, cA g 40 cB), (A 45, cA g 40 cL)] 0 0 [(4, vi l), (3, vi ((nt0 LP LH LU nL OP OF OT nO Q) t)), (0, .ref ko), (1, vi o), (2, vi t)] 19 [] := by
    intro f
    induction f with
    | zero => intro l cH cB cL hI19 hf; exact absurd hf (Nat.not_lt_zero _)
    | succ f ih19 =>
      intro l cH cB cL hI19 hf19
      obtain ⟨hl0, hl1, hH, hB, hL, hrH, hrB⟩ := hI19
      have hlf9 := lf_sum FL DP RE l (nt0 LP LH LU nL OP OF OT nO Q) ht0.1
      have hlr9 := lf_r (FL := FL) hDP hRE l (nt0 LP LH LU nL OP OF OT nO Q) ht0.1
      have hhr9 := hitA_r (FL := FL) hDP hRE l (nt0 LP LH LU nL OP OF OT nO Q) ht0.1
      have hdl9 := hDP l
      have hrl9 := hRE l
      have hmr9 := mul_rng (hDP l) (hRE l)
      refine g_iload C 0 dX10_settleOne_19 rfl ?_
      refine g_aload_n C 2 dX10_settleOne_21 rfl ?_
      refine g_getf C k_X10 11 f_X10_176 0 rfl rfl (by decide) rfl rfl dX10_settleOne_22 ?_
      refine g_icmp_ge C 236 dX10_settleOne_25 (by decide) (by omega) (by omega) (fun c25 => ?_) (fun c25 => ?_)
      · exact g_vret C hR dX10_settleOne_236 ⟨cH, cB, cL, rfl, rfl, (by rw [← show l = nY by omega]; exact hH), (by rw [← show l = nY by omega]; exact hB), (by rw [← show l = nY by omega]; exact hL), hrH, hrB⟩ rfl
      refine g_aload_n C 2 dX10_settleOne_28 rfl ?_
      refine g_getf C k_X10 13 f_X10_31 0 rfl rfl (by decide) rfl rfl dX10_settleOne_29 ?_
      refine g_iload C 0 dX10_settleOne_32 rfl ?_
      refine g_iald C 8 rfl (by omega) dX10_settleOne_34 ?_
      have r1_34 := hDP l
      refine g_iconst C dX10_settleOne_35 ?_
      refine g_aload_n C 2 dX10_settleOne_36 rfl ?_
      refine g_getf C k_X10 15 f_X10_37 0 rfl rfl (by decide) rfl rfl dX10_settleOne_37 ?_
      refine g_iload C 0 dX10_settleOne_40 rfl ?_
      refine g_iald C 9 rfl (by omega) dX10_settleOne_42 ?_
      have r2_42 := hRE l
      refine g_iadd C dX10_settleOne_43 ?_
      refine g_imul C dX10_settleOne_44 ?_
      refine g_val (w := cap DP RE l) (by unfold cap; rw [Int.mul_add, Int.mul_one]) ?_
      refine g_istore C [(5, vi (cap DP RE l)), (4, vi l), (3, vi ((nt0 LP LH LU nL OP OF OT nO Q) t)), (0, .ref ko), (1, vi o), (2, vi t)] dX10_settleOne_45 (by decide) rfl ?_
      refine g_aload_n C 3 dX10_settleOne_47 rfl ?_
      refine g_getf C k_X10 13 f_X10_31 0 rfl rfl (by decide) rfl rfl dX10_settleOne_48 ?_
      refine g_iload C 1 dX10_settleOne_51 rfl ?_
      refine g_iald C 8 rfl (by omega) dX10_settleOne_53 ?_
      have r3_53 := hDP l
      refine g_aload_n C 3 dX10_settleOne_54 rfl ?_
      refine g_getf C k_X10 15 f_X10_37 0 rfl rfl (by decide) rfl rfl dX10_settleOne_55 ?_
      refine g_iload C 1 dX10_settleOne_58 rfl ?_
      refine g_iald C 9 rfl (by omega) dX10_settleOne_60 ?_
      have r4_60 := hRE l
      refine g_imul C dX10_settleOne_61 ?_
      refine g_istore C [(6, vi ((DP l) * (RE l))), (5, vi (cap DP RE l)), (4, vi l), (3, vi ((nt0 LP LH LU nL OP OF OT nO Q) t)), (0, .ref ko), (1, vi o), (2, vi t)] dX10_settleOne_62 (by decide) rfl ?_
      refine g_iconst C dX10_settleOne_64 ?_
      refine g_istore C [(7, vi 0), (6, vi ((DP l) * (RE l))), (5, vi (cap DP RE l)), (4, vi l), (3, vi ((nt0 LP LH LU nL OP OF OT nO Q) t)), (0, .ref ko), (1, vi o), (2, vi t)] dX10_settleOne_65 (by decide) rfl ?_
      have L67 : ∀ (f : Nat) (has9 : Int) (res9 : Int) (k : Int), (0 ≤ k ∧ k ≤ nO ∧ has9 = cap DP RE l - sm (bf9 OP OF nO t (hitA FL DP RE l (nt0 LP LH LU nL OP OF OT nO Q))) k ∧ res9 = DP l * RE l - sm (bf9 OP OF nO t (resA FL DP RE l (nt0 LP LH LU nL OP OF OT nO Q))) k) → (nO - k).toNat < f → gW g x [(ko, cO 10 (kF th hr nL nO Q nY nE nR nB A)), (A 3, cA g 40 LP), (A 4, cA g 40 LH), (A 5, cA g 40 LU), (A 7, cA g 8 OP), (A 8, cA g 8 OF), (A 9, cA g 8 OT), (A 12, cA g 5 FL), (A 13, cA g 5 DP), (A 15, cA g 5 RE), (A 42, cA g 8 ZP), (A 43, cA g 40 cH), (A 44, cA g 40 cB), (A 45, cA g 40 cL)] 0 0 [(7, vi k), (6, vi res9), (5, vi has9), (4, vi l), (3, vi ((nt0 LP LH LU nL OP OF OT nO Q) t)), (0, .ref ko), (1, vi o), (2, vi t)] 67 [] := by
        intro f
        induction f with
        | zero => intro has9 res9 k hI67 hf; exact absurd hf (Nat.not_lt_zero _)
        | succ f ih67 =>
          intro has9 res9 k hI67 hf67
          obtain ⟨hk0, hk1, hhas, hres⟩ := hI67
          refine g_iload C 0 dX10_settleOne_67 rfl ?_
          refine g_aload_n C 5 dX10_settleOne_69 rfl ?_
          refine g_getf C k_X10 6 f_X10_163 0 rfl rfl (by decide) rfl rfl dX10_settleOne_70 ?_
          refine g_icmp_ge C 148 dX10_settleOne_73 (by decide) (by omega) (by omega) (fun c73 => ?_) (fun c73 => ?_)
          · have hha9 : has9 = lf FL DP RE l (nt0 LP LH LU nL OP OF OT nO Q) t := by rw [hhas, show k = nO by omega, bf9_sum hdst hnO.1 _ ht0.1 (by omega), hlf9.1]
            have hre9 : res9 = rs FL DP RE l (nt0 LP LH LU nL OP OF OT nO Q) t := by rw [hres, show k = nO by omega, bf9_sum hdst hnO.1 _ ht0.1 (by omega), hlf9.2]
            refine g_aload_n C 5 dX10_settleOne_148 rfl ?_
            refine g_iload C 3 dX10_settleOne_149 rfl ?_
            refine g_iload_n C 4 dX10_settleOne_151 rfl ?_
            refine g_callVp C [vi l, vi ((nt0 LP LH LU nL OP OF OT nO Q) t)] [] (c_X10_above x.1.2.1 g ko A th hr nL nO Q nY nE nR nB FL DP l ((nt0 LP LH LU nL OP OF OT nO Q) t) hFL hDP (by omega) (by omega) (by omega) (by omega)) y_X10_above l_X10_219 [0, 7, 8] rfl (by decide) 0 rfl rfl rfl (Nat.le_of_ble_eq_true rfl) rfl (by decide) dX10_settleOne_152 ?_
            have hf9 := fhit_r (FL := FL) hDP l ((nt0 LP LH LU nL OP OF OT nO Q) t)
            refine g_istore C [(7, vi (fhit FL DP l ((nt0 LP LH LU nL OP OF OT nO Q) t))), (6, vi res9), (5, vi has9), (4, vi l), (3, vi ((nt0 LP LH LU nL OP OF OT nO Q) t)), (0, .ref ko), (1, vi o), (2, vi t)] dX10_settleOne_155 (by decide) rfl ?_
            have J171 : ∀ (hi9 : Int), (hi9 = (hitA FL DP RE l (nt0 LP LH LU nL OP OF OT nO Q)) t) → gW g x [(ko, cO 10 (kF th hr nL nO Q nY nE nR nB A)), (A 3, cA g 40 LP), (A 4, cA g 40 LH), (A 5, cA g 40 LU), (A 7, cA g 8 OP), (A 8, cA g 8 OF), (A 9, cA g 8 OT), (A 12, cA g 5 FL), (A 13, cA g 5 DP), (A 15, cA g 5 RE), (A 42, cA g 8 ZP), (A 43, cA g 40 cH), (A 44, cA g 40 cB), (A 45, cA g 40 cL)] 0 0 [(7, vi (fhit FL DP l ((nt0 LP LH LU nL OP OF OT nO Q) t))), (6, vi res9), (5, vi has9), (4, vi l), (3, vi ((nt0 LP LH LU nL OP OF OT nO Q) t)), (0, .ref ko), (1, vi o), (2, vi t)] 171 [vi hi9] := by
              intro hi9 hJ171
              have hhi9 := hJ171
              refine g_istore C [(7, vi hi9), (6, vi res9), (5, vi has9), (4, vi l), (3, vi ((nt0 LP LH LU nL OP OF OT nO Q) t)), (0, .ref ko), (1, vi o), (2, vi t)] dX10_settleOne_171 (by decide) rfl ?_
              refine g_aload_n C 5 dX10_settleOne_173 rfl ?_
              refine g_getf C k_X10 43 f_X10_112 0 rfl rfl (by decide) rfl rfl dX10_settleOne_174 ?_
              refine g_bipush C dX10_settleOne_177 (by decide) ?_
              refine g_iload C 3 dX10_settleOne_179 rfl ?_
              refine g_imul C dX10_settleOne_181 ?_
              refine g_iload_n C 6 dX10_settleOne_182 rfl ?_
              refine g_iadd C dX10_settleOne_183 ?_
              refine g_iload C 0 dX10_settleOne_184 rfl ?_
              refine g_iast C 11 rfl (by omega) [(ko, cO 10 (kF th hr nL nO Q nY nE nR nB A)), (A 3, cA g 40 LP), (A 4, cA g 40 LH), (A 5, cA g 40 LU), (A 7, cA g 8 OP), (A 8, cA g 8 OF), (A 9, cA g 8 OT), (A 12, cA g 5 FL), (A 13, cA g 5 DP), (A 15, cA g 5 RE), (A 42, cA g 8 ZP), (A 43, cA g 40 (up cH ((8 * l) + o) hi9)), (A 44, cA g 40 cB), (A 45, cA g 40 cL)] rfl dX10_settleOne_186 ?_
              refine g_aload_n C 5 dX10_settleOne_187 rfl ?_
              refine g_getf C k_X10 45 f_X10_118 0 rfl rfl (by decide) rfl rfl dX10_settleOne_188 ?_
              refine g_bipush C dX10_settleOne_191 (by decide) ?_
              refine g_iload C 3 dX10_settleOne_193 rfl ?_
              refine g_imul C dX10_settleOne_195 ?_
              refine g_iload_n C 6 dX10_settleOne_196 rfl ?_
              refine g_iadd C dX10_settleOne_197 ?_
              refine g_iload C 2 dX10_settleOne_198 rfl ?_
              refine g_iload C 0 dX10_settleOne_200 rfl ?_
              refine g_isub C dX10_settleOne_202 ?_
              refine g_iast C 13 rfl (by omega) [(ko, cO 10 (kF th hr nL nO Q nY nE nR nB A)), (A 3, cA g 40 LP), (A 4, cA g 40 LH), (A 5, cA g 40 LU), (A 7, cA g 8 OP), (A 8, cA g 8 OF), (A 9, cA g 8 OT), (A 12, cA g 5 FL), (A 13, cA g 5 DP), (A 15, cA g 5 RE), (A 42, cA g 8 ZP), (A 43, cA g 40 (up cH ((8 * l) + o) hi9)), (A 44, cA g 40 cB), (A 45, cA g 40 (up cL ((8 * l) + o) (has9 - hi9)))] rfl dX10_settleOne_203 ?_
              refine g_aload_n C 5 dX10_settleOne_204 rfl ?_
              refine g_getf C k_X10 44 f_X10_115 0 rfl rfl (by decide) rfl rfl dX10_settleOne_205 ?_
              refine g_bipush C dX10_settleOne_208 (by decide) ?_
              refine g_iload C 3 dX10_settleOne_210 rfl ?_
              refine g_imul C dX10_settleOne_212 ?_
              refine g_iload_n C 6 dX10_settleOne_213 rfl ?_
              refine g_iadd C dX10_settleOne_214 ?_
              refine g_iload C 0 dX10_settleOne_215 rfl ?_
              have J229 : ∀ (ba9 : Int), (ba9 = (resA FL DP RE l (nt0 LP LH LU nL OP OF OT nO Q)) t) → gW g x [(ko, cO 10 (kF th hr nL nO Q nY nE nR nB A)), (A 3, cA g 40 LP), (A 4, cA g 40 LH), (A 5, cA g 40 LU), (A 7, cA g 8 OP), (A 8, cA g 8 OF), (A 9, cA g 8 OT), (A 12, cA g 5 FL), (A 13, cA g 5 DP), (A 15, cA g 5 RE), (A 42, cA g 8 ZP), (A 43, cA g 40 (up cH ((8 * l) + o) hi9)), (A 44, cA g 40 cB), (A 45, cA g 40 (up cL ((8 * l) + o) (has9 - hi9)))] 0 0 [(7, vi hi9), (6, vi res9), (5, vi has9), (4, vi l), (3, vi ((nt0 LP LH LU nL OP OF OT nO Q) t)), (0, .ref ko), (1, vi o), (2, vi t)] 229 [vi ba9, vi ((8 * l) + o), .ref (A 44)] := by
                intro ba9 hJ229
                refine g_iast C 12 rfl (by omega) [(ko, cO 10 (kF th hr nL nO Q nY nE nR nB A)), (A 3, cA g 40 LP), (A 4, cA g 40 LH), (A 5, cA g 40 LU), (A 7, cA g 8 OP), (A 8, cA g 8 OF), (A 9, cA g 8 OT), (A 12, cA g 5 FL), (A 13, cA g 5 DP), (A 15, cA g 5 RE), (A 42, cA g 8 ZP), (A 43, cA g 40 (up cH ((8 * l) + o) hi9)), (A 44, cA g 40 (up cB ((8 * l) + o) ba9)), (A 45, cA g 40 (up cL ((8 * l) + o) (has9 - hi9)))] rfl dX10_settleOne_229 ?_
                have hv1 : hi9 = kH LP LH LU nL OP OF OT nO Q FL DP SH RE PR RA l o := by rw [hhi9]; unfold kH; rw [hat]
                have hv2 : ba9 = kR LP LH LU nL OP OF OT nO Q FL DP SH RE PR RA l o := by rw [hJ229]; unfold kR; rw [hat]
                have hv3 : has9 - hi9 = kL LP LH LU nL OP OF OT nO Q FL DP SH RE PR RA l o := by unfold kL; rw [hat, lf_s _ _ _ _ _ ht0.1, hha9, hhi9]
                refine g_iinc C 3 [(4, vi (l + 1)), (7, vi hi9), (6, vi res9), (5, vi has9), (3, vi ((nt0 LP LH LU nL OP OF OT nO Q) t)), (0, .ref ko), (1, vi o), (2, vi t)] dX10_settleOne_230 rfl (by decide) rfl ?_
                refine g_goto C 19 dX10_settleOne_233 (by decide) ?_
                refine g_lv [(4, vi (l + 1)), (3, vi ((nt0 LP LH LU nL OP OF OT nO Q) t)), (0, .ref ko), (1, vi o), (2, vi t)] [0, 4, 5, 6, 7] rfl ?_
                exact ih19 (l + 1) (up cH ((8 * l) + o) hi9) (up cB ((8 * l) + o) ba9) (up cL ((8 * l) + o) (has9 - hi9)) ⟨by omega, by omega, rw9_s hH ho9 hl0 hv1, rw9_s hB ho9 hl0 hv2, rw9_s hL ho9 hl0 hv3, fun k => by have := hrH k; unfold up; split <;> omega, fun k => by have := hrB k; unfold up; split <;> omega⟩ (by omega)
              refine g_iload C 1 dX10_settleOne_217 rfl ?_
              refine g_icmp_le C 227 dX10_settleOne_219 (by decide) (by omega) (by omega) (fun c219 => ?_) (fun c219 => ?_)
              · refine g_iload C 0 dX10_settleOne_227 rfl ?_
                exact J229 hi9 (by show _ = mn (hitA FL DP RE l (nt0 LP LH LU nL OP OF OT nO Q) t) (rs FL DP RE l (nt0 LP LH LU nL OP OF OT nO Q) t); unfold mn; omega)
              refine g_iload C 1 dX10_settleOne_222 rfl ?_
              refine g_goto C 229 dX10_settleOne_224 (by decide) ?_
              exact J229 res9 (by show _ = mn (hitA FL DP RE l (nt0 LP LH LU nL OP OF OT nO Q) t) (rs FL DP RE l (nt0 LP LH LU nL OP OF OT nO Q) t); unfold mn; omega)
            refine g_iload C 0 dX10_settleOne_157 rfl ?_
            refine g_iload C 2 dX10_settleOne_159 rfl ?_
            refine g_icmp_le C 169 dX10_settleOne_161 (by decide) (by omega) (by omega) (fun c161 => ?_) (fun c161 => ?_)
            · refine g_iload C 0 dX10_settleOne_169 rfl ?_
              exact J171 (fhit FL DP l ((nt0 LP LH LU nL OP OF OT nO Q) t)) (by show _ = mn (fhit FL DP l ((nt0 LP LH LU nL OP OF OT nO Q) t)) (lf FL DP RE l (nt0 LP LH LU nL OP OF OT nO Q) t); unfold mn; omega)
            refine g_iload C 2 dX10_settleOne_164 rfl ?_
            refine g_goto C 171 dX10_settleOne_166 (by decide) ?_
            exact J171 has9 (by show _ = mn (fhit FL DP l ((nt0 LP LH LU nL OP OF OT nO Q) t)) (lf FL DP RE l (nt0 LP LH LU nL OP OF OT nO Q) t); unfold mn; omega)
          refine g_iload C 2 dX10_settleOne_76 rfl ?_
          have J106 : ∀ (u1 : Int), (u1 = bf9 OP OF nO t (hitA FL DP RE l (nt0 LP LH LU nL OP OF OT nO Q)) k) → gW g x [(ko, cO 10 (kF th hr nL nO Q nY nE nR nB A)), (A 3, cA g 40 LP), (A 4, cA g 40 LH), (A 5, cA g 40 LU), (A 7, cA g 8 OP), (A 8, cA g 8 OF), (A 9, cA g 8 OT), (A 12, cA g 5 FL), (A 13, cA g 5 DP), (A 15, cA g 5 RE), (A 42, cA g 8 ZP), (A 43, cA g 40 cH), (A 44, cA g 40 cB), (A 45, cA g 40 cL)] 0 0 [(7, vi k), (6, vi res9), (5, vi has9), (4, vi l), (3, vi ((nt0 LP LH LU nL OP OF OT nO Q) t)), (0, .ref ko), (1, vi o), (2, vi t)] 106 [vi u1, vi has9] := by
            intro u1 hJ106
            have hpk9 := plc_r OP OF (n := nO) (o := k) hk0 (by omega)
            refine g_isub C dX10_settleOne_106 ?_
            refine g_istore C [(5, vi (has9 - u1)), (7, vi k), (6, vi res9), (4, vi l), (3, vi ((nt0 LP LH LU nL OP OF OT nO Q) t)), (0, .ref ko), (1, vi o), (2, vi t)] dX10_settleOne_107 (by decide) rfl ?_
            refine g_iload C 2 dX10_settleOne_109 rfl ?_
            have J139 : ∀ (u2 : Int), (u2 = bf9 OP OF nO t (resA FL DP RE l (nt0 LP LH LU nL OP OF OT nO Q)) k) → gW g x [(ko, cO 10 (kF th hr nL nO Q nY nE nR nB A)), (A 3, cA g 40 LP), (A 4, cA g 40 LH), (A 5, cA g 40 LU), (A 7, cA g 8 OP), (A 8, cA g 8 OF), (A 9, cA g 8 OT), (A 12, cA g 5 FL), (A 13, cA g 5 DP), (A 15, cA g 5 RE), (A 42, cA g 8 ZP), (A 43, cA g 40 cH), (A 44, cA g 40 cB), (A 45, cA g 40 cL)] 0 0 [(5, vi (has9 - u1)), (7, vi k), (6, vi res9), (4, vi l), (3, vi ((nt0 LP LH LU nL OP OF OT nO Q) t)), (0, .ref ko), (1, vi o), (2, vi t)] 139 [vi u2, vi res9] := by
              intro u2 hJ139
              refine g_isub C dX10_settleOne_139 ?_
              refine g_istore C [(6, vi (res9 - u2)), (5, vi (has9 - u1)), (7, vi k), (4, vi l), (3, vi ((nt0 LP LH LU nL OP OF OT nO Q) t)), (0, .ref ko), (1, vi o), (2, vi t)] dX10_settleOne_140 (by decide) rfl ?_
              refine g_iinc C 2 [(7, vi (k + 1)), (6, vi (res9 - u2)), (5, vi (has9 - u1)), (4, vi l), (3, vi ((nt0 LP LH LU nL OP OF OT nO Q) t)), (0, .ref ko), (1, vi o), (2, vi t)] dX10_settleOne_142 rfl (by decide) rfl ?_
              refine g_goto C 67 dX10_settleOne_145 (by decide) ?_
              exact ih67 (has9 - u1) (res9 - u2) (k + 1) ⟨by omega, by omega, by rw [sm_s _ hk0]; omega, by rw [sm_s _ hk0]; omega⟩ (by omega)
            refine g_aload_n C 5 dX10_settleOne_111 rfl ?_
            refine g_getf C k_X10 42 f_X10_109 0 rfl rfl (by decide) rfl rfl dX10_settleOne_112 ?_
            refine g_iload C 1 dX10_settleOne_115 rfl ?_
            refine g_iald C 10 rfl (by omega) dX10_settleOne_117 ?_
            have r5_117 := hZP k
            refine g_val (w := plc OP OF nO k) (hZP k hk0 (by omega)) ?_
            refine g_iload_n C 7 dX10_settleOne_118 rfl ?_
            refine g_icmp_ge C 138 dX10_settleOne_119 (by decide) (by omega) (by omega) (fun c119 => ?_) (fun c119 => ?_)
            · refine g_iconst C dX10_settleOne_138 ?_
              exact J139 0 (by first | exact hu2 | (unfold bf9; rw [if_neg (by omega)]))
            refine g_aload_n C 5 dX10_settleOne_122 rfl ?_
            refine g_getf C k_X10 44 f_X10_115 0 rfl rfl (by decide) rfl rfl dX10_settleOne_123 ?_
            refine g_bipush C dX10_settleOne_126 (by decide) ?_
            refine g_iload C 3 dX10_settleOne_128 rfl ?_
            refine g_imul C dX10_settleOne_130 ?_
            refine g_iload C 1 dX10_settleOne_131 rfl ?_
            refine g_iadd C dX10_settleOne_133 ?_
            refine g_iald C 12 rfl (by omega) dX10_settleOne_134 ?_
            have hu2 : cB (8 * l + k) = bf9 OP OF nO t (resA FL DP RE l (nt0 LP LH LU nL OP OF OT nO Q)) k := by
              unfold bf9; rw [if_pos (by omega), hB.1 l k hl0 hk0 (by omega) (fun q => by subst q; omega), hpB l k hl0 (by omega) hk0 (by omega) (by omega)]; rfl
            refine g_goto C 139 dX10_settleOne_135 (by decide) ?_
            exact J139 (cB ((8 * l) + k)) (by first | exact hu2 | (unfold bf9; rw [if_neg (by omega)]))
          refine g_aload_n C 5 dX10_settleOne_78 rfl ?_
          refine g_getf C k_X10 42 f_X10_109 0 rfl rfl (by decide) rfl rfl dX10_settleOne_79 ?_
          refine g_iload C 0 dX10_settleOne_82 rfl ?_
          refine g_iald C 10 rfl (by omega) dX10_settleOne_84 ?_
          have r6_84 := hZP k
          have hpk8 := plc_r OP OF (n := nO) (o := k) hk0 (by omega)
          refine g_val (w := plc OP OF nO k) (hZP k hk0 (by omega)) ?_
          refine g_iload_n C 7 dX10_settleOne_85 rfl ?_
          refine g_icmp_ge C 105 dX10_settleOne_86 (by decide) (by omega) (by omega) (fun c86 => ?_) (fun c86 => ?_)
          · refine g_iconst C dX10_settleOne_105 ?_
            exact J106 0 (by first | exact hu1 | (unfold bf9; rw [if_neg (by omega)]))
          refine g_aload_n C 5 dX10_settleOne_89 rfl ?_
          refine g_getf C k_X10 43 f_X10_112 0 rfl rfl (by decide) rfl rfl dX10_settleOne_90 ?_
          refine g_bipush C dX10_settleOne_93 (by decide) ?_
          refine g_iload C 3 dX10_settleOne_95 rfl ?_
          refine g_imul C dX10_settleOne_97 ?_
          refine g_iload C 0 dX10_settleOne_98 rfl ?_
          refine g_iadd C dX10_settleOne_100 ?_
          refine g_iald C 11 rfl (by omega) dX10_settleOne_101 ?_
          have hu1 : cH (8 * l + k) = bf9 OP OF nO t (hitA FL DP RE l (nt0 LP LH LU nL OP OF OT nO Q)) k := by
            unfold bf9; rw [if_pos (by omega), hH.1 l k hl0 hk0 (by omega) (fun q => by subst q; omega), hpH l k hl0 (by omega) hk0 (by omega) (by omega)]; rfl
          refine g_goto C 106 dX10_settleOne_102 (by decide) ?_
          exact J106 (cH ((8 * l) + k)) (by first | exact hu1 | (unfold bf9; rw [if_neg (by omega)]))
      exact L67 _ (cap DP RE l) ((DP l) * (RE l)) 0 ⟨by omega, by omega, by rw [sm_0]; omega, by rw [sm_0]; omega⟩ (Nat.lt_succ_self _)
  exact L19 _ 0 ZH ZB ZL ⟨by omega, by omega, rw9_0 _ _ _, rw9_0 _ _ _, rw9_0 _ _ _, hZH, hZB⟩ (Nat.lt_succ_self _)

