set_option maxHeartbeats 4000000 in
set_option maxRecDepth 100000 in
theorem c_X8_has (l : Launch) (g : gD) (wo : Nat) (wp : Nat) (wf : Nat) (wl : Nat) (nO : Int) (v : Int) (hnO : 0 ≤ nO ∧ nO ≤ 8) (hv : -2147483648 ≤ v ∧ v < 2147483648) : gMet l g yX8_has cX8_has 2 (some .boolean) 0 0 0 0 [.ref wo, vi v] [(wo, cO 8 [.ref wp, .ref wf, .ref wl, vi nO])] (gM (some (vi (if 0 ≤ v ∧ v < nO then 1 else 0))) [(wo, cO 8 [.ref wp, .ref wf, .ref wl, vi nO])]) := by
  refine gMet.of y_X8_has.2.2.2.2.1 (Nat.le_of_ble_eq_true rfl) ?_
  intro x hlx C hR hnm
  subst hlx
  have C : gC g x RX8 cX8_has 2 0 0 0 0 := C
  show gW g x [(wo, cO 8 [.ref wp, .ref wf, .ref wl, vi nO])] 0 0 [(0, .ref wo), (1, vi v)] 0 []
  refine g_iload_n C 1 dX8_has_0 rfl ?_
  refine g_if_lt C 16 dX8_has_1 (by decide) (by omega) (fun c1 => ?_) (fun c1 => ?_)
  · refine g_iconst C dX8_has_16 ?_
    exact g_zretM C hR dX8_has_17 (by omega) (by first | rfl | omega) rfl rfl
  refine g_iload_n C 1 dX8_has_4 rfl ?_
  refine g_aload_n C 0 dX8_has_5 rfl ?_
  refine g_getf C k_X8 3 f_X8_21 0 rfl rfl (by decide) rfl rfl dX8_has_6 ?_
  refine g_icmp_ge C 16 dX8_has_9 (by decide) (by omega) (by omega) (fun c9 => ?_) (fun c9 => ?_)
  · refine g_iconst C dX8_has_16 ?_
    exact g_zretM C hR dX8_has_17 (by omega) (by first | rfl | omega) rfl rfl
  refine g_iconst C dX8_has_12 ?_
  refine g_goto C 17 dX8_has_13 (by decide) ?_
  exact g_zretM C hR dX8_has_17 (by omega) (by first | rfl | omega) rfl rfl

set_option maxHeartbeats 4000000 in
set_option maxRecDepth 100000 in
theorem c_X8_isFull (l : Launch) (g : gD) (wo : Nat) (wp : Nat) (wf : Nat) (wl : Nat) (nO : Int) (hnO : 0 ≤ nO ∧ nO ≤ 8) : gMet l g yX8_isFull cX8_isFull 1 (some .boolean) 0 0 0 0 [.ref wo] [(wo, cO 8 [.ref wp, .ref wf, .ref wl, vi nO])] (gM (some (vi (if 8 ≤ nO then 1 else 0))) [(wo, cO 8 [.ref wp, .ref wf, .ref wl, vi nO])]) := by
  refine gMet.of y_X8_isFull.2.2.2.2.1 (Nat.le_of_ble_eq_true rfl) ?_
  intro x hlx C hR hnm
  subst hlx
  have C : gC g x RX8 cX8_isFull 1 0 0 0 0 := C
  show gW g x [(wo, cO 8 [.ref wp, .ref wf, .ref wl, vi nO])] 0 0 [(0, .ref wo)] 0 []
  refine g_aload_n C 0 dX8_isFull_0 rfl ?_
  refine g_getf C k_X8 3 f_X8_21 0 rfl rfl (by decide) rfl rfl dX8_isFull_1 ?_
  refine g_bipush C dX8_isFull_4 (by decide) ?_
  refine g_icmp_lt C 13 dX8_isFull_6 (by decide) (by omega) (by omega) (fun c6 => ?_) (fun c6 => ?_)
  · refine g_iconst C dX8_isFull_13 ?_
    exact g_zretM C hR dX8_isFull_14 (by omega) (by first | rfl | omega) rfl rfl
  refine g_iconst C dX8_isFull_9 ?_
  refine g_goto C 14 dX8_isFull_10 (by decide) ?_
  exact g_zretM C hR dX8_isFull_14 (by omega) (by first | rfl | omega) rfl rfl

set_option maxHeartbeats 4000000 in
set_option maxRecDepth 100000 in
theorem c_X8_isEmpty (l : Launch) (g : gD) (wo : Nat) (wp : Nat) (wf : Nat) (wl : Nat) (nO : Int) (hnO : 0 ≤ nO ∧ nO ≤ 8) : gMet l g yX8_isEmpty cX8_isEmpty 1 (some .boolean) 0 0 0 0 [.ref wo] [(wo, cO 8 [.ref wp, .ref wf, .ref wl, vi nO])] (gM (some (vi (if nO ≤ 0 then 1 else 0))) [(wo, cO 8 [.ref wp, .ref wf, .ref wl, vi nO])]) := by
  refine gMet.of y_X8_isEmpty.2.2.2.2.1 (Nat.le_of_ble_eq_true rfl) ?_
  intro x hlx C hR hnm
  subst hlx
  have C : gC g x RX8 cX8_isEmpty 1 0 0 0 0 := C
  show gW g x [(wo, cO 8 [.ref wp, .ref wf, .ref wl, vi nO])] 0 0 [(0, .ref wo)] 0 []
  refine g_aload_n C 0 dX8_isEmpty_0 rfl ?_
  refine g_getf C k_X8 3 f_X8_21 0 rfl rfl (by decide) rfl rfl dX8_isEmpty_1 ?_
  refine g_if_gt C 11 dX8_isEmpty_4 (by decide) (by omega) (fun c4 => ?_) (fun c4 => ?_)
  · refine g_iconst C dX8_isEmpty_11 ?_
    exact g_zretM C hR dX8_isEmpty_12 (by omega) (by first | rfl | omega) rfl rfl
  refine g_iconst C dX8_isEmpty_7 ?_
  refine g_goto C 12 dX8_isEmpty_8 (by decide) ?_
  exact g_zretM C hR dX8_isEmpty_12 (by omega) (by first | rfl | omega) rfl rfl

/-- has a window in common with one of the first n -/
def hic (OP OF OT : Int → Int) (p a b : Int) (n : Int) : Prop := ∃ k, 0 ≤ k ∧ k < n ∧ OP k = p ∧ OF k ≤ b ∧ a ≤ OT k
theorem hic_no {OP OF OT : Int → Int} {p a b n : Int} (h : ¬ hic OP OF OT p a b n) (h2 : ¬ (OP n = p ∧ OF n ≤ b ∧ a ≤ OT n)) : ¬ hic OP OF OT p a b (n + 1) := by
  rintro ⟨k, h3, h4, h5⟩
  by_cases e : k = n
  · subst e; exact h2 h5
  · exact h ⟨k, h3, by omega, h5⟩
/-- 1 for what holds, else 0 -/
noncomputable def bI (P : Prop) : Int := @ite Int P (Classical.propDecidable P) 1 0
theorem bI_t {P : Prop} (h : P) : bI P = 1 := if_pos h
theorem bI_f {P : Prop} (h : ¬ P) : bI P = 0 := if_neg h
theorem bI_01 (P : Prop) : 0 ≤ bI P ∧ bI P ≤ 1 := by
  by_cases h : P
  · rw [bI_t h]; omega
  · rw [bI_f h]; omega
theorem bI_c (P : Prop) : (bI P = 0 ∧ ¬ P) ∨ (bI P = 1 ∧ P) := by
  by_cases h : P
  · exact Or.inr ⟨bI_t h, h⟩
  · exact Or.inl ⟨bI_f h, h⟩

set_option maxHeartbeats 4000000 in
set_option maxRecDepth 100000 in
theorem c_X8_hasInCommon (l : Launch) (g : gD) (wo : Nat) (wp : Nat) (wf : Nat) (wl : Nat) (OP : Int → Int) (OF : Int → Int) (OT : Int → Int) (nO : Int) (p : Int) (a : Int) (b : Int) (hOP : ∀ k, 0 ≤ OP k ∧ OP k ≤ 2) (hOF : ∀ k, 0 ≤ OF k ∧ OF k ≤ 2199) (hOT : ∀ k, 0 ≤ OT k ∧ OT k ≤ 2199) (hnO : 0 ≤ nO ∧ nO ≤ 8) (hp : -2147483648 ≤ p ∧ p < 2147483648) (ha : -2147483648 ≤ a ∧ a < 2147483648) (hb : -2147483648 ≤ b ∧ b < 2147483648) : gMet l g yX8_hasInCommon cX8_hasInCommon 5 (some .boolean) 0 0 0 0 [.ref wo, vi p, vi a, vi b] [(wo, cO 8 [.ref wp, .ref wf, .ref wl, vi nO]), (wp, cA g 8 OP), (wf, cA g 8 OF), (wl, cA g 8 OT)] (gM (some (vi (bI (hic OP OF OT p a b nO)))) [(wo, cO 8 [.ref wp, .ref wf, .ref wl, vi nO]), (wp, cA g 8 OP), (wf, cA g 8 OF), (wl, cA g 8 OT)]) := by
  refine gMet.of y_X8_hasInCommon.2.2.2.2.1 (Nat.le_of_ble_eq_true rfl) ?_
  intro x hlx C hR hnm
  subst hlx
  have C : gC g x RX8 cX8_hasInCommon 5 0 0 0 0 := C
  show gW g x [(wo, cO 8 [.ref wp, .ref wf, .ref wl, vi nO]), (wp, cA g 8 OP), (wf, cA g 8 OF), (wl, cA g 8 OT)] 0 0 [(0, .ref wo), (1, vi p), (2, vi a), (3, vi b)] 0 []
  refine g_iconst C dX8_hasInCommon_0 ?_
  refine g_istore C [(4, vi 0), (0, .ref wo), (1, vi p), (2, vi a), (3, vi b)] dX8_hasInCommon_1 (by decide) rfl ?_
  have L3 : ∀ (f : Nat) (i : Int), (0 ≤ i ∧ i ≤ nO ∧ ¬ hic OP OF OT p a b i) → (nO - i).toNat < f → gW g x [(wo, cO 8 [.ref wp, .ref wf, .ref wl, vi nO]), (wp, cA g 8 OP), (wf, cA g 8 OF), (wl, cA g 8 OT)] 0 0 [(4, vi i), (0, .ref wo), (1, vi p), (2, vi a), (3, vi b)] 3 [] := by
    intro f
    induction f with
    | zero => intro i hI3 hf; exact absurd hf (Nat.not_lt_zero _)
    | succ f ih3 =>
      intro i hI3 hf3
      refine g_iload C 0 dX8_hasInCommon_3 rfl ?_
      refine g_aload_n C 1 dX8_hasInCommon_5 rfl ?_
      refine g_getf C k_X8 3 f_X8_21 0 rfl rfl (by decide) rfl rfl dX8_hasInCommon_6 ?_
      refine g_icmp_ge C 53 dX8_hasInCommon_9 (by decide) (by omega) (by omega) (fun c9 => ?_) (fun c9 => ?_)
      · refine g_iconst C dX8_hasInCommon_53 ?_
        exact g_zretM C hR dX8_hasInCommon_54 (by omega) (bI_f (by rw [← show i = nO by omega]; exact hI3.2.2)).symm rfl rfl
      refine g_aload_n C 1 dX8_hasInCommon_12 rfl ?_
      refine g_getf C k_X8 0 f_X8_9 0 rfl rfl (by decide) rfl rfl dX8_hasInCommon_13 ?_
      refine g_iload C 0 dX8_hasInCommon_16 rfl ?_
      refine g_iald C 1 rfl (by omega) dX8_hasInCommon_18 ?_
      have r1_18 := hOP i
      refine g_iload_n C 2 dX8_hasInCommon_19 rfl ?_
      refine g_icmp_ne C 47 dX8_hasInCommon_20 (by decide) (by omega) (by omega) (fun c20 => ?_) (fun c20 => ?_)
      · refine g_iinc C 0 [(4, vi (i + 1)), (0, .ref wo), (1, vi p), (2, vi a), (3, vi b)] dX8_hasInCommon_47 rfl (by decide) rfl ?_
        refine g_goto C 3 dX8_hasInCommon_50 (by decide) ?_
        exact ih3 (i + 1) ⟨by omega, by omega, hic_no hI3.2.2 (by omega)⟩ (by omega)
      refine g_aload_n C 1 dX8_hasInCommon_23 rfl ?_
      refine g_getf C k_X8 1 f_X8_15 0 rfl rfl (by decide) rfl rfl dX8_hasInCommon_24 ?_
      refine g_iload C 0 dX8_hasInCommon_27 rfl ?_
      refine g_iald C 2 rfl (by omega) dX8_hasInCommon_29 ?_
      have r2_29 := hOF i
      refine g_iload_n C 4 dX8_hasInCommon_30 rfl ?_
      refine g_icmp_gt C 47 dX8_hasInCommon_31 (by decide) (by omega) (by omega) (fun c31 => ?_) (fun c31 => ?_)
      · refine g_iinc C 0 [(4, vi (i + 1)), (0, .ref wo), (1, vi p), (2, vi a), (3, vi b)] dX8_hasInCommon_47 rfl (by decide) rfl ?_
        refine g_goto C 3 dX8_hasInCommon_50 (by decide) ?_
        exact ih3 (i + 1) ⟨by omega, by omega, hic_no hI3.2.2 (by omega)⟩ (by omega)
      refine g_aload_n C 1 dX8_hasInCommon_34 rfl ?_
      refine g_getf C k_X8 2 f_X8_18 0 rfl rfl (by decide) rfl rfl dX8_hasInCommon_35 ?_
      refine g_iload C 0 dX8_hasInCommon_38 rfl ?_
      refine g_iald C 3 rfl (by omega) dX8_hasInCommon_40 ?_
      have r3_40 := hOT i
      refine g_iload_n C 3 dX8_hasInCommon_41 rfl ?_
      refine g_icmp_lt C 47 dX8_hasInCommon_42 (by decide) (by omega) (by omega) (fun c42 => ?_) (fun c42 => ?_)
      · refine g_iinc C 0 [(4, vi (i + 1)), (0, .ref wo), (1, vi p), (2, vi a), (3, vi b)] dX8_hasInCommon_47 rfl (by decide) rfl ?_
        refine g_goto C 3 dX8_hasInCommon_50 (by decide) ?_
        exact ih3 (i + 1) ⟨by omega, by omega, hic_no hI3.2.2 (by omega)⟩ (by omega)
      refine g_iconst C dX8_hasInCommon_45 ?_
      exact g_zretM C hR dX8_hasInCommon_46 (by omega) (bI_t ⟨i, by omega, by omega, by omega, by omega, by omega⟩).symm rfl rfl
  exact L3 _ 0 ⟨by omega, by omega, fun ⟨k, h1, h2, _⟩ => by omega⟩ (Nat.lt_succ_self _)

set_option maxHeartbeats 4000000 in
set_option maxRecDepth 100000 in
theorem c_X8_add (l : Launch) (g : gD) (wo : Nat) (wp : Nat) (wf : Nat) (wl : Nat) (OP : Int → Int) (OF : Int → Int) (OT : Int → Int) (nO : Int) (a : Int) (b : Int) (c : Int) (hnO : 0 ≤ nO ∧ nO < 8) : gMet l g yX8_add cX8_add 4 (some .int) 0 0 0 0 [.ref wo, vi a, vi b, vi c] [(wo, cO 8 [.ref wp, .ref wf, .ref wl, vi nO]), (wp, cA g 8 OP), (wf, cA g 8 OF), (wl, cA g 8 OT)] (gM (some (vi nO)) [(wo, cO 8 [.ref wp, .ref wf, .ref wl, vi (nO + 1)]), (wp, cA g 8 (up OP nO a)), (wf, cA g 8 (up OF nO b)), (wl, cA g 8 (up OT nO c))]) := by
  refine gMet.of y_X8_add.2.2.2.2.1 (Nat.le_of_ble_eq_true rfl) ?_
  intro x hlx C hR hnm
  subst hlx
  have C : gC g x RX8 cX8_add 4 0 0 0 0 := C
  show gW g x [(wo, cO 8 [.ref wp, .ref wf, .ref wl, vi nO]), (wp, cA g 8 OP), (wf, cA g 8 OF), (wl, cA g 8 OT)] 0 0 [(0, .ref wo), (1, vi a), (2, vi b), (3, vi c)] 0 []
  refine g_aload_n C 0 dX8_add_0 rfl ?_
  refine g_getf C k_X8 0 f_X8_9 0 rfl rfl (by decide) rfl rfl dX8_add_1 ?_
  refine g_aload_n C 0 dX8_add_4 rfl ?_
  refine g_getf C k_X8 3 f_X8_21 0 rfl rfl (by decide) rfl rfl dX8_add_5 ?_
  refine g_iload_n C 1 dX8_add_8 rfl ?_
  refine g_iast C 1 rfl (by omega) [(wo, cO 8 [.ref wp, .ref wf, .ref wl, vi nO]), (wp, cA g 8 (up OP nO a)), (wf, cA g 8 OF), (wl, cA g 8 OT)] rfl dX8_add_9 ?_
  refine g_aload_n C 0 dX8_add_10 rfl ?_
  refine g_getf C k_X8 1 f_X8_15 0 rfl rfl (by decide) rfl rfl dX8_add_11 ?_
  refine g_aload_n C 0 dX8_add_14 rfl ?_
  refine g_getf C k_X8 3 f_X8_21 0 rfl rfl (by decide) rfl rfl dX8_add_15 ?_
  refine g_iload_n C 2 dX8_add_18 rfl ?_
  refine g_iast C 2 rfl (by omega) [(wo, cO 8 [.ref wp, .ref wf, .ref wl, vi nO]), (wp, cA g 8 (up OP nO a)), (wf, cA g 8 (up OF nO b)), (wl, cA g 8 OT)] rfl dX8_add_19 ?_
  refine g_aload_n C 0 dX8_add_20 rfl ?_
  refine g_getf C k_X8 2 f_X8_18 0 rfl rfl (by decide) rfl rfl dX8_add_21 ?_
  refine g_aload_n C 0 dX8_add_24 rfl ?_
  refine g_getf C k_X8 3 f_X8_21 0 rfl rfl (by decide) rfl rfl dX8_add_25 ?_
  refine g_iload_n C 3 dX8_add_28 rfl ?_
  refine g_iast C 3 rfl (by omega) [(wo, cO 8 [.ref wp, .ref wf, .ref wl, vi nO]), (wp, cA g 8 (up OP nO a)), (wf, cA g 8 (up OF nO b)), (wl, cA g 8 (up OT nO c))] rfl dX8_add_29 ?_
  refine g_aload_n C 0 dX8_add_30 rfl ?_
  refine g_dup C dX8_add_31 rfl ?_
  refine g_getf C k_X8 3 f_X8_21 0 rfl rfl (by decide) rfl rfl dX8_add_32 ?_
  refine g_iconst C dX8_add_35 ?_
  refine g_iadd C dX8_add_36 ?_
  refine g_putf C k_X8 tyX8_ok nmX8 3 f_X8_21 0 rfl rfl (by decide) rfl rfl rfl rfl (Nat.le_of_ble_eq_true rfl) [(wo, cO 8 [.ref wp, .ref wf, .ref wl, vi (nO + 1)]), (wp, cA g 8 (up OP nO a)), (wf, cA g 8 (up OF nO b)), (wl, cA g 8 (up OT nO c))] rfl dX8_add_37 ?_
  refine g_aload_n C 0 dX8_add_40 rfl ?_
  refine g_getf C k_X8 3 f_X8_21 0 rfl rfl (by decide) rfl rfl dX8_add_41 ?_
  refine g_iconst C dX8_add_44 ?_
  refine g_isub C dX8_add_45 ?_
  exact g_iretM C hR dX8_add_46 (by first | rfl | omega) rfl rfl

set_option maxHeartbeats 4000000 in
set_option maxRecDepth 100000 in
theorem c_X8_removeLast (l : Launch) (g : gD) (wo : Nat) (wp : Nat) (wf : Nat) (wl : Nat) (nO : Int) (hnO : 1 ≤ nO ∧ nO ≤ 8) : gMet l g yX8_removeLast cX8_removeLast 1 (some .int) 0 0 0 0 [.ref wo] [(wo, cO 8 [.ref wp, .ref wf, .ref wl, vi nO])] (gM (some (vi (nO - 1))) [(wo, cO 8 [.ref wp, .ref wf, .ref wl, vi (nO - 1)])]) := by
  refine gMet.of y_X8_removeLast.2.2.2.2.1 (Nat.le_of_ble_eq_true rfl) ?_
  intro x hlx C hR hnm
  subst hlx
  have C : gC g x RX8 cX8_removeLast 1 0 0 0 0 := C
  show gW g x [(wo, cO 8 [.ref wp, .ref wf, .ref wl, vi nO])] 0 0 [(0, .ref wo)] 0 []
  refine g_aload_n C 0 dX8_removeLast_0 rfl ?_
  refine g_dup C dX8_removeLast_1 rfl ?_
  refine g_getf C k_X8 3 f_X8_21 0 rfl rfl (by decide) rfl rfl dX8_removeLast_2 ?_
  refine g_iconst C dX8_removeLast_5 ?_
  refine g_isub C dX8_removeLast_6 ?_
  refine g_putf C k_X8 tyX8_ok nmX8 3 f_X8_21 0 rfl rfl (by decide) rfl rfl rfl rfl (Nat.le_of_ble_eq_true rfl) [(wo, cO 8 [.ref wp, .ref wf, .ref wl, vi (nO - 1)])] rfl dX8_removeLast_7 ?_
  refine g_aload_n C 0 dX8_removeLast_10 rfl ?_
  refine g_getf C k_X8 3 f_X8_21 0 rfl rfl (by decide) rfl rfl dX8_removeLast_11 ?_
  exact g_iretM C hR dX8_removeLast_14 rfl rfl rfl

/-- the units of a window of the book -/
def gro (LP LH LU : Int → Int) (nL : Int) (OP OF OT : Int → Int) (o : Int) : Int := sm (grd LP LH LU (OP o) (OF o) (OT o)) nL
/-- does the window k come ahead of the window o -/
def bef (OP OF : Int → Int) (o : Int) : Int → Int := fun k => if OF k < OF o ∨ (OF k = OF o ∧ OP k < OP o) then 1 else 0
def plc (OP OF : Int → Int) (n o : Int) : Int := sm (bef OP OF o) n

set_option maxHeartbeats 4000000 in
set_option maxRecDepth 100000 in
theorem c_X8_groundOf (l : Launch) (g : gD) (wo : Nat) (wp : Nat) (wf : Nat) (wl : Nat) (OP : Int → Int) (OF : Int → Int) (OT : Int → Int) (nO : Int) (lo : Nat) (lp : Nat) (lh : Nat) (lu : Nat) (LP : Int → Int) (LH : Int → Int) (LU : Int → Int) (nL : Int) (v : Int) (hOP : ∀ k, 0 ≤ OP k ∧ OP k ≤ 2) (hOF : ∀ k, 0 ≤ OF k ∧ OF k ≤ 2199) (hOT : ∀ k, 0 ≤ OT k ∧ OT k ≤ 2199) (hnO : 0 ≤ nO ∧ nO ≤ 8) (hLP : ∀ k, 0 ≤ LP k ∧ LP k ≤ 2) (hLH : ∀ k, 0 ≤ LH k ∧ LH k ≤ 2199) (hLU : ∀ k, 0 ≤ LU k ∧ LU k ≤ 99999) (hnL : 0 ≤ nL ∧ nL ≤ 40) (hv : 0 ≤ v ∧ v < 8) : gMet l g yX8_groundOf cX8_groundOf 3 (some .int) 1 0 0 25 [.ref wo, vi v, .ref lo] [(wo, cO 8 [.ref wp, .ref wf, .ref wl, vi nO]), (wp, cA g 8 OP), (wf, cA g 8 OF), (wl, cA g 8 OT), (lo, cO 2 [.ref lp, .ref lh, .ref lu, vi nL]), (lp, cA g 40 LP), (lh, cA g 40 LH), (lu, cA g 40 LU)] (gM (some (vi (gro LP LH LU nL OP OF OT v))) [(wo, cO 8 [.ref wp, .ref wf, .ref wl, vi nO]), (wp, cA g 8 OP), (wf, cA g 8 OF), (wl, cA g 8 OT), (lo, cO 2 [.ref lp, .ref lh, .ref lu, vi nL]), (lp, cA g 40 LP), (lh, cA g 40 LH), (lu, cA g 40 LU)]) := by
  refine gMet.of y_X8_groundOf.2.2.2.2.1 (Nat.le_of_ble_eq_true rfl) ?_
  intro x hlx C hR hnm
  subst hlx
  have C : gC g x RX8 cX8_groundOf 3 1 0 0 25 := C
  show gW g x [(wo, cO 8 [.ref wp, .ref wf, .ref wl, vi nO]), (wp, cA g 8 OP), (wf, cA g 8 OF), (wl, cA g 8 OT), (lo, cO 2 [.ref lp, .ref lh, .ref lu, vi nL]), (lp, cA g 40 LP), (lh, cA g 40 LH), (lu, cA g 40 LU)] 0 0 [(0, .ref wo), (1, vi v), (2, .ref lo)] 0 []
  refine g_aload_n C 2 dX8_groundOf_0 rfl ?_
  refine g_aload_n C 0 dX8_groundOf_1 rfl ?_
  refine g_getf C k_X8 0 f_X8_9 0 rfl rfl (by decide) rfl rfl dX8_groundOf_2 ?_
  refine g_iload_n C 1 dX8_groundOf_5 rfl ?_
  refine g_iald C 1 rfl (by omega) dX8_groundOf_6 ?_
  have r1_6 := hOP v
  refine g_aload_n C 0 dX8_groundOf_7 rfl ?_
  refine g_getf C k_X8 1 f_X8_15 0 rfl rfl (by decide) rfl rfl dX8_groundOf_8 ?_
  refine g_iload_n C 1 dX8_groundOf_11 rfl ?_
  refine g_iald C 2 rfl (by omega) dX8_groundOf_12 ?_
  have r2_12 := hOF v
  refine g_aload_n C 0 dX8_groundOf_13 rfl ?_
  refine g_getf C k_X8 2 f_X8_18 0 rfl rfl (by decide) rfl rfl dX8_groundOf_14 ?_
  refine g_iload_n C 1 dX8_groundOf_17 rfl ?_
  refine g_iald C 3 rfl (by omega) dX8_groundOf_18 ?_
  have r3_18 := hOT v
  refine g_callVp C [vi (OP v), vi (OF v), vi (OT v)] [] (c_X2_groundOf x.1.2.1 g lo lp lh lu LP LH LU nL (OP v) (OF v) (OT v) hLP hLH hLU hnL (by omega) (by omega) (by omega)) y_X2_groundOf l_X8_25 [4, 5, 6, 7] rfl (by decide) 4 rfl rfl rfl (Nat.le_of_ble_eq_true rfl) rfl (by decide) dX8_groundOf_19 ?_
  exact g_iretM C hR dX8_groundOf_22 (by first | rfl | omega) rfl rfl

set_option maxHeartbeats 4000000 in
set_option maxRecDepth 100000 in
theorem c_X8_placeOf (l : Launch) (g : gD) (wo : Nat) (wp : Nat) (wf : Nat) (wl : Nat) (OP : Int → Int) (OF : Int → Int) (OT : Int → Int) (nO : Int) (v : Int) (hOP : ∀ k, 0 ≤ OP k ∧ OP k ≤ 2) (hOF : ∀ k, 0 ≤ OF k ∧ OF k ≤ 2199) (hOT : ∀ k, 0 ≤ OT k ∧ OT k ≤ 2199) (hnO : 0 ≤ nO ∧ nO ≤ 8) (hv : 0 ≤ v ∧ v < 8) : gMet l g yX8_placeOf cX8_placeOf 5 (some .int) 0 0 0 0 [.ref wo, vi v] [(wo, cO 8 [.ref wp, .ref wf, .ref wl, vi nO]), (wp, cA g 8 OP), (wf, cA g 8 OF), (wl, cA g 8 OT)] (gM (some (vi (plc OP OF nO v))) [(wo, cO 8 [.ref wp, .ref wf, .ref wl, vi nO]), (wp, cA g 8 OP), (wf, cA g 8 OF), (wl, cA g 8 OT)]) := by
  refine gMet.of y_X8_placeOf.2.2.2.2.1 (Nat.le_of_ble_eq_true rfl) ?_
  intro x hlx C hR hnm
  subst hlx
  have C : gC g x RX8 cX8_placeOf 5 0 0 0 0 := C
  show gW g x [(wo, cO 8 [.ref wp, .ref wf, .ref wl, vi nO]), (wp, cA g 8 OP), (wf, cA g 8 OF), (wl, cA g 8 OT)] 0 0 [(0, .ref wo), (1, vi v)] 0 []
  refine g_iconst C dX8_placeOf_0 ?_
  refine g_istore_n C [(2, vi 0), (0, .ref wo), (1, vi v)] dX8_placeOf_1 (by decide) rfl ?_
  refine g_iconst C dX8_placeOf_2 ?_
  refine g_istore_n C [(3, vi 0), (2, vi 0), (0, .ref wo), (1, vi v)] dX8_placeOf_3 (by decide) rfl ?_
  have L4 : ∀ (f : Nat) (acc : Int) (i : Int), (0 ≤ i ∧ i ≤ nO ∧ acc = sm (bef OP OF v) i) → (nO - i).toNat < f → gW g x [(wo, cO 8 [.ref wp, .ref wf, .ref wl, vi nO]), (wp, cA g 8 OP), (wf, cA g 8 OF), (wl, cA g 8 OT)] 0 0 [(3, vi i), (2, vi acc), (0, .ref wo), (1, vi v)] 4 [] := by
    intro f
    induction f with
    | zero => intro acc i hI4 hf; exact absurd hf (Nat.not_lt_zero _)
    | succ f ih4 =>
      intro acc i hI4 hf4
      refine g_iload_n C 0 dX8_placeOf_4 rfl ?_
      refine g_aload_n C 2 dX8_placeOf_5 rfl ?_
      refine g_getf C k_X8 3 f_X8_21 0 rfl rfl (by decide) rfl rfl dX8_placeOf_6 ?_
      refine g_icmp_ge C 78 dX8_placeOf_9 (by decide) (by omega) (by omega) (fun c9 => ?_) (fun c9 => ?_)
      · refine g_iload_n C 1 dX8_placeOf_78 rfl ?_
        exact g_iretM C hR dX8_placeOf_79 (by rw [hI4.2.2, show i = nO by omega] <;> rfl) rfl rfl
      have J47 : ∀ (w : Int), (w = if OF i = OF v ∧ OP i < OP v then 1 else 0) → gW g x [(wo, cO 8 [.ref wp, .ref wf, .ref wl, vi nO]), (wp, cA g 8 OP), (wf, cA g 8 OF), (wl, cA g 8 OT)] 0 0 [(3, vi i), (2, vi acc), (0, .ref wo), (1, vi v)] 47 [vi w] := by
        intro w hJ47
        refine g_istore C [(4, vi w), (3, vi i), (2, vi acc), (0, .ref wo), (1, vi v)] dX8_placeOf_47 (by decide) rfl ?_
        refine g_aload_n C 3 dX8_placeOf_49 rfl ?_
        refine g_getf C k_X8 1 f_X8_15 0 rfl rfl (by decide) rfl rfl dX8_placeOf_50 ?_
        refine g_iload_n C 1 dX8_placeOf_53 rfl ?_
        refine g_iald C 2 rfl (by omega) dX8_placeOf_54 ?_
        have r1_54 := hOF i
        refine g_aload_n C 3 dX8_placeOf_55 rfl ?_
        refine g_getf C k_X8 1 f_X8_15 0 rfl rfl (by decide) rfl rfl dX8_placeOf_56 ?_
        refine g_iload_n C 4 dX8_placeOf_59 rfl ?_
        refine g_iald C 2 rfl (by omega) dX8_placeOf_60 ?_
        have r2_60 := hOF v
        refine g_icmp_lt C 69 dX8_placeOf_61 (by decide) (by omega) (by omega) (fun c61 => ?_) (fun c61 => ?_)
        · refine g_iinc C 2 [(2, vi (acc + 1)), (4, vi w), (3, vi i), (0, .ref wo), (1, vi v)] dX8_placeOf_69 rfl (by decide) rfl ?_
          refine g_iinc C 2 [(3, vi (i + 1)), (2, vi (acc + 1)), (4, vi w), (0, .ref wo), (1, vi v)] dX8_placeOf_72 rfl (by decide) rfl ?_
          refine g_goto C 4 dX8_placeOf_75 (by decide) ?_
          refine g_lv [(3, vi (i + 1)), (2, vi (acc + 1)), (0, .ref wo), (1, vi v)] [0, 1, 3, 4] rfl ?_
          exact ih4 (acc + 1) (i + 1) ⟨by omega, by omega, by rw [sm_s _ (by omega), ← hI4.2.2]; simp only [bef]; omega⟩ (by omega)
        refine g_iload C 0 dX8_placeOf_64 rfl ?_
        refine g_if_eq C 72 dX8_placeOf_66 (by decide) (by omega) (fun c66 => ?_) (fun c66 => ?_)
        · refine g_iinc C 1 [(3, vi (i + 1)), (4, vi w), (2, vi acc), (0, .ref wo), (1, vi v)] dX8_placeOf_72 rfl (by decide) rfl ?_
          refine g_goto C 4 dX8_placeOf_75 (by decide) ?_
          refine g_lv [(3, vi (i + 1)), (2, vi acc), (0, .ref wo), (1, vi v)] [0, 2, 3, 4] rfl ?_
          exact ih4 acc (i + 1) ⟨by omega, by omega, by rw [sm_s _ (by omega), ← hI4.2.2]; simp only [bef]; omega⟩ (by omega)
        refine g_iinc C 2 [(2, vi (acc + 1)), (4, vi w), (3, vi i), (0, .ref wo), (1, vi v)] dX8_placeOf_69 rfl (by decide) rfl ?_
        refine g_iinc C 2 [(3, vi (i + 1)), (2, vi (acc + 1)), (4, vi w), (0, .ref wo), (1, vi v)] dX8_placeOf_72 rfl (by decide) rfl ?_
        refine g_goto C 4 dX8_placeOf_75 (by decide) ?_
        refine g_lv [(3, vi (i + 1)), (2, vi (acc + 1)), (0, .ref wo), (1, vi v)] [0, 1, 3, 4] rfl ?_
        exact ih4 (acc + 1) (i + 1) ⟨by omega, by omega, by rw [sm_s _ (by omega), ← hI4.2.2]; simp only [bef]; omega⟩ (by omega)
      refine g_aload_n C 2 dX8_placeOf_12 rfl ?_
      refine g_getf C k_X8 1 f_X8_15 0 rfl rfl (by decide) rfl rfl dX8_placeOf_13 ?_
      refine g_iload_n C 0 dX8_placeOf_16 rfl ?_
      refine g_iald C 2 rfl (by omega) dX8_placeOf_17 ?_
      have r3_17 := hOF i
      refine g_aload_n C 2 dX8_placeOf_18 rfl ?_
      refine g_getf C k_X8 1 f_X8_15 0 rfl rfl (by decide) rfl rfl dX8_placeOf_19 ?_
      refine g_iload_n C 3 dX8_placeOf_22 rfl ?_
      refine g_iald C 2 rfl (by omega) dX8_placeOf_23 ?_
      have r4_23 := hOF v
      refine g_icmp_ne C 46 dX8_placeOf_24 (by decide) (by omega) (by omega) (fun c24 => ?_) (fun c24 => ?_)
      · refine g_iconst C dX8_placeOf_46 ?_
        exact J47 0 (by omega)
      refine g_aload_n C 2 dX8_placeOf_27 rfl ?_
      refine g_getf C k_X8 0 f_X8_9 0 rfl rfl (by decide) rfl rfl dX8_placeOf_28 ?_
      refine g_iload_n C 0 dX8_placeOf_31 rfl ?_
      refine g_iald C 1 rfl (by omega) dX8_placeOf_32 ?_
      have r5_32 := hOP i
      refine g_aload_n C 2 dX8_placeOf_33 rfl ?_
      refine g_getf C k_X8 0 f_X8_9 0 rfl rfl (by decide) rfl rfl dX8_placeOf_34 ?_
      refine g_iload_n C 3 dX8_placeOf_37 rfl ?_
      refine g_iald C 1 rfl (by omega) dX8_placeOf_38 ?_
      have r6_38 := hOP v
      refine g_icmp_ge C 46 dX8_placeOf_39 (by decide) (by omega) (by omega) (fun c39 => ?_) (fun c39 => ?_)
      · refine g_iconst C dX8_placeOf_46 ?_
        exact J47 0 (by omega)
      refine g_iconst C dX8_placeOf_42 ?_
      refine g_goto C 47 dX8_placeOf_43 (by decide) ?_
      exact J47 1 (by omega)
  exact L4 _ 0 0 ⟨by omega, by omega, rfl⟩ (Nat.lt_succ_self _)

set_option maxHeartbeats 4000000 in
set_option maxRecDepth 100000 in
theorem c_X7_has (l : Launch) (g : gD) (to : Nat) (tf : Nat) (td : Nat) (tS : Nat) (tr : Nat) (tp : Nat) (tt : Nat) (nY : Int) (Q : Int) (v : Int) (hnY : 0 ≤ nY ∧ nY ≤ 5) (hv : -2147483648 ≤ v ∧ v < 2147483648) : gMet l g yX7_has cX7_has 2 (some .boolean) 0 0 0 0 [.ref to, vi v] [(to, cO 7 [.ref tf, .ref td, .ref tS, .ref tr, .ref tp, .ref tt, vi nY, vi Q])] (gM (some (vi (if 0 ≤ v ∧ v < nY then 1 else 0))) [(to, cO 7 [.ref tf, .ref td, .ref tS, .ref tr, .ref tp, .ref tt, vi nY, vi Q])]) := by
  refine gMet.of y_X7_has.2.2.2.2.1 (Nat.le_of_ble_eq_true rfl) ?_
  intro x hlx C hR hnm
  subst hlx
  have C : gC g x RX7 cX7_has 2 0 0 0 0 := C
  show gW g x [(to, cO 7 [.ref tf, .ref td, .ref tS, .ref tr, .ref tp, .ref tt, vi nY, vi Q])] 0 0 [(0, .ref to), (1, vi v)] 0 []
  refine g_iload_n C 1 dX7_has_0 rfl ?_
  refine g_if_lt C 16 dX7_has_1 (by decide) (by omega) (fun c1 => ?_) (fun c1 => ?_)
  · refine g_iconst C dX7_has_16 ?_
    exact g_zretM C hR dX7_has_17 (by omega) (by first | rfl | omega) rfl rfl
  refine g_iload_n C 1 dX7_has_4 rfl ?_
  refine g_aload_n C 0 dX7_has_5 rfl ?_
  refine g_getf C k_X7 6 f_X7_30 0 rfl rfl (by decide) rfl rfl dX7_has_6 ?_
  refine g_icmp_ge C 16 dX7_has_9 (by decide) (by omega) (by omega) (fun c9 => ?_) (fun c9 => ?_)
  · refine g_iconst C dX7_has_16 ?_
    exact g_zretM C hR dX7_has_17 (by omega) (by first | rfl | omega) rfl rfl
  refine g_iconst C dX7_has_12 ?_
  refine g_goto C 17 dX7_has_13 (by decide) ?_
  exact g_zretM C hR dX7_has_17 (by omega) (by first | rfl | omega) rfl rfl

set_option maxHeartbeats 4000000 in
set_option maxRecDepth 100000 in
theorem c_X7_isFull (l : Launch) (g : gD) (to : Nat) (tf : Nat) (td : Nat) (tS : Nat) (tr : Nat) (tp : Nat) (tt : Nat) (nY : Int) (Q : Int) (hnY : 0 ≤ nY ∧ nY ≤ 5) : gMet l g yX7_isFull cX7_isFull 1 (some .boolean) 0 0 0 0 [.ref to] [(to, cO 7 [.ref tf, .ref td, .ref tS, .ref tr, .ref tp, .ref tt, vi nY, vi Q])] (gM (some (vi (if 5 ≤ nY then 1 else 0))) [(to, cO 7 [.ref tf, .ref td, .ref tS, .ref tr, .ref tp, .ref tt, vi nY, vi Q])]) := by
  refine gMet.of y_X7_isFull.2.2.2.2.1 (Nat.le_of_ble_eq_true rfl) ?_
  intro x hlx C hR hnm
  subst hlx
  have C : gC g x RX7 cX7_isFull 1 0 0 0 0 := C
  show gW g x [(to, cO 7 [.ref tf, .ref td, .ref tS, .ref tr, .ref tp, .ref tt, vi nY, vi Q])] 0 0 [(0, .ref to)] 0 []
  refine g_aload_n C 0 dX7_isFull_0 rfl ?_
  refine g_getf C k_X7 6 f_X7_30 0 rfl rfl (by decide) rfl rfl dX7_isFull_1 ?_
  refine g_iconst C dX7_isFull_4 ?_
  refine g_icmp_lt C 12 dX7_isFull_5 (by decide) (by omega) (by omega) (fun c5 => ?_) (fun c5 => ?_)
  · refine g_iconst C dX7_isFull_12 ?_
    exact g_zretM C hR dX7_isFull_13 (by omega) (by first | rfl | omega) rfl rfl
  refine g_iconst C dX7_isFull_8 ?_
  refine g_goto C 13 dX7_isFull_9 (by decide) ?_
  exact g_zretM C hR dX7_isFull_13 (by omega) (by first | rfl | omega) rfl rfl

set_option maxHeartbeats 4000000 in
set_option maxRecDepth 100000 in
theorem c_X7_changeQuota (l : Launch) (g : gD) (to : Nat) (tf : Nat) (td : Nat) (tS : Nat) (tr : Nat) (tp : Nat) (tt : Nat) (nY : Int) (Q : Int) (v : Int)  : gMet l g yX7_changeQuota cX7_changeQuota 3 (some .int) 0 0 0 0 [.ref to, vi v] [(to, cO 7 [.ref tf, .ref td, .ref tS, .ref tr, .ref tp, .ref tt, vi nY, vi Q])] (gM (some (vi Q)) [(to, cO 7 [.ref tf, .ref td, .ref tS, .ref tr, .ref tp, .ref tt, vi nY, vi v])]) := by
  refine gMet.of y_X7_changeQuota.2.2.2.2.1 (Nat.le_of_ble_eq_true rfl) ?_
  intro x hlx C hR hnm
  subst hlx
  have C : gC g x RX7 cX7_changeQuota 3 0 0 0 0 := C
  show gW g x [(to, cO 7 [.ref tf, .ref td, .ref tS, .ref tr, .ref tp, .ref tt, vi nY, vi Q])] 0 0 [(0, .ref to), (1, vi v)] 0 []
  refine g_aload_n C 0 dX7_changeQuota_0 rfl ?_
  refine g_getf C k_X7 7 f_X7_34 0 rfl rfl (by decide) rfl rfl dX7_changeQuota_1 ?_
  refine g_istore_n C [(2, vi Q), (0, .ref to), (1, vi v)] dX7_changeQuota_4 (by decide) rfl ?_
  refine g_aload_n C 1 dX7_changeQuota_5 rfl ?_
  refine g_iload_n C 2 dX7_changeQuota_6 rfl ?_
  refine g_putf C k_X7 tyX7_ok nmX7 7 f_X7_34 0 rfl rfl (by decide) rfl rfl rfl rfl (Nat.le_of_ble_eq_true rfl) [(to, cO 7 [.ref tf, .ref td, .ref tS, .ref tr, .ref tp, .ref tt, vi nY, vi v])] rfl dX7_changeQuota_7 ?_
  refine g_iload_n C 0 dX7_changeQuota_10 rfl ?_
  exact g_iretM C hR dX7_changeQuota_11 rfl rfl rfl

set_option maxHeartbeats 4000000 in
set_option maxRecDepth 100000 in
theorem c_X7_add (l : Launch) (g : gD) (to : Nat) (tf : Nat) (td : Nat) (tS : Nat) (tr : Nat) (tp : Nat) (tt : Nat) (FL : Int → Int) (DP : Int → Int) (SH : Int → Int) (RE : Int → Int) (PR : Int → Int) (RA : Int → Int) (nY : Int) (Q : Int) (a1 : Int) (a2 : Int) (a3 : Int) (a4 : Int) (a5 : Int) (a6 : Int) (hnY : 0 ≤ nY ∧ nY < 5) : gMet l g yX7_add cX7_add 7 (some .int) 0 0 0 0 [.ref to, vi a1, vi a2, vi a3, vi a4, vi a5, vi a6] [(to, cO 7 [.ref tf, .ref td, .ref tS, .ref tr, .ref tp, .ref tt, vi nY, vi Q]), (tf, cA g 5 FL), (td, cA g 5 DP), (tS, cA g 5 SH), (tr, cA g 5 RE), (tp, cA g 5 PR), (tt, cA g 5 RA)] (gM (some (vi nY)) [(to, cO 7 [.ref tf, .ref td, .ref tS, .ref tr, .ref tp, .ref tt, vi (nY + 1), vi Q]), (tf, cA g 5 (up FL nY a1)), (td, cA g 5 (up DP nY a2)), (tS, cA g 5 (up SH nY a3)), (tr, cA g 5 (up RE nY a4)), (tp, cA g 5 (up PR nY a5)), (tt, cA g 5 (up RA nY a6))]) := by
  refine gMet.of y_X7_add.2.2.2.2.1 (Nat.le_of_ble_eq_true rfl) ?_
  intro x hlx C hR hnm
  subst hlx
  have C : gC g x RX7 cX7_add 7 0 0 0 0 := C
  show gW g x [(to, cO 7 [.ref tf, .ref td, .ref tS, .ref tr, .ref tp, .ref tt, vi nY, vi Q]), (tf, cA g 5 FL), (td, cA g 5 DP), (tS, cA g 5 SH), (tr, cA g 5 RE), (tp, cA g 5 PR), (tt, cA g 5 RA)] 0 0 [(0, .ref to), (1, vi a1), (2, vi a2), (3, vi a3), (4, vi a4), (5, vi a5), (6, vi a6)] 0 []
  refine g_aload_n C 0 dX7_add_0 rfl ?_
  refine g_getf C k_X7 0 f_X7_9 0 rfl rfl (by decide) rfl rfl dX7_add_1 ?_
  refine g_aload_n C 0 dX7_add_4 rfl ?_
  refine g_getf C k_X7 6 f_X7_30 0 rfl rfl (by decide) rfl rfl dX7_add_5 ?_
  refine g_iload_n C 1 dX7_add_8 rfl ?_
  refine g_iast C 1 rfl (by omega) [(to, cO 7 [.ref tf, .ref td, .ref tS, .ref tr, .ref tp, .ref tt, vi nY, vi Q]), (tf, cA g 5 (up FL nY a1)), (td, cA g 5 DP), (tS, cA g 5 SH), (tr, cA g 5 RE), (tp, cA g 5 PR), (tt, cA g 5 RA)] rfl dX7_add_9 ?_
  refine g_aload_n C 0 dX7_add_10 rfl ?_
  refine g_getf C k_X7 1 f_X7_15 0 rfl rfl (by decide) rfl rfl dX7_add_11 ?_
  refine g_aload_n C 0 dX7_add_14 rfl ?_
  refine g_getf C k_X7 6 f_X7_30 0 rfl rfl (by decide) rfl rfl dX7_add_15 ?_
  refine g_iload_n C 2 dX7_add_18 rfl ?_
  refine g_iast C 2 rfl (by omega) [(to, cO 7 [.ref tf, .ref td, .ref tS, .ref tr, .ref tp, .ref tt, vi nY, vi Q]), (tf, cA g 5 (up FL nY a1)), (td, cA g 5 (up DP nY a2)), (tS, cA g 5 SH), (tr, cA g 5 RE), (tp, cA g 5 PR), (tt, cA g 5 RA)] rfl dX7_add_19 ?_
  refine g_aload_n C 0 dX7_add_20 rfl ?_
  refine g_getf C k_X7 2 f_X7_18 0 rfl rfl (by decide) rfl rfl dX7_add_21 ?_
  refine g_aload_n C 0 dX7_add_24 rfl ?_
  refine g_getf C k_X7 6 f_X7_30 0 rfl rfl (by decide) rfl rfl dX7_add_25 ?_
  refine g_iload_n C 3 dX7_add_28 rfl ?_
  refine g_iast C 3 rfl (by omega) [(to, cO 7 [.ref tf, .ref td, .ref tS, .ref tr, .ref tp, .ref tt, vi nY, vi Q]), (tf, cA g 5 (up FL nY a1)), (td, cA g 5 (up DP nY a2)), (tS, cA g 5 (up SH nY a3)), (tr, cA g 5 RE), (tp, cA g 5 PR), (tt, cA g 5 RA)] rfl dX7_add_29 ?_
  refine g_aload_n C 0 dX7_add_30 rfl ?_
  refine g_getf C k_X7 3 f_X7_21 0 rfl rfl (by decide) rfl rfl dX7_add_31 ?_
  refine g_aload_n C 0 dX7_add_34 rfl ?_
  refine g_getf C k_X7 6 f_X7_30 0 rfl rfl (by decide) rfl rfl dX7_add_35 ?_
  refine g_iload C 4 dX7_add_38 rfl ?_
  refine g_iast C 4 rfl (by omega) [(to, cO 7 [.ref tf, .ref td, .ref tS, .ref tr, .ref tp, .ref tt, vi nY, vi Q]), (tf, cA g 5 (up FL nY a1)), (td, cA g 5 (up DP nY a2)), (tS, cA g 5 (up SH nY a3)), (tr, cA g 5 (up RE nY a4)), (tp, cA g 5 PR), (tt, cA g 5 RA)] rfl dX7_add_40 ?_
  refine g_aload_n C 0 dX7_add_41 rfl ?_
  refine g_getf C k_X7 4 f_X7_24 0 rfl rfl (by decide) rfl rfl dX7_add_42 ?_
  refine g_aload_n C 0 dX7_add_45 rfl ?_
  refine g_getf C k_X7 6 f_X7_30 0 rfl rfl (by decide) rfl rfl dX7_add_46 ?_
  refine g_iload C 5 dX7_add_49 rfl ?_
  refine g_iast C 5 rfl (by omega) [(to, cO 7 [.ref tf, .ref td, .ref tS, .ref tr, .ref tp, .ref tt, vi nY, vi Q]), (tf, cA g 5 (up FL nY a1)), (td, cA g 5 (up DP nY a2)), (tS, cA g 5 (up SH nY a3)), (tr, cA g 5 (up RE nY a4)), (tp, cA g 5 (up PR nY a5)), (tt, cA g 5 RA)] rfl dX7_add_51 ?_
  refine g_aload_n C 0 dX7_add_52 rfl ?_
  refine g_getf C k_X7 5 f_X7_27 0 rfl rfl (by decide) rfl rfl dX7_add_53 ?_
  refine g_aload_n C 0 dX7_add_56 rfl ?_
  refine g_getf C k_X7 6 f_X7_30 0 rfl rfl (by decide) rfl rfl dX7_add_57 ?_
  refine g_iload C 6 dX7_add_60 rfl ?_
  refine g_iast C 6 rfl (by omega) [(to, cO 7 [.ref tf, .ref td, .ref tS, .ref tr, .ref tp, .ref tt, vi nY, vi Q]), (tf, cA g 5 (up FL nY a1)), (td, cA g 5 (up DP nY a2)), (tS, cA g 5 (up SH nY a3)), (tr, cA g 5 (up RE nY a4)), (tp, cA g 5 (up PR nY a5)), (tt, cA g 5 (up RA nY a6))] rfl dX7_add_62 ?_
  refine g_aload_n C 0 dX7_add_63 rfl ?_
  refine g_dup C dX7_add_64 rfl ?_
  refine g_getf C k_X7 6 f_X7_30 0 rfl rfl (by decide) rfl rfl dX7_add_65 ?_
  refine g_iconst C dX7_add_68 ?_
  refine g_iadd C dX7_add_69 ?_
  refine g_putf C k_X7 tyX7_ok nmX7 6 f_X7_30 0 rfl rfl (by decide) rfl rfl rfl rfl (Nat.le_of_ble_eq_true rfl) [(to, cO 7 [.ref tf, .ref td, .ref tS, .ref tr, .ref tp, .ref tt, vi (nY + 1), vi Q]), (tf, cA g 5 (up FL nY a1)), (td, cA g 5 (up DP nY a2)), (tS, cA g 5 (up SH nY a3)), (tr, cA g 5 (up RE nY a4)), (tp, cA g 5 (up PR nY a5)), (tt, cA g 5 (up RA nY a6))] rfl dX7_add_70 ?_
  refine g_aload_n C 0 dX7_add_73 rfl ?_
  refine g_getf C k_X7 6 f_X7_30 0 rfl rfl (by decide) rfl rfl dX7_add_74 ?_
  refine g_iconst C dX7_add_77 ?_
  refine g_isub C dX7_add_78 ?_
  exact g_iretM C hR dX7_add_79 (by first | rfl | omega) rfl rfl

theorem mul_rng {a b A B : Int} (ha : 0 ≤ a ∧ a ≤ A) (hb : 0 ≤ b ∧ b ≤ B) : 0 ≤ a * b ∧ a * b ≤ A * B := ⟨Int.mul_nonneg ha.1 hb.1, Int.mul_le_mul ha.2 hb.2 hb.1 (Int.le_trans ha.1 ha.2)⟩
def qto (Q v : Int) : Int := Q * v / 100
def fhit (FL DP : Int → Int) (y v : Int) : Int := if v - FL y ≤ 0 then 0 else if v - FL y < DP y then v - FL y else DP y
def pay (SH : Int → Int) (y h : Int) : Int := SH y * h / 100
def cap (DP RE : Int → Int) (y : Int) : Int := DP y + DP y * RE y
def chg (DP PR RA : Int → Int) (y w : Int) : Int := PR y * w * RA y / (100 * DP y)
def fresh (FL DP SH : Int → Int) (Q y v : Int) : Int := pay SH y (fhit FL DP y (v - qto Q v))
theorem qto_r {Q v V : Int} (hQ : 0 ≤ Q ∧ Q ≤ 90) (hv : 0 ≤ v ∧ v ≤ V) : 0 ≤ qto Q v ∧ qto Q v ≤ v := by
  have h := mul_rng hQ (show 0 ≤ v ∧ v ≤ v by omega)
  unfold qto; omega
theorem fhit_r {FL DP : Int → Int} (hDP : ∀ k, 0 ≤ DP k ∧ DP k ≤ 999999) (y v : Int) : 0 ≤ fhit FL DP y v ∧ fhit FL DP y v ≤ DP y := by
  have := hDP y
  unfold fhit; omega
theorem pay_r {SH : Int → Int} (hSH : ∀ k, 0 ≤ SH k ∧ SH k ≤ 100) (y : Int) {h H : Int} (hh : 0 ≤ h ∧ h ≤ H) : 0 ≤ pay SH y h ∧ pay SH y h ≤ h := by
  have := mul_rng (hSH y) (show 0 ≤ h ∧ h ≤ h by omega)
  unfold pay; omega
theorem fresh_r {FL DP SH : Int → Int} (hDP : ∀ k, 0 ≤ DP k ∧ DP k ≤ 999999) (hSH : ∀ k, 0 ≤ SH k ∧ SH k ≤ 100) (Q y v : Int) : 0 ≤ fresh FL DP SH Q y v ∧ fresh FL DP SH Q y v ≤ 999999 := by
  have h1 := fhit_r (FL := FL) hDP y (v - qto Q v)
  have h2 := hDP y
  have h3 := pay_r hSH y h1
  unfold fresh; omega

set_option maxHeartbeats 4000000 in
set_option maxRecDepth 100000 in
theorem c_X7_quotaOf (l : Launch) (g : gD) (to : Nat) (tf : Nat) (td : Nat) (tS : Nat) (tr : Nat) (tp : Nat) (tt : Nat) (nY : Int) (Q : Int) (v : Int) (hQ : 0 ≤ Q ∧ Q ≤ 90) (hv : 0 ≤ v ∧ v ≤ 3999960) : gMet l g yX7_quotaOf cX7_quotaOf 2 (some .int) 0 0 0 0 [.ref to, vi v] [(to, cO 7 [.ref tf, .ref td, .ref tS, .ref tr, .ref tp, .ref tt, vi nY, vi Q])] (gM (some (vi (qto Q v))) [(to, cO 7 [.ref tf, .ref td, .ref tS, .ref tr, .ref tp, .ref tt, vi nY, vi Q])]) := by
  refine gMet.of y_X7_quotaOf.2.2.2.2.1 (Nat.le_of_ble_eq_true rfl) ?_
  intro x hlx C hR hnm
  subst hlx
  have C : gC g x RX7 cX7_quotaOf 2 0 0 0 0 := C
  show gW g x [(to, cO 7 [.ref tf, .ref td, .ref tS, .ref tr, .ref tp, .ref tt, vi nY, vi Q])] 0 0 [(0, .ref to), (1, vi v)] 0 []
  refine g_aload_n C 0 dX7_quotaOf_0 rfl ?_
  refine g_getf C k_X7 7 f_X7_34 0 rfl rfl (by decide) rfl rfl dX7_quotaOf_1 ?_
  refine g_iload_n C 1 dX7_quotaOf_4 rfl ?_
  refine g_imul C dX7_quotaOf_5 ?_
  refine g_bipush C dX7_quotaOf_6 (by decide) ?_
  have h9 := mul_rng hQ hv
  refine g_idiv C dX7_quotaOf_8 (by omega) (by omega) ?_
  exact g_iretM C hR dX7_quotaOf_9 (by first | rfl | omega) rfl rfl

set_option maxHeartbeats 4000000 in
set_option maxRecDepth 100000 in
theorem c_X7_fullHit (l : Launch) (g : gD) (to : Nat) (tf : Nat) (td : Nat) (tS : Nat) (tr : Nat) (tp : Nat) (tt : Nat) (FL : Int → Int) (DP : Int → Int) (nY : Int) (Q : Int) (y : Int) (v : Int) (hFL : ∀ k, 0 ≤ FL k ∧ FL k ≤ 999999) (hDP : ∀ k, 0 ≤ DP k ∧ DP k ≤ 999999) (hy : 0 ≤ y ∧ y < 5) (hv : 0 ≤ v ∧ v ≤ 3999960) : gMet l g yX7_fullHit cX7_fullHit 4 (some .int) 0 0 0 0 [.ref to, vi y, vi v] [(to, cO 7 [.ref tf, .ref td, .ref tS, .ref tr, .ref tp, .ref tt, vi nY, vi Q]), (tf, cA g 5 FL), (td, cA g 5 DP)] (gM (some (vi (fhit FL DP y v))) [(to, cO 7 [.ref tf, .ref td, .ref tS, .ref tr, .ref tp, .ref tt, vi nY, vi Q]), (tf, cA g 5 FL), (td, cA g 5 DP)]) := by
  refine gMet.of y_X7_fullHit.2.2.2.2.1 (Nat.le_of_ble_eq_true rfl) ?_
  intro x hlx C hR hnm
  subst hlx
  have C : gC g x RX7 cX7_fullHit 4 0 0 0 0 := C
  show gW g x [(to, cO 7 [.ref tf, .ref td, .ref tS, .ref tr, .ref tp, .ref tt, vi nY, vi Q]), (tf, cA g 5 FL), (td, cA g 5 DP)] 0 0 [(0, .ref to), (1, vi y), (2, vi v)] 0 []
  refine g_iload_n C 2 dX7_fullHit_0 rfl ?_
  refine g_aload_n C 0 dX7_fullHit_1 rfl ?_
  refine g_getf C k_X7 0 f_X7_9 0 rfl rfl (by decide) rfl rfl dX7_fullHit_2 ?_
  refine g_iload_n C 1 dX7_fullHit_5 rfl ?_
  refine g_iald C 1 rfl (by omega) dX7_fullHit_6 ?_
  have r1_6 := hFL y
  refine g_isub C dX7_fullHit_7 ?_
  refine g_istore_n C [(3, vi (v - (FL y))), (0, .ref to), (1, vi y), (2, vi v)] dX7_fullHit_8 (by decide) rfl ?_
  refine g_iload_n C 0 dX7_fullHit_9 rfl ?_
  refine g_if_gt C 15 dX7_fullHit_10 (by decide) (by omega) (fun c10 => ?_) (fun c10 => ?_)
  · refine g_iload_n C 0 dX7_fullHit_15 rfl ?_
    refine g_aload_n C 1 dX7_fullHit_16 rfl ?_
    refine g_getf C k_X7 1 f_X7_15 0 rfl rfl (by decide) rfl rfl dX7_fullHit_17 ?_
    refine g_iload_n C 2 dX7_fullHit_20 rfl ?_
    refine g_iald C 2 rfl (by omega) dX7_fullHit_21 ?_
    have r2_21 := hDP y
    refine g_icmp_ge C 29 dX7_fullHit_22 (by decide) (by omega) (by omega) (fun c22 => ?_) (fun c22 => ?_)
    · refine g_aload_n C 1 dX7_fullHit_29 rfl ?_
      refine g_getf C k_X7 1 f_X7_15 0 rfl rfl (by decide) rfl rfl dX7_fullHit_30 ?_
      refine g_iload_n C 2 dX7_fullHit_33 rfl ?_
      refine g_iald C 2 rfl (by omega) dX7_fullHit_34 ?_
      have r3_34 := hDP y
      exact g_iretM C hR dX7_fullHit_35 (by unfold fhit; omega) rfl rfl
    refine g_iload_n C 0 dX7_fullHit_25 rfl ?_
    refine g_goto C 35 dX7_fullHit_26 (by decide) ?_
    exact g_iretM C hR dX7_fullHit_35 (by unfold fhit; omega) rfl rfl
  refine g_iconst C dX7_fullHit_13 ?_
  exact g_iretM C hR dX7_fullHit_14 (by unfold fhit; omega) rfl rfl

set_option maxHeartbeats 4000000 in
set_option maxRecDepth 100000 in
theorem c_X7_payFor (l : Launch) (g : gD) (to : Nat) (tf : Nat) (td : Nat) (tS : Nat) (tr : Nat) (tp : Nat) (tt : Nat) (SH : Int → Int) (nY : Int) (Q : Int) (y : Int) (v : Int) (hSH : ∀ k, 0 ≤ SH k ∧ SH k ≤ 100) (hy : 0 ≤ y ∧ y < 5) (hv : 0 ≤ v ∧ v ≤ 999999) : gMet l g yX7_payFor cX7_payFor 3 (some .int) 0 0 0 0 [.ref to, vi y, vi v] [(to, cO 7 [.ref tf, .ref td, .ref tS, .ref tr, .ref tp, .ref tt, vi nY, vi Q]), (tS, cA g 5 SH)] (gM (some (vi (pay SH y v))) [(to, cO 7 [.ref tf, .ref td, .ref tS, .ref tr, .ref tp, .ref tt, vi nY, vi Q]), (tS, cA g 5 SH)]) := by
  refine gMet.of y_X7_payFor.2.2.2.2.1 (Nat.le_of_ble_eq_true rfl) ?_
  intro x hlx C hR hnm
  subst hlx
  have C : gC g x RX7 cX7_payFor 3 0 0 0 0 := C
  show gW g x [(to, cO 7 [.ref tf, .ref td, .ref tS, .ref tr, .ref tp, .ref tt, vi nY, vi Q]), (tS, cA g 5 SH)] 0 0 [(0, .ref to), (1, vi y), (2, vi v)] 0 []
  refine g_aload_n C 0 dX7_payFor_0 rfl ?_
  refine g_getf C k_X7 2 f_X7_18 0 rfl rfl (by decide) rfl rfl dX7_payFor_1 ?_
  refine g_iload_n C 1 dX7_payFor_4 rfl ?_
  refine g_iald C 1 rfl (by omega) dX7_payFor_5 ?_
  have r1_5 := hSH y
  refine g_iload_n C 2 dX7_payFor_6 rfl ?_
  refine g_imul C dX7_payFor_7 ?_
  refine g_bipush C dX7_payFor_8 (by decide) ?_
  have h9 := mul_rng (hSH y) hv
  refine g_idiv C dX7_payFor_10 (by omega) (by omega) ?_
  exact g_iretM C hR dX7_payFor_11 (by first | rfl | omega) rfl rfl

set_option maxHeartbeats 4000000 in
set_option maxRecDepth 100000 in
theorem c_X7_restorable (l : Launch) (g : gD) (to : Nat) (tf : Nat) (td : Nat) (tS : Nat) (tr : Nat) (tp : Nat) (tt : Nat) (DP : Int → Int) (RE : Int → Int) (nY : Int) (Q : Int) (y : Int) (hy : 0 ≤ y ∧ y < 5) : gMet l g yX7_restorable cX7_restorable 2 (some .int) 0 0 0 0 [.ref to, vi y] [(to, cO 7 [.ref tf, .ref td, .ref tS, .ref tr, .ref tp, .ref tt, vi nY, vi Q]), (td, cA g 5 DP), (tr, cA g 5 RE)] (gM (some (vi (DP y * RE y))) [(to, cO 7 [.ref tf, .ref td, .ref tS, .ref tr, .ref tp, .ref tt, vi nY, vi Q]), (td, cA g 5 DP), (tr, cA g 5 RE)]) := by
  refine gMet.of y_X7_restorable.2.2.2.2.1 (Nat.le_of_ble_eq_true rfl) ?_
  intro x hlx C hR hnm
  subst hlx
  have C : gC g x RX7 cX7_restorable 2 0 0 0 0 := C
  show gW g x [(to, cO 7 [.ref tf, .ref td, .ref tS, .ref tr, .ref tp, .ref tt, vi nY, vi Q]), (td, cA g 5 DP), (tr, cA g 5 RE)] 0 0 [(0, .ref to), (1, vi y)] 0 []
  refine g_aload_n C 0 dX7_restorable_0 rfl ?_
  refine g_getf C k_X7 1 f_X7_15 0 rfl rfl (by decide) rfl rfl dX7_restorable_1 ?_
  refine g_iload_n C 1 dX7_restorable_4 rfl ?_
  refine g_iald C 1 rfl (by omega) dX7_restorable_5 ?_
  refine g_aload_n C 0 dX7_restorable_6 rfl ?_
  refine g_getf C k_X7 3 f_X7_21 0 rfl rfl (by decide) rfl rfl dX7_restorable_7 ?_
  refine g_iload_n C 1 dX7_restorable_10 rfl ?_
  refine g_iald C 2 rfl (by omega) dX7_restorable_11 ?_
  refine g_imul C dX7_restorable_12 ?_
  exact g_iretM C hR dX7_restorable_13 (by first | rfl | omega) rfl rfl

set_option maxHeartbeats 4000000 in
set_option maxRecDepth 100000 in
theorem c_X7_capacity (l : Launch) (g : gD) (to : Nat) (tf : Nat) (td : Nat) (tS : Nat) (tr : Nat) (tp : Nat) (tt : Nat) (DP : Int → Int) (RE : Int → Int) (nY : Int) (Q : Int) (y : Int) (hy : 0 ≤ y ∧ y < 5) : gMet l g yX7_capacity cX7_capacity 2 (some .int) 1 0 0 21 [.ref to, vi y] [(to, cO 7 [.ref tf, .ref td, .ref tS, .ref tr, .ref tp, .ref tt, vi nY, vi Q]), (td, cA g 5 DP), (tr, cA g 5 RE)] (gM (some (vi (cap DP RE y))) [(to, cO 7 [.ref tf, .ref td, .ref tS, .ref tr, .ref tp, .ref tt, vi nY, vi Q]), (td, cA g 5 DP), (tr, cA g 5 RE)]) := by
  refine gMet.of y_X7_capacity.2.2.2.2.1 (Nat.le_of_ble_eq_true rfl) ?_
  intro x hlx C hR hnm
  subst hlx
  have C : gC g x RX7 cX7_capacity 2 1 0 0 21 := C
  show gW g x [(to, cO 7 [.ref tf, .ref td, .ref tS, .ref tr, .ref tp, .ref tt, vi nY, vi Q]), (td, cA g 5 DP), (tr, cA g 5 RE)] 0 0 [(0, .ref to), (1, vi y)] 0 []
  refine g_aload_n C 0 dX7_capacity_0 rfl ?_
  refine g_getf C k_X7 1 f_X7_15 0 rfl rfl (by decide) rfl rfl dX7_capacity_1 ?_
  refine g_iload_n C 1 dX7_capacity_4 rfl ?_
  refine g_iald C 1 rfl (by omega) dX7_capacity_5 ?_
  refine g_aload_n C 0 dX7_capacity_6 rfl ?_
  refine g_iload_n C 1 dX7_capacity_7 rfl ?_
  refine g_callVp C [vi y] [vi (DP y)] (c_X7_restorable x.1.2.1 g to tf td tS tr tp tt DP RE nY Q y hy) y_X7_restorable l_X7_37 [0, 1, 2] rfl (by decide) 0 rfl rfl rfl (Nat.le_of_ble_eq_true rfl) rfl (by decide) dX7_capacity_8 ?_
  refine g_iadd C dX7_capacity_11 ?_
  exact g_iretM C hR dX7_capacity_12 (by first | rfl | omega) rfl rfl

set_option maxHeartbeats 4000000 in
set_option maxRecDepth 100000 in
theorem c_X7_chargeFor (l : Launch) (g : gD) (to : Nat) (tf : Nat) (td : Nat) (tS : Nat) (tr : Nat) (tp : Nat) (tt : Nat) (DP : Int → Int) (PR : Int → Int) (RA : Int → Int) (nY : Int) (Q : Int) (y : Int) (v : Int) (hDP : ∀ k, 0 ≤ DP k ∧ DP k ≤ 999999) (hPR : ∀ k, 0 ≤ PR k ∧ PR k ≤ 99999) (hRA : ∀ k, 0 ≤ RA k ∧ RA k ≤ 150) (hy : 0 ≤ y ∧ y < 5) (hd : 1 ≤ DP y) (hv : 0 ≤ v ∧ v ≤ 999999) : gMet l g yX7_chargeFor cX7_chargeFor 5 (some .int) 0 0 0 0 [.ref to, vi y, vi v] [(to, cO 7 [.ref tf, .ref td, .ref tS, .ref tr, .ref tp, .ref tt, vi nY, vi Q]), (td, cA g 5 DP), (tp, cA g 5 PR), (tt, cA g 5 RA)] (gM (some (vi (chg DP PR RA y v))) [(to, cO 7 [.ref tf, .ref td, .ref tS, .ref tr, .ref tp, .ref tt, vi nY, vi Q]), (td, cA g 5 DP), (tp, cA g 5 PR), (tt, cA g 5 RA)]) := by
  refine gMet.of y_X7_chargeFor.2.2.2.2.1 (Nat.le_of_ble_eq_true rfl) ?_
  intro x hlx C hR hnm
  subst hlx
  have C : gC g x RX7 cX7_chargeFor 5 0 0 0 0 := C
  show gW g x [(to, cO 7 [.ref tf, .ref td, .ref tS, .ref tr, .ref tp, .ref tt, vi nY, vi Q]), (td, cA g 5 DP), (tp, cA g 5 PR), (tt, cA g 5 RA)] 0 0 [(0, .ref to), (1, vi y), (2, vi v)] 0 []
  refine g_ldc2 C (100) n_X7_41 (by decide) dX7_chargeFor_0 ?_
  refine g_aload_n C 0 dX7_chargeFor_3 rfl ?_
  refine g_getf C k_X7 1 f_X7_15 0 rfl rfl (by decide) rfl rfl dX7_chargeFor_4 ?_
  refine g_iload_n C 1 dX7_chargeFor_7 rfl ?_
  refine g_iald C 1 rfl (by omega) dX7_chargeFor_8 ?_
  have r1_8 := hDP y
  refine g_i2l C dX7_chargeFor_9 (by omega) ?_
  refine g_lmul C dX7_chargeFor_10 ?_
  refine g_lstore_n C [(3, vl (100 * (DP y))), (0, .ref to), (1, vi y), (2, vi v)] dX7_chargeFor_11 (by decide) rfl ?_
  refine g_lload_n C 0 dX7_chargeFor_12 rfl ?_
  refine g_lconst C dX7_chargeFor_13 1 (by decide) ?_
  refine g_lcmp C dX7_chargeFor_14 (by omega) (by omega) ?_
  refine g_if_ge C 20 dX7_chargeFor_15 (by decide) (by omega) (fun c15 => ?_) (fun c15 => (absurd c15 (by omega)))
  refine g_aload_n C 1 dX7_chargeFor_20 rfl ?_
  refine g_getf C k_X7 4 f_X7_24 0 rfl rfl (by decide) rfl rfl dX7_chargeFor_21 ?_
  refine g_iload_n C 2 dX7_chargeFor_24 rfl ?_
  refine g_iald C 2 rfl (by omega) dX7_chargeFor_25 ?_
  have r2_25 := hPR y
  refine g_i2l C dX7_chargeFor_26 (by omega) ?_
  refine g_iload_n C 3 dX7_chargeFor_27 rfl ?_
  refine g_i2l C dX7_chargeFor_28 (by omega) ?_
  refine g_lmul C dX7_chargeFor_29 ?_
  refine g_aload_n C 1 dX7_chargeFor_30 rfl ?_
  refine g_getf C k_X7 5 f_X7_27 0 rfl rfl (by decide) rfl rfl dX7_chargeFor_31 ?_
  refine g_iload_n C 2 dX7_chargeFor_34 rfl ?_
  refine g_iald C 3 rfl (by omega) dX7_chargeFor_35 ?_
  have r3_35 := hRA y
  refine g_i2l C dX7_chargeFor_36 (by omega) ?_
  refine g_lmul C dX7_chargeFor_37 ?_
  refine g_lload_n C 0 dX7_chargeFor_38 rfl ?_
  have h8 := mul_rng (hPR y) hv
  have h9 := mul_rng h8 (hRA y)
  refine g_ldiv C dX7_chargeFor_39 (by omega) (by omega) ?_
  refine g_l2i C dX7_chargeFor_40 ?_
  exact g_iretM C hR dX7_chargeFor_41 (by first | rfl | omega) rfl rfl

set_option maxHeartbeats 4000000 in
set_option maxRecDepth 100000 in
theorem c_X7_freshPay (l : Launch) (g : gD) (to : Nat) (tf : Nat) (td : Nat) (tS : Nat) (tr : Nat) (tp : Nat) (tt : Nat) (FL : Int → Int) (DP : Int → Int) (SH : Int → Int) (nY : Int) (Q : Int) (y : Int) (v : Int) (hFL : ∀ k, 0 ≤ FL k ∧ FL k ≤ 999999) (hDP : ∀ k, 0 ≤ DP k ∧ DP k ≤ 999999) (hSH : ∀ k, 0 ≤ SH k ∧ SH k ≤ 100) (hQ : 0 ≤ Q ∧ Q ≤ 90) (hy : 0 ≤ y ∧ y < 5) (hv : 0 ≤ v ∧ v ≤ 3999960) : gMet l g yX7_freshPay cX7_freshPay 3 (some .int) 1 0 0 23 [.ref to, vi y, vi v] [(to, cO 7 [.ref tf, .ref td, .ref tS, .ref tr, .ref tp, .ref tt, vi nY, vi Q]), (tf, cA g 5 FL), (td, cA g 5 DP), (tS, cA g 5 SH)] (gM (some (vi (fresh FL DP SH Q y v))) [(to, cO 7 [.ref tf, .ref td, .ref tS, .ref tr, .ref tp, .ref tt, vi nY, vi Q]), (tf, cA g 5 FL), (td, cA g 5 DP), (tS, cA g 5 SH)]) := by
  refine gMet.of y_X7_freshPay.2.2.2.2.1 (Nat.le_of_ble_eq_true rfl) ?_
  intro x hlx C hR hnm
  subst hlx
  have C : gC g x RX7 cX7_freshPay 3 1 0 0 23 := C
  show gW g x [(to, cO 7 [.ref tf, .ref td, .ref tS, .ref tr, .ref tp, .ref tt, vi nY, vi Q]), (tf, cA g 5 FL), (td, cA g 5 DP), (tS, cA g 5 SH)] 0 0 [(0, .ref to), (1, vi y), (2, vi v)] 0 []
  refine g_aload_n C 0 dX7_freshPay_0 rfl ?_
  refine g_iload_n C 1 dX7_freshPay_1 rfl ?_
  refine g_aload_n C 0 dX7_freshPay_2 rfl ?_
  refine g_iload_n C 1 dX7_freshPay_3 rfl ?_
  refine g_iload_n C 2 dX7_freshPay_4 rfl ?_
  refine g_aload_n C 0 dX7_freshPay_5 rfl ?_
  refine g_iload_n C 2 dX7_freshPay_6 rfl ?_
  refine g_callVp C [vi v] [vi v, vi y, .ref to, vi y, .ref to] (c_X7_quotaOf x.1.2.1 g to tf td tS tr tp tt nY Q v hQ hv) y_X7_quotaOf l_X7_43 [0] rfl (by decide) 0 rfl rfl rfl (Nat.le_of_ble_eq_true rfl) rfl (by decide) dX7_freshPay_7 ?_
  have h8 := qto_r hQ hv
  refine g_isub C dX7_freshPay_10 ?_
  refine g_callVp C [vi y, vi (v - (qto Q v))] [vi y, .ref to] (c_X7_fullHit x.1.2.1 g to tf td tS tr tp tt FL DP nY Q y (v - (qto Q v)) hFL hDP hy (by omega)) y_X7_fullHit l_X7_46 [0, 1, 2] rfl (by decide) 0 rfl rfl rfl (Nat.le_of_ble_eq_true rfl) rfl (by decide) dX7_freshPay_11 ?_
  have h9 := fhit_r (FL := FL) hDP y (v - qto Q v)
  have h7 := hDP y
  refine g_callVp C [vi y, vi (fhit FL DP y (v - (qto Q v)))] [] (c_X7_payFor x.1.2.1 g to tf td tS tr tp tt SH nY Q y (fhit FL DP y (v - (qto Q v))) hSH hy (by omega)) y_X7_payFor l_X7_50 [0, 3] rfl (by decide) 0 rfl rfl rfl (Nat.le_of_ble_eq_true rfl) rfl (by decide) dX7_freshPay_14 ?_
  exact g_iretM C hR dX7_freshPay_17 (by first | rfl | omega) rfl rfl

set_option maxHeartbeats 4000000 in
set_option maxRecDepth 100000 in
theorem c_X7_freshPayOfAll (l : Launch) (g : gD) (to : Nat) (tf : Nat) (td : Nat) (tS : Nat) (tr : Nat) (tp : Nat) (tt : Nat) (FL : Int → Int) (DP : Int → Int) (SH : Int → Int) (nY : Int) (Q : Int) (v : Int) (hFL : ∀ k, 0 ≤ FL k ∧ FL k ≤ 999999) (hDP : ∀ k, 0 ≤ DP k ∧ DP k ≤ 999999) (hSH : ∀ k, 0 ≤ SH k ∧ SH k ≤ 100) (hnY : 0 ≤ nY ∧ nY ≤ 5) (hQ : 0 ≤ Q ∧ Q ≤ 90) (hv : 0 ≤ v ∧ v ≤ 3999960) : gMet l g yX7_freshPayOfAll cX7_freshPayOfAll 4 (some .int) 2 0 0 45 [.ref to, vi v] [(to, cO 7 [.ref tf, .ref td, .ref tS, .ref tr, .ref tp, .ref tt, vi nY, vi Q]), (tf, cA g 5 FL), (td, cA g 5 DP), (tS, cA g 5 SH)] (gM (some (vi (sm (fun y => fresh FL DP SH Q y v) nY))) [(to, cO 7 [.ref tf, .ref td, .ref tS, .ref tr, .ref tp, .ref tt, vi nY, vi Q]), (tf, cA g 5 FL), (td, cA g 5 DP), (tS, cA g 5 SH)]) := by
  refine gMet.of y_X7_freshPayOfAll.2.2.2.2.1 (Nat.le_of_ble_eq_true rfl) ?_
  intro x hlx C hR hnm
  subst hlx
  have C : gC g x RX7 cX7_freshPayOfAll 4 2 0 0 45 := C
  show gW g x [(to, cO 7 [.ref tf, .ref td, .ref tS, .ref tr, .ref tp, .ref tt, vi nY, vi Q]), (tf, cA g 5 FL), (td, cA g 5 DP), (tS, cA g 5 SH)] 0 0 [(0, .ref to), (1, vi v)] 0 []
  refine g_iconst C dX7_freshPayOfAll_0 ?_
  refine g_istore_n C [(2, vi 0), (0, .ref to), (1, vi v)] dX7_freshPayOfAll_1 (by decide) rfl ?_
  refine g_iconst C dX7_freshPayOfAll_2 ?_
  refine g_istore_n C [(3, vi 0), (2, vi 0), (0, .ref to), (1, vi v)] dX7_freshPayOfAll_3 (by decide) rfl ?_
  have L4 : ∀ (f : Nat) (acc : Int) (i : Int), (0 ≤ i ∧ i ≤ nY ∧ acc = sm (fun y => fresh FL DP SH Q y v) i) → (nY - i).toNat < f → gW g x [(to, cO 7 [.ref tf, .ref td, .ref tS, .ref tr, .ref tp, .ref tt, vi nY, vi Q]), (tf, cA g 5 FL), (td, cA g 5 DP), (tS, cA g 5 SH)] 0 0 [(3, vi i), (2, vi acc), (0, .ref to), (1, vi v)] 4 [] := by
    intro f
    induction f with
    | zero => intro acc i hI4 hf; exact absurd hf (Nat.not_lt_zero _)
    | succ f ih4 =>
      intro acc i hI4 hf4
      refine g_iload_n C 0 dX7_freshPayOfAll_4 rfl ?_
      refine g_aload_n C 2 dX7_freshPayOfAll_5 rfl ?_
      refine g_getf C k_X7 6 f_X7_30 0 rfl rfl (by decide) rfl rfl dX7_freshPayOfAll_6 ?_
      refine g_icmp_ge C 27 dX7_freshPayOfAll_9 (by decide) (by omega) (by omega) (fun c9 => ?_) (fun c9 => ?_)
      · refine g_iload_n C 1 dX7_freshPayOfAll_27 rfl ?_
        exact g_iretM C hR dX7_freshPayOfAll_28 (by rw [hI4.2.2, show i = nY by omega] <;> rfl) rfl rfl
      refine g_iload_n C 1 dX7_freshPayOfAll_12 rfl ?_
      refine g_aload_n C 2 dX7_freshPayOfAll_13 rfl ?_
      refine g_iload_n C 0 dX7_freshPayOfAll_14 rfl ?_
      refine g_iload_n C 3 dX7_freshPayOfAll_15 rfl ?_
      refine g_callVp C [vi i, vi v] [vi acc] (c_X7_freshPay x.1.2.1 g to tf td tS tr tp tt FL DP SH nY Q i v hFL hDP hSH hQ (by omega) hv) y_X7_freshPay l_X7_53 [0, 1, 2, 3] rfl (by decide) 0 rfl rfl rfl (Nat.le_of_ble_eq_true rfl) rfl (by decide) dX7_freshPayOfAll_16 ?_
      refine g_iadd C dX7_freshPayOfAll_19 ?_
      refine g_istore_n C [(2, vi (acc + (fresh FL DP SH Q i v))), (3, vi i), (0, .ref to), (1, vi v)] dX7_freshPayOfAll_20 (by decide) rfl ?_
      refine g_iinc C 1 [(3, vi (i + 1)), (2, vi (acc + (fresh FL DP SH Q i v))), (0, .ref to), (1, vi v)] dX7_freshPayOfAll_21 rfl (by decide) rfl ?_
      refine g_goto C 4 dX7_freshPayOfAll_24 (by decide) ?_
      exact ih4 (acc + (fresh FL DP SH Q i v)) (i + 1) ⟨by omega, by omega, by rw [sm_s _ (by omega), ← hI4.2.2] <;> rfl⟩ (by omega)
  exact L4 _ 0 0 ⟨by omega, by omega, rfl⟩ (Nat.lt_succ_self _)

