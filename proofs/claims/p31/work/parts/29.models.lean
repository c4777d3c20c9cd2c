/-! models -/
def twt (MW : Int → Int) (q : Int) : Int → Int := fun k => MW (q * 12 + k)
def mpy (FL DP SH : Int → Int) (Q : Int) (MU : Int → Int) (q y : Int) : Int → Int := fun k => fresh FL DP SH Q y (MU (q * 12 + k))
def wpy (FL DP SH : Int → Int) (Q : Int) (MW MU : Int → Int) (q y : Int) : Int → Int := fun k => MW (q * 12 + k) * mpy FL DP SH Q MU q y k
def wab (FL DP SH : Int → Int) (Q : Int) (MW MU : Int → Int) (q y u : Int) : Int → Int := fun k => if u < mpy FL DP SH Q MU q y k then MW (q * 12 + k) else 0
theorem mpy_r {FL DP SH : Int → Int} (hDP : ∀ k, 0 ≤ DP k ∧ DP k ≤ 999999) (hSH : ∀ k, 0 ≤ SH k ∧ SH k ≤ 100) (Q : Int) (MU : Int → Int) (q y k : Int) : 0 ≤ mpy FL DP SH Q MU q y k ∧ mpy FL DP SH Q MU q y k ≤ 999999 := fresh_r hDP hSH Q y _
theorem twt_r {MW : Int → Int} (hMW : ∀ k, 0 ≤ MW k ∧ MW k ≤ 99) (q : Int) {n : Int} (hn : 0 ≤ n ∧ n ≤ 12) : 0 ≤ sm (twt MW q) n ∧ sm (twt MW q) n ≤ 1188 := by
  have h := sm_bound (F := twt MW q) (lo := 0) (hi := 99) hn.1 (fun i _ _ => hMW _)
  omega
theorem wab_r {MW : Int → Int} (hMW : ∀ k, 0 ≤ MW k ∧ MW k ≤ 99) (FL DP SH : Int → Int) (Q : Int) (MU : Int → Int) (q y u : Int) {n : Int} (hn : 0 ≤ n ∧ n ≤ 12) : 0 ≤ sm (wab FL DP SH Q MW MU q y u) n ∧ sm (wab FL DP SH Q MW MU q y u) n ≤ 1188 := by
  have h := sm_bound (F := wab FL DP SH Q MW MU q y u) (lo := 0) (hi := 99) hn.1 (fun i _ _ => by have := hMW (q * 12 + i); unfold wab; split <;> omega)
  omega
theorem wpy_r {MW FL DP SH : Int → Int} (hMW : ∀ k, 0 ≤ MW k ∧ MW k ≤ 99) (hDP : ∀ k, 0 ≤ DP k ∧ DP k ≤ 999999) (hSH : ∀ k, 0 ≤ SH k ∧ SH k ≤ 100) (Q : Int) (MU : Int → Int) (q y : Int) {n : Int} (hn : 0 ≤ n ∧ n ≤ 12) : 0 ≤ sm (wpy FL DP SH Q MW MU q y) n ∧ sm (wpy FL DP SH Q MW MU q y) n ≤ 1187998812 := by
  have h := sm_bound (F := wpy FL DP SH Q MW MU q y) (lo := 0) (hi := 98999901) hn.1 (fun i _ _ => by have := mul_rng (hMW (q * 12 + i)) (mpy_r (FL := FL) hDP hSH Q MU q y i); unfold wpy; omega)
  omega
/-- the least pay with little enough above it, among the first -/
def lbN (FL DP SH : Int → Int) (Q : Int) (MW MU : Int → Int) (q y N most : Int) : Nat → Int
  | 0 => 999999
  | n + 1 => if mpy FL DP SH Q MU q y n < lbN FL DP SH Q MW MU q y N most n ∧ 100 * sm (wab FL DP SH Q MW MU q y (mpy FL DP SH Q MU q y n)) N ≤ most then mpy FL DP SH Q MU q y n else lbN FL DP SH Q MW MU q y N most n
def lb9 (FL DP SH : Int → Int) (Q : Int) (MW MU : Int → Int) (q y N most n : Int) : Int := lbN FL DP SH Q MW MU q y N most n.toNat
theorem lb9_s (FL DP SH : Int → Int) (Q : Int) (MW MU : Int → Int) (q y N most : Int) {i : Int} (h : 0 ≤ i) : lb9 FL DP SH Q MW MU q y N most (i + 1) = if mpy FL DP SH Q MU q y i < lb9 FL DP SH Q MW MU q y N most i ∧ 100 * sm (wab FL DP SH Q MW MU q y (mpy FL DP SH Q MU q y i)) N ≤ most then mpy FL DP SH Q MU q y i else lb9 FL DP SH Q MW MU q y N most i := by
  obtain ⟨k, rfl⟩ : ∃ k : Nat, i = k := ⟨i.toNat, by omega⟩
  have e : ((k : Int) + 1).toNat = k + 1 := by omega
  have e2 : (k : Int).toNat = k := by omega
  simp only [lb9, e, e2, lbN]

set_option maxHeartbeats 4000000 in
set_option maxRecDepth 100000 in
theorem c_X3_slotOf (l : Launch) (g : gD) (a : Int) (b : Int)  : gMet l g yX3_slotOf cX3_slotOf 2 (some .int) 0 0 0 0 [vi a, vi b] [] (gM (some (vi (a * 12 + b))) []) := by
  refine gMet.of y_X3_slotOf.2.2.2.1 (Nat.le_of_ble_eq_true rfl) ?_
  intro x hlx C hR hnm
  subst hlx
  have C : gC g x RX3 cX3_slotOf 2 0 0 0 0 := C
  show gW g x [] 0 0 [(0, vi a), (1, vi b)] 0 []
  refine g_iload_n C 0 dX3_slotOf_0 rfl ?_
  refine g_bipush C dX3_slotOf_1 (by decide) ?_
  refine g_imul C dX3_slotOf_3 ?_
  refine g_iload_n C 1 dX3_slotOf_4 rfl ?_
  refine g_iadd C dX3_slotOf_5 ?_
  exact g_iretM C hR dX3_slotOf_6 (by first | rfl | omega) rfl rfl

set_option maxHeartbeats 4000000 in
set_option maxRecDepth 100000 in
theorem c_X3_isFull (l : Launch) (g : gD) (mo : Nat) (mw : Nat) (mu : Nat) (mc : Nat) (MC : Int → Int) (q : Int) (hMC : ∀ k, 0 ≤ MC k ∧ MC k ≤ 12) (hq : 0 ≤ q ∧ q < 3) : gMet l g yX3_isFull cX3_isFull 2 (some .boolean) 0 0 0 0 [.ref mo, vi q] [(mo, cO 3 [.ref mw, .ref mu, .ref mc]), (mc, cA g 3 MC)] (gM (some (vi (if 12 ≤ MC q then 1 else 0))) [(mo, cO 3 [.ref mw, .ref mu, .ref mc]), (mc, cA g 3 MC)]) := by
  refine gMet.of y_X3_isFull.2.2.2.2.1 (Nat.le_of_ble_eq_true rfl) ?_
  intro x hlx C hR hnm
  subst hlx
  have C : gC g x RX3 cX3_isFull 2 0 0 0 0 := C
  show gW g x [(mo, cO 3 [.ref mw, .ref mu, .ref mc]), (mc, cA g 3 MC)] 0 0 [(0, .ref mo), (1, vi q)] 0 []
  refine g_aload_n C 0 dX3_isFull_0 rfl ?_
  refine g_getf C k_X3 2 f_X3_18 0 rfl rfl (by decide) rfl rfl dX3_isFull_1 ?_
  refine g_iload_n C 1 dX3_isFull_4 rfl ?_
  refine g_iald C 1 rfl (by omega) dX3_isFull_5 ?_
  have r1_5 := hMC q
  refine g_bipush C dX3_isFull_6 (by decide) ?_
  refine g_icmp_lt C 15 dX3_isFull_8 (by decide) (by omega) (by omega) (fun c8 => ?_) (fun c8 => ?_)
  · refine g_iconst C dX3_isFull_15 ?_
    exact g_zretM C hR dX3_isFull_16 (by omega) (by first | rfl | omega) rfl rfl
  refine g_iconst C dX3_isFull_11 ?_
  refine g_goto C 16 dX3_isFull_12 (by decide) ?_
  exact g_zretM C hR dX3_isFull_16 (by omega) (by first | rfl | omega) rfl rfl

set_option maxHeartbeats 4000000 in
set_option maxRecDepth 100000 in
theorem c_X3_isEmpty (l : Launch) (g : gD) (mo : Nat) (mw : Nat) (mu : Nat) (mc : Nat) (MC : Int → Int) (q : Int) (hMC : ∀ k, 0 ≤ MC k ∧ MC k ≤ 12) (hq : 0 ≤ q ∧ q < 3) : gMet l g yX3_isEmpty cX3_isEmpty 2 (some .boolean) 0 0 0 0 [.ref mo, vi q] [(mo, cO 3 [.ref mw, .ref mu, .ref mc]), (mc, cA g 3 MC)] (gM (some (vi (if MC q ≤ 0 then 1 else 0))) [(mo, cO 3 [.ref mw, .ref mu, .ref mc]), (mc, cA g 3 MC)]) := by
  refine gMet.of y_X3_isEmpty.2.2.2.2.1 (Nat.le_of_ble_eq_true rfl) ?_
  intro x hlx C hR hnm
  subst hlx
  have C : gC g x RX3 cX3_isEmpty 2 0 0 0 0 := C
  show gW g x [(mo, cO 3 [.ref mw, .ref mu, .ref mc]), (mc, cA g 3 MC)] 0 0 [(0, .ref mo), (1, vi q)] 0 []
  refine g_aload_n C 0 dX3_isEmpty_0 rfl ?_
  refine g_getf C k_X3 2 f_X3_18 0 rfl rfl (by decide) rfl rfl dX3_isEmpty_1 ?_
  refine g_iload_n C 1 dX3_isEmpty_4 rfl ?_
  refine g_iald C 1 rfl (by omega) dX3_isEmpty_5 ?_
  have r1_5 := hMC q
  refine g_if_gt C 13 dX3_isEmpty_6 (by decide) (by omega) (fun c6 => ?_) (fun c6 => ?_)
  · refine g_iconst C dX3_isEmpty_13 ?_
    exact g_zretM C hR dX3_isEmpty_14 (by omega) (by first | rfl | omega) rfl rfl
  refine g_iconst C dX3_isEmpty_9 ?_
  refine g_goto C 14 dX3_isEmpty_10 (by decide) ?_
  exact g_zretM C hR dX3_isEmpty_14 (by omega) (by first | rfl | omega) rfl rfl

set_option maxHeartbeats 4000000 in
set_option maxRecDepth 100000 in
theorem c_X3_add (l : Launch) (g : gD) (mo : Nat) (mw : Nat) (mu : Nat) (mc : Nat) (MW : Int → Int) (MU : Int → Int) (MC : Int → Int) (q : Int) (a : Int) (b : Int) (hMC : ∀ k, 0 ≤ MC k ∧ MC k ≤ 12) (hq : 0 ≤ q ∧ q < 3) (hlt : MC q < 12) : gMet l g yX3_add cX3_add 5 (some .int) 1 0 0 21 [.ref mo, vi q, vi a, vi b] [(mo, cO 3 [.ref mw, .ref mu, .ref mc]), (mw, cA g 36 MW), (mu, cA g 36 MU), (mc, cA g 3 MC)] (gM (some (vi (MC q + 1))) [(mo, cO 3 [.ref mw, .ref mu, .ref mc]), (mw, cA g 36 (up MW (q * 12 + MC q) a)), (mu, cA g 36 (up MU (q * 12 + MC q) b)), (mc, cA g 3 (up MC q (MC q + 1)))]) := by
  refine gMet.of y_X3_add.2.2.2.2.1 (Nat.le_of_ble_eq_true rfl) ?_
  intro x hlx C hR hnm
  subst hlx
  have C : gC g x RX3 cX3_add 5 1 0 0 21 := C
  show gW g x [(mo, cO 3 [.ref mw, .ref mu, .ref mc]), (mw, cA g 36 MW), (mu, cA g 36 MU), (mc, cA g 3 MC)] 0 0 [(0, .ref mo), (1, vi q), (2, vi a), (3, vi b)] 0 []
  refine g_iload_n C 1 dX3_add_0 rfl ?_
  refine g_aload_n C 0 dX3_add_1 rfl ?_
  refine g_getf C k_X3 2 f_X3_18 0 rfl rfl (by decide) rfl rfl dX3_add_2 ?_
  refine g_iload_n C 1 dX3_add_5 rfl ?_
  refine g_iald C 3 rfl (by omega) dX3_add_6 ?_
  have r1_6 := hMC q
  refine g_callSp C [vi q, vi (MC q)] [] (c_X3_slotOf x.1.2.1 g q (MC q)) y_X3_slotOf l_X3_21 [] rfl (by decide) rfl (Nat.le_of_ble_eq_true rfl) rfl (by decide) dX3_add_7 ?_
  refine g_istore C [(4, vi (q * 12 + (MC q))), (0, .ref mo), (1, vi q), (2, vi a), (3, vi b)] dX3_add_10 (by decide) rfl ?_
  refine g_aload_n C 1 dX3_add_12 rfl ?_
  refine g_getf C k_X3 0 f_X3_9 0 rfl rfl (by decide) rfl rfl dX3_add_13 ?_
  refine g_iload C 0 dX3_add_16 rfl ?_
  refine g_iload_n C 3 dX3_add_18 rfl ?_
  refine g_iast C 1 rfl (by omega) [(mo, cO 3 [.ref mw, .ref mu, .ref mc]), (mw, cA g 36 (up MW (q * 12 + (MC q)) a)), (mu, cA g 36 MU), (mc, cA g 3 MC)] rfl dX3_add_19 ?_
  refine g_aload_n C 1 dX3_add_20 rfl ?_
  refine g_getf C k_X3 1 f_X3_15 0 rfl rfl (by decide) rfl rfl dX3_add_21 ?_
  refine g_iload C 0 dX3_add_24 rfl ?_
  refine g_iload_n C 4 dX3_add_26 rfl ?_
  refine g_iast C 2 rfl (by omega) [(mo, cO 3 [.ref mw, .ref mu, .ref mc]), (mw, cA g 36 (up MW (q * 12 + (MC q)) a)), (mu, cA g 36 (up MU (q * 12 + (MC q)) b)), (mc, cA g 3 MC)] rfl dX3_add_27 ?_
  refine g_aload_n C 1 dX3_add_28 rfl ?_
  refine g_getf C k_X3 2 f_X3_18 0 rfl rfl (by decide) rfl rfl dX3_add_29 ?_
  refine g_iload_n C 2 dX3_add_32 rfl ?_
  refine g_dup2 C dX3_add_33 rfl rfl ?_
  refine g_iald C 3 rfl (by omega) dX3_add_34 ?_
  have r2_34 := hMC q
  refine g_iconst C dX3_add_35 ?_
  refine g_iadd C dX3_add_36 ?_
  refine g_iast C 3 rfl (by omega) [(mo, cO 3 [.ref mw, .ref mu, .ref mc]), (mw, cA g 36 (up MW (q * 12 + (MC q)) a)), (mu, cA g 36 (up MU (q * 12 + (MC q)) b)), (mc, cA g 3 (up MC q ((MC q) + 1)))] rfl dX3_add_37 ?_
  refine g_aload_n C 1 dX3_add_38 rfl ?_
  refine g_getf C k_X3 2 f_X3_18 0 rfl rfl (by decide) rfl rfl dX3_add_39 ?_
  refine g_iload_n C 2 dX3_add_42 rfl ?_
  refine g_iald C 3 rfl (by omega) dX3_add_43 ?_
  refine g_val (w := (MC q) + 1) up_s ?_
  exact g_iretM C hR dX3_add_44 (by first | rfl | omega) rfl rfl

set_option maxHeartbeats 4000000 in
set_option maxRecDepth 100000 in
theorem c_X3_payBy (l : Launch) (g : gD) (mo : Nat) (mw : Nat) (mu : Nat) (mc : Nat) (MU : Int → Int) (to : Nat) (tf : Nat) (td : Nat) (tS : Nat) (tr : Nat) (tp : Nat) (tt : Nat) (FL : Int → Int) (DP : Int → Int) (SH : Int → Int) (nY : Int) (Q : Int) (q : Int) (u : Int) (y : Int) (hMU : ∀ k, 0 ≤ MU k ∧ MU k ≤ 999999) (hFL : ∀ k, 0 ≤ FL k ∧ FL k ≤ 999999) (hDP : ∀ k, 0 ≤ DP k ∧ DP k ≤ 999999) (hSH : ∀ k, 0 ≤ SH k ∧ SH k ≤ 100) (hQ : 0 ≤ Q ∧ Q ≤ 90) (hq : 0 ≤ q ∧ q < 3) (hu : 0 ≤ u ∧ u < 12) (hy : 0 ≤ y ∧ y < 5) : gMet l g yX3_payBy cX3_payBy 5 (some .int) 2 0 0 45 [.ref mo, vi q, vi u, .ref to, vi y] [(mo, cO 3 [.ref mw, .ref mu, .ref mc]), (mu, cA g 36 MU), (to, cO 7 [.ref tf, .ref td, .ref tS, .ref tr, .ref tp, .ref tt, vi nY, vi Q]), (tf, cA g 5 FL), (td, cA g 5 DP), (tS, cA g 5 SH)] (gM (some (vi (mpy FL DP SH Q MU q y u))) [(mo, cO 3 [.ref mw, .ref mu, .ref mc]), (mu, cA g 36 MU), (to, cO 7 [.ref tf, .ref td, .ref tS, .ref tr, .ref tp, .ref tt, vi nY, vi Q]), (tf, cA g 5 FL), (td, cA g 5 DP), (tS, cA g 5 SH)]) := by
  refine gMet.of y_X3_payBy.2.2.2.2.1 (Nat.le_of_ble_eq_true rfl) ?_
  intro x hlx C hR hnm
  subst hlx
  have C : gC g x RX3 cX3_payBy 5 2 0 0 45 := C
  show gW g x [(mo, cO 3 [.ref mw, .ref mu, .ref mc]), (mu, cA g 36 MU), (to, cO 7 [.ref tf, .ref td, .ref tS, .ref tr, .ref tp, .ref tt, vi nY, vi Q]), (tf, cA g 5 FL), (td, cA g 5 DP), (tS, cA g 5 SH)] 0 0 [(0, .ref mo), (1, vi q), (2, vi u), (3, .ref to), (4, vi y)] 0 []
  refine g_aload_n C 3 dX3_payBy_0 rfl ?_
  refine g_iload C 4 dX3_payBy_1 rfl ?_
  refine g_aload_n C 0 dX3_payBy_3 rfl ?_
  refine g_getf C k_X3 1 f_X3_15 0 rfl rfl (by decide) rfl rfl dX3_payBy_4 ?_
  refine g_iload_n C 1 dX3_payBy_7 rfl ?_
  refine g_iload_n C 2 dX3_payBy_8 rfl ?_
  refine g_callSp C [vi q, vi u] [.ref mu, vi y, .ref to] (c_X3_slotOf x.1.2.1 g q u) y_X3_slotOf l_X3_21 [] rfl (by decide) rfl (Nat.le_of_ble_eq_true rfl) rfl (by decide) dX3_payBy_9 ?_
  refine g_iald C 1 rfl (by omega) dX3_payBy_12 ?_
  have r1_12 := hMU (q * 12 + u)
  refine g_callVp C [vi y, vi (MU (q * 12 + u))] [] (c_X7_freshPay x.1.2.1 g to tf td tS tr tp tt FL DP SH nY Q y (MU (q * 12 + u)) hFL hDP hSH hQ hy (by omega)) y_X7_freshPay l_X3_25 [2, 3, 4, 5] rfl (by decide) 2 rfl rfl rfl (Nat.le_of_ble_eq_true rfl) rfl (by decide) dX3_payBy_13 ?_
  exact g_iretM C hR dX3_payBy_16 (by first | rfl | omega) rfl rfl

set_option maxHeartbeats 4000000 in
set_option maxRecDepth 100000 in
theorem c_X3_totalWeight (l : Launch) (g : gD) (mo : Nat) (mw : Nat) (mu : Nat) (mc : Nat) (MW : Int → Int) (MC : Int → Int) (q : Int) (hMC : ∀ k, 0 ≤ MC k ∧ MC k ≤ 12) (hq : 0 ≤ q ∧ q < 3) : gMet l g yX3_totalWeight cX3_totalWeight 4 (some .int) 1 0 0 21 [.ref mo, vi q] [(mo, cO 3 [.ref mw, .ref mu, .ref mc]), (mw, cA g 36 MW), (mc, cA g 3 MC)] (gM (some (vi (sm (twt MW q) (MC q)))) [(mo, cO 3 [.ref mw, .ref mu, .ref mc]), (mw, cA g 36 MW), (mc, cA g 3 MC)]) := by
  refine gMet.of y_X3_totalWeight.2.2.2.2.1 (Nat.le_of_ble_eq_true rfl) ?_
  intro x hlx C hR hnm
  subst hlx
  have C : gC g x RX3 cX3_totalWeight 4 1 0 0 21 := C
  show gW g x [(mo, cO 3 [.ref mw, .ref mu, .ref mc]), (mw, cA g 36 MW), (mc, cA g 3 MC)] 0 0 [(0, .ref mo), (1, vi q)] 0 []
  refine g_iconst C dX3_totalWeight_0 ?_
  refine g_istore_n C [(2, vi 0), (0, .ref mo), (1, vi q)] dX3_totalWeight_1 (by decide) rfl ?_
  refine g_iconst C dX3_totalWeight_2 ?_
  refine g_istore_n C [(3, vi 0), (2, vi 0), (0, .ref mo), (1, vi q)] dX3_totalWeight_3 (by decide) rfl ?_
  have L4 : ∀ (f : Nat) (acc : Int) (i : Int), (0 ≤ i ∧ i ≤ (MC q) ∧ acc = sm (twt MW q) i) → ((MC q) - i).toNat < f → gW g x [(mo, cO 3 [.ref mw, .ref mu, .ref mc]), (mw, cA g 36 MW), (mc, cA g 3 MC)] 0 0 [(3, vi i), (2, vi acc), (0, .ref mo), (1, vi q)] 4 [] := by
    intro f
    induction f with
    | zero => intro acc i hI4 hf; exact absurd hf (Nat.not_lt_zero _)
    | succ f ih4 =>
      intro acc i hI4 hf4
      refine g_iload_n C 0 dX3_totalWeight_4 rfl ?_
      refine g_aload_n C 2 dX3_totalWeight_5 rfl ?_
      refine g_getf C k_X3 2 f_X3_18 0 rfl rfl (by decide) rfl rfl dX3_totalWeight_6 ?_
      refine g_iload_n C 3 dX3_totalWeight_9 rfl ?_
      refine g_iald C 2 rfl (by omega) dX3_totalWeight_10 ?_
      have r1_10 := hMC q
      have hc9 := hMC q
      refine g_icmp_ge C 33 dX3_totalWeight_11 (by decide) (by omega) (by omega) (fun c11 => ?_) (fun c11 => ?_)
      · have hc7 := hMC q
        refine g_iload_n C 1 dX3_totalWeight_33 rfl ?_
        exact g_iretM C hR dX3_totalWeight_34 (by rw [hI4.2.2, show i = MC q by omega] <;> rfl) rfl rfl
      refine g_iload_n C 1 dX3_totalWeight_14 rfl ?_
      have hc8 := hMC q
      refine g_aload_n C 2 dX3_totalWeight_15 rfl ?_
      refine g_getf C k_X3 0 f_X3_9 0 rfl rfl (by decide) rfl rfl dX3_totalWeight_16 ?_
      refine g_iload_n C 3 dX3_totalWeight_19 rfl ?_
      refine g_iload_n C 0 dX3_totalWeight_20 rfl ?_
      refine g_callSp C [vi q, vi i] [.ref mw, vi acc] (c_X3_slotOf x.1.2.1 g q i) y_X3_slotOf l_X3_21 [] rfl (by decide) rfl (Nat.le_of_ble_eq_true rfl) rfl (by decide) dX3_totalWeight_21 ?_
      refine g_iald C 1 rfl (by omega) dX3_totalWeight_24 ?_
      refine g_iadd C dX3_totalWeight_25 ?_
      refine g_istore_n C [(2, vi (acc + (MW (q * 12 + i)))), (3, vi i), (0, .ref mo), (1, vi q)] dX3_totalWeight_26 (by decide) rfl ?_
      refine g_iinc C 1 [(3, vi (i + 1)), (2, vi (acc + (MW (q * 12 + i)))), (0, .ref mo), (1, vi q)] dX3_totalWeight_27 rfl (by decide) rfl ?_
      refine g_goto C 4 dX3_totalWeight_30 (by decide) ?_
      exact ih4 (acc + (MW (q * 12 + i))) (i + 1) ⟨by omega, by omega, by rw [sm_s _ (by omega), ← hI4.2.2] <;> rfl⟩ (by omega)
  exact L4 _ 0 0 ⟨by omega, (hMC q).1, rfl⟩ (Nat.lt_succ_self _)

set_option maxHeartbeats 4000000 in
set_option maxRecDepth 100000 in
theorem c_X3_weighedPay (l : Launch) (g : gD) (mo : Nat) (mw : Nat) (mu : Nat) (mc : Nat) (MW : Int → Int) (MU : Int → Int) (MC : Int → Int) (to : Nat) (tf : Nat) (td : Nat) (tS : Nat) (tr : Nat) (tp : Nat) (tt : Nat) (FL : Int → Int) (DP : Int → Int) (SH : Int → Int) (nY : Int) (Q : Int) (q : Int) (y : Int) (hMW : ∀ k, 0 ≤ MW k ∧ MW k ≤ 99) (hMU : ∀ k, 0 ≤ MU k ∧ MU k ≤ 999999) (hMC : ∀ k, 0 ≤ MC k ∧ MC k ≤ 12) (hFL : ∀ k, 0 ≤ FL k ∧ FL k ≤ 999999) (hDP : ∀ k, 0 ≤ DP k ∧ DP k ≤ 999999) (hSH : ∀ k, 0 ≤ SH k ∧ SH k ≤ 100) (hQ : 0 ≤ Q ∧ Q ≤ 90) (hq : 0 ≤ q ∧ q < 3) (hy : 0 ≤ y ∧ y < 5) : gMet l g yX3_weighedPay cX3_weighedPay 7 (some .long) 3 0 0 69 [.ref mo, vi q, .ref to, vi y] [(mo, cO 3 [.ref mw, .ref mu, .ref mc]), (mw, cA g 36 MW), (mu, cA g 36 MU), (mc, cA g 3 MC), (to, cO 7 [.ref tf, .ref td, .ref tS, .ref tr, .ref tp, .ref tt, vi nY, vi Q]), (tf, cA g 5 FL), (td, cA g 5 DP), (tS, cA g 5 SH)] (gM (some (vl (sm (wpy FL DP SH Q MW MU q y) (MC q)))) [(mo, cO 3 [.ref mw, .ref mu, .ref mc]), (mw, cA g 36 MW), (mu, cA g 36 MU), (mc, cA g 3 MC), (to, cO 7 [.ref tf, .ref td, .ref tS, .ref tr, .ref tp, .ref tt, vi nY, vi Q]), (tf, cA g 5 FL), (td, cA g 5 DP), (tS, cA g 5 SH)]) := by
  refine gMet.of y_X3_weighedPay.2.2.2.2.1 (Nat.le_of_ble_eq_true rfl) ?_
  intro x hlx C hR hnm
  subst hlx
  have C : gC g x RX3 cX3_weighedPay 7 3 0 0 69 := C
  show gW g x [(mo, cO 3 [.ref mw, .ref mu, .ref mc]), (mw, cA g 36 MW), (mu, cA g 36 MU), (mc, cA g 3 MC), (to, cO 7 [.ref tf, .ref td, .ref tS, .ref tr, .ref tp, .ref tt, vi nY, vi Q]), (tf, cA g 5 FL), (td, cA g 5 DP), (tS, cA g 5 SH)] 0 0 [(0, .ref mo), (1, vi q), (2, .ref to), (3, vi y)] 0 []
  refine g_lconst C dX3_weighedPay_0 0 (by decide) ?_
  refine g_lstore C [(4, vl 0), (0, .ref mo), (1, vi q), (2, .ref to), (3, vi y)] dX3_weighedPay_1 (by decide) rfl ?_
  refine g_iconst C dX3_weighedPay_3 ?_
  refine g_istore C [(6, vi 0), (4, vl 0), (0, .ref mo), (1, vi q), (2, .ref to), (3, vi y)] dX3_weighedPay_4 (by decide) rfl ?_
  have L6 : ∀ (f : Nat) (acc : Int) (i : Int), (0 ≤ i ∧ i ≤ (MC q) ∧ acc = sm (wpy FL DP SH Q MW MU q y) i) → ((MC q) - i).toNat < f → gW g x [(mo, cO 3 [.ref mw, .ref mu, .ref mc]), (mw, cA g 36 MW), (mu, cA g 36 MU), (mc, cA g 3 MC), (to, cO 7 [.ref tf, .ref td, .ref tS, .ref tr, .ref tp, .ref tt, vi nY, vi Q]), (tf, cA g 5 FL), (td, cA g 5 DP), (tS, cA g 5 SH)] 0 0 [(6, vi i), (4, vl acc), (0, .ref mo), (1, vi q), (2, .ref to), (3, vi y)] 6 [] := by
    intro f
    induction f with
    | zero => intro acc i hI6 hf; exact absurd hf (Nat.not_lt_zero _)
    | succ f ih6 =>
      intro acc i hI6 hf6
      refine g_iload C 0 dX3_weighedPay_6 rfl ?_
      refine g_aload_n C 2 dX3_weighedPay_8 rfl ?_
      refine g_getf C k_X3 2 f_X3_18 0 rfl rfl (by decide) rfl rfl dX3_weighedPay_9 ?_
      refine g_iload_n C 3 dX3_weighedPay_12 rfl ?_
      refine g_iald C 3 rfl (by omega) dX3_weighedPay_13 ?_
      have r1_13 := hMC q
      refine g_icmp_ge C 51 dX3_weighedPay_14 (by decide) (by omega) (by omega) (fun c14 => ?_) (fun c14 => ?_)
      · have hc7 := hMC q
        refine g_lload C 1 dX3_weighedPay_51 rfl ?_
        exact g_lretM C hR dX3_weighedPay_53 (by rw [hI6.2.2, show i = MC q by omega] <;> rfl) rfl rfl
      refine g_lload C 1 dX3_weighedPay_17 rfl ?_
      refine g_aload_n C 2 dX3_weighedPay_19 rfl ?_
      refine g_getf C k_X3 0 f_X3_9 0 rfl rfl (by decide) rfl rfl dX3_weighedPay_20 ?_
      refine g_iload_n C 3 dX3_weighedPay_23 rfl ?_
      refine g_iload C 0 dX3_weighedPay_24 rfl ?_
      refine g_callSp C [vi q, vi i] [.ref mw, vl acc] (c_X3_slotOf x.1.2.1 g q i) y_X3_slotOf l_X3_21 [] rfl (by decide) rfl (Nat.le_of_ble_eq_true rfl) rfl (by decide) dX3_weighedPay_26 ?_
      refine g_iald C 1 rfl (by omega) dX3_weighedPay_29 ?_
      have r2_29 := hMW (q * 12 + i)
      refine g_i2l C dX3_weighedPay_30 (by omega) ?_
      refine g_aload_n C 2 dX3_weighedPay_31 rfl ?_
      refine g_iload_n C 3 dX3_weighedPay_32 rfl ?_
      refine g_iload C 0 dX3_weighedPay_33 rfl ?_
      refine g_aload_n C 4 dX3_weighedPay_35 rfl ?_
      refine g_iload_n C 5 dX3_weighedPay_36 rfl ?_
      have hc8 := hMC q
      refine g_callVp C [vi q, vi i, .ref to, vi y] [vl (MW (q * 12 + i)), vl acc] (c_X3_payBy x.1.2.1 g mo mw mu mc MU to tf td tS tr tp tt FL DP SH nY Q q i y hMU hFL hDP hSH hQ hq (by omega) hy) y_X3_payBy l_X3_30 [0, 2, 4, 5, 6, 7] rfl (by decide) 0 rfl rfl rfl (Nat.le_of_ble_eq_true rfl) rfl (by decide) dX3_weighedPay_37 ?_
      have hm9 := mpy_r (FL := FL) hDP hSH Q MU q y i
      refine g_i2l C dX3_weighedPay_40 (by omega) ?_
      refine g_lmul C dX3_weighedPay_41 ?_
      refine g_ladd C dX3_weighedPay_42 ?_
      refine g_lstore C [(4, vl (acc + ((MW (q * 12 + i)) * (mpy FL DP SH Q MU q y i)))), (6, vi i), (0, .ref mo), (1, vi q), (2, .ref to), (3, vi y)] dX3_weighedPay_43 (by decide) rfl ?_
      refine g_iinc C 1 [(6, vi (i + 1)), (4, vl (acc + ((MW (q * 12 + i)) * (mpy FL DP SH Q MU q y i)))), (0, .ref mo), (1, vi q), (2, .ref to), (3, vi y)] dX3_weighedPay_45 rfl (by decide) rfl ?_
      refine g_goto C 6 dX3_weighedPay_48 (by decide) ?_
      exact ih6 (acc + ((MW (q * 12 + i)) * (mpy FL DP SH Q MU q y i))) (i + 1) ⟨by omega, by omega, by rw [sm_s _ (by omega), ← hI6.2.2] <;> rfl⟩ (by omega)
  exact L6 _ 0 0 ⟨by omega, (hMC q).1, rfl⟩ (Nat.lt_succ_self _)

set_option maxHeartbeats 4000000 in
set_option maxRecDepth 100000 in
theorem c_X3_weightAbove (l : Launch) (g : gD) (mo : Nat) (mw : Nat) (mu : Nat) (mc : Nat) (MW : Int → Int) (MU : Int → Int) (MC : Int → Int) (to : Nat) (tf : Nat) (td : Nat) (tS : Nat) (tr : Nat) (tp : Nat) (tt : Nat) (FL : Int → Int) (DP : Int → Int) (SH : Int → Int) (nY : Int) (Q : Int) (q : Int) (y : Int) (u : Int) (hMW : ∀ k, 0 ≤ MW k ∧ MW k ≤ 99) (hMU : ∀ k, 0 ≤ MU k ∧ MU k ≤ 999999) (hMC : ∀ k, 0 ≤ MC k ∧ MC k ≤ 12) (hFL : ∀ k, 0 ≤ FL k ∧ FL k ≤ 999999) (hDP : ∀ k, 0 ≤ DP k ∧ DP k ≤ 999999) (hSH : ∀ k, 0 ≤ SH k ∧ SH k ≤ 100) (hQ : 0 ≤ Q ∧ Q ≤ 90) (hq : 0 ≤ q ∧ q < 3) (hy : 0 ≤ y ∧ y < 5) (hu : 0 ≤ u ∧ u ≤ 999999) : gMet l g yX3_weightAbove cX3_weightAbove 7 (some .int) 3 0 0 69 [.ref mo, vi q, .ref to, vi y, vi u] [(mo, cO 3 [.ref mw, .ref mu, .ref mc]), (mw, cA g 36 MW), (mu, cA g 36 MU), (mc, cA g 3 MC), (to, cO 7 [.ref tf, .ref td, .ref tS, .ref tr, .ref tp, .ref tt, vi nY, vi Q]), (tf, cA g 5 FL), (td, cA g 5 DP), (tS, cA g 5 SH)] (gM (some (vi (sm (wab FL DP SH Q MW MU q y u) (MC q)))) [(mo, cO 3 [.ref mw, .ref mu, .ref mc]), (mw, cA g 36 MW), (mu, cA g 36 MU), (mc, cA g 3 MC), (to, cO 7 [.ref tf, .ref td, .ref tS, .ref tr, .ref tp, .ref tt, vi nY, vi Q]), (tf, cA g 5 FL), (td, cA g 5 DP), (tS, cA g 5 SH)]) := by
  refine gMet.of y_X3_weightAbove.2.2.2.2.1 (Nat.le_of_ble_eq_true rfl) ?_
  intro x hlx C hR hnm
  subst hlx
  have C : gC g x RX3 cX3_weightAbove 7 3 0 0 69 := C
  show gW g x [(mo, cO 3 [.ref mw, .ref mu, .ref mc]), (mw, cA g 36 MW), (mu, cA g 36 MU), (mc, cA g 3 MC), (to, cO 7 [.ref tf, .ref td, .ref tS, .ref tr, .ref tp, .ref tt, vi nY, vi Q]), (tf, cA g 5 FL), (td, cA g 5 DP), (tS, cA g 5 SH)] 0 0 [(0, .ref mo), (1, vi q), (2, .ref to), (3, vi y), (4, vi u)] 0 []
  refine g_iconst C dX3_weightAbove_0 ?_
  refine g_istore C [(5, vi 0), (0, .ref mo), (1, vi q), (2, .ref to), (3, vi y), (4, vi u)] dX3_weightAbove_1 (by decide) rfl ?_
  refine g_iconst C dX3_weightAbove_3 ?_
  refine g_istore C [(6, vi 0), (5, vi 0), (0, .ref mo), (1, vi q), (2, .ref to), (3, vi y), (4, vi u)] dX3_weightAbove_4 (by decide) rfl ?_
  have L6 : ∀ (f : Nat) (acc : Int) (i : Int), (0 ≤ i ∧ i ≤ (MC q) ∧ acc = sm (wab FL DP SH Q MW MU q y u) i) → ((MC q) - i).toNat < f → gW g x [(mo, cO 3 [.ref mw, .ref mu, .ref mc]), (mw, cA g 36 MW), (mu, cA g 36 MU), (mc, cA g 3 MC), (to, cO 7 [.ref tf, .ref td, .ref tS, .ref tr, .ref tp, .ref tt, vi nY, vi Q]), (tf, cA g 5 FL), (td, cA g 5 DP), (tS, cA g 5 SH)] 0 0 [(6, vi i), (5, vi acc), (0, .ref mo), (1, vi q), (2, .ref to), (3, vi y), (4, vi u)] 6 [] := by
    intro f
    induction f with
    | zero => intro acc i hI6 hf; exact absurd hf (Nat.not_lt_zero _)
    | succ f ih6 =>
      intro acc i hI6 hf6
      refine g_iload C 0 dX3_weightAbove_6 rfl ?_
      refine g_aload_n C 2 dX3_weightAbove_8 rfl ?_
      refine g_getf C k_X3 2 f_X3_18 0 rfl rfl (by decide) rfl rfl dX3_weightAbove_9 ?_
      refine g_iload_n C 3 dX3_weightAbove_12 rfl ?_
      refine g_iald C 3 rfl (by omega) dX3_weightAbove_13 ?_
      have r1_13 := hMC q
      refine g_icmp_ge C 53 dX3_weightAbove_14 (by decide) (by omega) (by omega) (fun c14 => ?_) (fun c14 => ?_)
      · have hc7 := hMC q
        refine g_iload C 1 dX3_weightAbove_53 rfl ?_
        exact g_iretM C hR dX3_weightAbove_55 (by rw [hI6.2.2, show i = MC q by omega] <;> rfl) rfl rfl
      refine g_aload_n C 2 dX3_weightAbove_17 rfl ?_
      refine g_iload_n C 3 dX3_weightAbove_18 rfl ?_
      refine g_iload C 0 dX3_weightAbove_19 rfl ?_
      refine g_aload_n C 4 dX3_weightAbove_21 rfl ?_
      refine g_iload_n C 5 dX3_weightAbove_22 rfl ?_
      have hc8 := hMC q
      refine g_callVp C [vi q, vi i, .ref to, vi y] [] (c_X3_payBy x.1.2.1 g mo mw mu mc MU to tf td tS tr tp tt FL DP SH nY Q q i y hMU hFL hDP hSH hQ hq (by omega) hy) y_X3_payBy l_X3_30 [0, 2, 4, 5, 6, 7] rfl (by decide) 0 rfl rfl rfl (Nat.le_of_ble_eq_true rfl) rfl (by decide) dX3_weightAbove_23 ?_
      refine g_iload C 6 dX3_weightAbove_26 rfl ?_
      have hm9 := mpy_r (FL := FL) hDP hSH Q MU q y i
      refine g_icmp_le C 47 dX3_weightAbove_28 (by decide) (by omega) (by omega) (fun c28 => ?_) (fun c28 => ?_)
      · refine g_iinc C 0 [(6, vi (i + 1)), (5, vi acc), (0, .ref mo), (1, vi q), (2, .ref to), (3, vi y), (4, vi u)] dX3_weightAbove_47 rfl (by decide) rfl ?_
        refine g_goto C 6 dX3_weightAbove_50 (by decide) ?_
        exact ih6 acc (i + 1) ⟨by omega, by omega, by rw [sm_s _ (by omega), ← hI6.2.2]; simp only [wab]; first | (rw [if_pos (by omega)]) | (rw [if_neg (by omega)]; omega)⟩ (by omega)
      refine g_iload C 1 dX3_weightAbove_31 rfl ?_
      refine g_aload_n C 2 dX3_weightAbove_33 rfl ?_
      refine g_getf C k_X3 0 f_X3_9 0 rfl rfl (by decide) rfl rfl dX3_weightAbove_34 ?_
      refine g_iload_n C 3 dX3_weightAbove_37 rfl ?_
      refine g_iload C 0 dX3_weightAbove_38 rfl ?_
      refine g_callSp C [vi q, vi i] [.ref mw, vi acc] (c_X3_slotOf x.1.2.1 g q i) y_X3_slotOf l_X3_21 [] rfl (by decide) rfl (Nat.le_of_ble_eq_true rfl) rfl (by decide) dX3_weightAbove_40 ?_
      refine g_iald C 1 rfl (by omega) dX3_weightAbove_43 ?_
      have r2_43 := hMW (q * 12 + i)
      refine g_iadd C dX3_weightAbove_44 ?_
      refine g_istore C [(5, vi (acc + (MW (q * 12 + i)))), (6, vi i), (0, .ref mo), (1, vi q), (2, .ref to), (3, vi y), (4, vi u)] dX3_weightAbove_45 (by decide) rfl ?_
      refine g_iinc C 1 [(6, vi (i + 1)), (5, vi (acc + (MW (q * 12 + i)))), (0, .ref mo), (1, vi q), (2, .ref to), (3, vi y), (4, vi u)] dX3_weightAbove_47 rfl (by decide) rfl ?_
      refine g_goto C 6 dX3_weightAbove_50 (by decide) ?_
      exact ih6 (acc + (MW (q * 12 + i))) (i + 1) ⟨by omega, by omega, by rw [sm_s _ (by omega), ← hI6.2.2]; simp only [wab]; first | (rw [if_pos (by omega)]) | (rw [if_neg (by omega)]; omega)⟩ (by omega)
  exact L6 _ 0 0 ⟨by omega, (hMC q).1, rfl⟩ (Nat.lt_succ_self _)

set_option maxHeartbeats 4000000 in
set_option maxRecDepth 100000 in
theorem c_X3_leastBound (l : Launch) (g : gD) (mo : Nat) (mw : Nat) (mu : Nat) (mc : Nat) (MW : Int → Int) (MU : Int → Int) (MC : Int → Int) (to : Nat) (tf : Nat) (td : Nat) (tS : Nat) (tr : Nat) (tp : Nat) (tt : Nat) (FL : Int → Int) (DP : Int → Int) (SH : Int → Int) (nY : Int) (Q : Int) (q : Int) (y : Int) (u : Int) (hMW : ∀ k, 0 ≤ MW k ∧ MW k ≤ 99) (hMU : ∀ k, 0 ≤ MU k ∧ MU k ≤ 999999) (hMC : ∀ k, 0 ≤ MC k ∧ MC k ≤ 12) (hFL : ∀ k, 0 ≤ FL k ∧ FL k ≤ 999999) (hDP : ∀ k, 0 ≤ DP k ∧ DP k ≤ 999999) (hSH : ∀ k, 0 ≤ SH k ∧ SH k ≤ 100) (hQ : 0 ≤ Q ∧ Q ≤ 90) (hq : 0 ≤ q ∧ q < 3) (hy : 0 ≤ y ∧ y < 5) (hu : 0 ≤ u ∧ u ≤ 99) : gMet l g yX3_leastBound cX3_leastBound 9 (some .int) 4 0 0 95 [.ref mo, vi q, .ref to, vi y, vi u] [(mo, cO 3 [.ref mw, .ref mu, .ref mc]), (mw, cA g 36 MW), (mu, cA g 36 MU), (mc, cA g 3 MC), (to, cO 7 [.ref tf, .ref td, .ref tS, .ref tr, .ref tp, .ref tt, vi nY, vi Q]), (tf, cA g 5 FL), (td, cA g 5 DP), (tS, cA g 5 SH)] (gM (some (vi (lb9 FL DP SH Q MW MU q y (MC q) (u * sm (twt MW q) (MC q)) (MC q)))) [(mo, cO 3 [.ref mw, .ref mu, .ref mc]), (mw, cA g 36 MW), (mu, cA g 36 MU), (mc, cA g 3 MC), (to, cO 7 [.ref tf, .ref td, .ref tS, .ref tr, .ref tp, .ref tt, vi nY, vi Q]), (tf, cA g 5 FL), (td, cA g 5 DP), (tS, cA g 5 SH)]) := by
  refine gMet.of y_X3_leastBound.2.2.2.2.1 (Nat.le_of_ble_eq_true rfl) ?_
  intro x hlx C hR hnm
  subst hlx
  have C : gC g x RX3 cX3_leastBound 9 4 0 0 95 := C
  show gW g x [(mo, cO 3 [.ref mw, .ref mu, .ref mc]), (mw, cA g 36 MW), (mu, cA g 36 MU), (mc, cA g 3 MC), (to, cO 7 [.ref tf, .ref td, .ref tS, .ref tr, .ref tp, .ref tt, vi nY, vi Q]), (tf, cA g 5 FL), (td, cA g 5 DP), (tS, cA g 5 SH)] 0 0 [(0, .ref mo), (1, vi q), (2, .ref to), (3, vi y), (4, vi u)] 0 []
  refine g_iload C 4 dX3_leastBound_0 rfl ?_
  refine g_aload_n C 0 dX3_leastBound_2 rfl ?_
  refine g_iload_n C 1 dX3_leastBound_3 rfl ?_
  refine g_callVp C [vi q] [vi u] (c_X3_totalWeight x.1.2.1 g mo mw mu mc MW MC q hMC hq) y_X3_totalWeight l_X3_34 [0, 1, 3] rfl (by decide) 0 rfl rfl rfl (Nat.le_of_ble_eq_true rfl) rfl (by decide) dX3_leastBound_4 ?_
  have hc0 := hMC q
  have ht9 := twt_r hMW q hc0
  have hu9 := mul_rng hu ht9
  refine g_imul C dX3_leastBound_7 ?_
  refine g_istore C [(5, vi (u * (sm (twt MW q) (MC q)))), (0, .ref mo), (1, vi q), (2, .ref to), (3, vi y), (4, vi u)] dX3_leastBound_8 (by decide) rfl ?_
  refine g_ldc C (999999) n_X3_38 (by decide) dX3_leastBound_10 ?_
  refine g_istore C [(6, vi 999999), (5, vi (u * (sm (twt MW q) (MC q)))), (0, .ref mo), (1, vi q), (2, .ref to), (3, vi y), (4, vi u)] dX3_leastBound_12 (by decide) rfl ?_
  refine g_iconst C dX3_leastBound_14 ?_
  refine g_istore C [(7, vi 0), (6, vi 999999), (5, vi (u * (sm (twt MW q) (MC q)))), (0, .ref mo), (1, vi q), (2, .ref to), (3, vi y), (4, vi u)] dX3_leastBound_15 (by decide) rfl ?_
  have L17 : ∀ (f : Nat) (i : Int) (le : Int), (0 ≤ i ∧ i ≤ MC q ∧ le = lb9 FL DP SH Q MW MU q y (MC q) (u * sm (twt MW q) (MC q)) i ∧ 0 ≤ le ∧ le ≤ 999999) → (MC q - i).toNat < f → gW g x [(mo, cO 3 [.ref mw, .ref mu, .ref mc]), (mw, cA g 36 MW), (mu, cA g 36 MU), (mc, cA g 3 MC), (to, cO 7 [.ref tf, .ref td, .ref tS, .ref tr, .ref tp, .ref tt, vi nY, vi Q]), (tf, cA g 5 FL), (td, cA g 5 DP), (tS, cA g 5 SH)] 0 0 [(7, vi i), (6, vi le), (5, vi (u * (sm (twt MW q) (MC q)))), (0, .ref mo), (1, vi q), (2, .ref to), (3, vi y), (4, vi u)] 17 [] := by
    intro f
    induction f with
    | zero => intro i le hI17 hf; exact absurd hf (Nat.not_lt_zero _)
    | succ f ih17 =>
      intro i le hI17 hf17
      obtain ⟨hi0, hi1, hl, hl0, hl1⟩ := hI17
      have hc9 := hMC q
      have hm9 := mpy_r (FL := FL) hDP hSH Q MU q y i
      have hw9 := wab_r hMW FL DP SH Q MU q y (mpy FL DP SH Q MU q y i) (n := MC q) (hMC q)
      refine g_iload C 0 dX3_leastBound_17 rfl ?_
      refine g_aload_n C 3 dX3_leastBound_19 rfl ?_
      refine g_getf C k_X3 2 f_X3_18 0 rfl rfl (by decide) rfl rfl dX3_leastBound_20 ?_
      refine g_iload_n C 4 dX3_leastBound_23 rfl ?_
      refine g_iald C 3 rfl (by omega) dX3_leastBound_24 ?_
      have r1_24 := hMC q
      refine g_icmp_ge C 73 dX3_leastBound_25 (by decide) (by omega) (by omega) (fun c25 => ?_) (fun c25 => ?_)
      · refine g_iload C 1 dX3_leastBound_73 rfl ?_
        exact g_iretM C hR dX3_leastBound_75 (by rw [hl, show i = MC q by omega]) rfl rfl
      refine g_aload_n C 3 dX3_leastBound_28 rfl ?_
      refine g_iload_n C 4 dX3_leastBound_29 rfl ?_
      refine g_iload C 0 dX3_leastBound_30 rfl ?_
      refine g_aload_n C 5 dX3_leastBound_32 rfl ?_
      refine g_iload_n C 6 dX3_leastBound_33 rfl ?_
      refine g_callVp C [vi q, vi i, .ref to, vi y] [] (c_X3_payBy x.1.2.1 g mo mw mu mc MU to tf td tS tr tp tt FL DP SH nY Q q i y hMU hFL hDP hSH hQ hq (by omega) hy) y_X3_payBy l_X3_30 [0, 2, 4, 5, 6, 7] rfl (by decide) 0 rfl rfl rfl (Nat.le_of_ble_eq_true rfl) rfl (by decide) dX3_leastBound_34 ?_
      refine g_istore C [(8, vi (mpy FL DP SH Q MU q y i)), (7, vi i), (6, vi le), (5, vi (u * (sm (twt MW q) (MC q)))), (0, .ref mo), (1, vi q), (2, .ref to), (3, vi y), (4, vi u)] dX3_leastBound_37 (by decide) rfl ?_
      refine g_iload C 0 dX3_leastBound_39 rfl ?_
      refine g_iload C 2 dX3_leastBound_41 rfl ?_
      refine g_icmp_ge C 67 dX3_leastBound_43 (by decide) (by omega) (by omega) (fun c43 => ?_) (fun c43 => ?_)
      · refine g_iinc C 1 [(7, vi (i + 1)), (8, vi (mpy FL DP SH Q MU q y i)), (6, vi le), (5, vi (u * (sm (twt MW q) (MC q)))), (0, .ref mo), (1, vi q), (2, .ref to), (3, vi y), (4, vi u)] dX3_leastBound_67 rfl (by decide) rfl ?_
        refine g_goto C 17 dX3_leastBound_70 (by decide) ?_
        refine g_lv [(7, vi (i + 1)), (6, vi le), (5, vi (u * (sm (twt MW q) (MC q)))), (0, .ref mo), (1, vi q), (2, .ref to), (3, vi y), (4, vi u)] [0, 2, 3, 4, 5, 6, 7, 8] rfl ?_
        exact ih17 (i + 1) le ⟨by omega, by omega, by rw [lb9_s _ _ _ _ _ _ _ _ _ _ hi0, ← hl]; first | (rw [if_pos (by omega)]; done) | (rw [if_neg (by omega)]; done), by omega, by omega⟩ (by omega)
      refine g_bipush C dX3_leastBound_46 (by decide) ?_
      refine g_aload_n C 4 dX3_leastBound_48 rfl ?_
      refine g_iload_n C 5 dX3_leastBound_49 rfl ?_
      refine g_aload_n C 6 dX3_leastBound_50 rfl ?_
      refine g_iload_n C 7 dX3_leastBound_51 rfl ?_
      refine g_iload C 0 dX3_leastBound_52 rfl ?_
      refine g_callVp C [vi q, .ref to, vi y, vi (mpy FL DP SH Q MU q y i)] [vi 100] (c_X3_weightAbove x.1.2.1 g mo mw mu mc MW MU MC to tf td tS tr tp tt FL DP SH nY Q q y (mpy FL DP SH Q MU q y i) hMW hMU hMC hFL hDP hSH hQ hq hy (by omega)) y_X3_weightAbove l_X3_39 [0, 1, 2, 3, 4, 5, 6, 7] rfl (by decide) 0 rfl rfl rfl (Nat.le_of_ble_eq_true rfl) rfl (by decide) dX3_leastBound_54 ?_
      refine g_imul C dX3_leastBound_57 ?_
      refine g_iload C 3 dX3_leastBound_58 rfl ?_
      refine g_icmp_gt C 67 dX3_leastBound_60 (by decide) (by omega) (by omega) (fun c60 => ?_) (fun c60 => ?_)
      · refine g_iinc C 1 [(7, vi (i + 1)), (8, vi (mpy FL DP SH Q MU q y i)), (6, vi le), (5, vi (u * (sm (twt MW q) (MC q)))), (0, .ref mo), (1, vi q), (2, .ref to), (3, vi y), (4, vi u)] dX3_leastBound_67 rfl (by decide) rfl ?_
        refine g_goto C 17 dX3_leastBound_70 (by decide) ?_
        refine g_lv [(7, vi (i + 1)), (6, vi le), (5, vi (u * (sm (twt MW q) (MC q)))), (0, .ref mo), (1, vi q), (2, .ref to), (3, vi y), (4, vi u)] [0, 2, 3, 4, 5, 6, 7, 8] rfl ?_
        exact ih17 (i + 1) le ⟨by omega, by omega, by rw [lb9_s _ _ _ _ _ _ _ _ _ _ hi0, ← hl]; first | (rw [if_pos (by omega)]; done) | (rw [if_neg (by omega)]; done), by omega, by omega⟩ (by omega)
      refine g_iload C 0 dX3_leastBound_63 rfl ?_
      refine g_istore C [(6, vi (mpy FL DP SH Q MU q y i)), (8, vi (mpy FL DP SH Q MU q y i)), (7, vi i), (5, vi (u * (sm (twt MW q) (MC q)))), (0, .ref mo), (1, vi q), (2, .ref to), (3, vi y), (4, vi u)] dX3_leastBound_65 (by decide) rfl ?_
      refine g_iinc C 2 [(7, vi (i + 1)), (6, vi (mpy FL DP SH Q MU q y i)), (8, vi (mpy FL DP SH Q MU q y i)), (5, vi (u * (sm (twt MW q) (MC q)))), (0, .ref mo), (1, vi q), (2, .ref to), (3, vi y), (4, vi u)] dX3_leastBound_67 rfl (by decide) rfl ?_
      refine g_goto C 17 dX3_leastBound_70 (by decide) ?_
      refine g_lv [(7, vi (i + 1)), (6, vi (mpy FL DP SH Q MU q y i)), (5, vi (u * (sm (twt MW q) (MC q)))), (0, .ref mo), (1, vi q), (2, .ref to), (3, vi y), (4, vi u)] [0, 1, 3, 4, 5, 6, 7, 8] rfl ?_
      exact ih17 (i + 1) (mpy FL DP SH Q MU q y i) ⟨by omega, by omega, by rw [lb9_s _ _ _ _ _ _ _ _ _ _ hi0, ← hl]; first | (rw [if_pos (by omega)]; done) | (rw [if_neg (by omega)]; done), by omega, by omega⟩ (by omega)
  exact L17 _ 0 999999 ⟨by omega, by omega, rfl, by omega, by omega⟩ (Nat.lt_succ_self _)

