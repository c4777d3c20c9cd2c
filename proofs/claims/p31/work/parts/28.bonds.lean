/-! bonds -/
def poN (pr pc : Int) : Nat → Int
  | 0 => pc * pr / 100
  | n + 1 => poN pr pc n + (pr - poN pr pc n) / 2
def po9 (pr pc n : Int) : Int := poN pr pc n.toNat
theorem po9_s (pr pc : Int) {i : Int} (h : 0 ≤ i) : po9 pr pc (i + 1) = po9 pr pc i + (pr - po9 pr pc i) / 2 := by
  obtain ⟨k, rfl⟩ : ∃ k : Nat, i = k := ⟨i.toNat, by omega⟩
  have e : ((k : Int) + 1).toNat = k + 1 := by omega
  have e2 : (k : Int).toNat = k := by omega
  simp only [po9, e, e2, poN]
theorem po9_r {pr pc : Int} (hr : 0 ≤ pr ∧ pr ≤ 999999) (hc : 0 ≤ pc ∧ pc ≤ 100) {n : Int} (hn : 0 ≤ n) : 0 ≤ po9 pr pc n ∧ po9 pr pc n ≤ pr := by
  refine sm_ind (P := fun n => 0 ≤ po9 pr pc n ∧ po9 pr pc n ≤ pr) ?_ (fun i hi ih => ?_) n hn
  · have := mul_rng hc (show 0 ≤ pr ∧ pr ≤ pr by omega)
    show 0 ≤ pc * pr / 100 ∧ pc * pr / 100 ≤ pr; omega
  · rw [po9_s _ _ hi]; omega
def pyo (BP BT BC : Int → Int) (b ix : Int) : Int := if ix < BT b then 0 else po9 (BP b) (BC b) (ix - BT b)
theorem pyo_r {BP BT BC : Int → Int} (hBP : ∀ k, 0 ≤ BP k ∧ BP k ≤ 999999) (hBC : ∀ k, 0 ≤ BC k ∧ BC k ≤ 100) (b ix : Int) : 0 ≤ pyo BP BT BC b ix ∧ pyo BP BT BC b ix ≤ BP b := by
  have h1 := hBP b
  unfold pyo
  by_cases q : ix < BT b
  · rw [if_pos q]; omega
  · rw [if_neg q]; exact po9_r (hBP b) (hBC b) (by omega)
/-- a bond's index -/
noncomputable def idx9 (EC EF ES EH EP EX : Int → Int) (nE nR : Int) (BQ BX BF BL : Int → Int) (b : Int) : Int := gst (cnd EC EF ES EH EP (sti EC EF (BX b) (BL b) nE) (BX b) (BQ b) (BF b) (BL b)) EX nR
theorem idx9_r {EX : Int → Int} (hEX : ∀ k, 0 ≤ EX k ∧ EX k ≤ 9) (EC EF ES EH EP : Int → Int) (nE : Int) {nR : Int} (hnR : 0 ≤ nR ∧ nR ≤ 60) (BQ BX BF BL : Int → Int) (b : Int) : 0 ≤ idx9 EC EF ES EH EP EX nE nR BQ BX BF BL b ∧ idx9 EC EF ES EH EP EX nE nR BQ BX BF BL b ≤ 9 := gst_r hEX hnR.1

set_option maxHeartbeats 4000000 in
set_option maxRecDepth 100000 in
theorem c_X1_has (l : Launch) (g : gD) (bo : Nat) (bp : Nat) (bq : Nat) (bx : Nat) (bf : Nat) (bl : Nat) (bt : Nat) (bc : Nat) (be : Nat) (nB : Int) (v : Int) (hnB : 0 ≤ nB ∧ nB ≤ 5) (hv : -2147483648 ≤ v ∧ v < 2147483648) : gMet l g yX1_has cX1_has 2 (some .boolean) 0 0 0 0 [.ref bo, vi v] [(bo, cO 1 [.ref bp, .ref bq, .ref bx, .ref bf, .ref bl, .ref bt, .ref bc, .ref be, vi nB])] (gM (some (vi (if 0 ≤ v ∧ v < nB then 1 else 0))) [(bo, cO 1 [.ref bp, .ref bq, .ref bx, .ref bf, .ref bl, .ref bt, .ref bc, .ref be, vi nB])]) := by
  refine gMet.of y_X1_has.2.2.2.2.1 (Nat.le_of_ble_eq_true rfl) ?_
  intro x hlx C hR hnm
  subst hlx
  have C : gC g x RX1 cX1_has 2 0 0 0 0 := C
  show gW g x [(bo, cO 1 [.ref bp, .ref bq, .ref bx, .ref bf, .ref bl, .ref bt, .ref bc, .ref be, vi nB])] 0 0 [(0, .ref bo), (1, vi v)] 0 []
  refine g_iload_n C 1 dX1_has_0 rfl ?_
  refine g_if_lt C 16 dX1_has_1 (by decide) (by omega) (fun c1 => ?_) (fun c1 => ?_)
  · refine g_iconst C dX1_has_16 ?_
    exact g_zretM C hR dX1_has_17 (by omega) (by first | rfl | omega) rfl rfl
  refine g_iload_n C 1 dX1_has_4 rfl ?_
  refine g_aload_n C 0 dX1_has_5 rfl ?_
  refine g_getf C k_X1 8 f_X1_36 0 rfl rfl (by decide) rfl rfl dX1_has_6 ?_
  refine g_icmp_ge C 16 dX1_has_9 (by decide) (by omega) (by omega) (fun c9 => ?_) (fun c9 => ?_)
  · refine g_iconst C dX1_has_16 ?_
    exact g_zretM C hR dX1_has_17 (by omega) (by first | rfl | omega) rfl rfl
  refine g_iconst C dX1_has_12 ?_
  refine g_goto C 17 dX1_has_13 (by decide) ?_
  exact g_zretM C hR dX1_has_17 (by omega) (by first | rfl | omega) rfl rfl

set_option maxHeartbeats 4000000 in
set_option maxRecDepth 100000 in
theorem c_X1_isFull (l : Launch) (g : gD) (bo : Nat) (bp : Nat) (bq : Nat) (bx : Nat) (bf : Nat) (bl : Nat) (bt : Nat) (bc : Nat) (be : Nat) (nB : Int) (hnB : 0 ≤ nB ∧ nB ≤ 5) : gMet l g yX1_isFull cX1_isFull 1 (some .boolean) 0 0 0 0 [.ref bo] [(bo, cO 1 [.ref bp, .ref bq, .ref bx, .ref bf, .ref bl, .ref bt, .ref bc, .ref be, vi nB])] (gM (some (vi (if 5 ≤ nB then 1 else 0))) [(bo, cO 1 [.ref bp, .ref bq, .ref bx, .ref bf, .ref bl, .ref bt, .ref bc, .ref be, vi nB])]) := by
  refine gMet.of y_X1_isFull.2.2.2.2.1 (Nat.le_of_ble_eq_true rfl) ?_
  intro x hlx C hR hnm
  subst hlx
  have C : gC g x RX1 cX1_isFull 1 0 0 0 0 := C
  show gW g x [(bo, cO 1 [.ref bp, .ref bq, .ref bx, .ref bf, .ref bl, .ref bt, .ref bc, .ref be, vi nB])] 0 0 [(0, .ref bo)] 0 []
  refine g_aload_n C 0 dX1_isFull_0 rfl ?_
  refine g_getf C k_X1 8 f_X1_36 0 rfl rfl (by decide) rfl rfl dX1_isFull_1 ?_
  refine g_iconst C dX1_isFull_4 ?_
  refine g_icmp_lt C 12 dX1_isFull_5 (by decide) (by omega) (by omega) (fun c5 => ?_) (fun c5 => ?_)
  · refine g_iconst C dX1_isFull_12 ?_
    exact g_zretM C hR dX1_isFull_13 (by omega) (by first | rfl | omega) rfl rfl
  refine g_iconst C dX1_isFull_8 ?_
  refine g_goto C 13 dX1_isFull_9 (by decide) ?_
  exact g_zretM C hR dX1_isFull_13 (by omega) (by first | rfl | omega) rfl rfl

set_option maxHeartbeats 4000000 in
set_option maxRecDepth 100000 in
theorem c_X1_add (l : Launch) (g : gD) (bo : Nat) (bp : Nat) (bq : Nat) (bx : Nat) (bf : Nat) (bl : Nat) (bt : Nat) (bc : Nat) (be : Nat) (BP : Int → Int) (BQ : Int → Int) (BX : Int → Int) (BF : Int → Int) (BL : Int → Int) (BT : Int → Int) (BC : Int → Int) (BE : Int → Int) (nB : Int) (a1 : Int) (a2 : Int) (a3 : Int) (a4 : Int) (a5 : Int) (a6 : Int) (a7 : Int) (hnB : 0 ≤ nB ∧ nB < 5) : gMet l g yX1_add cX1_add 8 (some .int) 0 0 0 0 [.ref bo, vi a1, vi a2, vi a3, vi a4, vi a5, vi a6, vi a7] [(bo, cO 1 [.ref bp, .ref bq, .ref bx, .ref bf, .ref bl, .ref bt, .ref bc, .ref be, vi nB]), (bp, cA g 5 BP), (bq, cA g 5 BQ), (bx, cA g 5 BX), (bf, cA g 5 BF), (bl, cA g 5 BL), (bt, cA g 5 BT), (bc, cA g 5 BC), (be, cA g 5 BE)] (gM (some (vi nB)) [(bo, cO 1 [.ref bp, .ref bq, .ref bx, .ref bf, .ref bl, .ref bt, .ref bc, .ref be, vi (nB + 1)]), (bp, cA g 5 (up BP nB a1)), (bq, cA g 5 (up BQ nB a2)), (bx, cA g 5 (up BX nB a3)), (bf, cA g 5 (up BF nB a4)), (bl, cA g 5 (up BL nB a5)), (bt, cA g 5 (up BT nB a6)), (bc, cA g 5 (up BC nB a7)), (be, cA g 5 (up BE nB a5))]) := by
  refine gMet.of y_X1_add.2.2.2.2.1 (Nat.le_of_ble_eq_true rfl) ?_
  intro x hlx C hR hnm
  subst hlx
  have C : gC g x RX1 cX1_add 8 0 0 0 0 := C
  show gW g x [(bo, cO 1 [.ref bp, .ref bq, .ref bx, .ref bf, .ref bl, .ref bt, .ref bc, .ref be, vi nB]), (bp, cA g 5 BP), (bq, cA g 5 BQ), (bx, cA g 5 BX), (bf, cA g 5 BF), (bl, cA g 5 BL), (bt, cA g 5 BT), (bc, cA g 5 BC), (be, cA g 5 BE)] 0 0 [(0, .ref bo), (1, vi a1), (2, vi a2), (3, vi a3), (4, vi a4), (5, vi a5), (6, vi a6), (7, vi a7)] 0 []
  refine g_aload_n C 0 dX1_add_0 rfl ?_
  refine g_getf C k_X1 0 f_X1_9 0 rfl rfl (by decide) rfl rfl dX1_add_1 ?_
  refine g_aload_n C 0 dX1_add_4 rfl ?_
  refine g_getf C k_X1 8 f_X1_36 0 rfl rfl (by decide) rfl rfl dX1_add_5 ?_
  refine g_iload_n C 1 dX1_add_8 rfl ?_
  refine g_iast C 1 rfl (by omega) [(bo, cO 1 [.ref bp, .ref bq, .ref bx, .ref bf, .ref bl, .ref bt, .ref bc, .ref be, vi nB]), (bp, cA g 5 (up BP nB a1)), (bq, cA g 5 BQ), (bx, cA g 5 BX), (bf, cA g 5 BF), (bl, cA g 5 BL), (bt, cA g 5 BT), (bc, cA g 5 BC), (be, cA g 5 BE)] rfl dX1_add_9 ?_
  refine g_aload_n C 0 dX1_add_10 rfl ?_
  refine g_getf C k_X1 1 f_X1_15 0 rfl rfl (by decide) rfl rfl dX1_add_11 ?_
  refine g_aload_n C 0 dX1_add_14 rfl ?_
  refine g_getf C k_X1 8 f_X1_36 0 rfl rfl (by decide) rfl rfl dX1_add_15 ?_
  refine g_iload_n C 2 dX1_add_18 rfl ?_
  refine g_iast C 2 rfl (by omega) [(bo, cO 1 [.ref bp, .ref bq, .ref bx, .ref bf, .ref bl, .ref bt, .ref bc, .ref be, vi nB]), (bp, cA g 5 (up BP nB a1)), (bq, cA g 5 (up BQ nB a2)), (bx, cA g 5 BX), (bf, cA g 5 BF), (bl, cA g 5 BL), (bt, cA g 5 BT), (bc, cA g 5 BC), (be, cA g 5 BE)] rfl dX1_add_19 ?_
  refine g_aload_n C 0 dX1_add_20 rfl ?_
  refine g_getf C k_X1 2 f_X1_18 0 rfl rfl (by decide) rfl rfl dX1_add_21 ?_
  refine g_aload_n C 0 dX1_add_24 rfl ?_
  refine g_getf C k_X1 8 f_X1_36 0 rfl rfl (by decide) rfl rfl dX1_add_25 ?_
  refine g_iload_n C 3 dX1_add_28 rfl ?_
  refine g_iast C 3 rfl (by omega) [(bo, cO 1 [.ref bp, .ref bq, .ref bx, .ref bf, .ref bl, .ref bt, .ref bc, .ref be, vi nB]), (bp, cA g 5 (up BP nB a1)), (bq, cA g 5 (up BQ nB a2)), (bx, cA g 5 (up BX nB a3)), (bf, cA g 5 BF), (bl, cA g 5 BL), (bt, cA g 5 BT), (bc, cA g 5 BC), (be, cA g 5 BE)] rfl dX1_add_29 ?_
  refine g_aload_n C 0 dX1_add_30 rfl ?_
  refine g_getf C k_X1 3 f_X1_21 0 rfl rfl (by decide) rfl rfl dX1_add_31 ?_
  refine g_aload_n C 0 dX1_add_34 rfl ?_
  refine g_getf C k_X1 8 f_X1_36 0 rfl rfl (by decide) rfl rfl dX1_add_35 ?_
  refine g_iload C 4 dX1_add_38 rfl ?_
  refine g_iast C 4 rfl (by omega) [(bo, cO 1 [.ref bp, .ref bq, .ref bx, .ref bf, .ref bl, .ref bt, .ref bc, .ref be, vi nB]), (bp, cA g 5 (up BP nB a1)), (bq, cA g 5 (up BQ nB a2)), (bx, cA g 5 (up BX nB a3)), (bf, cA g 5 (up BF nB a4)), (bl, cA g 5 BL), (bt, cA g 5 BT), (bc, cA g 5 BC), (be, cA g 5 BE)] rfl dX1_add_40 ?_
  refine g_aload_n C 0 dX1_add_41 rfl ?_
  refine g_getf C k_X1 4 f_X1_24 0 rfl rfl (by decide) rfl rfl dX1_add_42 ?_
  refine g_aload_n C 0 dX1_add_45 rfl ?_
  refine g_getf C k_X1 8 f_X1_36 0 rfl rfl (by decide) rfl rfl dX1_add_46 ?_
  refine g_iload C 5 dX1_add_49 rfl ?_
  refine g_iast C 5 rfl (by omega) [(bo, cO 1 [.ref bp, .ref bq, .ref bx, .ref bf, .ref bl, .ref bt, .ref bc, .ref be, vi nB]), (bp, cA g 5 (up BP nB a1)), (bq, cA g 5 (up BQ nB a2)), (bx, cA g 5 (up BX nB a3)), (bf, cA g 5 (up BF nB a4)), (bl, cA g 5 (up BL nB a5)), (bt, cA g 5 BT), (bc, cA g 5 BC), (be, cA g 5 BE)] rfl dX1_add_51 ?_
  refine g_aload_n C 0 dX1_add_52 rfl ?_
  refine g_getf C k_X1 5 f_X1_27 0 rfl rfl (by decide) rfl rfl dX1_add_53 ?_
  refine g_aload_n C 0 dX1_add_56 rfl ?_
  refine g_getf C k_X1 8 f_X1_36 0 rfl rfl (by decide) rfl rfl dX1_add_57 ?_
  refine g_iload C 6 dX1_add_60 rfl ?_
  refine g_iast C 6 rfl (by omega) [(bo, cO 1 [.ref bp, .ref bq, .ref bx, .ref bf, .ref bl, .ref bt, .ref bc, .ref be, vi nB]), (bp, cA g 5 (up BP nB a1)), (bq, cA g 5 (up BQ nB a2)), (bx, cA g 5 (up BX nB a3)), (bf, cA g 5 (up BF nB a4)), (bl, cA g 5 (up BL nB a5)), (bt, cA g 5 (up BT nB a6)), (bc, cA g 5 BC), (be, cA g 5 BE)] rfl dX1_add_62 ?_
  refine g_aload_n C 0 dX1_add_63 rfl ?_
  refine g_getf C k_X1 6 f_X1_30 0 rfl rfl (by decide) rfl rfl dX1_add_64 ?_
  refine g_aload_n C 0 dX1_add_67 rfl ?_
  refine g_getf C k_X1 8 f_X1_36 0 rfl rfl (by decide) rfl rfl dX1_add_68 ?_
  refine g_iload C 7 dX1_add_71 rfl ?_
  refine g_iast C 7 rfl (by omega) [(bo, cO 1 [.ref bp, .ref bq, .ref bx, .ref bf, .ref bl, .ref bt, .ref bc, .ref be, vi nB]), (bp, cA g 5 (up BP nB a1)), (bq, cA g 5 (up BQ nB a2)), (bx, cA g 5 (up BX nB a3)), (bf, cA g 5 (up BF nB a4)), (bl, cA g 5 (up BL nB a5)), (bt, cA g 5 (up BT nB a6)), (bc, cA g 5 (up BC nB a7)), (be, cA g 5 BE)] rfl dX1_add_73 ?_
  refine g_aload_n C 0 dX1_add_74 rfl ?_
  refine g_getf C k_X1 7 f_X1_33 0 rfl rfl (by decide) rfl rfl dX1_add_75 ?_
  refine g_aload_n C 0 dX1_add_78 rfl ?_
  refine g_getf C k_X1 8 f_X1_36 0 rfl rfl (by decide) rfl rfl dX1_add_79 ?_
  refine g_iload C 5 dX1_add_82 rfl ?_
  refine g_iast C 8 rfl (by omega) [(bo, cO 1 [.ref bp, .ref bq, .ref bx, .ref bf, .ref bl, .ref bt, .ref bc, .ref be, vi nB]), (bp, cA g 5 (up BP nB a1)), (bq, cA g 5 (up BQ nB a2)), (bx, cA g 5 (up BX nB a3)), (bf, cA g 5 (up BF nB a4)), (bl, cA g 5 (up BL nB a5)), (bt, cA g 5 (up BT nB a6)), (bc, cA g 5 (up BC nB a7)), (be, cA g 5 (up BE nB a5))] rfl dX1_add_84 ?_
  refine g_aload_n C 0 dX1_add_85 rfl ?_
  refine g_dup C dX1_add_86 rfl ?_
  refine g_getf C k_X1 8 f_X1_36 0 rfl rfl (by decide) rfl rfl dX1_add_87 ?_
  refine g_iconst C dX1_add_90 ?_
  refine g_iadd C dX1_add_91 ?_
  refine g_putf C k_X1 tyX1_ok nmX1 8 f_X1_36 0 rfl rfl (by decide) rfl rfl rfl rfl (Nat.le_of_ble_eq_true rfl) [(bo, cO 1 [.ref bp, .ref bq, .ref bx, .ref bf, .ref bl, .ref bt, .ref bc, .ref be, vi (nB + 1)]), (bp, cA g 5 (up BP nB a1)), (bq, cA g 5 (up BQ nB a2)), (bx, cA g 5 (up BX nB a3)), (bf, cA g 5 (up BF nB a4)), (bl, cA g 5 (up BL nB a5)), (bt, cA g 5 (up BT nB a6)), (bc, cA g 5 (up BC nB a7)), (be, cA g 5 (up BE nB a5))] rfl dX1_add_92 ?_
  refine g_aload_n C 0 dX1_add_95 rfl ?_
  refine g_getf C k_X1 8 f_X1_36 0 rfl rfl (by decide) rfl rfl dX1_add_96 ?_
  refine g_iconst C dX1_add_99 ?_
  refine g_isub C dX1_add_100 ?_
  exact g_iretM C hR dX1_add_101 (by first | rfl | omega) rfl rfl

set_option maxHeartbeats 4000000 in
set_option maxRecDepth 100000 in
theorem c_X1_isExtended (l : Launch) (g : gD) (bo : Nat) (bp : Nat) (bq : Nat) (bx : Nat) (bf : Nat) (bl : Nat) (bt : Nat) (bc : Nat) (be : Nat) (BL : Int → Int) (BE : Int → Int) (nB : Int) (b : Int) (hBL : ∀ k, 0 ≤ BL k ∧ BL k ≤ 2199) (hBE : ∀ k, 0 ≤ BE k ∧ BE k ≤ 2699) (hb : 0 ≤ b ∧ b < 5) : gMet l g yX1_isExtended cX1_isExtended 2 (some .boolean) 0 0 0 0 [.ref bo, vi b] [(bo, cO 1 [.ref bp, .ref bq, .ref bx, .ref bf, .ref bl, .ref bt, .ref bc, .ref be, vi nB]), (bl, cA g 5 BL), (be, cA g 5 BE)] (gM (some (vi (if BL b < BE b then 1 else 0))) [(bo, cO 1 [.ref bp, .ref bq, .ref bx, .ref bf, .ref bl, .ref bt, .ref bc, .ref be, vi nB]), (bl, cA g 5 BL), (be, cA g 5 BE)]) := by
  refine gMet.of y_X1_isExtended.2.2.2.2.1 (Nat.le_of_ble_eq_true rfl) ?_
  intro x hlx C hR hnm
  subst hlx
  have C : gC g x RX1 cX1_isExtended 2 0 0 0 0 := C
  show gW g x [(bo, cO 1 [.ref bp, .ref bq, .ref bx, .ref bf, .ref bl, .ref bt, .ref bc, .ref be, vi nB]), (bl, cA g 5 BL), (be, cA g 5 BE)] 0 0 [(0, .ref bo), (1, vi b)] 0 []
  refine g_aload_n C 0 dX1_isExtended_0 rfl ?_
  refine g_getf C k_X1 7 f_X1_33 0 rfl rfl (by decide) rfl rfl dX1_isExtended_1 ?_
  refine g_iload_n C 1 dX1_isExtended_4 rfl ?_
  refine g_iald C 2 rfl (by omega) dX1_isExtended_5 ?_
  have r1_5 := hBE b
  refine g_aload_n C 0 dX1_isExtended_6 rfl ?_
  refine g_getf C k_X1 4 f_X1_24 0 rfl rfl (by decide) rfl rfl dX1_isExtended_7 ?_
  refine g_iload_n C 1 dX1_isExtended_10 rfl ?_
  refine g_iald C 1 rfl (by omega) dX1_isExtended_11 ?_
  have r2_11 := hBL b
  refine g_icmp_le C 19 dX1_isExtended_12 (by decide) (by omega) (by omega) (fun c12 => ?_) (fun c12 => ?_)
  · refine g_iconst C dX1_isExtended_19 ?_
    exact g_zretM C hR dX1_isExtended_20 (by omega) (by first | rfl | omega) rfl rfl
  refine g_iconst C dX1_isExtended_15 ?_
  refine g_goto C 20 dX1_isExtended_16 (by decide) ?_
  exact g_zretM C hR dX1_isExtended_20 (by omega) (by first | rfl | omega) rfl rfl

set_option maxHeartbeats 4000000 in
set_option maxRecDepth 100000 in
theorem c_X1_isInTrust (l : Launch) (g : gD) (bo : Nat) (bp : Nat) (bq : Nat) (bx : Nat) (bf : Nat) (bl : Nat) (bt : Nat) (bc : Nat) (be : Nat) (BE : Int → Int) (nB : Int) (b : Int) (h : Int) (hBE : ∀ k, 0 ≤ BE k ∧ BE k ≤ 2699) (hb : 0 ≤ b ∧ b < 5) (hh : -2147483648 ≤ h ∧ h < 2147483648) : gMet l g yX1_isInTrust cX1_isInTrust 3 (some .boolean) 0 0 0 0 [.ref bo, vi b, vi h] [(bo, cO 1 [.ref bp, .ref bq, .ref bx, .ref bf, .ref bl, .ref bt, .ref bc, .ref be, vi nB]), (be, cA g 5 BE)] (gM (some (vi (if h ≤ BE b then 1 else 0))) [(bo, cO 1 [.ref bp, .ref bq, .ref bx, .ref bf, .ref bl, .ref bt, .ref bc, .ref be, vi nB]), (be, cA g 5 BE)]) := by
  refine gMet.of y_X1_isInTrust.2.2.2.2.1 (Nat.le_of_ble_eq_true rfl) ?_
  intro x hlx C hR hnm
  subst hlx
  have C : gC g x RX1 cX1_isInTrust 3 0 0 0 0 := C
  show gW g x [(bo, cO 1 [.ref bp, .ref bq, .ref bx, .ref bf, .ref bl, .ref bt, .ref bc, .ref be, vi nB]), (be, cA g 5 BE)] 0 0 [(0, .ref bo), (1, vi b), (2, vi h)] 0 []
  refine g_iload_n C 2 dX1_isInTrust_0 rfl ?_
  refine g_aload_n C 0 dX1_isInTrust_1 rfl ?_
  refine g_getf C k_X1 7 f_X1_33 0 rfl rfl (by decide) rfl rfl dX1_isInTrust_2 ?_
  refine g_iload_n C 1 dX1_isInTrust_5 rfl ?_
  refine g_iald C 1 rfl (by omega) dX1_isInTrust_6 ?_
  have r1_6 := hBE b
  refine g_icmp_gt C 14 dX1_isInTrust_7 (by decide) (by omega) (by omega) (fun c7 => ?_) (fun c7 => ?_)
  · refine g_iconst C dX1_isInTrust_14 ?_
    exact g_zretM C hR dX1_isInTrust_15 (by omega) (by first | rfl | omega) rfl rfl
  refine g_iconst C dX1_isInTrust_10 ?_
  refine g_goto C 15 dX1_isInTrust_11 (by decide) ?_
  exact g_zretM C hR dX1_isInTrust_15 (by omega) (by first | rfl | omega) rfl rfl

set_option maxHeartbeats 4000000 in
set_option maxRecDepth 100000 in
theorem c_X1_lengthen (l : Launch) (g : gD) (bo : Nat) (bp : Nat) (bq : Nat) (bx : Nat) (bf : Nat) (bl : Nat) (bt : Nat) (bc : Nat) (be : Nat) (BL : Int → Int) (BE : Int → Int) (nB : Int) (b : Int) (h : Int) (hb : 0 ≤ b ∧ b < 5) : gMet l g yX1_lengthen cX1_lengthen 3 (some .int) 0 0 0 0 [.ref bo, vi b, vi h] [(bo, cO 1 [.ref bp, .ref bq, .ref bx, .ref bf, .ref bl, .ref bt, .ref bc, .ref be, vi nB]), (bl, cA g 5 BL), (be, cA g 5 BE)] (gM (some (vi (BL b + h))) [(bo, cO 1 [.ref bp, .ref bq, .ref bx, .ref bf, .ref bl, .ref bt, .ref bc, .ref be, vi nB]), (bl, cA g 5 BL), (be, cA g 5 (up BE b (BL b + h)))]) := by
  refine gMet.of y_X1_lengthen.2.2.2.2.1 (Nat.le_of_ble_eq_true rfl) ?_
  intro x hlx C hR hnm
  subst hlx
  have C : gC g x RX1 cX1_lengthen 3 0 0 0 0 := C
  show gW g x [(bo, cO 1 [.ref bp, .ref bq, .ref bx, .ref bf, .ref bl, .ref bt, .ref bc, .ref be, vi nB]), (bl, cA g 5 BL), (be, cA g 5 BE)] 0 0 [(0, .ref bo), (1, vi b), (2, vi h)] 0 []
  refine g_aload_n C 0 dX1_lengthen_0 rfl ?_
  refine g_getf C k_X1 7 f_X1_33 0 rfl rfl (by decide) rfl rfl dX1_lengthen_1 ?_
  refine g_iload_n C 1 dX1_lengthen_4 rfl ?_
  refine g_aload_n C 0 dX1_lengthen_5 rfl ?_
  refine g_getf C k_X1 4 f_X1_24 0 rfl rfl (by decide) rfl rfl dX1_lengthen_6 ?_
  refine g_iload_n C 1 dX1_lengthen_9 rfl ?_
  refine g_iald C 1 rfl (by omega) dX1_lengthen_10 ?_
  refine g_iload_n C 2 dX1_lengthen_11 rfl ?_
  refine g_iadd C dX1_lengthen_12 ?_
  refine g_iast C 2 rfl (by omega) [(bo, cO 1 [.ref bp, .ref bq, .ref bx, .ref bf, .ref bl, .ref bt, .ref bc, .ref be, vi nB]), (bl, cA g 5 BL), (be, cA g 5 (up BE b ((BL b) + h)))] rfl dX1_lengthen_13 ?_
  refine g_aload_n C 0 dX1_lengthen_14 rfl ?_
  refine g_getf C k_X1 7 f_X1_33 0 rfl rfl (by decide) rfl rfl dX1_lengthen_15 ?_
  refine g_iload_n C 1 dX1_lengthen_18 rfl ?_
  refine g_iald C 2 rfl (by omega) dX1_lengthen_19 ?_
  refine g_val (w := (BL b) + h) up_s ?_
  exact g_iretM C hR dX1_lengthen_20 (by first | rfl | omega) rfl rfl

set_option maxHeartbeats 4000000 in
set_option maxRecDepth 100000 in
theorem c_X1_principalOf (l : Launch) (g : gD) (bo : Nat) (bp : Nat) (bq : Nat) (bx : Nat) (bf : Nat) (bl : Nat) (bt : Nat) (bc : Nat) (be : Nat) (BP : Int → Int) (nB : Int) (b : Int) (hb : 0 ≤ b ∧ b < 5) : gMet l g yX1_principalOf cX1_principalOf 2 (some .int) 0 0 0 0 [.ref bo, vi b] [(bo, cO 1 [.ref bp, .ref bq, .ref bx, .ref bf, .ref bl, .ref bt, .ref bc, .ref be, vi nB]), (bp, cA g 5 BP)] (gM (some (vi (BP b))) [(bo, cO 1 [.ref bp, .ref bq, .ref bx, .ref bf, .ref bl, .ref bt, .ref bc, .ref be, vi nB]), (bp, cA g 5 BP)]) := by
  refine gMet.of y_X1_principalOf.2.2.2.2.1 (Nat.le_of_ble_eq_true rfl) ?_
  intro x hlx C hR hnm
  subst hlx
  have C : gC g x RX1 cX1_principalOf 2 0 0 0 0 := C
  show gW g x [(bo, cO 1 [.ref bp, .ref bq, .ref bx, .ref bf, .ref bl, .ref bt, .ref bc, .ref be, vi nB]), (bp, cA g 5 BP)] 0 0 [(0, .ref bo), (1, vi b)] 0 []
  refine g_aload_n C 0 dX1_principalOf_0 rfl ?_
  refine g_getf C k_X1 0 f_X1_9 0 rfl rfl (by decide) rfl rfl dX1_principalOf_1 ?_
  refine g_iload_n C 1 dX1_principalOf_4 rfl ?_
  refine g_iald C 1 rfl (by omega) dX1_principalOf_5 ?_
  exact g_iretM C hR dX1_principalOf_6 rfl rfl rfl

set_option maxHeartbeats 4000000 in
set_option maxRecDepth 100000 in
theorem c_X1_indexOf (l : Launch) (g : gD) (bo : Nat) (bp : Nat) (bq : Nat) (bx : Nat) (bf : Nat) (bl : Nat) (bt : Nat) (bc : Nat) (be : Nat) (BQ : Int → Int) (BX : Int → Int) (BF : Int → Int) (BL : Int → Int) (nB : Int) (eo : Nat) (ec : Nat) (ef : Nat) (es : Nat) (eh : Nat) (ep : Nat) (ex : Nat) (EC : Int → Int) (EF : Int → Int) (ES : Int → Int) (EH : Int → Int) (EP : Int → Int) (EX : Int → Int) (nE : Int) (nR : Int) (b : Int) (hBQ : ∀ k, 0 ≤ BQ k ∧ BQ k ≤ 2) (hBX : ∀ k, 0 ≤ BX k ∧ BX k ≤ 65535) (hBF : ∀ k, 0 ≤ BF k ∧ BF k ≤ 2199) (hBL : ∀ k, 0 ≤ BL k ∧ BL k ≤ 2199) (hEC : ∀ k, 0 ≤ EC k ∧ EC k ≤ 15) (hEF : ∀ k, 0 ≤ EF k ∧ EF k ≤ 2200) (hES : ∀ k, 0 ≤ ES k ∧ ES k ≤ 5) (hEH : ∀ k, 0 ≤ EH k ∧ EH k ≤ 2199) (hEP : ∀ k, 0 ≤ EP k ∧ EP k ≤ 2) (hEX : ∀ k, 0 ≤ EX k ∧ EX k ≤ 9) (hnE : 0 ≤ nE ∧ nE ≤ 6) (hnR : 0 ≤ nR ∧ nR ≤ 60) (hEn : ∀ k9, 0 ≤ k9 → k9 < nR → ES k9 < nE) (hb : 0 ≤ b ∧ b < 5) : gMet l g yX1_indexOf cX1_indexOf 3 (some .int) 4 0 0 119 [.ref bo, vi b, .ref eo] [(bo, cO 1 [.ref bp, .ref bq, .ref bx, .ref bf, .ref bl, .ref bt, .ref bc, .ref be, vi nB]), (bq, cA g 5 BQ), (bx, cA g 5 BX), (bf, cA g 5 BF), (bl, cA g 5 BL), (eo, cO 6 [.ref ec, .ref ef, .ref es, .ref eh, .ref ep, .ref ex, vi nE, vi nR]), (ec, cA g 6 EC), (ef, cA g 6 EF), (es, cA g 60 ES), (eh, cA g 60 EH), (ep, cA g 60 EP), (ex, cA g 60 EX)] (gM (some (vi (idx9 EC EF ES EH EP EX nE nR BQ BX BF BL b))) [(bo, cO 1 [.ref bp, .ref bq, .ref bx, .ref bf, .ref bl, .ref bt, .ref bc, .ref be, vi nB]), (bq, cA g 5 BQ), (bx, cA g 5 BX), (bf, cA g 5 BF), (bl, cA g 5 BL), (eo, cO 6 [.ref ec, .ref ef, .ref es, .ref eh, .ref ep, .ref ex, vi nE, vi nR]), (ec, cA g 6 EC), (ef, cA g 6 EF), (es, cA g 60 ES), (eh, cA g 60 EH), (ep, cA g 60 EP), (ex, cA g 60 EX)]) := by
  refine gMet.of y_X1_indexOf.2.2.2.2.1 (Nat.le_of_ble_eq_true rfl) ?_
  intro x hlx C hR hnm
  subst hlx
  have C : gC g x RX1 cX1_indexOf 3 4 0 0 119 := C
  show gW g x [(bo, cO 1 [.ref bp, .ref bq, .ref bx, .ref bf, .ref bl, .ref bt, .ref bc, .ref be, vi nB]), (bq, cA g 5 BQ), (bx, cA g 5 BX), (bf, cA g 5 BF), (bl, cA g 5 BL), (eo, cO 6 [.ref ec, .ref ef, .ref es, .ref eh, .ref ep, .ref ex, vi nE, vi nR]), (ec, cA g 6 EC), (ef, cA g 6 EF), (es, cA g 60 ES), (eh, cA g 60 EH), (ep, cA g 60 EP), (ex, cA g 60 EX)] 0 0 [(0, .ref bo), (1, vi b), (2, .ref eo)] 0 []
  refine g_aload_n C 2 dX1_indexOf_0 rfl ?_
  refine g_aload_n C 0 dX1_indexOf_1 rfl ?_
  refine g_getf C k_X1 1 f_X1_15 0 rfl rfl (by decide) rfl rfl dX1_indexOf_2 ?_
  refine g_iload_n C 1 dX1_indexOf_5 rfl ?_
  refine g_iald C 1 rfl (by omega) dX1_indexOf_6 ?_
  have r1_6 := hBQ b
  refine g_aload_n C 0 dX1_indexOf_7 rfl ?_
  refine g_getf C k_X1 2 f_X1_18 0 rfl rfl (by decide) rfl rfl dX1_indexOf_8 ?_
  refine g_iload_n C 1 dX1_indexOf_11 rfl ?_
  refine g_iald C 2 rfl (by omega) dX1_indexOf_12 ?_
  have r2_12 := hBX b
  refine g_aload_n C 0 dX1_indexOf_13 rfl ?_
  refine g_getf C k_X1 3 f_X1_21 0 rfl rfl (by decide) rfl rfl dX1_indexOf_14 ?_
  refine g_iload_n C 1 dX1_indexOf_17 rfl ?_
  refine g_iald C 3 rfl (by omega) dX1_indexOf_18 ?_
  have r3_18 := hBF b
  refine g_aload_n C 0 dX1_indexOf_19 rfl ?_
  refine g_getf C k_X1 4 f_X1_24 0 rfl rfl (by decide) rfl rfl dX1_indexOf_20 ?_
  refine g_iload_n C 1 dX1_indexOf_23 rfl ?_
  refine g_iald C 4 rfl (by omega) dX1_indexOf_24 ?_
  have r4_24 := hBL b
  refine g_callVp C [vi (BQ b), vi (BX b), vi (BF b), vi (BL b)] [] (c_X6_greatestStrength x.1.2.1 g eo ec ef es eh ep ex EC EF ES EH EP EX nE nR (BQ b) (BX b) (BF b) (BL b) hEC hEF hES hEH hEP hEX hnE hnR hEn (by omega) (by omega) (by omega) (by omega)) y_X6_greatestStrength l_X1_40 [5, 6, 7, 8, 9, 10, 11] rfl (by decide) 5 rfl rfl rfl (Nat.le_of_ble_eq_true rfl) rfl (by decide) dX1_indexOf_25 ?_
  exact g_iretM C hR dX1_indexOf_28 (by first | rfl | omega) rfl rfl

set_option maxHeartbeats 4000000 in
set_option maxRecDepth 100000 in
theorem c_X1_standInOf (l : Launch) (g : gD) (bo : Nat) (bp : Nat) (bq : Nat) (bx : Nat) (bf : Nat) (bl : Nat) (bt : Nat) (bc : Nat) (be : Nat) (BX : Int → Int) (BL : Int → Int) (nB : Int) (eo : Nat) (ec : Nat) (ef : Nat) (es : Nat) (eh : Nat) (ep : Nat) (ex : Nat) (EC : Int → Int) (EF : Int → Int) (nE : Int) (nR : Int) (b : Int) (hBX : ∀ k, 0 ≤ BX k ∧ BX k ≤ 65535) (hBL : ∀ k, 0 ≤ BL k ∧ BL k ≤ 2199) (hEC : ∀ k, 0 ≤ EC k ∧ EC k ≤ 15) (hEF : ∀ k, 0 ≤ EF k ∧ EF k ≤ 2200) (hnE : 0 ≤ nE ∧ nE ≤ 6) (hb : 0 ≤ b ∧ b < 5) : gMet l g yX1_standInOf cX1_standInOf 3 (some .int) 3 0 0 91 [.ref bo, vi b, .ref eo] [(bo, cO 1 [.ref bp, .ref bq, .ref bx, .ref bf, .ref bl, .ref bt, .ref bc, .ref be, vi nB]), (bx, cA g 5 BX), (bl, cA g 5 BL), (eo, cO 6 [.ref ec, .ref ef, .ref es, .ref eh, .ref ep, .ref ex, vi nE, vi nR]), (ec, cA g 6 EC), (ef, cA g 6 EF)] (gM (some (vi (sti EC EF (BX b) (BL b) nE))) [(bo, cO 1 [.ref bp, .ref bq, .ref bx, .ref bf, .ref bl, .ref bt, .ref bc, .ref be, vi nB]), (bx, cA g 5 BX), (bl, cA g 5 BL), (eo, cO 6 [.ref ec, .ref ef, .ref es, .ref eh, .ref ep, .ref ex, vi nE, vi nR]), (ec, cA g 6 EC), (ef, cA g 6 EF)]) := by
  refine gMet.of y_X1_standInOf.2.2.2.2.1 (Nat.le_of_ble_eq_true rfl) ?_
  intro x hlx C hR hnm
  subst hlx
  have C : gC g x RX1 cX1_standInOf 3 3 0 0 91 := C
  show gW g x [(bo, cO 1 [.ref bp, .ref bq, .ref bx, .ref bf, .ref bl, .ref bt, .ref bc, .ref be, vi nB]), (bx, cA g 5 BX), (bl, cA g 5 BL), (eo, cO 6 [.ref ec, .ref ef, .ref es, .ref eh, .ref ep, .ref ex, vi nE, vi nR]), (ec, cA g 6 EC), (ef, cA g 6 EF)] 0 0 [(0, .ref bo), (1, vi b), (2, .ref eo)] 0 []
  refine g_aload_n C 2 dX1_standInOf_0 rfl ?_
  refine g_aload_n C 0 dX1_standInOf_1 rfl ?_
  refine g_getf C k_X1 2 f_X1_18 0 rfl rfl (by decide) rfl rfl dX1_standInOf_2 ?_
  refine g_iload_n C 1 dX1_standInOf_5 rfl ?_
  refine g_iald C 1 rfl (by omega) dX1_standInOf_6 ?_
  have r1_6 := hBX b
  refine g_aload_n C 0 dX1_standInOf_7 rfl ?_
  refine g_getf C k_X1 4 f_X1_24 0 rfl rfl (by decide) rfl rfl dX1_standInOf_8 ?_
  refine g_iload_n C 1 dX1_standInOf_11 rfl ?_
  refine g_iald C 2 rfl (by omega) dX1_standInOf_12 ?_
  have r2_12 := hBL b
  refine g_callVp C [vi (BX b), vi (BL b)] [] (c_X6_standInFor x.1.2.1 g eo ec ef es eh ep ex EC EF nE nR (BX b) (BL b) hEC hEF hnE (by omega) (by omega)) y_X6_standInFor l_X1_46 [3, 4, 5] rfl (by decide) 3 rfl rfl rfl (Nat.le_of_ble_eq_true rfl) rfl (by decide) dX1_standInOf_13 ?_
  exact g_iretM C hR dX1_standInOf_16 rfl rfl rfl

set_option maxHeartbeats 4000000 in
set_option maxRecDepth 100000 in
theorem c_X1_payoutAt (l : Launch) (g : gD) (bo : Nat) (bp : Nat) (bq : Nat) (bx : Nat) (bf : Nat) (bl : Nat) (bt : Nat) (bc : Nat) (be : Nat) (BP : Int → Int) (BT : Int → Int) (BC : Int → Int) (nB : Int) (b : Int) (v : Int) (hBP : ∀ k, 0 ≤ BP k ∧ BP k ≤ 999999) (hBT : ∀ k, 0 ≤ BT k ∧ BT k ≤ 9) (hBC : ∀ k, 0 ≤ BC k ∧ BC k ≤ 100) (hb : 0 ≤ b ∧ b < 5) (hv : 0 ≤ v ∧ v ≤ 9) : gMet l g yX1_payoutAt cX1_payoutAt 5 (some .int) 0 0 0 0 [.ref bo, vi b, vi v] [(bo, cO 1 [.ref bp, .ref bq, .ref bx, .ref bf, .ref bl, .ref bt, .ref bc, .ref be, vi nB]), (bp, cA g 5 BP), (bt, cA g 5 BT), (bc, cA g 5 BC)] (gM (some (vi (pyo BP BT BC b v))) [(bo, cO 1 [.ref bp, .ref bq, .ref bx, .ref bf, .ref bl, .ref bt, .ref bc, .ref be, vi nB]), (bp, cA g 5 BP), (bt, cA g 5 BT), (bc, cA g 5 BC)]) := by
  refine gMet.of y_X1_payoutAt.2.2.2.2.1 (Nat.le_of_ble_eq_true rfl) ?_
  intro x hlx C hR hnm
  subst hlx
  have C : gC g x RX1 cX1_payoutAt 5 0 0 0 0 := C
  show gW g x [(bo, cO 1 [.ref bp, .ref bq, .ref bx, .ref bf, .ref bl, .ref bt, .ref bc, .ref be, vi nB]), (bp, cA g 5 BP), (bt, cA g 5 BT), (bc, cA g 5 BC)] 0 0 [(0, .ref bo), (1, vi b), (2, vi v)] 0 []
  refine g_iload_n C 2 dX1_payoutAt_0 rfl ?_
  refine g_aload_n C 0 dX1_payoutAt_1 rfl ?_
  refine g_getf C k_X1 5 f_X1_27 0 rfl rfl (by decide) rfl rfl dX1_payoutAt_2 ?_
  refine g_iload_n C 1 dX1_payoutAt_5 rfl ?_
  refine g_iald C 2 rfl (by omega) dX1_payoutAt_6 ?_
  have r1_6 := hBT b
  refine g_icmp_ge C 12 dX1_payoutAt_7 (by decide) (by omega) (by omega) (fun c7 => ?_) (fun c7 => ?_)
  · refine g_aload_n C 0 dX1_payoutAt_12 rfl ?_
    refine g_getf C k_X1 6 f_X1_30 0 rfl rfl (by decide) rfl rfl dX1_payoutAt_13 ?_
    refine g_iload_n C 1 dX1_payoutAt_16 rfl ?_
    refine g_iald C 3 rfl (by omega) dX1_payoutAt_17 ?_
    have r2_17 := hBC b
    refine g_aload_n C 0 dX1_payoutAt_18 rfl ?_
    refine g_getf C k_X1 0 f_X1_9 0 rfl rfl (by decide) rfl rfl dX1_payoutAt_19 ?_
    refine g_iload_n C 1 dX1_payoutAt_22 rfl ?_
    refine g_iald C 1 rfl (by omega) dX1_payoutAt_23 ?_
    have r3_23 := hBP b
    refine g_imul C dX1_payoutAt_24 ?_
    refine g_bipush C dX1_payoutAt_25 (by decide) ?_
    have hm9 := mul_rng (hBC b) (hBP b)
    refine g_idiv C dX1_payoutAt_27 (by omega) (by omega) ?_
    refine g_istore_n C [(3, vi (((BC b) * (BP b)) / 100)), (0, .ref bo), (1, vi b), (2, vi v)] dX1_payoutAt_28 (by decide) rfl ?_
    refine g_aload_n C 1 dX1_payoutAt_29 rfl ?_
    refine g_getf C k_X1 5 f_X1_27 0 rfl rfl (by decide) rfl rfl dX1_payoutAt_30 ?_
    refine g_iload_n C 2 dX1_payoutAt_33 rfl ?_
    refine g_iald C 2 rfl (by omega) dX1_payoutAt_34 ?_
    have r4_34 := hBT b
    refine g_istore C [(4, vi (BT b)), (3, vi (((BC b) * (BP b)) / 100)), (0, .ref bo), (1, vi b), (2, vi v)] dX1_payoutAt_35 (by decide) rfl ?_
    have L37 : ∀ (f : Nat) (j : Int) (pa : Int), (BT b ≤ j ∧ j ≤ v ∧ pa = po9 (BP b) (BC b) (j - BT b)) → (v - j).toNat < f → gW g x [(bo, cO 1 [.ref bp, .ref bq, .ref bx, .ref bf, .ref bl, .ref bt, .ref bc, .ref be, vi nB]), (bp, cA g 5 BP), (bt, cA g 5 BT), (bc, cA g 5 BC)] 0 0 [(4, vi j), (3, vi pa), (0, .ref bo), (1, vi b), (2, vi v)] 37 [] := by
      intro f
      induction f with
      | zero => intro j pa hI37 hf; exact absurd hf (Nat.not_lt_zero _)
      | succ f ih37 =>
        intro j pa hI37 hf37
        obtain ⟨hj0, hj1, hp⟩ := hI37
        have hr9 := po9_r (hBP b) (hBC b) (n := j - BT b) (by omega)
        have hp9 := hBP b
        refine g_iload C 0 dX1_payoutAt_37 rfl ?_
        refine g_iload_n C 4 dX1_payoutAt_39 rfl ?_
        refine g_icmp_ge C 62 dX1_payoutAt_40 (by decide) (by omega) (by omega) (fun c40 => ?_) (fun c40 => ?_)
        · refine g_iload_n C 1 dX1_payoutAt_62 rfl ?_
          exact g_iretM C hR dX1_payoutAt_63 (by unfold pyo; rw [if_neg (by omega), hp, show j = v by omega]) rfl rfl
        refine g_iload_n C 1 dX1_payoutAt_43 rfl ?_
        refine g_aload_n C 2 dX1_payoutAt_44 rfl ?_
        refine g_getf C k_X1 0 f_X1_9 0 rfl rfl (by decide) rfl rfl dX1_payoutAt_45 ?_
        refine g_iload_n C 3 dX1_payoutAt_48 rfl ?_
        refine g_iald C 1 rfl (by omega) dX1_payoutAt_49 ?_
        have r5_49 := hBP b
        refine g_iload_n C 1 dX1_payoutAt_50 rfl ?_
        refine g_isub C dX1_payoutAt_51 ?_
        refine g_iconst C dX1_payoutAt_52 ?_
        refine g_idiv C dX1_payoutAt_53 (by omega) (by omega) ?_
        refine g_iadd C dX1_payoutAt_54 ?_
        refine g_istore_n C [(3, vi (pa + (((BP b) - pa) / 2))), (4, vi j), (0, .ref bo), (1, vi b), (2, vi v)] dX1_payoutAt_55 (by decide) rfl ?_
        refine g_iinc C 1 [(4, vi (j + 1)), (3, vi (pa + (((BP b) - pa) / 2))), (0, .ref bo), (1, vi b), (2, vi v)] dX1_payoutAt_56 rfl (by decide) rfl ?_
        refine g_goto C 37 dX1_payoutAt_59 (by decide) ?_
        exact ih37 (j + 1) (pa + (((BP b) - pa) / 2)) ⟨by omega, by omega, by rw [show j + 1 - BT b = (j - BT b) + 1 by omega, po9_s _ _ (by omega), ← hp]⟩ (by omega)
    exact L37 _ (BT b) (((BC b) * (BP b)) / 100) ⟨by omega, by omega, by rw [show BT b - BT b = 0 by omega]; rfl⟩ (Nat.lt_succ_self _)
  refine g_iconst C dX1_payoutAt_10 ?_
  exact g_iretM C hR dX1_payoutAt_11 (by unfold pyo; rw [if_pos (by omega)]) rfl rfl

noncomputable def pyb (EC EF ES EH EP EX : Int → Int) (nE nR : Int) (BP BQ BX BF BL BT BC : Int → Int) (b : Int) : Int := pyo BP BT BC b (idx9 EC EF ES EH EP EX nE nR BQ BX BF BL b)

set_option maxHeartbeats 4000000 in
set_option maxRecDepth 100000 in
theorem c_X1_totalPayout (l : Launch) (g : gD) (bo : Nat) (bp : Nat) (bq : Nat) (bx : Nat) (bf : Nat) (bl : Nat) (bt : Nat) (bc : Nat) (be : Nat) (BP : Int → Int) (BQ : Int → Int) (BX : Int → Int) (BF : Int → Int) (BL : Int → Int) (BT : Int → Int) (BC : Int → Int) (nB : Int) (eo : Nat) (ec : Nat) (ef : Nat) (es : Nat) (eh : Nat) (ep : Nat) (ex : Nat) (EC : Int → Int) (EF : Int → Int) (ES : Int → Int) (EH : Int → Int) (EP : Int → Int) (EX : Int → Int) (nE : Int) (nR : Int) (hBP : ∀ k, 0 ≤ BP k ∧ BP k ≤ 999999) (hBQ : ∀ k, 0 ≤ BQ k ∧ BQ k ≤ 2) (hBX : ∀ k, 0 ≤ BX k ∧ BX k ≤ 65535) (hBF : ∀ k, 0 ≤ BF k ∧ BF k ≤ 2199) (hBL : ∀ k, 0 ≤ BL k ∧ BL k ≤ 2199) (hBT : ∀ k, 0 ≤ BT k ∧ BT k ≤ 9) (hBC : ∀ k, 0 ≤ BC k ∧ BC k ≤ 100) (hnB : 0 ≤ nB ∧ nB ≤ 5) (hEC : ∀ k, 0 ≤ EC k ∧ EC k ≤ 15) (hEF : ∀ k, 0 ≤ EF k ∧ EF k ≤ 2200) (hES : ∀ k, 0 ≤ ES k ∧ ES k ≤ 5) (hEH : ∀ k, 0 ≤ EH k ∧ EH k ≤ 2199) (hEP : ∀ k, 0 ≤ EP k ∧ EP k ≤ 2) (hEX : ∀ k, 0 ≤ EX k ∧ EX k ≤ 9) (hnE : 0 ≤ nE ∧ nE ≤ 6) (hnR : 0 ≤ nR ∧ nR ≤ 60) (hEn : ∀ k9, 0 ≤ k9 → k9 < nR → ES k9 < nE) : gMet l g yX1_totalPayout cX1_totalPayout 4 (some .int) 5 0 0 141 [.ref bo, .ref eo] [(bo, cO 1 [.ref bp, .ref bq, .ref bx, .ref bf, .ref bl, .ref bt, .ref bc, .ref be, vi nB]), (bp, cA g 5 BP), (bq, cA g 5 BQ), (bx, cA g 5 BX), (bf, cA g 5 BF), (bl, cA g 5 BL), (bt, cA g 5 BT), (bc, cA g 5 BC), (eo, cO 6 [.ref ec, .ref ef, .ref es, .ref eh, .ref ep, .ref ex, vi nE, vi nR]), (ec, cA g 6 EC), (ef, cA g 6 EF), (es, cA g 60 ES), (eh, cA g 60 EH), (ep, cA g 60 EP), (ex, cA g 60 EX)] (gM (some (vi (sm (pyb EC EF ES EH EP EX nE nR BP BQ BX BF BL BT BC) nB))) [(bo, cO 1 [.ref bp, .ref bq, .ref bx, .ref bf, .ref bl, .ref bt, .ref bc, .ref be, vi nB]), (bp, cA g 5 BP), (bq, cA g 5 BQ), (bx, cA g 5 BX), (bf, cA g 5 BF), (bl, cA g 5 BL), (bt, cA g 5 BT), (bc, cA g 5 BC), (eo, cO 6 [.ref ec, .ref ef, .ref es, .ref eh, .ref ep, .ref ex, vi nE, vi nR]), (ec, cA g 6 EC), (ef, cA g 6 EF), (es, cA g 60 ES), (eh, cA g 60 EH), (ep, cA g 60 EP), (ex, cA g 60 EX)]) := by
  refine gMet.of y_X1_totalPayout.2.2.2.2.1 (Nat.le_of_ble_eq_true rfl) ?_
  intro x hlx C hR hnm
  subst hlx
  have C : gC g x RX1 cX1_totalPayout 4 5 0 0 141 := C
  show gW g x [(bo, cO 1 [.ref bp, .ref bq, .ref bx, .ref bf, .ref bl, .ref bt, .ref bc, .ref be, vi nB]), (bp, cA g 5 BP), (bq, cA g 5 BQ), (bx, cA g 5 BX), (bf, cA g 5 BF), (bl, cA g 5 BL), (bt, cA g 5 BT), (bc, cA g 5 BC), (eo, cO 6 [.ref ec, .ref ef, .ref es, .ref eh, .ref ep, .ref ex, vi nE, vi nR]), (ec, cA g 6 EC), (ef, cA g 6 EF), (es, cA g 60 ES), (eh, cA g 60 EH), (ep, cA g 60 EP), (ex, cA g 60 EX)] 0 0 [(0, .ref bo), (1, .ref eo)] 0 []
  refine g_iconst C dX1_totalPayout_0 ?_
  refine g_istore_n C [(2, vi 0), (0, .ref bo), (1, .ref eo)] dX1_totalPayout_1 (by decide) rfl ?_
  refine g_iconst C dX1_totalPayout_2 ?_
  refine g_istore_n C [(3, vi 0), (2, vi 0), (0, .ref bo), (1, .ref eo)] dX1_totalPayout_3 (by decide) rfl ?_
  have L4 : ∀ (f : Nat) (acc : Int) (i : Int), (0 ≤ i ∧ i ≤ nB ∧ acc = sm (pyb EC EF ES EH EP EX nE nR BP BQ BX BF BL BT BC) i) → (nB - i).toNat < f → gW g x [(bo, cO 1 [.ref bp, .ref bq, .ref bx, .ref bf, .ref bl, .ref bt, .ref bc, .ref be, vi nB]), (bp, cA g 5 BP), (bq, cA g 5 BQ), (bx, cA g 5 BX), (bf, cA g 5 BF), (bl, cA g 5 BL), (bt, cA g 5 BT), (bc, cA g 5 BC), (eo, cO 6 [.ref ec, .ref ef, .ref es, .ref eh, .ref ep, .ref ex, vi nE, vi nR]), (ec, cA g 6 EC), (ef, cA g 6 EF), (es, cA g 60 ES), (eh, cA g 60 EH), (ep, cA g 60 EP), (ex, cA g 60 EX)] 0 0 [(3, vi i), (2, vi acc), (0, .ref bo), (1, .ref eo)] 4 [] := by
    intro f
    induction f with
    | zero => intro acc i hI4 hf; exact absurd hf (Nat.not_lt_zero _)
    | succ f ih4 =>
      intro acc i hI4 hf4
      refine g_iload_n C 0 dX1_totalPayout_4 rfl ?_
      refine g_aload_n C 2 dX1_totalPayout_5 rfl ?_
      refine g_getf C k_X1 8 f_X1_36 0 rfl rfl (by decide) rfl rfl dX1_totalPayout_6 ?_
      refine g_icmp_ge C 32 dX1_totalPayout_9 (by decide) (by omega) (by omega) (fun c9 => ?_) (fun c9 => ?_)
      · refine g_iload_n C 1 dX1_totalPayout_32 rfl ?_
        exact g_iretM C hR dX1_totalPayout_33 (by rw [hI4.2.2, show i = nB by omega] <;> rfl) rfl rfl
      refine g_iload_n C 1 dX1_totalPayout_12 rfl ?_
      refine g_aload_n C 2 dX1_totalPayout_13 rfl ?_
      refine g_iload_n C 0 dX1_totalPayout_14 rfl ?_
      refine g_aload_n C 2 dX1_totalPayout_15 rfl ?_
      refine g_iload_n C 0 dX1_totalPayout_16 rfl ?_
      refine g_aload_n C 3 dX1_totalPayout_17 rfl ?_
      refine g_callVp C [vi i, .ref eo] [vi i, .ref bo, vi acc] (c_X1_indexOf x.1.2.1 g bo bp bq bx bf bl bt bc be BQ BX BF BL nB eo ec ef es eh ep ex EC EF ES EH EP EX nE nR i hBQ hBX hBF hBL hEC hEF hES hEH hEP hEX hnE hnR hEn (by omega)) y_X1_indexOf l_X1_50 [0, 2, 3, 4, 5, 8, 9, 10, 11, 12, 13, 14] rfl (by decide) 0 rfl rfl rfl (Nat.le_of_ble_eq_true rfl) rfl (by decide) dX1_totalPayout_18 ?_
      have hi9 := idx9_r hEX EC EF ES EH EP nE hnR BQ BX BF BL i
      refine g_callVp C [vi i, vi (idx9 EC EF ES EH EP EX nE nR BQ BX BF BL i)] [vi acc] (c_X1_payoutAt x.1.2.1 g bo bp bq bx bf bl bt bc be BP BT BC nB i (idx9 EC EF ES EH EP EX nE nR BQ BX BF BL i) hBP hBT hBC (by omega) (by omega)) y_X1_payoutAt l_X1_54 [0, 1, 6, 7] rfl (by decide) 0 rfl rfl rfl (Nat.le_of_ble_eq_true rfl) rfl (by decide) dX1_totalPayout_21 ?_
      refine g_iadd C dX1_totalPayout_24 ?_
      refine g_istore_n C [(2, vi (acc + (pyo BP BT BC i (idx9 EC EF ES EH EP EX nE nR BQ BX BF BL i)))), (3, vi i), (0, .ref bo), (1, .ref eo)] dX1_totalPayout_25 (by decide) rfl ?_
      refine g_iinc C 1 [(3, vi (i + 1)), (2, vi (acc + (pyo BP BT BC i (idx9 EC EF ES EH EP EX nE nR BQ BX BF BL i)))), (0, .ref bo), (1, .ref eo)] dX1_totalPayout_26 rfl (by decide) rfl ?_
      refine g_goto C 4 dX1_totalPayout_29 (by decide) ?_
      exact ih4 (acc + (pyo BP BT BC i (idx9 EC EF ES EH EP EX nE nR BQ BX BF BL i))) (i + 1) ⟨by omega, by omega, by rw [sm_s _ (by omega), ← hI4.2.2] <;> rfl⟩ (by omega)
  exact L4 _ 0 0 ⟨by omega, by omega, rfl⟩ (Nat.lt_succ_self _)

