theorem g_look {g : gD} {x : gX} {own : String} {cc : ByteArray} {nL fr ce sl lo : Nat} {ws : va_W} {k n : Nat} {lv : List (Nat × Value)} {pc : Nat} {st : List Value} (C : gC g x own cc nL fr ce sl lo) {z dflt : Int} {ps : Array (Int × Int)} {len : Nat} {off : Int} (tgt : Nat) (hd : decode cc pc = .ok (.lookupswitch dflt ps, len)) (hp : (ps.toList.zip (ps.toList.drop 1)).all (fun (a, next) => a.1 < next.1) = true) (v : Int) (hz : z = v) (hv : -2147483648 ≤ v ∧ v < 2147483648) (ho : Op.lookupswitch.offset ps.toList dflt v = off) (ht : (pc : Int) + off = (tgt : Int)) (kk : gW g x ws k n lv tgt st) : gW g x ws k n lv pc (vi z :: st) := by
  obtain ⟨⟨p, l, e, R, s, m, args, below, meth, c⟩, A, H0, nL', Q⟩ := x
  intro H locs ls hP hD hS hl
  subst hz
  have e9 := iI_t hv
  exact lv_lookup C.1 C.2.1 hd hp (by rw [e9]; exact ho) ht (kk H locs ls hP hD hS hl)
theorem itr_r {RB RT RF RD : Int → Int} (hRD : ∀ k, 0 ≤ RD k ∧ RD k ≤ 999999) (hRB : ∀ k, 0 ≤ RB k ∧ RB k ≤ 100000000) {n : Int} (hn : 0 ≤ n) (z : Int) : 0 ≤ itr RB RT RF RD n z ∧ itr RB RT RF RD n z ≤ 105999994 := by
  refine sm_ind (P := fun n => 0 ≤ itr RB RT RF RD n z ∧ itr RB RT RF RD n z ≤ 105999994) ?_ (fun i hi ih => ?_) n hn
  · have := hRB z; show 0 ≤ RB z ∧ RB z ≤ _; omega
  · rw [itr_s _ _ _ _ hi]
    have h1 := sm_bound (F := fun j => if RT j = z then pso RF RD (itr RB RT RF RD i) j else 0) (lo := 0) (hi := 999999) (n := 6) (by omega) (fun j _ _ => by have := pso_r (RF := RF) hRD (itr RB RT RF RD i) j; split <;> omega)
    have := hRB z
    unfold stp; omega
/-- the held row after a round, on the six -/
theorem held_s {RB RT RF RD cH cN : Int → Int} {n : Int} (hn : 0 ≤ n) (h : ∀ z, 0 ≤ z → z < 6 → cH z = itr RB RT RF RD n z) {z : Int} (h0 : 0 ≤ z) (h1 : z < 6) : scad (cpy RB cN 6) RT (pso RF RD cH) 6 z = itr RB RT RF RD (n + 1) z := by
  rw [nx_stp h0 h1, stp_congr RB RT RF RD h, itr_s _ _ _ _ hn]
theorem dif_chg {RB RT RF RD cH cN : Int → Int} {n : Int} (hn : 0 ≤ n) (h : ∀ z, 0 ≤ z → z < 6 → cH z = itr RB RT RF RD n z) : dif (scad (cpy RB cN 6) RT (pso RF RD cH) 6) cH 6 ↔ chg9 RB RT RF RD (n + 1) := by
  constructor
  · rintro ⟨z, h0, h1, h2⟩
    rw [held_s hn h h0 h1, h z h0 h1] at h2
    exact ⟨z, h0, h1, by rw [show n + 1 - 1 = n by omega]; exact h2⟩
  · rintro ⟨z, h0, h1, h2⟩
    refine ⟨z, h0, h1, ?_⟩
    rw [held_s hn h h0 h1, h z h0 h1]
    rw [show n + 1 - 1 = n by omega] at h2; exact h2

theorem held_t {RB RT RF RD cH cN : Int → Int} {n : Int} (hn : 0 ≤ n) (h : ∀ z, 0 ≤ z → z < 6 → cH z = itr RB RT RF RD n z) {z : Int} (h0 : 0 ≤ z) (h1 : z < 6) : cpy (stp RB RT RF RD cH) cN 6 z = itr RB RT RF RD (n + 1) z := by
  rw [cpy_in ⟨h0, h1⟩, stp_congr RB RT RF RD h, itr_s _ _ _ _ hn]
theorem dif_cht {RB RT RF RD cH cN : Int → Int} {n : Int} (hn : 0 ≤ n) (h : ∀ z, 0 ≤ z → z < 6 → cH z = itr RB RT RF RD n z) : dif (cpy (stp RB RT RF RD cH) cN 6) cH 6 ↔ chg9 RB RT RF RD (n + 1) := by
  constructor
  · rintro ⟨z, h0, h1, h2⟩
    rw [held_t hn h h0 h1, h z h0 h1] at h2
    exact ⟨z, h0, h1, by rw [show n + 1 - 1 = n by omega]; exact h2⟩
  · rintro ⟨z, h0, h1, h2⟩
    refine ⟨z, h0, h1, ?_⟩
    rw [held_t hn h h0 h1, h z h0 h1]
    rw [show n + 1 - 1 = n by omega] at h2; exact h2

theorem cpy_r {F G : Int → Int} {n lo hi : Int} (hF : ∀ k, 0 ≤ k → k < n → lo ≤ F k ∧ F k ≤ hi) (hG : ∀ k, lo ≤ G k ∧ G k ≤ hi) (k : Int) : lo ≤ cpy F G n k ∧ cpy F G n k ≤ hi := by
  unfold cpy
  by_cases q : 0 ≤ k ∧ k < n
  · rw [if_pos q]; exact hF k q.1 q.2
  · rw [if_neg q]; exact hG k
theorem nx_r2 {RB RT RF RD RH RN : Int → Int} (hRT : ∀ k, 0 ≤ RT k ∧ RT k ≤ 5) (hRD : ∀ k, 0 ≤ RD k ∧ RD k ≤ 999999) (hRB : ∀ k, 0 ≤ RB k ∧ RB k ≤ 100000000) (hRN : ∀ k, 0 ≤ RN k ∧ RN k ≤ 200000000) (z : Int) : 0 ≤ scad (cpy RB RN 6) RT (pso RF RD RH) 6 z ∧ scad (cpy RB RN 6) RT (pso RF RD RH) 6 z ≤ 200000000 := by
  have h := nx_r (RT := RT) (RF := RF) (RH := RH) hRD hRB hRN (n := 6) (by omega) z
  by_cases q : 0 ≤ z ∧ z < 6
  · exact ⟨h.1, by have := h.2.1 q; omega⟩
  · refine ⟨h.1, ?_⟩
    rw [scad_z _ _ _ (by omega), sm_congr (G := fun _ => 0) (by omega) (fun i _ _ => by have := hRT i; rw [if_neg (by omega)]), sm_const0 (by omega)]
    have := hRN z
    unfold cpy; rw [if_neg q]; omega
theorem rnd_end {RB RT RF RD : Int → Int} {n ch : Int} (hn0 : 0 ≤ n) (hn1 : n ≤ 40) (hc1 : 0 < n → ch = bI (chg9 RB RT RF RD n)) (hj : ∀ j, 1 ≤ j → j < n → chg9 RB RT RF RD j) (h : n = 40 ∨ (0 < n ∧ ch = 0)) : rnd RB RT RF RD n := by
  refine ⟨by omega, hn1, hj, fun q => ?_⟩
  rcases bI_c (chg9 RB RT RF RD n) with ⟨_, z⟩ | ⟨z, _⟩
  · exact z
  · have := hc1 (by omega); omega
theorem rnd_step {RB RT RF RD : Int → Int} {n ch : Int} (hn0 : 0 ≤ n) (hc1 : 0 < n → ch = bI (chg9 RB RT RF RD n)) (hj : ∀ j, 1 ≤ j → j < n → chg9 RB RT RF RD j) (h : ch ≠ 0) : ∀ j, 1 ≤ j → j < n + 1 → chg9 RB RT RF RD j := fun j h0 h1 => by
  by_cases e : j = n
  · subst e
    rcases bI_c (chg9 RB RT RF RD j) with ⟨q, _⟩ | ⟨_, q⟩
    · have := hc1 (by omega); omega
    · exact q
  · exact hj j h0 (by omega)

set_option maxHeartbeats 4000000 in
set_option maxRecDepth 100000 in
theorem c_X4_spin (l : Launch) (g : gD) (ro : Nat) (rp : Nat) (rt : Nat) (rf : Nat) (rd : Nat) (rb : Nat) (rh : Nat) (rn : Nat) (RT : Int → Int) (RF : Int → Int) (RD : Int → Int) (RB : Int → Int) (RH : Int → Int) (RN : Int → Int) (hRT : ∀ k, 0 ≤ RT k ∧ RT k ≤ 5) (hRF : ∀ k, 0 ≤ RF k ∧ RF k ≤ 999999) (hRD : ∀ k, 0 ≤ RD k ∧ RD k ≤ 999999) (hRB : ∀ k, 0 ≤ RB k ∧ RB k ≤ 100000000) (hRH : ∀ k, 0 ≤ RH k ∧ RH k ≤ 200000000) (hRN : ∀ k, 0 ≤ RN k ∧ RN k ≤ 200000000) : gMet l g yX4_spin cX4_spin 3 (some .int) 4 0 0 106 [.ref ro] [(ro, cO 4 [.ref rp, .ref rt, .ref rf, .ref rd, .ref rb, .ref rh, .ref rn]), (rt, cA g 6 RT), (rf, cA g 6 RF), (rd, cA g 6 RD), (rb, cA g 6 RB), (rh, cA g 6 RH), (rn, cA g 6 RN)] (fun v9 w9 => ∃ (R : Int) (H : Int → Int) (N : Int → Int), v9 = (some (vi R)) ∧ w9 = [(ro, cO 4 [.ref rp, .ref rt, .ref rf, .ref rd, .ref rb, .ref rh, .ref rn]), (rt, cA g 6 RT), (rf, cA g 6 RF), (rd, cA g 6 RD), (rb, cA g 6 RB), (rh, cA g 6 H), (rn, cA g 6 N)] ∧ (rnd RB RT RF RD R) ∧ (∀ z, 0 ≤ z → z < 6 → H z = itr RB RT RF RD R z) ∧ (∀ k, 0 ≤ H k ∧ H k ≤ 200000000) ∧ (∀ k, 0 ≤ N k ∧ N k ≤ 200000000)) := by
  refine gMet.of y_X4_spin.2.2.2.2.1 (Nat.le_of_ble_eq_true rfl) ?_
  intro x hlx C hR hnm
  subst hlx
  have C : gC g x RX4 cX4_spin 3 4 0 0 106 := C
  show gW g x [(ro, cO 4 [.ref rp, .ref rt, .ref rf, .ref rd, .ref rb, .ref rh, .ref rn]), (rt, cA g 6 RT), (rf, cA g 6 RF), (rd, cA g 6 RD), (rb, cA g 6 RB), (rh, cA g 6 RH), (rn, cA g 6 RN)] 0 0 [(0, .ref ro)] 0 []
  refine g_aload_n C 0 dX4_spin_0 rfl ?_
  refine g_getf C k_X4 4 f_X4_24 0 rfl rfl (by decide) rfl rfl dX4_spin_1 ?_
  refine g_iconst C dX4_spin_4 ?_
  refine g_aload_n C 0 dX4_spin_5 rfl ?_
  refine g_getf C k_X4 5 f_X4_27 0 rfl rfl (by decide) rfl rfl dX4_spin_6 ?_
  refine g_iconst C dX4_spin_9 ?_
  refine g_bipush C dX4_spin_10 (by decide) ?_
  refine g_copy C l_X4_57 w_acN w_acS w_sysI 4 5 rfl rfl (by omega) [(ro, cO 4 [.ref rp, .ref rt, .ref rf, .ref rd, .ref rb, .ref rh, .ref rn]), (rt, cA g 6 RT), (rf, cA g 6 RF), (rd, cA g 6 RD), (rb, cA g 6 RB), (rh, cA g 6 (cpy RB RH 6)), (rn, cA g 6 RN)] rfl dX4_spin_12 ⟨Nat.le_of_ble_eq_true rfl, Nat.le_of_ble_eq_true rfl⟩ ?_
  refine g_iconst C dX4_spin_15 ?_
  refine g_istore_n C [(1, vi 1), (0, .ref ro)] dX4_spin_16 (by decide) rfl ?_
  refine g_iconst C dX4_spin_17 ?_
  refine g_istore_n C [(2, vi 0), (1, vi 1), (0, .ref ro)] dX4_spin_18 (by decide) rfl ?_
  have L19 : ∀ (f : Nat) (n : Int) (ch : Int) (cH : Int → Int) (cN : Int → Int), (0 ≤ n ∧ n ≤ 40 ∧ (n = 0 → ch = 1) ∧ (0 < n → ch = bI (chg9 RB RT RF RD n)) ∧ (∀ j, 1 ≤ j → j < n → chg9 RB RT RF RD j) ∧ (∀ z, 0 ≤ z → z < 6 → cH z = itr RB RT RF RD n z) ∧ (∀ k, 0 ≤ cH k ∧ cH k ≤ 200000000) ∧ (∀ k, 0 ≤ cN k ∧ cN k ≤ 200000000)) → (40 - n).toNat < f → gW g x [(ro, cO 4 [.ref rp, .ref rt, .ref rf, .ref rd, .ref rb, .ref rh, .ref rn]), (rt, cA g 6 RT), (rf, cA g 6 RF), (rd, cA g 6 RD), (rb, cA g 6 RB), (rh, cA g 6 cH), (rn, cA g 6 cN)] 0 0 [(2, vi n), (1, vi ch), (0, .ref ro)] 19 [] := by
    intro f
    induction f with
    | zero => intro n ch cH cN hI19 hf; exact absurd hf (Nat.not_lt_zero _)
    | succ f ih19 =>
      intro n ch cH cN hI19 hf19
      obtain ⟨hn0, hn1, hc0, hc1, hj, hH, hHr, hNr⟩ := hI19
      have b9 := bI_01 (chg9 RB RT RF RD n)
      have hc01 : 0 ≤ ch ∧ ch ≤ 1 := by rcases Int.lt_or_le 0 n with q | q; (rw [hc1 q]; exact b9); (rw [hc0 (by omega)]; omega)
      refine g_iload_n C 0 dX4_spin_19 rfl ?_
      refine g_bipush C dX4_spin_20 (by decide) ?_
      refine g_icmp_ge C 40 dX4_spin_22 (by decide) (by omega) (by omega) (fun c22 => ?_) (fun c22 => ?_)
      · refine g_iload_n C 0 dX4_spin_40 rfl ?_
        exact g_iret C hR dX4_spin_41 ⟨n, cH, cN, rfl, rfl, (rnd_end hn0 hn1 hc1 hj (by omega)), hH, hHr, hNr⟩ rfl
      refine g_iload_n C 1 dX4_spin_25 rfl ?_
      refine g_if_eq C 40 dX4_spin_26 (by decide) (by omega) (fun c26 => ?_) (fun c26 => ?_)
      · have n9 : 0 < n := by rcases Int.lt_or_le 0 n with q | q; exact q; exact absurd (hc0 (by omega)) (by omega)
        refine g_iload_n C 0 dX4_spin_40 rfl ?_
        exact g_iret C hR dX4_spin_41 ⟨n, cH, cN, rfl, rfl, (rnd_end hn0 hn1 hc1 hj (by omega)), hH, hHr, hNr⟩ rfl
      have hj9 := rnd_step hn0 hc1 hj c26
      refine g_aload_n C 2 dX4_spin_29 rfl ?_
      refine g_callV C [] [] (c_X4_spinOnce x.1.2.1 g ro rp rt rf rd rb rh rn RT RF RD RB cH cN hRT hRF hRD hRB hHr hNr) y_X4_spinOnce l_X4_63 [0, 1, 2, 3, 4, 5, 6] rfl (by decide) 0 rfl rfl rfl (Nat.le_of_ble_eq_true rfl) rfl (by decide) dX4_spin_30 (fun v9 w9 hp9 => ?_)
      obtain ⟨rfl, rfl⟩ := hp9
      simp only [putAll, List.set_cons_succ, List.set_cons_zero, List.cons_append, List.nil_append, List.append_nil, Option.toList]
      show gW g x [(ro, cO 4 [.ref rp, .ref rt, .ref rf, .ref rd, .ref rb, .ref rh, .ref rn]), (rt, cA g 6 RT), (rf, cA g 6 RF), (rd, cA g 6 RD), (rb, cA g 6 RB), (rh, cA g 6 (cpy (cpy (stp RB RT RF RD cH) cN 6) cH 6)), (rn, cA g 6 (cpy (stp RB RT RF RD cH) cN 6))] 0 0 [(2, vi n), (1, vi ch), (0, .ref ro)] 33 [vi (bI (dif (cpy (stp RB RT RF RD cH) cN 6) cH 6))]
      have hN9 := fun k => cpy_r (F := stp RB RT RF RD cH) (n := 6) (fun z _ _ => by have := stp_r (RT := RT) (RF := RF) hRD hRB cH z; show 0 ≤ stp RB RT RF RD cH z ∧ stp RB RT RF RD cH z ≤ 200000000; omega) hNr k
      refine g_istore_n C [(1, vi (bI (dif (cpy (stp RB RT RF RD cH) cN 6) cH 6))), (2, vi n), (0, .ref ro)] dX4_spin_33 (by decide) rfl ?_
      refine g_iinc C 1 [(2, vi (n + 1)), (1, vi (bI (dif (cpy (stp RB RT RF RD cH) cN 6) cH 6))), (0, .ref ro)] dX4_spin_34 rfl (by decide) rfl ?_
      refine g_goto C 19 dX4_spin_37 (by decide) ?_
      exact ih19 (n + 1) (bI (dif (cpy (stp RB RT RF RD cH) cN 6) cH 6)) (cpy (cpy (stp RB RT RF RD cH) cN 6) cH 6) (cpy (stp RB RT RF RD cH) cN 6) ⟨by omega, by omega, fun h => by omega, fun _ => bI_iff (dif_cht hn0 hH), hj9, fun z h0 h1 => by rw [cpy_in ⟨h0, h1⟩]; exact held_t hn0 hH h0 h1, fun k => cpy_r (fun k h0 h1 => hN9 k) hHr k, hN9⟩ (by omega)
  exact L19 _ 0 1 (cpy RB RH 6) RN ⟨by omega, by omega, fun _ => rfl, fun h => by omega, fun j h0 h1 => by omega, fun z h0 h1 => cpy_in ⟨h0, h1⟩, fun k => by have := hRB k; have := hRH k; unfold cpy; split <;> omega, hRN⟩ (Nat.lt_succ_self _)

set_option maxHeartbeats 4000000 in
set_option maxRecDepth 100000 in
theorem c_X4_ofReinsurer (l : Launch) (g : gD) (ro : Nat) (rp : Nat) (rt : Nat) (rf : Nat) (rd : Nat) (rb : Nat) (rh : Nat) (rn : Nat) (RF : Int → Int) (RD : Int → Int) (RB : Int → Int) (RH : Int → Int) (z : Int) (w : Int) (hRF : ∀ k, 0 ≤ RF k ∧ RF k ≤ 999999) (hRD : ∀ k, 0 ≤ RD k ∧ RD k ≤ 999999) (hRB : ∀ k, 0 ≤ RB k ∧ RB k ≤ 100000000) (hRH : ∀ k, 0 ≤ RH k ∧ RH k ≤ 200000000) (hz : 0 ≤ z ∧ z < 6) (hw : 0 ≤ w ∧ w ≤ 2) : gMet l g yX4_ofReinsurer cX4_ofReinsurer 3 (some .int) 2 0 0 61 [.ref ro, vi z, vi w] [(ro, cO 4 [.ref rp, .ref rt, .ref rf, .ref rd, .ref rb, .ref rh, .ref rn]), (rf, cA g 6 RF), (rd, cA g 6 RD), (rb, cA g 6 RB), (rh, cA g 6 RH)] (gM (some (vi (if w = 0 then RB z else if w = 1 then RH z else RH z - pso RF RD RH z))) [(ro, cO 4 [.ref rp, .ref rt, .ref rf, .ref rd, .ref rb, .ref rh, .ref rn]), (rf, cA g 6 RF), (rd, cA g 6 RD), (rb, cA g 6 RB), (rh, cA g 6 RH)]) := by
  refine gMet.of y_X4_ofReinsurer.2.2.2.2.1 (Nat.le_of_ble_eq_true rfl) ?_
  intro x hlx C hR hnm
  subst hlx
  have C : gC g x RX4 cX4_ofReinsurer 3 2 0 0 61 := C
  show gW g x [(ro, cO 4 [.ref rp, .ref rt, .ref rf, .ref rd, .ref rb, .ref rh, .ref rn]), (rf, cA g 6 RF), (rd, cA g 6 RD), (rb, cA g 6 RB), (rh, cA g 6 RH)] 0 0 [(0, .ref ro), (1, vi z), (2, vi w)] 0 []
  refine g_iload_n C 2 dX4_ofReinsurer_0 rfl ?_
  by_cases e1_0 : w = 0
  · refine g_look C 28 dX4_ofReinsurer_1 (by decide) 0 e1_0 (by decide) rfl (by decide) ?_
    refine g_aload_n C 0 dX4_ofReinsurer_28 rfl ?_
    refine g_getf C k_X4 4 f_X4_24 0 rfl rfl (by decide) rfl rfl dX4_ofReinsurer_29 ?_
    refine g_iload_n C 1 dX4_ofReinsurer_32 rfl ?_
    refine g_iald C 3 rfl (by omega) dX4_ofReinsurer_33 ?_
    have r1_33 := hRB z
    exact g_iretM C hR dX4_ofReinsurer_34 (by first | rfl | omega) rfl rfl
  by_cases e1_1 : w = 1
  · refine g_look C 35 dX4_ofReinsurer_1 (by decide) 1 e1_1 (by decide) rfl (by decide) ?_
    refine g_aload_n C 0 dX4_ofReinsurer_35 rfl ?_
    refine g_getf C k_X4 5 f_X4_27 0 rfl rfl (by decide) rfl rfl dX4_ofReinsurer_36 ?_
    refine g_iload_n C 1 dX4_ofReinsurer_39 rfl ?_
    refine g_iald C 4 rfl (by omega) dX4_ofReinsurer_40 ?_
    have r2_40 := hRH z
    exact g_iretM C hR dX4_ofReinsurer_41 (by first | rfl | omega) rfl rfl
  refine g_look C 42 dX4_ofReinsurer_1 (by decide) 2 (by omega) (by decide) rfl (by decide) ?_
  refine g_aload_n C 0 dX4_ofReinsurer_42 rfl ?_
  refine g_getf C k_X4 5 f_X4_27 0 rfl rfl (by decide) rfl rfl dX4_ofReinsurer_43 ?_
  refine g_iload_n C 1 dX4_ofReinsurer_46 rfl ?_
  refine g_iald C 4 rfl (by omega) dX4_ofReinsurer_47 ?_
  have r3_47 := hRH z
  refine g_aload_n C 0 dX4_ofReinsurer_48 rfl ?_
  refine g_iload_n C 1 dX4_ofReinsurer_49 rfl ?_
  refine g_callVp C [vi z] [vi (RH z)] (c_X4_passedOnBy x.1.2.1 g ro rp rt rf rd rb rh rn RF RD RH z hRF hRD hRH hz) y_X4_passedOnBy l_X4_71 [0, 1, 2, 4] rfl (by decide) 0 rfl rfl rfl (Nat.le_of_ble_eq_true rfl) rfl (by decide) dX4_ofReinsurer_50 ?_
  refine g_isub C dX4_ofReinsurer_53 ?_
  exact g_iretM C hR dX4_ofReinsurer_54 (by first | rfl | omega) rfl rfl

