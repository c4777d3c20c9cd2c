/-! the spiral -/
def pso (RF RD H : Int → Int) (z : Int) : Int := mn (if H z - RF z < 0 then 0 else H z - RF z) (RD z)
theorem pso_r {RF RD : Int → Int} (hRD : ∀ k, 0 ≤ RD k ∧ RD k ≤ 999999) (H : Int → Int) (z : Int) : 0 ≤ pso RF RD H z ∧ pso RF RD H z ≤ 999999 := by
  have := hRD z
  unfold pso mn; omega
theorem scad_z (F ix v : Int → Int) {n : Int} (hn : 0 ≤ n) (z : Int) : scad F ix v n z = F z + sm (fun i => if ix i = z then v i else 0) n := by
  refine sm_ind (P := fun n => scad F ix v n z = F z + sm (fun i => if ix i = z then v i else 0) n) ?_ (fun i hi ih => ?_) n hn
  · rw [sm_0]; show F z = _; omega
  · rw [scad_s _ _ _ hi, sm_s _ hi]
    by_cases e : ix i = z
    · rw [e, up_s, if_pos rfl, ih]; omega
    · rw [up_n (Ne.symm e), if_neg e, ih]; omega
def pst (RT RF RD H : Int → Int) (z : Int) : Int → Int := fun i => if RT i = z then pso RF RD H i else 0
def stp (RB RT RF RD H : Int → Int) (z : Int) : Int := RB z + sm (fun i => if RT i = z then pso RF RD H i else 0) 6
theorem stp_congr (RB RT RF RD : Int → Int) {H K : Int → Int} (h : ∀ z, 0 ≤ z → z < 6 → H z = K z) (z : Int) : stp RB RT RF RD H z = stp RB RT RF RD K z := by
  unfold stp
  congr 1
  refine sm_congr (by omega) (fun i h0 h1 => ?_)
  unfold pso
  rw [h i h0 h1]
def itN (RB RT RF RD : Int → Int) : Nat → Int → Int
  | 0 => RB
  | n + 1 => stp RB RT RF RD (itN RB RT RF RD n)
def itr (RB RT RF RD : Int → Int) (n : Int) : Int → Int := itN RB RT RF RD n.toNat
theorem itr_s (RB RT RF RD : Int → Int) {n : Int} (h : 0 ≤ n) : itr RB RT RF RD (n + 1) = stp RB RT RF RD (itr RB RT RF RD n) := by
  obtain ⟨k, rfl⟩ : ∃ k : Nat, n = k := ⟨n.toNat, by omega⟩
  have e : ((k : Int) + 1).toNat = k + 1 := by omega
  have e2 : (k : Int).toNat = k := by omega
  simp only [itr, e, e2, itN]
/-- the round n changes something -/
def chg9 (RB RT RF RD : Int → Int) (n : Int) : Prop := ∃ z, 0 ≤ z ∧ z < 6 ∧ itr RB RT RF RD n z ≠ itr RB RT RF RD (n - 1) z
/-- R is the number of rounds -/
def rnd (RB RT RF RD : Int → Int) (R : Int) : Prop := 1 ≤ R ∧ R ≤ 40 ∧ (∀ j, 1 ≤ j → j < R → chg9 RB RT RF RD j) ∧ (R < 40 → ¬ chg9 RB RT RF RD R)
theorem rnd_one {RB RT RF RD : Int → Int} {R S : Int} (h : rnd RB RT RF RD R) (k : rnd RB RT RF RD S) : R = S := by
  by_cases e : R < S
  · exact absurd (k.2.2.1 R h.1 e) (h.2.2.2 (by have := k.2.1; omega))
  · by_cases e2 : S < R
    · exact absurd (h.2.2.1 S k.1 e2) (k.2.2.2 (by have := h.2.1; omega))
    · omega
/-- two rows differ somewhere among the first n -/
def dif (F G : Int → Int) (n : Int) : Prop := ∃ z, 0 ≤ z ∧ z < n ∧ F z ≠ G z
theorem dif_s {F G : Int → Int} {i : Int} (hi : 0 ≤ i) : dif F G (i + 1) ↔ dif F G i ∨ F i ≠ G i := by
  constructor
  · rintro ⟨z, h0, h1, h2⟩
    by_cases e : z = i
    · subst e; exact Or.inr h2
    · exact Or.inl ⟨z, h0, by omega, h2⟩
  · rintro (⟨z, h0, h1, h2⟩ | h)
    · exact ⟨z, h0, by omega, h2⟩
    · exact ⟨i, hi, by omega, h⟩
theorem bI_or {P Q R : Prop} [Decidable R] (h : P ↔ Q ∨ R) : bI P = if bI Q = 1 ∨ R then 1 else 0 := by
  by_cases q : Q
  · rw [bI_t (h.mpr (Or.inl q)), bI_t q, if_pos (Or.inl rfl)]
  · by_cases r : R
    · rw [bI_t (h.mpr (Or.inr r)), if_pos (Or.inr r)]
    · rw [bI_f (fun z => (h.mp z).elim q r), bI_f q, if_neg (by rintro (z | z); omega; exact r z)]
theorem bI_iff {P Q : Prop} (h : P ↔ Q) : bI P = bI Q := by rw [propext h]

set_option maxHeartbeats 4000000 in
set_option maxRecDepth 100000 in
theorem c_X4_totalBorne (l : Launch) (g : gD) (ro : Nat) (rp : Nat) (rt : Nat) (rf : Nat) (rd : Nat) (rb : Nat) (rh : Nat) (rn : Nat) (RB : Int → Int)  : gMet l g yX4_totalBorne cX4_totalBorne 1 (some .int) 1 0 0 23 [.ref ro] [(ro, cO 4 [.ref rp, .ref rt, .ref rf, .ref rd, .ref rb, .ref rh, .ref rn]), (rb, cA g 6 RB)] (gM (some (vi (sm RB 6))) [(ro, cO 4 [.ref rp, .ref rt, .ref rf, .ref rd, .ref rb, .ref rh, .ref rn]), (rb, cA g 6 RB)]) := by
  refine gMet.of y_X4_totalBorne.2.2.2.2.1 (Nat.le_of_ble_eq_true rfl) ?_
  intro x hlx C hR hnm
  subst hlx
  have C : gC g x RX4 cX4_totalBorne 1 1 0 0 23 := C
  show gW g x [(ro, cO 4 [.ref rp, .ref rt, .ref rf, .ref rd, .ref rb, .ref rh, .ref rn]), (rb, cA g 6 RB)] 0 0 [(0, .ref ro)] 0 []
  refine g_aload_n C 0 dX4_totalBorne_0 rfl ?_
  refine g_getf C k_X4 4 f_X4_24 0 rfl rfl (by decide) rfl rfl dX4_totalBorne_1 ?_
  refine g_bipush C dX4_totalBorne_4 (by decide) ?_
  refine g_callSNp C [.ref rb, vi 6] [] (c_X9_totalOf x.1.2.1 g rb 6 RB 6 (by omega)) y_X9_totalOf l_X4_53 [1] rfl (by decide) rfl (Nat.le_of_ble_eq_true rfl) rfl (by decide) dX4_totalBorne_6 ?_
  exact g_iretM C hR dX4_totalBorne_9 rfl rfl rfl

set_option maxHeartbeats 4000000 in
set_option maxRecDepth 100000 in
theorem c_X4_passedOnBy (l : Launch) (g : gD) (ro : Nat) (rp : Nat) (rt : Nat) (rf : Nat) (rd : Nat) (rb : Nat) (rh : Nat) (rn : Nat) (RF : Int → Int) (RD : Int → Int) (RH : Int → Int) (z : Int) (hRF : ∀ k, 0 ≤ RF k ∧ RF k ≤ 999999) (hRD : ∀ k, 0 ≤ RD k ∧ RD k ≤ 999999) (hRH : ∀ k, 0 ≤ RH k ∧ RH k ≤ 200000000) (hz : 0 ≤ z ∧ z < 6) : gMet l g yX4_passedOnBy cX4_passedOnBy 2 (some .int) 1 0 0 40 [.ref ro, vi z] [(ro, cO 4 [.ref rp, .ref rt, .ref rf, .ref rd, .ref rb, .ref rh, .ref rn]), (rf, cA g 6 RF), (rd, cA g 6 RD), (rh, cA g 6 RH)] (gM (some (vi (pso RF RD RH z))) [(ro, cO 4 [.ref rp, .ref rt, .ref rf, .ref rd, .ref rb, .ref rh, .ref rn]), (rf, cA g 6 RF), (rd, cA g 6 RD), (rh, cA g 6 RH)]) := by
  refine gMet.of y_X4_passedOnBy.2.2.2.2.1 (Nat.le_of_ble_eq_true rfl) ?_
  intro x hlx C hR hnm
  subst hlx
  have C : gC g x RX4 cX4_passedOnBy 2 1 0 0 40 := C
  show gW g x [(ro, cO 4 [.ref rp, .ref rt, .ref rf, .ref rd, .ref rb, .ref rh, .ref rn]), (rf, cA g 6 RF), (rd, cA g 6 RD), (rh, cA g 6 RH)] 0 0 [(0, .ref ro), (1, vi z)] 0 []
  refine g_aload_n C 0 dX4_passedOnBy_0 rfl ?_
  refine g_getf C k_X4 5 f_X4_27 0 rfl rfl (by decide) rfl rfl dX4_passedOnBy_1 ?_
  refine g_iload_n C 1 dX4_passedOnBy_4 rfl ?_
  refine g_iald C 3 rfl (by omega) dX4_passedOnBy_5 ?_
  have r1_5 := hRH z
  refine g_aload_n C 0 dX4_passedOnBy_6 rfl ?_
  refine g_getf C k_X4 2 f_X4_18 0 rfl rfl (by decide) rfl rfl dX4_passedOnBy_7 ?_
  refine g_iload_n C 1 dX4_passedOnBy_10 rfl ?_
  refine g_iald C 1 rfl (by omega) dX4_passedOnBy_11 ?_
  have r2_11 := hRF z
  refine g_isub C dX4_passedOnBy_12 ?_
  refine g_iconst C dX4_passedOnBy_13 ?_
  refine g_mmax C l_X4_74 w_maxS w_mathI w_maxC (by omega) (by omega) dX4_passedOnBy_14 ⟨Nat.le_of_ble_eq_true rfl, Nat.le_of_ble_eq_true rfl⟩ (by decide) (by decide) ?_
  refine g_aload_n C 0 dX4_passedOnBy_17 rfl ?_
  refine g_getf C k_X4 3 f_X4_21 0 rfl rfl (by decide) rfl rfl dX4_passedOnBy_18 ?_
  refine g_iload_n C 1 dX4_passedOnBy_21 rfl ?_
  refine g_iald C 2 rfl (by omega) dX4_passedOnBy_22 ?_
  have r3_22 := hRD z
  refine g_mmin C l_X4_79 w_minS w_mathI w_minC (by omega) (by omega) dX4_passedOnBy_23 ⟨Nat.le_of_ble_eq_true rfl, Nat.le_of_ble_eq_true rfl⟩ (by decide) (by decide) ?_
  exact g_iretM C hR dX4_passedOnBy_26 (by unfold pso mn; rfl) rfl rfl

set_option maxHeartbeats 4000000 in
set_option maxRecDepth 100000 in
theorem c_X4_passedOnTo (l : Launch) (g : gD) (ro : Nat) (rp : Nat) (rt : Nat) (rf : Nat) (rd : Nat) (rb : Nat) (rh : Nat) (rn : Nat) (RT : Int → Int) (RF : Int → Int) (RD : Int → Int) (RH : Int → Int) (z : Int) (hRT : ∀ k, 0 ≤ RT k ∧ RT k ≤ 5) (hRF : ∀ k, 0 ≤ RF k ∧ RF k ≤ 999999) (hRD : ∀ k, 0 ≤ RD k ∧ RD k ≤ 999999) (hRH : ∀ k, 0 ≤ RH k ∧ RH k ≤ 200000000) (hz : 0 ≤ z ∧ z < 6) : gMet l g yX4_passedOnTo cX4_passedOnTo 4 (some .int) 2 0 0 61 [.ref ro, vi z] [(ro, cO 4 [.ref rp, .ref rt, .ref rf, .ref rd, .ref rb, .ref rh, .ref rn]), (rt, cA g 6 RT), (rf, cA g 6 RF), (rd, cA g 6 RD), (rh, cA g 6 RH)] (gM (some (vi (sm (pst RT RF RD RH z) 6))) [(ro, cO 4 [.ref rp, .ref rt, .ref rf, .ref rd, .ref rb, .ref rh, .ref rn]), (rt, cA g 6 RT), (rf, cA g 6 RF), (rd, cA g 6 RD), (rh, cA g 6 RH)]) := by
  refine gMet.of y_X4_passedOnTo.2.2.2.2.1 (Nat.le_of_ble_eq_true rfl) ?_
  intro x hlx C hR hnm
  subst hlx
  have C : gC g x RX4 cX4_passedOnTo 4 2 0 0 61 := C
  show gW g x [(ro, cO 4 [.ref rp, .ref rt, .ref rf, .ref rd, .ref rb, .ref rh, .ref rn]), (rt, cA g 6 RT), (rf, cA g 6 RF), (rd, cA g 6 RD), (rh, cA g 6 RH)] 0 0 [(0, .ref ro), (1, vi z)] 0 []
  refine g_iconst C dX4_passedOnTo_0 ?_
  refine g_istore_n C [(2, vi 0), (0, .ref ro), (1, vi z)] dX4_passedOnTo_1 (by decide) rfl ?_
  refine g_iconst C dX4_passedOnTo_2 ?_
  refine g_istore_n C [(3, vi 0), (2, vi 0), (0, .ref ro), (1, vi z)] dX4_passedOnTo_3 (by decide) rfl ?_
  have L4 : ∀ (f : Nat) (to9 : Int) (i : Int), (0 ≤ i ∧ i ≤ 6 ∧ to9 = sm (pst RT RF RD RH z) i) → (6 - i).toNat < f → gW g x [(ro, cO 4 [.ref rp, .ref rt, .ref rf, .ref rd, .ref rb, .ref rh, .ref rn]), (rt, cA g 6 RT), (rf, cA g 6 RF), (rd, cA g 6 RD), (rh, cA g 6 RH)] 0 0 [(3, vi i), (2, vi to9), (0, .ref ro), (1, vi z)] 4 [] := by
    intro f
    induction f with
    | zero => intro to9 i hI4 hf; exact absurd hf (Nat.not_lt_zero _)
    | succ f ih4 =>
      intro to9 i hI4 hf4
      obtain ⟨hi0, hi1, ht⟩ := hI4
      refine g_iload_n C 0 dX4_passedOnTo_4 rfl ?_
      refine g_bipush C dX4_passedOnTo_5 (by decide) ?_
      refine g_icmp_ge C 34 dX4_passedOnTo_7 (by decide) (by omega) (by omega) (fun c7 => ?_) (fun c7 => ?_)
      · refine g_iload_n C 1 dX4_passedOnTo_34 rfl ?_
        exact g_iretM C hR dX4_passedOnTo_35 (by rw [ht, show i = 6 by omega]) rfl rfl
      refine g_aload_n C 2 dX4_passedOnTo_10 rfl ?_
      refine g_getf C k_X4 1 f_X4_15 0 rfl rfl (by decide) rfl rfl dX4_passedOnTo_11 ?_
      refine g_iload_n C 0 dX4_passedOnTo_14 rfl ?_
      refine g_iald C 1 rfl (by omega) dX4_passedOnTo_15 ?_
      have r1_15 := hRT i
      refine g_iload_n C 3 dX4_passedOnTo_16 rfl ?_
      refine g_icmp_ne C 28 dX4_passedOnTo_17 (by decide) (by omega) (by omega) (fun c17 => ?_) (fun c17 => ?_)
      · refine g_iinc C 0 [(3, vi (i + 1)), (2, vi to9), (0, .ref ro), (1, vi z)] dX4_passedOnTo_28 rfl (by decide) rfl ?_
        refine g_goto C 4 dX4_passedOnTo_31 (by decide) ?_
        exact ih4 to9 (i + 1) (by first | exact ⟨by omega, by omega, by rw [sm_s _ hi0, ← ht]; unfold pst; rw [if_pos (Classical.not_not.mp c17)]⟩ | exact ⟨by omega, by omega, by rw [sm_s _ hi0, ← ht]; unfold pst; rw [if_neg c17]; omega⟩) (by omega)
      refine g_iload_n C 1 dX4_passedOnTo_20 rfl ?_
      refine g_aload_n C 2 dX4_passedOnTo_21 rfl ?_
      refine g_iload_n C 0 dX4_passedOnTo_22 rfl ?_
      refine g_callVp C [vi i] [vi to9] (c_X4_passedOnBy x.1.2.1 g ro rp rt rf rd rb rh rn RF RD RH i hRF hRD hRH (by omega)) y_X4_passedOnBy l_X4_71 [0, 2, 3, 4] rfl (by decide) 0 rfl rfl rfl (Nat.le_of_ble_eq_true rfl) rfl (by decide) dX4_passedOnTo_23 ?_
      refine g_iadd C dX4_passedOnTo_26 ?_
      refine g_istore_n C [(2, vi (to9 + (pso RF RD RH i))), (3, vi i), (0, .ref ro), (1, vi z)] dX4_passedOnTo_27 (by decide) rfl ?_
      refine g_iinc C 1 [(3, vi (i + 1)), (2, vi (to9 + (pso RF RD RH i))), (0, .ref ro), (1, vi z)] dX4_passedOnTo_28 rfl (by decide) rfl ?_
      refine g_goto C 4 dX4_passedOnTo_31 (by decide) ?_
      exact ih4 (to9 + (pso RF RD RH i)) (i + 1) (by first | exact ⟨by omega, by omega, by rw [sm_s _ hi0, ← ht]; unfold pst; rw [if_pos (Classical.not_not.mp c17)]⟩ | exact ⟨by omega, by omega, by rw [sm_s _ hi0, ← ht]; unfold pst; rw [if_neg c17]; omega⟩) (by omega)
  exact L4 _ 0 0 ⟨by omega, by omega, rfl⟩ (Nat.lt_succ_self _)

theorem stp_r {RB RT RF RD : Int → Int} (hRD : ∀ k, 0 ≤ RD k ∧ RD k ≤ 999999) (hRB : ∀ k, 0 ≤ RB k ∧ RB k ≤ 100000000) (H : Int → Int) (z : Int) : (0 ≤ stp RB RT RF RD H z ∧ stp RB RT RF RD H z ≤ 105999994) ∧ 0 ≤ sm (pst RT RF RD H z) 6 ∧ sm (pst RT RF RD H z) 6 ≤ 5999994 := by
  have h1 := sm_bound (F := pst RT RF RD H z) (lo := 0) (hi := 999999) (n := 6) (by omega) (fun i _ _ => by have := pso_r (RF := RF) hRD H i; unfold pst; split <;> omega)
  have h2 := hRB z
  have h3 : stp RB RT RF RD H z = RB z + sm (pst RT RF RD H z) 6 := rfl
  omega

theorem nx_r {RB RT RF RD RH RN : Int → Int} (hRD : ∀ k, 0 ≤ RD k ∧ RD k ≤ 999999) (hRB : ∀ k, 0 ≤ RB k ∧ RB k ≤ 100000000) (hRN : ∀ k, 0 ≤ RN k ∧ RN k ≤ 200000000) {n : Int} (hn : 0 ≤ n ∧ n ≤ 6) (z : Int) : 0 ≤ scad (cpy RB RN 6) RT (pso RF RD RH) n z ∧ (0 ≤ z ∧ z < 6 → scad (cpy RB RN 6) RT (pso RF RD RH) n z ≤ 105999994) ∧ scad (cpy RB RN 6) RT (pso RF RD RH) n z ≤ 205999994 := by
  rw [scad_z _ _ _ hn.1]
  have h1 := sm_bound (F := fun i => if RT i = z then pso RF RD RH i else 0) (lo := 0) (hi := 999999) hn.1 (fun i _ _ => by have := pso_r (RF := RF) hRD RH i; split <;> omega)
  have h2 := hRB z
  have h3 := hRN z
  have h4 := mul_rng (a := n) (b := 999999) (A := 6) (B := 999999) hn (by omega)
  have h5 : 0 ≤ cpy RB RN 6 z ∧ (0 ≤ z ∧ z < 6 → cpy RB RN 6 z ≤ 100000000) ∧ cpy RB RN 6 z ≤ 200000000 := by unfold cpy; split <;> omega
  omega
theorem nx_stp {RB RT RF RD RH RN : Int → Int} {z : Int} (h0 : 0 ≤ z) (h1 : z < 6) : scad (cpy RB RN 6) RT (pso RF RD RH) 6 z = stp RB RT RF RD RH z := by
  rw [scad_z _ _ _ (by omega), cpy_in ⟨h0, h1⟩]; rfl

set_option maxHeartbeats 4000000 in
set_option maxRecDepth 100000 in
theorem c_X4_spinOnce (l : Launch) (g : gD) (ro : Nat) (rp : Nat) (rt : Nat) (rf : Nat) (rd : Nat) (rb : Nat) (rh : Nat) (rn : Nat) (RT : Int → Int) (RF : Int → Int) (RD : Int → Int) (RB : Int → Int) (RH : Int → Int) (RN : Int → Int) (hRT : ∀ k, 0 ≤ RT k ∧ RT k ≤ 5) (hRF : ∀ k, 0 ≤ RF k ∧ RF k ≤ 999999) (hRD : ∀ k, 0 ≤ RD k ∧ RD k ≤ 999999) (hRB : ∀ k, 0 ≤ RB k ∧ RB k ≤ 100000000) (hRH : ∀ k, 0 ≤ RH k ∧ RH k ≤ 200000000) (hRN : ∀ k, 0 ≤ RN k ∧ RN k ≤ 200000000) : gMet l g yX4_spinOnce cX4_spinOnce 3 (some .boolean) 3 0 0 84 [.ref ro] [(ro, cO 4 [.ref rp, .ref rt, .ref rf, .ref rd, .ref rb, .ref rh, .ref rn]), (rt, cA g 6 RT), (rf, cA g 6 RF), (rd, cA g 6 RD), (rb, cA g 6 RB), (rh, cA g 6 RH), (rn, cA g 6 RN)] (gM (some (vi (bI (dif (cpy (stp RB RT RF RD RH) RN 6) RH 6)))) [(ro, cO 4 [.ref rp, .ref rt, .ref rf, .ref rd, .ref rb, .ref rh, .ref rn]), (rt, cA g 6 RT), (rf, cA g 6 RF), (rd, cA g 6 RD), (rb, cA g 6 RB), (rh, cA g 6 (cpy (cpy (stp RB RT RF RD RH) RN 6) RH 6)), (rn, cA g 6 (cpy (stp RB RT RF RD RH) RN 6))]) := by
  refine gMet.of y_X4_spinOnce.2.2.2.2.1 (Nat.le_of_ble_eq_true rfl) ?_
  intro x hlx C hR hnm
  subst hlx
  have C : gC g x RX4 cX4_spinOnce 3 3 0 0 84 := C
  show gW g x [(ro, cO 4 [.ref rp, .ref rt, .ref rf, .ref rd, .ref rb, .ref rh, .ref rn]), (rt, cA g 6 RT), (rf, cA g 6 RF), (rd, cA g 6 RD), (rb, cA g 6 RB), (rh, cA g 6 RH), (rn, cA g 6 RN)] 0 0 [(0, .ref ro)] 0 []
  refine g_iconst C dX4_spinOnce_0 ?_
  refine g_istore_n C [(1, vi 0), (0, .ref ro)] dX4_spinOnce_1 (by decide) rfl ?_
  refine g_iconst C dX4_spinOnce_2 ?_
  refine g_istore_n C [(2, vi 0), (1, vi 0), (0, .ref ro)] dX4_spinOnce_3 (by decide) rfl ?_
  have L4 : ∀ (f : Nat) (i : Int) (ch : Int) (cN : Int → Int), (0 ≤ i ∧ i ≤ 6 ∧ ch = bI (dif (cpy (stp RB RT RF RD RH) RN 6) RH i) ∧ cN = cpy (stp RB RT RF RD RH) RN i) → (6 - i).toNat < f → gW g x [(ro, cO 4 [.ref rp, .ref rt, .ref rf, .ref rd, .ref rb, .ref rh, .ref rn]), (rt, cA g 6 RT), (rf, cA g 6 RF), (rd, cA g 6 RD), (rb, cA g 6 RB), (rh, cA g 6 RH), (rn, cA g 6 cN)] 0 0 [(2, vi i), (1, vi ch), (0, .ref ro)] 4 [] := by
    intro f
    induction f with
    | zero => intro i ch cN hI4 hf; exact absurd hf (Nat.not_lt_zero _)
    | succ f ih4 =>
      intro i ch cN hI4 hf4
      obtain ⟨hi0, hi1, hc, hN⟩ := hI4
      have b9 := bI_01 (dif (cpy (stp RB RT RF RD RH) RN 6) RH i)
      refine g_iload_n C 0 dX4_spinOnce_4 rfl ?_
      refine g_bipush C dX4_spinOnce_5 (by decide) ?_
      refine g_icmp_ge C 59 dX4_spinOnce_7 (by decide) (by omega) (by omega) (fun c7 => ?_) (fun c7 => ?_)
      · obtain rfl : i = 6 := by omega
        subst hN hc
        refine g_aload_n C 2 dX4_spinOnce_59 rfl ?_
        refine g_getf C k_X4 6 f_X4_30 0 rfl rfl (by decide) rfl rfl dX4_spinOnce_60 ?_
        refine g_iconst C dX4_spinOnce_63 ?_
        refine g_aload_n C 2 dX4_spinOnce_64 rfl ?_
        refine g_getf C k_X4 5 f_X4_27 0 rfl rfl (by decide) rfl rfl dX4_spinOnce_65 ?_
        refine g_iconst C dX4_spinOnce_68 ?_
        refine g_bipush C dX4_spinOnce_69 (by decide) ?_
        refine g_copy C l_X4_57 w_acN w_acS w_sysI 6 5 rfl rfl (by omega) [(ro, cO 4 [.ref rp, .ref rt, .ref rf, .ref rd, .ref rb, .ref rh, .ref rn]), (rt, cA g 6 RT), (rf, cA g 6 RF), (rd, cA g 6 RD), (rb, cA g 6 RB), (rh, cA g 6 (cpy (cpy (stp RB RT RF RD RH) RN 6) RH 6)), (rn, cA g 6 (cpy (stp RB RT RF RD RH) RN 6))] rfl dX4_spinOnce_71 ⟨Nat.le_of_ble_eq_true rfl, Nat.le_of_ble_eq_true rfl⟩ ?_
        refine g_iload_n C 1 dX4_spinOnce_74 rfl ?_
        exact g_zretM C hR dX4_spinOnce_75 (by omega) rfl rfl rfl
      refine g_aload_n C 2 dX4_spinOnce_10 rfl ?_
      refine g_getf C k_X4 6 f_X4_30 0 rfl rfl (by decide) rfl rfl dX4_spinOnce_11 ?_
      refine g_iload_n C 0 dX4_spinOnce_14 rfl ?_
      refine g_aload_n C 2 dX4_spinOnce_15 rfl ?_
      refine g_getf C k_X4 4 f_X4_24 0 rfl rfl (by decide) rfl rfl dX4_spinOnce_16 ?_
      refine g_iload_n C 0 dX4_spinOnce_19 rfl ?_
      refine g_iald C 4 rfl (by omega) dX4_spinOnce_20 ?_
      have r1_20 := hRB i
      refine g_aload_n C 2 dX4_spinOnce_21 rfl ?_
      refine g_iload_n C 0 dX4_spinOnce_22 rfl ?_
      refine g_callVp C [vi i] [vi (RB i), vi i, .ref rn] (c_X4_passedOnTo x.1.2.1 g ro rp rt rf rd rb rh rn RT RF RD RH i hRT hRF hRD hRH (by omega)) y_X4_passedOnTo l_X4_67 [0, 1, 2, 3, 5] rfl (by decide) 0 rfl rfl rfl (Nat.le_of_ble_eq_true rfl) rfl (by decide) dX4_spinOnce_23 ?_
      have hs9 := stp_r (RT := RT) (RF := RF) hRD hRB RH i
      have hh9 := hRH i
      refine g_iadd C dX4_spinOnce_26 ?_
      refine g_val (w := stp RB RT RF RD RH i) rfl ?_
      refine g_iast C 6 rfl (by omega) [(ro, cO 4 [.ref rp, .ref rt, .ref rf, .ref rd, .ref rb, .ref rh, .ref rn]), (rt, cA g 6 RT), (rf, cA g 6 RF), (rd, cA g 6 RD), (rb, cA g 6 RB), (rh, cA g 6 RH), (rn, cA g 6 (up cN i (stp RB RT RF RD RH i)))] rfl dX4_spinOnce_27 ?_
      have J52 : ∀ (w : Int), (w = if ch = 1 ∨ stp RB RT RF RD RH i ≠ RH i then 1 else 0) → gW g x [(ro, cO 4 [.ref rp, .ref rt, .ref rf, .ref rd, .ref rb, .ref rh, .ref rn]), (rt, cA g 6 RT), (rf, cA g 6 RF), (rd, cA g 6 RD), (rb, cA g 6 RB), (rh, cA g 6 RH), (rn, cA g 6 (up cN i (stp RB RT RF RD RH i)))] 0 0 [(2, vi i), (1, vi ch), (0, .ref ro)] 52 [vi w] := by
        intro w hJ52
        refine g_istore_n C [(1, vi w), (2, vi i), (0, .ref ro)] dX4_spinOnce_52 (by decide) rfl ?_
        refine g_iinc C 1 [(2, vi (i + 1)), (1, vi w), (0, .ref ro)] dX4_spinOnce_53 rfl (by decide) rfl ?_
        refine g_goto C 4 dX4_spinOnce_56 (by decide) ?_
        exact ih4 (i + 1) w (up cN i (stp RB RT RF RD RH i)) ⟨by omega, by omega, by rw [hJ52, bI_or (dif_s hi0), ← hc, cpy_in ⟨hi0, by omega⟩], by rw [cpy_s _ _ hi0, ← hN]⟩ (by omega)
      refine g_iload_n C 1 dX4_spinOnce_28 rfl ?_
      refine g_if_ne C 47 dX4_spinOnce_29 (by decide) (by omega) (fun c29 => ?_) (fun c29 => ?_)
      · refine g_iconst C dX4_spinOnce_47 ?_
        refine g_goto C 52 dX4_spinOnce_48 (by decide) ?_
        exact J52 1 (by rw [if_pos (by omega)])
      refine g_aload_n C 2 dX4_spinOnce_32 rfl ?_
      refine g_getf C k_X4 6 f_X4_30 0 rfl rfl (by decide) rfl rfl dX4_spinOnce_33 ?_
      refine g_iload_n C 0 dX4_spinOnce_36 rfl ?_
      refine g_iald C 6 rfl (by omega) dX4_spinOnce_37 ?_
      refine g_val (w := stp RB RT RF RD RH i) up_s ?_
      refine g_aload_n C 2 dX4_spinOnce_38 rfl ?_
      refine g_getf C k_X4 5 f_X4_27 0 rfl rfl (by decide) rfl rfl dX4_spinOnce_39 ?_
      refine g_iload_n C 0 dX4_spinOnce_42 rfl ?_
      refine g_iald C 5 rfl (by omega) dX4_spinOnce_43 ?_
      have r2_43 := hRH i
      refine g_icmp_eq C 51 dX4_spinOnce_44 (by decide) (by omega) (by omega) (fun c44 => ?_) (fun c44 => ?_)
      · refine g_iconst C dX4_spinOnce_51 ?_
        exact J52 0 (by rw [if_neg (by omega)])
      refine g_iconst C dX4_spinOnce_47 ?_
      refine g_goto C 52 dX4_spinOnce_48 (by decide) ?_
      exact J52 1 (by rw [if_pos (by omega)])
  exact L4 _ 0 0 RN ⟨by omega, by omega, (bI_f (fun ⟨z, h0, h1, _⟩ => by omega)).symm, (cpy_0 _ _).symm⟩ (Nat.lt_succ_self _)

