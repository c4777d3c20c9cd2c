/-! the law's own rows -/
def wI (z : Int) : Int := (iI z).toInt
theorem wI_r (z : Int) : -2147483648 ≤ wI z ∧ wI z < 2147483648 := iI_r (iI z)
theorem iI_wI (z : Int) : iI (wI z) = iI z := iI_of (iI z)
theorem jI_r (x : Int64) : -9223372036854775808 ≤ x.toInt ∧ x.toInt < 9223372036854775808 := ⟨by have := x.le_toInt; omega, by have := x.toInt_lt; omega⟩
/-- the script -/
def gScr (x : gX) (b L : Nat) (sc : Int → Int) : Prop := match x with
  | ((p, l, e, R, s, m, args, below, meth, c), (A, H0, nL, Q)) => va_X b L (aI sc) s H0 ∧ b < H0.size ∧ ¬ A b ∧ L ≤ 4096
section rows
variable {g : gD} {x : gX} {own : String} {cc : ByteArray} {nL fr ce sl lo : Nat} {ws : va_W} {k n : Nat} {lv : List (Nat × Value)} {pc : Nat} {st : List Value}
theorem g_i2lw (C : gC g x own cc nL fr ce sl lo) {a : Int} (hd : decode cc pc = .ok (.i2l, 1)) (kk : gW g x ws k n lv (pc + 1) (vl (wI a) :: st)) : gW g x ws k n lv pc (vi a :: st) := by
  have e : vi a = vi (wI a) := by show Value.int (iI a) = Value.int (iI (wI a)); rw [iI_wI]
  rw [e]
  exact g_i2l C hd (wI_r a) kk
theorem g_lcmpS (C : gC g x own cc nL fr ce sl lo) {a : Int} (hd : decode cc pc = .ok (.lcmp, 1)) (kk : gW g x ws k n lv (pc + 1) (vi 0 :: st)) : gW g x ws k n lv pc (vl a :: vl a :: st) := by
  have e : vl a = vl (jI a).toInt := by show Value.long (jI a) = Value.long (jI (jI a).toInt); rw [jI_of]
  rw [e]
  refine g_lcmp C hd (jI_r _) (jI_r _) ?_
  rw [if_neg (Int.lt_irrefl _), if_pos rfl]
  exact kk
theorem g_iandX (C : gC g x own cc nL fr ce sl lo) {a b : Int} (hd : decode cc pc = .ok (.iand, 1)) (kk : ∀ v : Int, -2147483648 ≤ v ∧ v < 2147483648 → gW g x ws k n lv (pc + 1) (vi v :: st)) : gW g x ws k n lv pc (vi b :: vi a :: st) := by
  obtain ⟨⟨p, l, e, R, s, m, args, below, meth, c⟩, A, H0, nL', Q⟩ := x
  intro H locs ls hP hD hS hl
  refine lv_iand C.1 C.2.1 hd ?_
  have e := (iI_of (iI a &&& iI b)).symm
  rw [e]
  exact kk _ (iI_r _) H locs ls hP hD hS hl
theorem g_sld (C : gC g x own cc nL fr ce sl lo) {b L : Nat} {sc : Int → Int} (hX : gScr x b L sc) {i : Int} (hi : 0 ≤ i ∧ i < L) (hd : decode cc pc = .ok (.iaload, 1)) (kk : gW g x ws k n lv (pc + 1) (vi (sc i) :: st)) : gW g x ws k n lv pc (vi i :: .ref b :: st) := by
  obtain ⟨⟨p, l, e, R, s, m, args, below, meth, c⟩, A, H0, nL', Q⟩ := x
  obtain ⟨h1, h2, h3, h4⟩ := hX
  intro H locs ls hP hD hS hl
  have e := iI_clamp hi.1 (by omega : i < 2147483648)
  refine va_sld C.1 C.2.1 h1 h2 h3 hS (iI_in hi.1 hi.2 (by omega)) hd ?_
  have e2 : aI sc (iI i).toNatClampNeg = iI (sc i) := by show iI (sc _) = _; rw [e]
  rw [e2]
  exact kk H locs ls hP hD hS hl
theorem g_slen (C : gC g x own cc nL fr ce sl lo) {b L : Nat} {sc : Int → Int} (hX : gScr x b L sc) (hd : decode cc pc = .ok (.arraylength, 1)) (kk : gW g x ws k n lv (pc + 1) (vi (L : Int) :: st)) : gW g x ws k n lv pc (.ref b :: st) := by
  obtain ⟨⟨p, l, e, R, s, m, args, below, meth, c⟩, A, H0, nL', Q⟩ := x
  obtain ⟨h1, h2, h3, h4⟩ := hX
  intro H locs ls hP hD hS hl
  refine va_slen C.1 C.2.1 h1 h2 h3 hS hd ?_
  have e2 : Int32.ofNat L = iI (L : Int) := (Int32.ofInt_eq_ofNat).symm
  rw [e2]
  exact kk H locs ls hP hD hS hl
theorem g_icmpS (C : gC g x own cc nL fr ce sl lo) {a off : Int} (tgt : Nat) (hd : decode cc pc = .ok (.if_icmp .eq off, 3)) (ht : (pc : Int) + off = (tgt : Int)) (kk : gW g x ws k n lv tgt st) : gW g x ws k n lv pc (vi a :: vi a :: st) := by
  have e : vi a = vi (wI a) := by show Value.int (iI a) = Value.int (iI (wI a)); rw [iI_wI]
  rw [e]
  exact g_icmp_eq C tgt hd ht (wI_r a) (wI_r a) (fun _ => kk) (fun c => absurd rfl c)
theorem g_here (kk : gW g x ws k n lv pc st) : gW g x ws k n lv pc st := kk
end rows

theorem h_L_13 : Cond.classLink RL 13 E1 ∈ wAll := wAll_in 546 (by decide +kernel) (by decide +kernel)
theorem h_L_15 : Cond.classLink RL 15 E2 ∈ wAll := wAll_in 547 (by decide +kernel) (by decide +kernel)
theorem h_L_21 : Cond.classLink RL 21 E3 ∈ wAll := wAll_in 657 (by decide +kernel) (by decide +kernel)
theorem y_L_loss : gYz yL_loss cL_loss 6 (some .int) [(0, 12, 15, 13), (0, 12, 19, 15)] 5 := ⟨wAll_in 544 (by decide +kernel) (by decide +kernel), wAll_in 51 (by decide +kernel) (by decide +kernel), wAll_in 545 (by decide +kernel) (by decide +kernel), (by decide +kernel), (by decide +kernel), (by decide +kernel)⟩
theorem y_L_creep : gYz yL_creep cL_creep 5 (some .int) [(0, 10, 13, 21), (0, 10, 17, 13)] 4 := ⟨wAll_in 655 (by decide +kernel) (by decide +kernel), wAll_in 51 (by decide +kernel) (by decide +kernel), wAll_in 656 (by decide +kernel) (by decide +kernel), (by decide +kernel), (by decide +kernel), (by decide +kernel)⟩
theorem y_L_choose : gYz yL_choose cL_choose 6 (some .int) [(0, 12, 15, 13), (0, 12, 19, 15)] 5 := ⟨wAll_in 688 (by decide +kernel) (by decide +kernel), wAll_in 51 (by decide +kernel) (by decide +kernel), wAll_in 689 (by decide +kernel) (by decide +kernel), (by decide +kernel), (by decide +kernel), (by decide +kernel)⟩
theorem y_L_unchoose : gYz yL_unchoose cL_unchoose 3 (some .int) [(0, 8, 11, 15)] 2 := ⟨wAll_in 715 (by decide +kernel) (by decide +kernel), wAll_in 51 (by decide +kernel) (by decide +kernel), wAll_in 716 (by decide +kernel) (by decide +kernel), (by decide +kernel), (by decide +kernel), (by decide +kernel)⟩
theorem y_L_quota : gYz yL_quota cL_quota 4 (some .int) [(0, 9, 12, 13)] 3 := ⟨wAll_in 731 (by decide +kernel) (by decide +kernel), wAll_in 51 (by decide +kernel) (by decide +kernel), wAll_in 732 (by decide +kernel) (by decide +kernel), (by decide +kernel), (by decide +kernel), (by decide +kernel)⟩
theorem y_L_layer : gYz yL_layer cL_layer 9 (some .int) [(0, 18, 21, 13), (0, 18, 25, 15)] 8 := ⟨wAll_in 743 (by decide +kernel) (by decide +kernel), wAll_in 51 (by decide +kernel) (by decide +kernel), wAll_in 744 (by decide +kernel) (by decide +kernel), (by decide +kernel), (by decide +kernel), (by decide +kernel)⟩
theorem y_L_part : gYz yL_part cL_part 6 (some .int) [(0, 12, 15, 21), (0, 12, 19, 13), (0, 12, 23, 15)] 5 := ⟨wAll_in 761 (by decide +kernel) (by decide +kernel), wAll_in 51 (by decide +kernel) (by decide +kernel), wAll_in 762 (by decide +kernel) (by decide +kernel), (by decide +kernel), (by decide +kernel), (by decide +kernel)⟩
theorem y_L_retro : gYz yL_retro cL_retro 7 (some .int) [(0, 14, 17, 21), (0, 14, 21, 13)] 6 := ⟨wAll_in 786 (by decide +kernel) (by decide +kernel), wAll_in 51 (by decide +kernel) (by decide +kernel), wAll_in 787 (by decide +kernel) (by decide +kernel), (by decide +kernel), (by decide +kernel), (by decide +kernel)⟩
theorem y_L_station : gYz yL_station cL_station 4 (some .int) [(0, 9, 12, 13), (0, 9, 15, 15)] 3 := ⟨wAll_in 799 (by decide +kernel) (by decide +kernel), wAll_in 51 (by decide +kernel) (by decide +kernel), wAll_in 800 (by decide +kernel) (by decide +kernel), (by decide +kernel), (by decide +kernel), (by decide +kernel)⟩
theorem y_L_reading : gYz yL_reading cL_reading 7 (some .int) [(0, 14, 17, 21), (0, 14, 21, 13), (0, 14, 25, 15)] 6 := ⟨wAll_in 816 (by decide +kernel) (by decide +kernel), wAll_in 51 (by decide +kernel) (by decide +kernel), wAll_in 817 (by decide +kernel) (by decide +kernel), (by decide +kernel), (by decide +kernel), (by decide +kernel)⟩
theorem y_L_fails : gYz yL_fails cL_fails 5 (some .int) [(0, 10, 13, 21), (0, 10, 17, 13), (0, 10, 21, 15)] 4 := ⟨wAll_in 838 (by decide +kernel) (by decide +kernel), wAll_in 51 (by decide +kernel) (by decide +kernel), wAll_in 839 (by decide +kernel) (by decide +kernel), (by decide +kernel), (by decide +kernel), (by decide +kernel)⟩
theorem y_L_bond : gYz yL_bond cL_bond 10 (some .int) [(0, 20, 23, 13), (0, 20, 27, 15)] 9 := ⟨wAll_in 852 (by decide +kernel) (by decide +kernel), wAll_in 51 (by decide +kernel) (by decide +kernel), wAll_in 853 (by decide +kernel) (by decide +kernel), (by decide +kernel), (by decide +kernel), (by decide +kernel)⟩
theorem y_L_extend : gYz yL_extend cL_extend 5 (some .int) [(0, 10, 13, 21), (0, 10, 17, 13), (0, 10, 21, 15)] 4 := ⟨wAll_in 869 (by decide +kernel) (by decide +kernel), wAll_in 51 (by decide +kernel) (by decide +kernel), wAll_in 870 (by decide +kernel) (by decide +kernel), (by decide +kernel), (by decide +kernel), (by decide +kernel)⟩
theorem y_L_pass : gYz yL_pass cL_pass 4 (some .int) [(0, 9, 12, 13), (0, 9, 15, 15)] 3 := ⟨wAll_in 895 (by decide +kernel) (by decide +kernel), wAll_in 51 (by decide +kernel) (by decide +kernel), wAll_in 896 (by decide +kernel) (by decide +kernel), (by decide +kernel), (by decide +kernel), (by decide +kernel)⟩
theorem y_L_scenario : gYz yL_scenario cL_scenario 6 (some .int) [(0, 12, 15, 21), (0, 12, 19, 13), (0, 12, 23, 15)] 5 := ⟨wAll_in 903 (by decide +kernel) (by decide +kernel), wAll_in 51 (by decide +kernel) (by decide +kernel), wAll_in 904 (by decide +kernel) (by decide +kernel), (by decide +kernel), (by decide +kernel), (by decide +kernel)⟩
theorem y_L_occurrence : gYz yL_occurrence cL_occurrence 5 (some .int) [(0, 10, 13, 21), (0, 10, 17, 13)] 4 := ⟨wAll_in 927 (by decide +kernel) (by decide +kernel), wAll_in 51 (by decide +kernel) (by decide +kernel), wAll_in 928 (by decide +kernel) (by decide +kernel), (by decide +kernel), (by decide +kernel), (by decide +kernel)⟩
theorem y_L_hit : gYz yL_hit cL_hit 6 (some .int) [(0, 12, 15, 21), (0, 12, 19, 13)] 5 := ⟨wAll_in 944 (by decide +kernel) (by decide +kernel), wAll_in 51 (by decide +kernel) (by decide +kernel), wAll_in 945 (by decide +kernel) (by decide +kernel), (by decide +kernel), (by decide +kernel), (by decide +kernel)⟩
theorem y_L_sum : gYz yL_sum cL_sum 4 (some .int) [(0, 9, 12, 13)] 3 := ⟨wAll_in 956 (by decide +kernel) (by decide +kernel), wAll_in 51 (by decide +kernel) (by decide +kernel), wAll_in 957 (by decide +kernel) (by decide +kernel), (by decide +kernel), (by decide +kernel), (by decide +kernel)⟩
theorem y_L_reinsurer : gYz yL_reinsurer cL_reinsurer 5 (some .int) [(0, 10, 13, 21), (0, 10, 17, 13)] 4 := ⟨wAll_in 972 (by decide +kernel) (by decide +kernel), wAll_in 51 (by decide +kernel) (by decide +kernel), wAll_in 973 (by decide +kernel) (by decide +kernel), (by decide +kernel), (by decide +kernel), (by decide +kernel)⟩
theorem y_L_best : gYz yL_best cL_best 4 (some .int) [(0, 9, 12, 13)] 3 := ⟨wAll_in 983 (by decide +kernel) (by decide +kernel), wAll_in 51 (by decide +kernel) (by decide +kernel), wAll_in 984 (by decide +kernel) (by decide +kernel), (by decide +kernel), (by decide +kernel), (by decide +kernel)⟩
theorem y_L_bestAnew : gYz yL_bestAnew cL_bestAnew 4 (some .int) [(0, 9, 12, 13), (0, 9, 15, 15)] 3 := ⟨wAll_in 1015 (by decide +kernel) (by decide +kernel), wAll_in 51 (by decide +kernel) (by decide +kernel), wAll_in 1016 (by decide +kernel) (by decide +kernel), (by decide +kernel), (by decide +kernel), (by decide +kernel)⟩
theorem y_L_ofBond : gYz yL_ofBond cL_ofBond 5 (some .int) [(0, 10, 13, 21), (0, 10, 17, 13)] 4 := ⟨wAll_in 1034 (by decide +kernel) (by decide +kernel), wAll_in 51 (by decide +kernel) (by decide +kernel), wAll_in 1035 (by decide +kernel) (by decide +kernel), (by decide +kernel), (by decide +kernel), (by decide +kernel)⟩
theorem y_L_price : gYz yL_price cL_price 5 (some .int) [(0, 9, 12, 21), (0, 9, 16, 15)] 4 := ⟨wAll_in 1052 (by decide +kernel) (by decide +kernel), wAll_in 51 (by decide +kernel) (by decide +kernel), wAll_in 1053 (by decide +kernel) (by decide +kernel), (by decide +kernel), (by decide +kernel), (by decide +kernel)⟩
theorem y_L_tail : gYz yL_tail cL_tail 6 (some .int) [(0, 12, 15, 21), (0, 12, 19, 13), (0, 12, 23, 15)] 5 := ⟨wAll_in 1075 (by decide +kernel) (by decide +kernel), wAll_in 51 (by decide +kernel) (by decide +kernel), wAll_in 1076 (by decide +kernel) (by decide +kernel), (by decide +kernel), (by decide +kernel), (by decide +kernel)⟩
theorem y_L_dearest : gYz yL_dearest cL_dearest 5 (some .int) [(0, 9, 12, 21)] 4 := ⟨wAll_in 1096 (by decide +kernel) (by decide +kernel), wAll_in 51 (by decide +kernel) (by decide +kernel), wAll_in 1097 (by decide +kernel) (by decide +kernel), (by decide +kernel), (by decide +kernel), (by decide +kernel)⟩
