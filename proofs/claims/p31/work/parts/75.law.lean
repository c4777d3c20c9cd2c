/-! the law's own rows -/
def wI (z : Int) : Int := (iI z).toInt
theorem wI_r (z : Int) : -2147483648 ≤ wI z ∧ wI z < 2147483648 := iI_r (iI z)
theorem iI_wI (z : Int) : iI (wI z) = iI z := iI_of (iI z)
theorem jI_r (x : Int64) : -9223372036854775808 ≤ x.toInt ∧ x.toInt < 9223372036854775808 := ⟨by have := x.le_toInt; omega, by have := x.toInt_lt; omega⟩
/-- the script -/
def gScr (x : gX) (b L : Nat) (sc : Int → Int) : Prop := match x with
  | ((p, l, e, R, s, m, args, below, meth, c), (A, H0, nL, Q)) => va_X b L (aI sc) s H0 ∧ b < H0.size ∧ ¬ A b ∧ L ≤ 4096
section rows
variable {g : gD} {x : gX} {own : String} {cc : ByteArray} {nL fr ce sl lo : Nat} {ws : va_W} {k n : Nat} {lv : List (Nat × Value)} {pc : Nat} {st : List Value}
theorem g_i2lw (C : gC g x own cc nL fr ce sl lo) {a : Int} (hd : decode cc pc = .ok (.i2l, 1)) (kk : gW g x ws k n lv (pc + 1) (vl (wI a) :: st)) : gW g x ws k n lv pc (vi a :: st) := by
  have e : vi a = vi (wI a) := by show Value.int (iI a) = Value.int (iI (wI a)); rw [iI_wI]
  rw [e]
  exact g_i2l C hd (wI_r a) kk
theorem g_lcmpS (C : gC g x own cc nL fr ce sl lo) {a : Int} (hd : decode cc pc = .ok (.lcmp, 1)) (kk : gW g x ws k n lv (pc + 1) (vi 0 :: st)) : gW g x ws k n lv pc (vl a :: vl a :: st) := by
  have e : vl a = vl (jI a).toInt := by show Value.long (jI a) = Value.long (jI (jI a).toInt); rw [jI_of]
  rw [e]
  refine g_lcmp C hd (jI_r _) (jI_r _) ?_
  rw [if_neg (Int.lt_irrefl _), if_pos rfl]
  exact kk
theorem g_iandX (C : gC g x own cc nL fr ce sl lo) {a b : Int} (hd : decode cc pc = .ok (.iand, 1)) (kk : ∀ v : Int, -2147483648 ≤ v ∧ v < 2147483648 → gW g x ws k n lv (pc + 1) (vi v :: st)) : gW g x ws k n lv pc (vi b :: vi a :: st) := by
  obtain ⟨⟨p, l, e, R, s, m, args, below, meth, c⟩, A, H0, nL', Q⟩ := x
  intro H locs ls hP hD hS hl
  refine lv_iand C.1 C.2.1 hd ?_
  have e := (iI_of (iI a &&& iI b)).symm
  rw [e]
  exact kk _ (iI_r _) H locs ls hP hD hS hl
theorem g_sld (C : gC g x own cc nL fr ce sl lo) {b L : Nat} {sc : Int → Int} (hX : gScr x b L sc) {i : Int} (hi : 0 ≤ i ∧ i < L) (hd : decode cc pc = .ok (.iaload, 1)) (kk : gW g x ws k n lv (pc + 1) (vi (sc i) :: st)) : gW g x ws k n lv pc (vi i :: .ref b :: st) := by
  obtain ⟨⟨p, l, e, R, s, m, args, below, meth, c⟩, A, H0, nL', Q⟩ := x
  obtain ⟨h1, h2, h3, h4⟩ := hX
  intro H locs ls hP hD hS hl
  have e := iI_clamp hi.1 (by omega : i < 2147483648)
  refine va_sld C.1 C.2.1 h1 h2 h3 hS (iI_in hi.1 hi.2 (by omega)) hd ?_
  have e2 : aI sc (iI i).toNatClampNeg = iI (sc i) := by show iI (sc _) = _; rw [e]
  rw [e2]
  exact kk H locs ls hP hD hS hl
theorem g_slen (C : gC g x own cc nL fr ce sl lo) {b L : Nat} {sc : Int → Int} (hX : gScr x b L sc) (hd : decode cc pc = .ok (.arraylength, 1)) (kk : gW g x ws k n lv (pc + 1) (vi (L : Int) :: st)) : gW g x ws k n lv pc (.ref b :: st) := by
  obtain ⟨⟨p, l, e, R, s, m, args, below, meth, c⟩, A, H0, nL', Q⟩ := x
  obtain ⟨h1, h2, h3, h4⟩ := hX
  intro H locs ls hP hD hS hl
  refine va_slen C.1 C.2.1 h1 h2 h3 hS hd ?_
  have e2 : Int32.ofNat L = iI (L : Int) := (Int32.ofInt_eq_ofNat).symm
  rw [e2]
  exact kk H locs ls hP hD hS hl
theorem g_icmpS (C : gC g x own cc nL fr ce sl lo) {a off : Int} (tgt : Nat) (hd : decode cc pc = .ok (.if_icmp .eq off, 3)) (ht : (pc : Int) + off = (tgt : Int)) (kk : gW g x ws k n lv tgt st) : gW g x ws k n lv pc (vi a :: vi a :: st) := by
  have e : vi a = vi (wI a) := by show Value.int (iI a) = Value.int (iI (wI a)); rw [iI_wI]
  rw [e]
  exact g_icmp_eq C tgt hd ht (wI_r a) (wI_r a) (fun _ => kk) (fun c => absurd rfl c)
theorem g_here (kk : gW g x ws k n lv pc st) : gW g x ws k n lv pc st := kk
end rows

theorem h_L_14 : Cond.classLink RL 14 E1 ∈ wAll := wAll_in 340 (by decide +kernel) (by decide +kernel)
theorem h_L_17 : Cond.classLink RL 17 E2 ∈ wAll := wAll_in 341 (by decide +kernel) (by decide +kernel)
theorem h_L_23 : Cond.classLink RL 23 E3 ∈ wAll := wAll_in 452 (by decide +kernel) (by decide +kernel)
theorem y_L_loss : gYz yL_loss cL_loss 5 (some .int) [(0, 7, 8, 14), (0, 7, 13, 17)] 4 := ⟨wAll_in 338 (by decide +kernel) (by decide +kernel), wAll_in 15 (by decide +kernel) (by decide +kernel), wAll_in 339 (by decide +kernel) (by decide +kernel), (by decide +kernel), (by decide +kernel), (by decide +kernel)⟩
theorem y_L_creep : gYz yL_creep cL_creep 4 (some .int) [(0, 6, 7, 23), (0, 6, 11, 14)] 3 := ⟨wAll_in 450 (by decide +kernel) (by decide +kernel), wAll_in 15 (by decide +kernel) (by decide +kernel), wAll_in 451 (by decide +kernel) (by decide +kernel), (by decide +kernel), (by decide +kernel), (by decide +kernel)⟩
theorem y_L_choose : gYz yL_choose cL_choose 5 (some .int) [(0, 7, 8, 14), (0, 7, 13, 17)] 4 := ⟨wAll_in 483 (by decide +kernel) (by decide +kernel), wAll_in 15 (by decide +kernel) (by decide +kernel), wAll_in 484 (by decide +kernel) (by decide +kernel), (by decide +kernel), (by decide +kernel), (by decide +kernel)⟩
theorem y_L_unchoose : gYz yL_unchoose cL_unchoose 2 (some .int) [(0, 4, 5, 17)] 1 := ⟨wAll_in 510 (by decide +kernel) (by decide +kernel), wAll_in 15 (by decide +kernel) (by decide +kernel), wAll_in 511 (by decide +kernel) (by decide +kernel), (by decide +kernel), (by decide +kernel), (by decide +kernel)⟩
theorem y_L_quota : gYz yL_quota cL_quota 3 (some .int) [(0, 5, 6, 14)] 2 := ⟨wAll_in 526 (by decide +kernel) (by decide +kernel), wAll_in 15 (by decide +kernel) (by decide +kernel), wAll_in 527 (by decide +kernel) (by decide +kernel), (by decide +kernel), (by decide +kernel), (by decide +kernel)⟩
theorem y_L_layer : gYz yL_layer cL_layer 8 (some .int) [(0, 13, 14, 14), (0, 13, 19, 17)] 7 := ⟨wAll_in 538 (by decide +kernel) (by decide +kernel), wAll_in 15 (by decide +kernel) (by decide +kernel), wAll_in 539 (by decide +kernel) (by decide +kernel), (by decide +kernel), (by decide +kernel), (by decide +kernel)⟩
theorem y_L_part : gYz yL_part cL_part 5 (some .int) [(0, 7, 8, 23), (0, 7, 13, 14), (0, 7, 18, 17)] 4 := ⟨wAll_in 556 (by decide +kernel) (by decide +kernel), wAll_in 15 (by decide +kernel) (by decide +kernel), wAll_in 557 (by decide +kernel) (by decide +kernel), (by decide +kernel), (by decide +kernel), (by decide +kernel)⟩
theorem y_L_retro : gYz yL_retro cL_retro 6 (some .int) [(0, 9, 10, 23), (0, 9, 15, 14)] 5 := ⟨wAll_in 584 (by decide +kernel) (by decide +kernel), wAll_in 15 (by decide +kernel) (by decide +kernel), wAll_in 585 (by decide +kernel) (by decide +kernel), (by decide +kernel), (by decide +kernel), (by decide +kernel)⟩
theorem y_L_station : gYz yL_station cL_station 3 (some .int) [(0, 5, 6, 14), (0, 5, 10, 17)] 2 := ⟨wAll_in 597 (by decide +kernel) (by decide +kernel), wAll_in 15 (by decide +kernel) (by decide +kernel), wAll_in 598 (by decide +kernel) (by decide +kernel), (by decide +kernel), (by decide +kernel), (by decide +kernel)⟩
theorem y_L_reading : gYz yL_reading cL_reading 6 (some .int) [(0, 9, 10, 23), (0, 9, 15, 14), (0, 9, 20, 17)] 5 := ⟨wAll_in 614 (by decide +kernel) (by decide +kernel), wAll_in 15 (by decide +kernel) (by decide +kernel), wAll_in 615 (by decide +kernel) (by decide +kernel), (by decide +kernel), (by decide +kernel), (by decide +kernel)⟩
theorem y_L_fails : gYz yL_fails cL_fails 4 (some .int) [(0, 6, 7, 23), (0, 6, 11, 14), (0, 6, 15, 17)] 3 := ⟨wAll_in 636 (by decide +kernel) (by decide +kernel), wAll_in 15 (by decide +kernel) (by decide +kernel), wAll_in 637 (by decide +kernel) (by decide +kernel), (by decide +kernel), (by decide +kernel), (by decide +kernel)⟩
theorem y_L_bond : gYz yL_bond cL_bond 9 (some .int) [(0, 15, 16, 14), (0, 15, 21, 17)] 8 := ⟨wAll_in 659 (by decide +kernel) (by decide +kernel), wAll_in 15 (by decide +kernel) (by decide +kernel), wAll_in 660 (by decide +kernel) (by decide +kernel), (by decide +kernel), (by decide +kernel), (by decide +kernel)⟩
theorem y_L_extend : gYz yL_extend cL_extend 4 (some .int) [(0, 6, 7, 23), (0, 6, 11, 14), (0, 6, 15, 17)] 3 := ⟨wAll_in 676 (by decide +kernel) (by decide +kernel), wAll_in 15 (by decide +kernel) (by decide +kernel), wAll_in 677 (by decide +kernel) (by decide +kernel), (by decide +kernel), (by decide +kernel), (by decide +kernel)⟩
theorem y_L_pass : gYz yL_pass cL_pass 3 (some .int) [(0, 5, 6, 14), (0, 5, 10, 17)] 2 := ⟨wAll_in 702 (by decide +kernel) (by decide +kernel), wAll_in 15 (by decide +kernel) (by decide +kernel), wAll_in 703 (by decide +kernel) (by decide +kernel), (by decide +kernel), (by decide +kernel), (by decide +kernel)⟩
theorem y_L_scenario : gYz yL_scenario cL_scenario 5 (some .int) [(0, 7, 8, 23), (0, 7, 13, 14), (0, 7, 18, 17)] 4 := ⟨wAll_in 710 (by decide +kernel) (by decide +kernel), wAll_in 15 (by decide +kernel) (by decide +kernel), wAll_in 711 (by decide +kernel) (by decide +kernel), (by decide +kernel), (by decide +kernel), (by decide +kernel)⟩
theorem y_L_occurrence : gYz yL_occurrence cL_occurrence 4 (some .int) [(0, 6, 7, 23), (0, 6, 11, 14)] 3 := ⟨wAll_in 734 (by decide +kernel) (by decide +kernel), wAll_in 15 (by decide +kernel) (by decide +kernel), wAll_in 735 (by decide +kernel) (by decide +kernel), (by decide +kernel), (by decide +kernel), (by decide +kernel)⟩
theorem y_L_hit : gYz yL_hit cL_hit 5 (some .int) [(0, 7, 8, 23), (0, 7, 13, 14)] 4 := ⟨wAll_in 811 (by decide +kernel) (by decide +kernel), wAll_in 15 (by decide +kernel) (by decide +kernel), wAll_in 812 (by decide +kernel) (by decide +kernel), (by decide +kernel), (by decide +kernel), (by decide +kernel)⟩
theorem y_L_sum : gYz yL_sum cL_sum 3 (some .int) [(0, 5, 6, 14)] 2 := ⟨wAll_in 823 (by decide +kernel) (by decide +kernel), wAll_in 15 (by decide +kernel) (by decide +kernel), wAll_in 824 (by decide +kernel) (by decide +kernel), (by decide +kernel), (by decide +kernel), (by decide +kernel)⟩
theorem y_L_reinsurer : gYz yL_reinsurer cL_reinsurer 4 (some .int) [(0, 6, 7, 23), (0, 6, 11, 14)] 3 := ⟨wAll_in 876 (by decide +kernel) (by decide +kernel), wAll_in 15 (by decide +kernel) (by decide +kernel), wAll_in 877 (by decide +kernel) (by decide +kernel), (by decide +kernel), (by decide +kernel), (by decide +kernel)⟩
theorem y_L_best : gYz yL_best cL_best 3 (some .int) [(0, 5, 6, 14)] 2 := ⟨wAll_in 914 (by decide +kernel) (by decide +kernel), wAll_in 15 (by decide +kernel) (by decide +kernel), wAll_in 915 (by decide +kernel) (by decide +kernel), (by decide +kernel), (by decide +kernel), (by decide +kernel)⟩
theorem y_L_bestAnew : gYz yL_bestAnew cL_bestAnew 3 (some .int) [(0, 5, 6, 14), (0, 5, 10, 17)] 2 := ⟨wAll_in 946 (by decide +kernel) (by decide +kernel), wAll_in 15 (by decide +kernel) (by decide +kernel), wAll_in 947 (by decide +kernel) (by decide +kernel), (by decide +kernel), (by decide +kernel), (by decide +kernel)⟩
theorem y_L_ofBond : gYz yL_ofBond cL_ofBond 4 (some .int) [(0, 6, 7, 23), (0, 6, 11, 14)] 3 := ⟨wAll_in 969 (by decide +kernel) (by decide +kernel), wAll_in 15 (by decide +kernel) (by decide +kernel), wAll_in 970 (by decide +kernel) (by decide +kernel), (by decide +kernel), (by decide +kernel), (by decide +kernel)⟩
theorem y_L_price : gYz yL_price cL_price 4 (some .long) [(0, 6, 7, 23), (0, 6, 12, 17)] 3 := ⟨wAll_in 1027 (by decide +kernel) (by decide +kernel), wAll_in 15 (by decide +kernel) (by decide +kernel), wAll_in 1028 (by decide +kernel) (by decide +kernel), (by decide +kernel), (by decide +kernel), (by decide +kernel)⟩
theorem y_L_tail : gYz yL_tail cL_tail 5 (some .int) [(0, 7, 8, 23), (0, 7, 13, 14), (0, 7, 18, 17)] 4 := ⟨wAll_in 1051 (by decide +kernel) (by decide +kernel), wAll_in 15 (by decide +kernel) (by decide +kernel), wAll_in 1052 (by decide +kernel) (by decide +kernel), (by decide +kernel), (by decide +kernel), (by decide +kernel)⟩
theorem y_L_dearest : gYz yL_dearest cL_dearest 4 (some .long) [(0, 6, 7, 23)] 3 := ⟨wAll_in 1072 (by decide +kernel) (by decide +kernel), wAll_in 15 (by decide +kernel) (by decide +kernel), wAll_in 1073 (by decide +kernel) (by decide +kernel), (by decide +kernel), (by decide +kernel), (by decide +kernel)⟩

