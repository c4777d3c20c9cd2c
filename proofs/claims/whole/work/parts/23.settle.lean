theorem fb_holes : ∀ (m n : Nat) (f : Nat → Nat), (∀ i, i < n → f i < m) → (∀ i j, i < j → j < n → f i ≠ f j) → n ≤ m := by
  intro m
  induction m with
  | zero =>
    intro n f h1 _
    rcases Nat.eq_zero_or_pos n with h | h
    · omega
    · exact absurd (h1 0 h) (Nat.not_lt_zero _)
  | succ m ih =>
    intro n f h1 h2
    by_cases hx : ∃ i, i < n ∧ f i = m
    · obtain ⟨a, ha, hfa⟩ := hx
      have hg := ih (n - 1) (fun i => if i < a then f i else f (i + 1)) (by
        intro i hi
        by_cases q : i < a
        · simp only [if_pos q]
          have b1 := h1 i (by omega)
          have b2 := h2 i a q ha
          omega
        · simp only [if_neg q]
          have b1 := h1 (i + 1) (by omega)
          have b2 := h2 a (i + 1) (by omega) (by omega)
          omega) (by
        intro i j hij hj
        by_cases q : i < a
        · by_cases r : j < a
          · simp only [if_pos q, if_pos r]
            exact h2 i j hij (by omega)
          · simp only [if_pos q, if_neg r]
            exact h2 i (j + 1) (by omega) (by omega)
        · have r : ¬ j < a := by omega
          simp only [if_neg q, if_neg r]
          exact h2 (i + 1) (j + 1) (by omega) (by omega))
      omega
    · have hg := ih n f (fun i hi => by
        have b1 := h1 i hi
        have b2 : f i ≠ m := fun e => hx ⟨i, hi, e⟩
        omega) h2
      omega
/-- two of them in one place -/
theorem fb_twice {m n : Nat} {f : Nat → Nat} (h : ∀ i, i < n → f i < m) (hm : m < n) : ∃ i j, i < j ∧ j < n ∧ f i = f j := by
  refine Classical.byContradiction fun hx => ?_
  have := fb_holes m n f h (fun i j hij hj e => hx ⟨i, j, hij, hj, e⟩)
  omega
/-- as many as places, none twice: each place is taken -/
theorem fb_onto {n : Nat} {f : Nat → Nat} (h : ∀ i, i < n → f i < n) (h2 : ∀ i j, i < j → j < n → f i ≠ f j) {y : Nat} (hy : y < n) : ∃ i, i < n ∧ f i = y := by
  refine Classical.byContradiction fun hx => ?_
  have hne : ∀ i, i < n → f i ≠ y := fun i hi e => hx ⟨i, hi, e⟩
  have := fb_holes (n - 1) n (fun i => if f i < y then f i else f i - 1) (by
    intro i hi
    have b1 := h i hi
    have b2 := hne i hi
    by_cases q : f i < y
    · simp only [if_pos q]; omega
    · simp only [if_neg q]; omega) (by
    intro i j hij hj
    have b1 := hne i (by omega)
    have b2 := hne j hj
    have b3 := h2 i j hij hj
    by_cases q : f i < y
    · by_cases r : f j < y
      · simp only [if_pos q, if_pos r]; exact b3
      · simp only [if_pos q, if_neg r]; omega
    · by_cases r : f j < y
      · simp only [if_neg q, if_pos r]; omega
      · simp only [if_neg q, if_neg r]; omega)
  omega
theorem gro_r {LP LH LU : Int → Int} (hLU : ∀ k, 0 ≤ LU k ∧ LU k ≤ 99999) {nL : Int} (hnL : 0 ≤ nL ∧ nL ≤ 40) (OP OF OT : Int → Int) (o : Int) : 0 ≤ gro LP LH LU nL OP OF OT o ∧ gro LP LH LU nL OP OF OT o ≤ 3999960 := by
  have := sm_bound (F := grd LP LH LU (OP o) (OF o) (OT o)) (lo := 0) (hi := 99999) hnL.1 (fun i _ _ => by have := hLU i; unfold grd; split <;> omega)
  unfold gro; omega
theorem plc_r (OP OF : Int → Int) {n o : Int} (h0 : 0 ≤ o) (h : o < n) : 0 ≤ plc OP OF n o ∧ plc OP OF n o ≤ n - 1 := by
  have h1 : ∀ i, 0 ≤ bef OP OF o i ∧ bef OP OF o i ≤ 1 := fun i => by unfold bef; split <;> omega
  have h2 := sm_ind (P := fun m => (0 ≤ sm (bef OP OF o) m ∧ sm (bef OP OF o) m ≤ m) ∧ (o < m → sm (bef OP OF o) m ≤ m - 1)) ⟨by rw [sm_0]; omega, fun q => by omega⟩ (fun i hi ih => by
    rw [sm_s _ hi]
    have := h1 i
    refine ⟨by omega, fun q => ?_⟩
    by_cases e : i = o
    · subst e
      have e0 : bef OP OF i i = 0 := by unfold bef; rw [if_neg (by omega)]
      omega
    · have := ih.2 (by omega); omega) n (by omega)
  exact ⟨h2.1.1, h2.2 h⟩
theorem scat_r {F ix v : Int → Int} {lo hi n : Int} (hn : 0 ≤ n) (hF : ∀ k, lo ≤ F k ∧ F k ≤ hi) (hv : ∀ i, 0 ≤ i → i < n → lo ≤ v i ∧ v i ≤ hi) (k : Int) : lo ≤ scat F ix v n k ∧ scat F ix v n k ≤ hi := by
  have := sm_ind (P := fun m => m ≤ n → lo ≤ scat F ix v m k ∧ scat F ix v m k ≤ hi) (fun _ => hF k) (fun i hi' ih hm => by
    rw [scat_s _ _ _ hi']
    by_cases e : k = ix i
    · subst e; rw [up_s]; exact hv i hi' (by omega)
    · rw [up_n e]; exact ih (by omega)) n hn
  exact this (Int.le_refl _)
/-! the order of the windows is a numbering -/
def dst9 (OP OF : Int → Int) (n : Int) : Prop := ∀ i j, 0 ≤ i → i < n → 0 ≤ j → j < n → OF i = OF j → OP i = OP j → i = j
theorem sm_le {F G : Int → Int} {n : Int} (hn : 0 ≤ n) (h : ∀ i, 0 ≤ i → i < n → F i ≤ G i) : sm F n ≤ sm G n := by
  have := sm_ind (P := fun m => m ≤ n → sm F m ≤ sm G m) (fun _ => Int.le_refl _) (fun i hi ih hm => by
    rw [sm_s _ hi, sm_s _ hi]; have := ih (by omega); have := h i hi (by omega); omega) n hn
  exact this (Int.le_refl _)
theorem sm_lt {F G : Int → Int} {n z : Int} (h : ∀ i, 0 ≤ i → i < n → F i ≤ G i) (h0 : 0 ≤ z) (h1 : z < n) (hz : F z < G z) : sm F n < sm G n := by
  have := sm_ind (P := fun m => m ≤ n → sm F m ≤ sm G m ∧ (z < m → sm F m < sm G m)) (fun _ => ⟨Int.le_refl _, fun q => by omega⟩) (fun i hi ih hm => by
    rw [sm_s _ hi, sm_s _ hi]; have ih := ih (by omega); have hh := h i hi (by omega)
    refine ⟨by omega, fun q => ?_⟩
    by_cases e : i = z
    · subst e; omega
    · have := ih.2 (by omega); omega) n (by omega)
  exact (this (Int.le_refl _)).2 h1
theorem plc_lt {OP OF : Int → Int} {n i j : Int} (hi0 : 0 ≤ i) (hi : i < n) (h : OF i < OF j ∨ (OF i = OF j ∧ OP i < OP j)) : plc OP OF n i < plc OP OF n j := by
  refine sm_lt (z := i) (fun k _ _ => ?_) hi0 hi ?_
  · unfold bef; split <;> split <;> omega
  · unfold bef; rw [if_neg (by omega), if_pos h]; omega
theorem plc_inj {OP OF : Int → Int} {n : Int} (hd : dst9 OP OF n) {i j : Int} (hi0 : 0 ≤ i) (hi : i < n) (hj0 : 0 ≤ j) (hj : j < n) (h : plc OP OF n i = plc OP OF n j) : i = j := by
  by_cases a : OF i < OF j ∨ (OF i = OF j ∧ OP i < OP j)
  · have := plc_lt (n := n) hi0 hi a; omega
  · by_cases b : OF j < OF i ∨ (OF j = OF i ∧ OP j < OP i)
    · have := plc_lt (n := n) hj0 hj b; omega
    · exact hd i j hi0 hi hj0 hj (by omega) (by omega)
theorem plc_sur {OP OF : Int → Int} {n : Int} (hd : dst9 OP OF n) {a : Int} (h0 : 0 ≤ a) (h : a < n) : ∃ o, 0 ≤ o ∧ o < n ∧ plc OP OF n o = a := by
  have hr : ∀ i : Nat, i < n.toNat → 0 ≤ plc OP OF n i ∧ plc OP OF n i ≤ n - 1 := fun i hi => plc_r OP OF (by omega) (by omega)
  obtain ⟨i, hi, e⟩ := fb_onto (n := n.toNat) (f := fun i => (plc OP OF n (i : Int)).toNat) (fun i hi => by have := hr i hi; show (plc OP OF n i).toNat < _; omega) (fun i j hij hj q => by
    have h1 := hr i (by omega)
    have h2 := hr j hj
    have q : (plc OP OF n i).toNat = (plc OP OF n j).toNat := q
    have := plc_inj hd (i := i) (j := j) (by omega) (by omega) (by omega) (by omega) (by omega)
    omega) (y := a.toNat) (by omega)
  have e : (plc OP OF n i).toNat = a.toNat := e
  have := hr i hi
  exact ⟨i, by omega, by omega, by omega⟩
def laN (F : Int → Int) (v : Int → Int → Int) (SO : Int → Int) (n : Int) : Nat → Int → Int
  | 0 => F
  | y + 1 => scat (laN F v SO n y) (fun a => (y : Int) * 8 + SO a) (v (y : Int)) n
def lay (F : Int → Int) (v : Int → Int → Int) (SO : Int → Int) (n m : Int) : Int → Int := laN F v SO n m.toNat
theorem lay_s (F : Int → Int) (v : Int → Int → Int) (SO : Int → Int) (n : Int) {y : Int} (h : 0 ≤ y) : lay F v SO n (y + 1) = scat (lay F v SO n y) (fun a => y * 8 + SO a) (v y) n := by
  obtain ⟨k, rfl⟩ : ∃ k : Nat, y = k := ⟨y.toNat, by omega⟩
  have e : ((k : Int) + 1).toNat = k + 1 := by omega
  have e2 : (k : Int).toNat = k := by omega
  simp only [lay, e, e2, laN]
def ldN (F : Int → Int) (v : Int → Int → Int) (SO : Int → Int) (n : Int) : Nat → Int → Int
  | 0 => F
  | y + 1 => scad (ldN F v SO n y) SO (v (y : Int)) n
def lad (F : Int → Int) (v : Int → Int → Int) (SO : Int → Int) (n m : Int) : Int → Int := ldN F v SO n m.toNat
theorem lad_s (F : Int → Int) (v : Int → Int → Int) (SO : Int → Int) (n : Int) {y : Int} (h : 0 ≤ y) : lad F v SO n (y + 1) = scad (lad F v SO n y) SO (v y) n := by
  obtain ⟨k, rfl⟩ : ∃ k : Nat, y = k := ⟨y.toNat, by omega⟩
  have e : ((k : Int) + 1).toNat = k + 1 := by omega
  have e2 : (k : Int).toNat = k := by omega
  simp only [lad, e, e2, ldN]
theorem lay_in {F : Int → Int} {v : Int → Int → Int} {SO : Int → Int} {n m : Int} (hn : 0 ≤ n) (hm : 0 ≤ m) (hr : ∀ k, 0 ≤ SO k ∧ SO k ≤ 7) (inj : ∀ a b, 0 ≤ a → a < n → 0 ≤ b → b < n → SO a = SO b → a = b) {y b : Int} (hy : 0 ≤ y) (hym : y < m) (h0 : 0 ≤ b) (h1 : b < n) : lay F v SO n m (y * 8 + SO b) = v y b := by
  have := sm_ind (P := fun z => z ≤ m → y < z → lay F v SO n z (y * 8 + SO b) = v y b) (fun _ h => by omega) (fun i hi ih hz hy2 => by
    rw [lay_s _ _ _ _ hi]
    by_cases e : y = i
    · subst e
      exact scat_in (ix := fun a => y * 8 + SO a) hn (fun a c a0 a1 c0 c1 q => inj a c a0 a1 c0 c1 (by simpa using q)) h0 h1
    · rw [scat_out hn (fun c _ _ => by have := hr c; have := hr b; show i * 8 + SO c ≠ _; omega)]
      exact ih (by omega) (by omega)) m hm
  exact this (Int.le_refl _) hym
theorem lad_in {F : Int → Int} {v : Int → Int → Int} {SO : Int → Int} {n m : Int} (hn : 0 ≤ n) (hm : 0 ≤ m) (inj : ∀ a b, 0 ≤ a → a < n → 0 ≤ b → b < n → SO a = SO b → a = b) {b : Int} (h0 : 0 ≤ b) (h1 : b < n) : lad F v SO n m (SO b) = F (SO b) + sm (fun y => v y b) m := by
  refine sm_ind (P := fun z => lad F v SO n z (SO b) = F (SO b) + sm (fun y => v y b) z) ?_ (fun i hi ih => ?_) m hm
  · rw [sm_0]; show F (SO b) = _; omega
  · rw [lad_s _ _ _ _ hi, scad_in hn inj h0 h1, ih, sm_s _ hi]; omega
/-! what settling lays into the rows of each window -/
def sGr (LP LH LU : Int → Int) (nL : Int) (OP OF OT SG : Int → Int) (nO : Int) : Int → Int := cpy (gro LP LH LU nL OP OF OT) SG nO
def sQt (LP LH LU : Int → Int) (nL : Int) (OP OF OT : Int → Int) (Q : Int) (SQ : Int → Int) (nO : Int) : Int → Int := cpy (fun o => qto Q (gro LP LH LU nL OP OF OT o)) SQ nO
def sOr (OP OF SO : Int → Int) (nO : Int) : Int → Int := scat SO (plc OP OF nO) (fun o => o) nO
def sNt (LP LH LU : Int → Int) (nL : Int) (OP OF OT : Int → Int) (Q : Int) (SG SQ SO : Int → Int) (nO : Int) : Int → Int := nt (sGr LP LH LU nL OP OF OT SG nO) (sQt LP LH LU nL OP OF OT Q SQ nO) (sOr OP OF SO nO)
theorem sOr_r {OP OF SO : Int → Int} {nO : Int} (hSO : ∀ k, 0 ≤ SO k ∧ SO k ≤ 7) (hnO : 0 ≤ nO ∧ nO ≤ 8) (k : Int) : 0 ≤ sOr OP OF SO nO k ∧ sOr OP OF SO nO k ≤ 7 := scat_r hnO.1 hSO (fun i _ _ => by omega) k
theorem sOr_plc {OP OF : Int → Int} {n : Int} (hd : dst9 OP OF n) (SO : Int → Int) {o : Int} (h0 : 0 ≤ o) (h : o < n) : sOr OP OF SO n (plc OP OF n o) = o :=
  scat_in (F := SO) (ix := plc OP OF n) (v := fun o => o) (by omega) (fun a b a0 a1 b0 b1 q => plc_inj hd a0 a1 b0 b1 q) h0 h
theorem sOr_inj {OP OF : Int → Int} {n : Int} (hd : dst9 OP OF n) (SO : Int → Int) : ∀ a b, 0 ≤ a → a < n → 0 ≤ b → b < n → sOr OP OF SO n a = sOr OP OF SO n b → a = b := by
  intro a b a0 a1 b0 b1 q
  obtain ⟨i, i0, i1, rfl⟩ := plc_sur hd a0 a1
  obtain ⟨j, j0, j1, rfl⟩ := plc_sur hd b0 b1
  rw [sOr_plc hd SO i0 i1, sOr_plc hd SO j0 j1] at q
  rw [q]
theorem z_7 : ∀ k : Int, 0 ≤ (fun _ : Int => (0 : Int)) k ∧ (fun _ : Int => (0 : Int)) k ≤ 7 := fun _ => ⟨Int.le_refl 0, (by decide : (0 : Int) ≤ 7)⟩
def sLe (FL DP RE : Int → Int) (N : Int → Int) (nO l0 i : Int) : Int := if i ≤ 0 then l0 else lf FL DP RE (i - 1) N nO
def sRe (FL DP RE : Int → Int) (N : Int → Int) (nO l0 i : Int) : Int := if i ≤ 0 then l0 else rs FL DP RE (i - 1) N nO
theorem sLe_s (FL DP RE N : Int → Int) (nO l0 : Int) {i : Int} (h : 0 ≤ i) : lf FL DP RE i N nO = sLe FL DP RE N nO l0 (i + 1) := by
  unfold sLe; rw [if_neg (by omega), show i + 1 - 1 = i by omega]
theorem sRe_s (FL DP RE N : Int → Int) (nO l0 : Int) {i : Int} (h : 0 ≤ i) : rs FL DP RE i N nO = sRe FL DP RE N nO l0 (i + 1) := by
  unfold sRe; rw [if_neg (by omega), show i + 1 - 1 = i by omega]
theorem sOr_inv {OP OF : Int → Int} {n : Int} (hd : dst9 OP OF n) {SP : Int → Int} (hSP : ∀ o, 0 ≤ o → o < n → SP o = plc OP OF n o) : (∀ a9, 0 ≤ a9 → a9 < n → (0 ≤ sOr OP OF (fun _ => 0) n a9 ∧ sOr OP OF (fun _ => 0) n a9 < n) ∧ SP (sOr OP OF (fun _ => 0) n a9) = a9) ∧ (∀ o9, 0 ≤ o9 → o9 < n → (0 ≤ SP o9 ∧ SP o9 < n) ∧ sOr OP OF (fun _ => 0) n (SP o9) = o9) := by
  refine ⟨fun a a0 a1 => ?_, fun o o0 o1 => ?_⟩
  · obtain ⟨o, o0, o1, rfl⟩ := plc_sur hd a0 a1
    rw [sOr_plc hd _ o0 o1, hSP o o0 o1]
    exact ⟨⟨o0, o1⟩, rfl⟩
  · have h := plc_r OP OF (n := n) o0 o1
    rw [hSP o o0 o1, sOr_plc hd _ o0 o1]
    exact ⟨⟨h.1, by omega⟩, rfl⟩
theorem sNet_r {LP LH LU : Int → Int} (hLU : ∀ k, 0 ≤ LU k ∧ LU k ≤ 99999) {nL : Int} (hnL : 0 ≤ nL ∧ nL ≤ 40) {OP OF OT : Int → Int} {Q : Int} (hQ : 0 ≤ Q ∧ Q ≤ 90) {SG SQ : Int → Int} (hNet : ∀ k, 0 ≤ SG k - SQ k ∧ SG k - SQ k ≤ 3999960) (nO k : Int) : 0 ≤ sGr LP LH LU nL OP OF OT SG nO k - sQt LP LH LU nL OP OF OT Q SQ nO k ∧ sGr LP LH LU nL OP OF OT SG nO k - sQt LP LH LU nL OP OF OT Q SQ nO k ≤ 3999960 := by
  have h1 := gro_r (LP := LP) (LH := LH) hLU hnL OP OF OT k
  have h2 := qto_r hQ h1
  have h3 := hNet k
  unfold sGr sQt cpy
  by_cases q : 0 ≤ k ∧ k < nO
  · rw [if_pos q, if_pos q]; show 0 ≤ _ - qto Q (gro LP LH LU nL OP OF OT k) ∧ _ - qto Q (gro LP LH LU nL OP OF OT k) ≤ 3999960; omega
  · rw [if_neg q, if_neg q]; omega

set_option maxHeartbeats 4000000 in
set_option maxRecDepth 100000 in
theorem c_X5_settle (l : Launch) (g : gD) (lo : Nat) (lp : Nat) (lh : Nat) (lu : Nat) (LP : Int → Int) (LH : Int → Int) (LU : Int → Int) (nL : Int) (wo : Nat) (wp : Nat) (wf : Nat) (wl : Nat) (OP : Int → Int) (OF : Int → Int) (OT : Int → Int) (nO : Int) (to : Nat) (tf : Nat) (td : Nat) (tS : Nat) (tr : Nat) (tp : Nat) (tt : Nat) (FL : Int → Int) (DP : Int → Int) (SH : Int → Int) (RE : Int → Int) (PR : Int → Int) (RA : Int → Int) (nY : Int) (Q : Int) (so : Nat) (sg : Nat) (sq : Nat) (sp : Nat) (sd : Nat) (sc : Nat) (xh : Nat) (xp : Nat) (xr : Nat) (xc : Nat) (xl : Nat) (SG : Int → Int) (SQ : Int → Int) (SP : Int → Int) (SD : Int → Int) (SC : Int → Int) (XH : Int → Int) (XP : Int → Int) (XR : Int → Int) (XC : Int → Int) (XL : Int → Int) (nSo : Int) (nSy : Int) (nSl : Int) (nSr : Int) (hLP : ∀ k, 0 ≤ LP k ∧ LP k ≤ 2) (hLH : ∀ k, 0 ≤ LH k ∧ LH k ≤ 2199) (hLU : ∀ k, 0 ≤ LU k ∧ LU k ≤ 99999) (hnL : 0 ≤ nL ∧ nL ≤ 40) (hOP : ∀ k, 0 ≤ OP k ∧ OP k ≤ 2) (hOF : ∀ k, 0 ≤ OF k ∧ OF k ≤ 2199) (hOT : ∀ k, 0 ≤ OT k ∧ OT k ≤ 2199) (hnO : 0 ≤ nO ∧ nO ≤ 8) (hFL : ∀ k, 0 ≤ FL k ∧ FL k ≤ 999999) (hDP : ∀ k, 0 ≤ DP k ∧ DP k ≤ 999999) (hSH : ∀ k, 0 ≤ SH k ∧ SH k ≤ 100) (hRE : ∀ k, 0 ≤ RE k ∧ RE k ≤ 3) (hPR : ∀ k, 0 ≤ PR k ∧ PR k ≤ 99999) (hRA : ∀ k, 0 ≤ RA k ∧ RA k ≤ 150) (hnY : 0 ≤ nY ∧ nY ≤ 5) (hQ : 0 ≤ Q ∧ Q ≤ 90) (hNet : ∀ k, 0 ≤ SG k - SQ k ∧ SG k - SQ k ≤ 3999960) (hDP1 : ∀ k, 0 ≤ k → k < nY → 1 ≤ DP k) (hdst : dst9 OP OF nO) : gMet l g yX5_settle cX5_settle 5 none 3 0 0 88 [.ref so, .ref lo, .ref wo, .ref to] [(lo, cO 2 [.ref lp, .ref lh, .ref lu, vi nL]), (lp, cA g 40 LP), (lh, cA g 40 LH), (lu, cA g 40 LU), (wo, cO 8 [.ref wp, .ref wf, .ref wl, vi nO]), (wp, cA g 8 OP), (wf, cA g 8 OF), (wl, cA g 8 OT), (to, cO 7 [.ref tf, .ref td, .ref tS, .ref tr, .ref tp, .ref tt, vi nY, vi Q]), (tf, cA g 5 FL), (td, cA g 5 DP), (tS, cA g 5 SH), (tr, cA g 5 RE), (tp, cA g 5 PR), (tt, cA g 5 RA), (so, cO 5 [.ref sg, .ref sq, .ref sp, .ref sd, .ref sc, .ref xh, .ref xp, .ref xr, .ref xc, .ref xl, vi nSo, vi nSy, vi nSl, vi nSr]), (sg, cA g 8 SG), (sq, cA g 8 SQ), (sp, cA g 8 SP), (sd, cA g 8 SD), (sc, cA g 8 SC), (xh, cA g 40 XH), (xp, cA g 40 XP), (xr, cA g 40 XR), (xc, cA g 40 XC), (xl, cA g 40 XL)] (gM none [(lo, cO 2 [.ref lp, .ref lh, .ref lu, vi nL]), (lp, cA g 40 LP), (lh, cA g 40 LH), (lu, cA g 40 LU), (wo, cO 8 [.ref wp, .ref wf, .ref wl, vi nO]), (wp, cA g 8 OP), (wf, cA g 8 OF), (wl, cA g 8 OT), (to, cO 7 [.ref tf, .ref td, .ref tS, .ref tr, .ref tp, .ref tt, vi nY, vi Q]), (tf, cA g 5 FL), (td, cA g 5 DP), (tS, cA g 5 SH), (tr, cA g 5 RE), (tp, cA g 5 PR), (tt, cA g 5 RA), (so, cO 5 [.ref sg, .ref sq, .ref sp, .ref sd, .ref sc, .ref xh, .ref xp, .ref xr, .ref xc, .ref xl, vi nO, vi nY, vi (sLe FL DP RE (sNt LP LH LU nL OP OF OT Q SG SQ (fun _ => 0) nO) nO nSl nY), vi (sRe FL DP RE (sNt LP LH LU nL OP OF OT Q SG SQ (fun _ => 0) nO) nO nSr nY)]), (sg, cA g 8 (sGr LP LH LU nL OP OF OT SG nO)), (sq, cA g 8 (sQt LP LH LU nL OP OF OT Q SQ nO)), (sp, cA g 8 (cpy (plc OP OF nO) SP nO)), (sd, cA g 8 (lad (cpy (fun _ => 0) SD nO) (fun y a => pay SH y (hitA FL DP RE y (sNt LP LH LU nL OP OF OT Q SG SQ (fun _ => 0) nO) a)) (sOr OP OF (fun _ => 0) nO) nO nY)), (sc, cA g 8 (lad (cpy (fun _ => 0) SC nO) (fun y a => chg DP PR RA y (resA FL DP RE y (sNt LP LH LU nL OP OF OT Q SG SQ (fun _ => 0) nO) a)) (sOr OP OF (fun _ => 0) nO) nO nY)), (xh, cA g 40 (lay XH (fun y a => hitA FL DP RE y (sNt LP LH LU nL OP OF OT Q SG SQ (fun _ => 0) nO) a) (sOr OP OF (fun _ => 0) nO) nO nY)), (xp, cA g 40 (lay XP (fun y a => pay SH y (hitA FL DP RE y (sNt LP LH LU nL OP OF OT Q SG SQ (fun _ => 0) nO) a)) (sOr OP OF (fun _ => 0) nO) nO nY)), (xr, cA g 40 (lay XR (fun y a => resA FL DP RE y (sNt LP LH LU nL OP OF OT Q SG SQ (fun _ => 0) nO) a) (sOr OP OF (fun _ => 0) nO) nO nY)), (xc, cA g 40 (lay XC (fun y a => chg DP PR RA y (resA FL DP RE y (sNt LP LH LU nL OP OF OT Q SG SQ (fun _ => 0) nO) a)) (sOr OP OF (fun _ => 0) nO) nO nY)), (xl, cA g 40 (lay XL (fun y a => lf FL DP RE y (sNt LP LH LU nL OP OF OT Q SG SQ (fun _ => 0) nO) (a + 1)) (sOr OP OF (fun _ => 0) nO) nO nY))]) := by
  refine gMet.of y_X5_settle.2.2.2.2.1 (Nat.le_of_ble_eq_true rfl) ?_
  intro x hlx C hR hnm
  subst hlx
  have C : gC g x RX5 cX5_settle 5 3 0 0 88 := C
  show gW g x [(lo, cO 2 [.ref lp, .ref lh, .ref lu, vi nL]), (lp, cA g 40 LP), (lh, cA g 40 LH), (lu, cA g 40 LU), (wo, cO 8 [.ref wp, .ref wf, .ref wl, vi nO]), (wp, cA g 8 OP), (wf, cA g 8 OF), (wl, cA g 8 OT), (to, cO 7 [.ref tf, .ref td, .ref tS, .ref tr, .ref tp, .ref tt, vi nY, vi Q]), (tf, cA g 5 FL), (td, cA g 5 DP), (tS, cA g 5 SH), (tr, cA g 5 RE), (tp, cA g 5 PR), (tt, cA g 5 RA), (so, cO 5 [.ref sg, .ref sq, .ref sp, .ref sd, .ref sc, .ref xh, .ref xp, .ref xr, .ref xc, .ref xl, vi nSo, vi nSy, vi nSl, vi nSr]), (sg, cA g 8 SG), (sq, cA g 8 SQ), (sp, cA g 8 SP), (sd, cA g 8 SD), (sc, cA g 8 SC), (xh, cA g 40 XH), (xp, cA g 40 XP), (xr, cA g 40 XR), (xc, cA g 40 XC), (xl, cA g 40 XL)] 0 0 [(0, .ref so), (1, .ref lo), (2, .ref wo), (3, .ref to)] 0 []
  refine g_aload_n C 0 dX5_settle_0 rfl ?_
  refine g_aload_n C 2 dX5_settle_1 rfl ?_
  refine g_getfN C k_X8 3 f_X5_42 4 rfl rfl (by decide) rfl rfl dX5_settle_2 ?_
  refine g_putf C k_X5 tyX5_ok nmX5 10 f_X5_48 15 rfl rfl (by decide) rfl rfl rfl rfl (Nat.le_of_ble_eq_true rfl) [(lo, cO 2 [.ref lp, .ref lh, .ref lu, vi nL]), (lp, cA g 40 LP), (lh, cA g 40 LH), (lu, cA g 40 LU), (wo, cO 8 [.ref wp, .ref wf, .ref wl, vi nO]), (wp, cA g 8 OP), (wf, cA g 8 OF), (wl, cA g 8 OT), (to, cO 7 [.ref tf, .ref td, .ref tS, .ref tr, .ref tp, .ref tt, vi nY, vi Q]), (tf, cA g 5 FL), (td, cA g 5 DP), (tS, cA g 5 SH), (tr, cA g 5 RE), (tp, cA g 5 PR), (tt, cA g 5 RA), (so, cO 5 [.ref sg, .ref sq, .ref sp, .ref sd, .ref sc, .ref xh, .ref xp, .ref xr, .ref xc, .ref xl, vi nO, vi nSy, vi nSl, vi nSr]), (sg, cA g 8 SG), (sq, cA g 8 SQ), (sp, cA g 8 SP), (sd, cA g 8 SD), (sc, cA g 8 SC), (xh, cA g 40 XH), (xp, cA g 40 XP), (xr, cA g 40 XR), (xc, cA g 40 XC), (xl, cA g 40 XL)] rfl dX5_settle_5 ?_
  refine g_aload_n C 0 dX5_settle_8 rfl ?_
  refine g_aload_n C 3 dX5_settle_9 rfl ?_
  refine g_getfN C k_X7 6 f_X5_51 8 rfl rfl (by decide) rfl rfl dX5_settle_10 ?_
  refine g_putf C k_X5 tyX5_ok nmX5 11 f_X5_54 15 rfl rfl (by decide) rfl rfl rfl rfl (Nat.le_of_ble_eq_true rfl) [(lo, cO 2 [.ref lp, .ref lh, .ref lu, vi nL]), (lp, cA g 40 LP), (lh, cA g 40 LH), (lu, cA g 40 LU), (wo, cO 8 [.ref wp, .ref wf, .ref wl, vi nO]), (wp, cA g 8 OP), (wf, cA g 8 OF), (wl, cA g 8 OT), (to, cO 7 [.ref tf, .ref td, .ref tS, .ref tr, .ref tp, .ref tt, vi nY, vi Q]), (tf, cA g 5 FL), (td, cA g 5 DP), (tS, cA g 5 SH), (tr, cA g 5 RE), (tp, cA g 5 PR), (tt, cA g 5 RA), (so, cO 5 [.ref sg, .ref sq, .ref sp, .ref sd, .ref sc, .ref xh, .ref xp, .ref xr, .ref xc, .ref xl, vi nO, vi nY, vi nSl, vi nSr]), (sg, cA g 8 SG), (sq, cA g 8 SQ), (sp, cA g 8 SP), (sd, cA g 8 SD), (sc, cA g 8 SC), (xh, cA g 40 XH), (xp, cA g 40 XP), (xr, cA g 40 XR), (xc, cA g 40 XC), (xl, cA g 40 XL)] rfl dX5_settle_13 ?_
  refine g_iconst C dX5_settle_16 ?_
  refine g_istore C [(4, vi 0), (0, .ref so), (1, .ref lo), (2, .ref wo), (3, .ref to)] dX5_settle_17 (by decide) rfl ?_
  have L19 : ∀ (f : Nat) (i : Int) (cG : Int → Int) (cQ : Int → Int) (cD : Int → Int) (cE : Int → Int) (cP : Int → Int), (0 ≤ i ∧ i ≤ nO ∧ cG = cpy (gro LP LH LU nL OP OF OT) SG i ∧ cQ = cpy (fun o => qto Q ((gro LP LH LU nL OP OF OT) o)) SQ i ∧ cD = cpy (fun _ => 0) SD i ∧ cE = cpy (fun _ => 0) SC i ∧ cP = cpy (plc OP OF nO) SP i) → (nO - i).toNat < f → gW g x [(lo, cO 2 [.ref lp, .ref lh, .ref lu, vi nL]), (lp, cA g 40 LP), (lh, cA g 40 LH), (lu, cA g 40 LU), (wo, cO 8 [.ref wp, .ref wf, .ref wl, vi nO]), (wp, cA g 8 OP), (wf, cA g 8 OF), (wl, cA g 8 OT), (to, cO 7 [.ref tf, .ref td, .ref tS, .ref tr, .ref tp, .ref tt, vi nY, vi Q]), (tf, cA g 5 FL), (td, cA g 5 DP), (tS, cA g 5 SH), (tr, cA g 5 RE), (tp, cA g 5 PR), (tt, cA g 5 RA), (so, cO 5 [.ref sg, .ref sq, .ref sp, .ref sd, .ref sc, .ref xh, .ref xp, .ref xr, .ref xc, .ref xl, vi nO, vi nY, vi nSl, vi nSr]), (sg, cA g 8 cG), (sq, cA g 8 cQ), (sp, cA g 8 cP), (sd, cA g 8 cD), (sc, cA g 8 cE), (xh, cA g 40 XH), (xp, cA g 40 XP), (xr, cA g 40 XR), (xc, cA g 40 XC), (xl, cA g 40 XL)] 0 0 [(4, vi i), (0, .ref so), (1, .ref lo), (2, .ref wo), (3, .ref to)] 19 [] := by
    intro f
    induction f with
    | zero => intro i cG cQ cD cE cP hI19 hf; exact absurd hf (Nat.not_lt_zero _)
    | succ f ih19 =>
      intro i cG cQ cD cE cP hI19 hf19
      obtain ⟨hi0, hi1, hG, hQ9, hD, hE, hP⟩ := hI19
      refine g_iload C 0 dX5_settle_19 rfl ?_
      refine g_aload_n C 1 dX5_settle_21 rfl ?_
      refine g_getf C k_X5 10 f_X5_48 15 rfl rfl (by decide) rfl rfl dX5_settle_22 ?_
      refine g_icmp_ge C 95 dX5_settle_25 (by decide) (by omega) (by omega) (fun c25 => ?_) (fun c25 => ?_)
      · obtain rfl : nO = i := by omega
        subst hG hQ9 hD hE hP
        have hNet9 := fun k => sNet_r (LP := LP) (LH := LH) hLU hnL (OP := OP) (OF := OF) (OT := OT) hQ hNet nO k
        have hiv9 := sOr_inv hdst (SP := cpy (plc OP OF nO) SP nO) (fun o o0 o1 => cpy_in ⟨o0, o1⟩)
        refine g_iconst C dX5_settle_95 ?_
        refine g_istore C [(4, vi 0), (0, .ref so), (1, .ref lo), (2, .ref wo), (3, .ref to)] dX5_settle_96 (by decide) rfl ?_
        have L98 : ∀ (f : Nat) (i : Int) (le : Int) (re : Int) (cD : Int → Int) (cE : Int → Int) (cH : Int → Int) (cP : Int → Int) (cR : Int → Int) (cC : Int → Int) (cL : Int → Int), (0 ≤ i ∧ i ≤ nY ∧ le = sLe FL DP RE (sNt LP LH LU nL OP OF OT Q SG SQ (fun _ => 0) nO) nO nSl i ∧ re = sRe FL DP RE (sNt LP LH LU nL OP OF OT Q SG SQ (fun _ => 0) nO) nO nSr i ∧ cH = lay XH (fun y a => hitA FL DP RE y (sNt LP LH LU nL OP OF OT Q SG SQ (fun _ => 0) nO) a) (sOr OP OF (fun _ => 0) nO) nO i ∧ cP = lay XP (fun y a => pay SH y (hitA FL DP RE y (sNt LP LH LU nL OP OF OT Q SG SQ (fun _ => 0) nO) a)) (sOr OP OF (fun _ => 0) nO) nO i ∧ cR = lay XR (fun y a => resA FL DP RE y (sNt LP LH LU nL OP OF OT Q SG SQ (fun _ => 0) nO) a) (sOr OP OF (fun _ => 0) nO) nO i ∧ cC = lay XC (fun y a => chg DP PR RA y (resA FL DP RE y (sNt LP LH LU nL OP OF OT Q SG SQ (fun _ => 0) nO) a)) (sOr OP OF (fun _ => 0) nO) nO i ∧ cL = lay XL (fun y a => lf FL DP RE y (sNt LP LH LU nL OP OF OT Q SG SQ (fun _ => 0) nO) (a + 1)) (sOr OP OF (fun _ => 0) nO) nO i ∧ cD = lad (cpy (fun _ => 0) SD nO) (fun y a => pay SH y (hitA FL DP RE y (sNt LP LH LU nL OP OF OT Q SG SQ (fun _ => 0) nO) a)) (sOr OP OF (fun _ => 0) nO) nO i ∧ cE = lad (cpy (fun _ => 0) SC nO) (fun y a => chg DP PR RA y (resA FL DP RE y (sNt LP LH LU nL OP OF OT Q SG SQ (fun _ => 0) nO) a)) (sOr OP OF (fun _ => 0) nO) nO i) → (nY - i).toNat < f → gW g x [(lo, cO 2 [.ref lp, .ref lh, .ref lu, vi nL]), (lp, cA g 40 LP), (lh, cA g 40 LH), (lu, cA g 40 LU), (wo, cO 8 [.ref wp, .ref wf, .ref wl, vi nO]), (wp, cA g 8 OP), (wf, cA g 8 OF), (wl, cA g 8 OT), (to, cO 7 [.ref tf, .ref td, .ref tS, .ref tr, .ref tp, .ref tt, vi nY, vi Q]), (tf, cA g 5 FL), (td, cA g 5 DP), (tS, cA g 5 SH), (tr, cA g 5 RE), (tp, cA g 5 PR), (tt, cA g 5 RA), (so, cO 5 [.ref sg, .ref sq, .ref sp, .ref sd, .ref sc, .ref xh, .ref xp, .ref xr, .ref xc, .ref xl, vi nO, vi nY, vi le, vi re]), (sg, cA g 8 (sGr LP LH LU nL OP OF OT SG nO)), (sq, cA g 8 (sQt LP LH LU nL OP OF OT Q SQ nO)), (sp, cA g 8 (cpy (plc OP OF nO) SP nO)), (sd, cA g 8 cD), (sc, cA g 8 cE), (xh, cA g 40 cH), (xp, cA g 40 cP), (xr, cA g 40 cR), (xc, cA g 40 cC), (xl, cA g 40 cL)] 0 0 [(4, vi i), (0, .ref so), (1, .ref lo), (2, .ref wo), (3, .ref to)] 98 [] := by
          intro f
          induction f with
          | zero => intro i le re cD cE cH cP cR cC cL hI98 hf; exact absurd hf (Nat.not_lt_zero _)
          | succ f ih98 =>
            intro i le re cD cE cH cP cR cC cL hI98 hf98
            obtain ⟨hi0, hi1, hle9, hre9, hH, hP, hR9, hC, hL, hD, hE⟩ := hI98
            refine g_iload C 0 dX5_settle_98 rfl ?_
            refine g_aload_n C 1 dX5_settle_100 rfl ?_
            refine g_getf C k_X5 11 f_X5_54 15 rfl rfl (by decide) rfl rfl dX5_settle_101 ?_
            refine g_icmp_ge C 120 dX5_settle_104 (by decide) (by omega) (by omega) (fun c104 => ?_) (fun c104 => ?_)
            · obtain rfl : nY = i := by omega
              subst hH hP hR9 hC hL hD hE hle9 hre9
              exact g_vretM C hR dX5_settle_120 rfl rfl
            refine g_aload_n C 1 dX5_settle_107 rfl ?_
            refine g_aload_n C 4 dX5_settle_108 rfl ?_
            refine g_iload C 0 dX5_settle_109 rfl ?_
            refine g_callV C [.ref to, vi i] [] (c_X5_settleLayer x.1.2.1 g to tf td tS tr tp tt FL DP SH RE PR RA nY Q so sg sq sp sd sc xh xp xr xc xl (sGr LP LH LU nL OP OF OT SG nO) (sQt LP LH LU nL OP OF OT Q SQ nO) (cpy (plc OP OF nO) SP nO) (sOr OP OF (fun _ => 0) nO) cD cE cH cP cR cC cL nO nY le re i hFL hDP hSH hRE hPR hRA hiv9.1 hiv9.2 hNet9 hnO (by omega) (hDP1 i hi0 (by omega))) y_X5_settleLayer l_X5_68 [8, 9, 10, 11, 12, 13, 14, 15, 16, 17, 18, 19, 20, 21, 22, 23, 24, 25] rfl (by decide) 15 rfl rfl rfl (Nat.le_of_ble_eq_true rfl) rfl (by decide) dX5_settle_111 (fun v9 w9 hp9 => ?_)
            obtain ⟨rfl, rfl⟩ := hp9
            simp only [putAll, List.set_cons_succ, List.set_cons_zero, List.cons_append, List.nil_append, List.append_nil, Option.toList]
            show gW g x [(lo, cO 2 [.ref lp, .ref lh, .ref lu, vi nL]), (lp, cA g 40 LP), (lh, cA g 40 LH), (lu, cA g 40 LU), (wo, cO 8 [.ref wp, .ref wf, .ref wl, vi nO]), (wp, cA g 8 OP), (wf, cA g 8 OF), (wl, cA g 8 OT), (to, cO 7 [.ref tf, .ref td, .ref tS, .ref tr, .ref tp, .ref tt, vi nY, vi Q]), (tf, cA g 5 FL), (td, cA g 5 DP), (tS, cA g 5 SH), (tr, cA g 5 RE), (tp, cA g 5 PR), (tt, cA g 5 RA), (so, cO 5 [.ref sg, .ref sq, .ref sp, .ref sd, .ref sc, .ref xh, .ref xp, .ref xr, .ref xc, .ref xl, vi nO, vi nY, vi (lf FL DP RE i (nt (sGr LP LH LU nL OP OF OT SG nO) (sQt LP LH LU nL OP OF OT Q SQ nO) (sOr OP OF (fun _ => 0) nO)) nO), vi (rs FL DP RE i (nt (sGr LP LH LU nL OP OF OT SG nO) (sQt LP LH LU nL OP OF OT Q SQ nO) (sOr OP OF (fun _ => 0) nO)) nO)]), (sg, cA g 8 (sGr LP LH LU nL OP OF OT SG nO)), (sq, cA g 8 (sQt LP LH LU nL OP OF OT Q SQ nO)), (sp, cA g 8 (cpy (plc OP OF nO) SP nO)), (sd, cA g 8 (scad cD (sOr OP OF (fun _ => 0) nO) (fun a => pay SH i ((hitA FL DP RE i (nt (sGr LP LH LU nL OP OF OT SG nO) (sQt LP LH LU nL OP OF OT Q SQ nO) (sOr OP OF (fun _ => 0) nO))) a)) nO)), (sc, cA g 8 (scad cE (sOr OP OF (fun _ => 0) nO) (fun a => chg DP PR RA i ((resA FL DP RE i (nt (sGr LP LH LU nL OP OF OT SG nO) (sQt LP LH LU nL OP OF OT Q SQ nO) (sOr OP OF (fun _ => 0) nO))) a)) nO)), (xh, cA g 40 (scat cH (fun a => i * 8 + (sOr OP OF (fun _ => 0) nO) a) (hitA FL DP RE i (nt (sGr LP LH LU nL OP OF OT SG nO) (sQt LP LH LU nL OP OF OT Q SQ nO) (sOr OP OF (fun _ => 0) nO))) nO)), (xp, cA g 40 (scat cP (fun a => i * 8 + (sOr OP OF (fun _ => 0) nO) a) (fun a => pay SH i ((hitA FL DP RE i (nt (sGr LP LH LU nL OP OF OT SG nO) (sQt LP LH LU nL OP OF OT Q SQ nO) (sOr OP OF (fun _ => 0) nO))) a)) nO)), (xr, cA g 40 (scat cR (fun a => i * 8 + (sOr OP OF (fun _ => 0) nO) a) (resA FL DP RE i (nt (sGr LP LH LU nL OP OF OT SG nO) (sQt LP LH LU nL OP OF OT Q SQ nO) (sOr OP OF (fun _ => 0) nO))) nO)), (xc, cA g 40 (scat cC (fun a => i * 8 + (sOr OP OF (fun _ => 0) nO) a) (fun a => chg DP PR RA i ((resA FL DP RE i (nt (sGr LP LH LU nL OP OF OT SG nO) (sQt LP LH LU nL OP OF OT Q SQ nO) (sOr OP OF (fun _ => 0) nO))) a)) nO)), (xl, cA g 40 (scat cL (fun a => i * 8 + (sOr OP OF (fun _ => 0) nO) a) (fun a => lf FL DP RE i (nt (sGr LP LH LU nL OP OF OT SG nO) (sQt LP LH LU nL OP OF OT Q SQ nO) (sOr OP OF (fun _ => 0) nO)) (a + 1)) nO))] 0 0 [(4, vi i), (0, .ref so), (1, .ref lo), (2, .ref wo), (3, .ref to)] 114 []
            refine g_iinc C 0 [(4, vi (i + 1)), (0, .ref so), (1, .ref lo), (2, .ref wo), (3, .ref to)] dX5_settle_114 rfl (by decide) rfl ?_
            refine g_goto C 98 dX5_settle_117 (by decide) ?_
            exact ih98 (i + 1) (lf FL DP RE i (nt (sGr LP LH LU nL OP OF OT SG nO) (sQt LP LH LU nL OP OF OT Q SQ nO) (sOr OP OF (fun _ => 0) nO)) nO) (rs FL DP RE i (nt (sGr LP LH LU nL OP OF OT SG nO) (sQt LP LH LU nL OP OF OT Q SQ nO) (sOr OP OF (fun _ => 0) nO)) nO) (scad cD (sOr OP OF (fun _ => 0) nO) (fun a => pay SH i ((hitA FL DP RE i (nt (sGr LP LH LU nL OP OF OT SG nO) (sQt LP LH LU nL OP OF OT Q SQ nO) (sOr OP OF (fun _ => 0) nO))) a)) nO) (scad cE (sOr OP OF (fun _ => 0) nO) (fun a => chg DP PR RA i ((resA FL DP RE i (nt (sGr LP LH LU nL OP OF OT SG nO) (sQt LP LH LU nL OP OF OT Q SQ nO) (sOr OP OF (fun _ => 0) nO))) a)) nO) (scat cH (fun a => i * 8 + (sOr OP OF (fun _ => 0) nO) a) (hitA FL DP RE i (nt (sGr LP LH LU nL OP OF OT SG nO) (sQt LP LH LU nL OP OF OT Q SQ nO) (sOr OP OF (fun _ => 0) nO))) nO) (scat cP (fun a => i * 8 + (sOr OP OF (fun _ => 0) nO) a) (fun a => pay SH i ((hitA FL DP RE i (nt (sGr LP LH LU nL OP OF OT SG nO) (sQt LP LH LU nL OP OF OT Q SQ nO) (sOr OP OF (fun _ => 0) nO))) a)) nO) (scat cR (fun a => i * 8 + (sOr OP OF (fun _ => 0) nO) a) (resA FL DP RE i (nt (sGr LP LH LU nL OP OF OT SG nO) (sQt LP LH LU nL OP OF OT Q SQ nO) (sOr OP OF (fun _ => 0) nO))) nO) (scat cC (fun a => i * 8 + (sOr OP OF (fun _ => 0) nO) a) (fun a => chg DP PR RA i ((resA FL DP RE i (nt (sGr LP LH LU nL OP OF OT SG nO) (sQt LP LH LU nL OP OF OT Q SQ nO) (sOr OP OF (fun _ => 0) nO))) a)) nO) (scat cL (fun a => i * 8 + (sOr OP OF (fun _ => 0) nO) a) (fun a => lf FL DP RE i (nt (sGr LP LH LU nL OP OF OT SG nO) (sQt LP LH LU nL OP OF OT Q SQ nO) (sOr OP OF (fun _ => 0) nO)) (a + 1)) nO) ⟨by omega, by omega, sLe_s _ _ _ _ _ _ hi0, sRe_s _ _ _ _ _ _ hi0, by rw [lay_s _ _ _ _ hi0, ← hH] <;> rfl, by rw [lay_s _ _ _ _ hi0, ← hP] <;> rfl, by rw [lay_s _ _ _ _ hi0, ← hR9] <;> rfl, by rw [lay_s _ _ _ _ hi0, ← hC] <;> rfl, by rw [lay_s _ _ _ _ hi0, ← hL] <;> rfl, by rw [lad_s _ _ _ _ hi0, ← hD] <;> rfl, by rw [lad_s _ _ _ _ hi0, ← hE] <;> rfl⟩ (by omega)
        exact L98 _ 0 nSl nSr (cpy (fun _ => 0) SD nO) (cpy (fun _ => 0) SC nO) XH XP XR XC XL ⟨by omega, by omega, rfl, rfl, rfl, rfl, rfl, rfl, rfl, rfl, rfl⟩ (Nat.lt_succ_self _)
      refine g_aload_n C 1 dX5_settle_28 rfl ?_
      refine g_getf C k_X5 0 f_X5_9 15 rfl rfl (by decide) rfl rfl dX5_settle_29 ?_
      refine g_iload C 0 dX5_settle_32 rfl ?_
      refine g_aload_n C 3 dX5_settle_34 rfl ?_
      refine g_iload C 0 dX5_settle_35 rfl ?_
      refine g_aload_n C 2 dX5_settle_37 rfl ?_
      refine g_callVp C [vi i, .ref lo] [vi i, .ref sg] (c_X8_groundOf x.1.2.1 g wo wp wf wl OP OF OT nO lo lp lh lu LP LH LU nL i hOP hOF hOT hnO hLP hLH hLU hnL (by omega)) y_X8_groundOf l_X5_57 [4, 5, 6, 7, 0, 1, 2, 3] rfl (by decide) 4 rfl rfl rfl (Nat.le_of_ble_eq_true rfl) rfl (by decide) dX5_settle_38 ?_
      refine g_iast C 16 rfl (by omega) [(lo, cO 2 [.ref lp, .ref lh, .ref lu, vi nL]), (lp, cA g 40 LP), (lh, cA g 40 LH), (lu, cA g 40 LU), (wo, cO 8 [.ref wp, .ref wf, .ref wl, vi nO]), (wp, cA g 8 OP), (wf, cA g 8 OF), (wl, cA g 8 OT), (to, cO 7 [.ref tf, .ref td, .ref tS, .ref tr, .ref tp, .ref tt, vi nY, vi Q]), (tf, cA g 5 FL), (td, cA g 5 DP), (tS, cA g 5 SH), (tr, cA g 5 RE), (tp, cA g 5 PR), (tt, cA g 5 RA), (so, cO 5 [.ref sg, .ref sq, .ref sp, .ref sd, .ref sc, .ref xh, .ref xp, .ref xr, .ref xc, .ref xl, vi nO, vi nY, vi nSl, vi nSr]), (sg, cA g 8 (up cG i (gro LP LH LU nL OP OF OT i))), (sq, cA g 8 cQ), (sp, cA g 8 cP), (sd, cA g 8 cD), (sc, cA g 8 cE), (xh, cA g 40 XH), (xp, cA g 40 XP), (xr, cA g 40 XR), (xc, cA g 40 XC), (xl, cA g 40 XL)] rfl dX5_settle_41 ?_
      have hg9 := gro_r (LP := LP) (LH := LH) hLU hnL OP OF OT i
      refine g_aload_n C 1 dX5_settle_42 rfl ?_
      refine g_getf C k_X5 1 f_X5_15 15 rfl rfl (by decide) rfl rfl dX5_settle_43 ?_
      refine g_iload C 0 dX5_settle_46 rfl ?_
      refine g_aload_n C 4 dX5_settle_48 rfl ?_
      refine g_aload_n C 1 dX5_settle_49 rfl ?_
      refine g_getf C k_X5 0 f_X5_9 15 rfl rfl (by decide) rfl rfl dX5_settle_50 ?_
      refine g_iload C 0 dX5_settle_53 rfl ?_
      refine g_iald C 16 rfl (by omega) dX5_settle_55 ?_
      refine g_val (w := gro LP LH LU nL OP OF OT i) up_s ?_
      refine g_callVp C [vi (gro LP LH LU nL OP OF OT i)] [vi i, .ref sq] (c_X7_quotaOf x.1.2.1 g to tf td tS tr tp tt nY Q (gro LP LH LU nL OP OF OT i) hQ (by omega)) y_X7_quotaOf l_X5_61 [8] rfl (by decide) 8 rfl rfl rfl (Nat.le_of_ble_eq_true rfl) rfl (by decide) dX5_settle_56 ?_
      refine g_iast C 17 rfl (by omega) [(lo, cO 2 [.ref lp, .ref lh, .ref lu, vi nL]), (lp, cA g 40 LP), (lh, cA g 40 LH), (lu, cA g 40 LU), (wo, cO 8 [.ref wp, .ref wf, .ref wl, vi nO]), (wp, cA g 8 OP), (wf, cA g 8 OF), (wl, cA g 8 OT), (to, cO 7 [.ref tf, .ref td, .ref tS, .ref tr, .ref tp, .ref tt, vi nY, vi Q]), (tf, cA g 5 FL), (td, cA g 5 DP), (tS, cA g 5 SH), (tr, cA g 5 RE), (tp, cA g 5 PR), (tt, cA g 5 RA), (so, cO 5 [.ref sg, .ref sq, .ref sp, .ref sd, .ref sc, .ref xh, .ref xp, .ref xr, .ref xc, .ref xl, vi nO, vi nY, vi nSl, vi nSr]), (sg, cA g 8 (up cG i (gro LP LH LU nL OP OF OT i))), (sq, cA g 8 (up cQ i (qto Q (gro LP LH LU nL OP OF OT i)))), (sp, cA g 8 cP), (sd, cA g 8 cD), (sc, cA g 8 cE), (xh, cA g 40 XH), (xp, cA g 40 XP), (xr, cA g 40 XR), (xc, cA g 40 XC), (xl, cA g 40 XL)] rfl dX5_settle_59 ?_
      refine g_aload_n C 1 dX5_settle_60 rfl ?_
      refine g_getf C k_X5 3 f_X5_21 15 rfl rfl (by decide) rfl rfl dX5_settle_61 ?_
      refine g_iload C 0 dX5_settle_64 rfl ?_
      refine g_iconst C dX5_settle_66 ?_
      refine g_iast C 19 rfl (by omega) [(lo, cO 2 [.ref lp, .ref lh, .ref lu, vi nL]), (lp, cA g 40 LP), (lh, cA g 40 LH), (lu, cA g 40 LU), (wo, cO 8 [.ref wp, .ref wf, .ref wl, vi nO]), (wp, cA g 8 OP), (wf, cA g 8 OF), (wl, cA g 8 OT), (to, cO 7 [.ref tf, .ref td, .ref tS, .ref tr, .ref tp, .ref tt, vi nY, vi Q]), (tf, cA g 5 FL), (td, cA g 5 DP), (tS, cA g 5 SH), (tr, cA g 5 RE), (tp, cA g 5 PR), (tt, cA g 5 RA), (so, cO 5 [.ref sg, .ref sq, .ref sp, .ref sd, .ref sc, .ref xh, .ref xp, .ref xr, .ref xc, .ref xl, vi nO, vi nY, vi nSl, vi nSr]), (sg, cA g 8 (up cG i (gro LP LH LU nL OP OF OT i))), (sq, cA g 8 (up cQ i (qto Q (gro LP LH LU nL OP OF OT i)))), (sp, cA g 8 cP), (sd, cA g 8 (up cD i 0)), (sc, cA g 8 cE), (xh, cA g 40 XH), (xp, cA g 40 XP), (xr, cA g 40 XR), (xc, cA g 40 XC), (xl, cA g 40 XL)] rfl dX5_settle_67 ?_
      refine g_aload_n C 1 dX5_settle_68 rfl ?_
      refine g_getf C k_X5 4 f_X5_24 15 rfl rfl (by decide) rfl rfl dX5_settle_69 ?_
      refine g_iload C 0 dX5_settle_72 rfl ?_
      refine g_iconst C dX5_settle_74 ?_
      refine g_iast C 20 rfl (by omega) [(lo, cO 2 [.ref lp, .ref lh, .ref lu, vi nL]), (lp, cA g 40 LP), (lh, cA g 40 LH), (lu, cA g 40 LU), (wo, cO 8 [.ref wp, .ref wf, .ref wl, vi nO]), (wp, cA g 8 OP), (wf, cA g 8 OF), (wl, cA g 8 OT), (to, cO 7 [.ref tf, .ref td, .ref tS, .ref tr, .ref tp, .ref tt, vi nY, vi Q]), (tf, cA g 5 FL), (td, cA g 5 DP), (tS, cA g 5 SH), (tr, cA g 5 RE), (tp, cA g 5 PR), (tt, cA g 5 RA), (so, cO 5 [.ref sg, .ref sq, .ref sp, .ref sd, .ref sc, .ref xh, .ref xp, .ref xr, .ref xc, .ref xl, vi nO, vi nY, vi nSl, vi nSr]), (sg, cA g 8 (up cG i (gro LP LH LU nL OP OF OT i))), (sq, cA g 8 (up cQ i (qto Q (gro LP LH LU nL OP OF OT i)))), (sp, cA g 8 cP), (sd, cA g 8 (up cD i 0)), (sc, cA g 8 (up cE i 0)), (xh, cA g 40 XH), (xp, cA g 40 XP), (xr, cA g 40 XR), (xc, cA g 40 XC), (xl, cA g 40 XL)] rfl dX5_settle_75 ?_
      refine g_aload_n C 1 dX5_settle_76 rfl ?_
      refine g_getf C k_X5 2 f_X5_18 15 rfl rfl (by decide) rfl rfl dX5_settle_77 ?_
      refine g_iload C 0 dX5_settle_80 rfl ?_
      refine g_aload_n C 3 dX5_settle_82 rfl ?_
      refine g_iload C 0 dX5_settle_83 rfl ?_
      refine g_callVp C [vi i] [vi i, .ref sp] (c_X8_placeOf x.1.2.1 g wo wp wf wl OP OF OT nO i hOP hOF hOT hnO (by omega)) y_X8_placeOf l_X5_65 [4, 5, 6, 7] rfl (by decide) 4 rfl rfl rfl (Nat.le_of_ble_eq_true rfl) rfl (by decide) dX5_settle_85 ?_
      refine g_iast C 18 rfl (by omega) [(lo, cO 2 [.ref lp, .ref lh, .ref lu, vi nL]), (lp, cA g 40 LP), (lh, cA g 40 LH), (lu, cA g 40 LU), (wo, cO 8 [.ref wp, .ref wf, .ref wl, vi nO]), (wp, cA g 8 OP), (wf, cA g 8 OF), (wl, cA g 8 OT), (to, cO 7 [.ref tf, .ref td, .ref tS, .ref tr, .ref tp, .ref tt, vi nY, vi Q]), (tf, cA g 5 FL), (td, cA g 5 DP), (tS, cA g 5 SH), (tr, cA g 5 RE), (tp, cA g 5 PR), (tt, cA g 5 RA), (so, cO 5 [.ref sg, .ref sq, .ref sp, .ref sd, .ref sc, .ref xh, .ref xp, .ref xr, .ref xc, .ref xl, vi nO, vi nY, vi nSl, vi nSr]), (sg, cA g 8 (up cG i (gro LP LH LU nL OP OF OT i))), (sq, cA g 8 (up cQ i (qto Q (gro LP LH LU nL OP OF OT i)))), (sp, cA g 8 (up cP i (plc OP OF nO i))), (sd, cA g 8 (up cD i 0)), (sc, cA g 8 (up cE i 0)), (xh, cA g 40 XH), (xp, cA g 40 XP), (xr, cA g 40 XR), (xc, cA g 40 XC), (xl, cA g 40 XL)] rfl dX5_settle_88 ?_
      refine g_iinc C 0 [(4, vi (i + 1)), (0, .ref so), (1, .ref lo), (2, .ref wo), (3, .ref to)] dX5_settle_89 rfl (by decide) rfl ?_
      refine g_goto C 19 dX5_settle_92 (by decide) ?_
      exact ih19 (i + 1) (up cG i (gro LP LH LU nL OP OF OT i)) (up cQ i (qto Q (gro LP LH LU nL OP OF OT i))) (up cD i 0) (up cE i 0) (up cP i (plc OP OF nO i)) ⟨by omega, by omega, by rw [cpy_s _ _ hi0, ← hG], by rw [cpy_s _ _ hi0, ← hQ9], by rw [cpy_s _ _ hi0, ← hD], by rw [cpy_s _ _ hi0, ← hE], by rw [cpy_s _ _ hi0, ← hP]⟩ (by omega)
  exact L19 _ 0 SG SQ SD SC SP ⟨by omega, by omega, (cpy_0 _ _).symm, (cpy_0 _ _).symm, (cpy_0 _ _).symm, (cpy_0 _ _).symm, (cpy_0 _ _).symm⟩ (Nat.lt_succ_self _)

