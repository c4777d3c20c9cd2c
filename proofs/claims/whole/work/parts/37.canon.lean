theorem fb_holes : ∀ (m n : Nat) (f : Nat → Nat), (∀ i, i < n → f i < m) → (∀ i j, i < j → j < n → f i ≠ f j) → n ≤ m := by
  intro m
  induction m with
  | zero =>
    intro n f h1 _
    rcases Nat.eq_zero_or_pos n with h | h
    · omega
    · exact absurd (h1 0 h) (Nat.not_lt_zero _)
  | succ m ih =>
    intro n f h1 h2
    by_cases hx : ∃ i, i < n ∧ f i = m
    · obtain ⟨a, ha, hfa⟩ := hx
      have hg := ih (n - 1) (fun i => if i < a then f i else f (i + 1)) (by
        intro i hi
        by_cases q : i < a
        · simp only [if_pos q]
          have b1 := h1 i (by omega)
          have b2 := h2 i a q ha
          omega
        · simp only [if_neg q]
          have b1 := h1 (i + 1) (by omega)
          have b2 := h2 a (i + 1) (by omega) (by omega)
          omega) (by
        intro i j hij hj
        by_cases q : i < a
        · by_cases r : j < a
          · simp only [if_pos q, if_pos r]
            exact h2 i j hij (by omega)
          · simp only [if_pos q, if_neg r]
            exact h2 i (j + 1) (by omega) (by omega)
        · have r : ¬ j < a := by omega
          simp only [if_neg q, if_neg r]
          exact h2 (i + 1) (j + 1) (by omega) (by omega))
      omega
    · have hg := ih n f (fun i hi => by
        have b1 := h1 i hi
        have b2 : f i ≠ m := fun e => hx ⟨i, hi, e⟩
        omega) h2
      omega
/-- two of them in one place -/
theorem fb_twice {m n : Nat} {f : Nat → Nat} (h : ∀ i, i < n → f i < m) (hm : m < n) : ∃ i j, i < j ∧ j < n ∧ f i = f j := by
  refine Classical.byContradiction fun hx => ?_
  have := fb_holes m n f h (fun i j hij hj e => hx ⟨i, j, hij, hj, e⟩)
  omega
/-- as many as places, none twice: each place is taken -/
theorem fb_onto {n : Nat} {f : Nat → Nat} (h : ∀ i, i < n → f i < n) (h2 : ∀ i j, i < j → j < n → f i ≠ f j) {y : Nat} (hy : y < n) : ∃ i, i < n ∧ f i = y := by
  refine Classical.byContradiction fun hx => ?_
  have hne : ∀ i, i < n → f i ≠ y := fun i hi e => hx ⟨i, hi, e⟩
  have := fb_holes (n - 1) n (fun i => if f i < y then f i else f i - 1) (by
    intro i hi
    have b1 := h i hi
    have b2 := hne i hi
    by_cases q : f i < y
    · simp only [if_pos q]; omega
    · simp only [if_neg q]; omega) (by
    intro i j hij hj
    have b1 := hne i (by omega)
    have b2 := hne j hj
    have b3 := h2 i j hij hj
    by_cases q : f i < y
    · by_cases r : f j < y
      · simp only [if_pos q, if_pos r]; exact b3
      · simp only [if_pos q, if_neg r]; omega
    · by_cases r : f j < y
      · simp only [if_neg q, if_pos r]; omega
      · simp only [if_neg q, if_neg r]; omega)
  omega
/-! the order of the windows is a numbering -/
def dst9 (OP OF : Int → Int) (n : Int) : Prop := ∀ i j, 0 ≤ i → i < n → 0 ≤ j → j < n → OF i = OF j → OP i = OP j → i = j
theorem sm_le {F G : Int → Int} {n : Int} (hn : 0 ≤ n) (h : ∀ i, 0 ≤ i → i < n → F i ≤ G i) : sm F n ≤ sm G n := by
  have := sm_ind (P := fun m => m ≤ n → sm F m ≤ sm G m) (fun _ => Int.le_refl _) (fun i hi ih hm => by
    rw [sm_s _ hi, sm_s _ hi]; have := ih (by omega); have := h i hi (by omega); omega) n hn
  exact this (Int.le_refl _)
theorem sm_lt {F G : Int → Int} {n z : Int} (h : ∀ i, 0 ≤ i → i < n → F i ≤ G i) (h0 : 0 ≤ z) (h1 : z < n) (hz : F z < G z) : sm F n < sm G n := by
  have := sm_ind (P := fun m => m ≤ n → sm F m ≤ sm G m ∧ (z < m → sm F m < sm G m)) (fun _ => ⟨Int.le_refl _, fun q => by omega⟩) (fun i hi ih hm => by
    rw [sm_s _ hi, sm_s _ hi]; have ih := ih (by omega); have hh := h i hi (by omega)
    refine ⟨by omega, fun q => ?_⟩
    by_cases e : i = z
    · subst e; omega
    · have := ih.2 (by omega); omega) n (by omega)
  exact (this (Int.le_refl _)).2 h1
theorem plc_lt {OP OF : Int → Int} {n i j : Int} (hi0 : 0 ≤ i) (hi : i < n) (h : OF i < OF j ∨ (OF i = OF j ∧ OP i < OP j)) : plc OP OF n i < plc OP OF n j := by
  refine sm_lt (z := i) (fun k _ _ => ?_) hi0 hi ?_
  · unfold bef; split <;> split <;> omega
  · unfold bef; rw [if_neg (by omega), if_pos h]; omega
theorem plc_inj {OP OF : Int → Int} {n : Int} (hd : dst9 OP OF n) {i j : Int} (hi0 : 0 ≤ i) (hi : i < n) (hj0 : 0 ≤ j) (hj : j < n) (h : plc OP OF n i = plc OP OF n j) : i = j := by
  by_cases a : OF i < OF j ∨ (OF i = OF j ∧ OP i < OP j)
  · have := plc_lt (n := n) hi0 hi a; omega
  · by_cases b : OF j < OF i ∨ (OF j = OF i ∧ OP j < OP i)
    · have := plc_lt (n := n) hj0 hj b; omega
    · exact hd i j hi0 hi hj0 hj (by omega) (by omega)
theorem plc_sur {OP OF : Int → Int} {n : Int} (hd : dst9 OP OF n) {a : Int} (h0 : 0 ≤ a) (h : a < n) : ∃ o, 0 ≤ o ∧ o < n ∧ plc OP OF n o = a := by
  have hr : ∀ i : Nat, i < n.toNat → 0 ≤ plc OP OF n i ∧ plc OP OF n i ≤ n - 1 := fun i hi => plc_r OP OF (by omega) (by omega)
  obtain ⟨i, hi, e⟩ := fb_onto (n := n.toNat) (f := fun i => (plc OP OF n (i : Int)).toNat) (fun i hi => by have := hr i hi; show (plc OP OF n i).toNat < _; omega) (fun i j hij hj q => by
    have h1 := hr i (by omega)
    have h2 := hr j hj
    have q : (plc OP OF n i).toNat = (plc OP OF n j).toNat := q
    have := plc_inj hd (i := i) (j := j) (by omega) (by omega) (by omega) (by omega) (by omega)
    omega) (y := a.toNat) (by omega)
  have e : (plc OP OF n i).toNat = a.toNat := e
  have := hr i hi
  exact ⟨i, by omega, by omega, by omega⟩
theorem sOr_plc {OP OF : Int → Int} {n : Int} (hd : dst9 OP OF n) (SO : Int → Int) {o : Int} (h0 : 0 ≤ o) (h : o < n) : sOr OP OF SO n (plc OP OF n o) = o :=
  scat_in (F := SO) (ix := plc OP OF n) (v := fun o => o) (by omega) (fun a b a0 a1 b0 b1 q => plc_inj hd a0 a1 b0 b1 q) h0 h
theorem sOr_inj {OP OF : Int → Int} {n : Int} (hd : dst9 OP OF n) (SO : Int → Int) : ∀ a b, 0 ≤ a → a < n → 0 ≤ b → b < n → sOr OP OF SO n a = sOr OP OF SO n b → a = b := by
  intro a b a0 a1 b0 b1 q
  obtain ⟨i, i0, i1, rfl⟩ := plc_sur hd a0 a1
  obtain ⟨j, j0, j1, rfl⟩ := plc_sur hd b0 b1
  rw [sOr_plc hd SO i0 i1, sOr_plc hd SO j0 j1] at q
  rw [q]
theorem sNt_eq {OP OF : Int → Int} {n : Int} (hd : dst9 OP OF n) (LP LH LU : Int → Int) (nL : Int) (OT : Int → Int) (Q : Int) (SG SQ SO SG2 SQ2 SO2 : Int → Int) : ∀ a, 0 ≤ a → a < n → sNt LP LH LU nL OP OF OT Q SG SQ SO n a = sNt LP LH LU nL OP OF OT Q SG2 SQ2 SO2 n a := by
  intro a a0 a1
  obtain ⟨o, o0, o1, rfl⟩ := plc_sur hd a0 a1
  unfold sNt nt sGr sQt
  rw [sOr_plc hd SO o0 o1, sOr_plc hd SO2 o0 o1, cpy_in ⟨o0, o1⟩, cpy_in ⟨o0, o1⟩, cpy_in ⟨o0, o1⟩, cpy_in ⟨o0, o1⟩]
theorem lf_congr {FL DP RE : Int → Int} {y : Int} {N K : Int → Int} {n : Int} (h : ∀ a, 0 ≤ a → a < n → N a = K a) {a : Int} (a0 : 0 ≤ a) (a1 : a ≤ n) : lf FL DP RE y N a = lf FL DP RE y K a ∧ rs FL DP RE y N a = rs FL DP RE y K a := by
  have := sm_ind (P := fun a => a ≤ n → lf FL DP RE y N a = lf FL DP RE y K a ∧ rs FL DP RE y N a = rs FL DP RE y K a) (fun _ => ⟨rfl, rfl⟩) (fun i hi ih hm => by
    obtain ⟨h1, h2⟩ := ih (by omega)
    rw [lf_s _ _ _ _ _ hi, lf_s _ _ _ _ _ hi, rs_s _ _ _ _ _ hi, rs_s _ _ _ _ _ hi]
    unfold resA hitA
    rw [h1, h2, h i hi (by omega)]
    exact ⟨rfl, rfl⟩) a a0
  exact this a1
theorem hitA_congr {FL DP RE : Int → Int} {y : Int} {N K : Int → Int} {n : Int} (h : ∀ a, 0 ≤ a → a < n → N a = K a) {a : Int} (a0 : 0 ≤ a) (a1 : a < n) : hitA FL DP RE y N a = hitA FL DP RE y K a ∧ resA FL DP RE y N a = resA FL DP RE y K a := by
  obtain ⟨h1, h2⟩ := lf_congr (FL := FL) (DP := DP) (RE := RE) (y := y) h a0 (by omega)
  unfold resA hitA
  rw [h1, h2, h a a0 a1]
  exact ⟨rfl, rfl⟩
/-- the nets by their places -/
def nt0 (LP LH LU : Int → Int) (nL : Int) (OP OF OT : Int → Int) (nO Q : Int) : Int → Int := sNt LP LH LU nL OP OF OT Q (fun _ => 0) (fun _ => 0) (fun _ => 0) nO
theorem lay_o {OP OF : Int → Int} {n : Int} (hd : dst9 OP OF n) {SO : Int → Int} (hSO : ∀ k, 0 ≤ SO k ∧ SO k ≤ 7) (hn : 0 ≤ n ∧ n ≤ 8) {F : Int → Int} {v : Int → Int → Int} {m y o : Int} (hm : 0 ≤ m) (y0 : 0 ≤ y) (y1 : y < m) (o0 : 0 ≤ o) (o1 : o < n) : lay F v (sOr OP OF SO n) n m (y * 8 + o) = v y (plc OP OF n o) := by
  have h := plc_r OP OF (n := n) o0 o1
  have := lay_in (F := F) (v := v) (SO := sOr OP OF SO n) (n := n) (m := m) hn.1 hm (fun k => sOr_r hSO hn k) (sOr_inj hd SO) y0 y1 (b := plc OP OF n o) h.1 (by omega)
  rw [sOr_plc hd SO o0 o1] at this
  exact this
theorem lad_o {OP OF : Int → Int} {n : Int} (hd : dst9 OP OF n) (SO : Int → Int) (hn : 0 ≤ n) {SD : Int → Int} {v : Int → Int → Int} {m o : Int} (hm : 0 ≤ m) (o0 : 0 ≤ o) (o1 : o < n) : lad (cpy (fun _ => 0) SD n) v (sOr OP OF SO n) n m o = sm (fun y => v y (plc OP OF n o)) m := by
  have h := plc_r OP OF (n := n) o0 o1
  have := lad_in (F := cpy (fun _ => 0) SD n) (v := v) (SO := sOr OP OF SO n) (n := n) (m := m) hn hm (sOr_inj hd SO) (b := plc OP OF n o) h.1 (by omega)
  rw [sOr_plc hd SO o0 o1, cpy_in ⟨o0, o1⟩] at this
  rw [this]; omega
theorem lay_r {F : Int → Int} {v : Int → Int → Int} {SO : Int → Int} {n m lo hi : Int} (hn : 0 ≤ n) (hm : 0 ≤ m) (hF : ∀ k, lo ≤ F k ∧ F k ≤ hi) (hv : ∀ y a, 0 ≤ y → 0 ≤ a → lo ≤ v y a ∧ v y a ≤ hi) (k : Int) : lo ≤ lay F v SO n m k ∧ lay F v SO n m k ≤ hi := by
  refine sm_ind (P := fun m => ∀ k, lo ≤ lay F v SO n m k ∧ lay F v SO n m k ≤ hi) hF (fun y hy ih k => ?_) m hm k
  rw [lay_s _ _ _ _ hy]
  exact scat_r hn ih (fun i hi _ => hv y i hy hi) k

