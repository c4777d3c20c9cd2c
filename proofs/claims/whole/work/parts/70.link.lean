/-! what links the two sides -/
theorem up_r {F : Int → Int} {lo hi i v : Int} (h : ∀ k, lo ≤ F k ∧ F k ≤ hi) (hv : lo ≤ v ∧ v ≤ hi) (k : Int) : lo ≤ up F i v k ∧ up F i v k ≤ hi := by
  have := h k
  unfold up; split <;> omega
theorem bes_none (PA : Int → Int) (y : Int) : sm (bes PA y (-1)) 6 = sm (plN PA y) 6 := sm_congr (by omega) (fun k k0 _ => by
  unfold bes plN; rw [if_neg (by omega), show y * 6 + k = 6 * y + k by omega])
theorem bes_plN (PA : Int → Int) (y : Int) {z : Int} (h0 : 0 ≤ z) (h1 : z < 6) : sm (bes PA y z) 6 = sm (plN PA y) 6 - PA (6 * y + z) := by
  have := sm_ind (P := fun n => (n ≤ z → sm (bes PA y z) n = sm (plN PA y) n) ∧ (z < n → sm (bes PA y z) n = sm (plN PA y) n - PA (6 * y + z))) ⟨fun _ => rfl, fun q => by omega⟩ (fun i hi ih => by
    rw [sm_s _ hi, sm_s _ hi]
    have e : plN PA y i = PA (6 * y + i) := rfl
    by_cases q : i = z
    · subst q
      have e2 : bes PA y i i = 0 := if_pos rfl
      rw [e, e2]
      exact ⟨fun w => by omega, fun _ => by rw [ih.1 (Int.le_refl _)]; omega⟩
    · have e2 : bes PA y z i = PA (6 * y + i) := by unfold bes; rw [if_neg q, show y * 6 + i = 6 * y + i by omega]
      rw [e, e2]
      exact ⟨fun w => by rw [ih.1 (by omega)], fun w => by rw [ih.2 (by omega)]; omega⟩) 6 (by omega)
  exact this.2 h1
theorem dj9_0 (OP OF OT : Int → Int) : dj9 OP OF OT 0 := ⟨fun i j i0 i1 => by omega, fun i i0 i1 => by omega⟩
theorem dj9_less {OP OF OT : Int → Int} {n m : Int} (h : dj9 OP OF OT n) (hm : m ≤ n) : dj9 OP OF OT m := ⟨fun i j i0 i1 j0 j1 => h.1 i j i0 (by omega) j0 (by omega), fun i i0 i1 => h.2 i i0 (by omega)⟩
theorem dj9_more {OP OF OT : Int → Int} {n p a b : Int} (h : dj9 OP OF OT n) (hn : ¬ hic OP OF OT p a b n) (hab : a ≤ b) : dj9 (up OP n p) (up OF n a) (up OT n b) (n + 1) := by
  refine ⟨fun i j i0 i1 j0 j1 hij e => ?_, fun i i0 i1 => ?_⟩
  · by_cases q : i = n
    · subst q
      rw [up_s, up_n (by omega)] at e
      rw [up_s, up_s, up_n (by omega), up_n (by omega)]
      refine Classical.byContradiction fun z => hn ⟨j, j0, by omega, e.symm, by omega, by omega⟩
    · by_cases w : j = n
      · subst w
        rw [up_s, up_n q] at e
        rw [up_s, up_s, up_n q, up_n q]
        refine Classical.byContradiction fun z => hn ⟨i, i0, by omega, e, by omega, by omega⟩
      · rw [up_n q, up_n w] at e
        rw [up_n q, up_n w, up_n w, up_n q]
        exact h.1 i j i0 (by omega) j0 (by omega) hij e
  · by_cases q : i = n
    · subst q; rw [up_s, up_s]; exact hab
    · rw [up_n q, up_n q]; exact h.2 i i0 (by omega)
/-- both ways to the best tell the same -/
theorem best_one {LP LH LU : Int → Int} {p nL : Int} {H U K V : Int → Int} {n m : Int} (h : gvd LP LH LU p H U n nL) (k : gvd LP LH LU p K V m nL) (wt : Int → Int) (cl : Int) : Pv H U wt cl n = Sv K V wt cl m 0 ∧ Sv H U wt cl n 0 = Sv K V wt cl m 0 ∧ n = m := by
  obtain ⟨rfl, e⟩ := gvd_one h k
  have h0 := h.1.1
  have s := Sv_cg (wt := wt) (cl := cl) e (i := 0) (by omega) h0
  exact ⟨by rw [Pv_Sv _ _ _ _ h0, s], s, rfl⟩
theorem be_bond {BL BE BM : Int → Int} {n v : Int} (h : (∀ k, BE k = BL k + BM k) ∧ ∀ k, n ≤ k → BM k = 0) : (∀ k, up BE n v k = up BL n v k + BM k) ∧ ∀ k, n + 1 ≤ k → BM k = 0 := by
  refine ⟨fun k => ?_, fun k hk => h.2 k (by omega)⟩
  have h1 := h.1 k
  by_cases q : k = n
  · subst q; rw [up_s, up_s, h.2 k (Int.le_refl _)]; omega
  · rw [up_n q, up_n q]; exact h1
theorem be_extend {BL BE BM : Int → Int} {n b v : Int} (h : (∀ k, BE k = BL k + BM k) ∧ ∀ k, n ≤ k → BM k = 0) (hb : b < n) : (∀ k, up BE b (BL b + v) k = BL k + up BM b v k) ∧ ∀ k, n ≤ k → up BM b v k = 0 := by
  refine ⟨fun k => ?_, fun k hk => by rw [up_n (by omega)]; exact h.2 k hk⟩
  by_cases q : k = b
  · subst q; rw [up_s, up_s]
  · rw [up_n q, up_n q]; exact h.1 k
theorem one_up {F : Int → Int} {n v : Int} (h : ∀ k, 0 ≤ k → k < n → 1 ≤ F k) (hv : 1 ≤ v) : ∀ k, 0 ≤ k → k < n + 1 → 1 ≤ up F n v k := fun k k0 k1 => by
  by_cases q : k = n
  · subst q; rw [up_s]; exact hv
  · rw [up_n q]; exact h k k0 (by omega)
theorem mw_up {MW MC : Int → Int} {q v : Int} (h : ∀ q k, 0 ≤ q → q < 3 → 0 ≤ k → k < MC q → 1 ≤ MW (q * 12 + k)) (hM : ∀ k, 0 ≤ MC k ∧ MC k ≤ 12) (hq : 0 ≤ q ∧ q < 3) (hl : MC q < 12) (hv : 1 ≤ v) : ∀ r k, 0 ≤ r → r < 3 → 0 ≤ k → k < up MC q (MC q + 1) r → 1 ≤ up MW (q * 12 + MC q) v (r * 12 + k) := fun r k r0 r1 k0 k1 => by
  have h1 := hM q
  have h2 := hM r
  by_cases e : r = q
  · subst e
    rw [up_s] at k1
    by_cases w : k = MC r
    · subst w; rw [up_s]; exact hv
    · rw [up_n (by omega)]; exact h r k r0 r1 k0 (by omega)
  · rw [up_n e] at k1
    rw [up_n (by omega)]
    exact h r k r0 r1 k0 k1
