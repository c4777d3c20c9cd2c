/-! what both sides need -/
def dj9 (OP OF OT : Int → Int) (n : Int) : Prop := (∀ i j, 0 ≤ i → i < n → 0 ≤ j → j < n → i ≠ j → OP i = OP j → OT i < OF j ∨ OT j < OF i) ∧ ∀ i, 0 ≤ i → i < n → OF i ≤ OT i
theorem dj9_dst {OP OF OT : Int → Int} {n : Int} (h : dj9 OP OF OT n) : dst9 OP OF n := fun i j i0 i1 j0 j1 e p => by
  by_cases q : i = j
  · exact q
  · have h1 := h.1 i j i0 i1 j0 j1 q p
    have h2 := h.2 i i0 i1
    have h3 := h.2 j j0 j1
    omega
theorem Sv_cg {VH VU KH KU wt : Int → Int} {cl n : Int} (h : ∀ a, 0 ≤ a → a < n → VH a = KH a ∧ VU a = KU a) {i : Int} (h0 : 0 ≤ i) (h1 : i ≤ n) : Sv VH VU wt cl n i = Sv KH KU wt cl n i := by
  have hs : ∀ m, 0 ≤ m → m ≤ n → sm VU m = sm KU m := fun m m0 m1 => sm_congr m0 (fun a a0 a1 => (h a a0 (by omega)).2)
  have := sm_ind (P := fun d => d ≤ n → ∀ j, n - d ≤ j → j ≤ n → Sv VH VU wt cl n j = Sv KH KU wt cl n j) (fun _ j a b => by rw [show j = n by omega, Sv_n, Sv_n]) (fun d hd ih hdn j a b => by
    by_cases e : j = n - (d + 1)
    · rw [Sv_s _ _ _ _ (by omega : j < n), Sv_s _ _ _ _ (by omega : j < n)]
      have key := sm_ind (P := fun k => k ≤ n - j → sx9 VH VU wt cl (Sv VH VU wt cl n) j k = sx9 KH KU wt cl (Sv KH KU wt cl n) j k) (fun _ => ih (by omega) (j + 1) (by omega) (by omega)) (fun k hk ihk hkn => by
        rw [sx9_s _ _ _ _ _ _ hk, sx9_s _ _ _ _ _ _ hk, ihk (by omega), (h (j + k) (by omega) (by omega)).1, (h j (by omega) (by omega)).1, hs (j + k + 1) (by omega) (by omega), hs j (by omega) (by omega), ih (by omega) (j + k + 1) (by omega) (by omega)]) (n - j) (by omega)
      exact key (Int.le_refl _)
    · exact ih (by omega) j (by omega) b) (n - i) (by omega) (by omega)
  exact this i (by omega) h1
theorem twt_pos {MW MC : Int → Int} (hMW : ∀ k, 0 ≤ MW k ∧ MW k ≤ 99) {q : Int} (h1 : ∀ k, 0 ≤ k → k < MC q → 1 ≤ MW (q * 12 + k)) (hc : 1 ≤ MC q) : 1 ≤ sm (twt MW q) (MC q) := by
  have h := sm_mono (F := twt MW q) (n := MC q) (fun k _ _ => (hMW _).1) (a := 1) (b := MC q) (by omega) hc (Int.le_refl _)
  have e : sm (twt MW q) 1 = MW (q * 12 + 0) := by
    have := sm_s (twt MW q) (i := 0) (by omega)
    rw [Int.zero_add, sm_0] at this; rw [this]; show 0 + MW (q * 12 + 0) = _; omega
  have := h1 0 (by omega) (by omega)
  omega
theorem up_r {F : Int → Int} {lo hi i v : Int} (h : ∀ k, lo ≤ F k ∧ F k ≤ hi) (hv : lo ≤ v ∧ v ≤ hi) (k : Int) : lo ≤ up F i v k ∧ up F i v k ≤ hi := by
  have := h k
  unfold up; split <;> omega
theorem dj9_0 (OP OF OT : Int → Int) : dj9 OP OF OT 0 := ⟨fun i j i0 i1 => by omega, fun i i0 i1 => by omega⟩
theorem dj9_less {OP OF OT : Int → Int} {n m : Int} (h : dj9 OP OF OT n) (hm : m ≤ n) : dj9 OP OF OT m := ⟨fun i j i0 i1 j0 j1 => h.1 i j i0 (by omega) j0 (by omega), fun i i0 i1 => h.2 i i0 (by omega)⟩
theorem dj9_more {OP OF OT : Int → Int} {n p a b : Int} (h : dj9 OP OF OT n) (hn : ¬ hic OP OF OT p a b n) (hab : a ≤ b) : dj9 (up OP n p) (up OF n a) (up OT n b) (n + 1) := by
  refine ⟨fun i j i0 i1 j0 j1 hij e => ?_, fun i i0 i1 => ?_⟩
  · by_cases q : i = n
    · subst q
      rw [up_s, up_n (by omega)] at e
      rw [up_s, up_s, up_n (by omega), up_n (by omega)]
      refine Classical.byContradiction fun z => hn ⟨j, j0, by omega, e.symm, by omega, by omega⟩
    · by_cases w : j = n
      · subst w
        rw [up_s, up_n q] at e
        rw [up_s, up_s, up_n q, up_n q]
        refine Classical.byContradiction fun z => hn ⟨i, i0, by omega, e, by omega, by omega⟩
      · rw [up_n q, up_n w] at e
        rw [up_n q, up_n w, up_n w, up_n q]
        exact h.1 i j i0 (by omega) j0 (by omega) hij e
  · by_cases q : i = n
    · subst q; rw [up_s, up_s]; exact hab
    · rw [up_n q, up_n q]; exact h.2 i i0 (by omega)
theorem best_one {LP LH LU : Int → Int} {p nL : Int} {H U K V : Int → Int} {n m : Int} (h : gvd LP LH LU p H U n nL) (k : gvd LP LH LU p K V m nL) (wt : Int → Int) (cl : Int) : Pv H U wt cl n = Sv K V wt cl m 0 ∧ Sv H U wt cl n 0 = Sv K V wt cl m 0 ∧ n = m := by
  obtain ⟨rfl, e⟩ := gvd_one h k
  have h0 := h.1.1
  have s := Sv_cg (wt := wt) (cl := cl) e (i := 0) (by omega) h0
  exact ⟨by rw [Pv_Sv _ _ _ _ h0, s], s, rfl⟩
theorem one_up {F : Int → Int} {n v : Int} (h : ∀ k, 0 ≤ k → k < n → 1 ≤ F k) (hv : 1 ≤ v) : ∀ k, 0 ≤ k → k < n + 1 → 1 ≤ up F n v k := fun k k0 k1 => by
  by_cases q : k = n
  · subst q; rw [up_s]; exact hv
  · rw [up_n q]; exact h k k0 (by omega)
theorem mw_up {MW MC : Int → Int} {q v : Int} (h : ∀ q k, 0 ≤ q → q < 3 → 0 ≤ k → k < MC q → 1 ≤ MW (q * 12 + k)) (hM : ∀ k, 0 ≤ MC k ∧ MC k ≤ 12) (hq : 0 ≤ q ∧ q < 3) (hl : MC q < 12) (hv : 1 ≤ v) : ∀ r k, 0 ≤ r → r < 3 → 0 ≤ k → k < up MC q (MC q + 1) r → 1 ≤ up MW (q * 12 + MC q) v (r * 12 + k) := fun r k r0 r1 k0 k1 => by
  have h1 := hM q
  have h2 := hM r
  by_cases e : r = q
  · subst e
    rw [up_s] at k1
    by_cases w : k = MC r
    · subst w; rw [up_s]; exact hv
    · rw [up_n (by omega)]; exact h r k r0 r1 k0 (by omega)
  · rw [up_n e] at k1
    rw [up_n (by omega)]
    exact h r k r0 r1 k0 k1
