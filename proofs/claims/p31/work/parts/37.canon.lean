theorem sNt_eq {OP OF : Int → Int} {n : Int} (hd : dst9 OP OF n) (LP LH LU : Int → Int) (nL : Int) (OT : Int → Int) (Q : Int) (SG SQ SO SG2 SQ2 SO2 : Int → Int) : ∀ a, 0 ≤ a → a < n → sNt LP LH LU nL OP OF OT Q SG SQ SO n a = sNt LP LH LU nL OP OF OT Q SG2 SQ2 SO2 n a := by
  intro a a0 a1
  obtain ⟨o, o0, o1, rfl⟩ := plc_sur hd a0 a1
  unfold sNt nt sGr sQt
  rw [sOr_plc hd SO o0 o1, sOr_plc hd SO2 o0 o1, cpy_in ⟨o0, o1⟩, cpy_in ⟨o0, o1⟩, cpy_in ⟨o0, o1⟩, cpy_in ⟨o0, o1⟩]
theorem lf_congr {FL DP RE : Int → Int} {y : Int} {N K : Int → Int} {n : Int} (h : ∀ a, 0 ≤ a → a < n → N a = K a) {a : Int} (a0 : 0 ≤ a) (a1 : a ≤ n) : lf FL DP RE y N a = lf FL DP RE y K a ∧ rs FL DP RE y N a = rs FL DP RE y K a := by
  have := sm_ind (P := fun a => a ≤ n → lf FL DP RE y N a = lf FL DP RE y K a ∧ rs FL DP RE y N a = rs FL DP RE y K a) (fun _ => ⟨rfl, rfl⟩) (fun i hi ih hm => by
    obtain ⟨h1, h2⟩ := ih (by omega)
    rw [lf_s _ _ _ _ _ hi, lf_s _ _ _ _ _ hi, rs_s _ _ _ _ _ hi, rs_s _ _ _ _ _ hi]
    unfold resA hitA
    rw [h1, h2, h i hi (by omega)]
    exact ⟨rfl, rfl⟩) a a0
  exact this a1
theorem hitA_congr {FL DP RE : Int → Int} {y : Int} {N K : Int → Int} {n : Int} (h : ∀ a, 0 ≤ a → a < n → N a = K a) {a : Int} (a0 : 0 ≤ a) (a1 : a < n) : hitA FL DP RE y N a = hitA FL DP RE y K a ∧ resA FL DP RE y N a = resA FL DP RE y K a := by
  obtain ⟨h1, h2⟩ := lf_congr (FL := FL) (DP := DP) (RE := RE) (y := y) h a0 (by omega)
  unfold resA hitA
  rw [h1, h2, h a a0 a1]
  exact ⟨rfl, rfl⟩
/-- the nets by their places -/
def nt0 (LP LH LU : Int → Int) (nL : Int) (OP OF OT : Int → Int) (nO Q : Int) : Int → Int := sNt LP LH LU nL OP OF OT Q (fun _ => 0) (fun _ => 0) (fun _ => 0) nO
theorem lay_o {OP OF : Int → Int} {n : Int} (hd : dst9 OP OF n) {SO : Int → Int} (hSO : ∀ k, 0 ≤ SO k ∧ SO k ≤ 7) (hn : 0 ≤ n ∧ n ≤ 8) {F : Int → Int} {v : Int → Int → Int} {m y o : Int} (hm : 0 ≤ m) (y0 : 0 ≤ y) (y1 : y < m) (o0 : 0 ≤ o) (o1 : o < n) : lay F v (sOr OP OF SO n) n m (y * 8 + o) = v y (plc OP OF n o) := by
  have h := plc_r OP OF (n := n) o0 o1
  have := lay_in (F := F) (v := v) (SO := sOr OP OF SO n) (n := n) (m := m) hn.1 hm (fun k => sOr_r hSO hn k) (sOr_inj hd SO) y0 y1 (b := plc OP OF n o) h.1 (by omega)
  rw [sOr_plc hd SO o0 o1] at this
  exact this
theorem lad_o {OP OF : Int → Int} {n : Int} (hd : dst9 OP OF n) (SO : Int → Int) (hn : 0 ≤ n) {SD : Int → Int} {v : Int → Int → Int} {m o : Int} (hm : 0 ≤ m) (o0 : 0 ≤ o) (o1 : o < n) : lad (cpy (fun _ => 0) SD n) v (sOr OP OF SO n) n m o = sm (fun y => v y (plc OP OF n o)) m := by
  have h := plc_r OP OF (n := n) o0 o1
  have := lad_in (F := cpy (fun _ => 0) SD n) (v := v) (SO := sOr OP OF SO n) (n := n) (m := m) hn hm (sOr_inj hd SO) (b := plc OP OF n o) h.1 (by omega)
  rw [sOr_plc hd SO o0 o1, cpy_in ⟨o0, o1⟩] at this
  rw [this]; omega
theorem lay_r {F : Int → Int} {v : Int → Int → Int} {SO : Int → Int} {n m lo hi : Int} (hn : 0 ≤ n) (hm : 0 ≤ m) (hF : ∀ k, lo ≤ F k ∧ F k ≤ hi) (hv : ∀ y a, 0 ≤ y → 0 ≤ a → lo ≤ v y a ∧ v y a ≤ hi) (k : Int) : lo ≤ lay F v SO n m k ∧ lay F v SO n m k ≤ hi := by
  refine sm_ind (P := fun m => ∀ k, lo ≤ lay F v SO n m k ∧ lay F v SO n m k ≤ hi) hF (fun y hy ih k => ?_) m hm k
  rw [lay_s _ _ _ _ hy]
  exact scat_r hn ih (fun i hi _ => hv y i hy hi) k

