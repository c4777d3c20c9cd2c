/-! the best windows, by two tables -/
def mx (a b : Int) : Int := if a < b then b else a
/-- from the front: the most by the hours before n+1, with k of its first hours tried -/
def pxN (VH VU wt : Int → Int) (cl : Int) (P : Int → Int) (la : Int) : Nat → Int
  | 0 => P la
  | k + 1 => if VH la - VH (la - k) < cl then mx (pxN VH VU wt cl P la k) (P (la - k) + wt (sm VU (la + 1) - sm VU (la - k))) else pxN VH VU wt cl P la k
def px9 (VH VU wt : Int → Int) (cl : Int) (P : Int → Int) (la k : Int) : Int := pxN VH VU wt cl P la k.toNat
theorem px9_0 (VH VU wt : Int → Int) (cl : Int) (P : Int → Int) (la : Int) : px9 VH VU wt cl P la 0 = P la := rfl
theorem px9_s (VH VU wt : Int → Int) (cl : Int) (P : Int → Int) (la : Int) {k : Int} (h : 0 ≤ k) : px9 VH VU wt cl P la (k + 1) = if VH la - VH (la - k) < cl then mx (px9 VH VU wt cl P la k) (P (la - k) + wt (sm VU (la + 1) - sm VU (la - k))) else px9 VH VU wt cl P la k := by
  obtain ⟨q, rfl⟩ : ∃ q : Nat, k = q := ⟨k.toNat, by omega⟩
  have e : ((q : Int) + 1).toNat = q + 1 := by omega
  have e2 : (q : Int).toNat = q := by omega
  simp only [px9, e, e2, pxN]
def ptN (VH VU wt : Int → Int) (cl : Int) : Nat → Int → Int
  | 0 => fun _ => 0
  | n + 1 => up (ptN VH VU wt cl n) (n + 1) (px9 VH VU wt cl (ptN VH VU wt cl n) n (n + 1))
def ptT (VH VU wt : Int → Int) (cl n : Int) : Int → Int := ptN VH VU wt cl n.toNat
theorem ptT_s (VH VU wt : Int → Int) (cl : Int) {n : Int} (h : 0 ≤ n) : ptT VH VU wt cl (n + 1) = up (ptT VH VU wt cl n) (n + 1) (px9 VH VU wt cl (ptT VH VU wt cl n) n (n + 1)) := by
  obtain ⟨q, rfl⟩ : ∃ q : Nat, n = q := ⟨n.toNat, by omega⟩
  have e : ((q : Int) + 1).toNat = q + 1 := by omega
  have e2 : (q : Int).toNat = q := by omega
  simp only [ptT, e, e2, ptN]
/-- hours that rise, and units within bounds -/
def rise (VH : Int → Int) (n : Int) : Prop := ∀ a b, 0 ≤ a → a < b → b < n → VH a < VH b
theorem px9_stop {VH VU wt : Int → Int} {cl : Int} {P : Int → Int} {la n k : Int} (hr : rise VH n) (hla : la < n) (hk : 0 ≤ k) (hc : k ≤ la → ¬ VH la - VH (la - k) < cl) : ∀ j, k ≤ j → j ≤ la + 1 → px9 VH VU wt cl P la j = px9 VH VU wt cl P la k := by
  intro j hj hj1
  have := sm_ind (P := fun d => k + d ≤ la + 1 → px9 VH VU wt cl P la (k + d) = px9 VH VU wt cl P la k) (fun _ => by rw [Int.add_zero]) (fun d hd ih h => by
    rw [← Int.add_assoc, px9_s _ _ _ _ _ _ (by omega), if_neg, ih (by omega)]
    have h1 := hc (by omega)
    by_cases e : d = 0
    · subst e; rw [Int.add_zero]; exact h1
    · have := hr (la - (k + d)) (la - k) (by omega) (by omega) (by omega); omega) (j - k) (by omega) (by omega)
  rw [show k + (j - k) = j by omega] at this
  exact this
theorem px9_r {VH VU wt : Int → Int} {cl : Int} {P : Int → Int} {la : Int} (hw : ∀ u, 0 ≤ wt u ∧ wt u ≤ 4999995) (hP : ∀ j, 0 ≤ j → j ≤ la → 0 ≤ P j ∧ P j ≤ j * 4999995) (hla : 0 ≤ la) {k : Int} (hk : 0 ≤ k) (hk1 : k ≤ la + 1) : 0 ≤ px9 VH VU wt cl P la k ∧ px9 VH VU wt cl P la k ≤ (la + 1) * 4999995 := by
  have := sm_ind (P := fun k => k ≤ la + 1 → 0 ≤ px9 VH VU wt cl P la k ∧ px9 VH VU wt cl P la k ≤ (la + 1) * 4999995) (fun _ => by have := hP la hla (by omega); rw [px9_0]; omega) (fun i hi ih h => by
    have h1 := ih (by omega)
    rw [px9_s _ _ _ _ _ _ hi]
    have h2 := hP (la - i) (by omega) (by omega)
    have h3 := hw (sm VU (la + 1) - sm VU (la - i))
    unfold mx; split <;> (try split) <;> omega) k hk
  exact this hk1
theorem ptT_r {VH VU wt : Int → Int} {cl : Int} (hw : ∀ u, 0 ≤ wt u ∧ wt u ≤ 4999995) {n : Int} (hn : 0 ≤ n) : ∀ j, 0 ≤ j → j ≤ n → 0 ≤ ptT VH VU wt cl n j ∧ ptT VH VU wt cl n j ≤ j * 4999995 := by
  refine sm_ind (P := fun n => ∀ j, 0 ≤ j → j ≤ n → 0 ≤ ptT VH VU wt cl n j ∧ ptT VH VU wt cl n j ≤ j * 4999995) (fun j h0 h1 => ?_) (fun i hi ih j h0 h1 => ?_) n hn
  · show 0 ≤ (0 : Int) ∧ (0 : Int) ≤ _; omega
  · rw [ptT_s _ _ _ _ hi]
    by_cases e : j = i + 1
    · subst e; rw [up_s]; exact px9_r hw ih hi (by omega) (by omega)
    · rw [up_n e]; exact ih j h0 (by omega)
/-- from the back -/
def sxN (VH VU wt : Int → Int) (cl : Int) (S : Int → Int) (i : Int) : Nat → Int
  | 0 => S (i + 1)
  | k + 1 => if VH (i + k) - VH i < cl then mx (sxN VH VU wt cl S i k) (wt (sm VU (i + k + 1) - sm VU i) + S (i + k + 1)) else sxN VH VU wt cl S i k
def sx9 (VH VU wt : Int → Int) (cl : Int) (S : Int → Int) (i k : Int) : Int := sxN VH VU wt cl S i k.toNat
theorem sx9_s (VH VU wt : Int → Int) (cl : Int) (S : Int → Int) (i : Int) {k : Int} (h : 0 ≤ k) : sx9 VH VU wt cl S i (k + 1) = if VH (i + k) - VH i < cl then mx (sx9 VH VU wt cl S i k) (wt (sm VU (i + k + 1) - sm VU i) + S (i + k + 1)) else sx9 VH VU wt cl S i k := by
  obtain ⟨q, rfl⟩ : ∃ q : Nat, k = q := ⟨k.toNat, by omega⟩
  have e : ((q : Int) + 1).toNat = q + 1 := by omega
  have e2 : (q : Int).toNat = q := by omega
  simp only [sx9, e, e2, sxN]
def stQ (VH VU wt : Int → Int) (cl n : Int) : Nat → Int → Int
  | 0 => fun _ => 0
  | j + 1 => up (stQ VH VU wt cl n j) (n - 1 - j) (sx9 VH VU wt cl (stQ VH VU wt cl n j) (n - 1 - j) (j + 1))
/-- the table from the back, its rows from i on laid -/
def stT (VH VU wt : Int → Int) (cl n i : Int) : Int → Int := stQ VH VU wt cl n (n - i).toNat
theorem stT_s (VH VU wt : Int → Int) (cl n : Int) {i : Int} (h : i < n) : stT VH VU wt cl n i = up (stT VH VU wt cl n (i + 1)) i (sx9 VH VU wt cl (stT VH VU wt cl n (i + 1)) i (n - i)) := by
  obtain ⟨q, hq⟩ : ∃ q : Nat, n - (i + 1) = q := ⟨(n - (i + 1)).toNat, by omega⟩
  have e : (n - i).toNat = q + 1 := by omega
  have e2 : (n - (i + 1)).toNat = q := by omega
  have e3 : n - 1 - (q : Int) = i := by omega
  have e4 : (q : Int) + 1 = n - i := by omega
  simp only [stT, e, e2, stQ, e3, e4]
theorem stT_n (VH VU wt : Int → Int) (cl n : Int) (j : Int) : stT VH VU wt cl n n j = 0 := by
  unfold stT; rw [show (n - n).toNat = 0 by omega]; rfl
def Sv (VH VU wt : Int → Int) (cl n i : Int) : Int := stT VH VU wt cl n i i
/-- a row, once laid, stays -/
theorem stT_keep (VH VU wt : Int → Int) (cl n : Int) {i j : Int} (h : i ≤ j) (hj : j ≤ n) : stT VH VU wt cl n i j = Sv VH VU wt cl n j := by
  have := sm_ind (P := fun d => stT VH VU wt cl n (j - d) j = Sv VH VU wt cl n j) (by rw [Int.sub_zero]; rfl) (fun d hd ih => by
    rw [stT_s _ _ _ _ _ (by omega : j - (d + 1) < n), up_n (by omega), show j - (d + 1) + 1 = j - d by omega]; exact ih) (j - i) (by omega)
  rw [show j - (j - i) = i by omega] at this
  exact this
theorem sx9_congr {VH VU wt : Int → Int} {cl : Int} {S T : Int → Int} {i n : Int} (h : ∀ j, i < j → j ≤ n → S j = T j) (hi : i < n) {k : Int} (hk : 0 ≤ k) (hk1 : k ≤ n - i) : sx9 VH VU wt cl S i k = sx9 VH VU wt cl T i k := by
  have := sm_ind (P := fun k => k ≤ n - i → sx9 VH VU wt cl S i k = sx9 VH VU wt cl T i k) (fun _ => h (i + 1) (by omega) (by omega)) (fun k hk ih hk1 => by
    rw [sx9_s _ _ _ _ _ _ hk, sx9_s _ _ _ _ _ _ hk, ih (by omega), h (i + k + 1) (by omega) (by omega)]) k hk
  exact this hk1
theorem Sv_s (VH VU wt : Int → Int) (cl : Int) {n i : Int} (h : i < n) : Sv VH VU wt cl n i = sx9 VH VU wt cl (Sv VH VU wt cl n) i (n - i) := by
  unfold Sv
  rw [stT_s _ _ _ _ _ h, up_s]
  exact sx9_congr (fun j h0 h1 => stT_keep VH VU wt cl n (by omega) h1) h (by omega) (Int.le_refl _)
theorem Sv_n (VH VU wt : Int → Int) (cl n : Int) : Sv VH VU wt cl n n = 0 := stT_n VH VU wt cl n n
theorem sx9_stop {VH VU wt : Int → Int} {cl : Int} {S : Int → Int} {i n k : Int} (hr : rise VH n) (hi : 0 ≤ i) (hk : 0 ≤ k) (hc : i + k < n → ¬ VH (i + k) - VH i < cl) : ∀ j, k ≤ j → j ≤ n - i → sx9 VH VU wt cl S i j = sx9 VH VU wt cl S i k := by
  intro j hj hj1
  have := sm_ind (P := fun d => k + d ≤ n - i → sx9 VH VU wt cl S i (k + d) = sx9 VH VU wt cl S i k) (fun _ => by rw [Int.add_zero]) (fun d hd ih h => by
    rw [← Int.add_assoc, sx9_s _ _ _ _ _ _ (by omega), if_neg, ih (by omega)]
    have h1 := hc (by omega)
    by_cases e : d = 0
    · subst e; rw [Int.add_zero]; exact h1
    · have := hr (i + k) (i + (k + d)) (by omega) (by omega) (by omega); omega) (j - k) (by omega) (by omega)
  rw [show k + (j - k) = j by omega] at this
  exact this
theorem sx9_r {VH VU wt : Int → Int} {cl : Int} {S : Int → Int} {i n : Int} (hw : ∀ u, 0 ≤ wt u ∧ wt u ≤ 4999995) (hS : ∀ j, i < j → j ≤ n → 0 ≤ S j ∧ S j ≤ (n - j) * 4999995) (hi : i < n) {k : Int} (hk : 0 ≤ k) (hk1 : k ≤ n - i) : 0 ≤ sx9 VH VU wt cl S i k ∧ sx9 VH VU wt cl S i k ≤ (n - i) * 4999995 := by
  have := sm_ind (P := fun k => k ≤ n - i → 0 ≤ sx9 VH VU wt cl S i k ∧ sx9 VH VU wt cl S i k ≤ (n - i) * 4999995) (fun _ => by have := hS (i + 1) (by omega) (by omega); show 0 ≤ S (i + 1) ∧ S (i + 1) ≤ _; omega) (fun z hz ih h => by
    have h1 := ih (by omega)
    rw [sx9_s _ _ _ _ _ _ hz]
    have h2 := hS (i + z + 1) (by omega) (by omega)
    have h3 := hw (sm VU (i + z + 1) - sm VU i)
    unfold mx; split <;> (try split) <;> omega) k hk
  exact this hk1
theorem Sv_r {VH VU wt : Int → Int} {cl : Int} (hw : ∀ u, 0 ≤ wt u ∧ wt u ≤ 4999995) {n : Int} {i : Int} (h0 : 0 ≤ i) (h1 : i ≤ n) : 0 ≤ Sv VH VU wt cl n i ∧ Sv VH VU wt cl n i ≤ (n - i) * 4999995 := by
  have := sm_ind (P := fun d => d ≤ n → ∀ j, n - d ≤ j → j ≤ n → 0 ≤ Sv VH VU wt cl n j ∧ Sv VH VU wt cl n j ≤ (n - j) * 4999995) (fun _ j a b => by rw [show j = n by omega, Sv_n]; omega) (fun d hd ih hdn j a b => by
    by_cases e : j = n - (d + 1)
    · subst e
      rw [Sv_s _ _ _ _ (by omega)]
      exact sx9_r hw (fun j' a' b' => ih (by omega) j' (by omega) b') (by omega) (by omega) (Int.le_refl _)
    · exact ih (by omega) j (by omega) b) (n - i) (by omega) (by omega)
  exact this i (by omega) h1
/-! both tables tell the same -/
theorem px9_ge {VH VU wt : Int → Int} {cl : Int} {P : Int → Int} {la : Int} (hk0 : 0 ≤ la + 1) : ∀ k, 0 ≤ k → k ≤ la + 1 → P la ≤ px9 VH VU wt cl P la k ∧ ∀ d, 0 ≤ d → d < k → VH la - VH (la - d) < cl → P (la - d) + wt (sm VU (la + 1) - sm VU (la - d)) ≤ px9 VH VU wt cl P la k := by
  intro k hk
  refine sm_ind (P := fun k => k ≤ la + 1 → P la ≤ px9 VH VU wt cl P la k ∧ ∀ d, 0 ≤ d → d < k → VH la - VH (la - d) < cl → P (la - d) + wt (sm VU (la + 1) - sm VU (la - d)) ≤ px9 VH VU wt cl P la k) (fun _ => ⟨Int.le_refl _, fun d a b => by omega⟩) (fun i hi ih h => ?_) k hk
  obtain ⟨h1, h2⟩ := ih (by omega)
  rw [px9_s _ _ _ _ _ _ hi]
  refine ⟨by unfold mx; split <;> (try split) <;> omega, fun d d0 d1 d2 => ?_⟩
  by_cases e : d = i
  · subst e; rw [if_pos d2]; unfold mx; split <;> omega
  · have := h2 d d0 (by omega) d2
    unfold mx; split <;> (try split) <;> omega
theorem px9_at {VH VU wt : Int → Int} {cl : Int} {P : Int → Int} {la : Int} : ∀ k, 0 ≤ k → px9 VH VU wt cl P la k = P la ∨ ∃ d, 0 ≤ d ∧ d < k ∧ VH la - VH (la - d) < cl ∧ px9 VH VU wt cl P la k = P (la - d) + wt (sm VU (la + 1) - sm VU (la - d)) := by
  intro k hk
  refine sm_ind (P := fun k => px9 VH VU wt cl P la k = P la ∨ ∃ d, 0 ≤ d ∧ d < k ∧ VH la - VH (la - d) < cl ∧ px9 VH VU wt cl P la k = P (la - d) + wt (sm VU (la + 1) - sm VU (la - d))) (Or.inl rfl) (fun i hi ih => ?_) k hk
  rw [px9_s _ _ _ _ _ _ hi]
  have keep : px9 VH VU wt cl P la i = P la ∨ ∃ d, 0 ≤ d ∧ d < i + 1 ∧ VH la - VH (la - d) < cl ∧ px9 VH VU wt cl P la i = P (la - d) + wt (sm VU (la + 1) - sm VU (la - d)) := by
    rcases ih with ih | ⟨d, d0, d1, d2⟩
    · exact Or.inl ih
    · exact Or.inr ⟨d, d0, by omega, d2⟩
  by_cases q : VH la - VH (la - i) < cl
  · rw [if_pos q]; unfold mx
    by_cases r : px9 VH VU wt cl P la i < P (la - i) + wt (sm VU (la + 1) - sm VU (la - i))
    · rw [if_pos r]; exact Or.inr ⟨i, hi, by omega, q, rfl⟩
    · rw [if_neg r]; exact keep
  · rw [if_neg q]; exact keep
theorem sx9_ge {VH VU wt : Int → Int} {cl : Int} {S : Int → Int} {i : Int} : ∀ k, 0 ≤ k → S (i + 1) ≤ sx9 VH VU wt cl S i k ∧ ∀ d, 0 ≤ d → d < k → VH (i + d) - VH i < cl → wt (sm VU (i + d + 1) - sm VU i) + S (i + d + 1) ≤ sx9 VH VU wt cl S i k := by
  intro k hk
  refine sm_ind (P := fun k => S (i + 1) ≤ sx9 VH VU wt cl S i k ∧ ∀ d, 0 ≤ d → d < k → VH (i + d) - VH i < cl → wt (sm VU (i + d + 1) - sm VU i) + S (i + d + 1) ≤ sx9 VH VU wt cl S i k) ⟨Int.le_refl _, fun d a b => by omega⟩ (fun z hz ih => ?_) k hk
  obtain ⟨h1, h2⟩ := ih
  rw [sx9_s _ _ _ _ _ _ hz]
  refine ⟨by unfold mx; split <;> (try split) <;> omega, fun d d0 d1 d2 => ?_⟩
  by_cases e : d = z
  · subst e; rw [if_pos d2]; unfold mx; split <;> omega
  · have := h2 d d0 (by omega) d2
    unfold mx; split <;> (try split) <;> omega
theorem sx9_at {VH VU wt : Int → Int} {cl : Int} {S : Int → Int} {i : Int} : ∀ k, 0 ≤ k → sx9 VH VU wt cl S i k = S (i + 1) ∨ ∃ d, 0 ≤ d ∧ d < k ∧ VH (i + d) - VH i < cl ∧ sx9 VH VU wt cl S i k = wt (sm VU (i + d + 1) - sm VU i) + S (i + d + 1) := by
  intro k hk
  refine sm_ind (P := fun k => sx9 VH VU wt cl S i k = S (i + 1) ∨ ∃ d, 0 ≤ d ∧ d < k ∧ VH (i + d) - VH i < cl ∧ sx9 VH VU wt cl S i k = wt (sm VU (i + d + 1) - sm VU i) + S (i + d + 1)) (Or.inl rfl) (fun z hz ih => ?_) k hk
  rw [sx9_s _ _ _ _ _ _ hz]
  have keep : sx9 VH VU wt cl S i z = S (i + 1) ∨ ∃ d, 0 ≤ d ∧ d < z + 1 ∧ VH (i + d) - VH i < cl ∧ sx9 VH VU wt cl S i z = wt (sm VU (i + d + 1) - sm VU i) + S (i + d + 1) := by
    rcases ih with ih | ⟨d, d0, d1, d2⟩
    · exact Or.inl ih
    · exact Or.inr ⟨d, d0, by omega, d2⟩
  by_cases q : VH (i + z) - VH i < cl
  · rw [if_pos q]; unfold mx
    by_cases r : sx9 VH VU wt cl S i z < wt (sm VU (i + z + 1) - sm VU i) + S (i + z + 1)
    · rw [if_pos r]; exact Or.inr ⟨z, hz, by omega, q, rfl⟩
    · rw [if_neg r]; exact keep
  · rw [if_neg q]; exact keep
def Pv (VH VU wt : Int → Int) (cl n : Int) : Int := ptT VH VU wt cl n n
theorem ptT_keep (VH VU wt : Int → Int) (cl : Int) {j n : Int} (h0 : 0 ≤ j) (h : j ≤ n) : ptT VH VU wt cl n j = Pv VH VU wt cl j := by
  have := sm_ind (P := fun d => ptT VH VU wt cl (j + d) j = Pv VH VU wt cl j) (by rw [Int.add_zero]; rfl) (fun d hd ih => by
    rw [← Int.add_assoc, ptT_s _ _ _ _ (by omega), up_n (by omega)]; exact ih) (n - j) (by omega)
  rw [show j + (n - j) = n by omega] at this
  exact this
theorem px9_congr {VH VU wt : Int → Int} {cl : Int} {S T : Int → Int} {la : Int} (h : ∀ j, 0 ≤ j → j ≤ la → S j = T j) (h0 : 0 ≤ la) {k : Int} (hk : 0 ≤ k) (hk1 : k ≤ la + 1) : px9 VH VU wt cl S la k = px9 VH VU wt cl T la k := by
  have := sm_ind (P := fun k => k ≤ la + 1 → px9 VH VU wt cl S la k = px9 VH VU wt cl T la k) (fun _ => h la h0 (by omega)) (fun k hk ih hk1 => by
    rw [px9_s _ _ _ _ _ _ hk, px9_s _ _ _ _ _ _ hk, ih (by omega), h (la - k) (by omega) (by omega)]) k hk
  exact this hk1
theorem Pv_s (VH VU wt : Int → Int) (cl : Int) {n : Int} (h : 0 ≤ n) : Pv VH VU wt cl (n + 1) = px9 VH VU wt cl (Pv VH VU wt cl) n (n + 1) := by
  unfold Pv
  rw [ptT_s _ _ _ _ h, up_s]
  exact px9_congr (fun j h0 h1 => ptT_keep VH VU wt cl h0 h1) h (by omega) (Int.le_refl _)
theorem Pv_0 (VH VU wt : Int → Int) (cl : Int) : Pv VH VU wt cl 0 = 0 := rfl
/-- the most is the same from the front and from the back -/
theorem Pv_Sv (VH VU wt : Int → Int) (cl : Int) {n : Int} (hn : 0 ≤ n) : Pv VH VU wt cl n = Sv VH VU wt cl n 0 := by
  have up1 := sm_ind (P := fun m => m ≤ n → ∀ j, 0 ≤ j → j ≤ m → Pv VH VU wt cl j + Sv VH VU wt cl n j ≤ Sv VH VU wt cl n 0) (fun _ j h0 h1 => by rw [show j = 0 by omega, Pv_0]; omega) (fun i hi ih hm j h0 h1 => by
    have ih := ih (by omega)
    by_cases e : j = i + 1
    · subst e
      rw [Pv_s _ _ _ _ hi]
      rcases px9_at (VH := VH) (VU := VU) (wt := wt) (cl := cl) (P := Pv VH VU wt cl) (la := i) (i + 1) (by omega) with q | ⟨d, d0, d1, d2, d3⟩
      · rw [q]
        have h3 := ih i hi (Int.le_refl _)
        have h4 := (sx9_ge (VH := VH) (VU := VU) (wt := wt) (cl := cl) (S := Sv VH VU wt cl n) (i := i) (n - i) (by omega)).1
        rw [← Sv_s _ _ _ _ (by omega : i < n)] at h4
        omega
      · rw [d3]
        have h3 := ih (i - d) (by omega) (by omega)
        have h4 := (sx9_ge (VH := VH) (VU := VU) (wt := wt) (cl := cl) (S := Sv VH VU wt cl n) (i := i - d) (n - (i - d)) (by omega)).2 d d0 (by omega) (by rw [show i - d + d = i by omega]; exact d2)
        rw [← Sv_s _ _ _ _ (by omega : i - d < n), show i - d + d + 1 = i + 1 by omega] at h4
        omega
    · exact ih j h0 (by omega)) n hn (Int.le_refl _) n hn (Int.le_refl _)
  have up2 := sm_ind (P := fun m => m ≤ n → ∀ j, n - m ≤ j → j ≤ n → Pv VH VU wt cl j + Sv VH VU wt cl n j ≤ Pv VH VU wt cl n) (fun _ j h0 h1 => by rw [show j = n by omega, Sv_n]; omega) (fun i hi ih hm j h0 h1 => by
    have ih := ih (by omega)
    by_cases e : j = n - (i + 1)
    · have hj : j < n := by omega
      rw [Sv_s _ _ _ _ hj]
      rcases sx9_at (VH := VH) (VU := VU) (wt := wt) (cl := cl) (S := Sv VH VU wt cl n) (i := j) (n - j) (by omega) with q | ⟨d, d0, d1, d2, d3⟩
      · rw [q]
        have h3 := ih (j + 1) (by omega) (by omega)
        have h4 := (px9_ge (VH := VH) (VU := VU) (wt := wt) (cl := cl) (P := Pv VH VU wt cl) (la := j) (by omega) (j + 1) (by omega) (Int.le_refl _)).1
        rw [← Pv_s _ _ _ _ (by omega : 0 ≤ j)] at h4
        omega
      · rw [d3]
        have h3 := ih (j + d + 1) (by omega) (by omega)
        have h4 := (px9_ge (VH := VH) (VU := VU) (wt := wt) (cl := cl) (P := Pv VH VU wt cl) (la := j + d) (by omega) (j + d + 1) (by omega) (Int.le_refl _)).2 d d0 (by omega) (by rw [show j + d - d = j by omega]; exact d2)
        rw [← Pv_s _ _ _ _ (by omega : 0 ≤ j + d), show j + d - d = j by omega] at h4
        omega
    · exact ih j (by omega) h1) n hn (Int.le_refl _) 0 (by omega) hn
  rw [Sv_n] at up1
  rw [Pv_0] at up2
  omega

