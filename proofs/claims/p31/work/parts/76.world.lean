/-! cells of a row of cells, all of them -/
theorem pa_get : ∀ (ws pre suf : va_W), (List.range' pre.length ws.length).map (fun i => (pre ++ ws ++ suf)[i]?) = ws.map some
  | [], pre, suf => rfl
  | a :: ws, pre, suf => by
    have ih := pa_get ws (pre ++ [a]) suf
    have e : pre ++ a :: ws ++ suf = pre ++ [a] ++ ws ++ suf := by simp
    have el : (pre ++ [a]).length = pre.length + 1 := by simp
    rw [el] at ih
    rw [List.length_cons, List.range'_succ, List.map_cons, List.map_cons, e, ih]
    have e2 : (pre ++ [a] ++ ws ++ suf)[pre.length]? = some a := by
      rw [List.append_assoc, List.append_assoc, List.getElem?_append_right (Nat.le_refl _), Nat.sub_self]; rfl
    rw [e2]
theorem pa_put : ∀ (ws w1 pre suf : va_W), w1.length = ws.length → putAll (pre ++ ws ++ suf) (List.range' pre.length ws.length) w1 = pre ++ w1 ++ suf
  | [], [], pre, suf, _ => List.append_nil _
  | [], _ :: _, _, _, h => by simp at h
  | _ :: _, [], _, _, h => by simp at h
  | a :: ws, c :: w1, pre, suf, h => by
    have ih := pa_put ws w1 (pre ++ [c]) suf (by simpa using h)
    have el : (pre ++ [c]).length = pre.length + 1 := by simp
    rw [el] at ih
    have e : (pre ++ a :: ws ++ suf).set pre.length c = pre ++ [c] ++ ws ++ suf := by
      rw [List.append_assoc, List.set_append_right _ _ (Nat.le_refl _), Nat.sub_self]; simp
    rw [List.length_cons, List.range'_succ]
    show putAll ((pre ++ a :: ws ++ suf).set pre.length c) (List.range' (pre.length + 1) ws.length) w1 = _
    rw [e, ih]; simp

/-! the class' world, packed: S what it is about, X the rows that it scratches on -/
def sup (S : Nat → Int → Int) (q : Nat) (F : Int → Int) : Nat → Int → Int := fun j => if j = q then F else S j
def wP (g : gD) (B : Nat → Nat) (S X : Nat → Int → Int) : va_W := [(B 0, cO 9 [.ref (B 1), .ref (B 5), .ref (B 9), .ref (B 16), .ref (B 27), .ref (B 35), .ref (B 39), .ref (B 46), .ref (B 55), vi (S 33 0)]), (B 1, cO 2 [.ref (B 2), .ref (B 3), .ref (B 4), vi (S 34 0)]), (B 2, cA g 40 (S 0)), (B 3, cA g 40 (S 1)), (B 4, cA g 40 (S 2)), (B 5, cO 8 [.ref (B 6), .ref (B 7), .ref (B 8), vi (S 35 0)]), (B 6, cA g 8 (S 3)), (B 7, cA g 8 (S 4)), (B 8, cA g 8 (S 5)), (B 9, cO 7 [.ref (B 10), .ref (B 11), .ref (B 12), .ref (B 13), .ref (B 14), .ref (B 15), vi (S 36 0), vi (S 37 0)]), (B 10, cA g 5 (S 6)), (B 11, cA g 5 (S 7)), (B 12, cA g 5 (S 8)), (B 13, cA g 5 (S 9)), (B 14, cA g 5 (S 10)), (B 15, cA g 5 (S 11)), (B 16, cO 5 [.ref (B 17), .ref (B 18), .ref (B 19), .ref (B 20), .ref (B 21), .ref (B 22), .ref (B 23), .ref (B 24), .ref (B 25), .ref (B 26), vi (X 16 0), vi (X 17 0), vi (X 18 0), vi (X 19 0)]), (B 17, cA g 8 (X 0)), (B 18, cA g 8 (X 1)), (B 19, cA g 8 (X 2)), (B 20, cA g 8 (X 3)), (B 21, cA g 8 (X 4)), (B 22, cA g 40 (X 5)), (B 23, cA g 40 (X 6)), (B 24, cA g 40 (X 7)), (B 25, cA g 40 (X 8)), (B 26, cA g 40 (X 9)), (B 27, cO 4 [.ref (B 28), .ref (B 29), .ref (B 30), .ref (B 31), .ref (B 32), .ref (B 33), .ref (B 34)]), (B 28, cA g 30 (S 12)), (B 29, cA g 6 (S 13)), (B 30, cA g 6 (S 14)), (B 31, cA g 6 (S 15)), (B 32, cA g 6 (X 10)), (B 33, cA g 6 (X 11)), (B 34, cA g 6 (X 12)), (B 35, cO 0 [.ref (B 36), .ref (B 37), .ref (B 38), vi (X 20 0)]), (B 36, cA g 40 (X 13)), (B 37, cA g 40 (X 14)), (B 38, cA g 41 (X 15)), (B 39, cO 6 [.ref (B 40), .ref (B 41), .ref (B 42), .ref (B 43), .ref (B 44), .ref (B 45), vi (S 38 0), vi (S 39 0)]), (B 40, cA g 6 (S 16)), (B 41, cA g 6 (S 17)), (B 42, cA g 60 (S 18)), (B 43, cA g 60 (S 19)), (B 44, cA g 60 (S 20)), (B 45, cA g 60 (S 21)), (B 46, cO 1 [.ref (B 47), .ref (B 48), .ref (B 49), .ref (B 50), .ref (B 51), .ref (B 52), .ref (B 53), .ref (B 54), vi (S 40 0)]), (B 47, cA g 5 (S 22)), (B 48, cA g 5 (S 23)), (B 49, cA g 5 (S 24)), (B 50, cA g 5 (S 25)), (B 51, cA g 5 (S 26)), (B 52, cA g 5 (S 27)), (B 53, cA g 5 (S 28)), (B 54, cA g 5 (S 29)), (B 55, cO 3 [.ref (B 56), .ref (B 57), .ref (B 58)]), (B 56, cA g 36 (S 30)), (B 57, cA g 36 (S 31)), (B 58, cA g 3 (S 32))]
def iv9 (S X : Nat → Int → Int) : Prop := (0 ≤ (S 34 0) ∧ (S 34 0) ≤ 40) ∧ (∀ k, 0 ≤ (S 3) k ∧ (S 3) k ≤ 2) ∧ (∀ k, 0 ≤ (S 4) k ∧ (S 4) k ≤ 2199) ∧ (∀ k, 0 ≤ (S 5) k ∧ (S 5) k ≤ 2199) ∧ (0 ≤ (S 35 0) ∧ (S 35 0) ≤ 8) ∧ (0 ≤ (S 36 0) ∧ (S 36 0) ≤ 5) ∧ (∀ k, 0 ≤ (S 12) k ∧ (S 12) k ≤ 100) ∧ (0 ≤ (S 38 0) ∧ (S 38 0) ≤ 6) ∧ (0 ≤ (S 39 0) ∧ (S 39 0) ≤ 60) ∧ (∀ k, 0 ≤ (S 17) k ∧ (S 17) k ≤ 2200) ∧ (∀ k, 0 ≤ (S 18) k ∧ (S 18) k ≤ 5) ∧ (∀ k, 0 ≤ (S 19) k ∧ (S 19) k ≤ 2199) ∧ (0 ≤ (S 40 0) ∧ (S 40 0) ≤ 5) ∧ (0 ≤ (S 33 0) ∧ (S 33 0) ≤ 2199) ∧ (∀ k, 0 ≤ (S 26) k ∧ (S 26) k ≤ 2199) ∧ (∀ k, 0 ≤ (S 29) k ∧ (S 29) k ≤ 2699) ∧ (∀ k, 0 ≤ (S 32) k ∧ (S 32) k ≤ 12) ∧ (∀ k, 0 ≤ (S 0) k ∧ (S 0) k ≤ 2) ∧ (∀ k, 0 ≤ (S 1) k ∧ (S 1) k ≤ 2199) ∧ (∀ k, 0 ≤ (S 2) k ∧ (S 2) k ≤ 99999) ∧ (∀ k, 0 ≤ (S 6) k ∧ (S 6) k ≤ 999999) ∧ (∀ k, 0 ≤ (S 7) k ∧ (S 7) k ≤ 999999) ∧ (∀ k, 0 ≤ (S 8) k ∧ (S 8) k ≤ 100) ∧ (∀ k, 0 ≤ (S 9) k ∧ (S 9) k ≤ 3) ∧ (∀ k, 0 ≤ (S 10) k ∧ (S 10) k ≤ 99999) ∧ (∀ k, 0 ≤ (S 11) k ∧ (S 11) k ≤ 150) ∧ (0 ≤ (S 37 0) ∧ (S 37 0) ≤ 90) ∧ (∀ k, 0 ≤ (X 0) k - (X 1) k ∧ (X 0) k - (X 1) k ≤ 3999960) ∧ (∀ k, 0 ≤ k → k < (S 36 0) → 1 ≤ (S 7) k) ∧ (dj9 (S 3) (S 4) (S 5) (S 35 0)) ∧ (∀ k, 0 ≤ (X 6) k ∧ (X 6) k ≤ 999999) ∧ (∀ k, 0 ≤ (X 10) k ∧ (X 10) k ≤ 100000000) ∧ (∀ k, 0 ≤ (S 13) k ∧ (S 13) k ≤ 5) ∧ (∀ k, 0 ≤ (S 14) k ∧ (S 14) k ≤ 999999) ∧ (∀ k, 0 ≤ (S 15) k ∧ (S 15) k ≤ 999999) ∧ (∀ k, 0 ≤ (X 11) k ∧ (X 11) k ≤ 200000000) ∧ (∀ k, 0 ≤ (X 12) k ∧ (X 12) k ≤ 200000000) ∧ (∀ k, 0 ≤ (X 13) k ∧ (X 13) k ≤ 2199) ∧ (∀ k, 0 ≤ (S 22) k ∧ (S 22) k ≤ 999999) ∧ (∀ k, 0 ≤ (S 23) k ∧ (S 23) k ≤ 2) ∧ (∀ k, 0 ≤ (S 24) k ∧ (S 24) k ≤ 65535) ∧ (∀ k, 0 ≤ (S 25) k ∧ (S 25) k ≤ 2199) ∧ (∀ k, 0 ≤ (S 27) k ∧ (S 27) k ≤ 9) ∧ (∀ k, 0 ≤ (S 28) k ∧ (S 28) k ≤ 100) ∧ (∀ k, 0 ≤ (S 16) k ∧ (S 16) k ≤ 15) ∧ (∀ k, 0 ≤ (S 20) k ∧ (S 20) k ≤ 2) ∧ (∀ k, 0 ≤ (S 21) k ∧ (S 21) k ≤ 9) ∧ (∀ k9, 0 ≤ k9 → k9 < (S 39 0) → (S 18) k9 < (S 38 0)) ∧ (∀ k, 0 ≤ (S 30) k ∧ (S 30) k ≤ 99) ∧ (∀ k, 0 ≤ (S 31) k ∧ (S 31) k ≤ 999999) ∧ (∀ q k, 0 ≤ q → q < 3 → 0 ≤ k → k < (S 32) q → 1 ≤ (S 30) (q * 12 + k)) ∧ (∀ k, 0 ≤ k → k < (S 40 0) → 1 ≤ (S 22) k)
def isP : List Nat := [0, 1, 2, 3, 4, 5, 6, 7, 8, 9, 10, 11, 12, 13, 14, 15, 16, 17, 18, 19, 20, 21, 22, 23, 24, 25, 26, 27, 28, 29, 30, 31, 32, 33, 34, 35, 36, 37, 38, 39, 40, 41, 42, 43, 44, 45, 46, 47, 48, 49, 50, 51, 52, 53, 54, 55, 56, 57, 58]
def isQ : List Nat := [59, 60, 61, 62, 63, 64, 65, 66, 67, 68, 69, 70, 71, 72, 73, 74, 75, 76, 77, 78, 79, 80, 81, 82, 83, 84, 85, 86, 87, 88, 89, 90, 91, 92, 93, 94, 95, 96, 97, 98, 99, 100, 101, 102, 103, 104, 105, 106, 107, 108, 109, 110, 111, 112, 113, 114, 115, 116, 117]
theorem wPl (g : gD) (B : Nat → Nat) (S X : Nat → Int → Int) : (wP g B S X).length = 59 := rfl
theorem isP_is : isP = List.range' 0 59 := by decide +kernel
theorem isQ_is : isQ = List.range' 59 59 := by decide +kernel
theorem isPQ_is : isP ++ isQ = List.range' 0 118 := by decide +kernel
theorem puP (g : gD) (B : Nat → Nat) (S X T Y : Nat → Int → Int) : putAll (wP g B S X) isP (wP g B T Y) = wP g B T Y := by
  have h := pa_put (wP g B S X) (wP g B T Y) [] [] (by rw [wPl, wPl])
  rw [wPl] at h
  rw [isP_is]; simpa using h
theorem hCP (g : gD) (B : Nat → Nat) (S X : Nat → Int → Int) : isP.map (fun i => (wP g B S X)[i]?) = (wP g B S X).map some := by
  have h := pa_get (wP g B S X) [] []
  rw [wPl] at h
  rw [isP_is]; simpa using h
theorem ndP : va_nd isP = true := by decide +kernel
theorem ndQ : va_nd isQ = true := by decide +kernel
theorem ndPQ : va_nd (isP ++ isQ) = true := by decide +kernel
theorem fsP (g : gD) (B : Nat → Nat) (S X T Y : Nat → Int → Int) : (wP g B S X).map Prod.fst = (wP g B T Y).map Prod.fst := rfl
theorem puA (g : gD) (B D : Nat → Nat) (S X T Y S2 X2 : Nat → Int → Int) : putAll (wP g B S X ++ wP g D T Y) isP (wP g B S2 X2) = wP g B S2 X2 ++ wP g D T Y := by
  have h := pa_put (wP g B S X) (wP g B S2 X2) [] (wP g D T Y) (by rw [wPl, wPl])
  rw [wPl] at h
  rw [isP_is]; exact h
theorem puB (g : gD) (B D : Nat → Nat) (S X T Y S2 X2 : Nat → Int → Int) : putAll (wP g D T Y ++ wP g B S X) isQ (wP g B S2 X2) = wP g D T Y ++ wP g B S2 X2 := by
  have h := pa_put (wP g B S X) (wP g B S2 X2) (wP g D T Y) [] (by rw [wPl, wPl])
  rw [wPl, wPl, List.append_nil, List.append_nil] at h
  rw [isQ_is]; exact h
theorem hCA (g : gD) (B D : Nat → Nat) (S X T Y : Nat → Int → Int) : isP.map (fun i => (wP g B S X ++ wP g D T Y)[i]?) = (wP g B S X).map some := by
  have h := pa_get (wP g B S X) [] (wP g D T Y)
  rw [wPl] at h
  rw [isP_is]; exact h
theorem hCB (g : gD) (B D : Nat → Nat) (S X T Y : Nat → Int → Int) : isQ.map (fun i => (wP g D T Y ++ wP g B S X)[i]?) = (wP g B S X).map some := by
  have h := pa_get (wP g B S X) (wP g D T Y) []
  rw [wPl, wPl, List.append_nil] at h
  rw [isQ_is]; exact h
theorem puPQ (g : gD) (B D : Nat → Nat) (S X T Y S2 X2 T2 Y2 : Nat → Int → Int) : putAll (wP g B S X ++ wP g D T Y) (isP ++ isQ) (wP g B S2 X2 ++ wP g D T2 Y2) = wP g B S2 X2 ++ wP g D T2 Y2 := by
  have h := pa_put (wP g B S X ++ wP g D T Y) (wP g B S2 X2 ++ wP g D T2 Y2) [] [] (by rw [List.length_append, List.length_append, wPl, wPl, wPl, wPl])
  rw [List.length_append, wPl, wPl] at h
  rw [isPQ_is]; simpa using h
theorem hCPQ (g : gD) (B D : Nat → Nat) (S X T Y : Nat → Int → Int) : (isP ++ isQ).map (fun i => (wP g B S X ++ wP g D T Y)[i]?) = (wP g B S X ++ wP g D T Y).map some := by
  have h := pa_get (wP g B S X ++ wP g D T Y) [] []
  rw [List.length_append, wPl, wPl] at h
  rw [isPQ_is]; simpa using h
/-- an answer r, the state S2 behind it -/
def pO (g : gD) (B : Nat → Nat) (S2 : Nat → Int → Int) (r : Value) (c : Prop) : Option Value → va_W → Prop := fun v9 w9 => c ∧ ∃ X2, v9 = some r ∧ w9 = wP g B S2 X2 ∧ iv9 S2 X2
theorem q_and {Q : va_W → Prop} {w1 w2 ws : va_W} (e : w1 = w2) (f : w2.map Prod.fst = ws.map Prod.fst) (h : Q w2) : Q w1 ∧ w1.map Prod.fst = ws.map Prod.fst := by subst e; exact ⟨h, f⟩
def pX (g : gD) (B : Nat → Nat) (S : Nat → Int → Int) (c : Prop) (L : List String) : String → va_W → Prop := fun E9 w9 => ¬ c ∧ E9 ∈ L ∧ ∃ X2, w9 = wP g B S X2 ∧ iv9 S X2
noncomputable def vR_rounds (S : Nat → Int → Int) : Int := Classical.epsilon (fun R => rnd (fun z => kB (S 0) (S 1) (S 2) (S 34 0) (S 3) (S 4) (S 5) (S 35 0) (S 37 0) (S 6) (S 7) (S 8) (S 9) (S 10) (S 11) (S 12) (S 36 0) z) (S 13) (S 14) (S 15) R)
def vC_loss (p h u : Int) (S : Nat → Int → Int) : Prop := (0 ≤ p ∧ p ≤ 2 ∧ 0 ≤ h ∧ h ≤ 2199 ∧ 0 ≤ u ∧ u ≤ 99999) ∧ (S 34 0) < 40
def vR_loss (p h u : Int) (S : Nat → Int → Int) : Int := S 34 0
def vN_loss (p h u : Int) (S : Nat → Int → Int) : Nat → Int → Int := (sup (sup (sup (sup S 34 (fun _ => (S 34 0) + 1)) 0 (up (S 0) (S 34 0) p)) 1 (up (S 1) (S 34 0) h)) 2 (up (S 2) (S 34 0) u))
def vC_creep (v u : Int) (S : Nat → Int → Int) : Prop := (0 ≤ v ∧ v < (S 34 0)) ∧ 0 ≤ u ∧ u ≤ 99999
def vR_creep (v u : Int) (S : Nat → Int → Int) : Int := (S 2) v
def vN_creep (v u : Int) (S : Nat → Int → Int) : Nat → Int → Int := (sup S 2 (up (S 2) v u))
def vC_choose (p a b : Int) (S : Nat → Int → Int) : Prop := (0 ≤ p ∧ p ≤ 2 ∧ 0 ≤ a ∧ a ≤ b ∧ b ≤ 2199 ∧ b - a < (if p = 0 then 72 else 168)) ∧ (S 35 0) < 8 ∧ ¬ hic (S 3) (S 4) (S 5) p a b (S 35 0)
def vR_choose (p a b : Int) (S : Nat → Int → Int) : Int := S 35 0
def vN_choose (p a b : Int) (S : Nat → Int → Int) : Nat → Int → Int := (sup (sup (sup (sup S 35 (fun _ => (S 35 0) + 1)) 3 (up (S 3) (S 35 0) p)) 4 (up (S 4) (S 35 0) a)) 5 (up (S 5) (S 35 0) b))
def vC_unchoose (S : Nat → Int → Int) : Prop := 1 ≤ (S 35 0)
def vR_unchoose (S : Nat → Int → Int) : Int := (S 35 0) - 1
def vN_unchoose (S : Nat → Int → Int) : Nat → Int → Int := (sup S 35 (fun _ => (S 35 0) - 1))
def vC_quota (v : Int) (S : Nat → Int → Int) : Prop := 0 ≤ v ∧ v ≤ 90
def vR_quota (v : Int) (S : Nat → Int → Int) : Int := S 37 0
def vN_quota (v : Int) (S : Nat → Int → Int) : Nat → Int → Int := (sup S 37 (fun _ => v))
def vC_layer (a1 a2 a3 a4 a5 a6 : Int) (S : Nat → Int → Int) : Prop := ((0 ≤ a1 ∧ a1 ≤ 999999) ∧ (1 ≤ a2 ∧ a2 ≤ 999999) ∧ (1 ≤ a3 ∧ a3 ≤ 100) ∧ (0 ≤ a4 ∧ a4 ≤ 3) ∧ (0 ≤ a5 ∧ a5 ≤ 99999) ∧ (0 ≤ a6 ∧ a6 ≤ 150)) ∧ (S 36 0) < 5
def vR_layer (a1 a2 a3 a4 a5 a6 : Int) (S : Nat → Int → Int) : Int := S 36 0
def vN_layer (a1 a2 a3 a4 a5 a6 : Int) (S : Nat → Int → Int) : Nat → Int → Int := (sup (sup (sup (sup (sup (sup (sup S 36 (fun _ => (S 36 0) + 1)) 6 (up (S 6) (S 36 0) a1)) 7 (up (S 7) (S 36 0) a2)) 8 (up (S 8) (S 36 0) a3)) 9 (up (S 9) (S 36 0) a4)) 10 (up (S 10) (S 36 0) a5)) 11 (up (S 11) (S 36 0) a6))
def vC_part (y z v : Int) (S : Nat → Int → Int) : Prop := ((0 ≤ y ∧ y < (S 36 0)) ∧ (0 ≤ z ∧ z ≤ 5)) ∧ (0 ≤ v ∧ v ≤ 100) ∧ sm (bes (S 12) y z) 6 + v ≤ 100
def vR_part (y z v : Int) (S : Nat → Int → Int) : Int := 100 - sm (bes (up (S 12) (y * 6 + z) v) y (-1)) 6
def vN_part (y z v : Int) (S : Nat → Int → Int) : Nat → Int → Int := (sup S 12 (up (S 12) (y * 6 + z) v))
def vC_retro (y z a b : Int) (S : Nat → Int → Int) : Prop := ((0 ≤ y ∧ y ≤ 5) ∧ (0 ≤ z ∧ z ≤ 5)) ∧ (y ≠ z ∧ (0 ≤ a ∧ a ≤ 999999) ∧ (0 ≤ b ∧ b ≤ 999999))
def vR_retro (y z a b : Int) (S : Nat → Int → Int) : Int := (S 15) y
def vN_retro (y z a b : Int) (S : Nat → Int → Int) : Nat → Int → Int := (sup (sup (sup S 13 (up (S 13) y z)) 14 (up (S 14) y a)) 15 (up (S 15) y b))
def vC_station (v : Int) (S : Nat → Int → Int) : Prop := (0 ≤ v ∧ v ≤ 15) ∧ (S 38 0) < 6
def vR_station (v : Int) (S : Nat → Int → Int) : Int := S 38 0
def vN_station (v : Int) (S : Nat → Int → Int) : Nat → Int → Int := (sup (sup (sup S 38 (fun _ => (S 38 0) + 1)) 16 (up (S 16) (S 38 0) v)) 17 (up (S 17) (S 38 0) 2200))
def vC_reading (a1 a2 a3 a4 : Int) (S : Nat → Int → Int) : Prop := (0 ≤ a1 ∧ a1 < (S 38 0)) ∧ ((0 ≤ a2 ∧ a2 ≤ 2199) ∧ (0 ≤ a3 ∧ a3 ≤ 2) ∧ (0 ≤ a4 ∧ a4 ≤ 9)) ∧ (S 39 0) < 60
def vR_reading (a1 a2 a3 a4 : Int) (S : Nat → Int → Int) : Int := (S 39 0) + 1
def vN_reading (a1 a2 a3 a4 : Int) (S : Nat → Int → Int) : Nat → Int → Int := (sup (sup (sup (sup (sup S 39 (fun _ => (S 39 0) + 1)) 18 (up (S 18) (S 39 0) a1)) 19 (up (S 19) (S 39 0) a2)) 20 (up (S 20) (S 39 0) a3)) 21 (up (S 21) (S 39 0) a4))
def vC_fails (s h : Int) (S : Nat → Int → Int) : Prop := (0 ≤ s ∧ s < (S 38 0)) ∧ (0 ≤ h ∧ h ≤ 2199) ∧ 2199 < (S 17) s
def vR_fails (s h : Int) (S : Nat → Int → Int) : Int := sm (fcn (S 18) (S 19) s h) (S 39 0)
def vN_fails (s h : Int) (S : Nat → Int → Int) : Nat → Int → Int := (sup S 17 (up (S 17) s h))
def vC_bond (a1 a2 a3 a4 a5 a6 a7 : Int) (S : Nat → Int → Int) : Prop := ((1 ≤ a1 ∧ a1 ≤ 999999) ∧ (0 ≤ a2 ∧ a2 ≤ 2) ∧ (1 ≤ a3 ∧ a3 ≤ 65535) ∧ (0 ≤ a4 ∧ a4 ≤ a5 ∧ a5 ≤ 2199) ∧ (1 ≤ a6 ∧ a6 ≤ 9) ∧ (1 ≤ a7 ∧ a7 ≤ 100)) ∧ (S 40 0) < 5 ∧ (S 33 0) ≤ a5
def vR_bond (a1 a2 a3 a4 a5 a6 a7 : Int) (S : Nat → Int → Int) : Int := S 40 0
def vN_bond (a1 a2 a3 a4 a5 a6 a7 : Int) (S : Nat → Int → Int) : Nat → Int → Int := (sup (sup (sup (sup (sup (sup (sup (sup (sup S 40 (fun _ => (S 40 0) + 1)) 22 (up (S 22) (S 40 0) a1)) 23 (up (S 23) (S 40 0) a2)) 24 (up (S 24) (S 40 0) a3)) 25 (up (S 25) (S 40 0) a4)) 26 (up (S 26) (S 40 0) a5)) 27 (up (S 27) (S 40 0) a6)) 28 (up (S 28) (S 40 0) a7)) 29 (up (S 29) (S 40 0) a5))
def vC_extend (b h : Int) (S : Nat → Int → Int) : Prop := (0 ≤ b ∧ b < (S 40 0)) ∧ (1 ≤ h ∧ h ≤ 500) ∧ ¬ ((S 26) b < (S 29) b) ∧ (S 33 0) ≤ (S 29) b
def vR_extend (b h : Int) (S : Nat → Int → Int) : Int := (S 26) b + h
def vN_extend (b h : Int) (S : Nat → Int → Int) : Nat → Int → Int := (sup S 29 (up (S 29) b ((S 26) b + h)))
def vC_pass (h : Int) (S : Nat → Int → Int) : Prop := (1 ≤ h ∧ h ≤ 500) ∧ (S 33 0) + h ≤ 2199
def vR_pass (h : Int) (S : Nat → Int → Int) : Int := (S 33 0) + h
def vN_pass (h : Int) (S : Nat → Int → Int) : Nat → Int → Int := (sup S 33 (fun _ => (S 33 0) + h))
def vC_scenario (q a b : Int) (S : Nat → Int → Int) : Prop := (0 ≤ q ∧ q ≤ 2) ∧ ((1 ≤ a ∧ a ≤ 99) ∧ (0 ≤ b ∧ b ≤ 999999)) ∧ (S 32) q < 12
def vR_scenario (q a b : Int) (S : Nat → Int → Int) : Int := (S 32) q + 1
def vN_scenario (q a b : Int) (S : Nat → Int → Int) : Nat → Int → Int := (sup (sup (sup S 30 (up (S 30) (q * 12 + (S 32) q) a)) 31 (up (S 31) (q * 12 + (S 32) q) b)) 32 (up (S 32) q ((S 32) q + 1)))
def vC_occurrence (o w : Int) (S : Nat → Int → Int) : Prop := (0 ≤ o ∧ o < (S 35 0)) ∧ 0 ≤ w ∧ w ≤ 5
def vR_occurrence (o w : Int) (S : Nat → Int → Int) : Int := if w = 0 then gro (S 0) (S 1) (S 2) (S 34 0) (S 3) (S 4) (S 5) o else if w = 1 then qto (S 37 0) (gro (S 0) (S 1) (S 2) (S 34 0) (S 3) (S 4) (S 5) o) else if w = 2 then gro (S 0) (S 1) (S 2) (S 34 0) (S 3) (S 4) (S 5) o - qto (S 37 0) (gro (S 0) (S 1) (S 2) (S 34 0) (S 3) (S 4) (S 5) o) else if w = 3 then kD (S 0) (S 1) (S 2) (S 34 0) (S 3) (S 4) (S 5) (S 35 0) (S 37 0) (S 6) (S 7) (S 8) (S 9) (S 10) (S 11) (S 36 0) o else if w = 4 then kE (S 0) (S 1) (S 2) (S 34 0) (S 3) (S 4) (S 5) (S 35 0) (S 37 0) (S 6) (S 7) (S 8) (S 9) (S 10) (S 11) (S 36 0) o else plc (S 3) (S 4) (S 35 0) o
def vC_hit (y o w : Int) (S : Nat → Int → Int) : Prop := ((0 ≤ y ∧ y < (S 36 0)) ∧ (0 ≤ o ∧ o < (S 35 0))) ∧ 0 ≤ w ∧ w ≤ 4
def vR_hit (y o w : Int) (S : Nat → Int → Int) : Int := if w = 0 then kH (S 0) (S 1) (S 2) (S 34 0) (S 3) (S 4) (S 5) (S 35 0) (S 37 0) (S 6) (S 7) (S 8) (S 9) (S 10) (S 11) y o else if w = 1 then kP (S 0) (S 1) (S 2) (S 34 0) (S 3) (S 4) (S 5) (S 35 0) (S 37 0) (S 6) (S 7) (S 8) (S 9) (S 10) (S 11) y o else if w = 2 then kR (S 0) (S 1) (S 2) (S 34 0) (S 3) (S 4) (S 5) (S 35 0) (S 37 0) (S 6) (S 7) (S 8) (S 9) (S 10) (S 11) y o else if w = 3 then kC (S 0) (S 1) (S 2) (S 34 0) (S 3) (S 4) (S 5) (S 35 0) (S 37 0) (S 6) (S 7) (S 8) (S 9) (S 10) (S 11) y o else kL (S 0) (S 1) (S 2) (S 34 0) (S 3) (S 4) (S 5) (S 35 0) (S 37 0) (S 6) (S 7) (S 8) (S 9) (S 10) (S 11) y o
def vC_sum (w : Int) (S : Nat → Int → Int) : Prop := 0 ≤ w ∧ w ≤ 7
def vR_sum (w : Int) (S : Nat → Int → Int) : Int := if w = 0 then sm (S 2) (S 34 0) else if w = 1 then sm (S 2) (S 34 0) - sm (fun o => gro (S 0) (S 1) (S 2) (S 34 0) (S 3) (S 4) (S 5) o) (S 35 0) else if w = 2 then sm (fun o => qto (S 37 0) (gro (S 0) (S 1) (S 2) (S 34 0) (S 3) (S 4) (S 5) o)) (S 35 0) else if w = 3 then sm (fun o => kD (S 0) (S 1) (S 2) (S 34 0) (S 3) (S 4) (S 5) (S 35 0) (S 37 0) (S 6) (S 7) (S 8) (S 9) (S 10) (S 11) (S 36 0) o) (S 35 0) else if w = 4 then sm (fun o => qto (S 37 0) (gro (S 0) (S 1) (S 2) (S 34 0) (S 3) (S 4) (S 5) o)) (S 35 0) + sm (fun o => kD (S 0) (S 1) (S 2) (S 34 0) (S 3) (S 4) (S 5) (S 35 0) (S 37 0) (S 6) (S 7) (S 8) (S 9) (S 10) (S 11) (S 36 0) o) (S 35 0) - sm (fun z => kB (S 0) (S 1) (S 2) (S 34 0) (S 3) (S 4) (S 5) (S 35 0) (S 37 0) (S 6) (S 7) (S 8) (S 9) (S 10) (S 11) (S 12) (S 36 0) z) 6 else if w = 5 then sm (fun o => kE (S 0) (S 1) (S 2) (S 34 0) (S 3) (S 4) (S 5) (S 35 0) (S 37 0) (S 6) (S 7) (S 8) (S 9) (S 10) (S 11) (S 36 0) o) (S 35 0) else if w = 6 then sm (S 2) (S 34 0) - sm (fun z => kB (S 0) (S 1) (S 2) (S 34 0) (S 3) (S 4) (S 5) (S 35 0) (S 37 0) (S 6) (S 7) (S 8) (S 9) (S 10) (S 11) (S 12) (S 36 0) z) 6 + sm (fun o => kE (S 0) (S 1) (S 2) (S 34 0) (S 3) (S 4) (S 5) (S 35 0) (S 37 0) (S 6) (S 7) (S 8) (S 9) (S 10) (S 11) (S 36 0) o) (S 35 0) else sm (fun z => kB (S 0) (S 1) (S 2) (S 34 0) (S 3) (S 4) (S 5) (S 35 0) (S 37 0) (S 6) (S 7) (S 8) (S 9) (S 10) (S 11) (S 12) (S 36 0) z) 6
def vC_reinsurer (z w : Int) (S : Nat → Int → Int) : Prop := (0 ≤ z ∧ z ≤ 5) ∧ (0 ≤ w ∧ w ≤ 2)
noncomputable def vR_reinsurer (z w : Int) (S : Nat → Int → Int) : Int := if w = 0 then kB (S 0) (S 1) (S 2) (S 34 0) (S 3) (S 4) (S 5) (S 35 0) (S 37 0) (S 6) (S 7) (S 8) (S 9) (S 10) (S 11) (S 12) (S 36 0) z else if w = 1 then itr (fun z => kB (S 0) (S 1) (S 2) (S 34 0) (S 3) (S 4) (S 5) (S 35 0) (S 37 0) (S 6) (S 7) (S 8) (S 9) (S 10) (S 11) (S 12) (S 36 0) z) (S 13) (S 14) (S 15) (vR_rounds S) z else itr (fun z => kB (S 0) (S 1) (S 2) (S 34 0) (S 3) (S 4) (S 5) (S 35 0) (S 37 0) (S 6) (S 7) (S 8) (S 9) (S 10) (S 11) (S 12) (S 36 0) z) (S 13) (S 14) (S 15) (vR_rounds S) z - pso (S 14) (S 15) (itr (fun z => kB (S 0) (S 1) (S 2) (S 34 0) (S 3) (S 4) (S 5) (S 35 0) (S 37 0) (S 6) (S 7) (S 8) (S 9) (S 10) (S 11) (S 12) (S 36 0) z) (S 13) (S 14) (S 15) (vR_rounds S)) z
def vC_best (p : Int) (S : Nat → Int → Int) : Prop := 0 ≤ p ∧ p ≤ 2
noncomputable def vR_best (p : Int) (S : Nat → Int → Int) : Int := Classical.epsilon (fun z => ∃ (H2 U2 : Int → Int) (n2 : Int), gvd (S 0) (S 1) (S 2) p H2 U2 n2 (S 34 0) ∧ z = Pv H2 U2 (wtt (S 6) (S 7) (S 8) (S 37 0) (S 36 0)) (if p = 0 then 72 else 168) n2)
def vC_bestAnew (p : Int) (S : Nat → Int → Int) : Prop := (0 ≤ p ∧ p ≤ 2) ∧ ∃ (H2 U2 : Int → Int) (n2 : Int), gvd (S 0) (S 1) (S 2) p H2 U2 n2 (S 34 0) ∧ n2 ≤ 7
noncomputable def vR_bestAnew (p : Int) (S : Nat → Int → Int) : Int := vR_best p S
def vC_ofBond (b w : Int) (S : Nat → Int → Int) : Prop := (0 ≤ b ∧ b < (S 40 0)) ∧ (0 ≤ w ∧ w ≤ 5)
noncomputable def vR_ofBond (b w : Int) (S : Nat → Int → Int) : Int := if w = 0 then idx9 (S 16) (S 17) (S 18) (S 19) (S 20) (S 21) (S 38 0) (S 39 0) (S 23) (S 24) (S 25) (S 26) b else if w = 1 then pyo (S 22) (S 27) (S 28) b (idx9 (S 16) (S 17) (S 18) (S 19) (S 20) (S 21) (S 38 0) (S 39 0) (S 23) (S 24) (S 25) (S 26) b) else if w = 2 then (if (S 33 0) ≤ (S 29) b then 1 else 0) else if w = 3 then (if (S 33 0) ≤ (S 29) b then 0 else pyo (S 22) (S 27) (S 28) b (idx9 (S 16) (S 17) (S 18) (S 19) (S 20) (S 21) (S 38 0) (S 39 0) (S 23) (S 24) (S 25) (S 26) b)) else if w = 4 then (if (S 33 0) ≤ (S 29) b then 0 else (S 22) b - pyo (S 22) (S 27) (S 28) b (idx9 (S 16) (S 17) (S 18) (S 19) (S 20) (S 21) (S 38 0) (S 39 0) (S 23) (S 24) (S 25) (S 26) b)) else sti (S 16) (S 17) ((S 24) b) ((S 26) b) (S 38 0)
noncomputable def vR_basis (S : Nat → Int → Int) : Int := sm (pyb (S 16) (S 17) (S 18) (S 19) (S 20) (S 21) (S 38 0) (S 39 0) (S 22) (S 23) (S 24) (S 25) (S 26) (S 27) (S 28)) (S 40 0) - (sm (S 2) (S 34 0) - sm (fun z => kB (S 0) (S 1) (S 2) (S 34 0) (S 3) (S 4) (S 5) (S 35 0) (S 37 0) (S 6) (S 7) (S 8) (S 9) (S 10) (S 11) (S 12) (S 36 0) z) 6 + sm (fun o => kE (S 0) (S 1) (S 2) (S 34 0) (S 3) (S 4) (S 5) (S 35 0) (S 37 0) (S 6) (S 7) (S 8) (S 9) (S 10) (S 11) (S 36 0) o) (S 35 0))
def vC_price (y q : Int) (S : Nat → Int → Int) : Prop := ((0 ≤ y ∧ y < (S 36 0)) ∧ (0 ≤ q ∧ q ≤ 2)) ∧ 1 ≤ sm (twt (S 30) q) ((S 32) q)
def vR_price (y q : Int) (S : Nat → Int → Int) : Int := 1000 * sm (wpy (S 6) (S 7) (S 8) (S 37 0) (S 30) (S 31) q y) ((S 32) q) / sm (twt (S 30) q) ((S 32) q)
def vC_tail (y q u : Int) (S : Nat → Int → Int) : Prop := (((0 ≤ y ∧ y < (S 36 0)) ∧ (0 ≤ q ∧ q ≤ 2)) ∧ (0 ≤ u ∧ u ≤ 99)) ∧ 1 ≤ (S 32) q
def vR_tail (y q u : Int) (S : Nat → Int → Int) : Int := lb9 (S 6) (S 7) (S 8) (S 37 0) (S 30) (S 31) q y ((S 32) q) (u * sm (twt (S 30) q) ((S 32) q)) ((S 32) q)
def vC_dearest (y bb : Int) (S : Nat → Int → Int) : Prop := 0 ≤ y ∧ y < (S 36 0)
noncomputable def vR_dearest (y bb : Int) (S : Nat → Int → Int) : Int := Classical.epsilon (fun z9 => ((dr9 (S 32) (qF (S 6) (S 7) (S 8) (S 37 0) (S 30) (S 31) (S 32) y) 3 = -1 ∨ bb = 0) ∧ z9 = dr9 (S 32) (qF (S 6) (S 7) (S 8) (S 37 0) (S 30) (S 31) (S 32) y) 3) ∨ ((dr9 (S 32) (qF (S 6) (S 7) (S 8) (S 37 0) (S 30) (S 31) (S 32) y) 3 ≠ -1 ∧ bb = 1) ∧ bt9 (qF (S 6) (S 7) (S 8) (S 37 0) (S 30) (S 31) (S 32) y (dr9 (S 32) (qF (S 6) (S 7) (S 8) (S 37 0) (S 30) (S 31) (S 32) y) 3)) z9))
def vR_hour (S : Nat → Int → Int) : Int := S 33 0
theorem rounds_eps {S : Nat → Int → Int} {R : Int} (h : rnd (fun z => kB (S 0) (S 1) (S 2) (S 34 0) (S 3) (S 4) (S 5) (S 35 0) (S 37 0) (S 6) (S 7) (S 8) (S 9) (S 10) (S 11) (S 12) (S 36 0) z) (S 13) (S 14) (S 15) R) : R = vR_rounds S := rnd_one h (Classical.epsilon_spec (p := fun R => rnd (fun z => kB (S 0) (S 1) (S 2) (S 34 0) (S 3) (S 4) (S 5) (S 35 0) (S 37 0) (S 6) (S 7) (S 8) (S 9) (S 10) (S 11) (S 12) (S 36 0) z) (S 13) (S 14) (S 15) R) ⟨R, h⟩)
theorem best_eps {S : Nat → Int → Int} {p : Int} {H2 U2 : Int → Int} {n2 : Int} (h : gvd (S 0) (S 1) (S 2) p H2 U2 n2 (S 34 0)) : Pv H2 U2 (wtt (S 6) (S 7) (S 8) (S 37 0) (S 36 0)) (if p = 0 then 72 else 168) n2 = vR_best p S := by
  obtain ⟨K, V, m, k, e⟩ := Classical.epsilon_spec (p := fun z => ∃ (H2 U2 : Int → Int) (n2 : Int), gvd (S 0) (S 1) (S 2) p H2 U2 n2 (S 34 0) ∧ z = Pv H2 U2 (wtt (S 6) (S 7) (S 8) (S 37 0) (S 36 0)) (if p = 0 then 72 else 168) n2) ⟨_, H2, U2, n2, h, rfl⟩
  have b := best_one h k (wtt (S 6) (S 7) (S 8) (S 37 0) (S 36 0)) (if p = 0 then 72 else 168)
  show _ = Classical.epsilon _
  rw [e, b.1, Pv_Sv _ _ _ _ k.1.1]
theorem dear_eps {S : Nat → Int → Int} {y bb z9 : Int} (h : ((dr9 (S 32) (qF (S 6) (S 7) (S 8) (S 37 0) (S 30) (S 31) (S 32) y) 3 = -1 ∨ bb = 0) ∧ z9 = dr9 (S 32) (qF (S 6) (S 7) (S 8) (S 37 0) (S 30) (S 31) (S 32) y) 3) ∨ ((dr9 (S 32) (qF (S 6) (S 7) (S 8) (S 37 0) (S 30) (S 31) (S 32) y) 3 ≠ -1 ∧ bb = 1) ∧ bt9 (qF (S 6) (S 7) (S 8) (S 37 0) (S 30) (S 31) (S 32) y (dr9 (S 32) (qF (S 6) (S 7) (S 8) (S 37 0) (S 30) (S 31) (S 32) y) 3)) z9)) : z9 = vR_dearest y bb S := dear_one rfl (Classical.epsilon_spec (p := fun z9 => ((dr9 (S 32) (qF (S 6) (S 7) (S 8) (S 37 0) (S 30) (S 31) (S 32) y) 3 = -1 ∨ bb = 0) ∧ z9 = dr9 (S 32) (qF (S 6) (S 7) (S 8) (S 37 0) (S 30) (S 31) (S 32) y) 3) ∨ ((dr9 (S 32) (qF (S 6) (S 7) (S 8) (S 37 0) (S 30) (S 31) (S 32) y) 3 ≠ -1 ∧ bb = 1) ∧ bt9 (qF (S 6) (S 7) (S 8) (S 37 0) (S 30) (S 31) (S 32) y (dr9 (S 32) (qF (S 6) (S 7) (S 8) (S 37 0) (S 30) (S 31) (S 32) y) 3)) z9)) ⟨z9, h⟩) h

