theorem dear_one {d : Int} {q : U6} {bb bc z w : Int} (e : bb = bc) (h : ((d = -1 ∨ bb = 0) ∧ z = d) ∨ ((d ≠ -1 ∧ bb = 1) ∧ bt9 q z)) (k : ((d = -1 ∨ bc = 0) ∧ w = d) ∨ ((d ≠ -1 ∧ bc = 1) ∧ bt9 q w)) : w = z := by
  subst e
  rcases h with ⟨h1, h2⟩ | ⟨h1, h2⟩ <;> rcases k with ⟨k1, k2⟩ | ⟨k1, k2⟩
  · omega
  · omega
  · omega
  · exact bt9_one k2 h2
