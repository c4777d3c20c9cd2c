/-! what is asked, in whole numbers -/
/-- what the loss i counts for a window of a peril -/
def grd (LP LH LU : Int → Int) (p a b : Int) : Int → Int := fun i => if LP i = p ∧ a ≤ LH i ∧ LH i ≤ b then LU i else 0
