theorem rest9 : True := by
  have := @FP.Core.dcmp_key
  exact trivial
