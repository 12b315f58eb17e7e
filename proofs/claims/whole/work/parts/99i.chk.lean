theorem okc27_0 : (((qcode 164).drop 0).take 12).all (okP 164) = true := by decide +kernel
theorem okc27_1 : (((qcode 164).drop 12).take 12).all (okP 164) = true := by decide +kernel
theorem okc27 : okC 164 = true := by
  have h : ((qcode 164).drop 0).all (okP 164) = true := okcutD _ _ 0 12 12 rfl okc27_0 (okcutD _ _ 12 12 24 rfl okc27_1 (by decide +kernel))
  exact h
