theorem okc0_12 : (((qcode 0).drop 24).take 2).all (okP 0) = true := by decide +kernel
theorem okc0_13 : (((qcode 0).drop 26).take 2).all (okP 0) = true := by decide +kernel
theorem okc0_14 : (((qcode 0).drop 28).take 2).all (okP 0) = true := by decide +kernel
theorem okc0_15 : (((qcode 0).drop 30).take 2).all (okP 0) = true := by decide +kernel
theorem okc0_16 : (((qcode 0).drop 32).take 2).all (okP 0) = true := by decide +kernel
theorem okc0_17 : (((qcode 0).drop 34).take 2).all (okP 0) = true := by decide +kernel
theorem okc0 : okC 0 = true := by
  have h : ((qcode 0).drop 0).all (okP 0) = true := okcutD _ _ 0 2 2 rfl okc0_0 (okcutD _ _ 2 2 4 rfl okc0_1 (okcutD _ _ 4 2 6 rfl okc0_2 (okcutD _ _ 6 2 8 rfl okc0_3 (okcutD _ _ 8 2 10 rfl okc0_4 (okcutD _ _ 10 2 12 rfl okc0_5 (okcutD _ _ 12 2 14 rfl okc0_6 (okcutD _ _ 14 2 16 rfl okc0_7 (okcutD _ _ 16 2 18 rfl okc0_8 (okcutD _ _ 18 2 20 rfl okc0_9 (okcutD _ _ 20 2 22 rfl okc0_10 (okcutD _ _ 22 2 24 rfl okc0_11 (okcutD _ _ 24 2 26 rfl okc0_12 (okcutD _ _ 26 2 28 rfl okc0_13 (okcutD _ _ 28 2 30 rfl okc0_14 (okcutD _ _ 30 2 32 rfl okc0_15 (okcutD _ _ 32 2 34 rfl okc0_16 (okcutD _ _ 34 2 36 rfl okc0_17 (by decide +kernel))))))))))))))))))
  exact h
