theorem okc24 : ((List.range 5).all fun k => okC (151 + k)) = true := by decide +kernel
theorem okm24 : ((List.range 5).all fun k => okM (151 + k)) = true := by decide +kernel
theorem okc25 : ((List.range 4).all fun k => okC (156 + k)) = true := by decide +kernel
theorem okm25 : ((List.range 4).all fun k => okM (156 + k)) = true := by decide +kernel
theorem okc26 : ((List.range 4).all fun k => okC (160 + k)) = true := by decide +kernel
theorem okm26 : ((List.range 4).all fun k => okM (160 + k)) = true := by decide +kernel
