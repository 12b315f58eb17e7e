theorem okc0_6 : (((qcode 0).drop 12).take 2).all (okP 0) = true := by decide +kernel
theorem okc0_7 : (((qcode 0).drop 14).take 2).all (okP 0) = true := by decide +kernel
theorem okc0_8 : (((qcode 0).drop 16).take 2).all (okP 0) = true := by decide +kernel
theorem okc0_9 : (((qcode 0).drop 18).take 2).all (okP 0) = true := by decide +kernel
theorem okc0_10 : (((qcode 0).drop 20).take 2).all (okP 0) = true := by decide +kernel
theorem okc0_11 : (((qcode 0).drop 22).take 2).all (okP 0) = true := by decide +kernel
