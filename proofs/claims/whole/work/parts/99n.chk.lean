theorem okc45 : ((List.range 4).all fun k => okC (265 + k)) = true := by decide +kernel
theorem okm45 : ((List.range 4).all fun k => okM (265 + k)) = true := by decide +kernel
theorem okc46 : ((List.range 3).all fun k => okC (269 + k)) = true := by decide +kernel
theorem okm46 : ((List.range 3).all fun k => okM (269 + k)) = true := by decide +kernel
theorem okc47 : ((List.range 1).all fun k => okC (272 + k)) = true := by decide +kernel
theorem okm47 : ((List.range 1).all fun k => okM (272 + k)) = true := by decide +kernel
theorem okc48 : ((List.range 6).all fun k => okC (273 + k)) = true := by decide +kernel
theorem okm48 : ((List.range 6).all fun k => okM (273 + k)) = true := by decide +kernel
theorem okCs (m : Nat) (hm : m < 279) : okC m = true := by
  by_cases h0 : m < 1
  · rw [show m = 0 by omega]; exact okc0
  by_cases h1 : m < 11
  · exact okblk 1 10 okc1 (by omega) (by omega)
  by_cases h2 : m < 19
  · exact okblk 11 8 okc2 (by omega) (by omega)
  by_cases h3 : m < 28
  · exact okblk 19 9 okc3 (by omega) (by omega)
  by_cases h4 : m < 34
  · exact okblk 28 6 okc4 (by omega) (by omega)
  by_cases h5 : m < 40
  · exact okblk 34 6 okc5 (by omega) (by omega)
  by_cases h6 : m < 46
  · exact okblk 40 6 okc6 (by omega) (by omega)
  by_cases h7 : m < 57
  · exact okblk 46 11 okc7 (by omega) (by omega)
  by_cases h8 : m < 67
  · exact okblk 57 10 okc8 (by omega) (by omega)
  by_cases h9 : m < 77
  · exact okblk 67 10 okc9 (by omega) (by omega)
  by_cases h10 : m < 86
  · exact okblk 77 9 okc10 (by omega) (by omega)
  by_cases h11 : m < 94
  · exact okblk 86 8 okc11 (by omega) (by omega)
  by_cases h12 : m < 98
  · exact okblk 94 4 okc12 (by omega) (by omega)
  by_cases h13 : m < 102
  · exact okblk 98 4 okc13 (by omega) (by omega)
  by_cases h14 : m < 106
  · exact okblk 102 4 okc14 (by omega) (by omega)
  by_cases h15 : m < 114
  · exact okblk 106 8 okc15 (by omega) (by omega)
  by_cases h16 : m < 119
  · exact okblk 114 5 okc16 (by omega) (by omega)
  by_cases h17 : m < 125
  · exact okblk 119 6 okc17 (by omega) (by omega)
  by_cases h18 : m < 131
  · exact okblk 125 6 okc18 (by omega) (by omega)
  by_cases h19 : m < 136
  · exact okblk 131 5 okc19 (by omega) (by omega)
  by_cases h20 : m < 139
  · exact okblk 136 3 okc20 (by omega) (by omega)
  by_cases h21 : m < 142
  · exact okblk 139 3 okc21 (by omega) (by omega)
  by_cases h22 : m < 149
  · exact okblk 142 7 okc22 (by omega) (by omega)
  by_cases h23 : m < 151
  · exact okblk 149 2 okc23 (by omega) (by omega)
  by_cases h24 : m < 156
  · exact okblk 151 5 okc24 (by omega) (by omega)
  by_cases h25 : m < 160
  · exact okblk 156 4 okc25 (by omega) (by omega)
  by_cases h26 : m < 164
  · exact okblk 160 4 okc26 (by omega) (by omega)
  by_cases h27 : m < 165
  · rw [show m = 164 by omega]; exact okc27
  by_cases h28 : m < 170
  · exact okblk 165 5 okc28 (by omega) (by omega)
  by_cases h29 : m < 176
  · exact okblk 170 6 okc29 (by omega) (by omega)
  by_cases h30 : m < 186
  · exact okblk 176 10 okc30 (by omega) (by omega)
  by_cases h31 : m < 194
  · exact okblk 186 8 okc31 (by omega) (by omega)
  by_cases h32 : m < 200
  · exact okblk 194 6 okc32 (by omega) (by omega)
  by_cases h33 : m < 210
  · exact okblk 200 10 okc33 (by omega) (by omega)
  by_cases h34 : m < 214
  · exact okblk 210 4 okc34 (by omega) (by omega)
  by_cases h35 : m < 219
  · exact okblk 214 5 okc35 (by omega) (by omega)
  by_cases h36 : m < 221
  · exact okblk 219 2 okc36 (by omega) (by omega)
  by_cases h37 : m < 225
  · exact okblk 221 4 okc37 (by omega) (by omega)
  by_cases h38 : m < 229
  · exact okblk 225 4 okc38 (by omega) (by omega)
  by_cases h39 : m < 235
  · exact okblk 229 6 okc39 (by omega) (by omega)
  by_cases h40 : m < 243
  · exact okblk 235 8 okc40 (by omega) (by omega)
  by_cases h41 : m < 248
  · exact okblk 243 5 okc41 (by omega) (by omega)
  by_cases h42 : m < 253
  · exact okblk 248 5 okc42 (by omega) (by omega)
  by_cases h43 : m < 260
  · exact okblk 253 7 okc43 (by omega) (by omega)
  by_cases h44 : m < 265
  · exact okblk 260 5 okc44 (by omega) (by omega)
  by_cases h45 : m < 269
  · exact okblk 265 4 okc45 (by omega) (by omega)
  by_cases h46 : m < 272
  · exact okblk 269 3 okc46 (by omega) (by omega)
  by_cases h47 : m < 273
  · exact okblk 272 1 okc47 (by omega) (by omega)
  by_cases h48 : m < 279
  · exact okblk 273 6 okc48 (by omega) (by omega)
  omega
theorem okMs (m : Nat) (h0 : 1 ≤ m) (hm : m < 279) : okM m = true := by
  by_cases h1 : m < 11
  · exact okblM 1 10 okm1 (by omega) (by omega)
  by_cases h2 : m < 19
  · exact okblM 11 8 okm2 (by omega) (by omega)
  by_cases h3 : m < 28
  · exact okblM 19 9 okm3 (by omega) (by omega)
  by_cases h4 : m < 34
  · exact okblM 28 6 okm4 (by omega) (by omega)
  by_cases h5 : m < 40
  · exact okblM 34 6 okm5 (by omega) (by omega)
  by_cases h6 : m < 46
  · exact okblM 40 6 okm6 (by omega) (by omega)
  by_cases h7 : m < 57
  · exact okblM 46 11 okm7 (by omega) (by omega)
  by_cases h8 : m < 67
  · exact okblM 57 10 okm8 (by omega) (by omega)
  by_cases h9 : m < 77
  · exact okblM 67 10 okm9 (by omega) (by omega)
  by_cases h10 : m < 86
  · exact okblM 77 9 okm10 (by omega) (by omega)
  by_cases h11 : m < 94
  · exact okblM 86 8 okm11 (by omega) (by omega)
  by_cases h12 : m < 98
  · exact okblM 94 4 okm12 (by omega) (by omega)
  by_cases h13 : m < 102
  · exact okblM 98 4 okm13 (by omega) (by omega)
  by_cases h14 : m < 106
  · exact okblM 102 4 okm14 (by omega) (by omega)
  by_cases h15 : m < 114
  · exact okblM 106 8 okm15 (by omega) (by omega)
  by_cases h16 : m < 119
  · exact okblM 114 5 okm16 (by omega) (by omega)
  by_cases h17 : m < 125
  · exact okblM 119 6 okm17 (by omega) (by omega)
  by_cases h18 : m < 131
  · exact okblM 125 6 okm18 (by omega) (by omega)
  by_cases h19 : m < 136
  · exact okblM 131 5 okm19 (by omega) (by omega)
  by_cases h20 : m < 139
  · exact okblM 136 3 okm20 (by omega) (by omega)
  by_cases h21 : m < 142
  · exact okblM 139 3 okm21 (by omega) (by omega)
  by_cases h22 : m < 149
  · exact okblM 142 7 okm22 (by omega) (by omega)
  by_cases h23 : m < 151
  · exact okblM 149 2 okm23 (by omega) (by omega)
  by_cases h24 : m < 156
  · exact okblM 151 5 okm24 (by omega) (by omega)
  by_cases h25 : m < 160
  · exact okblM 156 4 okm25 (by omega) (by omega)
  by_cases h26 : m < 164
  · exact okblM 160 4 okm26 (by omega) (by omega)
  by_cases h27 : m < 165
  · exact okblM 164 1 okm27 (by omega) (by omega)
  by_cases h28 : m < 170
  · exact okblM 165 5 okm28 (by omega) (by omega)
  by_cases h29 : m < 176
  · exact okblM 170 6 okm29 (by omega) (by omega)
  by_cases h30 : m < 186
  · exact okblM 176 10 okm30 (by omega) (by omega)
  by_cases h31 : m < 194
  · exact okblM 186 8 okm31 (by omega) (by omega)
  by_cases h32 : m < 200
  · exact okblM 194 6 okm32 (by omega) (by omega)
  by_cases h33 : m < 210
  · exact okblM 200 10 okm33 (by omega) (by omega)
  by_cases h34 : m < 214
  · exact okblM 210 4 okm34 (by omega) (by omega)
  by_cases h35 : m < 219
  · exact okblM 214 5 okm35 (by omega) (by omega)
  by_cases h36 : m < 221
  · exact okblM 219 2 okm36 (by omega) (by omega)
  by_cases h37 : m < 225
  · exact okblM 221 4 okm37 (by omega) (by omega)
  by_cases h38 : m < 229
  · exact okblM 225 4 okm38 (by omega) (by omega)
  by_cases h39 : m < 235
  · exact okblM 229 6 okm39 (by omega) (by omega)
  by_cases h40 : m < 243
  · exact okblM 235 8 okm40 (by omega) (by omega)
  by_cases h41 : m < 248
  · exact okblM 243 5 okm41 (by omega) (by omega)
  by_cases h42 : m < 253
  · exact okblM 248 5 okm42 (by omega) (by omega)
  by_cases h43 : m < 260
  · exact okblM 253 7 okm43 (by omega) (by omega)
  by_cases h44 : m < 265
  · exact okblM 260 5 okm44 (by omega) (by omega)
  by_cases h45 : m < 269
  · exact okblM 265 4 okm45 (by omega) (by omega)
  by_cases h46 : m < 272
  · exact okblM 269 3 okm46 (by omega) (by omega)
  by_cases h47 : m < 273
  · exact okblM 272 1 okm47 (by omega) (by omega)
  by_cases h48 : m < 279
  · exact okblM 273 6 okm48 (by omega) (by omega)
  omega
