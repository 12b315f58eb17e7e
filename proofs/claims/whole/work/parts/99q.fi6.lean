/-! both constructors, step by step -/
theorem x_al {L : Nat} {xs : Nat → Int32} {B : List BO} {a n t : Nat} (e : (tob B a t && Nat.beq (bsh B (nn B) a).2 n) = true) (ht : t < 6) : qal a (bld L xs B) = some (nZ n) := by
  rw [Bool.and_eq_true] at e
  have h := tob_ (L := L) (xs := xs) e.1
  unfold qal
  rw [if_pos ⟨h.1, by rw [h.2.1]; exact ht⟩, h.2.2, Nat.eq_of_beq_eq_true e.2]
  rfl
def B0 : List BO := []
def B1 : List BO := uuN (16 + 11) 14 :: B0
def B2 : List BO := uuN (16 + 10) 6 :: B1
def B3 : List BO := uuN (16 + 2) 6 :: B2
def B4 : List BO := uuI 12 0 (0) :: B3
def B5 : List BO := uuI 12 1 (0) :: B4
def B6 : List BO := uuN 0 32 :: B5
def B7 : List BO := uuP 12 2 13 :: B6
def B8 : List BO := uuN 0 8 :: B7
def B9 : List BO := uuP 12 3 14 :: B8
def B10 : List BO := uuN 0 8 :: B9
def B11 : List BO := uuP 12 4 15 :: B10
def B12 : List BO := uuN 0 40 :: B11
def B13 : List BO := uuP 12 5 16 :: B12
def B14 : List BO := uuP 11 0 12 :: B13
def B15 : List BO := uuN (16 + 0) 2 :: B14
def B16 : List BO := uuI 17 0 (0) :: B15
def B17 : List BO := uuN 0 20 :: B16
def B18 : List BO := uuP 17 1 18 :: B17
def B19 : List BO := uuP 11 1 17 :: B18
def B20 : List BO := uuN (16 + 5) 6 :: B19
def B21 : List BO := uuI 19 0 (0) :: B20
def B22 : List BO := uuN 0 60 :: B21
def B23 : List BO := uuP 19 1 20 :: B22
def B24 : List BO := uuN 0 60 :: B23
def B25 : List BO := uuP 19 2 21 :: B24
def B26 : List BO := uuN 0 60 :: B25
def B27 : List BO := uuP 19 3 22 :: B26
def B28 : List BO := uuN 0 60 :: B27
def B29 : List BO := uuP 19 4 23 :: B28
def B30 : List BO := uuN 0 60 :: B29
def B31 : List BO := uuP 19 5 24 :: B30
def B32 : List BO := uuP 11 2 19 :: B31
def B33 : List BO := uuN 5 6 :: B32
def B34 : List BO := uuP 11 3 25 :: B33
def B35 : List BO := uuI 11 4 (0) :: B34
def B36 : List BO := uuI 11 5 (-1) :: B35
def B37 : List BO := uuP 10 0 11 :: B36
def B38 : List BO := uuN 4 2 :: B37
def B39 : List BO := uuP 10 1 26 :: B38
def B40 : List BO := uuN (16 + 7) 2 :: B39
def B41 : List BO := uuI 27 0 (0) :: B40
def B42 : List BO := uuN 0 400 :: B41
def B43 : List BO := uuP 27 1 28 :: B42
def B44 : List BO := uuP 10 2 27 :: B43
def B45 : List BO := uuN (16 + 4) 15 :: B44
def B46 : List BO := uuI 29 0 (0) :: B45
def B47 : List BO := uuN 0 0 :: B46
def B48 : List BO := uuP 29 1 30 :: B47
def B49 : List BO := uuI 29 2 (0) :: B48
def B50 : List BO := uuI 29 3 (0) :: B49
def B51 : List BO := uuI 29 4 (31) :: B50
def B52 : List BO := uuI 29 5 (0) :: B51
def B53 : List BO := uuI 29 6 (0) :: B52
def B54 : List BO := uuI 29 7 (0) :: B53
def B55 : List BO := uuI 29 8 (0) :: B54
def B56 : List BO := uuI 29 9 (0) :: B55
def B57 : List BO := uuN 3 90 :: B56
def B58 : List BO := cpy 7 31 90 0 B57
def B59 : List BO := uuP 29 10 31 :: B58
def B60 : List BO := uuN 3 12 :: B59
def B61 : List BO := cpy 8 32 12 0 B60
def B62 : List BO := uuP 29 11 32 :: B61
def B63 : List BO := uuN 0 12 :: B62
def B64 : List BO := uuP 29 12 33 :: B63
def B65 : List BO := uuN 0 12 :: B64
def B66 : List BO := uuP 29 13 34 :: B65
def B67 : List BO := uuN 0 412 :: B66
def B68 : List BO := uuP 29 14 35 :: B67
def B69 : List BO := uuP 10 3 29 :: B68
def B70 : List BO := uuN (16 + 8) 3 :: B69
def B71 : List BO := uuN 0 9 :: B70
def B72 : List BO := uuP 36 0 37 :: B71
def B73 : List BO := uuN 0 52 :: B72
def B74 : List BO := uuP 36 1 38 :: B73
def B75 : List BO := uuN 0 4 :: B74
def B76 : List BO := uuP 36 2 39 :: B75
def B77 : List BO := uuP 10 4 36 :: B76
def B78 : List BO := uuN (16 + 3) 5 :: B77
def B79 : List BO := uuN 0 1240 :: B78
def B80 : List BO := uuP 40 0 41 :: B79
def B81 : List BO := uuN 0 1240 :: B80
def B82 : List BO := uuP 40 1 42 :: B81
def B83 : List BO := uuN 0 240 :: B82
def B84 : List BO := uuP 40 2 43 :: B83
def B85 : List BO := uuN 0 60 :: B84
def B86 : List BO := uuP 40 3 44 :: B85
def B87 : List BO := uuI 40 4 (-1) :: B86
def B88 : List BO := uuP 10 5 40 :: B87
def B89 : List BO := uuN (16 + 6) 13 :: B88
def B90 : List BO := uuI 45 0 (-1) :: B89
def B91 : List BO := uuN 0 31 :: B90
def B92 : List BO := uuP 45 1 46 :: B91
def B93 : List BO := uuI 45 2 (-1) :: B92
def B94 : List BO := uuI 45 3 (-1) :: B93
def B95 : List BO := uuI 45 4 (0) :: B94
def B96 : List BO := uuI 45 5 (0) :: B95
def B97 : List BO := uuI 45 6 (0) :: B96
def B98 : List BO := uuI 45 7 (0) :: B97
def B99 : List BO := uuN 0 8 :: B98
def B100 : List BO := uuP 45 8 47 :: B99
def B101 : List BO := uuN 0 30 :: B100
def B102 : List BO := uuP 45 9 48 :: B101
def B103 : List BO := uuN 2 256 :: B102
def B104 : List BO := uuP 45 10 49 :: B103
def B105 : List BO := uuN 0 256 :: B104
def B106 : List BO := uuP 45 11 50 :: B105
def B107 : List BO := uuN 0 256 :: B106
def B108 : List BO := uuP 45 12 51 :: B107
def B109 : List BO := uuP 10 6 45 :: B108
def B110 : List BO := uuN (16 + 9) 5 :: B109
def B111 : List BO := uuI 52 0 0 :: B110
def B112 : List BO := uuI 52 1 (0) :: B111
def B113 : List BO := uuI 52 2 (0) :: B112
def B114 : List BO := uuN 0 64 :: B113
def B115 : List BO := uuP 52 3 53 :: B114
def B116 : List BO := uuI 52 4 (0) :: B115
def B117 : List BO := uuP 10 7 52 :: B116
def B118 : List BO := uuN 0 5 :: B117
def B119 : List BO := uuP 10 8 54 :: B118
def B120 : List BO := uuN 0 10 :: B119
def B121 : List BO := uuP 10 9 55 :: B120
def B122 : List BO := uuI 10 10 (0) :: B121
def B123 : List BO := uuI 10 11 (0) :: B122
def B124 : List BO := uuI 10 12 (0) :: B123
def B125 : List BO := uuI 10 13 (-1) :: B124
def B126 : List BO := uuN (16 + 12) 45 :: B125
def B127 : List BO := uuN 0 7 :: B126
def B128 : List BO := uuP 56 2 57 :: B127
def B129 : List BO := uuN 0 5220 :: B128
def B130 : List BO := uuP 56 3 58 :: B129
def B131 : List BO := uuN 0 10440 :: B130
def B132 : List BO := uuP 56 4 59 :: B131
def B133 : List BO := uuN 2 2 :: B132
def B134 : List BO := uuP 56 5 60 :: B133
def B135 : List BO := uuN 1 90 :: B134
def B136 : List BO := uuI 61 0 (Int8.toInt32 (Int32.toInt8 108)) :: B135
def B137 : List BO := uuI 61 1 (Int8.toInt32 (Int32.toInt8 101)) :: B136
def B138 : List BO := uuI 61 2 (Int8.toInt32 (Int32.toInt8 97)) :: B137
def B139 : List BO := uuI 61 3 (Int8.toInt32 (Int32.toInt8 114)) :: B138
def B140 : List BO := uuI 61 4 (Int8.toInt32 (Int32.toInt8 110)) :: B139
def B141 : List BO := uuI 61 5 (Int8.toInt32 (Int32.toInt8 116)) :: B140
def B142 : List BO := uuI 61 6 (Int8.toInt32 (Int32.toInt8 32)) :: B141
def B143 : List BO := uuI 61 7 (Int8.toInt32 (Int32.toInt8 116)) :: B142
def B144 : List BO := uuI 61 8 (Int8.toInt32 (Int32.toInt8 97)) :: B143
def B145 : List BO := uuI 61 9 (Int8.toInt32 (Int32.toInt8 107)) :: B144
def B146 : List BO := uuI 61 10 (Int8.toInt32 (Int32.toInt8 101)) :: B145
def B147 : List BO := uuI 61 11 (Int8.toInt32 (Int32.toInt8 115)) :: B146
def B148 : List BO := uuI 61 12 (Int8.toInt32 (Int32.toInt8 32)) :: B147
def B149 : List BO := uuI 61 13 (Int8.toInt32 (Int32.toInt8 119)) :: B148
def B150 : List BO := uuI 61 14 (Int8.toInt32 (Int32.toInt8 114)) :: B149
def B151 : List BO := uuI 61 15 (Int8.toInt32 (Int32.toInt8 111)) :: B150
def B152 : List BO := uuI 61 16 (Int8.toInt32 (Int32.toInt8 110)) :: B151
def B153 : List BO := uuI 61 17 (Int8.toInt32 (Int32.toInt8 103)) :: B152
def B154 : List BO := uuI 61 18 (Int8.toInt32 (Int32.toInt8 32)) :: B153
def B155 : List BO := uuI 61 19 (Int8.toInt32 (Int32.toInt8 114)) :: B154
def B156 : List BO := uuI 61 20 (Int8.toInt32 (Int32.toInt8 101)) :: B155
def B157 : List BO := uuI 61 21 (Int8.toInt32 (Int32.toInt8 102)) :: B156
def B158 : List BO := uuI 61 22 (Int8.toInt32 (Int32.toInt8 117)) :: B157
def B159 : List BO := uuI 61 23 (Int8.toInt32 (Int32.toInt8 115)) :: B158
def B160 : List BO := uuI 61 24 (Int8.toInt32 (Int32.toInt8 101)) :: B159
def B161 : List BO := uuI 61 25 (Int8.toInt32 (Int32.toInt8 115)) :: B160
def B162 : List BO := uuI 61 26 (Int8.toInt32 (Int32.toInt8 32)) :: B161
def B163 : List BO := uuI 61 27 (Int8.toInt32 (Int32.toInt8 105)) :: B162
def B164 : List BO := uuI 61 28 (Int8.toInt32 (Int32.toInt8 102)) :: B163
def B165 : List BO := uuI 61 29 (Int8.toInt32 (Int32.toInt8 32)) :: B164
def B166 : List BO := uuI 61 30 (Int8.toInt32 (Int32.toInt8 111)) :: B165
def B167 : List BO := uuI 61 31 (Int8.toInt32 (Int32.toInt8 114)) :: B166
def B168 : List BO := uuI 61 32 (Int8.toInt32 (Int32.toInt8 32)) :: B167
def B169 : List BO := uuI 61 33 (Int8.toInt32 (Int32.toInt8 97)) :: B168
def B170 : List BO := uuI 61 34 (Int8.toInt32 (Int32.toInt8 110)) :: B169
def B171 : List BO := uuI 61 35 (Int8.toInt32 (Int32.toInt8 100)) :: B170
def B172 : List BO := uuI 61 36 (Int8.toInt32 (Int32.toInt8 32)) :: B171
def B173 : List BO := uuI 61 37 (Int8.toInt32 (Int32.toInt8 110)) :: B172
def B174 : List BO := uuI 61 38 (Int8.toInt32 (Int32.toInt8 111)) :: B173
def B175 : List BO := uuI 61 39 (Int8.toInt32 (Int32.toInt8 116)) :: B174
def B176 : List BO := uuI 61 40 (Int8.toInt32 (Int32.toInt8 32)) :: B175
def B177 : List BO := uuI 61 41 (Int8.toInt32 (Int32.toInt8 107)) :: B176
def B178 : List BO := uuI 61 42 (Int8.toInt32 (Int32.toInt8 110)) :: B177
def B179 : List BO := uuI 61 43 (Int8.toInt32 (Int32.toInt8 111)) :: B178
def B180 : List BO := uuI 61 44 (Int8.toInt32 (Int32.toInt8 119)) :: B179
def B181 : List BO := uuI 61 45 (Int8.toInt32 (Int32.toInt8 115)) :: B180
def B182 : List BO := uuI 61 46 (Int8.toInt32 (Int32.toInt8 32)) :: B181
def B183 : List BO := uuI 61 47 (Int8.toInt32 (Int32.toInt8 104)) :: B182
def B184 : List BO := uuI 61 48 (Int8.toInt32 (Int32.toInt8 97)) :: B183
def B185 : List BO := uuI 61 49 (Int8.toInt32 (Int32.toInt8 115)) :: B184
def B186 : List BO := uuI 61 50 (Int8.toInt32 (Int32.toInt8 32)) :: B185
def B187 : List BO := uuI 61 51 (Int8.toInt32 (Int32.toInt8 116)) :: B186
def B188 : List BO := uuI 61 52 (Int8.toInt32 (Int32.toInt8 101)) :: B187
def B189 : List BO := uuI 61 53 (Int8.toInt32 (Int32.toInt8 108)) :: B188
def B190 : List BO := uuI 61 54 (Int8.toInt32 (Int32.toInt8 108)) :: B189
def B191 : List BO := uuI 61 55 (Int8.toInt32 (Int32.toInt8 32)) :: B190
def B192 : List BO := uuI 61 56 (Int8.toInt32 (Int32.toInt8 108)) :: B191
def B193 : List BO := uuI 61 57 (Int8.toInt32 (Int32.toInt8 101)) :: B192
def B194 : List BO := uuI 61 58 (Int8.toInt32 (Int32.toInt8 97)) :: B193
def B195 : List BO := uuI 61 59 (Int8.toInt32 (Int32.toInt8 114)) :: B194
def B196 : List BO := uuI 61 60 (Int8.toInt32 (Int32.toInt8 110)) :: B195
def B197 : List BO := uuI 61 61 (Int8.toInt32 (Int32.toInt8 32)) :: B196
def B198 : List BO := uuI 61 62 (Int8.toInt32 (Int32.toInt8 97)) :: B197
def B199 : List BO := uuI 61 63 (Int8.toInt32 (Int32.toInt8 114)) :: B198
def B200 : List BO := uuI 61 64 (Int8.toInt32 (Int32.toInt8 116)) :: B199
def B201 : List BO := uuI 61 65 (Int8.toInt32 (Int32.toInt8 32)) :: B200
def B202 : List BO := uuI 61 66 (Int8.toInt32 (Int32.toInt8 100)) :: B201
def B203 : List BO := uuI 61 67 (Int8.toInt32 (Int32.toInt8 97)) :: B202
def B204 : List BO := uuI 61 68 (Int8.toInt32 (Int32.toInt8 121)) :: B203
def B205 : List BO := uuI 61 69 (Int8.toInt32 (Int32.toInt8 32)) :: B204
def B206 : List BO := uuI 61 70 (Int8.toInt32 (Int32.toInt8 116)) :: B205
def B207 : List BO := uuI 61 71 (Int8.toInt32 (Int32.toInt8 101)) :: B206
def B208 : List BO := uuI 61 72 (Int8.toInt32 (Int32.toInt8 108)) :: B207
def B209 : List BO := uuI 61 73 (Int8.toInt32 (Int32.toInt8 108)) :: B208
def B210 : List BO := uuI 61 74 (Int8.toInt32 (Int32.toInt8 101)) :: B209
def B211 : List BO := uuI 61 75 (Int8.toInt32 (Int32.toInt8 114)) :: B210
def B212 : List BO := uuI 61 76 (Int8.toInt32 (Int32.toInt8 32)) :: B211
def B213 : List BO := uuI 61 77 (Int8.toInt32 (Int32.toInt8 108)) :: B212
def B214 : List BO := uuI 61 78 (Int8.toInt32 (Int32.toInt8 101)) :: B213
def B215 : List BO := uuI 61 79 (Int8.toInt32 (Int32.toInt8 97)) :: B214
def B216 : List BO := uuI 61 80 (Int8.toInt32 (Int32.toInt8 114)) :: B215
def B217 : List BO := uuI 61 81 (Int8.toInt32 (Int32.toInt8 110)) :: B216
def B218 : List BO := uuI 61 82 (Int8.toInt32 (Int32.toInt8 101)) :: B217
def B219 : List BO := uuI 61 83 (Int8.toInt32 (Int32.toInt8 114)) :: B218
def B220 : List BO := uuI 61 84 (Int8.toInt32 (Int32.toInt8 32)) :: B219
def B221 : List BO := uuI 61 85 (Int8.toInt32 (Int32.toInt8 111)) :: B220
def B222 : List BO := uuI 61 86 (Int8.toInt32 (Int32.toInt8 110)) :: B221
def B223 : List BO := uuI 61 87 (Int8.toInt32 (Int32.toInt8 99)) :: B222
def B224 : List BO := uuI 61 88 (Int8.toInt32 (Int32.toInt8 101)) :: B223
def B225 : List BO := uuI 61 89 (Int8.toInt32 (Int32.toInt8 32)) :: B224
def B226 : List BO := uuP 56 7 61 :: B225
def B227 : List BO := uuN 1 400 :: B226
def B228 : List BO := uuP 56 8 62 :: B227
def B229 : List BO := uuN 0 5 :: B228
def B230 : List BO := uuP 56 9 63 :: B229
def B231 : List BO := uuI 56 11 (-1) :: B230
def B232 : List BO := uuN 0 401 :: B231
def B233 : List BO := uuP 56 12 64 :: B232
def B234 : List BO := uuN 0 401 :: B233
def B235 : List BO := uuP 56 13 65 :: B234
def B236 : List BO := uuN 0 401 :: B235
def B237 : List BO := uuP 56 14 66 :: B236
def B238 : List BO := uuN 0 9 :: B237
def B239 : List BO := uuP 56 22 67 :: B238
def B240 : List BO := uuN 0 40 :: B239
def B241 : List BO := uuP 56 23 68 :: B240
def B242 : List BO := uuN 0 40 :: B241
def B243 : List BO := uuP 56 24 69 :: B242
def B244 : List BO := uuN 2 40 :: B243
def B245 : List BO := uuP 56 25 70 :: B244
def B246 : List BO := uuN 2 40 :: B245
def B247 : List BO := uuP 56 26 71 :: B246
def B248 : List BO := uuN 0 8 :: B247
def B249 : List BO := uuP 56 27 72 :: B248
def B250 : List BO := uuN 0 60 :: B249
def B251 : List BO := uuP 56 32 73 :: B250
def B252 : List BO := uuN 0 7936 :: B251
def B253 : List BO := uuP 56 33 74 :: B252
def B254 : List BO := uuN 2 7936 :: B253
def B255 : List BO := uuP 56 34 75 :: B254
def B256 : List BO := uuI 56 35 (-1) :: B255
def B257 : List BO := uuI 56 36 (-1) :: B256
def B258 : List BO := uuI 56 37 (-1) :: B257
def B259 : List BO := uuN 0 256 :: B258
def B260 : List BO := uuP 56 39 76 :: B259
def B261 : List BO := uuN 0 10 :: B260
def B262 : List BO := uuP 56 40 77 :: B261
def B263 : List BO := uuN 0 56 :: B262
def B264 : List BO := uuP 56 41 78 :: B263
def B265 : List BO := uuI 56 42 (-1) :: B264
def B266 : List BO := uuI 58 413 (-1) :: B265
theorem z74 {L : Nat} {xs : Nat → Int32} (d : Nat) : qcl (d + 1) 74 [qR (some 12)] (bld L xs B3) = some (none, bld L xs B13) := by
  rw [E74, x_ck (B := B3) 2 12 (by decide +kernel),
    ob_some,
    x_pi (B := B3) (B' := B4) (c := 2) (k := 0) (a := 12) (v := 0) rfl (by decide +kernel),
    ob_some,
    x_pi (B := B4) (B' := B5) (c := 2) (k := 1) (a := 12) (v := 0) rfl (by decide +kernel),
    ob_some,
    x_n (B := B5) (m := 13) (by decide +kernel),
    x_na (B := B5) (B' := B6) (t := 0) (n := 32) rfl (by decide +kernel),
    ob_some,
    x_pr (B := B6) (B' := B7) (c := 2) (k := 2) (a := 12) (b := 13) rfl (by decide +kernel),
    ob_some,
    x_n (B := B7) (m := 14) (by decide +kernel),
    x_na (B := B7) (B' := B8) (t := 0) (n := 8) rfl (by decide +kernel),
    ob_some,
    x_pr (B := B8) (B' := B9) (c := 2) (k := 3) (a := 12) (b := 14) rfl (by decide +kernel),
    ob_some,
    x_n (B := B9) (m := 15) (by decide +kernel),
    x_na (B := B9) (B' := B10) (t := 0) (n := 8) rfl (by decide +kernel),
    ob_some,
    x_pr (B := B10) (B' := B11) (c := 2) (k := 4) (a := 12) (b := 15) rfl (by decide +kernel),
    ob_some,
    x_n (B := B11) (m := 16) (by decide +kernel),
    x_na (B := B11) (B' := B12) (t := 0) (n := 40) rfl (by decide +kernel),
    ob_some,
    x_pr (B := B12) (B' := B13) (c := 2) (k := 5) (a := 12) (b := 16) rfl (by decide +kernel),
    ob_some]
theorem z65 {L : Nat} {xs : Nat → Int32} (d : Nat) : qcl (d + 1) 65 [qR (some 17)] (bld L xs B15) = some (none, bld L xs B18) := by
  rw [E65, x_ck (B := B15) 0 17 (by decide +kernel),
    ob_some,
    x_pi (B := B15) (B' := B16) (c := 0) (k := 0) (a := 17) (v := 0) rfl (by decide +kernel),
    ob_some,
    x_n (B := B16) (m := 18) (by decide +kernel),
    x_na (B := B16) (B' := B17) (t := 0) (n := 20) rfl (by decide +kernel),
    ob_some,
    x_pr (B := B17) (B' := B18) (c := 0) (k := 1) (a := 17) (b := 18) rfl (by decide +kernel),
    ob_some]
theorem z125 {L : Nat} {xs : Nat → Int32} (d : Nat) : qcl (d + 1) 125 [qR (some 19)] (bld L xs B20) = some (none, bld L xs B31) := by
  rw [E125, x_ck (B := B20) 5 19 (by decide +kernel),
    ob_some,
    x_pi (B := B20) (B' := B21) (c := 5) (k := 0) (a := 19) (v := 0) rfl (by decide +kernel),
    ob_some,
    x_n (B := B21) (m := 20) (by decide +kernel),
    x_na (B := B21) (B' := B22) (t := 0) (n := 60) rfl (by decide +kernel),
    ob_some,
    x_pr (B := B22) (B' := B23) (c := 5) (k := 1) (a := 19) (b := 20) rfl (by decide +kernel),
    ob_some,
    x_n (B := B23) (m := 21) (by decide +kernel),
    x_na (B := B23) (B' := B24) (t := 0) (n := 60) rfl (by decide +kernel),
    ob_some,
    x_pr (B := B24) (B' := B25) (c := 5) (k := 2) (a := 19) (b := 21) rfl (by decide +kernel),
    ob_some,
    x_n (B := B25) (m := 22) (by decide +kernel),
    x_na (B := B25) (B' := B26) (t := 0) (n := 60) rfl (by decide +kernel),
    ob_some,
    x_pr (B := B26) (B' := B27) (c := 5) (k := 3) (a := 19) (b := 22) rfl (by decide +kernel),
    ob_some,
    x_n (B := B27) (m := 23) (by decide +kernel),
    x_na (B := B27) (B' := B28) (t := 0) (n := 60) rfl (by decide +kernel),
    ob_some,
    x_pr (B := B28) (B' := B29) (c := 5) (k := 4) (a := 19) (b := 23) rfl (by decide +kernel),
    ob_some,
    x_n (B := B29) (m := 24) (by decide +kernel),
    x_na (B := B29) (B' := B30) (t := 0) (n := 60) rfl (by decide +kernel),
    ob_some,
    x_pr (B := B30) (B' := B31) (c := 5) (k := 5) (a := 19) (b := 24) rfl (by decide +kernel),
    ob_some]
theorem z159 {L : Nat} {xs : Nat → Int32} (d : Nat) : qcl (d + 2) 159 [qR (some 11)] (bld L xs B2) = some (none, bld L xs B36) := by
  rw [E159, x_ck (B := B2) 10 11 (by decide +kernel),
    ob_some,
    x_n (B := B2) (m := 12) (by decide +kernel),
    x_no (B := B2) (B' := B3) (c := 2) (n := 6) rfl,
    z74 (L := L) (xs := xs) d,
    jV,
    x_pr (B := B13) (B' := B14) (c := 10) (k := 0) (a := 11) (b := 12) rfl (by decide +kernel),
    ob_some,
    x_n (B := B14) (m := 17) (by decide +kernel),
    x_no (B := B14) (B' := B15) (c := 0) (n := 2) rfl,
    z65 (L := L) (xs := xs) d,
    jV,
    x_pr (B := B18) (B' := B19) (c := 10) (k := 1) (a := 11) (b := 17) rfl (by decide +kernel),
    ob_some,
    x_n (B := B19) (m := 19) (by decide +kernel),
    x_no (B := B19) (B' := B20) (c := 5) (n := 6) rfl,
    z125 (L := L) (xs := xs) d,
    jV,
    x_pr (B := B31) (B' := B32) (c := 10) (k := 2) (a := 11) (b := 19) rfl (by decide +kernel),
    ob_some,
    x_n (B := B32) (m := 25) (by decide +kernel),
    x_na (B := B32) (B' := B33) (t := 5) (n := 6) rfl (by decide +kernel),
    ob_some,
    x_pr (B := B33) (B' := B34) (c := 10) (k := 3) (a := 11) (b := 25) rfl (by decide +kernel),
    ob_some,
    x_pi (B := B34) (B' := B35) (c := 10) (k := 4) (a := 11) (v := 0) rfl (by decide +kernel),
    ob_some,
    x_pi (B := B35) (B' := B36) (c := 10) (k := 5) (a := 11) (v := -1) rfl (by decide +kernel),
    ob_some]
theorem z145 {L : Nat} {xs : Nat → Int32} (d : Nat) : qcl (d + 1) 145 [qR (some 27)] (bld L xs B40) = some (none, bld L xs B43) := by
  rw [E145, x_ck (B := B40) 7 27 (by decide +kernel),
    ob_some,
    x_pi (B := B40) (B' := B41) (c := 7) (k := 0) (a := 27) (v := 0) rfl (by decide +kernel),
    ob_some,
    x_n (B := B41) (m := 28) (by decide +kernel),
    x_na (B := B41) (B' := B42) (t := 0) (n := 400) rfl (by decide +kernel),
    ob_some,
    x_pr (B := B42) (B' := B43) (c := 7) (k := 1) (a := 27) (b := 28) rfl (by decide +kernel),
    ob_some]
theorem z3_0 {L : Nat} {xs : Nat → Int32} (d : Nat) : qcl (d + 1) 3 [qR (some 5)] (bld L xs B56) = some (some (qI 1), bld L xs B56) := by
  rw [E3, x_ck (B := B56) 13 5 (by decide +kernel), ob_some, if_neg (by decide), x_gi (B := B56) (c := 13) (k := 1) (a := 5) (x := 0) (by decide +kernel), ob_some, if_pos rfl, if_pos (by decide)]
theorem z6_0 {L : Nat} {xs : Nat → Int32} (d : Nat) : qcl (d + 2) 6 [qR (some 7)] (bld L xs B56) = some (some (qR (some 31)), bld L xs B58) := by
  have e1 : qal 7 (bld L xs B56) = some (nZ 90) := x_al (B := B56) (n := 90) (t := 1) (by decide +kernel) (by decide)
  have e2 : qal 7 (bld L xs B57) = some (nZ 90) := x_al (B := B57) (n := 90) (t := 1) (by decide +kernel) (by decide)
  rw [E6, ob_some, e1, ob_some, x_n (B := B56) (m := 31) (by decide +kernel), x_na (B := B56) (B' := B57) (t := 3) (n := 90) rfl (by decide +kernel), ob_some, ob_some, e2, ob_some, E5]
  have e3 := x_cpy (L := L) (xs := xs) (p := 7) (t := 31) (n := 90) d (by decide) (by decide) 90 0 B57 rfl (by decide +kernel) (by decide +kernel) (by decide +kernel) (by decide +kernel) (by decide)
  rw [show (0 : Int32) = nZ 0 from rfl, e3]
  rfl
theorem z4_0 {L : Nat} {xs : Nat → Int32} (d : Nat) : qcl (d + 3) 4 [qR (some 5)] (bld L xs B56) = some (some (qR (some 31)), bld L xs B58) := by
  rw [E4, x_ck (B := B56) 13 5 (by decide +kernel), ob_some, z3_0 (L := L) (xs := xs) (d + 1), jI, if_neg (by decide), x_gr (B := B56) (c := 13) (k := 0) (a := 5) (x := some 7) (by decide +kernel), ob_some, z6_0 (L := L) (xs := xs) d, jR]
theorem z3_1 {L : Nat} {xs : Nat → Int32} (d : Nat) : qcl (d + 1) 3 [qR (some 6)] (bld L xs B59) = some (some (qI 1), bld L xs B59) := by
  rw [E3, x_ck (B := B59) 13 6 (by decide +kernel), ob_some, if_neg (by decide), x_gi (B := B59) (c := 13) (k := 1) (a := 6) (x := 0) (by decide +kernel), ob_some, if_pos rfl, if_pos (by decide)]
theorem z6_1 {L : Nat} {xs : Nat → Int32} (d : Nat) : qcl (d + 2) 6 [qR (some 8)] (bld L xs B59) = some (some (qR (some 32)), bld L xs B61) := by
  have e1 : qal 8 (bld L xs B59) = some (nZ 12) := x_al (B := B59) (n := 12) (t := 1) (by decide +kernel) (by decide)
  have e2 : qal 8 (bld L xs B60) = some (nZ 12) := x_al (B := B60) (n := 12) (t := 1) (by decide +kernel) (by decide)
  rw [E6, ob_some, e1, ob_some, x_n (B := B59) (m := 32) (by decide +kernel), x_na (B := B59) (B' := B60) (t := 3) (n := 12) rfl (by decide +kernel), ob_some, ob_some, e2, ob_some, E5]
  have e3 := x_cpy (L := L) (xs := xs) (p := 8) (t := 32) (n := 12) d (by decide) (by decide) 12 0 B60 rfl (by decide +kernel) (by decide +kernel) (by decide +kernel) (by decide +kernel) (by decide)
  rw [show (0 : Int32) = nZ 0 from rfl, e3]
  rfl
theorem z4_1 {L : Nat} {xs : Nat → Int32} (d : Nat) : qcl (d + 3) 4 [qR (some 6)] (bld L xs B59) = some (some (qR (some 32)), bld L xs B61) := by
  rw [E4, x_ck (B := B59) 13 6 (by decide +kernel), ob_some, z3_1 (L := L) (xs := xs) (d + 1), jI, if_neg (by decide), x_gr (B := B59) (c := 13) (k := 0) (a := 6) (x := some 8) (by decide +kernel), ob_some, z6_1 (L := L) (xs := xs) d, jR]
theorem z105 {L : Nat} {xs : Nat → Int32} (d : Nat) : qcl (d + 4) 105 [qR (some 29)] (bld L xs B45) = some (none, bld L xs B68) := by
  rw [E105, x_ck (B := B45) 4 29 (by decide +kernel),
    ob_some,
    x_pi (B := B45) (B' := B46) (c := 4) (k := 0) (a := 29) (v := 0) rfl (by decide +kernel),
    ob_some,
    x_n (B := B46) (m := 30) (by decide +kernel),
    x_na (B := B46) (B' := B47) (t := 0) (n := 0) rfl (by decide +kernel),
    ob_some,
    x_pr (B := B47) (B' := B48) (c := 4) (k := 1) (a := 29) (b := 30) rfl (by decide +kernel),
    ob_some,
    x_pi (B := B48) (B' := B49) (c := 4) (k := 2) (a := 29) (v := 0) rfl (by decide +kernel),
    ob_some,
    x_pi (B := B49) (B' := B50) (c := 4) (k := 3) (a := 29) (v := 0) rfl (by decide +kernel),
    ob_some,
    x_pi (B := B50) (B' := B51) (c := 4) (k := 4) (a := 29) (v := 31) rfl (by decide +kernel),
    ob_some,
    x_pi (B := B51) (B' := B52) (c := 4) (k := 5) (a := 29) (v := 0) rfl (by decide +kernel),
    ob_some,
    x_pi (B := B52) (B' := B53) (c := 4) (k := 6) (a := 29) (v := 0) rfl (by decide +kernel),
    ob_some,
    x_pi (B := B53) (B' := B54) (c := 4) (k := 7) (a := 29) (v := 0) rfl (by decide +kernel),
    ob_some,
    x_pi (B := B54) (B' := B55) (c := 4) (k := 8) (a := 29) (v := 0) rfl (by decide +kernel),
    ob_some,
    x_pi (B := B55) (B' := B56) (c := 4) (k := 9) (a := 29) (v := 0) rfl (by decide +kernel),
    ob_some,
    z4_0 (L := L) (xs := xs) d,
    jR,
    x_pr (B := B58) (B' := B59) (c := 4) (k := 10) (a := 29) (b := 31) rfl (by decide +kernel),
    ob_some,
    z4_1 (L := L) (xs := xs) d,
    jR,
    x_pr (B := B61) (B' := B62) (c := 4) (k := 11) (a := 29) (b := 32) rfl (by decide +kernel),
    ob_some,
    x_n (B := B62) (m := 33) (by decide +kernel),
    x_na (B := B62) (B' := B63) (t := 0) (n := 12) rfl (by decide +kernel),
    ob_some,
    x_pr (B := B63) (B' := B64) (c := 4) (k := 12) (a := 29) (b := 33) rfl (by decide +kernel),
    ob_some,
    x_n (B := B64) (m := 34) (by decide +kernel),
    x_na (B := B64) (B' := B65) (t := 0) (n := 12) rfl (by decide +kernel),
    ob_some,
    x_pr (B := B65) (B' := B66) (c := 4) (k := 13) (a := 29) (b := 34) rfl (by decide +kernel),
    ob_some,
    x_n (B := B66) (m := 35) (by decide +kernel),
    x_na (B := B66) (B' := B67) (t := 0) (n := 412) rfl (by decide +kernel),
    ob_some,
    x_pr (B := B67) (B' := B68) (c := 4) (k := 14) (a := 29) (b := 35) rfl (by decide +kernel),
    ob_some]
theorem z147 {L : Nat} {xs : Nat → Int32} (d : Nat) : qcl (d + 1) 147 [qR (some 36)] (bld L xs B70) = some (none, bld L xs B76) := by
  rw [E147, x_ck (B := B70) 8 36 (by decide +kernel),
    ob_some,
    x_n (B := B70) (m := 37) (by decide +kernel),
    x_na (B := B70) (B' := B71) (t := 0) (n := 9) rfl (by decide +kernel),
    ob_some,
    x_pr (B := B71) (B' := B72) (c := 8) (k := 0) (a := 36) (b := 37) rfl (by decide +kernel),
    ob_some,
    x_n (B := B72) (m := 38) (by decide +kernel),
    x_na (B := B72) (B' := B73) (t := 0) (n := 52) rfl (by decide +kernel),
    ob_some,
    x_pr (B := B73) (B' := B74) (c := 8) (k := 1) (a := 36) (b := 38) rfl (by decide +kernel),
    ob_some,
    x_n (B := B74) (m := 39) (by decide +kernel),
    x_na (B := B74) (B' := B75) (t := 0) (n := 4) rfl (by decide +kernel),
    ob_some,
    x_pr (B := B75) (B' := B76) (c := 8) (k := 2) (a := 36) (b := 39) rfl (by decide +kernel),
    ob_some]
theorem z89 {L : Nat} {xs : Nat → Int32} (d : Nat) : qcl (d + 1) 89 [qR (some 40)] (bld L xs B78) = some (none, bld L xs B87) := by
  rw [E89, x_ck (B := B78) 3 40 (by decide +kernel),
    ob_some,
    x_n (B := B78) (m := 41) (by decide +kernel),
    x_na (B := B78) (B' := B79) (t := 0) (n := 1240) rfl (by decide +kernel),
    ob_some,
    x_pr (B := B79) (B' := B80) (c := 3) (k := 0) (a := 40) (b := 41) rfl (by decide +kernel),
    ob_some,
    x_n (B := B80) (m := 42) (by decide +kernel),
    x_na (B := B80) (B' := B81) (t := 0) (n := 1240) rfl (by decide +kernel),
    ob_some,
    x_pr (B := B81) (B' := B82) (c := 3) (k := 1) (a := 40) (b := 42) rfl (by decide +kernel),
    ob_some,
    x_n (B := B82) (m := 43) (by decide +kernel),
    x_na (B := B82) (B' := B83) (t := 0) (n := 240) rfl (by decide +kernel),
    ob_some,
    x_pr (B := B83) (B' := B84) (c := 3) (k := 2) (a := 40) (b := 43) rfl (by decide +kernel),
    ob_some,
    x_n (B := B84) (m := 44) (by decide +kernel),
    x_na (B := B84) (B' := B85) (t := 0) (n := 60) rfl (by decide +kernel),
    ob_some,
    x_pr (B := B85) (B' := B86) (c := 3) (k := 3) (a := 40) (b := 44) rfl (by decide +kernel),
    ob_some,
    x_pi (B := B86) (B' := B87) (c := 3) (k := 4) (a := 40) (v := -1) rfl (by decide +kernel),
    ob_some]
theorem z129 {L : Nat} {xs : Nat → Int32} (d : Nat) : qcl (d + 1) 129 [qR (some 45)] (bld L xs B89) = some (none, bld L xs B108) := by
  rw [E129, x_ck (B := B89) 6 45 (by decide +kernel),
    ob_some,
    x_pi (B := B89) (B' := B90) (c := 6) (k := 0) (a := 45) (v := -1) rfl (by decide +kernel),
    ob_some,
    x_n (B := B90) (m := 46) (by decide +kernel),
    x_na (B := B90) (B' := B91) (t := 0) (n := 31) rfl (by decide +kernel),
    ob_some,
    x_pr (B := B91) (B' := B92) (c := 6) (k := 1) (a := 45) (b := 46) rfl (by decide +kernel),
    ob_some,
    x_pi (B := B92) (B' := B93) (c := 6) (k := 2) (a := 45) (v := -1) rfl (by decide +kernel),
    ob_some,
    x_pi (B := B93) (B' := B94) (c := 6) (k := 3) (a := 45) (v := -1) rfl (by decide +kernel),
    ob_some,
    x_pi (B := B94) (B' := B95) (c := 6) (k := 4) (a := 45) (v := 0) rfl (by decide +kernel),
    ob_some,
    x_pi (B := B95) (B' := B96) (c := 6) (k := 5) (a := 45) (v := 0) rfl (by decide +kernel),
    ob_some,
    x_pi (B := B96) (B' := B97) (c := 6) (k := 6) (a := 45) (v := 0) rfl (by decide +kernel),
    ob_some,
    x_pi (B := B97) (B' := B98) (c := 6) (k := 7) (a := 45) (v := 0) rfl (by decide +kernel),
    ob_some,
    x_n (B := B98) (m := 47) (by decide +kernel),
    x_na (B := B98) (B' := B99) (t := 0) (n := 8) rfl (by decide +kernel),
    ob_some,
    x_pr (B := B99) (B' := B100) (c := 6) (k := 8) (a := 45) (b := 47) rfl (by decide +kernel),
    ob_some,
    x_n (B := B100) (m := 48) (by decide +kernel),
    x_na (B := B100) (B' := B101) (t := 0) (n := 30) rfl (by decide +kernel),
    ob_some,
    x_pr (B := B101) (B' := B102) (c := 6) (k := 9) (a := 45) (b := 48) rfl (by decide +kernel),
    ob_some,
    x_n (B := B102) (m := 49) (by decide +kernel),
    x_na (B := B102) (B' := B103) (t := 2) (n := 256) rfl (by decide +kernel),
    ob_some,
    x_pr (B := B103) (B' := B104) (c := 6) (k := 10) (a := 45) (b := 49) rfl (by decide +kernel),
    ob_some,
    x_n (B := B104) (m := 50) (by decide +kernel),
    x_na (B := B104) (B' := B105) (t := 0) (n := 256) rfl (by decide +kernel),
    ob_some,
    x_pr (B := B105) (B' := B106) (c := 6) (k := 11) (a := 45) (b := 50) rfl (by decide +kernel),
    ob_some,
    x_n (B := B106) (m := 51) (by decide +kernel),
    x_na (B := B106) (B' := B107) (t := 0) (n := 256) rfl (by decide +kernel),
    ob_some,
    x_pr (B := B107) (B' := B108) (c := 6) (k := 12) (a := 45) (b := 51) rfl (by decide +kernel),
    ob_some]
theorem z153 {L : Nat} {xs : Nat → Int32} (d : Nat) : qcl (d + 1) 153 [qR (some 52)] (bld L xs B110) = some (none, bld L xs B116) := by
  rw [E153, x_ck (B := B110) 9 52 (by decide +kernel),
    ob_some,
    x_pz (B := B110) (B' := B111) (c := 9) (k := 0) (a := 52) rfl (by decide +kernel),
    ob_some,
    x_pi (B := B111) (B' := B112) (c := 9) (k := 1) (a := 52) (v := 0) rfl (by decide +kernel),
    ob_some,
    x_pi (B := B112) (B' := B113) (c := 9) (k := 2) (a := 52) (v := 0) rfl (by decide +kernel),
    ob_some,
    x_n (B := B113) (m := 53) (by decide +kernel),
    x_na (B := B113) (B' := B114) (t := 0) (n := 64) rfl (by decide +kernel),
    ob_some,
    x_pr (B := B114) (B' := B115) (c := 9) (k := 3) (a := 52) (b := 53) rfl (by decide +kernel),
    ob_some,
    x_pi (B := B115) (B' := B116) (c := 9) (k := 4) (a := 52) (v := 0) rfl (by decide +kernel),
    ob_some]
theorem z9 {L : Nat} {xs : Nat → Int32} (d : Nat) : qcl (d + 5) 9 [qR (some 10)] (bld L xs B1) = some (none, bld L xs B125) := by
  rw [E9, x_ck (B := B1) 11 10 (by decide +kernel),
    ob_some,
    x_n (B := B1) (m := 11) (by decide +kernel),
    x_no (B := B1) (B' := B2) (c := 10) (n := 6) rfl,
    z159 (L := L) (xs := xs) (d + 2),
    jV,
    x_pr (B := B36) (B' := B37) (c := 11) (k := 0) (a := 10) (b := 11) rfl (by decide +kernel),
    ob_some,
    x_n (B := B37) (m := 26) (by decide +kernel),
    x_na (B := B37) (B' := B38) (t := 4) (n := 2) rfl (by decide +kernel),
    ob_some,
    x_pr (B := B38) (B' := B39) (c := 11) (k := 1) (a := 10) (b := 26) rfl (by decide +kernel),
    ob_some,
    x_n (B := B39) (m := 27) (by decide +kernel),
    x_no (B := B39) (B' := B40) (c := 7) (n := 2) rfl,
    z145 (L := L) (xs := xs) (d + 3),
    jV,
    x_pr (B := B43) (B' := B44) (c := 11) (k := 2) (a := 10) (b := 27) rfl (by decide +kernel),
    ob_some,
    x_n (B := B44) (m := 29) (by decide +kernel),
    x_no (B := B44) (B' := B45) (c := 4) (n := 15) rfl,
    z105 (L := L) (xs := xs) d,
    jV,
    x_pr (B := B68) (B' := B69) (c := 11) (k := 3) (a := 10) (b := 29) rfl (by decide +kernel),
    ob_some,
    x_n (B := B69) (m := 36) (by decide +kernel),
    x_no (B := B69) (B' := B70) (c := 8) (n := 3) rfl,
    z147 (L := L) (xs := xs) (d + 3),
    jV,
    x_pr (B := B76) (B' := B77) (c := 11) (k := 4) (a := 10) (b := 36) rfl (by decide +kernel),
    ob_some,
    x_n (B := B77) (m := 40) (by decide +kernel),
    x_no (B := B77) (B' := B78) (c := 3) (n := 5) rfl,
    z89 (L := L) (xs := xs) (d + 3),
    jV,
    x_pr (B := B87) (B' := B88) (c := 11) (k := 5) (a := 10) (b := 40) rfl (by decide +kernel),
    ob_some,
    x_n (B := B88) (m := 45) (by decide +kernel),
    x_no (B := B88) (B' := B89) (c := 6) (n := 13) rfl,
    z129 (L := L) (xs := xs) (d + 3),
    jV,
    x_pr (B := B108) (B' := B109) (c := 11) (k := 6) (a := 10) (b := 45) rfl (by decide +kernel),
    ob_some,
    x_n (B := B109) (m := 52) (by decide +kernel),
    x_no (B := B109) (B' := B110) (c := 9) (n := 5) rfl,
    z153 (L := L) (xs := xs) (d + 3),
    jV,
    x_pr (B := B116) (B' := B117) (c := 11) (k := 7) (a := 10) (b := 52) rfl (by decide +kernel),
    ob_some,
    x_n (B := B117) (m := 54) (by decide +kernel),
    x_na (B := B117) (B' := B118) (t := 0) (n := 5) rfl (by decide +kernel),
    ob_some,
    x_pr (B := B118) (B' := B119) (c := 11) (k := 8) (a := 10) (b := 54) rfl (by decide +kernel),
    ob_some,
    x_n (B := B119) (m := 55) (by decide +kernel),
    x_na (B := B119) (B' := B120) (t := 0) (n := 10) rfl (by decide +kernel),
    ob_some,
    x_pr (B := B120) (B' := B121) (c := 11) (k := 9) (a := 10) (b := 55) rfl (by decide +kernel),
    ob_some,
    x_pi (B := B121) (B' := B122) (c := 11) (k := 10) (a := 10) (v := 0) rfl (by decide +kernel),
    ob_some,
    x_pi (B := B122) (B' := B123) (c := 11) (k := 11) (a := 10) (v := 0) rfl (by decide +kernel),
    ob_some,
    x_pi (B := B123) (B' := B124) (c := 11) (k := 12) (a := 10) (v := 0) rfl (by decide +kernel),
    ob_some,
    x_pi (B := B124) (B' := B125) (c := 11) (k := 13) (a := 10) (v := -1) rfl (by decide +kernel),
    ob_some]
