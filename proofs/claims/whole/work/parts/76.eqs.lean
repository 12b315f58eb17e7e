set_option maxRecDepth 1000000 in
set_option maxHeartbeats 1000000 in
theorem E220 (d : Nat) (t : Nat) (a1 : Int32) (a2 : Int32) (a3 : Int32) (h : QH) : qcl (d + 1) 220 [qR (some t), qI a1, qI a2, qI a3] h =
 (qck 12 t h).bind fun _ =>
 qbig (d + 1) 220 3 [sR (some t), sI a1, sI a2, sI a3, sI 0] [] h := by
  exact qE0 56 [3] (by rfl)
set_option maxRecDepth 1000000 in
set_option maxHeartbeats 1000000 in
theorem E220_3 (d : Nat) (t : Nat) (a1 : Int32) (a2 : Int32) (a3 : Int32) (a4 : Int32) (h : QH) : qbig (d + 1) 220 3 [sR (some t), sI a1, sI a2, sI a3, sI a4] [] h =
 if a4 < 256 then
  (if (a4 &&& a2) = a2 then
   ((qgi 12 38 t h).bind fun x1 =>
    if (a4 &&& (x1 ^^^ (-1))) = 0 then
    (cI (qcl d 221 [qR (some t), qI a1, qI a2] h) fun x3 h2 =>
     (qgr 12 34 t h2).bind fun o4 =>
     o4.bind fun p5 => (qai 2 p5 ((256 * a1) + (a4 &&& (a2 ^^^ (-1)))) h2).bind fun x6 =>
     if x6 = 0 then
     (qbig (d + 1) 220 3 [sR (some t), sI a1, sI a2, sI a3, sI (a4 + 1)] [] h2)
    else
     (cI (qcl d 256 [qR (some t), qI (a1 + 1), qI a4] h2) fun x8 h7 =>
      if a3 < x8 then
      (qbig (d + 1) 220 3 [sR (some t), sI a1, sI a2, sI a3, sI (a4 + 1)] [] h7)
     else
      (some (some (qI a4), h7))))
   else
    (qbig (d + 1) 220 3 [sR (some t), sI a1, sI a2, sI a3, sI (a4 + 1)] [] h))
  else
   (qbig (d + 1) 220 3 [sR (some t), sI a1, sI a2, sI a3, sI (a4 + 1)] [] h))
 else
  ((qgi 12 38 t h).bind fun x9 =>
   some (some (qI x9), h)) := by
  exact qE 56 [3] (by rfl)
set_option maxRecDepth 1000000 in
set_option maxHeartbeats 1000000 in
theorem E221 (d : Nat) (t : Nat) (a1 : Int32) (a2 : Int32) (h : QH) : qcl (d + 1) 221 [qR (some t), qI a1, qI a2] h =
 (qck 12 t h).bind fun _ =>
 qbig (d + 1) 221 9 [sR (some t), sI a1, sI a2, sI (256 * a1), sI 0, none, none, none, none] [] h := by
  exact qE0 135 [9, 48, 114, 212] (by rfl)
set_option maxRecDepth 1000000 in
set_option maxHeartbeats 1000000 in
theorem E221_9 (d : Nat) (t : Nat) (a1 : Int32) (a2 : Int32) (a3 : Int32) (a4 : Int32) (h : QH) : qbig (d + 1) 221 9 [sR (some t), sI a1, sI a2, sI a3, sI a4, none, none, none, none] [] h =
 if a4 < 256 then
  ((qgr 12 34 t h).bind fun o1 =>
   if a4 = 0 then
   (o1.bind fun p2 => (qsi 2 p2 (a3 + a4) (1 &&& 1) h).bind fun h3 =>
    qbig (d + 1) 221 9 [sR (some t), sI a1, sI a2, sI a3, sI (a4 + 1), none, none, none, none] [] h3)
  else
   (o1.bind fun p4 => (qsi 2 p4 (a3 + a4) (0 &&& 1) h).bind fun h5 =>
    qbig (d + 1) 221 9 [sR (some t), sI a1, sI a2, sI a3, sI (a4 + 1), none, none, none, none] [] h5))
 else
  (qbig (d + 1) 221 48 [sR (some t), sI a1, sI a2, sI a3, sI 0, sI 0, none, none, none] [] h) := by
  exact qE 135 [9, 48, 114, 212] (by rfl)
set_option maxRecDepth 1000000 in
set_option maxHeartbeats 1000000 in
theorem E221_48 (d : Nat) (t : Nat) (a1 : Int32) (a2 : Int32) (a3 : Int32) (a4 : Int32) (a5 : Int32) (h : QH) : qbig (d + 1) 221 48 [sR (some t), sI a1, sI a2, sI a3, sI a4, sI a5, none, none, none] [] h =
 cI (qcl d 232 [qR (some t)] h) fun x2 h1 =>
  if a5 < x2 then
  (cI (qcl d 196 [qI a2, qI a5] h1) fun x4 h3 =>
   if x4 = 0 then
   (qbig (d + 1) 221 48 [sR (some t), sI a1, sI a2, sI a3, sI a4, sI (a5 + 1), none, none, none] [] h3)
  else
   (cI (qcl d 201 [qR (some t), qI a5, qI a1] h3) fun x6 h5 =>
    if x6 = 0 then
    (cI (qcl d 227 [qR (some t), qI a5, qI 2] h5) fun x8 h7 =>
     (qgi 12 35 t h7).bind fun x9 =>
     cI (qcl d 168 [qR (some t), qI x9, qI 0] h7) fun x11 h10 =>
     if x11 = 0 then none else
     (qgi 12 35 t h10).bind fun x12 =>
     cI (qcl d 168 [qR (some t), qI x12, qI 1] h10) fun x14 h13 =>
     qbig (d + 1) 221 114 [sR (some t), sI a1, sI a2, sI a3, sI a4, sI a5, sI ((x8 / x11) * x14), sI 0, sI 0] [] h13)
   else
    (qbig (d + 1) 221 48 [sR (some t), sI a1, sI a2, sI a3, sI a4, sI (a5 + 1), none, none, none] [] h5)))
 else
  (qbig (d + 1) 221 212 [sR (some t), none, none, sI a3, sI a4, sI 0, none, none, none] [] h1) := by
  exact qE 135 [9, 48, 114, 212] (by rfl)
set_option maxRecDepth 1000000 in
set_option maxHeartbeats 1000000 in
theorem E221_114 (d : Nat) (t : Nat) (a1 : Int32) (a2 : Int32) (a3 : Int32) (a4 : Int32) (a5 : Int32) (a6 : Int32) (a7 : Int32) (a8 : Int32) (h : QH) : qbig (d + 1) 221 114 [sR (some t), sI a1, sI a2, sI a3, sI a4, sI a5, sI a6, sI a7, sI a8] [] h =
 cI (qcl d 232 [qR (some t)] h) fun x2 h1 =>
  if a8 < x2 then
  ((qgi 12 38 t h1).bind fun x3 =>
   cI (qcl d 196 [qI (x3 &&& (a2 ^^^ (-1))), qI a8] h1) fun x5 h4 =>
   if x5 = 0 then
   (qbig (d + 1) 221 114 [sR (some t), sI a1, sI a2, sI a3, sI a4, sI a5, sI a6, sI a7, sI (a8 + 1)] [] h4)
  else
   (cI (qcl d 223 [qR (some t), qI a5, qI a8] h4) fun x7 h6 =>
    if x7 = 0 then
    (qbig (d + 1) 221 114 [sR (some t), sI a1, sI a2, sI a3, sI a4, sI a5, sI a6, sI a7, sI (a8 + 1)] [] h6)
   else
    (cI (qcl d 201 [qR (some t), qI a8, qI a1] h6) fun x9 h8 =>
     if x9 = 0 then
     (cI (qcl d 227 [qR (some t), qI a8, qI 2] h8) fun x11 h10 =>
      (qgi 12 35 t h10).bind fun x12 =>
      cI (qcl d 168 [qR (some t), qI x12, qI 0] h10) fun x14 h13 =>
      if x11 < x14 then
      (qbig (d + 1) 221 114 [sR (some t), sI a1, sI a2, sI a3, sI a4, sI a5, sI a6, sI a7, sI (a8 + 1)] [] h13)
     else
      (qbig (d + 1) 221 114 [sR (some t), sI a1, sI a2, sI a3, sI a4, sI a5, sI a6, sI (a7 ||| ((1 : Int32) <<< (a8 &&& 31))), sI (a8 + 1)] [] h13))
    else
     (qbig (d + 1) 221 114 [sR (some t), sI a1, sI a2, sI a3, sI a4, sI a5, sI a6, sI a7, sI (a8 + 1)] [] h8))))
 else
  (cV (qcl d 253 [qR (some t), qI a3, qI a7, qI a6] h1) fun h15 =>
   qbig (d + 1) 221 48 [sR (some t), sI a1, sI a2, sI a3, sI a4, sI (a5 + 1), none, none, none] [] h15) := by
  exact qE 135 [9, 48, 114, 212] (by rfl)
set_option maxRecDepth 1000000 in
set_option maxHeartbeats 1000000 in
theorem E221_212 (d : Nat) (t : Nat) (a3 : Int32) (a4 : Int32) (a5 : Int32) (h : QH) : qbig (d + 1) 221 212 [sR (some t), none, none, sI a3, sI a4, sI a5, none, none, none] [] h =
 if a5 < 256 then
  ((qgr 12 34 t h).bind fun o1 =>
   o1.bind fun p2 => (qai 2 p2 (a3 + a5) h).bind fun x3 =>
   if x3 = 0 then
   (qbig (d + 1) 221 212 [sR (some t), none, none, sI a3, sI a4, sI (a5 + 1), none, none, none] [] h)
  else
   (cI (qcl d 228 [qI a5] h) fun x5 h4 =>
    cI (qcl d 191 [qI a4, qI x5] h4) fun x7 h6 =>
    qbig (d + 1) 221 212 [sR (some t), none, none, sI a3, sI x7, sI (a5 + 1), none, none, none] [] h6))
 else
  (some (some (qI a4), h)) := by
  exact qE 135 [9, 48, 114, 212] (by rfl)
set_option maxRecDepth 1000000 in
set_option maxHeartbeats 1000000 in
theorem E222 (d : Nat) (t : Nat) (a1 : Int32) (a2 : Int32) (a3 : Int32) (h : QH) : qcl (d + 1) 222 [qR (some t), qI a1, qI a2, qI a3] h =
 (qck 12 t h).bind fun _ =>
 cI (qcl d 218 [qI a3, qI 0, qI 1] h) fun x2 h1 =>
  if x2 = 0 then
  (cI (qcl d 244 [qR (some t), qI (-1)] h1) fun x4 h3 =>
   some (some (qI x4), h3))
 else
  (cI (qcl d 203 [qR (some t), qI a1] h1) fun x6 h5 =>
   if x6 = 0 then
   (cI (qcl d 244 [qR (some t), qI (-2)] h5) fun x8 h7 =>
    some (some (qI x8), h7))
  else
   (cI (qcl d 203 [qR (some t), qI a2] h5) fun x10 h9 =>
    if x10 = 0 then
    (cI (qcl d 244 [qR (some t), qI (-2)] h9) fun x12 h11 =>
     some (some (qI x12), h11))
   else
    (if a1 = a2 then
     (cI (qcl d 244 [qR (some t), qI (-3)] h9) fun x14 h13 =>
      some (some (qI x14), h13))
    else
     (cI (qcl d 223 [qR (some t), qI a1, qI a2] h9) fun x16 h15 =>
      if x16 = 0 then
      ((qgr 12 3 t h15).bind fun o17 =>
       (qgr 12 3 t h15).bind fun o18 =>
       o18.bind fun p19 => (qai 0 p19 (32 + a1) h15).bind fun x20 =>
       o17.bind fun p21 => (qsi 0 p21 (32 + a1) ((x20 &&& (((1 : Int32) <<< (a2 &&& 31)) ^^^ (-1))) ||| (a3 <<< (a2 &&& 31))) h15).bind fun h22 =>
       (qgr 12 3 t h22).bind fun o23 =>
       (qgr 12 3 t h22).bind fun o24 =>
       o24.bind fun p25 => (qai 0 p25 (32 + a2) h22).bind fun x26 =>
       o23.bind fun p27 => (qsi 0 p27 (32 + a2) ((x26 &&& (((1 : Int32) <<< (a1 &&& 31)) ^^^ (-1))) ||| (a3 <<< (a1 &&& 31))) h22).bind fun h28 =>
       cI (qcl d 190 [qR (some t), qI 0] h28) fun x30 h29 =>
       some (some (qI x30), h29))
     else
      ((qgr 12 3 t h15).bind fun o31 =>
       (qgr 12 3 t h15).bind fun o32 =>
       o32.bind fun p33 => (qai 0 p33 (32 + a1) h15).bind fun x34 =>
       o31.bind fun p35 => (qsi 0 p35 (32 + a1) ((x34 &&& (((1 : Int32) <<< (a2 &&& 31)) ^^^ (-1))) ||| (a3 <<< (a2 &&& 31))) h15).bind fun h36 =>
       (qgr 12 3 t h36).bind fun o37 =>
       (qgr 12 3 t h36).bind fun o38 =>
       o38.bind fun p39 => (qai 0 p39 (32 + a2) h36).bind fun x40 =>
       o37.bind fun p41 => (qsi 0 p41 (32 + a2) ((x40 &&& (((1 : Int32) <<< (a1 &&& 31)) ^^^ (-1))) ||| (a3 <<< (a1 &&& 31))) h36).bind fun h42 =>
       cI (qcl d 190 [qR (some t), qI 1] h42) fun x44 h43 =>
       some (some (qI x44), h43)))))) := by
  exact qE0 90 [] (by rfl)
set_option maxRecDepth 1000000 in
set_option maxHeartbeats 1000000 in
theorem E223 (d : Nat) (t : Nat) (a1 : Int32) (a2 : Int32) (h : QH) : qcl (d + 1) 223 [qR (some t), qI a1, qI a2] h =
 (qck 12 t h).bind fun _ =>
 (qgr 12 3 t h).bind fun o1 =>
  o1.bind fun p2 => (qai 0 p2 (32 + a1) h).bind fun x3 =>
  cI (qcl d 196 [qI x3, qI a2] h) fun x5 h4 =>
  if (x5 : Int32) = 0 ∨ (x5 : Int32) = 1 then some (some (qI x5), h4) else none := by
  exact qE0 14 [] (by rfl)
set_option maxRecDepth 1000000 in
set_option maxHeartbeats 1000000 in
theorem E224 (d : Nat) (t : Nat) (a1 : Int32) (h : QH) : qcl (d + 1) 224 [qR (some t), qI a1] h =
 (qck 12 t h).bind fun _ =>
 cI (qcl d 264 [qR (some t), qI a1] h) fun x2 h1 =>
  if x2 = 0 then
  (cV (qcl d 184 [qR (some t)] h1) fun h3 =>
   some (none, h3))
 else
  (some (none, h1)) := by
  exact qE0 12 [] (by rfl)
set_option maxRecDepth 1000000 in
set_option maxHeartbeats 1000000 in
theorem E225 (d : Nat) (t : Nat) (a1 : Int32) (a2 : Int32) (h : QH) : qcl (d + 1) 225 [qR (some t), qI a1, qI a2] h =
 (qck 12 t h).bind fun _ =>
 cI (qcl d 203 [qR (some t), qI a1] h) fun x2 h1 =>
  if x2 = 0 then
  (some (some (qI (-1)), h1))
 else
  (cI (qcl d 218 [qI a2, qI 0, qI 9] h1) fun x4 h3 =>
   if x4 = 0 then
   (some (some (qI (-1)), h3))
  else
   (if a2 < 4 then
    (cI (qcl d 227 [qR (some t), qI a1, qI a2] h3) fun x6 h5 =>
     some (some (qI x6), h5))
   else
    (if a2 = 4 then
     ((qgr 12 3 t h3).bind fun o7 =>
      o7.bind fun p8 => (qai 0 p8 (32 + a1) h3).bind fun x9 =>
      some (some (qI x9), h3))
    else
     (cI (qcl d 200 [qR (some t), qI (a2 - 5)] h3) fun x11 h10 =>
      if x11 = 0 then
      (some (some (qI 0), h10))
     else
      (cI (qcl d 212 [qR (some t), qI a1, qI (a2 - 5)] h10) fun x13 h12 =>
       some (some (qI x13), h12)))))) := by
  exact qE0 49 [] (by rfl)
set_option maxRecDepth 1000000 in
set_option maxHeartbeats 1000000 in
theorem E226 (d : Nat) (t : Nat) (a1 : Int32) (a2 : Int32) (a3 : Int32) (h : QH) : qcl (d + 1) 226 [qR (some t), qI a1, qI a2, qI a3] h =
 (qck 12 t h).bind fun _ =>
 cI (qcl d 218 [qI a1, qI 0, qI 9] h) fun x2 h1 =>
  if x2 = 0 then
  (cI (qcl d 244 [qR (some t), qI (-1)] h1) fun x4 h3 =>
   some (some (qI x4), h3))
 else
  (cI (qcl d 218 [qI a2, qI 0, qI 9] h1) fun x6 h5 =>
   if x6 = 0 then
   (cI (qcl d 244 [qR (some t), qI (-1)] h5) fun x8 h7 =>
    some (some (qI x8), h7))
  else
   (cI (qcl d 218 [qI a3, qI 0, qI 12] h5) fun x10 h9 =>
    if x10 = 0 then
    (cI (qcl d 244 [qR (some t), qI (-1)] h9) fun x12 h11 =>
     some (some (qI x12), h11))
   else
    (cI (qcl d 232 [qR (some t)] h9) fun x14 h13 =>
     if x14 = 8 then
     (cI (qcl d 244 [qR (some t), qI (-5)] h13) fun x16 h15 =>
      some (some (qI x16), h15))
    else
     ((qgr 12 3 t h13).bind fun o17 =>
      o17.bind fun p18 => (qsi 0 p18 (0 + (4 * x14)) a1 h13).bind fun h19 =>
      (qgr 12 3 t h19).bind fun o20 =>
      o20.bind fun p21 => (qsi 0 p21 ((0 + (4 * x14)) + 1) a2 h19).bind fun h22 =>
      (qgr 12 3 t h22).bind fun o23 =>
      o23.bind fun p24 => (qsi 0 p24 ((0 + (4 * x14)) + 2) a3 h22).bind fun h25 =>
      (qgr 12 3 t h25).bind fun o26 =>
      o26.bind fun p27 => (qsi 0 p27 ((0 + (4 * x14)) + 3) 0 h25).bind fun h28 =>
      (qgr 12 3 t h28).bind fun o29 =>
      o29.bind fun p30 => (qsi 0 p30 (32 + x14) (((1 : Int32) <<< (x14 &&& 31)) - 1) h28).bind fun h31 =>
      qbig (d + 1) 226 129 [sR (some t), none, none, none, sI x14, sI 0] [] h31)))) := by
  exact qE0 145 [129, 162] (by rfl)
set_option maxRecDepth 1000000 in
set_option maxHeartbeats 1000000 in
theorem E226_129 (d : Nat) (t : Nat) (a4 : Int32) (a5 : Int32) (h : QH) : qbig (d + 1) 226 129 [sR (some t), none, none, none, sI a4, sI a5] [] h =
 if a5 < a4 then
  ((qgr 12 3 t h).bind fun o1 =>
   o1.bind fun p2 => (qai 0 p2 (32 + a5) h).bind fun x3 =>
   o1.bind fun p4 => (qsi 0 p4 (32 + a5) (x3 ||| ((1 : Int32) <<< (a4 &&& 31))) h).bind fun h5 =>
   qbig (d + 1) 226 129 [sR (some t), none, none, none, sI a4, sI (a5 + 1)] [] h5)
 else
  (qbig (d + 1) 226 162 [sR (some t), none, none, none, sI a4, sI 0] [] h) := by
  exact qE 145 [129, 162] (by rfl)
set_option maxRecDepth 1000000 in
set_option maxHeartbeats 1000000 in
theorem E226_162 (d : Nat) (t : Nat) (a4 : Int32) (a5 : Int32) (h : QH) : qbig (d + 1) 226 162 [sR (some t), none, none, none, sI a4, sI a5] [] h =
 if a5 < 5 then
  ((qgr 12 3 t h).bind fun o1 =>
   o1.bind fun p2 => (qsi 0 p2 ((60 + (5 * a4)) + a5) 0 h).bind fun h3 =>
   qbig (d + 1) 226 162 [sR (some t), none, none, none, sI a4, sI (a5 + 1)] [] h3)
 else
  ((qgr 12 3 t h).bind fun o4 =>
   o4.bind fun p5 => (qsi 0 p5 (400 + a4) ((1 : Int32) <<< (a4 &&& 31)) h).bind fun h6 =>
   (qgr 12 3 t h6).bind fun o7 =>
   o7.bind fun p8 => (qai 0 p8 408 h6).bind fun x9 =>
   o7.bind fun p10 => (qsi 0 p10 408 (x9 + 1) h6).bind fun h11 =>
   cI (qcl d 190 [qR (some t), qI a4] h11) fun x13 h12 =>
   some (some (qI x13), h12)) := by
  exact qE 145 [129, 162] (by rfl)
set_option maxRecDepth 1000000 in
set_option maxHeartbeats 1000000 in
theorem E227 (d : Nat) (t : Nat) (a1 : Int32) (a2 : Int32) (h : QH) : qcl (d + 1) 227 [qR (some t), qI a1, qI a2] h =
 (qck 12 t h).bind fun _ =>
 (qgr 12 3 t h).bind fun o1 =>
  o1.bind fun p2 => (qai 0 p2 ((0 + (4 * a1)) + a2) h).bind fun x3 =>
  some (some (qI x3), h) := by
  exact qE0 16 [] (by rfl)
set_option maxRecDepth 1000000 in
set_option maxHeartbeats 1000000 in
theorem E228 (d : Nat) (a0 : Int32) (h : QH) : qcl (d + 1) 228 [qI a0] h =
 qbig (d + 1) 228 4 [sI a0, sI 0, sI 0] [] h := by
  exact qE0 24 [4] (by rfl)
set_option maxRecDepth 1000000 in
set_option maxHeartbeats 1000000 in
theorem E228_4 (d : Nat) (a0 : Int32) (a1 : Int32) (a2 : Int32) (h : QH) : qbig (d + 1) 228 4 [sI a0, sI a1, sI a2] [] h =
 if a2 < 8 then
  (qbig (d + 1) 228 4 [sI a0, sI (a1 + ((a0 >>> (a2 &&& 31)) &&& 1)), sI (a2 + 1)] [] h)
 else
  (some (some (qI a1), h)) := by
  exact qE 24 [4] (by rfl)
set_option maxRecDepth 1000000 in
set_option maxHeartbeats 1000000 in
theorem E229 (d : Nat) (t : Nat) (a1 : Int32) (h : QH) : qcl (d + 1) 229 [qR (some t), qI a1] h =
 (qck 12 t h).bind fun _ =>
 if a1 < (-1) then
  (some (some (qI (-1)), h))
 else
  (qbig (d + 1) 229 14 [sR (some t), sI a1, sI 0, sI 0, sI 1, none] [] h) := by
  exact qE0 66 [14, 25, 89] (by rfl)
set_option maxRecDepth 1000000 in
set_option maxHeartbeats 1000000 in
theorem E229_14 (d : Nat) (t : Nat) (a1 : Int32) (a2 : Int32) (a3 : Int32) (a4 : Int32) (h : QH) : qbig (d + 1) 229 14 [sR (some t), sI a1, sI a2, sI a3, sI a4, none] [] h =
 if a4 = 0 then
  (if a1 = (-1) then
   (some (some (qI a3), h))
  else
   (some (some (qI (-1)), h)))
 else
  (qbig (d + 1) 229 25 [sR (some t), sI a1, sI a2, sI a3, sI 0, sI 0] [] h) := by
  exact qE 66 [14, 25, 89] (by rfl)
set_option maxRecDepth 1000000 in
set_option maxHeartbeats 1000000 in
theorem E229_25 (d : Nat) (t : Nat) (a1 : Int32) (a2 : Int32) (a3 : Int32) (a4 : Int32) (a5 : Int32) (h : QH) : qbig (d + 1) 229 25 [sR (some t), sI a1, sI a2, sI a3, sI a4, sI a5] [] h =
 cI (qcl d 169 [qR (some t)] h) fun x2 h1 =>
  if a5 < x2 then
  (if a4 = 0 then
   (cI (qcl d 196 [qI a2, qI a5] h1) fun x4 h3 =>
    if x4 = 0 then
    (cI (qcl d 168 [qR (some t), qI a5, qI 3] h3) fun x6 h5 =>
     if (x6 &&& (a2 ^^^ (-1))) = 0 then
     (if a3 = a1 then
      (some (some (qI a5), h5))
     else
      (qbig (d + 1) 229 89 [sR (some t), sI a1, sI (a2 ||| ((1 : Int32) <<< (a5 &&& 31))), sI (a3 + 1), sI 1, sI (a5 + 1)] [] h5))
    else
     (qbig (d + 1) 229 89 [sR (some t), sI a1, sI a2, sI a3, sI a4, sI (a5 + 1)] [] h5))
   else
    (qbig (d + 1) 229 89 [sR (some t), sI a1, sI a2, sI a3, sI a4, sI (a5 + 1)] [] h3))
  else
   (qbig (d + 1) 229 14 [sR (some t), sI a1, sI a2, sI a3, sI a4, none] [] h1))
 else
  (qbig (d + 1) 229 14 [sR (some t), sI a1, sI a2, sI a3, sI a4, none] [] h1) := by
  exact qE 66 [14, 25, 89] (by rfl)
set_option maxRecDepth 1000000 in
set_option maxHeartbeats 1000000 in
theorem E229_89 (d : Nat) (t : Nat) (a1 : Int32) (a2 : Int32) (a3 : Int32) (a4 : Int32) (a5 : Int32) (h : QH) : qbig (d + 1) 229 89 [sR (some t), sI a1, sI a2, sI a3, sI a4, sI a5] [] h =
 qbig (d + 1) 229 25 [sR (some t), sI a1, sI a2, sI a3, sI a4, sI a5] [] h := by
  exact qE 66 [14, 25, 89] (by rfl)
set_option maxRecDepth 1000000 in
set_option maxHeartbeats 1000000 in
theorem E230 (d : Nat) (t : Nat) (a1 : Int32) (h : QH) : qcl (d + 1) 230 [qR (some t), qI a1] h =
 (qck 12 t h).bind fun _ =>
 cI (qcl d 254 [qI 91] h) fun x2 h1 =>
  cI (qcl d 231 [qR (some t), qI x2] h1) fun x4 h3 =>
  if x4 = 0 then
  ((qgi 12 19 t h3).bind fun x5 =>
   cI (qcl d 178 [qR (some t), qI x5] h3) fun x7 h6 =>
   (qgi 12 19 t h6).bind fun x8 =>
   (qpi 12 19 t (x8 + 1) h6).bind fun h9 =>
   if a1 = 0 then
   (some (some (qL ((0 : Int32).toInt64)), h9))
  else
   ((qgi 12 21 t h9).bind fun x10 =>
    if x10 = 0 then
    (if x7 = 50 then
     ((qgr 12 3 t h9).bind fun o11 =>
      (qgi 12 19 t h9).bind fun x12 =>
      o11.bind fun p13 => (qai 0 p13 ((2820 + x12) - 1) h9).bind fun x14 =>
      some (some (qL (Int32.toInt64 x14)), h9))
    else
     ((qgr 12 22 t h9).bind fun o15 =>
      o15.bind fun p16 => (qai 0 p16 (x7 - 9) h9).bind fun x17 =>
      some (some (qL (Int32.toInt64 x17)), h9)))
   else
    (some (some (qL ((0 : Int32).toInt64)), h9))))
 else
  (cL (qcl d 263 [qR (some t), qI a1] h3) fun l19 h18 =>
   (qgi 12 19 t h18).bind fun x20 =>
   (qpi 12 19 t (x20 + 1) h18).bind fun h21 =>
   some (some (qL l19), h21)) := by
  exact qE0 62 [] (by rfl)
set_option maxRecDepth 1000000 in
set_option maxHeartbeats 1000000 in
theorem E231 (d : Nat) (t : Nat) (a1 : Int32) (h : QH) : qcl (d + 1) 231 [qR (some t), qI a1] h =
 (qck 12 t h).bind fun _ =>
 (qgi 12 19 t h).bind fun x1 =>
  cI (qcl d 178 [qR (some t), qI x1] h) fun x3 h2 =>
  if x3 = a1 then
  (if (1 : Int32) = 0 then
   (if (1 : Int32) = 0 ∨ (1 : Int32) = 1 then some (some (qI 1), h2) else none)
  else
   ((qgi 12 19 t h2).bind fun x4 =>
    (qpi 12 19 t (x4 + 1) h2).bind fun h5 =>
    if (1 : Int32) = 0 ∨ (1 : Int32) = 1 then some (some (qI 1), h5) else none))
 else
  (if (0 : Int32) = 0 then
   (if (0 : Int32) = 0 ∨ (0 : Int32) = 1 then some (some (qI 0), h2) else none)
  else
   ((qgi 12 19 t h2).bind fun x6 =>
    (qpi 12 19 t (x6 + 1) h2).bind fun h7 =>
    if (0 : Int32) = 0 ∨ (0 : Int32) = 1 then some (some (qI 0), h7) else none)) := by
  exact qE0 25 [] (by rfl)
set_option maxRecDepth 1000000 in
set_option maxHeartbeats 1000000 in
theorem E232 (d : Nat) (t : Nat) (h : QH) : qcl (d + 1) 232 [qR (some t)] h =
 (qck 12 t h).bind fun _ =>
 (qgr 12 3 t h).bind fun o1 =>
  o1.bind fun p2 => (qai 0 p2 408 h).bind fun x3 =>
  some (some (qI x3), h) := by
  exact qE0 10 [] (by rfl)
set_option maxRecDepth 1000000 in
set_option maxHeartbeats 1000000 in
theorem E233 (d : Nat) (t : Nat) (a1 : Int32) (h : QH) : qcl (d + 1) 233 [qR (some t), qI a1] h =
 (qck 12 t h).bind fun _ =>
 qbig (d + 1) 233 2 [sR (some t), sI a1, sI 0] [] h := by
  exact qE0 27 [2] (by rfl)
set_option maxRecDepth 1000000 in
set_option maxHeartbeats 1000000 in
theorem E233_2 (d : Nat) (t : Nat) (a1 : Int32) (a2 : Int32) (h : QH) : qbig (d + 1) 233 2 [sR (some t), sI a1, sI a2] [] h =
 cI (qcl d 231 [qR (some t), qI 8] h) fun x2 h1 =>
  if x2 = 0 then
  (cI (qcl d 234 [qR (some t), qI a1] h1) fun x4 h3 =>
   if x4 = a2 then
   (if (0 : Int32) = 0 ∨ (0 : Int32) = 1 then some (some (qI 0), h3) else none)
  else
   (if (1 : Int32) = 0 ∨ (1 : Int32) = 1 then some (some (qI 1), h3) else none))
 else
  (if a2 = 0 then
   (qbig (d + 1) 233 2 [sR (some t), sI a1, sI 1] [] h1)
  else
   (qbig (d + 1) 233 2 [sR (some t), sI a1, sI 0] [] h1)) := by
  exact qE 27 [2] (by rfl)
set_option maxRecDepth 1000000 in
set_option maxHeartbeats 1000000 in
theorem E234 (d : Nat) (t : Nat) (a1 : Int32) (h : QH) : qcl (d + 1) 234 [qR (some t), qI a1] h =
 (qck 12 t h).bind fun _ =>
 cI (qcl d 254 [qI 40] h) fun x2 h1 =>
  cI (qcl d 231 [qR (some t), qI x2] h1) fun x4 h3 =>
  if x4 = 0 then
  (cL (qcl d 263 [qR (some t), qI a1] h3) fun l6 h5 =>
   (qgi 12 19 t h5).bind fun x7 =>
   cI (qcl d 178 [qR (some t), qI x7] h5) fun x9 h8 =>
   (qgi 12 19 t h8).bind fun x10 =>
   (qpi 12 19 t (x10 + 1) h8).bind fun h11 =>
   cL (qcl d 263 [qR (some t), qI a1] h11) fun l13 h12 =>
   qbig (d + 1) 234 63 [sR (some t), sI a1, sL l6, none, sI x9, sL l13, none] [] h12)
 else
  (cI (qcl d 270 [qR (some t), qI a1] h3) fun x15 h14 =>
   (qgi 12 19 t h14).bind fun x16 =>
   (qpi 12 19 t (x16 + 1) h14).bind fun h17 =>
   if (x15 : Int32) = 0 ∨ (x15 : Int32) = 1 then some (some (qI x15), h17) else none) := by
  exact qE0 72 [63] (by rfl)
set_option maxRecDepth 1000000 in
set_option maxHeartbeats 1000000 in
theorem E234_63 (d : Nat) (t : Nat) (a1 : Int32) (a2 : Int64) (a4 : Int32) (a5 : Int64) (h : QH) : qbig (d + 1) 234 63 [sR (some t), sI a1, sL a2, none, sI a4, sL a5, none] [] h =
 if a1 = 0 then
  (if (0 : Int32) = 0 ∨ (0 : Int32) = 1 then some (some (qI 0), h) else none)
 else
  ((qgi 12 21 t h).bind fun x1 =>
   if x1 = 0 then
   (cI (qcl d 254 [qI 60] h) fun x3 h2 =>
    if a4 = x3 then
    (if (lg_cmp a2 a5) < 0 then
     (if (1 : Int32) = 0 ∨ (1 : Int32) = 1 then some (some (qI 1), h2) else none)
    else
     (if (0 : Int32) = 0 ∨ (0 : Int32) = 1 then some (some (qI 0), h2) else none))
   else
    (cI (qcl d 254 [qI 62] h2) fun x5 h4 =>
     if a4 = x5 then
     (if 0 < (lg_cmp a2 a5) then
      (if (1 : Int32) = 0 ∨ (1 : Int32) = 1 then some (some (qI 1), h4) else none)
     else
      (if (0 : Int32) = 0 ∨ (0 : Int32) = 1 then some (some (qI 0), h4) else none))
    else
     (if (lg_cmp a2 a5) = 0 then
      (if (1 : Int32) = 0 ∨ (1 : Int32) = 1 then some (some (qI 1), h4) else none)
     else
      (if (0 : Int32) = 0 ∨ (0 : Int32) = 1 then some (some (qI 0), h4) else none))))
  else
   (if (0 : Int32) = 0 ∨ (0 : Int32) = 1 then some (some (qI 0), h) else none)) := by
  exact qE 72 [63] (by rfl)
set_option maxRecDepth 1000000 in
set_option maxHeartbeats 1000000 in
theorem E235 (d : Nat) (t : Nat) (a1 : Int32) (a2 : Int32) (a3 : Int32) (h : QH) : qcl (d + 1) 235 [qR (some t), qI a1, qI a2, qI a3] h =
 (qck 12 t h).bind fun _ =>
 cI (qcl d 218 [qI a2, qI 0, qI 3] h) fun x2 h1 =>
  if x2 = 0 then
  (cI (qcl d 244 [qR (some t), qI (-1)] h1) fun x4 h3 =>
   some (some (qI x4), h3))
 else
  (if a2 = 3 then
   (cI (qcl d 218 [qI a3, qI 0, qI 1073741823] h1) fun x6 h5 =>
    if x6 = 0 then
    (cI (qcl d 244 [qR (some t), qI (-1)] h5) fun x8 h7 =>
     some (some (qI x8), h7))
   else
    (cI (qcl d 203 [qR (some t), qI a1] h5) fun x10 h9 =>
     if x10 = 0 then
     (cI (qcl d 244 [qR (some t), qI (-2)] h9) fun x12 h11 =>
      some (some (qI x12), h11))
    else
     (cI (qcl d 245 [qR (some t), qI ((0 + (4 * a1)) + a2), qI a3] h9) fun x14 h13 =>
      some (some (qI x14), h13))))
  else
   (if a2 = 2 then
    (cI (qcl d 218 [qI a3, qI 0, qI 12] h1) fun x16 h15 =>
     if x16 = 0 then
     (cI (qcl d 244 [qR (some t), qI (-1)] h15) fun x18 h17 =>
      some (some (qI x18), h17))
    else
     (cI (qcl d 203 [qR (some t), qI a1] h15) fun x20 h19 =>
      if x20 = 0 then
      (cI (qcl d 244 [qR (some t), qI (-2)] h19) fun x22 h21 =>
       some (some (qI x22), h21))
     else
      (cI (qcl d 245 [qR (some t), qI ((0 + (4 * a1)) + a2), qI a3] h19) fun x24 h23 =>
       some (some (qI x24), h23))))
   else
    (cI (qcl d 218 [qI a3, qI 0, qI 9] h1) fun x26 h25 =>
     if x26 = 0 then
     (cI (qcl d 244 [qR (some t), qI (-1)] h25) fun x28 h27 =>
      some (some (qI x28), h27))
    else
     (cI (qcl d 203 [qR (some t), qI a1] h25) fun x30 h29 =>
      if x30 = 0 then
      (cI (qcl d 244 [qR (some t), qI (-2)] h29) fun x32 h31 =>
       some (some (qI x32), h31))
     else
      (cI (qcl d 245 [qR (some t), qI ((0 + (4 * a1)) + a2), qI a3] h29) fun x34 h33 =>
       some (some (qI x34), h33)))))) := by
  exact qE0 48 [] (by rfl)
set_option maxRecDepth 1000000 in
set_option maxHeartbeats 1000000 in
theorem E236 (d : Nat) (t : Nat) (a1 : Int32) (h : QH) : qcl (d + 1) 236 [qR (some t), qI a1] h =
 (qck 12 t h).bind fun _ =>
 cV (qcl d 239 [qR (some t), qI a1] h) fun h1 =>
  qbig (d + 1) 236 5 [sR (some t), sI a1] [] h1 := by
  exact qE0 17 [5] (by rfl)
set_option maxRecDepth 1000000 in
set_option maxHeartbeats 1000000 in
theorem E236_5 (d : Nat) (t : Nat) (a1 : Int32) (h : QH) : qbig (d + 1) 236 5 [sR (some t), sI a1] [] h =
 cI (qcl d 264 [qR (some t), qI 7] h) fun x2 h1 =>
  if x2 = 0 then
  (some (none, h1))
 else
  (cV (qcl d 239 [qR (some t), qI a1] h1) fun h3 =>
   qbig (d + 1) 236 5 [sR (some t), sI a1] [] h3) := by
  exact qE 17 [5] (by rfl)
set_option maxRecDepth 1000000 in
set_option maxHeartbeats 1000000 in
theorem E237 (d : Nat) (t : Nat) (h : QH) : qcl (d + 1) 237 [qR (some t)] h =
 (qck 12 t h).bind fun _ =>
 cI (qcl d 264 [qR (some t), qI 1] h) fun x2 h1 =>
  if x2 = 0 then
  (cI (qcl d 264 [qR (some t), qI 2] h1) fun x4 h3 =>
   if x4 = 0 then
   (cI (qcl d 264 [qR (some t), qI 3] h3) fun x6 h5 =>
    if x6 = 0 then
    (cV (qcl d 224 [qR (some t), qI 4] h5) fun h7 =>
     cI (qcl d 264 [qR (some t), qI 5] h7) fun x9 h8 =>
     if x9 = 0 then
     (some (none, h8))
    else
     (cV (qcl d 242 [qR (some t), qI 0] h8) fun h10 =>
      some (none, h10)))
   else
    (cV (qcl d 240 [qR (some t), qI 0] h5) fun h11 =>
     cI (qcl d 264 [qR (some t), qI 5] h11) fun x13 h12 =>
     if x13 = 0 then
     (some (none, h12))
    else
     (cV (qcl d 242 [qR (some t), qI 0] h12) fun h14 =>
      some (none, h14))))
  else
   (cV (qcl d 240 [qR (some t), qI 0] h3) fun h15 =>
    cI (qcl d 264 [qR (some t), qI 5] h15) fun x17 h16 =>
    if x17 = 0 then
    (some (none, h16))
   else
    (cV (qcl d 242 [qR (some t), qI 0] h16) fun h18 =>
     some (none, h18))))
 else
  (cV (qcl d 240 [qR (some t), qI 0] h1) fun h19 =>
   cI (qcl d 264 [qR (some t), qI 5] h19) fun x21 h20 =>
   if x21 = 0 then
   (some (none, h20))
  else
   (cV (qcl d 242 [qR (some t), qI 0] h20) fun h22 =>
    some (none, h22))) := by
  exact qE0 32 [] (by rfl)
set_option maxRecDepth 1000000 in
set_option maxHeartbeats 1000000 in
theorem E238 (d : Nat) (t : Nat) (a1 : Int32) (h : QH) : qcl (d + 1) 238 [qR (some t), qI a1] h =
 (qck 12 t h).bind fun _ =>
 cI (qcl d 187 [qR (some t)] h) fun x2 h1 =>
  if x2 = 0 then
  (some (none, h1))
 else
  ((qgr 12 12 t h1).bind fun o3 =>
   (qgi 12 16 t h1).bind fun x4 =>
   o3.bind fun p5 => (qai 0 p5 x4 h1).bind fun x6 =>
   cI (qcl d 254 [qI 91] h1) fun x8 h7 =>
   if x6 = x8 then
   (if a1 = 8 then
    (cV (qcl d 184 [qR (some t)] h7) fun h9 =>
     cI (qcl d 187 [qR (some t)] h9) fun x11 h10 =>
     if x11 = 0 then
     (some (none, h10))
    else
     ((qgi 12 16 t h10).bind fun x12 =>
      (qpi 12 16 t (x12 + 1) h10).bind fun h13 =>
      cV (qcl d 240 [qR (some t), qI (a1 + 1)] h13) fun h14 =>
      cI (qcl d 254 [qI 93] h14) fun x16 h15 =>
      cV (qcl d 224 [qR (some t), qI x16] h15) fun h17 =>
      some (none, h17)))
   else
    (cI (qcl d 187 [qR (some t)] h7) fun x19 h18 =>
     if x19 = 0 then
     (some (none, h18))
    else
     ((qgi 12 16 t h18).bind fun x20 =>
      (qpi 12 16 t (x20 + 1) h18).bind fun h21 =>
      cV (qcl d 240 [qR (some t), qI (a1 + 1)] h21) fun h22 =>
      cI (qcl d 254 [qI 93] h22) fun x24 h23 =>
      cV (qcl d 224 [qR (some t), qI x24] h23) fun h25 =>
      some (none, h25))))
  else
   (if x6 = 50 then
    ((qgr 12 13 t h7).bind fun o26 =>
     (qgi 12 16 t h7).bind fun x27 =>
     o26.bind fun p28 => (qai 0 p28 x27 h7).bind fun x29 =>
     if 1000 < x29 then
     (if x6 < 9 then
      (cV (qcl d 184 [qR (some t)] h7) fun h30 =>
       some (none, h30))
     else
      (if 17 < x6 then
       (cV (qcl d 184 [qR (some t)] h7) fun h31 =>
        some (none, h31))
      else
       (cV (qcl d 215 [qR (some t)] h7) fun h32 =>
        some (none, h32))))
    else
     (cV (qcl d 215 [qR (some t)] h7) fun h33 =>
      some (none, h33)))
   else
    (if x6 < 9 then
     (cV (qcl d 184 [qR (some t)] h7) fun h34 =>
      some (none, h34))
    else
     (if 17 < x6 then
      (cV (qcl d 184 [qR (some t)] h7) fun h35 =>
       some (none, h35))
     else
      (cV (qcl d 215 [qR (some t)] h7) fun h36 =>
       some (none, h36)))))) := by
  exact qE0 66 [] (by rfl)
set_option maxRecDepth 1000000 in
set_option maxHeartbeats 1000000 in
theorem E239 (d : Nat) (t : Nat) (a1 : Int32) (h : QH) : qcl (d + 1) 239 [qR (some t), qI a1] h =
 (qck 12 t h).bind fun _ =>
 qbig (d + 1) 239 2 [sR (some t), sI a1, sI 1, none] [] h := by
  exact qE0 74 [2] (by rfl)
set_option maxRecDepth 1000000 in
set_option maxHeartbeats 1000000 in
theorem E239_2 (d : Nat) (t : Nat) (a1 : Int32) (a2 : Int32) (h : QH) : qbig (d + 1) 239 2 [sR (some t), sI a1, sI a2, none] [] h =
 if a2 = 0 then
  (cI (qcl d 187 [qR (some t)] h) fun x2 h1 =>
   if x2 = 0 then
   (some (none, h1))
  else
   ((qgr 12 12 t h1).bind fun o3 =>
    (qgi 12 16 t h1).bind fun x4 =>
    o3.bind fun p5 => (qai 0 p5 x4 h1).bind fun x6 =>
    cI (qcl d 254 [qI 40] h1) fun x8 h7 =>
    if x6 = x8 then
    (if a1 = 8 then
     (cV (qcl d 184 [qR (some t)] h7) fun h9 =>
      cI (qcl d 187 [qR (some t)] h9) fun x11 h10 =>
      if x11 = 0 then
      (some (none, h10))
     else
      ((qgi 12 16 t h10).bind fun x12 =>
       (qpi 12 16 t (x12 + 1) h10).bind fun h13 =>
       cV (qcl d 242 [qR (some t), qI (a1 + 1)] h13) fun h14 =>
       cI (qcl d 254 [qI 41] h14) fun x16 h15 =>
       cV (qcl d 224 [qR (some t), qI x16] h15) fun h17 =>
       some (none, h17)))
    else
     (cI (qcl d 187 [qR (some t)] h7) fun x19 h18 =>
      if x19 = 0 then
      (some (none, h18))
     else
      ((qgi 12 16 t h18).bind fun x20 =>
       (qpi 12 16 t (x20 + 1) h18).bind fun h21 =>
       cV (qcl d 242 [qR (some t), qI (a1 + 1)] h21) fun h22 =>
       cI (qcl d 254 [qI 41] h22) fun x24 h23 =>
       cV (qcl d 224 [qR (some t), qI x24] h23) fun h25 =>
       some (none, h25))))
   else
    (cV (qcl d 240 [qR (some t), qI a1] h7) fun h26 =>
     cI (qcl d 254 [qI 60] h26) fun x28 h27 =>
     cI (qcl d 264 [qR (some t), qI x28] h27) fun x30 h29 =>
     if x30 = 0 then
     (cI (qcl d 254 [qI 62] h29) fun x32 h31 =>
      cI (qcl d 264 [qR (some t), qI x32] h31) fun x34 h33 =>
      if x34 = 0 then
      (cI (qcl d 254 [qI 61] h33) fun x36 h35 =>
       cV (qcl d 224 [qR (some t), qI x36] h35) fun h37 =>
       cV (qcl d 240 [qR (some t), qI a1] h37) fun h38 =>
       some (none, h38))
     else
      (cV (qcl d 240 [qR (some t), qI a1] h33) fun h39 =>
       some (none, h39)))
    else
     (cV (qcl d 240 [qR (some t), qI a1] h29) fun h40 =>
      some (none, h40)))))
 else
  (cI (qcl d 264 [qR (some t), qI 8] h) fun x42 h41 =>
   qbig (d + 1) 239 2 [sR (some t), sI a1, sI x42, none] [] h41) := by
  exact qE 74 [2] (by rfl)
set_option maxRecDepth 1000000 in
set_option maxHeartbeats 1000000 in
theorem E240 (d : Nat) (t : Nat) (a1 : Int32) (h : QH) : qcl (d + 1) 240 [qR (some t), qI a1] h =
 (qck 12 t h).bind fun _ =>
 cV (qcl d 241 [qR (some t), qI a1] h) fun h1 =>
  qbig (d + 1) 240 5 [sR (some t), sI a1] [] h1 := by
  exact qE0 23 [5] (by rfl)
set_option maxRecDepth 1000000 in
set_option maxHeartbeats 1000000 in
theorem E240_5 (d : Nat) (t : Nat) (a1 : Int32) (h : QH) : qbig (d + 1) 240 5 [sR (some t), sI a1] [] h =
 cI (qcl d 254 [qI 43] h) fun x2 h1 =>
  cI (qcl d 264 [qR (some t), qI x2] h1) fun x4 h3 =>
  if x4 = 0 then
  (cI (qcl d 254 [qI 45] h3) fun x6 h5 =>
   cI (qcl d 264 [qR (some t), qI x6] h5) fun x8 h7 =>
   if x8 = 0 then
   (some (none, h7))
  else
   (cV (qcl d 241 [qR (some t), qI a1] h7) fun h9 =>
    qbig (d + 1) 240 5 [sR (some t), sI a1] [] h9))
 else
  (cV (qcl d 241 [qR (some t), qI a1] h3) fun h10 =>
   qbig (d + 1) 240 5 [sR (some t), sI a1] [] h10) := by
  exact qE 23 [5] (by rfl)
set_option maxRecDepth 1000000 in
set_option maxHeartbeats 1000000 in
theorem E241 (d : Nat) (t : Nat) (a1 : Int32) (h : QH) : qcl (d + 1) 241 [qR (some t), qI a1] h =
 (qck 12 t h).bind fun _ =>
 cV (qcl d 238 [qR (some t), qI a1] h) fun h1 =>
  qbig (d + 1) 241 5 [sR (some t), sI a1] [] h1 := by
  exact qE0 23 [5] (by rfl)
set_option maxRecDepth 1000000 in
set_option maxHeartbeats 1000000 in
theorem E241_5 (d : Nat) (t : Nat) (a1 : Int32) (h : QH) : qbig (d + 1) 241 5 [sR (some t), sI a1] [] h =
 cI (qcl d 254 [qI 42] h) fun x2 h1 =>
  cI (qcl d 264 [qR (some t), qI x2] h1) fun x4 h3 =>
  if x4 = 0 then
  (cI (qcl d 254 [qI 47] h3) fun x6 h5 =>
   cI (qcl d 264 [qR (some t), qI x6] h5) fun x8 h7 =>
   if x8 = 0 then
   (some (none, h7))
  else
   (cV (qcl d 238 [qR (some t), qI a1] h7) fun h9 =>
    qbig (d + 1) 241 5 [sR (some t), sI a1] [] h9))
 else
  (cV (qcl d 238 [qR (some t), qI a1] h3) fun h10 =>
   qbig (d + 1) 241 5 [sR (some t), sI a1] [] h10) := by
  exact qE 23 [5] (by rfl)
set_option maxRecDepth 1000000 in
set_option maxHeartbeats 1000000 in
theorem E242 (d : Nat) (t : Nat) (a1 : Int32) (h : QH) : qcl (d + 1) 242 [qR (some t), qI a1] h =
 (qck 12 t h).bind fun _ =>
 cV (qcl d 236 [qR (some t), qI a1] h) fun h1 =>
  qbig (d + 1) 242 5 [sR (some t), sI a1] [] h1 := by
  exact qE0 17 [5] (by rfl)
set_option maxRecDepth 1000000 in
set_option maxHeartbeats 1000000 in
theorem E242_5 (d : Nat) (t : Nat) (a1 : Int32) (h : QH) : qbig (d + 1) 242 5 [sR (some t), sI a1] [] h =
 cI (qcl d 264 [qR (some t), qI 6] h) fun x2 h1 =>
  if x2 = 0 then
  (some (none, h1))
 else
  (cV (qcl d 236 [qR (some t), qI a1] h1) fun h3 =>
   qbig (d + 1) 242 5 [sR (some t), sI a1] [] h3) := by
  exact qE 17 [5] (by rfl)
set_option maxRecDepth 1000000 in
set_option maxHeartbeats 1000000 in
theorem E243 (d : Nat) (t : Nat) (h : QH) : qcl (d + 1) 243 [qR (some t)] h =
 (qck 12 t h).bind fun _ =>
 (qgi 12 10 t h).bind fun x1 =>
  cV (qcl d 260 [qR (some t), qI x1] h) fun h2 =>
  (qpi 12 10 t 0 h2).bind fun h3 =>
  (qpi 12 16 t 0 h3).bind fun h4 =>
  (qpi 12 17 t 0 h4).bind fun h5 =>
  (qpi 12 18 t (-1) h5).bind fun h6 =>
  cV (qcl d 237 [qR (some t)] h6) fun h7 =>
  qbig (d + 1) 243 34 [sR (some t), sI 1] [] h7 := by
  exact qE0 59 [34] (by rfl)
set_option maxRecDepth 1000000 in
set_option maxHeartbeats 1000000 in
theorem E243_34 (d : Nat) (t : Nat) (a1 : Int32) (h : QH) : qbig (d + 1) 243 34 [sR (some t), sI a1] [] h =
 cI (qcl d 254 [qI 59] h) fun x2 h1 =>
  cI (qcl d 264 [qR (some t), qI x2] h1) fun x4 h3 =>
  if x4 = 0 then
  (cI (qcl d 187 [qR (some t)] h3) fun x6 h5 =>
   if x6 = 0 then
   ((qgi 12 18 t h5).bind fun x7 =>
    (qpi 12 11 t x7 h5).bind fun h8 =>
    cI (qcl d 187 [qR (some t)] h8) fun x10 h9 =>
    if (x10 : Int32) = 0 ∨ (x10 : Int32) = 1 then some (some (qI x10), h9) else none)
  else
   ((qgi 12 16 t h5).bind fun x11 =>
    (qgi 12 15 t h5).bind fun x12 =>
    if x11 < x12 then
    (cV (qcl d 184 [qR (some t)] h5) fun h13 =>
     (qgi 12 18 t h13).bind fun x14 =>
     (qpi 12 11 t x14 h13).bind fun h15 =>
     cI (qcl d 187 [qR (some t)] h15) fun x17 h16 =>
     if (x17 : Int32) = 0 ∨ (x17 : Int32) = 1 then some (some (qI x17), h16) else none)
   else
    ((qgi 12 18 t h5).bind fun x18 =>
     (qpi 12 11 t x18 h5).bind fun h19 =>
     cI (qcl d 187 [qR (some t)] h19) fun x21 h20 =>
     if (x21 : Int32) = 0 ∨ (x21 : Int32) = 1 then some (some (qI x21), h20) else none)))
 else
  (if a1 = 12 then
   (cV (qcl d 184 [qR (some t)] h3) fun h22 =>
    cI (qcl d 187 [qR (some t)] h22) fun x24 h23 =>
    if x24 = 0 then
    (qbig (d + 1) 243 34 [sR (some t), sI (a1 + 1)] [] h23)
   else
    (cV (qcl d 237 [qR (some t)] h23) fun h25 =>
     qbig (d + 1) 243 34 [sR (some t), sI (a1 + 1)] [] h25))
  else
   (cI (qcl d 187 [qR (some t)] h3) fun x27 h26 =>
    if x27 = 0 then
    (qbig (d + 1) 243 34 [sR (some t), sI (a1 + 1)] [] h26)
   else
    (cV (qcl d 237 [qR (some t)] h26) fun h28 =>
     qbig (d + 1) 243 34 [sR (some t), sI (a1 + 1)] [] h28))) := by
  exact qE 59 [34] (by rfl)
set_option maxRecDepth 1000000 in
set_option maxHeartbeats 1000000 in
theorem E244 (d : Nat) (t : Nat) (a1 : Int32) (h : QH) : qcl (d + 1) 244 [qR (some t), qI a1] h =
 (qck 12 t h).bind fun _ =>
 (qpi 12 0 t a1 h).bind fun h1 =>
  (qgr 12 2 t h1).bind fun o2 =>
  o2.bind fun p3 => (qai 0 p3 (-a1) h1).bind fun x4 =>
  o2.bind fun p5 => (qsi 0 p5 (-a1) (x4 + 1) h1).bind fun h6 =>
  some (some (qI a1), h6) := by
  exact qE0 19 [] (by rfl)
set_option maxRecDepth 1000000 in
set_option maxHeartbeats 1000000 in
theorem E245 (d : Nat) (t : Nat) (a1 : Int32) (a2 : Int32) (h : QH) : qcl (d + 1) 245 [qR (some t), qI a1, qI a2] h =
 (qck 12 t h).bind fun _ =>
 (qgr 12 3 t h).bind fun o1 =>
  o1.bind fun p2 => (qai 0 p2 a1 h).bind fun x3 =>
  (qgr 12 3 t h).bind fun o4 =>
  o4.bind fun p5 => (qsi 0 p5 a1 a2 h).bind fun h6 =>
  cI (qcl d 190 [qR (some t), qI x3] h6) fun x8 h7 =>
  some (some (qI x8), h7) := by
  exact qE0 19 [] (by rfl)
set_option maxRecDepth 1000000 in
set_option maxHeartbeats 1000000 in
theorem E246 (d : Nat) (t : Nat) (a1 : Int32) (a2 : Int32) (h : QH) : qcl (d + 1) 246 [qR (some t), qI a1, qI a2] h =
 (qck 12 t h).bind fun _ =>
 cI (qcl d 203 [qR (some t), qI a1] h) fun x2 h1 =>
  if x2 = 0 then
  (some (some (qI (-1)), h1))
 else
  (cI (qcl d 200 [qR (some t), qI a2] h1) fun x4 h3 =>
   if x4 = 0 then
   (some (some (qI (-1)), h3))
  else
   (cI (qcl d 212 [qR (some t), qI a1, qI a2] h3) fun x6 h5 =>
    qbig (d + 1) 246 31 [sR (some t), sI a1, sI a2, sI x6, sI a1, sI 1, none] [] h5)) := by
  exact qE0 79 [31, 92] (by rfl)
set_option maxRecDepth 1000000 in
set_option maxHeartbeats 1000000 in
theorem E246_31 (d : Nat) (t : Nat) (a1 : Int32) (a2 : Int32) (a3 : Int32) (a4 : Int32) (a5 : Int32) (h : QH) : qbig (d + 1) 246 31 [sR (some t), sI a1, sI a2, sI a3, sI a4, sI a5, none] [] h =
 cI (qcl d 232 [qR (some t)] h) fun x2 h1 =>
  if a5 < x2 then
  (cI (qcl d 232 [qR (some t)] h1) fun x4 h3 =>
   if x4 = 0 then none else
   cI (qcl d 212 [qR (some t), qI ((a1 + a5) - (a1 + a5) / x4 * x4), qI a2] h3) fun x6 h5 =>
   cV (qcl d 170 [qR (some t), qI a4, qI a3, qI ((a1 + a5) - (a1 + a5) / x4 * x4), qI x6, qI a2, qI 0, qI 1] h5) fun h7 =>
   cI (qcl d 212 [qR (some t), qI ((a1 + a5) - (a1 + a5) / x4 * x4), qI a2] h7) fun x9 h8 =>
   cI (qcl d 193 [qR (some t)] h8) fun x11 h10 =>
   cI (qcl d 191 [qI x9, qI x11] h10) fun x13 h12 =>
   qbig (d + 1) 246 92 [sR (some t), sI a1, sI a2, sI x13, sI ((a1 + a5) - (a1 + a5) / x4 * x4), sI (a5 + 1), none] [] h12)
 else
  (if a4 = a1 then
   (some (some (qI a3), h1))
  else
   (cI (qcl d 212 [qR (some t), qI a1, qI a2] h1) fun x15 h14 =>
    cV (qcl d 170 [qR (some t), qI a4, qI a3, qI a1, qI x15, qI a2, qI 0, qI 1] h14) fun h16 =>
    cI (qcl d 193 [qR (some t)] h16) fun x18 h17 =>
    some (some (qI x18), h17))) := by
  exact qE 79 [31, 92] (by rfl)
set_option maxRecDepth 1000000 in
set_option maxHeartbeats 1000000 in
theorem E246_92 (d : Nat) (t : Nat) (a1 : Int32) (a2 : Int32) (a3 : Int32) (a4 : Int32) (a5 : Int32) (h : QH) : qbig (d + 1) 246 92 [sR (some t), sI a1, sI a2, sI a3, sI a4, sI a5, none] [] h =
 qbig (d + 1) 246 31 [sR (some t), sI a1, sI a2, sI a3, sI a4, sI a5, none] [] h := by
  exact qE 79 [31, 92] (by rfl)
set_option maxRecDepth 1000000 in
set_option maxHeartbeats 1000000 in
theorem E247 (d : Nat) (t : Nat) (a1 : Int32) (h : QH) : qcl (d + 1) 247 [qR (some t), qI a1] h =
 (qck 12 t h).bind fun _ =>
 cI (qcl d 200 [qR (some t), qI a1] h) fun x2 h1 =>
  if x2 = 0 then
  (cI (qcl d 244 [qR (some t), qI (-2)] h1) fun x4 h3 =>
   some (some (qI x4), h3))
 else
  ((qgi 12 10 t h1).bind fun x5 =>
   (qpi 12 10 t 0 h1).bind fun h6 =>
   if x5 = 0 then
   (cI (qcl d 244 [qR (some t), qI (-6)] h6) fun x8 h7 =>
    some (some (qI x8), h7))
  else
   ((qpi 12 6 t 0 h6).bind fun h9 =>
    qbig (d + 1) 247 46 [sR (some t), sI a1, sI x5, sI 0, sI 0, none] [] h9)) := by
  exact qE0 91 [46, 110] (by rfl)
set_option maxRecDepth 1000000 in
set_option maxHeartbeats 1000000 in
theorem E247_46 (d : Nat) (t : Nat) (a1 : Int32) (a2 : Int32) (a3 : Int32) (a4 : Int32) (h : QH) : qbig (d + 1) 247 46 [sR (some t), sI a1, sI a2, sI a3, sI a4, none] [] h =
 if a4 < a2 then
  (cI (qcl d 232 [qR (some t)] h) fun x2 h1 =>
   if a4 < x2 then
   ((qgr 12 8 t h1).bind fun o3 =>
    o3.bind fun p4 => (qai 1 p4 a4 h1).bind fun x5 =>
    cI (qcl d 218 [qI x5, qI 0, qI 9] h1) fun x7 h6 =>
    if x7 = 0 then
    (if (0 : Int32) = 0 then
     (qbig (d + 1) 247 110 [sR (some t), sI a1, sI a2, sI a3, sI a4, sI 0] [] h6)
    else
     ((qgr 12 3 t h6).bind fun o8 =>
      (qgr 12 8 t h6).bind fun o9 =>
      o9.bind fun p10 => (qai 1 p10 a4 h6).bind fun x11 =>
      o8.bind fun p12 => (qsi 0 p12 ((60 + (5 * a4)) + a1) x11 h6).bind fun h13 =>
      qbig (d + 1) 247 110 [sR (some t), sI a1, sI a2, sI a3, sI a4, sI 0] [] h13))
   else
    (if (1 : Int32) = 0 then
     (qbig (d + 1) 247 110 [sR (some t), sI a1, sI a2, sI a3, sI a4, sI 1] [] h6)
    else
     ((qgr 12 3 t h6).bind fun o14 =>
      (qgr 12 8 t h6).bind fun o15 =>
      o15.bind fun p16 => (qai 1 p16 a4 h6).bind fun x17 =>
      o14.bind fun p18 => (qsi 0 p18 ((60 + (5 * a4)) + a1) x17 h6).bind fun h19 =>
      qbig (d + 1) 247 110 [sR (some t), sI a1, sI a2, sI a3, sI a4, sI 1] [] h19)))
  else
   (if (0 : Int32) = 0 then
    (qbig (d + 1) 247 110 [sR (some t), sI a1, sI a2, sI a3, sI a4, sI 0] [] h1)
   else
    ((qgr 12 3 t h1).bind fun o20 =>
     (qgr 12 8 t h1).bind fun o21 =>
     o21.bind fun p22 => (qai 1 p22 a4 h1).bind fun x23 =>
     o20.bind fun p24 => (qsi 0 p24 ((60 + (5 * a4)) + a1) x23 h1).bind fun h25 =>
     qbig (d + 1) 247 110 [sR (some t), sI a1, sI a2, sI a3, sI a4, sI 0] [] h25)))
 else
  (cI (qcl d 190 [qR (some t), qI a3] h) fun x27 h26 =>
   some (some (qI x27), h26)) := by
  exact qE 91 [46, 110] (by rfl)
set_option maxRecDepth 1000000 in
set_option maxHeartbeats 1000000 in
theorem E247_110 (d : Nat) (t : Nat) (a1 : Int32) (a2 : Int32) (a3 : Int32) (a4 : Int32) (a5 : Int32) (h : QH) : qbig (d + 1) 247 110 [sR (some t), sI a1, sI a2, sI a3, sI a4, sI a5] [] h =
 if a5 = 0 then
  ((qgi 12 6 t h).bind fun x1 =>
   if a5 = 0 then
   ((qpi 12 6 t (x1 + 1) h).bind fun h2 =>
    qbig (d + 1) 247 46 [sR (some t), sI a1, sI a2, sI (a3 + 0), sI (a4 + 1), none] [] h2)
  else
   ((qpi 12 6 t (x1 + 0) h).bind fun h3 =>
    qbig (d + 1) 247 46 [sR (some t), sI a1, sI a2, sI (a3 + 0), sI (a4 + 1), none] [] h3))
 else
  ((qgi 12 6 t h).bind fun x4 =>
   if a5 = 0 then
   ((qpi 12 6 t (x4 + 1) h).bind fun h5 =>
    qbig (d + 1) 247 46 [sR (some t), sI a1, sI a2, sI (a3 + 1), sI (a4 + 1), none] [] h5)
  else
   ((qpi 12 6 t (x4 + 0) h).bind fun h6 =>
    qbig (d + 1) 247 46 [sR (some t), sI a1, sI a2, sI (a3 + 1), sI (a4 + 1), none] [] h6)) := by
  exact qE 91 [46, 110] (by rfl)
set_option maxRecDepth 1000000 in
set_option maxHeartbeats 1000000 in
theorem E248 (d : Nat) (t : Nat) (a1 : Int32) (a2 : Int32) (a3 : Int32) (h : QH) : qcl (d + 1) 248 [qR (some t), qI a1, qI a2, qI a3] h =
 (qck 12 t h).bind fun _ =>
 cI (qcl d 207 [qR (some t), qI a1, qI a2, qI a3] h) fun x2 h1 =>
  if x2 = 0 then
  (cI (qcl d 244 [qR (some t), qI (-1)] h1) fun x4 h3 =>
   some (some (qI x4), h3))
 else
  (cI (qcl d 200 [qR (some t), qI a1] h1) fun x6 h5 =>
   if x6 = 0 then
   (cI (qcl d 244 [qR (some t), qI (-2)] h5) fun x8 h7 =>
    some (some (qI x8), h7))
  else
   (cI (qcl d 245 [qR (some t), qI ((40 + (4 * a1)) + a2), qI a3] h5) fun x10 h9 =>
    some (some (qI x10), h9))) := by
  exact qE0 34 [] (by rfl)
set_option maxRecDepth 1000000 in
set_option maxHeartbeats 1000000 in
theorem E249 (d : Nat) (t : Nat) (a1 : Int32) (a2 : Int32) (a3 : Int32) (a4 : Int32) (h : QH) : qcl (d + 1) 249 [qR (some t), qI a1, qI a2, qI a3, qI a4] h =
 (qck 12 t h).bind fun _ =>
 cI (qcl d 218 [qI a1, qI 0, qI 29] h) fun x2 h1 =>
  if x2 = 0 then
  (cI (qcl d 244 [qR (some t), qI (-1)] h1) fun x4 h3 =>
   some (some (qI x4), h3))
 else
  (cI (qcl d 232 [qR (some t)] h1) fun x6 h5 =>
   cI (qcl d 218 [qI a4, qI 0, qI (((1 : Int32) <<< (x6 &&& 31)) - 1)] h5) fun x8 h7 =>
   if x8 = 0 then
   (cI (qcl d 244 [qR (some t), qI (-1)] h7) fun x10 h9 =>
    some (some (qI x10), h9))
  else
   (cI (qcl d 203 [qR (some t), qI a2] h7) fun x12 h11 =>
    if x12 = 0 then
    (cI (qcl d 244 [qR (some t), qI (-2)] h11) fun x14 h13 =>
     some (some (qI x14), h13))
   else
    (cI (qcl d 200 [qR (some t), qI a3] h11) fun x16 h15 =>
     if x16 = 0 then
     (cI (qcl d 244 [qR (some t), qI (-2)] h15) fun x18 h17 =>
      some (some (qI x18), h17))
    else
     ((qgr 12 3 t h15).bind fun o19 =>
      o19.bind fun p20 => (qai 0 p20 410 h15).bind fun x21 =>
      if x21 = 60 then
      (cI (qcl d 244 [qR (some t), qI (-5)] h15) fun x23 h22 =>
       some (some (qI x23), h22))
     else
      ((qgr 12 3 t h15).bind fun o24 =>
       o24.bind fun p25 => (qsi 0 p25 (100 + (5 * x21)) a1 h15).bind fun h26 =>
       (qgr 12 3 t h26).bind fun o27 =>
       o27.bind fun p28 => (qsi 0 p28 ((100 + (5 * x21)) + 1) a2 h26).bind fun h29 =>
       (qgr 12 3 t h29).bind fun o30 =>
       o30.bind fun p31 => (qsi 0 p31 ((100 + (5 * x21)) + 2) a3 h29).bind fun h32 =>
       (qgr 12 3 t h32).bind fun o33 =>
       o33.bind fun p34 => (qsi 0 p34 ((100 + (5 * x21)) + 3) a4 h32).bind fun h35 =>
       (qgr 12 3 t h35).bind fun o36 =>
       o36.bind fun p37 => (qsi 0 p37 ((100 + (5 * x21)) + 4) 0 h35).bind fun h38 =>
       (qgr 12 3 t h38).bind fun o39 =>
       o39.bind fun p40 => (qai 0 p40 410 h38).bind fun x41 =>
       o39.bind fun p42 => (qsi 0 p42 410 (x41 + 1) h38).bind fun h43 =>
       cI (qcl d 190 [qR (some t), qI x21] h43) fun x45 h44 =>
       some (some (qI x45), h44)))))) := by
  exact qE0 113 [] (by rfl)
set_option maxRecDepth 1000000 in
set_option maxHeartbeats 1000000 in
theorem E250 (d : Nat) (t : Nat) (a1 : Int32) (a2 : Int32) (h : QH) : qcl (d + 1) 250 [qR (some t), qI a1, qI a2] h =
 (qck 12 t h).bind fun _ =>
 (qgr 12 3 t h).bind fun o1 =>
  o1.bind fun p2 => (qai 0 p2 ((100 + (5 * a1)) + a2) h).bind fun x3 =>
  some (some (qI x3), h) := by
  exact qE0 16 [] (by rfl)
set_option maxRecDepth 1000000 in
set_option maxHeartbeats 1000000 in
theorem E251 (d : Nat) (t : Nat) (a1 : Int32) (h : QH) : qcl (d + 1) 251 [qR (some t), qI a1] h =
 (qck 12 t h).bind fun _ =>
 cI (qcl d 232 [qR (some t)] h) fun x2 h1 =>
  qbig (d + 1) 251 11 [sR (some t), sI a1, sI (((1 : Int32) <<< (x2 &&& 31)) - 1), sI (((1 : Int32) <<< (x2 &&& 31)) - 1)] [] h1 := by
  exact qE0 35 [11] (by rfl)
set_option maxRecDepth 1000000 in
set_option maxHeartbeats 1000000 in
theorem E251_11 (d : Nat) (t : Nat) (a1 : Int32) (a2 : Int32) (a3 : Int32) (h : QH) : qbig (d + 1) 251 11 [sR (some t), sI a1, sI a2, sI a3] [] h =
 if a3 < 0 then
  (some (none, h))
 else
  ((qgr 12 39 t h).bind fun o1 =>
   if a3 = a2 then
   (o1.bind fun p2 => (qsi 0 p2 a3 0 h).bind fun h3 =>
    qbig (d + 1) 251 11 [sR (some t), sI a1, sI a2, sI (a3 + (-1))] [] h3)
  else
   (cI (qcl d 252 [qR (some t), qI a3, qI a1, qI (-1)] h) fun x5 h4 =>
    cI (qcl d 217 [qI 1000, qI x5] h4) fun x7 h6 =>
    o1.bind fun p8 => (qsi 0 p8 a3 x7 h6).bind fun h9 =>
    qbig (d + 1) 251 11 [sR (some t), sI a1, sI a2, sI (a3 + (-1))] [] h9)) := by
  exact qE 35 [11] (by rfl)
set_option maxRecDepth 1000000 in
set_option maxHeartbeats 1000000 in
theorem E252 (d : Nat) (t : Nat) (a1 : Int32) (a2 : Int32) (a3 : Int32) (h : QH) : qcl (d + 1) 252 [qR (some t), qI a1, qI a2, qI a3] h =
 (qck 12 t h).bind fun _ =>
 qbig (d + 1) 252 8 [sR (some t), sI a1, sI a2, sI a3, sI 1000, sI 0, none, none] [] h := by
  exact qE0 75 [8, 69] (by rfl)
set_option maxRecDepth 1000000 in
set_option maxHeartbeats 1000000 in
theorem E252_8 (d : Nat) (t : Nat) (a1 : Int32) (a2 : Int32) (a3 : Int32) (a4 : Int32) (a5 : Int32) (h : QH) : qbig (d + 1) 252 8 [sR (some t), sI a1, sI a2, sI a3, sI a4, sI a5, none, none] [] h =
 cI (qcl d 232 [qR (some t)] h) fun x2 h1 =>
  if a5 < x2 then
  (cI (qcl d 196 [qI a1, qI a5] h1) fun x4 h3 =>
   if x4 = 0 then
   (qbig (d + 1) 252 8 [sR (some t), sI a1, sI a2, sI a3, sI a4, sI (a5 + 1), none, none] [] h3)
  else
   (if a3 = (-1) then
    ((qgr 12 3 t h3).bind fun o5 =>
     o5.bind fun p6 => (qai 0 p6 (32 + a5) h3).bind fun x7 =>
     cI (qcl d 232 [qR (some t)] h3) fun x9 h8 =>
     qbig (d + 1) 252 69 [sR (some t), sI a1, sI a2, sI a3, sI a4, sI a5, sI ((x7 &&& (a1 ^^^ (-1))) &&& (((1 : Int32) <<< (x9 &&& 31)) - 1)), sI ((x7 &&& (a1 ^^^ (-1))) &&& (((1 : Int32) <<< (x9 &&& 31)) - 1))] [] h8)
   else
    (if a5 = a3 then
     ((qgr 12 3 t h3).bind fun o10 =>
      o10.bind fun p11 => (qai 0 p11 (32 + a5) h3).bind fun x12 =>
      cI (qcl d 232 [qR (some t)] h3) fun x14 h13 =>
      qbig (d + 1) 252 69 [sR (some t), sI a1, sI a2, sI a3, sI a4, sI a5, sI ((x12 &&& (a1 ^^^ (-1))) &&& (((1 : Int32) <<< (x14 &&& 31)) - 1)), sI ((x12 &&& (a1 ^^^ (-1))) &&& (((1 : Int32) <<< (x14 &&& 31)) - 1))] [] h13)
    else
     (qbig (d + 1) 252 8 [sR (some t), sI a1, sI a2, sI a3, sI a4, sI (a5 + 1), none, none] [] h3))))
 else
  (some (some (qI a4), h1)) := by
  exact qE 75 [8, 69] (by rfl)
set_option maxRecDepth 1000000 in
set_option maxHeartbeats 1000000 in
theorem E252_69 (d : Nat) (t : Nat) (a1 : Int32) (a2 : Int32) (a3 : Int32) (a4 : Int32) (a5 : Int32) (a6 : Int32) (a7 : Int32) (h : QH) : qbig (d + 1) 252 69 [sR (some t), sI a1, sI a2, sI a3, sI a4, sI a5, sI a6, sI a7] [] h =
 if 0 < a7 then
  (cI (qcl d 228 [qI a7] h) fun x2 h1 =>
   cI (qcl d 168 [qR (some t), qI a2, qI 1] h1) fun x4 h3 =>
   if x4 < x2 then
   (qbig (d + 1) 252 69 [sR (some t), sI a1, sI a2, sI a3, sI a4, sI a5, sI a6, sI ((a7 - 1) &&& a6)] [] h3)
  else
   ((qgr 12 39 t h3).bind fun o5 =>
    o5.bind fun p6 => (qai 0 p6 (a1 ||| a7) h3).bind fun x7 =>
    cI (qcl d 217 [qI a4, qI (1 + x7)] h3) fun x9 h8 =>
    qbig (d + 1) 252 69 [sR (some t), sI a1, sI a2, sI a3, sI x9, sI a5, sI a6, sI ((a7 - 1) &&& a6)] [] h8))
 else
  (qbig (d + 1) 252 8 [sR (some t), sI a1, sI a2, sI a3, sI a4, sI (a5 + 1), none, none] [] h) := by
  exact qE 75 [8, 69] (by rfl)
set_option maxRecDepth 1000000 in
set_option maxHeartbeats 1000000 in
theorem E253 (d : Nat) (t : Nat) (a1 : Int32) (a2 : Int32) (a3 : Int32) (h : QH) : qcl (d + 1) 253 [qR (some t), qI a1, qI a2, qI a3] h =
 (qck 12 t h).bind fun _ =>
 qbig (d + 1) 253 5 [sR (some t), sI a1, sI a2, sI a3, sI 255, none, none, none] [] h := by
  exact qE0 65 [5, 38] (by rfl)
set_option maxRecDepth 1000000 in
set_option maxHeartbeats 1000000 in
theorem E253_5 (d : Nat) (t : Nat) (a1 : Int32) (a2 : Int32) (a3 : Int32) (a4 : Int32) (h : QH) : qbig (d + 1) 253 5 [sR (some t), sI a1, sI a2, sI a3, sI a4, none, none, none] [] h =
 if a4 < 0 then
  (some (none, h))
 else
  ((qgr 12 34 t h).bind fun o1 =>
   o1.bind fun p2 => (qai 2 p2 (a1 + a4) h).bind fun x3 =>
   if x3 = 0 then
   (qbig (d + 1) 253 38 [sR (some t), sI a1, sI a2, sI a3, sI a4, sI 0, sI (a4 &&& a2), sI (a4 &&& a2)] [] h)
  else
   (qbig (d + 1) 253 5 [sR (some t), sI a1, sI a2, sI a3, sI (a4 + (-1)), none, none, none] [] h)) := by
  exact qE 65 [5, 38] (by rfl)
set_option maxRecDepth 1000000 in
set_option maxHeartbeats 1000000 in
theorem E253_38 (d : Nat) (t : Nat) (a1 : Int32) (a2 : Int32) (a3 : Int32) (a4 : Int32) (a5 : Int32) (a6 : Int32) (a7 : Int32) (h : QH) : qbig (d + 1) 253 38 [sR (some t), sI a1, sI a2, sI a3, sI a4, sI a5, sI a6, sI a7] [] h =
 if 0 < a7 then
  (if a5 = 0 then
   (cI (qcl d 228 [qI a7] h) fun x2 h1 =>
    if a3 < x2 then
    (qbig (d + 1) 253 38 [sR (some t), sI a1, sI a2, sI a3, sI a4, sI 0, sI a6, sI ((a7 - 1) &&& a6)] [] h1)
   else
    ((qgr 12 34 t h1).bind fun o3 =>
     o3.bind fun p4 => (qai 2 p4 (a1 + (a4 &&& (a7 ^^^ (-1)))) h1).bind fun x5 =>
     if x5 = 0 then
     (qbig (d + 1) 253 38 [sR (some t), sI a1, sI a2, sI a3, sI a4, sI 0, sI a6, sI ((a7 - 1) &&& a6)] [] h1)
    else
     (qbig (d + 1) 253 38 [sR (some t), sI a1, sI a2, sI a3, sI a4, sI 1, sI a6, sI ((a7 - 1) &&& a6)] [] h1)))
  else
   ((qgr 12 34 t h).bind fun o6 =>
    o6.bind fun p7 => (qsi 2 p7 (a1 + a4) (a5 &&& 1) h).bind fun h8 =>
    qbig (d + 1) 253 5 [sR (some t), sI a1, sI a2, sI a3, sI (a4 + (-1)), none, none, none] [] h8))
 else
  ((qgr 12 34 t h).bind fun o9 =>
   o9.bind fun p10 => (qsi 2 p10 (a1 + a4) (a5 &&& 1) h).bind fun h11 =>
   qbig (d + 1) 253 5 [sR (some t), sI a1, sI a2, sI a3, sI (a4 + (-1)), none, none, none] [] h11) := by
  exact qE 65 [5, 38] (by rfl)
