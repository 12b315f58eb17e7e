set_option maxRecDepth 1000000 in
set_option maxHeartbeats 1000000 in
theorem E172 (d : Nat) (t : Nat) (a1 : Int32) (a2 : Int32) (h : QH) : qcl (d + 1) 172 [qR (some t), qI a1, qI a2] h =
 (qck 12 t h).bind fun _ =>
 (qgi 12 37 t h).bind fun x1 =>
  (qgi 12 1 t h).bind fun x2 =>
  if x1 = x2 then
  ((qgi 12 35 t h).bind fun x3 =>
   if x3 = a1 then
   ((qgi 12 36 t h).bind fun x4 =>
    if x4 = a2 then
    (some (none, h))
   else
    ((qgi 12 1 t h).bind fun x5 =>
     (qpi 12 37 t x5 h).bind fun h6 =>
     (qpi 12 35 t a1 h6).bind fun h7 =>
     (qpi 12 36 t a2 h7).bind fun h8 =>
     cI (qcl d 232 [qR (some t)] h8) fun x10 h9 =>
     if a2 = (-1) then
     ((qpi 12 38 t ((((1 : Int32) <<< (x10 &&& 31)) - 1) &&& (0 ^^^ (-1))) h9).bind fun h11 =>
      qbig (d + 1) 172 75 [sR (some t), none, none, sI 0] [] h11)
    else
     ((qpi 12 38 t ((((1 : Int32) <<< (x10 &&& 31)) - 1) &&& (((1 : Int32) <<< (a2 &&& 31)) ^^^ (-1))) h9).bind fun h12 =>
      qbig (d + 1) 172 75 [sR (some t), none, none, sI 0] [] h12)))
  else
   ((qgi 12 1 t h).bind fun x13 =>
    (qpi 12 37 t x13 h).bind fun h14 =>
    (qpi 12 35 t a1 h14).bind fun h15 =>
    (qpi 12 36 t a2 h15).bind fun h16 =>
    cI (qcl d 232 [qR (some t)] h16) fun x18 h17 =>
    if a2 = (-1) then
    ((qpi 12 38 t ((((1 : Int32) <<< (x18 &&& 31)) - 1) &&& (0 ^^^ (-1))) h17).bind fun h19 =>
     qbig (d + 1) 172 75 [sR (some t), none, none, sI 0] [] h19)
   else
    ((qpi 12 38 t ((((1 : Int32) <<< (x18 &&& 31)) - 1) &&& (((1 : Int32) <<< (a2 &&& 31)) ^^^ (-1))) h17).bind fun h20 =>
     qbig (d + 1) 172 75 [sR (some t), none, none, sI 0] [] h20)))
 else
  ((qgi 12 1 t h).bind fun x21 =>
   (qpi 12 37 t x21 h).bind fun h22 =>
   (qpi 12 35 t a1 h22).bind fun h23 =>
   (qpi 12 36 t a2 h23).bind fun h24 =>
   cI (qcl d 232 [qR (some t)] h24) fun x26 h25 =>
   if a2 = (-1) then
   ((qpi 12 38 t ((((1 : Int32) <<< (x26 &&& 31)) - 1) &&& (0 ^^^ (-1))) h25).bind fun h27 =>
    qbig (d + 1) 172 75 [sR (some t), none, none, sI 0] [] h27)
  else
   ((qpi 12 38 t ((((1 : Int32) <<< (x26 &&& 31)) - 1) &&& (((1 : Int32) <<< (a2 &&& 31)) ^^^ (-1))) h25).bind fun h28 =>
    qbig (d + 1) 172 75 [sR (some t), none, none, sI 0] [] h28)) := by
  exact qE0 61 [75] (by rfl)
set_option maxRecDepth 1000000 in
set_option maxHeartbeats 1000000 in
theorem E172_75 (d : Nat) (t : Nat) (a3 : Int32) (h : QH) : qbig (d + 1) 172 75 [sR (some t), none, none, sI a3] [] h =
 if a3 < 7936 then
  ((qgr 12 33 t h).bind fun o1 =>
   o1.bind fun p2 => (qsi 0 p2 a3 (-1) h).bind fun h3 =>
   qbig (d + 1) 172 75 [sR (some t), none, none, sI (a3 + 1)] [] h3)
 else
  (some (none, h)) := by
  exact qE 61 [75] (by rfl)
set_option maxRecDepth 1000000 in
set_option maxHeartbeats 1000000 in
theorem E173 (d : Nat) (t : Nat) (a1 : Int32) (a2 : Int32) (a3 : Int32) (h : QH) : qcl (d + 1) 173 [qR (some t), qI a1, qI a2, qI a3] h =
 (qck 12 t h).bind fun _ =>
 cI (qcl d 218 [qI a1, qI 0, qI 29] h) fun x2 h1 =>
  if x2 = 0 then
  (some (some (qI (-1)), h1))
 else
  (cI (qcl d 203 [qR (some t), qI a2] h1) fun x4 h3 =>
   if x4 = 0 then
   (some (some (qI (-1)), h3))
  else
   (cI (qcl d 200 [qR (some t), qI a3] h3) fun x6 h5 =>
    if x6 = 0 then
    (some (some (qI (-1)), h5))
   else
    (cV (qcl d 219 [qR (some t), qI a1] h5) fun h7 =>
     (qgr 12 23 t h7).bind fun o8 =>
     o8.bind fun p9 => (qai 0 p9 ((5 * a2) + a3) h7).bind fun x10 =>
     some (some (qI x10), h7)))) := by
  exact qE0 32 [] (by rfl)
set_option maxRecDepth 1000000 in
set_option maxHeartbeats 1000000 in
theorem E174 (d : Nat) (t : Nat) (a1 : Int32) (h : QH) : qcl (d + 1) 174 [qR (some t), qI a1] h =
 (qck 12 t h).bind fun _ =>
 cI (qcl d 200 [qR (some t), qI a1] h) fun x2 h1 =>
  if x2 = 0 then
  (some (some (qI (-1)), h1))
 else
  (qbig (d + 1) 174 19 [sR (some t), sI a1, sI (-1), sI 1000, sI 0, none] [] h1) := by
  exact qE0 41 [19, 61] (by rfl)
set_option maxRecDepth 1000000 in
set_option maxHeartbeats 1000000 in
theorem E174_19 (d : Nat) (t : Nat) (a1 : Int32) (a2 : Int32) (a3 : Int32) (a4 : Int32) (h : QH) : qbig (d + 1) 174 19 [sR (some t), sI a1, sI a2, sI a3, sI a4, none] [] h =
 cI (qcl d 232 [qR (some t)] h) fun x2 h1 =>
  if a4 < x2 then
  (cI (qcl d 261 [qR (some t), qI a1, qI a4] h1) fun x4 h3 =>
   if x4 = (-1) then
   (qbig (d + 1) 174 61 [sR (some t), sI a1, sI a2, sI a3, sI (a4 + 1), none] [] h3)
  else
   (if x4 < a3 then
    (qbig (d + 1) 174 61 [sR (some t), sI a1, sI a4, sI x4, sI (a4 + 1), none] [] h3)
   else
    (qbig (d + 1) 174 61 [sR (some t), sI a1, sI a2, sI a3, sI (a4 + 1), none] [] h3)))
 else
  (some (some (qI a2), h1)) := by
  exact qE 41 [19, 61] (by rfl)
set_option maxRecDepth 1000000 in
set_option maxHeartbeats 1000000 in
theorem E174_61 (d : Nat) (t : Nat) (a1 : Int32) (a2 : Int32) (a3 : Int32) (a4 : Int32) (h : QH) : qbig (d + 1) 174 61 [sR (some t), sI a1, sI a2, sI a3, sI a4, none] [] h =
 qbig (d + 1) 174 19 [sR (some t), sI a1, sI a2, sI a3, sI a4, none] [] h := by
  exact qE 41 [19, 61] (by rfl)
set_option maxRecDepth 1000000 in
set_option maxHeartbeats 1000000 in
theorem E175 (d : Nat) (t : Nat) (a1 : Int32) (h : QH) : qcl (d + 1) 175 [qR (some t), qI a1] h =
 (qck 12 t h).bind fun _ =>
 cI (qcl d 233 [qR (some t), qI a1] h) fun x2 h1 =>
  qbig (d + 1) 175 6 [sR (some t), sI a1, sI x2, none] [] h1 := by
  exact qE0 34 [6] (by rfl)
set_option maxRecDepth 1000000 in
set_option maxHeartbeats 1000000 in
theorem E175_6 (d : Nat) (t : Nat) (a1 : Int32) (a2 : Int32) (h : QH) : qbig (d + 1) 175 6 [sR (some t), sI a1, sI a2, none] [] h =
 cI (qcl d 231 [qR (some t), qI 7] h) fun x2 h1 =>
  if x2 = 0 then
  (if (a2 : Int32) = 0 ∨ (a2 : Int32) = 1 then some (some (qI a2), h1) else none)
 else
  (if a1 = 0 then
   (cI (qcl d 233 [qR (some t), qI 0] h1) fun x4 h3 =>
    if a2 = 0 then
    (qbig (d + 1) 175 6 [sR (some t), sI a1, sI 0, none] [] h3)
   else
    (if x4 = 0 then
     (qbig (d + 1) 175 6 [sR (some t), sI a1, sI 0, none] [] h3)
    else
     (qbig (d + 1) 175 6 [sR (some t), sI a1, sI 1, none] [] h3)))
  else
   (if a2 = 0 then
    (cI (qcl d 233 [qR (some t), qI 0] h1) fun x6 h5 =>
     if a2 = 0 then
     (qbig (d + 1) 175 6 [sR (some t), sI a1, sI 0, none] [] h5)
    else
     (if x6 = 0 then
      (qbig (d + 1) 175 6 [sR (some t), sI a1, sI 0, none] [] h5)
     else
      (qbig (d + 1) 175 6 [sR (some t), sI a1, sI 1, none] [] h5)))
   else
    (cI (qcl d 233 [qR (some t), qI 1] h1) fun x8 h7 =>
     if a2 = 0 then
     (qbig (d + 1) 175 6 [sR (some t), sI a1, sI 0, none] [] h7)
    else
     (if x8 = 0 then
      (qbig (d + 1) 175 6 [sR (some t), sI a1, sI 0, none] [] h7)
     else
      (qbig (d + 1) 175 6 [sR (some t), sI a1, sI 1, none] [] h7))))) := by
  exact qE 34 [6] (by rfl)
set_option maxRecDepth 1000000 in
set_option maxHeartbeats 1000000 in
theorem E176 (d : Nat) (t : Nat) (a1 : Int64) (a3 : Int32) (h : QH) : qcl (d + 1) 176 [qR (some t), qL a1, qI a3] h =
 (qck 12 t h).bind fun _ =>
 if a3 = 0 then
  ((qgi 12 21 t h).bind fun x1 =>
   if x1 = 0 then
   (some (some (qL a1), h))
  else
   (some (some (qL ((0 : Int32).toInt64)), h)))
 else
  (if 0 < (lg_cmp a1 ((1000000000 : Int32).toInt64)) then
   ((qpz 12 21 t 1 h).bind fun h2 =>
    (qgi 12 21 t h2).bind fun x3 =>
    if x3 = 0 then
    (some (some (qL a1), h2))
   else
    (some (some (qL ((0 : Int32).toInt64)), h2)))
  else
   (if (lg_cmp a1 (((-1000000000) : Int32).toInt64)) < 0 then
    ((qpz 12 21 t 1 h).bind fun h4 =>
     (qgi 12 21 t h4).bind fun x5 =>
     if x5 = 0 then
     (some (some (qL a1), h4))
    else
     (some (some (qL ((0 : Int32).toInt64)), h4)))
   else
    ((qgi 12 21 t h).bind fun x6 =>
     if x6 = 0 then
     (some (some (qL a1), h))
    else
     (some (some (qL ((0 : Int32).toInt64)), h))))) := by
  exact qE0 25 [] (by rfl)
set_option maxRecDepth 1000000 in
set_option maxHeartbeats 1000000 in
theorem E177 (d : Nat) (t : Nat) (h : QH) : qcl (d + 1) 177 [qR (some t)] h =
 (qck 12 t h).bind fun _ =>
 (qgr 12 3 t h).bind fun o1 =>
  o1.bind fun p2 => (qai 0 p2 410 h).bind fun x3 =>
  (qgr 12 3 t h).bind fun o4 =>
  o4.bind fun p5 => (qsi 0 p5 410 0 h).bind fun h6 =>
  (qgi 12 1 t h6).bind fun x7 =>
  (qpi 12 1 t (x7 + 1) h6).bind fun h8 =>
  some (some (qI x3), h8) := by
  exact qE0 23 [] (by rfl)
set_option maxRecDepth 1000000 in
set_option maxHeartbeats 1000000 in
theorem E178 (d : Nat) (t : Nat) (a1 : Int32) (h : QH) : qcl (d + 1) 178 [qR (some t), qI a1] h =
 (qck 12 t h).bind fun _ =>
 (qgi 12 20 t h).bind fun x1 =>
  if a1 < x1 then
  ((qgr 12 3 t h).bind fun o2 =>
   o2.bind fun p3 => (qai 0 p3 (420 + a1) h).bind fun x4 =>
   some (some (qI x4), h))
 else
  (some (some (qI 0), h)) := by
  exact qE0 18 [] (by rfl)
set_option maxRecDepth 1000000 in
set_option maxHeartbeats 1000000 in
theorem E179 (d : Nat) (t : Nat) (a1 : Int32) (h : QH) : qcl (d + 1) 179 [qR (some t), qI a1] h =
 (qck 12 t h).bind fun _ =>
 if a1 = 0 then
  (cI (qcl d 232 [qR (some t)] h) fun x29 h28 =>
   some (some (qI x29), h28))
 else
  (if a1 = 1 then
  (cI (qcl d 169 [qR (some t)] h) fun x27 h26 =>
   some (some (qI x27), h26))
 else
  (if a1 = 2 then
  ((qgr 12 3 t h).bind fun o23 =>
   o23.bind fun p24 => (qai 0 p24 411 h).bind fun x25 =>
   some (some (qI x25), h))
 else
  (if a1 = 3 then
  ((qgr 12 3 t h).bind fun o20 =>
   o20.bind fun p21 => (qai 0 p21 410 h).bind fun x22 =>
   some (some (qI x22), h))
 else
  (if a1 = 4 then
  ((qgi 12 10 t h).bind fun x19 =>
   some (some (qI x19), h))
 else
  (if a1 = 5 then
  ((qgr 12 2 t h).bind fun o16 =>
   o16.bind fun p17 => (qai 0 p17 (a1 - 4) h).bind fun x18 =>
   some (some (qI x18), h))
 else
  (if a1 = 6 then
  ((qgr 12 2 t h).bind fun o13 =>
   o13.bind fun p14 => (qai 0 p14 (a1 - 4) h).bind fun x15 =>
   some (some (qI x15), h))
 else
  (if a1 = 7 then
  ((qgr 12 2 t h).bind fun o10 =>
   o10.bind fun p11 => (qai 0 p11 (a1 - 4) h).bind fun x12 =>
   some (some (qI x12), h))
 else
  (if a1 = 8 then
  ((qgr 12 2 t h).bind fun o7 =>
   o7.bind fun p8 => (qai 0 p8 5 h).bind fun x9 =>
   some (some (qI x9), h))
 else
  (if a1 = 9 then
  ((qgr 12 2 t h).bind fun o4 =>
   o4.bind fun p5 => (qai 0 p5 6 h).bind fun x6 =>
   some (some (qI x6), h))
 else
  (if a1 = 10 then
  ((qgr 12 3 t h).bind fun o1 =>
   o1.bind fun p2 => (qai 0 p2 413 h).bind fun x3 =>
   some (some (qI x3), h))
 else
  (some (some (qI (-1)), h)))))))))))) := by
  exact qE0 50 [] (by rfl)
set_option maxRecDepth 1000000 in
set_option maxHeartbeats 1000000 in
theorem E180 (d : Nat) (t : Nat) (a1 : Int32) (a2 : Int32) (h : QH) : qcl (d + 1) 180 [qR (some t), qI a1, qI a2] h =
 (qck 12 t h).bind fun _ =>
 (qgi 12 42 t h).bind fun x1 =>
  if x1 = (-1) then
  (some (some (qI (-1)), h))
 else
  (cI (qcl d 218 [qI a1, qI 0, qI 6] h) fun x3 h2 =>
   if x3 = 0 then
   (some (some (qI (-1)), h2))
  else
   (if a2 = (-1) then
    (if a1 = 0 then
     ((qgi 12 43 t h2).bind fun x4 =>
      some (some (qI x4), h2))
    else
     (some (some (qI (-1)), h2)))
   else
    ((qgi 12 42 t h2).bind fun x5 =>
     cI (qcl d 218 [qI a2, qI 0, qI (x5 - 1)] h2) fun x7 h6 =>
     if x7 = 0 then
     (some (some (qI (-1)), h6))
    else
     ((qgr 12 41 t h6).bind fun o8 =>
      o8.bind fun p9 => (qai 0 p9 ((8 * a1) + a2) h6).bind fun x10 =>
      some (some (qI x10), h6))))) := by
  exact qE0 45 [] (by rfl)
set_option maxRecDepth 1000000 in
set_option maxHeartbeats 1000000 in
theorem E181 (d : Nat) (t : Nat) (a1 : Int32) (h : QH) : qcl (d + 1) 181 [qR (some t), qI a1] h =
 (qck 12 t h).bind fun _ =>
 (qgi 12 44 t h).bind fun x1 =>
  if ((1000003 : Int32).toInt64) = 0 then none else
  (qpi 12 44 t (Int64.toInt32 (((((1103 : Int32).toInt64) * (Int32.toInt64 x1)) + ((12345 : Int32).toInt64)) - ((((1103 : Int32).toInt64) * (Int32.toInt64 x1)) + ((12345 : Int32).toInt64)) / ((1000003 : Int32).toInt64) * ((1000003 : Int32).toInt64))) h).bind fun h2 =>
  (qgi 12 44 t h2).bind fun x3 =>
  if a1 = 0 then none else
  some (some (qI (x3 - x3 / a1 * a1)), h2) := by
  exact qE0 22 [] (by rfl)
set_option maxRecDepth 1000000 in
set_option maxHeartbeats 1000000 in
theorem E182 (d : Nat) (t : Nat) (a1 : Int32) (h : QH) : qcl (d + 1) 182 [qR (some t), qI a1] h =
 (qck 12 t h).bind fun _ =>
 (qgi 12 10 t h).bind fun x1 =>
  cI (qcl d 218 [qI a1, qI 0, qI x1] h) fun x3 h2 =>
  if x3 = 0 then
  (some (some (qI (-1)), h2))
 else
  ((qpi 12 10 t a1 h2).bind fun h4 =>
   some (some (qI a1), h4)) := by
  exact qE0 18 [] (by rfl)
set_option maxRecDepth 1000000 in
set_option maxHeartbeats 1000000 in
theorem E183 (d : Nat) (t : Nat) (h : QH) : qcl (d + 1) 183 [qR (some t)] h =
 (qck 12 t h).bind fun _ =>
 (qgi 12 11 t h).bind fun x1 =>
  some (some (qI x1), h) := by
  exact qE0 8 [] (by rfl)
set_option maxRecDepth 1000000 in
set_option maxHeartbeats 1000000 in
theorem E184 (d : Nat) (t : Nat) (h : QH) : qcl (d + 1) 184 [qR (some t)] h =
 (qck 12 t h).bind fun _ =>
 cI (qcl d 187 [qR (some t)] h) fun x2 h1 =>
  if x2 = 0 then
  (some (none, h1))
 else
  ((qgr 12 14 t h1).bind fun o3 =>
   (qgi 12 16 t h1).bind fun x4 =>
   o3.bind fun p5 => (qai 0 p5 x4 h1).bind fun x6 =>
   (qpi 12 18 t x6 h1).bind fun h7 =>
   some (none, h7)) := by
  exact qE0 16 [] (by rfl)
set_option maxRecDepth 1000000 in
set_option maxHeartbeats 1000000 in
theorem E185 (d : Nat) (t : Nat) (a1 : Int32) (a2 : Int32) (a3 : Int32) (a4 : Int32) (a5 : Int32) (h : QH) : qcl (d + 1) 185 [qR (some t), qI a1, qI a2, qI a3, qI a4, qI a5] h =
 (qck 12 t h).bind fun _ =>
 (qgi 12 10 t h).bind fun x1 =>
  if 400 < (x1 + 20) then
  (some (some (qI (-1)), h))
 else
  ((qgr 12 9 t h).bind fun o2 =>
   o2.bind fun p3 => (qsi 0 p3 0 a1 h).bind fun h4 =>
   (qgr 12 9 t h4).bind fun o5 =>
   o5.bind fun p6 => (qsi 0 p6 1 a2 h4).bind fun h7 =>
   (qgr 12 9 t h7).bind fun o8 =>
   o8.bind fun p9 => (qsi 0 p9 2 a3 h7).bind fun h10 =>
   (qgr 12 9 t h10).bind fun o11 =>
   o11.bind fun p12 => (qsi 0 p12 3 a4 h10).bind fun h13 =>
   (qgr 12 9 t h13).bind fun o14 =>
   o14.bind fun p15 => (qsi 0 p15 4 a5 h13).bind fun h16 =>
   qbig (d + 1) 185 55 [sR (some t), none, none, none, none, none, sI 0] [] h16) := by
  exact qE0 76 [55] (by rfl)
set_option maxRecDepth 1000000 in
set_option maxHeartbeats 1000000 in
theorem E185_55 (d : Nat) (t : Nat) (a6 : Int32) (h : QH) : qbig (d + 1) 185 55 [sR (some t), none, none, none, none, none, sI a6] [] h =
 if a6 < 20 then
  ((qgr 12 8 t h).bind fun o1 =>
   (qgi 12 10 t h).bind fun x2 =>
   (qgr 12 9 t h).bind fun o3 =>
   if 4 = 0 then none else
   o3.bind fun p4 => (qai 0 p4 (a6 / 4) h).bind fun x5 =>
   if 4 = 0 then none else
   o1.bind fun p6 => (qsi 1 p6 (x2 + a6) (Int8.toInt32 (Int32.toInt8 (Int8.toInt32 (Int32.toInt8 (x5 >>> ((24 - (8 * (a6 - a6 / 4 * 4))) &&& 31)))))) h).bind fun h7 =>
   qbig (d + 1) 185 55 [sR (some t), none, none, none, none, none, sI (a6 + 1)] [] h7)
 else
  ((qgi 12 10 t h).bind fun x8 =>
   (qpi 12 10 t (x8 + 20) h).bind fun h9 =>
   (qgi 12 10 t h9).bind fun x10 =>
   some (some (qI x10), h9)) := by
  exact qE 76 [55] (by rfl)
set_option maxRecDepth 1000000 in
set_option maxHeartbeats 1000000 in
theorem E186 (d : Nat) (t : Nat) (a1 : Int32) (a2 : Int32) (h : QH) : qcl (d + 1) 186 [qR (some t), qI a1, qI a2] h =
 (qck 12 t h).bind fun _ =>
 cI (qcl d 200 [qR (some t), qI a1] h) fun x2 h1 =>
  if x2 = 0 then
  (some (some (qI (-1)), h1))
 else
  (cI (qcl d 218 [qI a2, qI 0, qI 1] h1) fun x4 h3 =>
   if x4 = 0 then
   (some (some (qI (-1)), h3))
  else
   (cV (qcl d 251 [qR (some t), qI a1] h3) fun h5 =>
    cI (qcl d 211 [qR (some t), qI a1] h5) fun x7 h6 =>
    (qgr 12 39 t h6).bind fun o8 =>
    o8.bind fun p9 => (qai 0 p9 x7 h6).bind fun x10 =>
    if x10 < 1000 then
    (if a2 = 0 then
     ((qgr 12 39 t h6).bind fun o11 =>
      o11.bind fun p12 => (qai 0 p12 x7 h6).bind fun x13 =>
      some (some (qI x13), h6))
    else
     (qbig (d + 1) 186 58 [sR (some t), sI a1, none, sI x7, sI 0] [] h6))
   else
    (some (some (qI (-1)), h6)))) := by
  exact qE0 65 [58] (by rfl)
set_option maxRecDepth 1000000 in
set_option maxHeartbeats 1000000 in
theorem E186_58 (d : Nat) (t : Nat) (a1 : Int32) (a3 : Int32) (a4 : Int32) (h : QH) : qbig (d + 1) 186 58 [sR (some t), sI a1, none, sI a3, sI a4] [] h =
 cI (qcl d 232 [qR (some t)] h) fun x2 h1 =>
  if a4 < x2 then
  ((qgr 12 39 t h1).bind fun o3 =>
   o3.bind fun p4 => (qai 0 p4 a3 h1).bind fun x5 =>
   if 0 < x5 then
   (cI (qcl d 252 [qR (some t), qI a3, qI a1, qI a4] h1) fun x7 h6 =>
    (qgr 12 39 t h6).bind fun o8 =>
    o8.bind fun p9 => (qai 0 p9 a3 h6).bind fun x10 =>
    if x7 = x10 then
    (some (some (qI a4), h6))
   else
    (qbig (d + 1) 186 58 [sR (some t), sI a1, none, sI a3, sI (a4 + 1)] [] h6))
  else
   (qbig (d + 1) 186 58 [sR (some t), sI a1, none, sI a3, sI (a4 + 1)] [] h1))
 else
  (some (some (qI (-1)), h1)) := by
  exact qE 65 [58] (by rfl)
set_option maxRecDepth 1000000 in
set_option maxHeartbeats 1000000 in
theorem E187 (d : Nat) (t : Nat) (h : QH) : qcl (d + 1) 187 [qR (some t)] h =
 (qck 12 t h).bind fun _ =>
 (qgi 12 18 t h).bind fun x1 =>
  if x1 = (-1) then
  (if (1 : Int32) = 0 ∨ (1 : Int32) = 1 then some (some (qI 1), h) else none)
 else
  (if (0 : Int32) = 0 ∨ (0 : Int32) = 1 then some (some (qI 0), h) else none) := by
  exact qE0 13 [] (by rfl)
set_option maxRecDepth 1000000 in
set_option maxHeartbeats 1000000 in
theorem E188 (d : Nat) (t : Nat) (a1 : Int32) (a2 : Int32) (h : QH) : qcl (d + 1) 188 [qR (some t), qI a1, qI a2] h =
 (qck 12 t h).bind fun _ =>
 cI (qcl d 200 [qR (some t), qI a1] h) fun x2 h1 =>
  if x2 = 0 then
  (some (some (qI (-1)), h1))
 else
  (cI (qcl d 218 [qI a2, qI (-1), qI 29] h1) fun x4 h3 =>
   if x4 = 0 then
   (some (some (qI (-1)), h3))
  else
   (cI (qcl d 211 [qR (some t), qI a1] h3) fun x6 h5 =>
    cI (qcl d 258 [qR (some t), qI a1] h5) fun x8 h7 =>
    if x8 = (-1) then
    (some (some (qI (-1)), h7))
   else
    (qbig (d + 1) 188 44 [sR (some t), none, sI a2, sI x6, sI x8, sI 0] [] h7))) := by
  exact qE0 47 [44] (by rfl)
set_option maxRecDepth 1000000 in
set_option maxHeartbeats 1000000 in
theorem E188_44 (d : Nat) (t : Nat) (a2 : Int32) (a3 : Int32) (a4 : Int32) (a5 : Int32) (h : QH) : qbig (d + 1) 188 44 [sR (some t), none, sI a2, sI a3, sI a4, sI a5] [] h =
 if a2 < a5 then
  (some (some (qI a3), h))
 else
  (if 0 < a4 then
   (cI (qcl d 220 [qR (some t), qI a5, qI a3, qI (a4 + (-1))] h) fun x2 h1 =>
    qbig (d + 1) 188 44 [sR (some t), none, sI a2, sI x2, sI (a4 + (-1)), sI (a5 + 1)] [] h1)
  else
   (some (some (qI a3), h))) := by
  exact qE 47 [44] (by rfl)
set_option maxRecDepth 1000000 in
set_option maxHeartbeats 1000000 in
theorem E189 (d : Nat) (t : Nat) (a1 : Int32) (h : QH) : qcl (d + 1) 189 [qR (some t), qI a1] h =
 (qck 12 t h).bind fun _ =>
 if a1 = (-1) then
  (cI (qcl d 245 [qR (some t), qI 413, qI a1] h) fun x2 h1 =>
   some (some (qI x2), h1))
 else
  ((qgr 12 3 t h).bind fun o3 =>
   o3.bind fun p4 => (qai 0 p4 411 h).bind fun x5 =>
   cI (qcl d 218 [qI a1, qI 0, qI (x5 - 1)] h) fun x7 h6 =>
   if x7 = 0 then
   (cI (qcl d 244 [qR (some t), qI (-2)] h6) fun x9 h8 =>
    some (some (qI x9), h8))
  else
   (cI (qcl d 245 [qR (some t), qI 413, qI a1] h6) fun x11 h10 =>
    some (some (qI x11), h10))) := by
  exact qE0 27 [] (by rfl)
set_option maxRecDepth 1000000 in
set_option maxHeartbeats 1000000 in
theorem E190 (d : Nat) (t : Nat) (a1 : Int32) (h : QH) : qcl (d + 1) 190 [qR (some t), qI a1] h =
 (qck 12 t h).bind fun _ =>
 (qpi 12 0 t 0 h).bind fun h1 =>
  (qgi 12 1 t h1).bind fun x2 =>
  (qpi 12 1 t (x2 + 1) h1).bind fun h3 =>
  some (some (qI a1), h3) := by
  exact qE0 16 [] (by rfl)
set_option maxRecDepth 1000000 in
set_option maxHeartbeats 1000000 in
theorem E191 (d : Nat) (a0 : Int32) (a1 : Int32) (h : QH) : qcl (d + 1) 191 [qI a0, qI a1] h =
 if a1 < a0 then
  (some (some (qI a0), h))
 else
  (some (some (qI a1), h)) := by
  exact qE0 12 [] (by rfl)
set_option maxRecDepth 1000000 in
set_option maxHeartbeats 1000000 in
theorem E192 (d : Nat) (t : Nat) (a1 : Int32) (a2 : Int32) (a3 : Int32) (a4 : Int32) (h : QH) : qcl (d + 1) 192 [qR (some t), qI a1, qI a2, qI a3, qI a4] h =
 (qck 12 t h).bind fun _ =>
 cI (qcl d 203 [qR (some t), qI a1] h) fun x2 h1 =>
  if x2 = 0 then
  (some (some (qI (-1)), h1))
 else
  (cI (qcl d 203 [qR (some t), qI a2] h1) fun x4 h3 =>
   if x4 = 0 then
   (some (some (qI (-1)), h3))
  else
   (if a1 = a2 then
    (some (some (qI (-1)), h3))
   else
    (cI (qcl d 200 [qR (some t), qI a3] h3) fun x6 h5 =>
     if x6 = 0 then
     (some (some (qI (-1)), h5))
    else
     (cI (qcl d 218 [qI a4, qI 0, qI 3] h5) fun x8 h7 =>
      if x8 = 0 then
      (some (some (qI (-1)), h7))
     else
      (cI (qcl d 212 [qR (some t), qI a1, qI a3] h7) fun x10 h9 =>
       cI (qcl d 212 [qR (some t), qI a2, qI a3] h9) fun x12 h11 =>
       cV (qcl d 170 [qR (some t), qI a1, qI x10, qI a2, qI x12, qI a3, qI 0, qI 1] h11) fun h13 =>
       if a4 = 0 then
       (cI (qcl d 193 [qR (some t)] h13) fun x15 h14 =>
        some (some (qI x15), h14))
      else
       (if a4 = 1 then
        (cI (qcl d 265 [qR (some t)] h13) fun x17 h16 =>
         some (some (qI x17), h16))
       else
        (if a4 = 2 then
         (cI (qcl d 206 [qR (some t)] h13) fun x19 h18 =>
          if x19 = 0 then
          (some (some (qI 0), h18))
         else
          (some (some (qI 1), h18)))
        else
         (cI (qcl d 278 [qR (some t)] h13) fun x21 h20 =>
          some (some (qI x21), h20))))))))) := by
  exact qE0 66 [] (by rfl)
set_option maxRecDepth 1000000 in
set_option maxHeartbeats 1000000 in
theorem E193 (d : Nat) (t : Nat) (h : QH) : qcl (d + 1) 193 [qR (some t)] h =
 (qck 12 t h).bind fun _ =>
 (qgr 12 22 t h).bind fun o1 =>
  o1.bind fun p2 => (qai 0 p2 0 h).bind fun x3 =>
  cI (qcl d 191 [qI 0, qI (x3 - 1)] h) fun x5 h4 =>
  cI (qcl d 271 [qR (some t), qI 1, qI 0, qI 9, qI x5] h4) fun x7 h6 =>
  some (some (qI x7), h6) := by
  exact qE0 19 [] (by rfl)
set_option maxRecDepth 1000000 in
set_option maxHeartbeats 1000000 in
theorem E194 (d : Nat) (t : Nat) (a1 : Int32) (h : QH) : qcl (d + 1) 194 [qR (some t), qI a1] h =
 (qck 12 t h).bind fun _ =>
 cI (qcl d 250 [qR (some t), qI a1, qI 1] h) fun x2 h1 =>
  cI (qcl d 250 [qR (some t), qI a1, qI 2] h1) fun x4 h3 =>
  cI (qcl d 266 [qR (some t), qI a1] h3) fun x6 h5 =>
  (qgr 12 27 t h5).bind fun o7 =>
  o7.bind fun p8 => (qai 0 p8 x2 h5).bind fun x9 =>
  o7.bind fun p10 => (qsi 0 p10 x2 (x9 - x6) h5).bind fun h11 =>
  (qgi 12 30 t h11).bind fun x12 =>
  (qpi 12 30 t (x12 + x6) h11).bind fun h13 =>
  qbig (d + 1) 194 46 [sR (some t), sI a1, sI x2, sI x4, sI x6, sI 0, none] [] h13 := by
  exact qE0 143 [46] (by rfl)
set_option maxRecDepth 1000000 in
set_option maxHeartbeats 1000000 in
theorem E194_46 (d : Nat) (t : Nat) (a1 : Int32) (a2 : Int32) (a3 : Int32) (a4 : Int32) (a5 : Int32) (h : QH) : qbig (d + 1) 194 46 [sR (some t), sI a1, sI a2, sI a3, sI a4, sI a5, none] [] h =
 cI (qcl d 232 [qR (some t)] h) fun x2 h1 =>
  if a5 < x2 then
  (cI (qcl d 250 [qR (some t), qI a1, qI 3] h1) fun x4 h3 =>
   cI (qcl d 196 [qI x4, qI a5] h3) fun x6 h5 =>
   if x6 = 0 then
   (qbig (d + 1) 194 46 [sR (some t), sI a1, sI a2, sI a3, sI a4, sI (a5 + 1), none] [] h5)
  else
   ((qgr 12 27 t h5).bind fun o7 =>
    o7.bind fun p8 => (qai 0 p8 a5 h5).bind fun x9 =>
    o7.bind fun p10 => (qsi 0 p10 a5 (x9 - a4) h5).bind fun h11 =>
    (qgi 12 30 t h11).bind fun x12 =>
    (qpi 12 30 t (x12 + a4) h11).bind fun h13 =>
    (qgr 12 23 t h13).bind fun o14 =>
    o14.bind fun p15 => (qai 0 p15 ((5 * a2) + a3) h13).bind fun x16 =>
    (qgr 12 23 t h13).bind fun o17 =>
    o17.bind fun p18 => (qai 0 p18 ((5 * a5) + a3) h13).bind fun x19 =>
    cI (qcl d 250 [qR (some t), qI a1, qI 0] h13) fun x21 h20 =>
    cI (qcl d 250 [qR (some t), qI a1, qI 3] h20) fun x23 h22 =>
    cI (qcl d 228 [qI x23] h22) fun x25 h24 =>
    cV (qcl d 170 [qR (some t), qI a2, qI x16, qI a5, qI x19, qI a3, qI x21, qI x25] h24) fun h26 =>
    cI (qcl d 193 [qR (some t)] h26) fun x28 h27 =>
    (qgr 12 24 t h27).bind fun o29 =>
    o29.bind fun p30 => (qai 0 p30 ((5 * a5) + a3) h27).bind fun x31 =>
    if x31 < x28 then
    ((qgr 12 24 t h27).bind fun o32 =>
     o32.bind fun p33 => (qsi 0 p33 ((5 * a5) + a3) x28 h27).bind fun h34 =>
     (qgr 12 26 t h34).bind fun o35 =>
     cI (qcl d 250 [qR (some t), qI a1, qI 4] h34) fun x37 h36 =>
     if x37 = 1 then
     (o35.bind fun p38 => (qsi 2 p38 ((5 * a5) + a3) (1 &&& 1) h36).bind fun h39 =>
      qbig (d + 1) 194 46 [sR (some t), sI a1, sI a2, sI a3, sI a4, sI (a5 + 1), none] [] h39)
    else
     ((qgr 12 25 t h36).bind fun o40 =>
      o40.bind fun p41 => (qai 2 p41 ((5 * a2) + a3) h36).bind fun x42 =>
      if x42 = 0 then
      (o35.bind fun p43 => (qsi 2 p43 ((5 * a5) + a3) (0 &&& 1) h36).bind fun h44 =>
       qbig (d + 1) 194 46 [sR (some t), sI a1, sI a2, sI a3, sI a4, sI (a5 + 1), none] [] h44)
     else
      (o35.bind fun p45 => (qsi 2 p45 ((5 * a5) + a3) (1 &&& 1) h36).bind fun h46 =>
       qbig (d + 1) 194 46 [sR (some t), sI a1, sI a2, sI a3, sI a4, sI (a5 + 1), none] [] h46)))
   else
    (qbig (d + 1) 194 46 [sR (some t), sI a1, sI a2, sI a3, sI a4, sI (a5 + 1), none] [] h27)))
 else
  (some (none, h1)) := by
  exact qE 143 [46] (by rfl)
set_option maxRecDepth 1000000 in
set_option maxHeartbeats 1000000 in
theorem E195 (d : Nat) (t : Nat) (a1 : Int32) (a2 : Int32) (a3 : Int32) (h : QH) : qcl (d + 1) 195 [qR (some t), qI a1, qI a2, qI a3] h =
 (qck 12 t h).bind fun _ =>
 cI (qcl d 218 [qI a1, qI 0, qI 29] h) fun x2 h1 =>
  if x2 = 0 then
  (some (some (qI (-1)), h1))
 else
  (cI (qcl d 203 [qR (some t), qI a2] h1) fun x4 h3 =>
   if x4 = 0 then
   (some (some (qI (-1)), h3))
  else
   (cI (qcl d 200 [qR (some t), qI a3] h3) fun x6 h5 =>
    if x6 = 0 then
    (some (some (qI (-1)), h5))
   else
    (cV (qcl d 219 [qR (some t), qI a1] h5) fun h7 =>
     (qgr 12 25 t h7).bind fun o8 =>
     o8.bind fun p9 => (qai 2 p9 ((5 * a2) + a3) h7).bind fun x10 =>
     if x10 = 0 then
     (some (some (qI 0), h7))
    else
     (some (some (qI 1), h7))))) := by
  exact qE0 36 [] (by rfl)
set_option maxRecDepth 1000000 in
set_option maxHeartbeats 1000000 in
theorem E196 (d : Nat) (a0 : Int32) (a1 : Int32) (h : QH) : qcl (d + 1) 196 [qI a0, qI a1] h =
 if ((a0 >>> (a1 &&& 31)) &&& 1) = 1 then
  (if (1 : Int32) = 0 ∨ (1 : Int32) = 1 then some (some (qI 1), h) else none)
 else
  (if (0 : Int32) = 0 ∨ (0 : Int32) = 1 then some (some (qI 0), h) else none) := by
  exact qE0 16 [] (by rfl)
set_option maxRecDepth 1000000 in
set_option maxHeartbeats 1000000 in
theorem E197 (d : Nat) (t : Nat) (a1 : Int32) (h : QH) : qcl (d + 1) 197 [qR (some t), qI a1] h =
 (qck 12 t h).bind fun _ =>
 if a1 = (-1) then
  ((qgr 12 3 t h).bind fun o1 =>
   o1.bind fun p2 => (qai 0 p2 412 h).bind fun x3 =>
   some (some (qI x3), h))
 else
  (cI (qcl d 203 [qR (some t), qI a1] h) fun x5 h4 =>
   if x5 = 0 then
   (some (some (qI (-1)), h4))
  else
   ((qgr 12 3 t h4).bind fun o6 =>
    o6.bind fun p7 => (qai 0 p7 (400 + a1) h4).bind fun x8 =>
    some (some (qI x8), h4))) := by
  exact qE0 26 [] (by rfl)
set_option maxRecDepth 1000000 in
set_option maxHeartbeats 1000000 in
theorem E198 (d : Nat) (t : Nat) (a1 : Int32) (h : QH) : qcl (d + 1) 198 [qR (some t), qI a1] h =
 (qck 12 t h).bind fun _ =>
 cI (qcl d 218 [qI a1, qI 0, qI 1] h) fun x2 h1 =>
  if x2 = 0 then
  (cI (qcl d 244 [qR (some t), qI (-1)] h1) fun x4 h3 =>
   some (some (qI x4), h3))
 else
  (qbig (d + 1) 198 17 [sR (some t), sI a1, sI 0] [] h1) := by
  exact qE0 42 [17] (by rfl)
set_option maxRecDepth 1000000 in
set_option maxHeartbeats 1000000 in
theorem E198_17 (d : Nat) (t : Nat) (a1 : Int32) (a2 : Int32) (h : QH) : qbig (d + 1) 198 17 [sR (some t), sI a1, sI a2] [] h =
 if a2 < 5220 then
  ((qgr 12 4 t h).bind fun o1 =>
   (qgr 12 3 t h).bind fun o2 =>
   o2.bind fun p3 => (qai 0 p3 a2 h).bind fun x4 =>
   o1.bind fun p5 => (qsi 0 p5 ((5220 * a1) + a2) x4 h).bind fun h6 =>
   qbig (d + 1) 198 17 [sR (some t), sI a1, sI (a2 + 1)] [] h6)
 else
  ((qgr 12 5 t h).bind fun o7 =>
   o7.bind fun p8 => (qsi 2 p8 a1 (1 &&& 1) h).bind fun h9 =>
   cI (qcl d 190 [qR (some t), qI 0] h9) fun x11 h10 =>
   some (some (qI x11), h10)) := by
  exact qE 42 [17] (by rfl)
set_option maxRecDepth 1000000 in
set_option maxHeartbeats 1000000 in
theorem E199 (d : Nat) (a0 : Int32) (a1 : Int32) (a2 : Int32) (h : QH) : qcl (d + 1) 199 [qI a0, qI a1, qI a2] h =
 cI (qcl d 218 [qI a0, qI 1, qI 12] h) fun x2 h1 =>
  if x2 = 0 then
  (if (0 : Int32) = 0 ∨ (0 : Int32) = 1 then some (some (qI 0), h1) else none)
 else
  (cI (qcl d 218 [qI a1, qI 1, qI 3] h1) fun x4 h3 =>
   if x4 = 0 then
   (if (0 : Int32) = 0 ∨ (0 : Int32) = 1 then some (some (qI 0), h3) else none)
  else
   (cI (qcl d 218 [qI a2, qI 1, qI 9] h3) fun x6 h5 =>
    if x6 = 0 then
    (if (0 : Int32) = 0 ∨ (0 : Int32) = 1 then some (some (qI 0), h5) else none)
   else
    (if (1 : Int32) = 0 ∨ (1 : Int32) = 1 then some (some (qI 1), h5) else none))) := by
  exact qE0 24 [] (by rfl)
set_option maxRecDepth 1000000 in
set_option maxHeartbeats 1000000 in
theorem E200 (d : Nat) (t : Nat) (a1 : Int32) (h : QH) : qcl (d + 1) 200 [qR (some t), qI a1] h =
 (qck 12 t h).bind fun _ =>
 cI (qcl d 169 [qR (some t)] h) fun x2 h1 =>
  cI (qcl d 218 [qI a1, qI 0, qI (x2 - 1)] h1) fun x4 h3 =>
  if (x4 : Int32) = 0 ∨ (x4 : Int32) = 1 then some (some (qI x4), h3) else none := by
  exact qE0 13 [] (by rfl)
set_option maxRecDepth 1000000 in
set_option maxHeartbeats 1000000 in
theorem E201 (d : Nat) (t : Nat) (a1 : Int32) (a2 : Int32) (h : QH) : qcl (d + 1) 201 [qR (some t), qI a1, qI a2] h =
 (qck 12 t h).bind fun _ =>
 cI (qcl d 227 [qR (some t), qI a1, qI 3] h) fun x2 h1 =>
  cI (qcl d 196 [qI x2, qI a2] h1) fun x4 h3 =>
  if (x4 : Int32) = 0 ∨ (x4 : Int32) = 1 then some (some (qI x4), h3) else none := by
  exact qE0 12 [] (by rfl)
set_option maxRecDepth 1000000 in
set_option maxHeartbeats 1000000 in
theorem E202 (d : Nat) (a0 : Int32) (h : QH) : qcl (d + 1) 202 [qI a0] h =
 if a0 < 48 then
  (if (0 : Int32) = 0 ∨ (0 : Int32) = 1 then some (some (qI 0), h) else none)
 else
  (if 57 < a0 then
   (if (0 : Int32) = 0 ∨ (0 : Int32) = 1 then some (some (qI 0), h) else none)
  else
   (if (1 : Int32) = 0 ∨ (1 : Int32) = 1 then some (some (qI 1), h) else none)) := by
  exact qE0 15 [] (by rfl)
set_option maxRecDepth 1000000 in
set_option maxHeartbeats 1000000 in
theorem E203 (d : Nat) (t : Nat) (a1 : Int32) (h : QH) : qcl (d + 1) 203 [qR (some t), qI a1] h =
 (qck 12 t h).bind fun _ =>
 cI (qcl d 232 [qR (some t)] h) fun x2 h1 =>
  cI (qcl d 218 [qI a1, qI 0, qI (x2 - 1)] h1) fun x4 h3 =>
  if (x4 : Int32) = 0 ∨ (x4 : Int32) = 1 then some (some (qI x4), h3) else none := by
  exact qE0 13 [] (by rfl)
set_option maxRecDepth 1000000 in
set_option maxHeartbeats 1000000 in
theorem E204 (d : Nat) (t : Nat) (h : QH) : qcl (d + 1) 204 [qR (some t)] h =
 (qck 12 t h).bind fun _ =>
 qbig (d + 1) 204 2 [sR (some t), sI 0, none] [] h := by
  exact qE0 38 [2, 12] (by rfl)
set_option maxRecDepth 1000000 in
set_option maxHeartbeats 1000000 in
theorem E204_2 (d : Nat) (t : Nat) (a1 : Int32) (h : QH) : qbig (d + 1) 204 2 [sR (some t), sI a1, none] [] h =
 cI (qcl d 232 [qR (some t)] h) fun x2 h1 =>
  if a1 < x2 then
  (qbig (d + 1) 204 12 [sR (some t), sI a1, sI 0] [] h1)
 else
  (if (1 : Int32) = 0 ∨ (1 : Int32) = 1 then some (some (qI 1), h1) else none) := by
  exact qE 38 [2, 12] (by rfl)
set_option maxRecDepth 1000000 in
set_option maxHeartbeats 1000000 in
theorem E204_12 (d : Nat) (t : Nat) (a1 : Int32) (a2 : Int32) (h : QH) : qbig (d + 1) 204 12 [sR (some t), sI a1, sI a2] [] h =
 cI (qcl d 169 [qR (some t)] h) fun x2 h1 =>
  if a2 < x2 then
  ((qgr 12 23 t h1).bind fun o3 =>
   o3.bind fun p4 => (qai 0 p4 ((5 * a1) + a2) h1).bind fun x5 =>
   cI (qcl d 168 [qR (some t), qI a2, qI 2] h1) fun x7 h6 =>
   if x5 < x7 then
   (if (0 : Int32) = 0 ∨ (0 : Int32) = 1 then some (some (qI 0), h6) else none)
  else
   (qbig (d + 1) 204 12 [sR (some t), sI a1, sI (a2 + 1)] [] h6))
 else
  (qbig (d + 1) 204 2 [sR (some t), sI (a1 + 1), none] [] h1) := by
  exact qE 38 [2, 12] (by rfl)
set_option maxRecDepth 1000000 in
set_option maxHeartbeats 1000000 in
theorem E205 (d : Nat) (t : Nat) (a1 : Int32) (a2 : Int32) (h : QH) : qcl (d + 1) 205 [qR (some t), qI a1, qI a2] h =
 (qck 12 t h).bind fun _ =>
 qbig (d + 1) 205 2 [sR (some t), sI a1, sI a2, sI 0] [] h := by
  exact qE0 37 [2] (by rfl)
set_option maxRecDepth 1000000 in
set_option maxHeartbeats 1000000 in
theorem E205_2 (d : Nat) (t : Nat) (a1 : Int32) (a2 : Int32) (a3 : Int32) (h : QH) : qbig (d + 1) 205 2 [sR (some t), sI a1, sI a2, sI a3] [] h =
 cI (qcl d 169 [qR (some t)] h) fun x2 h1 =>
  if a3 < x2 then
  (cI (qcl d 168 [qR (some t), qI a2, qI 3] h1) fun x4 h3 =>
   cI (qcl d 196 [qI x4, qI a3] h3) fun x6 h5 =>
   if x6 = 0 then
   (qbig (d + 1) 205 2 [sR (some t), sI a1, sI a2, sI (a3 + 1)] [] h5)
  else
   ((qgr 12 23 t h5).bind fun o7 =>
    o7.bind fun p8 => (qai 0 p8 ((5 * a1) + a3) h5).bind fun x9 =>
    cI (qcl d 168 [qR (some t), qI a3, qI 2] h5) fun x11 h10 =>
    if x9 < x11 then
    (if (0 : Int32) = 0 ∨ (0 : Int32) = 1 then some (some (qI 0), h10) else none)
   else
    (qbig (d + 1) 205 2 [sR (some t), sI a1, sI a2, sI (a3 + 1)] [] h10)))
 else
  (if (1 : Int32) = 0 ∨ (1 : Int32) = 1 then some (some (qI 1), h1) else none) := by
  exact qE 37 [2] (by rfl)
set_option maxRecDepth 1000000 in
set_option maxHeartbeats 1000000 in
theorem E206 (d : Nat) (t : Nat) (h : QH) : qcl (d + 1) 206 [qR (some t)] h =
 (qck 12 t h).bind fun _ =>
 cI (qcl d 271 [qR (some t), qI 4, qI 0, qI 1, qI 0] h) fun x2 h1 =>
  if x2 = 1 then
  (if (1 : Int32) = 0 ∨ (1 : Int32) = 1 then some (some (qI 1), h1) else none)
 else
  (if (0 : Int32) = 0 ∨ (0 : Int32) = 1 then some (some (qI 0), h1) else none) := by
  exact qE0 17 [] (by rfl)
set_option maxRecDepth 1000000 in
set_option maxHeartbeats 1000000 in
theorem E207 (d : Nat) (t : Nat) (a1 : Int32) (a2 : Int32) (a3 : Int32) (h : QH) : qcl (d + 1) 207 [qR (some t), qI a1, qI a2, qI a3] h =
 (qck 12 t h).bind fun _ =>
 if a2 = 3 then
  (cI (qcl d 169 [qR (some t)] h) fun x2 h1 =>
   cI (qcl d 218 [qI a3, qI 0, qI (((1 : Int32) <<< (x2 &&& 31)) - 1)] h1) fun x4 h3 =>
   if x4 = 0 then
   (if (0 : Int32) = 0 ∨ (0 : Int32) = 1 then some (some (qI 0), h3) else none)
  else
   (cI (qcl d 200 [qR (some t), qI a1] h3) fun x6 h5 =>
    if x6 = 0 then
    (if (1 : Int32) = 0 ∨ (1 : Int32) = 1 then some (some (qI 1), h5) else none)
   else
    (cI (qcl d 196 [qI a3, qI a1] h5) fun x8 h7 =>
     if x8 = 0 then
     (if (1 : Int32) = 0 ∨ (1 : Int32) = 1 then some (some (qI 1), h7) else none)
    else
     (if (0 : Int32) = 0 ∨ (0 : Int32) = 1 then some (some (qI 0), h7) else none))))
 else
  (cI (qcl d 218 [qI a2, qI 0, qI 2] h) fun x10 h9 =>
   if x10 = 0 then
   (if (0 : Int32) = 0 ∨ (0 : Int32) = 1 then some (some (qI 0), h9) else none)
  else
   (if a2 = 0 then
    (cI (qcl d 218 [qI a3, qI 1, qI 6] h9) fun x12 h11 =>
     if x12 = 0 then
     (if (0 : Int32) = 0 ∨ (0 : Int32) = 1 then some (some (qI 0), h11) else none)
    else
     (if (1 : Int32) = 0 ∨ (1 : Int32) = 1 then some (some (qI 1), h11) else none))
   else
    (if a2 = 1 then
     (cI (qcl d 218 [qI a3, qI 1, qI 3] h9) fun x14 h13 =>
      if x14 = 0 then
      (if (0 : Int32) = 0 ∨ (0 : Int32) = 1 then some (some (qI 0), h13) else none)
     else
      (if (1 : Int32) = 0 ∨ (1 : Int32) = 1 then some (some (qI 1), h13) else none))
    else
     (cI (qcl d 218 [qI a3, qI 1, qI 9] h9) fun x16 h15 =>
      if x16 = 0 then
      (if (0 : Int32) = 0 ∨ (0 : Int32) = 1 then some (some (qI 0), h15) else none)
     else
      (if (1 : Int32) = 0 ∨ (1 : Int32) = 1 then some (some (qI 1), h15) else none))))) := by
  exact qE0 53 [] (by rfl)
set_option maxRecDepth 1000000 in
set_option maxHeartbeats 1000000 in
theorem E208 (d : Nat) (a0 : Int32) (h : QH) : qcl (d + 1) 208 [qI a0] h =
 if a0 < 97 then
  (if (0 : Int32) = 0 ∨ (0 : Int32) = 1 then some (some (qI 0), h) else none)
 else
  (if 122 < a0 then
   (if (0 : Int32) = 0 ∨ (0 : Int32) = 1 then some (some (qI 0), h) else none)
  else
   (if (1 : Int32) = 0 ∨ (1 : Int32) = 1 then some (some (qI 1), h) else none)) := by
  exact qE0 15 [] (by rfl)
set_option maxRecDepth 1000000 in
set_option maxHeartbeats 1000000 in
theorem E209 (d : Nat) (t : Nat) (a1 : Int32) (h : QH) : qcl (d + 1) 209 [qR (some t), qI a1] h =
 (qck 12 t h).bind fun _ =>
 cI (qcl d 218 [qI a1, qI 0, qI 4] h) fun x2 h1 =>
  if x2 = 0 then
  (some (some (qI (-1)), h1))
 else
  (cV (qcl d 219 [qR (some t), qI 29] h1) fun h3 =>
   qbig (d + 1) 209 21 [sR (some t), sI a1, sI 0, sI 0, none] [] h3) := by
  exact qE0 73 [21, 32] (by rfl)
set_option maxRecDepth 1000000 in
set_option maxHeartbeats 1000000 in
theorem E209_21 (d : Nat) (t : Nat) (a1 : Int32) (a2 : Int32) (a3 : Int32) (h : QH) : qbig (d + 1) 209 21 [sR (some t), sI a1, sI a2, sI a3, none] [] h =
 cI (qcl d 232 [qR (some t)] h) fun x2 h1 =>
  if a3 < x2 then
  (qbig (d + 1) 209 32 [sR (some t), sI a1, sI a2, sI a3, sI 0] [] h1)
 else
  (if a1 = 0 then
   ((qgi 12 28 t h1).bind fun x3 =>
    some (some (qI x3), h1))
  else
   (if a1 = 1 then
    ((qgi 12 29 t h1).bind fun x4 =>
     some (some (qI x4), h1))
   else
    (if a1 = 2 then
     ((qgi 12 30 t h1).bind fun x5 =>
      some (some (qI x5), h1))
    else
     (if a1 = 3 then
      ((qgi 12 31 t h1).bind fun x6 =>
       some (some (qI x6), h1))
     else
      (some (some (qI a2), h1)))))) := by
  exact qE 73 [21, 32] (by rfl)
set_option maxRecDepth 1000000 in
set_option maxHeartbeats 1000000 in
theorem E209_32 (d : Nat) (t : Nat) (a1 : Int32) (a2 : Int32) (a3 : Int32) (a4 : Int32) (h : QH) : qbig (d + 1) 209 32 [sR (some t), sI a1, sI a2, sI a3, sI a4] [] h =
 cI (qcl d 169 [qR (some t)] h) fun x2 h1 =>
  if a4 < x2 then
  ((qgr 12 25 t h1).bind fun o3 =>
   o3.bind fun p4 => (qai 2 p4 ((5 * a3) + a4) h1).bind fun x5 =>
   if x5 = 0 then
   (qbig (d + 1) 209 32 [sR (some t), sI a1, sI (a2 + 0), sI a3, sI (a4 + 1)] [] h1)
  else
   (qbig (d + 1) 209 32 [sR (some t), sI a1, sI (a2 + 1), sI a3, sI (a4 + 1)] [] h1))
 else
  (qbig (d + 1) 209 21 [sR (some t), sI a1, sI a2, sI (a3 + 1), none] [] h1) := by
  exact qE 73 [21, 32] (by rfl)
set_option maxRecDepth 1000000 in
set_option maxHeartbeats 1000000 in
theorem E210 (d : Nat) (t : Nat) (a1 : Int32) (a2 : Int32) (a3 : Int32) (h : QH) : qcl (d + 1) 210 [qR (some t), qI a1, qI a2, qI a3] h =
 (qck 12 t h).bind fun _ =>
 cI (qcl d 218 [qI a3, qI 0, qI 9] h) fun x2 h1 =>
  if x2 = 0 then
  (cI (qcl d 244 [qR (some t), qI (-1)] h1) fun x4 h3 =>
   some (some (qI x4), h3))
 else
  (cI (qcl d 203 [qR (some t), qI a1] h1) fun x6 h5 =>
   if x6 = 0 then
   (cI (qcl d 244 [qR (some t), qI (-2)] h5) fun x8 h7 =>
    some (some (qI x8), h7))
  else
   (cI (qcl d 200 [qR (some t), qI a2] h5) fun x10 h9 =>
    if x10 = 0 then
    (cI (qcl d 244 [qR (some t), qI (-2)] h9) fun x12 h11 =>
     some (some (qI x12), h11))
   else
    (cI (qcl d 245 [qR (some t), qI ((60 + (5 * a1)) + a2), qI a3] h9) fun x14 h13 =>
     some (some (qI x14), h13)))) := by
  exact qE0 37 [] (by rfl)
set_option maxRecDepth 1000000 in
set_option maxHeartbeats 1000000 in
theorem E211 (d : Nat) (t : Nat) (a1 : Int32) (h : QH) : qcl (d + 1) 211 [qR (some t), qI a1] h =
 (qck 12 t h).bind fun _ =>
 qbig (d + 1) 211 4 [sR (some t), sI a1, sI 0, sI 0] [] h := by
  exact qE0 30 [4] (by rfl)
set_option maxRecDepth 1000000 in
set_option maxHeartbeats 1000000 in
theorem E211_4 (d : Nat) (t : Nat) (a1 : Int32) (a2 : Int32) (a3 : Int32) (h : QH) : qbig (d + 1) 211 4 [sR (some t), sI a1, sI a2, sI a3] [] h =
 cI (qcl d 232 [qR (some t)] h) fun x2 h1 =>
  if a3 < x2 then
  (cI (qcl d 212 [qR (some t), qI a3, qI a1] h1) fun x4 h3 =>
   if 0 < x4 then
   (qbig (d + 1) 211 4 [sR (some t), sI a1, sI (a2 ||| ((1 : Int32) <<< (a3 &&& 31))), sI (a3 + 1)] [] h3)
  else
   (qbig (d + 1) 211 4 [sR (some t), sI a1, sI (a2 ||| 0), sI (a3 + 1)] [] h3))
 else
  (some (some (qI a2), h1)) := by
  exact qE 30 [4] (by rfl)
set_option maxRecDepth 1000000 in
set_option maxHeartbeats 1000000 in
theorem E212 (d : Nat) (t : Nat) (a1 : Int32) (a2 : Int32) (h : QH) : qcl (d + 1) 212 [qR (some t), qI a1, qI a2] h =
 (qck 12 t h).bind fun _ =>
 (qgr 12 3 t h).bind fun o1 =>
  o1.bind fun p2 => (qai 0 p2 ((60 + (5 * a1)) + a2) h).bind fun x3 =>
  some (some (qI x3), h) := by
  exact qE0 16 [] (by rfl)
set_option maxRecDepth 1000000 in
set_option maxHeartbeats 1000000 in
theorem E213 (d : Nat) (t : Nat) (a1 : Int32) (h : QH) : qcl (d + 1) 213 [qR (some t), qI a1] h =
 (qck 12 t h).bind fun _ =>
 cI (qcl d 250 [qR (some t), qI a1, qI 0] h) fun x2 h1 =>
  cI (qcl d 250 [qR (some t), qI a1, qI 1] h1) fun x4 h3 =>
  cI (qcl d 250 [qR (some t), qI a1, qI 2] h3) fun x6 h5 =>
  cI (qcl d 250 [qR (some t), qI a1, qI 3] h5) fun x8 h7 =>
  qbig (d + 1) 213 30 [sR (some t), sI a1, sI x2, sI x4, sI x6, sI x8, none, none, none, none] [] h7 := by
  exact qE0 156 [30, 119] (by rfl)
set_option maxRecDepth 1000000 in
set_option maxHeartbeats 1000000 in
theorem E213_30 (d : Nat) (t : Nat) (a1 : Int32) (a2 : Int32) (a3 : Int32) (a4 : Int32) (a5 : Int32) (h : QH) : qbig (d + 1) 213 30 [sR (some t), sI a1, sI a2, sI a3, sI a4, sI a5, none, none, none, none] [] h =
 cI (qcl d 228 [qI a5] h) fun x2 h1 =>
  cI (qcl d 266 [qR (some t), qI a1] h1) fun x4 h3 =>
  (qgr 12 23 t h3).bind fun o5 =>
  o5.bind fun p6 => (qai 0 p6 ((5 * a3) + a4) h3).bind fun x7 =>
  if x7 < 1 then
  (some (some (qI 1), h3))
 else
  (cI (qcl d 201 [qR (some t), qI a3, qI a2] h3) fun x9 h8 =>
   if x9 = 0 then
   ((qgr 12 27 t h8).bind fun o10 =>
    o10.bind fun p11 => (qai 0 p11 a3 h8).bind fun x12 =>
    if x12 < x4 then
    (some (some (qI 3), h8))
   else
    (cI (qcl d 168 [qR (some t), qI a4, qI 1] h8) fun x14 h13 =>
     cI (qcl d 218 [qI x2, qI 1, qI x14] h13) fun x16 h15 =>
     if x16 = 0 then
     (some (some (qI 4), h15))
    else
     (cI (qcl d 196 [qI a5, qI a3] h15) fun x18 h17 =>
      if x18 = 0 then
      (qbig (d + 1) 213 119 [sR (some t), none, sI a2, sI a3, sI a4, sI a5, sI x2, sI x4, sI 10, sI 0] [] h17)
     else
      (some (some (qI 4), h17)))))
  else
   (some (some (qI 2), h8))) := by
  exact qE 156 [30, 119] (by rfl)
set_option maxRecDepth 1000000 in
set_option maxHeartbeats 1000000 in
theorem E213_119 (d : Nat) (t : Nat) (a2 : Int32) (a3 : Int32) (a4 : Int32) (a5 : Int32) (a6 : Int32) (a7 : Int32) (a8 : Int32) (a9 : Int32) (h : QH) : qbig (d + 1) 213 119 [sR (some t), none, sI a2, sI a3, sI a4, sI a5, sI a6, sI a7, sI a8, sI a9] [] h =
 cI (qcl d 232 [qR (some t)] h) fun x2 h1 =>
  if a9 < x2 then
  (cI (qcl d 196 [qI a5, qI a9] h1) fun x4 h3 =>
   if x4 = 0 then
   (qbig (d + 1) 213 119 [sR (some t), none, sI a2, sI a3, sI a4, sI a5, sI a6, sI a7, sI a8, sI (a9 + 1)] [] h3)
  else
   ((qgr 12 23 t h3).bind fun o5 =>
    o5.bind fun p6 => (qai 0 p6 ((5 * a3) + a4) h3).bind fun x7 =>
    (qgr 12 23 t h3).bind fun o8 =>
    o8.bind fun p9 => (qai 0 p9 ((5 * a9) + a4) h3).bind fun x10 =>
    cV (qcl d 170 [qR (some t), qI a3, qI x7, qI a9, qI x10, qI a4, qI a2, qI a6] h3) fun h11 =>
    cI (qcl d 201 [qR (some t), qI a9, qI a2] h11) fun x13 h12 =>
    if x13 = 0 then
    (cI (qcl d 223 [qR (some t), qI a9, qI a3] h12) fun x15 h14 =>
     if x15 = 0 then
     (cI (qcl d 217 [qI a8, qI 6] h14) fun x17 h16 =>
      qbig (d + 1) 213 119 [sR (some t), none, sI a2, sI a3, sI a4, sI a5, sI a6, sI a7, sI x17, sI (a9 + 1)] [] h16)
    else
     ((qgr 12 27 t h14).bind fun o18 =>
      o18.bind fun p19 => (qai 0 p19 a9 h14).bind fun x20 =>
      if x20 < a7 then
      (cI (qcl d 217 [qI a8, qI 7] h14) fun x22 h21 =>
       qbig (d + 1) 213 119 [sR (some t), none, sI a2, sI a3, sI a4, sI a5, sI a6, sI a7, sI x22, sI (a9 + 1)] [] h21)
     else
      (cI (qcl d 205 [qR (some t), qI a9, qI a4] h14) fun x24 h23 =>
       if x24 = 0 then
       (cI (qcl d 217 [qI a8, qI 8] h23) fun x26 h25 =>
        qbig (d + 1) 213 119 [sR (some t), none, sI a2, sI a3, sI a4, sI a5, sI a6, sI a7, sI x26, sI (a9 + 1)] [] h25)
      else
       (cI (qcl d 206 [qR (some t)] h23) fun x28 h27 =>
        if x28 = 0 then
        (cI (qcl d 217 [qI a8, qI 10] h27) fun x30 h29 =>
         qbig (d + 1) 213 119 [sR (some t), none, sI a2, sI a3, sI a4, sI a5, sI a6, sI a7, sI x30, sI (a9 + 1)] [] h29)
       else
        (cI (qcl d 217 [qI a8, qI 9] h27) fun x32 h31 =>
         qbig (d + 1) 213 119 [sR (some t), none, sI a2, sI a3, sI a4, sI a5, sI a6, sI a7, sI x32, sI (a9 + 1)] [] h31)))))
   else
    (cI (qcl d 217 [qI a8, qI 5] h12) fun x34 h33 =>
     qbig (d + 1) 213 119 [sR (some t), none, sI a2, sI a3, sI a4, sI a5, sI a6, sI a7, sI x34, sI (a9 + 1)] [] h33)))
 else
  (if a8 = 10 then
   (some (some (qI 0), h1))
  else
   (some (some (qI a8), h1))) := by
  exact qE 156 [30, 119] (by rfl)
set_option maxRecDepth 1000000 in
set_option maxHeartbeats 1000000 in
theorem E214 (d : Nat) (t : Nat) (h : QH) : qcl (d + 1) 214 [qR (some t)] h =
 (qck 12 t h).bind fun _ =>
 (qgr 12 3 t h).bind fun o1 =>
  o1.bind fun p2 => (qai 0 p2 411 h).bind fun x3 =>
  if x3 = 6 then
  ((qpi 12 10 t 0 h).bind fun h4 =>
   cI (qcl d 244 [qR (some t), qI (-5)] h4) fun x6 h5 =>
   some (some (qI x6), h5))
 else
  (cI (qcl d 243 [qR (some t)] h) fun x8 h7 =>
   if x8 = 0 then
   (cI (qcl d 244 [qR (some t), qI (-6)] h7) fun x10 h9 =>
    some (some (qI x10), h9))
  else
   ((qgr 12 3 t h7).bind fun o11 =>
    o11.bind fun p12 => (qai 0 p12 411 h7).bind fun x13 =>
    (qgr 12 3 t h7).bind fun o14 =>
    (qgi 12 15 t h7).bind fun x15 =>
    o14.bind fun p16 => (qsi 0 p16 (414 + x13) x15 h7).bind fun h17 =>
    qbig (d + 1) 214 64 [sR (some t), sI x13, sI 0] [] h17)) := by
  exact qE0 86 [64] (by rfl)
set_option maxRecDepth 1000000 in
set_option maxHeartbeats 1000000 in
theorem E214_64 (d : Nat) (t : Nat) (a1 : Int32) (a2 : Int32) (h : QH) : qbig (d + 1) 214 64 [sR (some t), sI a1, sI a2] [] h =
 (qgi 12 15 t h).bind fun x1 =>
  if a2 < x1 then
  ((qgr 12 3 t h).bind fun o2 =>
   (qgr 12 12 t h).bind fun o3 =>
   o3.bind fun p4 => (qai 0 p4 a2 h).bind fun x5 =>
   o2.bind fun p6 => (qsi 0 p6 ((420 + (400 * a1)) + a2) x5 h).bind fun h7 =>
   (qgr 12 3 t h7).bind fun o8 =>
   (qgr 12 13 t h7).bind fun o9 =>
   o9.bind fun p10 => (qai 0 p10 a2 h7).bind fun x11 =>
   o8.bind fun p12 => (qsi 0 p12 ((2820 + (400 * a1)) + a2) x11 h7).bind fun h13 =>
   qbig (d + 1) 214 64 [sR (some t), sI a1, sI (a2 + 1)] [] h13)
 else
  ((qgr 12 3 t h).bind fun o14 =>
   o14.bind fun p15 => (qai 0 p15 411 h).bind fun x16 =>
   o14.bind fun p17 => (qsi 0 p17 411 (x16 + 1) h).bind fun h18 =>
   cI (qcl d 190 [qR (some t), qI a1] h18) fun x20 h19 =>
   some (some (qI x20), h19)) := by
  exact qE 86 [64] (by rfl)
set_option maxRecDepth 1000000 in
set_option maxHeartbeats 1000000 in
theorem E215 (d : Nat) (t : Nat) (h : QH) : qcl (d + 1) 215 [qR (some t)] h =
 (qck 12 t h).bind fun _ =>
 (qgi 12 17 t h).bind fun x1 =>
  if x1 = 50 then
  (cV (qcl d 184 [qR (some t)] h) fun h2 =>
   (qgi 12 17 t h2).bind fun x3 =>
   (qpi 12 17 t (x3 + 1) h2).bind fun h4 =>
   cI (qcl d 187 [qR (some t)] h4) fun x6 h5 =>
   if x6 = 0 then
   (some (none, h5))
  else
   ((qgi 12 16 t h5).bind fun x7 =>
    (qpi 12 16 t (x7 + 1) h5).bind fun h8 =>
    some (none, h8)))
 else
  ((qgi 12 17 t h).bind fun x9 =>
   (qpi 12 17 t (x9 + 1) h).bind fun h10 =>
   cI (qcl d 187 [qR (some t)] h10) fun x12 h11 =>
   if x12 = 0 then
   (some (none, h11))
  else
   ((qgi 12 16 t h11).bind fun x13 =>
    (qpi 12 16 t (x13 + 1) h11).bind fun h14 =>
    some (none, h14))) := by
  exact qE0 27 [] (by rfl)
set_option maxRecDepth 1000000 in
set_option maxHeartbeats 1000000 in
theorem E216 (d : Nat) (t : Nat) (a1 : Int32) (h : QH) : qcl (d + 1) 216 [qR (some t), qI a1] h =
 (qck 12 t h).bind fun _ =>
 cI (qcl d 200 [qR (some t), qI a1] h) fun x2 h1 =>
  if x2 = 0 then
  (some (some (qI (-1)), h1))
 else
  (qbig (d + 1) 216 19 [sR (some t), sI a1, sI (-1), sI 1000, sI 0, none] [] h1) := by
  exact qE0 41 [19, 61] (by rfl)
set_option maxRecDepth 1000000 in
set_option maxHeartbeats 1000000 in
theorem E216_19 (d : Nat) (t : Nat) (a1 : Int32) (a2 : Int32) (a3 : Int32) (a4 : Int32) (h : QH) : qbig (d + 1) 216 19 [sR (some t), sI a1, sI a2, sI a3, sI a4, none] [] h =
 cI (qcl d 232 [qR (some t)] h) fun x2 h1 =>
  if a4 < x2 then
  (cI (qcl d 275 [qR (some t), qI a1, qI a4] h1) fun x4 h3 =>
   if x4 = (-1) then
   (qbig (d + 1) 216 61 [sR (some t), sI a1, sI a2, sI a3, sI (a4 + 1), none] [] h3)
  else
   (if x4 < a3 then
    (qbig (d + 1) 216 61 [sR (some t), sI a1, sI a4, sI x4, sI (a4 + 1), none] [] h3)
   else
    (qbig (d + 1) 216 61 [sR (some t), sI a1, sI a2, sI a3, sI (a4 + 1), none] [] h3)))
 else
  (some (some (qI a2), h1)) := by
  exact qE 41 [19, 61] (by rfl)
set_option maxRecDepth 1000000 in
set_option maxHeartbeats 1000000 in
theorem E216_61 (d : Nat) (t : Nat) (a1 : Int32) (a2 : Int32) (a3 : Int32) (a4 : Int32) (h : QH) : qbig (d + 1) 216 61 [sR (some t), sI a1, sI a2, sI a3, sI a4, none] [] h =
 qbig (d + 1) 216 19 [sR (some t), sI a1, sI a2, sI a3, sI a4, none] [] h := by
  exact qE 41 [19, 61] (by rfl)
set_option maxRecDepth 1000000 in
set_option maxHeartbeats 1000000 in
theorem E217 (d : Nat) (a0 : Int32) (a1 : Int32) (h : QH) : qcl (d + 1) 217 [qI a0, qI a1] h =
 if a0 < a1 then
  (some (some (qI a0), h))
 else
  (some (some (qI a1), h)) := by
  exact qE0 12 [] (by rfl)
set_option maxRecDepth 1000000 in
set_option maxHeartbeats 1000000 in
theorem E218 (d : Nat) (a0 : Int32) (a1 : Int32) (a2 : Int32) (h : QH) : qcl (d + 1) 218 [qI a0, qI a1, qI a2] h =
 if a0 < a1 then
  (if (0 : Int32) = 0 ∨ (0 : Int32) = 1 then some (some (qI 0), h) else none)
 else
  (if a2 < a0 then
   (if (0 : Int32) = 0 ∨ (0 : Int32) = 1 then some (some (qI 0), h) else none)
  else
   (if (1 : Int32) = 0 ∨ (1 : Int32) = 1 then some (some (qI 1), h) else none)) := by
  exact qE0 15 [] (by rfl)
set_option maxRecDepth 1000000 in
set_option maxHeartbeats 1000000 in
theorem E219 (d : Nat) (t : Nat) (a1 : Int32) (h : QH) : qcl (d + 1) 219 [qR (some t), qI a1] h =
 (qck 12 t h).bind fun _ =>
 (qpi 12 28 t 0 h).bind fun h1 =>
  (qpi 12 29 t (-1) h1).bind fun h2 =>
  (qpi 12 30 t 0 h2).bind fun h3 =>
  (qpi 12 31 t (-1) h3).bind fun h4 =>
  qbig (d + 1) 219 22 [sR (some t), sI a1, sI 0, none] [] h4 := by
  exact qE0 169 [22, 58, 65, 103, 131, 223] (by rfl)
set_option maxRecDepth 1000000 in
set_option maxHeartbeats 1000000 in
theorem E219_22 (d : Nat) (t : Nat) (a1 : Int32) (a2 : Int32) (h : QH) : qbig (d + 1) 219 22 [sR (some t), sI a1, sI a2, none] [] h =
 if a2 < 40 then
  ((qgr 12 23 t h).bind fun o1 =>
   (qgr 12 3 t h).bind fun o2 =>
   o2.bind fun p3 => (qai 0 p3 (60 + a2) h).bind fun x4 =>
   o1.bind fun p5 => (qsi 0 p5 a2 x4 h).bind fun h6 =>
   (qgr 12 25 t h6).bind fun o7 =>
   o7.bind fun p8 => (qsi 2 p8 a2 (0 &&& 1) h6).bind fun h9 =>
   qbig (d + 1) 219 22 [sR (some t), sI a1, sI (a2 + 1), none] [] h9)
 else
  (qbig (d + 1) 219 58 [sR (some t), sI a1, sI 0, none] [] h) := by
  exact qE 169 [22, 58, 65, 103, 131, 223] (by rfl)
set_option maxRecDepth 1000000 in
set_option maxHeartbeats 1000000 in
theorem E219_58 (d : Nat) (t : Nat) (a1 : Int32) (a2 : Int32) (h : QH) : qbig (d + 1) 219 58 [sR (some t), sI a1, sI a2, none] [] h =
 if a1 < a2 then
  (some (none, h))
 else
  (qbig (d + 1) 219 65 [sR (some t), sI a1, sI a2, sI 0] [] h) := by
  exact qE 169 [22, 58, 65, 103, 131, 223] (by rfl)
set_option maxRecDepth 1000000 in
set_option maxHeartbeats 1000000 in
theorem E219_65 (d : Nat) (t : Nat) (a1 : Int32) (a2 : Int32) (a3 : Int32) (h : QH) : qbig (d + 1) 219 65 [sR (some t), sI a1, sI a2, sI a3] [] h =
 if a3 < 40 then
  ((qgr 12 24 t h).bind fun o1 =>
   (qgr 12 23 t h).bind fun o2 =>
   o2.bind fun p3 => (qai 0 p3 a3 h).bind fun x4 =>
   o1.bind fun p5 => (qsi 0 p5 a3 x4 h).bind fun h6 =>
   (qgr 12 26 t h6).bind fun o7 =>
   (qgr 12 25 t h6).bind fun o8 =>
   o8.bind fun p9 => (qai 2 p9 a3 h6).bind fun x10 =>
   o7.bind fun p11 => (qsi 2 p11 a3 (x10 &&& 1) h6).bind fun h12 =>
   qbig (d + 1) 219 65 [sR (some t), sI a1, sI a2, sI (a3 + 1)] [] h12)
 else
  (qbig (d + 1) 219 103 [sR (some t), sI a1, sI a2, sI 0] [] h) := by
  exact qE 169 [22, 58, 65, 103, 131, 223] (by rfl)
set_option maxRecDepth 1000000 in
set_option maxHeartbeats 1000000 in
theorem E219_103 (d : Nat) (t : Nat) (a1 : Int32) (a2 : Int32) (a3 : Int32) (h : QH) : qbig (d + 1) 219 103 [sR (some t), sI a1, sI a2, sI a3] [] h =
 cI (qcl d 232 [qR (some t)] h) fun x2 h1 =>
  if a3 < x2 then
  ((qgr 12 27 t h1).bind fun o3 =>
   cI (qcl d 227 [qR (some t), qI a3, qI 2] h1) fun x5 h4 =>
   o3.bind fun p6 => (qsi 0 p6 a3 x5 h4).bind fun h7 =>
   qbig (d + 1) 219 103 [sR (some t), sI a1, sI a2, sI (a3 + 1)] [] h7)
 else
  (qbig (d + 1) 219 131 [sR (some t), sI a1, sI a2, sI 0] [] h1) := by
  exact qE 169 [22, 58, 65, 103, 131, 223] (by rfl)
set_option maxRecDepth 1000000 in
set_option maxHeartbeats 1000000 in
theorem E219_131 (d : Nat) (t : Nat) (a1 : Int32) (a2 : Int32) (a3 : Int32) (h : QH) : qbig (d + 1) 219 131 [sR (some t), sI a1, sI a2, sI a3] [] h =
 (qgr 12 3 t h).bind fun o1 =>
  o1.bind fun p2 => (qai 0 p2 410 h).bind fun x3 =>
  if a3 < x3 then
  (cI (qcl d 250 [qR (some t), qI a3, qI 0] h) fun x5 h4 =>
   if x5 = a2 then
   ((qgr 12 32 t h4).bind fun o6 =>
    cI (qcl d 213 [qR (some t), qI a3] h4) fun x8 h7 =>
    o6.bind fun p9 => (qsi 0 p9 a3 x8 h7).bind fun h10 =>
    (qgr 12 32 t h10).bind fun o11 =>
    o11.bind fun p12 => (qai 0 p12 a3 h10).bind fun x13 =>
    if x13 = 0 then
    (cV (qcl d 194 [qR (some t), qI a3] h10) fun h14 =>
     qbig (d + 1) 219 131 [sR (some t), sI a1, sI a2, sI (a3 + 1)] [] h14)
   else
    ((qgi 12 28 t h10).bind fun x15 =>
     (qpi 12 28 t (x15 + 1) h10).bind fun h16 =>
     (qgi 12 29 t h16).bind fun x17 =>
     if x17 = (-1) then
     ((qpi 12 29 t a3 h16).bind fun h18 =>
      qbig (d + 1) 219 131 [sR (some t), sI a1, sI a2, sI (a3 + 1)] [] h18)
    else
     ((qgi 12 29 t h16).bind fun x19 =>
      if a3 < x19 then
      ((qpi 12 29 t a3 h16).bind fun h20 =>
       qbig (d + 1) 219 131 [sR (some t), sI a1, sI a2, sI (a3 + 1)] [] h20)
     else
      (qbig (d + 1) 219 131 [sR (some t), sI a1, sI a2, sI (a3 + 1)] [] h16))))
  else
   (qbig (d + 1) 219 131 [sR (some t), sI a1, sI a2, sI (a3 + 1)] [] h4))
 else
  (qbig (d + 1) 219 223 [sR (some t), sI a1, sI a2, sI 0] [] h) := by
  exact qE 169 [22, 58, 65, 103, 131, 223] (by rfl)
set_option maxRecDepth 1000000 in
set_option maxHeartbeats 1000000 in
theorem E219_223 (d : Nat) (t : Nat) (a1 : Int32) (a2 : Int32) (a3 : Int32) (h : QH) : qbig (d + 1) 219 223 [sR (some t), sI a1, sI a2, sI a3] [] h =
 if a3 < 40 then
  ((qgr 12 23 t h).bind fun o1 =>
   (qgr 12 24 t h).bind fun o2 =>
   o2.bind fun p3 => (qai 0 p3 a3 h).bind fun x4 =>
   o1.bind fun p5 => (qsi 0 p5 a3 x4 h).bind fun h6 =>
   (qgr 12 25 t h6).bind fun o7 =>
   (qgr 12 26 t h6).bind fun o8 =>
   o8.bind fun p9 => (qai 2 p9 a3 h6).bind fun x10 =>
   o7.bind fun p11 => (qsi 2 p11 a3 (x10 &&& 1) h6).bind fun h12 =>
   qbig (d + 1) 219 223 [sR (some t), sI a1, sI a2, sI (a3 + 1)] [] h12)
 else
  ((qgi 12 31 t h).bind fun x13 =>
   if x13 = (-1) then
   (cI (qcl d 204 [qR (some t)] h) fun x15 h14 =>
    if x15 = 0 then
    (qbig (d + 1) 219 58 [sR (some t), sI a1, sI (a2 + 1), none] [] h14)
   else
    ((qpi 12 31 t a2 h14).bind fun h16 =>
     qbig (d + 1) 219 58 [sR (some t), sI a1, sI (a2 + 1), none] [] h16))
  else
   (qbig (d + 1) 219 58 [sR (some t), sI a1, sI (a2 + 1), none] [] h)) := by
  exact qE 169 [22, 58, 65, 103, 131, 223] (by rfl)
