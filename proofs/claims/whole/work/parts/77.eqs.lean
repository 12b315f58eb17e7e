set_option maxRecDepth 1000000 in
set_option maxHeartbeats 1000000 in
theorem E254 (d : Nat) (a0 : Int32) (h : QH) : qcl (d + 1) 254 [qI a0] h =
 some (some (qI (100 + a0)), h) := by
  exact qE0 9 [] (by rfl)
set_option maxRecDepth 1000000 in
set_option maxHeartbeats 1000000 in
theorem E255 (d : Nat) (t : Nat) (h : QH) : qcl (d + 1) 255 [qR (some t)] h =
 (qck 12 t h).bind fun _ =>
 (qgi 12 6 t h).bind fun x1 =>
  some (some (qI x1), h) := by
  exact qE0 8 [] (by rfl)
set_option maxRecDepth 1000000 in
set_option maxHeartbeats 1000000 in
theorem E256 (d : Nat) (t : Nat) (a1 : Int32) (a2 : Int32) (h : QH) : qcl (d + 1) 256 [qR (some t), qI a1, qI a2] h =
 (qck 12 t h).bind fun _ =>
 (qgi 12 38 t h).bind fun x1 =>
  if a2 = x1 then
  (some (some (qI 0), h))
 else
  (if a1 = 30 then
   (some (some (qI 1000), h))
  else
   ((qgr 12 33 t h).bind fun o2 =>
    o2.bind fun p3 => (qai 0 p3 ((256 * a1) + a2) h).bind fun x4 =>
    if x4 = (-1) then
    (cI (qcl d 221 [qR (some t), qI a1, qI a2] h) fun x6 h5 =>
     qbig (d + 1) 256 61 [sR (some t), sI a1, sI a2, sI ((256 * a1) + a2), sI x6, sI 1000, sI 0] [] h5)
   else
    ((qgr 12 33 t h).bind fun o7 =>
     o7.bind fun p8 => (qai 0 p8 ((256 * a1) + a2) h).bind fun x9 =>
     some (some (qI x9), h)))) := by
  exact qE0 86 [61] (by rfl)
set_option maxRecDepth 1000000 in
set_option maxHeartbeats 1000000 in
theorem E256_61 (d : Nat) (t : Nat) (a1 : Int32) (a2 : Int32) (a3 : Int32) (a4 : Int32) (a5 : Int32) (a6 : Int32) (h : QH) : qbig (d + 1) 256 61 [sR (some t), sI a1, sI a2, sI a3, sI a4, sI a5, sI a6] [] h =
 if a6 < 256 then
  ((qgr 12 34 t h).bind fun o1 =>
   o1.bind fun p2 => (qai 2 p2 ((256 * a1) + a6) h).bind fun x3 =>
   if x3 = 0 then
   (qbig (d + 1) 256 61 [sR (some t), sI a1, sI a2, sI a3, sI a4, sI a5, sI (a6 + 1)] [] h)
  else
   (cI (qcl d 228 [qI a6] h) fun x5 h4 =>
    if x5 = a4 then
    (cI (qcl d 256 [qR (some t), qI (a1 + 1), qI (a2 ||| a6)] h4) fun x7 h6 =>
     cI (qcl d 217 [qI a5, qI (1 + x7)] h6) fun x9 h8 =>
     qbig (d + 1) 256 61 [sR (some t), sI a1, sI a2, sI a3, sI a4, sI x9, sI (a6 + 1)] [] h8)
   else
    (qbig (d + 1) 256 61 [sR (some t), sI a1, sI a2, sI a3, sI a4, sI a5, sI (a6 + 1)] [] h4)))
 else
  ((qgr 12 33 t h).bind fun o10 =>
   cI (qcl d 217 [qI a5, qI 1000] h) fun x12 h11 =>
   o10.bind fun p13 => (qsi 0 p13 a3 x12 h11).bind fun h14 =>
   (qgr 12 33 t h14).bind fun o15 =>
   o15.bind fun p16 => (qai 0 p16 a3 h14).bind fun x17 =>
   some (some (qI x17), h14)) := by
  exact qE 86 [61] (by rfl)
set_option maxRecDepth 1000000 in
set_option maxHeartbeats 1000000 in
theorem E257 (d : Nat) (t : Nat) (a1 : Int32) (a2 : Int32) (a3 : Int32) (h : QH) : qcl (d + 1) 257 [qR (some t), qI a1, qI a2, qI a3] h =
 (qck 12 t h).bind fun _ =>
 cV (qcl d 172 [qR (some t), qI a1, qI a2] h) fun h1 =>
  (qgi 12 38 t h1).bind fun x2 =>
  cI (qcl d 256 [qR (some t), qI 0, qI (a3 &&& x2)] h1) fun x4 h3 =>
  if x4 < 1000 then
  (some (some (qI x4), h3))
 else
  (some (some (qI (-1)), h3)) := by
  exact qE0 24 [] (by rfl)
set_option maxRecDepth 1000000 in
set_option maxHeartbeats 1000000 in
theorem E258 (d : Nat) (t : Nat) (a1 : Int32) (h : QH) : qcl (d + 1) 258 [qR (some t), qI a1] h =
 (qck 12 t h).bind fun _ =>
 cI (qcl d 200 [qR (some t), qI a1] h) fun x2 h1 =>
  if x2 = 0 then
  (some (some (qI (-1)), h1))
 else
  (cI (qcl d 211 [qR (some t), qI a1] h1) fun x4 h3 =>
   cI (qcl d 257 [qR (some t), qI a1, qI (-1), qI x4] h3) fun x6 h5 =>
   some (some (qI x6), h5)) := by
  exact qE0 19 [] (by rfl)
set_option maxRecDepth 1000000 in
set_option maxHeartbeats 1000000 in
theorem E259 (d : Nat) (t : Nat) (a1 : Int32) (a2 : Int32) (h : QH) : qcl (d + 1) 259 [qR (some t), qI a1, qI a2] h =
 (qck 12 t h).bind fun _ =>
 cI (qcl d 218 [qI a1, qI 0, qI 29] h) fun x2 h1 =>
  if x2 = 0 then
  (some (some (qI (-1)), h1))
 else
  (cI (qcl d 203 [qR (some t), qI a2] h1) fun x4 h3 =>
   if x4 = 0 then
   (some (some (qI (-1)), h3))
  else
   (cV (qcl d 219 [qR (some t), qI a1] h3) fun h5 =>
    cI (qcl d 227 [qR (some t), qI a2, qI 2] h5) fun x7 h6 =>
    (qgr 12 27 t h6).bind fun o8 =>
    o8.bind fun p9 => (qai 0 p9 a2 h6).bind fun x10 =>
    some (some (qI (x7 - x10)), h6))) := by
  exact qE0 29 [] (by rfl)
set_option maxRecDepth 1000000 in
set_option maxHeartbeats 1000000 in
theorem E260 (d : Nat) (t : Nat) (a1 : Int32) (h : QH) : qcl (d + 1) 260 [qR (some t), qI a1] h =
 (qck 12 t h).bind fun _ =>
 (qpi 12 15 t 0 h).bind fun h1 =>
  qbig (d + 1) 260 7 [sR (some t), sI a1, sI 0, none, none, none] [] h1 := by
  exact qE0 160 [7, 43, 75, 100, 169] (by rfl)
set_option maxRecDepth 1000000 in
set_option maxHeartbeats 1000000 in
theorem E260_7 (d : Nat) (t : Nat) (a1 : Int32) (a2 : Int32) (h : QH) : qbig (d + 1) 260 7 [sR (some t), sI a1, sI a2, none, none, none] [] h =
 if a2 < a1 then
  ((qgr 12 8 t h).bind fun o1 =>
   o1.bind fun p2 => (qai 1 p2 a2 h).bind fun x3 =>
   if x3 = 32 then
   (qbig (d + 1) 260 7 [sR (some t), sI a1, sI (a2 + 1), none, none, none] [] h)
  else
   (cI (qcl d 208 [qI x3] h) fun x5 h4 =>
    if x5 = 0 then
    (cI (qcl d 202 [qI x3] h4) fun x7 h6 =>
     if x7 = 0 then
     (qbig (d + 1) 260 100 [sR (some t), sI a1, sI a2, sI x3, sI (a2 + 1), none] [] h6)
    else
     (qbig (d + 1) 260 75 [sR (some t), sI a1, sI a2, sI x3, sI (a2 + 1), none] [] h6))
   else
    (qbig (d + 1) 260 43 [sR (some t), sI a1, sI a2, sI x3, sI (a2 + 1), none] [] h4)))
 else
  ((qgr 12 14 t h).bind fun o8 =>
   (qgi 12 15 t h).bind fun x9 =>
   o8.bind fun p10 => (qsi 0 p10 x9 a1 h).bind fun h11 =>
   (qgr 12 12 t h11).bind fun o12 =>
   (qgi 12 15 t h11).bind fun x13 =>
   o12.bind fun p14 => (qsi 0 p14 x13 0 h11).bind fun h15 =>
   (qgr 12 13 t h15).bind fun o16 =>
   (qgi 12 15 t h15).bind fun x17 =>
   o16.bind fun p18 => (qsi 0 p18 x17 0 h15).bind fun h19 =>
   some (none, h19)) := by
  exact qE 160 [7, 43, 75, 100, 169] (by rfl)
set_option maxRecDepth 1000000 in
set_option maxHeartbeats 1000000 in
theorem E260_43 (d : Nat) (t : Nat) (a1 : Int32) (a2 : Int32) (a3 : Int32) (a4 : Int32) (h : QH) : qbig (d + 1) 260 43 [sR (some t), sI a1, sI a2, sI a3, sI a4, none] [] h =
 if a4 < a1 then
  ((qgr 12 8 t h).bind fun o1 =>
   o1.bind fun p2 => (qai 1 p2 a4 h).bind fun x3 =>
   cI (qcl d 208 [qI x3] h) fun x5 h4 =>
   if x5 = 0 then
   (cI (qcl d 202 [qI a3] h4) fun x7 h6 =>
    if x7 = 0 then
    (qbig (d + 1) 260 100 [sR (some t), sI a1, sI a2, sI a3, sI a4, none] [] h6)
   else
    (qbig (d + 1) 260 75 [sR (some t), sI a1, sI a2, sI a3, sI a4, none] [] h6))
  else
   (qbig (d + 1) 260 43 [sR (some t), sI a1, sI a2, sI a3, sI (a4 + 1), none] [] h4))
 else
  (cI (qcl d 202 [qI a3] h) fun x9 h8 =>
   if x9 = 0 then
   (qbig (d + 1) 260 100 [sR (some t), sI a1, sI a2, sI a3, sI a4, none] [] h8)
  else
   (qbig (d + 1) 260 75 [sR (some t), sI a1, sI a2, sI a3, sI a4, none] [] h8)) := by
  exact qE 160 [7, 43, 75, 100, 169] (by rfl)
set_option maxRecDepth 1000000 in
set_option maxHeartbeats 1000000 in
theorem E260_75 (d : Nat) (t : Nat) (a1 : Int32) (a2 : Int32) (a3 : Int32) (a4 : Int32) (h : QH) : qbig (d + 1) 260 75 [sR (some t), sI a1, sI a2, sI a3, sI a4, none] [] h =
 if a4 < a1 then
  ((qgr 12 8 t h).bind fun o1 =>
   o1.bind fun p2 => (qai 1 p2 a4 h).bind fun x3 =>
   cI (qcl d 202 [qI x3] h) fun x5 h4 =>
   if x5 = 0 then
   (qbig (d + 1) 260 100 [sR (some t), sI a1, sI a2, sI a3, sI a4, none] [] h4)
  else
   (qbig (d + 1) 260 75 [sR (some t), sI a1, sI a2, sI a3, sI (a4 + 1), none] [] h4))
 else
  (qbig (d + 1) 260 100 [sR (some t), sI a1, sI a2, sI a3, sI a4, none] [] h) := by
  exact qE 160 [7, 43, 75, 100, 169] (by rfl)
set_option maxRecDepth 1000000 in
set_option maxHeartbeats 1000000 in
theorem E260_100 (d : Nat) (t : Nat) (a1 : Int32) (a2 : Int32) (a3 : Int32) (a4 : Int32) (h : QH) : qbig (d + 1) 260 100 [sR (some t), sI a1, sI a2, sI a3, sI a4, none] [] h =
 (qgr 12 14 t h).bind fun o1 =>
  (qgi 12 15 t h).bind fun x2 =>
  o1.bind fun p3 => (qsi 0 p3 x2 a2 h).bind fun h4 =>
  (qgr 12 13 t h4).bind fun o5 =>
  (qgi 12 15 t h4).bind fun x6 =>
  o5.bind fun p7 => (qsi 0 p7 x6 0 h4).bind fun h8 =>
  (qgr 12 12 t h8).bind fun o9 =>
  (qgi 12 15 t h8).bind fun x10 =>
  cI (qcl d 208 [qI a3] h8) fun x12 h11 =>
  if x12 = 0 then
  (cI (qcl d 202 [qI a3] h11) fun x14 h13 =>
   if x14 = 0 then
   (o9.bind fun p15 => (qsi 0 p15 x10 (100 + (a3 &&& 255)) h13).bind fun h16 =>
    qbig (d + 1) 260 169 [sR (some t), sI a1, none, sI a3, sI a4, sI a2] [] h16)
  else
   (o9.bind fun p17 => (qsi 0 p17 x10 50 h13).bind fun h18 =>
    qbig (d + 1) 260 169 [sR (some t), sI a1, none, sI a3, sI a4, sI a2] [] h18))
 else
  (cI (qcl d 276 [qR (some t), qI a2, qI a4] h11) fun x20 h19 =>
   o9.bind fun p21 => (qsi 0 p21 x10 x20 h19).bind fun h22 =>
   qbig (d + 1) 260 169 [sR (some t), sI a1, none, sI a3, sI a4, sI a2] [] h22) := by
  exact qE 160 [7, 43, 75, 100, 169] (by rfl)
set_option maxRecDepth 1000000 in
set_option maxHeartbeats 1000000 in
theorem E260_169 (d : Nat) (t : Nat) (a1 : Int32) (a3 : Int32) (a4 : Int32) (a5 : Int32) (h : QH) : qbig (d + 1) 260 169 [sR (some t), sI a1, none, sI a3, sI a4, sI a5] [] h =
 if a5 < a4 then
  (cI (qcl d 202 [qI a3] h) fun x2 h1 =>
   if x2 = 0 then
   ((qgi 12 15 t h1).bind fun x3 =>
    (qpi 12 15 t (x3 + 1) h1).bind fun h4 =>
    qbig (d + 1) 260 7 [sR (some t), sI a1, sI a4, none, none, none] [] h4)
  else
   ((qgr 12 13 t h1).bind fun o5 =>
    (qgi 12 15 t h1).bind fun x6 =>
    (qgr 12 13 t h1).bind fun o7 =>
    (qgi 12 15 t h1).bind fun x8 =>
    o7.bind fun p9 => (qai 0 p9 x8 h1).bind fun x10 =>
    if 1000000 < x10 then
    ((qgr 12 13 t h1).bind fun o11 =>
     (qgi 12 15 t h1).bind fun x12 =>
     o11.bind fun p13 => (qai 0 p13 x12 h1).bind fun x14 =>
     o5.bind fun p15 => (qsi 0 p15 x6 x14 h1).bind fun h16 =>
     qbig (d + 1) 260 169 [sR (some t), sI a1, none, sI a3, sI a4, sI (a5 + 1)] [] h16)
   else
    ((qgr 12 13 t h1).bind fun o17 =>
     (qgi 12 15 t h1).bind fun x18 =>
     o17.bind fun p19 => (qai 0 p19 x18 h1).bind fun x20 =>
     (qgr 12 8 t h1).bind fun o21 =>
     o21.bind fun p22 => (qai 1 p22 a5 h1).bind fun x23 =>
     o5.bind fun p24 => (qsi 0 p24 x6 (((10 * x20) + x23) - 48) h1).bind fun h25 =>
     qbig (d + 1) 260 169 [sR (some t), sI a1, none, sI a3, sI a4, sI (a5 + 1)] [] h25)))
 else
  ((qgi 12 15 t h).bind fun x26 =>
   (qpi 12 15 t (x26 + 1) h).bind fun h27 =>
   qbig (d + 1) 260 7 [sR (some t), sI a1, sI a4, none, none, none] [] h27) := by
  exact qE 160 [7, 43, 75, 100, 169] (by rfl)
set_option maxRecDepth 1000000 in
set_option maxHeartbeats 1000000 in
theorem E261 (d : Nat) (t : Nat) (a1 : Int32) (a2 : Int32) (h : QH) : qcl (d + 1) 261 [qR (some t), qI a1, qI a2] h =
 (qck 12 t h).bind fun _ =>
 cI (qcl d 200 [qR (some t), qI a1] h) fun x2 h1 =>
  if x2 = 0 then
  (some (some (qI (-1)), h1))
 else
  (cI (qcl d 203 [qR (some t), qI a2] h1) fun x4 h3 =>
   if x4 = 0 then
   (some (some (qI (-1)), h3))
  else
   (cI (qcl d 257 [qR (some t), qI a1, qI (-1), qI ((1 : Int32) <<< (a2 &&& 31))] h3) fun x6 h5 =>
    some (some (qI x6), h5))) := by
  exact qE0 23 [] (by rfl)
set_option maxRecDepth 1000000 in
set_option maxHeartbeats 1000000 in
theorem E262 (d : Nat) (t : Nat) (h : QH) : qcl (d + 1) 262 [qR (some t)] h =
 (qck 12 t h).bind fun _ =>
 (qgi 12 0 t h).bind fun x1 =>
  some (some (qI x1), h) := by
  exact qE0 8 [] (by rfl)
set_option maxRecDepth 1000000 in
set_option maxHeartbeats 1000000 in
theorem E263 (d : Nat) (t : Nat) (a1 : Int32) (h : QH) : qcl (d + 1) 263 [qR (some t), qI a1] h =
 (qck 12 t h).bind fun _ =>
 cL (qcl d 269 [qR (some t), qI a1] h) fun l2 h1 =>
  qbig (d + 1) 263 6 [sR (some t), sI a1, sL l2, none, none, none, none] [] h1 := by
  exact qE0 60 [6, 59, 100] (by rfl)
set_option maxRecDepth 1000000 in
set_option maxHeartbeats 1000000 in
theorem E263_6 (d : Nat) (t : Nat) (a1 : Int32) (a2 : Int64) (h : QH) : qbig (d + 1) 263 6 [sR (some t), sI a1, sL a2, none, none, none, none] [] h =
 (qgi 12 19 t h).bind fun x1 =>
  cI (qcl d 178 [qR (some t), qI x1] h) fun x3 h2 =>
  cI (qcl d 254 [qI 43] h2) fun x5 h4 =>
  if x3 = x5 then
  ((qgi 12 19 t h4).bind fun x6 =>
   cI (qcl d 178 [qR (some t), qI x6] h4) fun x8 h7 =>
   cI (qcl d 254 [qI 43] h7) fun x10 h9 =>
   if x8 = x10 then
   (qbig (d + 1) 263 59 [sR (some t), sI a1, sL a2, none, none, none, none] [qI 1] h9)
  else
   (qbig (d + 1) 263 59 [sR (some t), sI a1, sL a2, none, none, none, none] [qI 0] h9))
 else
  ((qgi 12 19 t h4).bind fun x11 =>
   cI (qcl d 178 [qR (some t), qI x11] h4) fun x13 h12 =>
   cI (qcl d 254 [qI 45] h12) fun x15 h14 =>
   if x13 = x15 then
   ((qgi 12 19 t h14).bind fun x16 =>
    cI (qcl d 178 [qR (some t), qI x16] h14) fun x18 h17 =>
    cI (qcl d 254 [qI 43] h17) fun x20 h19 =>
    if x18 = x20 then
    (qbig (d + 1) 263 59 [sR (some t), sI a1, sL a2, none, none, none, none] [qI 1] h19)
   else
    (qbig (d + 1) 263 59 [sR (some t), sI a1, sL a2, none, none, none, none] [qI 0] h19))
  else
   (some (some (qL a2), h14))) := by
  exact qE 60 [6, 59, 100] (by rfl)
set_option maxRecDepth 1000000 in
set_option maxHeartbeats 1000000 in
theorem E263_59 (d : Nat) (t : Nat) (a1 : Int32) (a2 : Int64) (b0 : Int32) (h : QH) : qbig (d + 1) 263 59 [sR (some t), sI a1, sL a2, none, none, none, none] [qI b0] h =
 (qgi 12 19 t h).bind fun x1 =>
  (qpi 12 19 t (x1 + 1) h).bind fun h2 =>
  cL (qcl d 269 [qR (some t), qI a1] h2) fun l4 h3 =>
  if b0 = 0 then
  (cL (qcl d 176 [qR (some t), qL (a2 - l4), qI a1] h3) fun l6 h5 =>
   qbig (d + 1) 263 100 [sR (some t), sI a1, sL l6, none, none, none, none] [] h5)
 else
  (cL (qcl d 176 [qR (some t), qL (a2 + l4), qI a1] h3) fun l8 h7 =>
   qbig (d + 1) 263 100 [sR (some t), sI a1, sL l8, none, none, none, none] [] h7) := by
  exact qE 60 [6, 59, 100] (by rfl)
set_option maxRecDepth 1000000 in
set_option maxHeartbeats 1000000 in
theorem E263_100 (d : Nat) (t : Nat) (a1 : Int32) (a2 : Int64) (h : QH) : qbig (d + 1) 263 100 [sR (some t), sI a1, sL a2, none, none, none, none] [] h =
 qbig (d + 1) 263 6 [sR (some t), sI a1, sL a2, none, none, none, none] [] h := by
  exact qE 60 [6, 59, 100] (by rfl)
set_option maxRecDepth 1000000 in
set_option maxHeartbeats 1000000 in
theorem E264 (d : Nat) (t : Nat) (a1 : Int32) (h : QH) : qcl (d + 1) 264 [qR (some t), qI a1] h =
 (qck 12 t h).bind fun _ =>
 cI (qcl d 187 [qR (some t)] h) fun x2 h1 =>
  if x2 = 0 then
  (if (0 : Int32) = 0 then
   (if (0 : Int32) = 0 ∨ (0 : Int32) = 1 then some (some (qI 0), h1) else none)
  else
   ((qgi 12 16 t h1).bind fun x3 =>
    (qpi 12 16 t (x3 + 1) h1).bind fun h4 =>
    if (0 : Int32) = 0 ∨ (0 : Int32) = 1 then some (some (qI 0), h4) else none))
 else
  ((qgr 12 12 t h1).bind fun o5 =>
   (qgi 12 16 t h1).bind fun x6 =>
   o5.bind fun p7 => (qai 0 p7 x6 h1).bind fun x8 =>
   if x8 = a1 then
   (if (1 : Int32) = 0 then
    (if (1 : Int32) = 0 ∨ (1 : Int32) = 1 then some (some (qI 1), h1) else none)
   else
    ((qgi 12 16 t h1).bind fun x9 =>
     (qpi 12 16 t (x9 + 1) h1).bind fun h10 =>
     if (1 : Int32) = 0 ∨ (1 : Int32) = 1 then some (some (qI 1), h10) else none))
  else
   (if (0 : Int32) = 0 then
    (if (0 : Int32) = 0 ∨ (0 : Int32) = 1 then some (some (qI 0), h1) else none)
   else
    ((qgi 12 16 t h1).bind fun x11 =>
     (qpi 12 16 t (x11 + 1) h1).bind fun h12 =>
     if (0 : Int32) = 0 ∨ (0 : Int32) = 1 then some (some (qI 0), h12) else none))) := by
  exact qE0 29 [] (by rfl)
set_option maxRecDepth 1000000 in
set_option maxHeartbeats 1000000 in
theorem E265 (d : Nat) (t : Nat) (h : QH) : qcl (d + 1) 265 [qR (some t)] h =
 (qck 12 t h).bind fun _ =>
 (qgr 12 22 t h).bind fun o1 =>
  o1.bind fun p2 => (qai 0 p2 4 h).bind fun x3 =>
  cI (qcl d 168 [qR (some t), qI x3, qI 0] h) fun x5 h4 =>
  cI (qcl d 271 [qR (some t), qI 2, qI 1, qI 12, qI x5] h4) fun x7 h6 =>
  some (some (qI x7), h6) := by
  exact qE0 18 [] (by rfl)
set_option maxRecDepth 1000000 in
set_option maxHeartbeats 1000000 in
theorem E266 (d : Nat) (t : Nat) (a1 : Int32) (h : QH) : qcl (d + 1) 266 [qR (some t), qI a1] h =
 (qck 12 t h).bind fun _ =>
 cI (qcl d 250 [qR (some t), qI a1, qI 1] h) fun x2 h1 =>
  cI (qcl d 250 [qR (some t), qI a1, qI 2] h1) fun x4 h3 =>
  cI (qcl d 250 [qR (some t), qI a1, qI 3] h3) fun x6 h5 =>
  if x6 = 0 then
  (cI (qcl d 168 [qR (some t), qI x4, qI 0] h5) fun x8 h7 =>
   some (some (qI x8), h7))
 else
  (qbig (d + 1) 266 37 [sR (some t), sI a1, sI x2, sI x4, sI x6, sI 0] [] h5) := by
  exact qE0 65 [37] (by rfl)
set_option maxRecDepth 1000000 in
set_option maxHeartbeats 1000000 in
theorem E266_37 (d : Nat) (t : Nat) (a1 : Int32) (a2 : Int32) (a3 : Int32) (a4 : Int32) (a5 : Int32) (h : QH) : qbig (d + 1) 266 37 [sR (some t), sI a1, sI a2, sI a3, sI a4, sI a5] [] h =
 cI (qcl d 196 [qI a4, qI a5] h) fun x2 h1 =>
  if x2 = 0 then
  (qbig (d + 1) 266 37 [sR (some t), sI a1, sI a2, sI a3, sI a4, sI (a5 + 1)] [] h1)
 else
  ((qgr 12 23 t h1).bind fun o3 =>
   o3.bind fun p4 => (qai 0 p4 ((5 * a2) + a3) h1).bind fun x5 =>
   (qgr 12 23 t h1).bind fun o6 =>
   o6.bind fun p7 => (qai 0 p7 ((5 * a5) + a3) h1).bind fun x8 =>
   cI (qcl d 250 [qR (some t), qI a1, qI 0] h1) fun x10 h9 =>
   cI (qcl d 228 [qI a4] h9) fun x12 h11 =>
   cV (qcl d 170 [qR (some t), qI a2, qI x5, qI a5, qI x8, qI a3, qI x10, qI x12] h11) fun h13 =>
   cI (qcl d 265 [qR (some t)] h13) fun x15 h14 =>
   some (some (qI x15), h14)) := by
  exact qE 65 [37] (by rfl)
set_option maxRecDepth 1000000 in
set_option maxHeartbeats 1000000 in
theorem E267 (d : Nat) (t : Nat) (a1 : Int32) (a2 : Int32) (h : QH) : qcl (d + 1) 267 [qR (some t), qI a1, qI a2] h =
 (qck 12 t h).bind fun _ =>
 cI (qcl d 203 [qR (some t), qI a1] h) fun x2 h1 =>
  if x2 = 0 then
  (cI (qcl d 244 [qR (some t), qI (-2)] h1) fun x4 h3 =>
   some (some (qI x4), h3))
 else
  (cI (qcl d 203 [qR (some t), qI a2] h1) fun x6 h5 =>
   if x6 = 0 then
   (cI (qcl d 244 [qR (some t), qI (-2)] h5) fun x8 h7 =>
    some (some (qI x8), h7))
  else
   (if a1 = a2 then
    (cI (qcl d 244 [qR (some t), qI (-3)] h5) fun x10 h9 =>
     some (some (qI x10), h9))
   else
    (cI (qcl d 223 [qR (some t), qI a1, qI a2] h5) fun x12 h11 =>
     if x12 = 0 then
     (cI (qcl d 244 [qR (some t), qI (-3)] h11) fun x14 h13 =>
      some (some (qI x14), h13))
    else
     ((qgr 12 3 t h11).bind fun o15 =>
      o15.bind fun p16 => (qai 0 p16 (400 + a1) h11).bind fun x17 =>
      (qgr 12 3 t h11).bind fun o18 =>
      o18.bind fun p19 => (qai 0 p19 (400 + a2) h11).bind fun x20 =>
      (qgr 12 3 t h11).bind fun o21 =>
      o21.bind fun p22 => (qsi 0 p22 (400 + a1) (x17 ||| x20) h11).bind fun h23 =>
      (qgr 12 3 t h23).bind fun o24 =>
      o24.bind fun p25 => (qsi 0 p25 (400 + a2) (x17 ||| x20) h23).bind fun h26 =>
      (qgr 12 3 t h26).bind fun o27 =>
      o27.bind fun p28 => (qai 0 p28 412 h26).bind fun x29 =>
      o27.bind fun p30 => (qsi 0 p30 412 (x29 + 1) h26).bind fun h31 =>
      qbig (d + 1) 267 106 [sR (some t), none, none, none, sI 0, sI 0] [] h31)))) := by
  exact qE0 98 [106] (by rfl)
set_option maxRecDepth 1000000 in
set_option maxHeartbeats 1000000 in
theorem E267_106 (d : Nat) (t : Nat) (a4 : Int32) (a5 : Int32) (h : QH) : qbig (d + 1) 267 106 [sR (some t), none, none, none, sI a4, sI a5] [] h =
 cI (qcl d 232 [qR (some t)] h) fun x2 h1 =>
  if a5 < x2 then
  ((qgr 12 3 t h1).bind fun o3 =>
   o3.bind fun p4 => (qai 0 p4 (400 + a5) h1).bind fun x5 =>
   cI (qcl d 232 [qR (some t)] h1) fun x7 h6 =>
   if x5 = (((1 : Int32) <<< (x7 &&& 31)) - 1) then
   (qbig (d + 1) 267 106 [sR (some t), none, none, none, sI (a4 + 1), sI (a5 + 1)] [] h6)
  else
   (qbig (d + 1) 267 106 [sR (some t), none, none, none, sI (a4 + 0), sI (a5 + 1)] [] h6))
 else
  (cI (qcl d 190 [qR (some t), qI a4] h1) fun x9 h8 =>
   some (some (qI x9), h8)) := by
  exact qE 98 [106] (by rfl)
set_option maxRecDepth 1000000 in
set_option maxHeartbeats 1000000 in
theorem E268 (d : Nat) (t : Nat) (a1 : Int32) (h : QH) : qcl (d + 1) 268 [qR (some t), qI a1] h =
 (qck 12 t h).bind fun _ =>
 cI (qcl d 218 [qI a1, qI 1, qI 12] h) fun x2 h1 =>
  if x2 = 0 then
  (some (some (qI (-1)), h1))
 else
  (if a1 = 1 then
   (some (some (qI 0), h1))
  else
   (if a1 = 2 then
    (some (some (qI 1), h1))
   else
    (if a1 = 3 then
     (some (some (qI 3), h1))
    else
     (some (some (qI ((2 * a1) - 4)), h1))))) := by
  exact qE0 33 [] (by rfl)
set_option maxRecDepth 1000000 in
set_option maxHeartbeats 1000000 in
theorem E269 (d : Nat) (t : Nat) (a1 : Int32) (h : QH) : qcl (d + 1) 269 [qR (some t), qI a1] h =
 (qck 12 t h).bind fun _ =>
 cL (qcl d 230 [qR (some t), qI a1] h) fun l2 h1 =>
  qbig (d + 1) 269 6 [sR (some t), sI a1, sL l2, none, none, none, none] [] h1 := by
  exact qE0 78 [6, 59, 113, 135] (by rfl)
set_option maxRecDepth 1000000 in
set_option maxHeartbeats 1000000 in
theorem E269_6 (d : Nat) (t : Nat) (a1 : Int32) (a2 : Int64) (h : QH) : qbig (d + 1) 269 6 [sR (some t), sI a1, sL a2, none, none, none, none] [] h =
 (qgi 12 19 t h).bind fun x1 =>
  cI (qcl d 178 [qR (some t), qI x1] h) fun x3 h2 =>
  cI (qcl d 254 [qI 42] h2) fun x5 h4 =>
  if x3 = x5 then
  ((qgi 12 19 t h4).bind fun x6 =>
   cI (qcl d 178 [qR (some t), qI x6] h4) fun x8 h7 =>
   cI (qcl d 254 [qI 42] h7) fun x10 h9 =>
   if x8 = x10 then
   (qbig (d + 1) 269 59 [sR (some t), sI a1, sL a2, none, none, none, none] [qI 1] h9)
  else
   (qbig (d + 1) 269 59 [sR (some t), sI a1, sL a2, none, none, none, none] [qI 0] h9))
 else
  ((qgi 12 19 t h4).bind fun x11 =>
   cI (qcl d 178 [qR (some t), qI x11] h4) fun x13 h12 =>
   cI (qcl d 254 [qI 47] h12) fun x15 h14 =>
   if x13 = x15 then
   ((qgi 12 19 t h14).bind fun x16 =>
    cI (qcl d 178 [qR (some t), qI x16] h14) fun x18 h17 =>
    cI (qcl d 254 [qI 42] h17) fun x20 h19 =>
    if x18 = x20 then
    (qbig (d + 1) 269 59 [sR (some t), sI a1, sL a2, none, none, none, none] [qI 1] h19)
   else
    (qbig (d + 1) 269 59 [sR (some t), sI a1, sL a2, none, none, none, none] [qI 0] h19))
  else
   (some (some (qL a2), h14))) := by
  exact qE 78 [6, 59, 113, 135] (by rfl)
set_option maxRecDepth 1000000 in
set_option maxHeartbeats 1000000 in
theorem E269_59 (d : Nat) (t : Nat) (a1 : Int32) (a2 : Int64) (b0 : Int32) (h : QH) : qbig (d + 1) 269 59 [sR (some t), sI a1, sL a2, none, none, none, none] [qI b0] h =
 (qgi 12 19 t h).bind fun x1 =>
  (qpi 12 19 t (x1 + 1) h).bind fun h2 =>
  cL (qcl d 230 [qR (some t), qI a1] h2) fun l4 h3 =>
  if b0 = 0 then
  (if (lg_cmp l4 ((0 : Int32).toInt64)) = 0 then
   ((qgi 12 21 t h3).bind fun x5 =>
    if x5 = 0 then
    (if a1 = 0 then
     ((qpz 12 21 t 0 h3).bind fun h6 =>
      qbig (d + 1) 269 113 [sR (some t), sI a1, sL a2, none, sI b0, sL ((1 : Int32).toInt64), none] [] h6)
    else
     ((qpz 12 21 t 1 h3).bind fun h7 =>
      qbig (d + 1) 269 113 [sR (some t), sI a1, sL a2, none, sI b0, sL ((1 : Int32).toInt64), none] [] h7))
   else
    ((qpz 12 21 t 1 h3).bind fun h8 =>
     qbig (d + 1) 269 113 [sR (some t), sI a1, sL a2, none, sI b0, sL ((1 : Int32).toInt64), none] [] h8))
  else
   (qbig (d + 1) 269 113 [sR (some t), sI a1, sL a2, none, sI b0, sL l4, none] [] h3))
 else
  (qbig (d + 1) 269 113 [sR (some t), sI a1, sL a2, none, sI b0, sL l4, none] [] h3) := by
  exact qE 78 [6, 59, 113, 135] (by rfl)
set_option maxRecDepth 1000000 in
set_option maxHeartbeats 1000000 in
theorem E269_113 (d : Nat) (t : Nat) (a1 : Int32) (a2 : Int64) (a4 : Int32) (a5 : Int64) (h : QH) : qbig (d + 1) 269 113 [sR (some t), sI a1, sL a2, none, sI a4, sL a5, none] [] h =
 if a4 = 0 then
  (if a5 = 0 then none else
   cL (qcl d 176 [qR (some t), qL (a2 / a5), qI a1] h) fun l2 h1 =>
   qbig (d + 1) 269 135 [sR (some t), sI a1, sL l2, none, none, none, none] [] h1)
 else
  (cL (qcl d 176 [qR (some t), qL (a2 * a5), qI a1] h) fun l4 h3 =>
   qbig (d + 1) 269 135 [sR (some t), sI a1, sL l4, none, none, none, none] [] h3) := by
  exact qE 78 [6, 59, 113, 135] (by rfl)
set_option maxRecDepth 1000000 in
set_option maxHeartbeats 1000000 in
theorem E269_135 (d : Nat) (t : Nat) (a1 : Int32) (a2 : Int64) (h : QH) : qbig (d + 1) 269 135 [sR (some t), sI a1, sL a2, none, none, none, none] [] h =
 qbig (d + 1) 269 6 [sR (some t), sI a1, sL a2, none, none, none, none] [] h := by
  exact qE 78 [6, 59, 113, 135] (by rfl)
set_option maxRecDepth 1000000 in
set_option maxHeartbeats 1000000 in
theorem E270 (d : Nat) (t : Nat) (a1 : Int32) (h : QH) : qcl (d + 1) 270 [qR (some t), qI a1] h =
 (qck 12 t h).bind fun _ =>
 cI (qcl d 175 [qR (some t), qI a1] h) fun x2 h1 =>
  qbig (d + 1) 270 6 [sR (some t), sI a1, sI x2, none] [] h1 := by
  exact qE0 34 [6] (by rfl)
set_option maxRecDepth 1000000 in
set_option maxHeartbeats 1000000 in
theorem E270_6 (d : Nat) (t : Nat) (a1 : Int32) (a2 : Int32) (h : QH) : qbig (d + 1) 270 6 [sR (some t), sI a1, sI a2, none] [] h =
 cI (qcl d 231 [qR (some t), qI 6] h) fun x2 h1 =>
  if x2 = 0 then
  (if (a2 : Int32) = 0 ∨ (a2 : Int32) = 1 then some (some (qI a2), h1) else none)
 else
  (if a1 = 0 then
   (cI (qcl d 175 [qR (some t), qI 0] h1) fun x4 h3 =>
    if a2 = 0 then
    (if x4 = 0 then
     (qbig (d + 1) 270 6 [sR (some t), sI a1, sI 0, none] [] h3)
    else
     (qbig (d + 1) 270 6 [sR (some t), sI a1, sI 1, none] [] h3))
   else
    (qbig (d + 1) 270 6 [sR (some t), sI a1, sI 1, none] [] h3))
  else
   (if a2 = 0 then
    (cI (qcl d 175 [qR (some t), qI 1] h1) fun x6 h5 =>
     if a2 = 0 then
     (if x6 = 0 then
      (qbig (d + 1) 270 6 [sR (some t), sI a1, sI 0, none] [] h5)
     else
      (qbig (d + 1) 270 6 [sR (some t), sI a1, sI 1, none] [] h5))
    else
     (qbig (d + 1) 270 6 [sR (some t), sI a1, sI 1, none] [] h5))
   else
    (cI (qcl d 175 [qR (some t), qI 0] h1) fun x8 h7 =>
     if a2 = 0 then
     (if x8 = 0 then
      (qbig (d + 1) 270 6 [sR (some t), sI a1, sI 0, none] [] h7)
     else
      (qbig (d + 1) 270 6 [sR (some t), sI a1, sI 1, none] [] h7))
    else
     (qbig (d + 1) 270 6 [sR (some t), sI a1, sI 1, none] [] h7)))) := by
  exact qE 34 [6] (by rfl)
set_option maxRecDepth 1000000 in
set_option maxHeartbeats 1000000 in
theorem E271 (d : Nat) (t : Nat) (a1 : Int32) (a2 : Int32) (a3 : Int32) (a4 : Int32) (h : QH) : qcl (d + 1) 271 [qR (some t), qI a1, qI a2, qI a3, qI a4] h =
 (qck 12 t h).bind fun _ =>
 (qgr 12 3 t h).bind fun o1 =>
  o1.bind fun p2 => (qai 0 p2 413 h).bind fun x3 =>
  if x3 = (-1) then
  (some (some (qI a4), h))
 else
  ((qgr 12 3 t h).bind fun o4 =>
   o4.bind fun p5 => (qai 0 p5 413 h).bind fun x6 =>
   (qpi 12 19 t (400 * x6) h).bind fun h7 =>
   (qgi 12 19 t h7).bind fun x8 =>
   (qgr 12 3 t h7).bind fun o9 =>
   (qgr 12 3 t h7).bind fun o10 =>
   o10.bind fun p11 => (qai 0 p11 413 h7).bind fun x12 =>
   o9.bind fun p13 => (qai 0 p13 (414 + x12) h7).bind fun x14 =>
   (qpi 12 20 t (x8 + x14) h7).bind fun h15 =>
   qbig (d + 1) 271 61 [sR (some t), sI a1, sI a2, sI a3, none, sI a4, none, none, none, none, none] [] h15) := by
  exact qE0 125 [61, 120, 176] (by rfl)
set_option maxRecDepth 1000000 in
set_option maxHeartbeats 1000000 in
theorem E271_61 (d : Nat) (t : Nat) (a1 : Int32) (a2 : Int32) (a3 : Int32) (a5 : Int32) (h : QH) : qbig (d + 1) 271 61 [sR (some t), sI a1, sI a2, sI a3, none, sI a5, none, none, none, none, none] [] h =
 (qgi 12 19 t h).bind fun x1 =>
  (qgi 12 20 t h).bind fun x2 =>
  if x1 < x2 then
  ((qpz 12 21 t 0 h).bind fun h3 =>
   (qgi 12 19 t h3).bind fun x4 =>
   cI (qcl d 178 [qR (some t), qI x4] h3) fun x6 h5 =>
   (qgi 12 19 t h5).bind fun x7 =>
   (qpi 12 19 t (x7 + 1) h5).bind fun h8 =>
   if x6 = 4 then
   ((qgi 12 21 t h8).bind fun x9 =>
    qbig (d + 1) 271 120 [sR (some t), sI a1, sI a2, sI a3, none, sI a5, sI x6, sL ((1 : Int32).toInt64), none, sI x9, none] [] h8)
  else
   (cL (qcl d 263 [qR (some t), qI 1] h8) fun l11 h10 =>
    (qgi 12 21 t h10).bind fun x12 =>
    qbig (d + 1) 271 120 [sR (some t), sI a1, sI a2, sI a3, none, sI a5, sI x6, sL l11, none, sI x12, none] [] h10))
 else
  (some (some (qI a5), h)) := by
  exact qE 125 [61, 120, 176] (by rfl)
set_option maxRecDepth 1000000 in
set_option maxHeartbeats 1000000 in
theorem E271_120 (d : Nat) (t : Nat) (a1 : Int32) (a2 : Int32) (a3 : Int32) (a5 : Int32) (a6 : Int32) (a7 : Int64) (a9 : Int32) (h : QH) : qbig (d + 1) 271 120 [sR (some t), sI a1, sI a2, sI a3, none, sI a5, sI a6, sL a7, none, sI a9, none] [] h =
 (qpz 12 21 t 0 h).bind fun h1 =>
  cI (qcl d 231 [qR (some t), qI 5] h1) fun x3 h2 =>
  if x3 = 0 then
  (if (1 : Int32) = 0 then
   (qbig (d + 1) 271 176 [sR (some t), sI a1, sI a2, sI a3, none, sI a5, none, sL a7, none, none, none] [qI 0] h2)
  else
   ((qgi 12 21 t h2).bind fun x4 =>
    if x4 = 0 then
    (if a9 = 0 then
     (if a6 = a1 then
      (qbig (d + 1) 271 176 [sR (some t), sI a1, sI a2, sI a3, none, sI a5, none, sL a7, none, none, none] [qI 1] h2)
     else
      (qbig (d + 1) 271 176 [sR (some t), sI a1, sI a2, sI a3, none, sI a5, none, sL a7, none, none, none] [qI 0] h2))
    else
     (qbig (d + 1) 271 176 [sR (some t), sI a1, sI a2, sI a3, none, sI a5, none, sL a7, none, none, none] [qI 0] h2))
   else
    (qbig (d + 1) 271 176 [sR (some t), sI a1, sI a2, sI a3, none, sI a5, none, sL a7, none, none, none] [qI 0] h2)))
 else
  (cI (qcl d 270 [qR (some t), qI 1] h2) fun x6 h5 =>
   if x6 = 0 then
   (if (0 : Int32) = 0 then
    (qbig (d + 1) 271 176 [sR (some t), sI a1, sI a2, sI a3, none, sI a5, none, sL a7, none, none, none] [qI 0] h5)
   else
    ((qgi 12 21 t h5).bind fun x7 =>
     if x7 = 0 then
     (if a9 = 0 then
      (if a6 = a1 then
       (qbig (d + 1) 271 176 [sR (some t), sI a1, sI a2, sI a3, none, sI a5, none, sL a7, none, none, none] [qI 1] h5)
      else
       (qbig (d + 1) 271 176 [sR (some t), sI a1, sI a2, sI a3, none, sI a5, none, sL a7, none, none, none] [qI 0] h5))
     else
      (qbig (d + 1) 271 176 [sR (some t), sI a1, sI a2, sI a3, none, sI a5, none, sL a7, none, none, none] [qI 0] h5))
    else
     (qbig (d + 1) 271 176 [sR (some t), sI a1, sI a2, sI a3, none, sI a5, none, sL a7, none, none, none] [qI 0] h5)))
  else
   (if (1 : Int32) = 0 then
    (qbig (d + 1) 271 176 [sR (some t), sI a1, sI a2, sI a3, none, sI a5, none, sL a7, none, none, none] [qI 0] h5)
   else
    ((qgi 12 21 t h5).bind fun x8 =>
     if x8 = 0 then
     (if a9 = 0 then
      (if a6 = a1 then
       (qbig (d + 1) 271 176 [sR (some t), sI a1, sI a2, sI a3, none, sI a5, none, sL a7, none, none, none] [qI 1] h5)
      else
       (qbig (d + 1) 271 176 [sR (some t), sI a1, sI a2, sI a3, none, sI a5, none, sL a7, none, none, none] [qI 0] h5))
     else
      (qbig (d + 1) 271 176 [sR (some t), sI a1, sI a2, sI a3, none, sI a5, none, sL a7, none, none, none] [qI 0] h5))
    else
     (qbig (d + 1) 271 176 [sR (some t), sI a1, sI a2, sI a3, none, sI a5, none, sL a7, none, none, none] [qI 0] h5)))) := by
  exact qE 125 [61, 120, 176] (by rfl)
set_option maxRecDepth 1000000 in
set_option maxHeartbeats 1000000 in
theorem E271_176 (d : Nat) (t : Nat) (a1 : Int32) (a2 : Int32) (a3 : Int32) (a5 : Int32) (a7 : Int64) (b0 : Int32) (h : QH) : qbig (d + 1) 271 176 [sR (some t), sI a1, sI a2, sI a3, none, sI a5, none, sL a7, none, none, none] [qI b0] h =
 (qgi 12 19 t h).bind fun x1 =>
  (qpi 12 19 t (x1 + 1) h).bind fun h2 =>
  if b0 = 0 then
  (qbig (d + 1) 271 61 [sR (some t), sI a1, sI a2, sI a3, none, sI a5, none, none, none, none, none] [] h2)
 else
  (if (lg_cmp a7 (Int32.toInt64 a2)) < 0 then
   (qbig (d + 1) 271 61 [sR (some t), sI a1, sI a2, sI a3, none, sI a2, none, none, none, none, none] [] h2)
  else
   (if 0 < (lg_cmp a7 (Int32.toInt64 a3)) then
    (qbig (d + 1) 271 61 [sR (some t), sI a1, sI a2, sI a3, none, sI a3, none, none, none, none, none] [] h2)
   else
    (qbig (d + 1) 271 61 [sR (some t), sI a1, sI a2, sI a3, none, sI (Int64.toInt32 a7), none, none, none, none, none] [] h2))) := by
  exact qE 125 [61, 120, 176] (by rfl)
set_option maxRecDepth 1000000 in
set_option maxHeartbeats 1000000 in
theorem E272 (d : Nat) (t : Nat) (a1 : Int32) (a2 : Int32) (h : QH) : qcl (d + 1) 272 [qR (some t), qI a1, qI a2] h =
 (qck 12 t h).bind fun _ =>
 cI (qcl d 218 [qI a2, qI 0, qI 1000000] h) fun x2 h1 =>
  if x2 = 0 then
  (cI (qcl d 244 [qR (some t), qI (-1)] h1) fun x4 h3 =>
   some (some (qI x4), h3))
 else
  (cI (qcl d 200 [qR (some t), qI a1] h1) fun x6 h5 =>
   if x6 = 0 then
   (cI (qcl d 244 [qR (some t), qI (-2)] h5) fun x8 h7 =>
    some (some (qI x8), h7))
  else
   ((qpi 12 44 t a2 h5).bind fun h9 =>
    cI (qcl d 232 [qR (some t)] h9) fun x11 h10 =>
    (qpi 12 42 t x11 h10).bind fun h12 =>
    (qpi 12 43 t 0 h12).bind fun h13 =>
    qbig (d + 1) 272 51 [sR (some t), sI a1, none, sI 0, none, none, none, none, none] [] h13)) := by
  exact qE0 241 [51, 81, 90, 129, 279, 342, 389] (by rfl)
set_option maxRecDepth 1000000 in
set_option maxHeartbeats 1000000 in
theorem E272_51 (d : Nat) (t : Nat) (a1 : Int32) (a3 : Int32) (h : QH) : qbig (d + 1) 272 51 [sR (some t), sI a1, none, sI a3, none, none, none, none, none] [] h =
 (qgi 12 42 t h).bind fun x1 =>
  if a3 < x1 then
  ((qgr 12 24 t h).bind fun o2 =>
   cI (qcl d 212 [qR (some t), qI a3, qI a1] h) fun x4 h3 =>
   o2.bind fun p5 => (qsi 0 p5 (5 * a3) x4 h3).bind fun h6 =>
   qbig (d + 1) 272 51 [sR (some t), sI a1, none, sI (a3 + 1), none, none, none, none, none] [] h6)
 else
  (qbig (d + 1) 272 81 [sR (some t), sI a1, none, sI 0, none, none, none, none, none] [] h) := by
  exact qE 241 [51, 81, 90, 129, 279, 342, 389] (by rfl)
set_option maxRecDepth 1000000 in
set_option maxHeartbeats 1000000 in
theorem E272_81 (d : Nat) (t : Nat) (a1 : Int32) (a3 : Int32) (h : QH) : qbig (d + 1) 272 81 [sR (some t), sI a1, none, sI a3, none, none, none, none, none] [] h =
 if a3 < 7 then
  (qbig (d + 1) 272 90 [sR (some t), sI a1, none, sI a3, sI 0, none, none, none, none] [] h)
 else
  (qbig (d + 1) 272 389 [sR (some t), none, none, sI 0, sI 0, none, none, none, none] [] h) := by
  exact qE 241 [51, 81, 90, 129, 279, 342, 389] (by rfl)
set_option maxRecDepth 1000000 in
set_option maxHeartbeats 1000000 in
theorem E272_90 (d : Nat) (t : Nat) (a1 : Int32) (a3 : Int32) (a4 : Int32) (h : QH) : qbig (d + 1) 272 90 [sR (some t), sI a1, none, sI a3, sI a4, none, none, none, none] [] h =
 (qgi 12 42 t h).bind fun x1 =>
  if a4 < x1 then
  ((qgr 12 23 t h).bind fun o2 =>
   (qgr 12 24 t h).bind fun o3 =>
   o3.bind fun p4 => (qai 0 p4 (5 * a4) h).bind fun x5 =>
   o2.bind fun p6 => (qsi 0 p6 (5 * a4) x5 h).bind fun h7 =>
   qbig (d + 1) 272 90 [sR (some t), sI a1, none, sI a3, sI (a4 + 1), none, none, none, none] [] h7)
 else
  (qbig (d + 1) 272 129 [sR (some t), sI a1, none, sI a3, sI 0, sI 0, none, none, none] [] h) := by
  exact qE 241 [51, 81, 90, 129, 279, 342, 389] (by rfl)
set_option maxRecDepth 1000000 in
set_option maxHeartbeats 1000000 in
theorem E272_129 (d : Nat) (t : Nat) (a1 : Int32) (a3 : Int32) (a4 : Int32) (a5 : Int32) (h : QH) : qbig (d + 1) 272 129 [sR (some t), sI a1, none, sI a3, sI a4, sI a5, none, none, none] [] h =
 (qgi 12 42 t h).bind fun x1 =>
  if a5 < x1 then
  ((qgr 12 23 t h).bind fun o2 =>
   o2.bind fun p3 => (qai 0 p3 (5 * a5) h).bind fun x4 =>
   if x4 < 1 then
   (qbig (d + 1) 272 129 [sR (some t), sI a1, none, sI a3, sI a4, sI (a5 + 1), none, none, none] [] h)
  else
   (cI (qcl d 201 [qR (some t), qI a5, qI a3] h) fun x6 h5 =>
    if x6 = 0 then
    ((qgi 12 42 t h5).bind fun x7 =>
     cI (qcl d 181 [qR (some t), qI x7] h5) fun x9 h8 =>
     if x9 = a5 then
     (qbig (d + 1) 272 129 [sR (some t), sI a1, none, sI a3, sI a4, sI (a5 + 1), none, none, none] [] h8)
    else
     (cI (qcl d 201 [qR (some t), qI x9, qI a3] h8) fun x11 h10 =>
      if x11 = 0 then
      (cI (qcl d 223 [qR (some t), qI a5, qI x9] h10) fun x13 h12 =>
       if x13 = 0 then
       (qbig (d + 1) 272 129 [sR (some t), sI a1, none, sI a3, sI a4, sI (a5 + 1), none, none, none] [] h12)
      else
       (cI (qcl d 196 [qI a4, qI x9] h12) fun x15 h14 =>
        if x15 = 0 then
        ((qgr 12 23 t h14).bind fun o16 =>
         o16.bind fun p17 => (qai 0 p17 (5 * a5) h14).bind fun x18 =>
         (qgr 12 23 t h14).bind fun o19 =>
         o19.bind fun p20 => (qai 0 p20 (5 * x9) h14).bind fun x21 =>
         cV (qcl d 170 [qR (some t), qI a5, qI x18, qI x9, qI x21, qI a1, qI a3, qI 1] h14) fun h22 =>
         cI (qcl d 181 [qR (some t), qI 100] h22) fun x24 h23 =>
         cI (qcl d 278 [qR (some t)] h23) fun x26 h25 =>
         if x24 < x26 then
         (cI (qcl d 193 [qR (some t)] h25) fun x28 h27 =>
          qbig (d + 1) 272 279 [sR (some t), sI a1, none, sI a3, sI (a4 ||| ((1 : Int32) <<< (x9 &&& 31))), sI a5, sI x9, sI 1, sI x28] [] h27)
        else
         (cI (qcl d 193 [qR (some t)] h25) fun x30 h29 =>
          qbig (d + 1) 272 279 [sR (some t), sI a1, none, sI a3, sI (a4 ||| ((1 : Int32) <<< (x9 &&& 31))), sI a5, sI x9, sI 0, sI x30] [] h29))
       else
        (qbig (d + 1) 272 129 [sR (some t), sI a1, none, sI a3, sI a4, sI (a5 + 1), none, none, none] [] h14)))
     else
      (qbig (d + 1) 272 129 [sR (some t), sI a1, none, sI a3, sI a4, sI (a5 + 1), none, none, none] [] h10)))
   else
    (qbig (d + 1) 272 129 [sR (some t), sI a1, none, sI a3, sI a4, sI (a5 + 1), none, none, none] [] h5)))
 else
  (qbig (d + 1) 272 342 [sR (some t), sI a1, none, sI a3, none, sI 0, none, none, none] [] h) := by
  exact qE 241 [51, 81, 90, 129, 279, 342, 389] (by rfl)
set_option maxRecDepth 1000000 in
set_option maxHeartbeats 1000000 in
theorem E272_279 (d : Nat) (t : Nat) (a1 : Int32) (a3 : Int32) (a4 : Int32) (a5 : Int32) (a6 : Int32) (a7 : Int32) (a8 : Int32) (h : QH) : qbig (d + 1) 272 279 [sR (some t), sI a1, none, sI a3, sI a4, sI a5, sI a6, sI a7, sI a8] [] h =
 (qgi 12 43 t h).bind fun x1 =>
  if a7 = 0 then
  ((qpi 12 43 t (x1 + 0) h).bind fun h2 =>
   (qgr 12 24 t h2).bind fun o3 =>
   (qgr 12 24 t h2).bind fun o4 =>
   o4.bind fun p5 => (qai 0 p5 (5 * a6) h2).bind fun x6 =>
   if a7 = 0 then
   (cI (qcl d 191 [qI x6, qI a8] h2) fun x8 h7 =>
    o3.bind fun p9 => (qsi 0 p9 (5 * a6) x8 h7).bind fun h10 =>
    qbig (d + 1) 272 129 [sR (some t), sI a1, none, sI a3, sI a4, sI (a5 + 1), none, none, none] [] h10)
  else
   (cI (qcl d 191 [qI x6, qI (a8 - 1)] h2) fun x12 h11 =>
    o3.bind fun p13 => (qsi 0 p13 (5 * a6) x12 h11).bind fun h14 =>
    qbig (d + 1) 272 129 [sR (some t), sI a1, none, sI a3, sI a4, sI (a5 + 1), none, none, none] [] h14))
 else
  ((qpi 12 43 t (x1 + 1) h).bind fun h15 =>
   (qgr 12 24 t h15).bind fun o16 =>
   (qgr 12 24 t h15).bind fun o17 =>
   o17.bind fun p18 => (qai 0 p18 (5 * a6) h15).bind fun x19 =>
   if a7 = 0 then
   (cI (qcl d 191 [qI x19, qI a8] h15) fun x21 h20 =>
    o16.bind fun p22 => (qsi 0 p22 (5 * a6) x21 h20).bind fun h23 =>
    qbig (d + 1) 272 129 [sR (some t), sI a1, none, sI a3, sI a4, sI (a5 + 1), none, none, none] [] h23)
  else
   (cI (qcl d 191 [qI x19, qI (a8 - 1)] h15) fun x25 h24 =>
    o16.bind fun p26 => (qsi 0 p26 (5 * a6) x25 h24).bind fun h27 =>
    qbig (d + 1) 272 129 [sR (some t), sI a1, none, sI a3, sI a4, sI (a5 + 1), none, none, none] [] h27)) := by
  exact qE 241 [51, 81, 90, 129, 279, 342, 389] (by rfl)
set_option maxRecDepth 1000000 in
set_option maxHeartbeats 1000000 in
theorem E272_342 (d : Nat) (t : Nat) (a1 : Int32) (a3 : Int32) (a5 : Int32) (h : QH) : qbig (d + 1) 272 342 [sR (some t), sI a1, none, sI a3, none, sI a5, none, none, none] [] h =
 (qgi 12 42 t h).bind fun x1 =>
  if a5 < x1 then
  ((qgr 12 41 t h).bind fun o2 =>
   (qgr 12 24 t h).bind fun o3 =>
   o3.bind fun p4 => (qai 0 p4 (5 * a5) h).bind fun x5 =>
   o2.bind fun p6 => (qsi 0 p6 ((8 * a3) + a5) x5 h).bind fun h7 =>
   qbig (d + 1) 272 342 [sR (some t), sI a1, none, sI a3, none, sI (a5 + 1), none, none, none] [] h7)
 else
  (qbig (d + 1) 272 81 [sR (some t), sI a1, none, sI (a3 + 1), none, none, none, none, none] [] h) := by
  exact qE 241 [51, 81, 90, 129, 279, 342, 389] (by rfl)
set_option maxRecDepth 1000000 in
set_option maxHeartbeats 1000000 in
theorem E272_389 (d : Nat) (t : Nat) (a3 : Int32) (a4 : Int32) (h : QH) : qbig (d + 1) 272 389 [sR (some t), none, none, sI a3, sI a4, none, none, none, none] [] h =
 (qgi 12 42 t h).bind fun x1 =>
  if a4 < x1 then
  ((qgr 12 24 t h).bind fun o2 =>
   o2.bind fun p3 => (qai 0 p3 (5 * a4) h).bind fun x4 =>
   if 0 < x4 then
   (qbig (d + 1) 272 389 [sR (some t), none, none, sI (a3 + 1), sI (a4 + 1), none, none, none, none] [] h)
  else
   (qbig (d + 1) 272 389 [sR (some t), none, none, sI (a3 + 0), sI (a4 + 1), none, none, none, none] [] h))
 else
  (cI (qcl d 190 [qR (some t), qI a3] h) fun x6 h5 =>
   some (some (qI x6), h5)) := by
  exact qE 241 [51, 81, 90, 129, 279, 342, 389] (by rfl)
set_option maxRecDepth 1000000 in
set_option maxHeartbeats 1000000 in
theorem E273 (d : Nat) (t : Nat) (a1 : Int32) (a2 : Int32) (a3 : Int32) (a4 : Int32) (h : QH) : qcl (d + 1) 273 [qR (some t), qI a1, qI a2, qI a3, qI a4] h =
 (qck 12 t h).bind fun _ =>
 cI (qcl d 199 [qI a1, qI a2, qI a3] h) fun x2 h1 =>
  if x2 = 0 then
  (some (some (qI (-1)), h1))
 else
  (cI (qcl d 218 [qI a4, qI 0, qI 12] h1) fun x4 h3 =>
   if x4 = 0 then
   (some (some (qI (-1)), h3))
  else
   (qbig (d + 1) 273 26 [sR (some t), sI a1, sI a2, sI a3, sI a4, sI 9, none] [] h3)) := by
  exact qE0 40 [26] (by rfl)
set_option maxRecDepth 1000000 in
set_option maxHeartbeats 1000000 in
theorem E273_26 (d : Nat) (t : Nat) (a1 : Int32) (a2 : Int32) (a3 : Int32) (a4 : Int32) (a5 : Int32) (h : QH) : qbig (d + 1) 273 26 [sR (some t), sI a1, sI a2, sI a3, sI a4, sI a5, none] [] h =
 if 0 < a5 then
  (cI (qcl d 166 [qR (some t), qI a1, qI a2, qI a3, qI a5] h) fun x2 h1 =>
   if x2 = (-1) then
   (qbig (d + 1) 273 26 [sR (some t), sI a1, sI a2, sI a3, sI a4, sI (a5 + (-1)), none] [] h1)
  else
   (if a4 < x2 then
    (qbig (d + 1) 273 26 [sR (some t), sI a1, sI a2, sI a3, sI a4, sI (a5 + (-1)), none] [] h1)
   else
    (some (some (qI a5), h1))))
 else
  (some (some (qI 0), h)) := by
  exact qE 40 [26] (by rfl)
set_option maxRecDepth 1000000 in
set_option maxHeartbeats 1000000 in
theorem E274 (d : Nat) (t : Nat) (a1 : Int32) (h : QH) : qcl (d + 1) 274 [qR (some t), qI a1] h =
 (qck 12 t h).bind fun _ =>
 (qgr 12 3 t h).bind fun o1 =>
  o1.bind fun p2 => (qai 0 p2 410 h).bind fun x3 =>
  cI (qcl d 218 [qI a1, qI 0, qI (x3 - 1)] h) fun x5 h4 =>
  if x5 = 0 then
  (some (some (qI (-1)), h4))
 else
  (cI (qcl d 250 [qR (some t), qI a1, qI 0] h4) fun x7 h6 =>
   cV (qcl d 219 [qR (some t), qI x7] h6) fun h8 =>
   (qgr 12 32 t h8).bind fun o9 =>
   o9.bind fun p10 => (qai 0 p10 a1 h8).bind fun x11 =>
   some (some (qI x11), h8)) := by
  exact qE0 28 [] (by rfl)
set_option maxRecDepth 1000000 in
set_option maxHeartbeats 1000000 in
theorem E275 (d : Nat) (t : Nat) (a1 : Int32) (a2 : Int32) (h : QH) : qcl (d + 1) 275 [qR (some t), qI a1, qI a2] h =
 (qck 12 t h).bind fun _ =>
 cI (qcl d 200 [qR (some t), qI a1] h) fun x2 h1 =>
  if x2 = 0 then
  (some (some (qI (-1)), h1))
 else
  (cI (qcl d 203 [qR (some t), qI a2] h1) fun x4 h3 =>
   if x4 = 0 then
   (some (some (qI (-1)), h3))
  else
   (cI (qcl d 211 [qR (some t), qI a1] h3) fun x6 h5 =>
    cI (qcl d 257 [qR (some t), qI a1, qI a2, qI x6] h5) fun x8 h7 =>
    some (some (qI x8), h7))) := by
  exact qE0 23 [] (by rfl)
set_option maxRecDepth 1000000 in
set_option maxHeartbeats 1000000 in
theorem E276 (d : Nat) (t : Nat) (a1 : Int32) (a2 : Int32) (h : QH) : qcl (d + 1) 276 [qR (some t), qI a1, qI a2] h =
 (qck 12 t h).bind fun _ =>
 qbig (d + 1) 276 5 [sR (some t), sI a1, sI a2, sI 1, sI 0, none, none, none] [] h := by
  exact qE0 75 [5, 18, 57] (by rfl)
set_option maxRecDepth 1000000 in
set_option maxHeartbeats 1000000 in
theorem E276_5 (d : Nat) (t : Nat) (a1 : Int32) (a2 : Int32) (a3 : Int32) (a4 : Int32) (h : QH) : qbig (d + 1) 276 5 [sR (some t), sI a1, sI a2, sI a3, sI a4, none, none, none] [] h =
 (qgr 12 7 t h).bind fun o1 =>
  o1.bind fun p2 => (qal p2 h).bind fun x3 =>
  if a4 < x3 then
  (qbig (d + 1) 276 18 [sR (some t), sI a1, sI a2, sI a3, sI a4, sI 0, none, none] [] h)
 else
  (some (some (qI 0), h)) := by
  exact qE 75 [5, 18, 57] (by rfl)
set_option maxRecDepth 1000000 in
set_option maxHeartbeats 1000000 in
theorem E276_18 (d : Nat) (t : Nat) (a1 : Int32) (a2 : Int32) (a3 : Int32) (a4 : Int32) (a5 : Int32) (h : QH) : qbig (d + 1) 276 18 [sR (some t), sI a1, sI a2, sI a3, sI a4, sI a5, none, none] [] h =
 (qgr 12 7 t h).bind fun o1 =>
  o1.bind fun p2 => (qai 1 p2 (a4 + a5) h).bind fun x3 =>
  if x3 = 32 then
  (if a5 = (a2 - a1) then
   (qbig (d + 1) 276 57 [sR (some t), sI a1, sI a2, sI a3, sI a4, sI a5, sI 1, sI 0] [] h)
  else
   (qbig (d + 1) 276 57 [sR (some t), sI a1, sI a2, sI a3, sI a4, sI a5, sI 0, sI 0] [] h))
 else
  (qbig (d + 1) 276 18 [sR (some t), sI a1, sI a2, sI a3, sI a4, sI (a5 + 1), none, none] [] h) := by
  exact qE 75 [5, 18, 57] (by rfl)
set_option maxRecDepth 1000000 in
set_option maxHeartbeats 1000000 in
theorem E276_57 (d : Nat) (t : Nat) (a1 : Int32) (a2 : Int32) (a3 : Int32) (a4 : Int32) (a5 : Int32) (a6 : Int32) (a7 : Int32) (h : QH) : qbig (d + 1) 276 57 [sR (some t), sI a1, sI a2, sI a3, sI a4, sI a5, sI a6, sI a7] [] h =
 if a7 < a5 then
  (if a6 = 0 then
   (if a6 = 0 then
    (qbig (d + 1) 276 5 [sR (some t), sI a1, sI a2, sI (a3 + 1), sI (a4 + (a5 + 1)), none, none, none] [] h)
   else
    (some (some (qI a3), h)))
  else
   ((qgr 12 7 t h).bind fun o1 =>
    o1.bind fun p2 => (qai 1 p2 (a4 + a7) h).bind fun x3 =>
    (qgr 12 8 t h).bind fun o4 =>
    o4.bind fun p5 => (qai 1 p5 (a1 + a7) h).bind fun x6 =>
    if x3 = x6 then
    (qbig (d + 1) 276 57 [sR (some t), sI a1, sI a2, sI a3, sI a4, sI a5, sI 1, sI (a7 + 1)] [] h)
   else
    (qbig (d + 1) 276 57 [sR (some t), sI a1, sI a2, sI a3, sI a4, sI a5, sI 0, sI (a7 + 1)] [] h)))
 else
  (if a6 = 0 then
   (qbig (d + 1) 276 5 [sR (some t), sI a1, sI a2, sI (a3 + 1), sI (a4 + (a5 + 1)), none, none, none] [] h)
  else
   (some (some (qI a3), h))) := by
  exact qE 75 [5, 18, 57] (by rfl)
set_option maxRecDepth 1000000 in
set_option maxHeartbeats 1000000 in
theorem E277 (d : Nat) (t : Nat) (a1 : Int32) (a2 : Int32) (h : QH) : qcl (d + 1) 277 [qR (some t), qI a1, qI a2] h =
 (qck 12 t h).bind fun _ =>
 cI (qcl d 218 [qI a2, qI 0, qI 1] h) fun x2 h1 =>
  if x2 = 0 then
  (cI (qcl d 244 [qR (some t), qI (-1)] h1) fun x4 h3 =>
   some (some (qI x4), h3))
 else
  ((qgr 12 3 t h1).bind fun o5 =>
   o5.bind fun p6 => (qai 0 p6 410 h1).bind fun x7 =>
   cI (qcl d 218 [qI a1, qI 0, qI (x7 - 1)] h1) fun x9 h8 =>
   if x9 = 0 then
   (cI (qcl d 244 [qR (some t), qI (-2)] h8) fun x11 h10 =>
    some (some (qI x11), h10))
  else
   (cI (qcl d 245 [qR (some t), qI ((100 + (5 * a1)) + 4), qI a2] h8) fun x13 h12 =>
    some (some (qI x13), h12))) := by
  exact qE0 39 [] (by rfl)
set_option maxRecDepth 1000000 in
set_option maxHeartbeats 1000000 in
theorem E278 (d : Nat) (t : Nat) (h : QH) : qcl (d + 1) 278 [qR (some t)] h =
 (qck 12 t h).bind fun _ =>
 cI (qcl d 271 [qR (some t), qI 3, qI 0, qI 100, qI 0] h) fun x2 h1 =>
  some (some (qI x2), h1) := by
  exact qE0 12 [] (by rfl)
