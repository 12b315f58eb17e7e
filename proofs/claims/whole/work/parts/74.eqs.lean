set_option maxRecDepth 1000000 in
set_option maxHeartbeats 1000000 in
theorem E147 (d : Nat) (t : Nat) (h : QH) : qcl (d + 1) 147 [qR (some t)] h =
 (qck 8 t h).bind fun _ =>
 (qna 0 9 h).bind fun h1 =>
  (qpr 8 0 t (some (hN h)) h1).bind fun h2 =>
  (qna 0 52 h2).bind fun h3 =>
  (qpr 8 1 t (some (hN h2)) h3).bind fun h4 =>
  (qna 0 4 h4).bind fun h5 =>
  (qpr 8 2 t (some (hN h4)) h5).bind fun h6 =>
  some (none, h6) := by
  exact qE0 20 [] (by rfl)
set_option maxRecDepth 1000000 in
set_option maxHeartbeats 1000000 in
theorem E148 (d : Nat) (t : Nat) (a1 : Option Nat) (a2 : Int32) (a3 : Int32) (a4 : Int32) (h : QH) : qcl (d + 1) 148 [qR (some t), qR a1, qI a2, qI a3, qI a4] h =
 (qck 8 t h).bind fun _ =>
 (qgr 8 2 t h).bind fun o1 =>
  cI (qcl d 71 [qR a1, qI a2, qI 0] h) fun x3 h2 =>
  o1.bind fun p4 => (qsi 0 p4 1 x3 h2).bind fun h5 =>
  (qgr 8 0 t h5).bind fun o6 =>
  o6.bind fun p7 => (qsi 0 p7 4 a2 h5).bind fun h8 =>
  (qgr 8 0 t h8).bind fun o9 =>
  o9.bind fun p10 => (qsi 0 p10 5 a3 h8).bind fun h11 =>
  (qgr 8 0 t h11).bind fun o12 =>
  o12.bind fun p13 => (qsi 0 p13 8 a4 h11).bind fun h14 =>
  some (none, h14) := by
  exact qE0 29 [] (by rfl)
set_option maxRecDepth 1000000 in
set_option maxHeartbeats 1000000 in
theorem E149 (d : Nat) (t : Nat) (a1 : Option Nat) (a2 : Int32) (a3 : Int32) (a4 : Int32) (a5 : Int32) (h : QH) : qcl (d + 1) 149 [qR (some t), qR a1, qI a2, qI a3, qI a4, qI a5] h =
 (qck 8 t h).bind fun _ =>
 (qgr 8 2 t h).bind fun o1 =>
  o1.bind fun p2 => (qsi 0 p2 0 (if (a3 - 1) < 0 then 0 else (a3 - 1)) h).bind fun h3 =>
  (qgr 8 0 t h3).bind fun o4 =>
  o4.bind fun p5 => (qsi 0 p5 0 a3 h3).bind fun h6 =>
  (qgr 8 0 t h6).bind fun o7 =>
  o7.bind fun p8 => (qsi 0 p8 1 a5 h6).bind fun h9 =>
  (qgr 8 0 t h9).bind fun o10 =>
  cI (qcl d 88 [qR a1, qI a2, qI 1] h9) fun x12 h11 =>
  o10.bind fun p13 => (qsi 0 p13 2 x12 h11).bind fun h14 =>
  (qgr 8 0 t h14).bind fun o15 =>
  cI (qcl d 88 [qR a1, qI a4, qI 0] h14) fun x17 h16 =>
  o15.bind fun p18 => (qsi 0 p18 3 x17 h16).bind fun h19 =>
  (qgr 8 0 t h19).bind fun o20 =>
  o20.bind fun p21 => (qsi 0 p21 6 a2 h19).bind fun h22 =>
  (qgr 8 0 t h22).bind fun o23 =>
  o23.bind fun p24 => (qsi 0 p24 7 a4 h22).bind fun h25 =>
  some (none, h25) := by
  exact qE0 51 [] (by rfl)
set_option maxRecDepth 1000000 in
set_option maxHeartbeats 1000000 in
theorem E150 (d : Nat) (t : Nat) (a1 : Option Nat) (a2 : Int32) (h : QH) : qcl (d + 1) 150 [qR (some t), qR a1, qI a2] h =
 (qck 8 t h).bind fun _ =>
 a1.bind fun p1 => (qgr 1 1 p1 h).bind fun o2 =>
  o2.bind fun p3 => (qai 0 p3 a2 h).bind fun x4 =>
  if a2 = 0 then
  (qbig (d + 1) 150 26 [sR (some t), sR a1, none, sI 0, sI x4, none, none, none, none] [qI 0] h)
 else
  (a1.bind fun p5 => (qgr 1 1 p5 h).bind fun o6 =>
   o6.bind fun p7 => (qai 0 p7 (a2 - 1) h).bind fun x8 =>
   qbig (d + 1) 150 26 [sR (some t), sR a1, none, sI 0, sI x4, none, none, none, none] [qI x8] h) := by
  exact qE0 158 [26, 28, 79, 117, 124, 171, 187, 198, 206, 232, 254, 278, 279] (by rfl)
set_option maxRecDepth 1000000 in
set_option maxHeartbeats 1000000 in
theorem E150_26 (d : Nat) (t : Nat) (a1 : Option Nat) (a3 : Int32) (a4 : Int32) (b0 : Int32) (h : QH) : qbig (d + 1) 150 26 [sR (some t), sR a1, none, sI a3, sI a4, none, none, none, none] [qI b0] h =
 qbig (d + 1) 150 28 [sR (some t), sR a1, none, sI a3, sI a4, sI b0, none, none, none] [] h := by
  exact qE 158 [26, 28, 79, 117, 124, 171, 187, 198, 206, 232, 254, 278, 279] (by rfl)
set_option maxRecDepth 1000000 in
set_option maxHeartbeats 1000000 in
theorem E150_28 (d : Nat) (t : Nat) (a1 : Option Nat) (a3 : Int32) (a4 : Int32) (a5 : Int32) (h : QH) : qbig (d + 1) 150 28 [sR (some t), sR a1, none, sI a3, sI a4, sI a5, none, none, none] [] h =
 if a5 < a4 then
  (a1.bind fun p1 => (qgr 1 2 p1 h).bind fun o2 =>
   o2.bind fun p3 => (qai 0 p3 a5 h).bind fun x4 =>
   a1.bind fun p5 => (qgr 1 2 p5 h).bind fun o6 =>
   o6.bind fun p7 => (qai 0 p7 a5 h).bind fun x8 =>
   if (x4 &&& 31) = 17 then
   (qbig (d + 1) 150 79 [sR (some t), sR a1, none, sI a3, sI a4, sI a5, sI (x4 &&& 31), sI (x8 >>> (5 &&& 31)), none] [] h)
  else
   (if (x4 &&& 31) < 8 then
    (qbig (d + 1) 150 124 [sR (some t), sR a1, none, sI a3, sI a4, sI a5, sI (x4 &&& 31), sI (x8 >>> (5 &&& 31)), none] [] h)
   else
    (if 16 < (x4 &&& 31) then
     (qbig (d + 1) 150 124 [sR (some t), sR a1, none, sI a3, sI a4, sI a5, sI (x4 &&& 31), sI (x8 >>> (5 &&& 31)), none] [] h)
    else
     (qbig (d + 1) 150 79 [sR (some t), sR a1, none, sI a3, sI a4, sI a5, sI (x4 &&& 31), sI (x8 >>> (5 &&& 31)), none] [] h))))
 else
  (if a3 = 2 then
   ((qgr 8 1 t h).bind fun o9 =>
    o9.bind fun p10 => (qai 0 p10 1 h).bind fun x11 =>
    if x11 = 0 then
    (qbig (d + 1) 150 278 [none, none, none, none, none, none, none, none, none] [] h)
   else
    (qbig (d + 1) 150 279 [none, none, none, none, none, none, none, none, none] [qI 1] h))
  else
   (qbig (d + 1) 150 278 [none, none, none, none, none, none, none, none, none] [] h)) := by
  exact qE 158 [26, 28, 79, 117, 124, 171, 187, 198, 206, 232, 254, 278, 279] (by rfl)
set_option maxRecDepth 1000000 in
set_option maxHeartbeats 1000000 in
theorem E150_79 (d : Nat) (t : Nat) (a1 : Option Nat) (a3 : Int32) (a4 : Int32) (a5 : Int32) (a6 : Int32) (a7 : Int32) (h : QH) : qbig (d + 1) 150 79 [sR (some t), sR a1, none, sI a3, sI a4, sI a5, sI a6, sI a7, none] [] h =
 (qgr 8 1 t h).bind fun o1 =>
  o1.bind fun p2 => (qal p2 h).bind fun x3 =>
  if a3 < x3 then
  ((qgr 8 1 t h).bind fun o4 =>
   if a6 = 17 then
   (qbig (d + 1) 150 117 [sR (some t), sR a1, none, sI a3, sI a4, sI a5, none, none, none] [qI a7, qI a3, qR o4] h)
  else
   ((qgr 8 0 t h).bind fun o5 =>
    o5.bind fun p6 => (qai 0 p6 (a6 - 8) h).bind fun x7 =>
    qbig (d + 1) 150 117 [sR (some t), sR a1, none, sI a3, sI a4, sI a5, none, none, none] [qI x7, qI a3, qR o4] h))
 else
  (if (0 : Int32) = 0 ∨ (0 : Int32) = 1 then some (some (qI 0), h) else none) := by
  exact qE 158 [26, 28, 79, 117, 124, 171, 187, 198, 206, 232, 254, 278, 279] (by rfl)
set_option maxRecDepth 1000000 in
set_option maxHeartbeats 1000000 in
theorem E150_117 (d : Nat) (t : Nat) (a1 : Option Nat) (a3 : Int32) (a4 : Int32) (a5 : Int32) (b0 : Option Nat) (b1 : Int32) (b2 : Int32) (h : QH) : qbig (d + 1) 150 117 [sR (some t), sR a1, none, sI a3, sI a4, sI a5, none, none, none] [qI b2, qI b1, qR b0] h =
 b0.bind fun p1 => (qsi 0 p1 b1 b2 h).bind fun h2 =>
  qbig (d + 1) 150 254 [sR (some t), sR a1, none, sI (a3 + 1), sI a4, sI a5, none, none, none] [] h2 := by
  exact qE 158 [26, 28, 79, 117, 124, 171, 187, 198, 206, 232, 254, 278, 279] (by rfl)
set_option maxRecDepth 1000000 in
set_option maxHeartbeats 1000000 in
theorem E150_124 (d : Nat) (t : Nat) (a1 : Option Nat) (a3 : Int32) (a4 : Int32) (a5 : Int32) (a6 : Int32) (a7 : Int32) (h : QH) : qbig (d + 1) 150 124 [sR (some t), sR a1, none, sI a3, sI a4, sI a5, sI a6, sI a7, none] [] h =
 if a3 = 0 then
  (if (0 : Int32) = 0 ∨ (0 : Int32) = 1 then some (some (qI 0), h) else none)
 else
  (if a6 = 7 then
   ((qgr 8 1 t h).bind fun o1 =>
    (qgr 8 1 t h).bind fun o2 =>
    o2.bind fun p3 => (qai 0 p3 (a3 - 1) h).bind fun x4 =>
    o1.bind fun p5 => (qsi 0 p5 (a3 - 1) (1 - x4) h).bind fun h6 =>
    qbig (d + 1) 150 254 [sR (some t), sR a1, none, sI a3, sI a4, sI a5, none, none, none] [] h6)
  else
   (if a6 = 6 then
    (qbig (d + 1) 150 171 [sR (some t), sR a1, none, sI a3, sI a4, sI a5, sI a6, sI a7, none] [] h)
   else
    (if a6 = 5 then
     (qbig (d + 1) 150 171 [sR (some t), sR a1, none, sI a3, sI a4, sI a5, sI a6, sI a7, none] [] h)
    else
     (qbig (d + 1) 150 235 [sR (some t), sR a1, none, sI a3, sI a4, sI a5, sI a6, sI a7, none] [] h)))) := by
  exact qE 158 [26, 28, 79, 117, 124, 171, 187, 198, 206, 232, 235, 254, 278, 279] (by rfl)
set_option maxRecDepth 1000000 in
set_option maxHeartbeats 1000000 in
theorem E150_235 (d : Nat) (t : Nat) (a1 : Option Nat) (a3 : Int32) (a4 : Int32) (a5 : Int32) (a6 : Int32) (a7 : Int32) (h : QH) : qbig (d + 1) 150 235 [sR (some t), sR a1, none, sI a3, sI a4, sI a5, sI a6, sI a7, none] [] h =
 qbig (d + 1) 150 238 [sR (some t), sR a1, none, sI (a3 + (-1)), sI a4, sI a5, sI a6, sI a7, none] [] h := by
  exact qE 158 [238] (by rfl)
set_option maxRecDepth 1000000 in
set_option maxHeartbeats 1000000 in
theorem E150_238 (d : Nat) (t : Nat) (a1 : Option Nat) (a3 : Int32) (a4 : Int32) (a5 : Int32) (a6 : Int32) (a7 : Int32) (h : QH) : qbig (d + 1) 150 238 [sR (some t), sR a1, none, sI a3, sI a4, sI a5, sI a6, sI a7, none] [] h =
 if a3 = 0 then
  (if (0 : Int32) = 0 ∨ (0 : Int32) = 1 then some (some (qI 0), h) else none)
 else
  (cI (qcl d 151 [qR (some t), qI a6, qI a3] h) fun x8 h7 =>
   qbig (d + 1) 150 249 [sR (some t), sR a1, none, sI a3, sI a4, sI a5, sI a6, sI a7, none] [qI x8] h7) := by
  exact qE 158 [249] (by rfl)
set_option maxRecDepth 1000000 in
set_option maxHeartbeats 1000000 in
theorem E150_249 (d : Nat) (t : Nat) (a1 : Option Nat) (a3 : Int32) (a4 : Int32) (a5 : Int32) (a6 : Int32) (a7 : Int32) (h : QH) (x : Int32) : qbig (d + 1) 150 249 [sR (some t), sR a1, none, sI a3, sI a4, sI a5, sI a6, sI a7, none] [qI x] h =
 if x = 0 then
  (if (0 : Int32) = 0 ∨ (0 : Int32) = 1 then some (some (qI 0), h) else none)
 else
  (qbig (d + 1) 150 254 [sR (some t), sR a1, none, sI a3, sI a4, sI a5, none, none, none] [] h) := by
  exact qE 158 [254] (by rfl)
set_option maxRecDepth 1000000 in
set_option maxHeartbeats 1000000 in
theorem E150_171 (d : Nat) (t : Nat) (a1 : Option Nat) (a3 : Int32) (a4 : Int32) (a5 : Int32) (a6 : Int32) (a7 : Int32) (h : QH) : qbig (d + 1) 150 171 [sR (some t), sR a1, none, sI a3, sI a4, sI a5, sI a6, sI a7, none] [] h =
 (qgr 8 1 t h).bind fun o1 =>
  o1.bind fun p2 => (qai 0 p2 (a3 - 1) h).bind fun x3 =>
  if x3 = 0 then
  (qbig (d + 1) 150 187 [sR (some t), sR a1, none, sI a3, sI a4, sI a5, sI a6, sI a7, none] [qI 0] h)
 else
  (qbig (d + 1) 150 187 [sR (some t), sR a1, none, sI a3, sI a4, sI a5, sI a6, sI a7, none] [qI 1] h) := by
  exact qE 158 [26, 28, 79, 117, 124, 171, 187, 198, 206, 232, 254, 278, 279] (by rfl)
set_option maxRecDepth 1000000 in
set_option maxHeartbeats 1000000 in
theorem E150_187 (d : Nat) (t : Nat) (a1 : Option Nat) (a3 : Int32) (a4 : Int32) (a5 : Int32) (a6 : Int32) (a7 : Int32) (b0 : Int32) (h : QH) : qbig (d + 1) 150 187 [sR (some t), sR a1, none, sI a3, sI a4, sI a5, sI a6, sI a7, none] [qI b0] h =
 if a6 = 5 then
  (qbig (d + 1) 150 198 [sR (some t), sR a1, none, sI a3, sI a4, sI a5, none, sI a7, none] [qI 1, qI b0] h)
 else
  (qbig (d + 1) 150 198 [sR (some t), sR a1, none, sI a3, sI a4, sI a5, none, sI a7, none] [qI 0, qI b0] h) := by
  exact qE 158 [26, 28, 79, 117, 124, 171, 187, 198, 206, 232, 254, 278, 279] (by rfl)
set_option maxRecDepth 1000000 in
set_option maxHeartbeats 1000000 in
theorem E150_198 (d : Nat) (t : Nat) (a1 : Option Nat) (a3 : Int32) (a4 : Int32) (a5 : Int32) (a7 : Int32) (b0 : Int32) (b1 : Int32) (h : QH) : qbig (d + 1) 150 198 [sR (some t), sR a1, none, sI a3, sI a4, sI a5, none, sI a7, none] [qI b1, qI b0] h =
 if b0 = b1 then
  (qbig (d + 1) 150 206 [sR (some t), sR a1, none, sI a3, sI a4, sI a5, none, sI a7, none] [qI 1] h)
 else
  (qbig (d + 1) 150 206 [sR (some t), sR a1, none, sI a3, sI a4, sI a5, none, sI a7, none] [qI 0] h) := by
  exact qE 158 [26, 28, 79, 117, 124, 171, 187, 198, 206, 232, 254, 278, 279] (by rfl)
set_option maxRecDepth 1000000 in
set_option maxHeartbeats 1000000 in
theorem E150_206 (d : Nat) (t : Nat) (a1 : Option Nat) (a3 : Int32) (a4 : Int32) (a5 : Int32) (a7 : Int32) (b0 : Int32) (h : QH) : qbig (d + 1) 150 206 [sR (some t), sR a1, none, sI a3, sI a4, sI a5, none, sI a7, none] [qI b0] h =
 if b0 = 0 then
  (qbig (d + 1) 150 232 [sR (some t), sR a1, none, sI (a3 + (-1)), sI a4, sI a5, none, none, none] [] h)
 else
  (if a5 < a7 then
   (qbig (d + 1) 150 232 [sR (some t), sR a1, none, sI a3, sI a4, sI (a7 - 1), none, none, none] [] h)
  else
   (qbig (d + 1) 150 232 [sR (some t), sR a1, none, sI a3, sI a4, sI a5, none, none, none] [] h)) := by
  exact qE 158 [26, 28, 79, 117, 124, 171, 187, 198, 206, 232, 254, 278, 279] (by rfl)
set_option maxRecDepth 1000000 in
set_option maxHeartbeats 1000000 in
theorem E150_232 (d : Nat) (t : Nat) (a1 : Option Nat) (a3 : Int32) (a4 : Int32) (a5 : Int32) (h : QH) : qbig (d + 1) 150 232 [sR (some t), sR a1, none, sI a3, sI a4, sI a5, none, none, none] [] h =
 qbig (d + 1) 150 254 [sR (some t), sR a1, none, sI a3, sI a4, sI a5, none, none, none] [] h := by
  exact qE 158 [26, 28, 79, 117, 124, 171, 187, 198, 206, 232, 254, 278, 279] (by rfl)
set_option maxRecDepth 1000000 in
set_option maxHeartbeats 1000000 in
theorem E150_252 (d : Nat)  (h : QH) : qbig (d + 1) 150 252 [none, none, none, none, none, none, none, none, none] [] h =
 if (0 : Int32) = 0 ∨ (0 : Int32) = 1 then some (some (qI 0), h) else none := by
  exact qE 158 [26, 28, 79, 117, 124, 171, 187, 198, 206, 232, 254, 278, 279] (by rfl)
set_option maxRecDepth 1000000 in
set_option maxHeartbeats 1000000 in
theorem E150_254 (d : Nat) (t : Nat) (a1 : Option Nat) (a3 : Int32) (a4 : Int32) (a5 : Int32) (h : QH) : qbig (d + 1) 150 254 [sR (some t), sR a1, none, sI a3, sI a4, sI a5, none, none, none] [] h =
 qbig (d + 1) 150 28 [sR (some t), sR a1, none, sI a3, sI a4, sI (a5 + 1), none, none, none] [] h := by
  exact qE 158 [26, 28, 79, 117, 124, 171, 187, 198, 206, 232, 254, 278, 279] (by rfl)
set_option maxRecDepth 1000000 in
set_option maxHeartbeats 1000000 in
theorem E150_278 (d : Nat)  (h : QH) : qbig (d + 1) 150 278 [none, none, none, none, none, none, none, none, none] [] h =
 qbig (d + 1) 150 279 [none, none, none, none, none, none, none, none, none] [qI 0] h := by
  exact qE 158 [26, 28, 79, 117, 124, 171, 187, 198, 206, 232, 254, 278, 279] (by rfl)
set_option maxRecDepth 1000000 in
set_option maxHeartbeats 1000000 in
theorem E150_279 (d : Nat) (b0 : Int32) (h : QH) : qbig (d + 1) 150 279 [none, none, none, none, none, none, none, none, none] [qI b0] h =
 if (b0 : Int32) = 0 ∨ (b0 : Int32) = 1 then some (some (qI b0), h) else none := by
  exact qE 158 [26, 28, 79, 117, 124, 171, 187, 198, 206, 232, 254, 278, 279] (by rfl)
set_option maxRecDepth 1000000 in
set_option maxHeartbeats 1000000 in
theorem E151 (d : Nat) (t : Nat) (a1 : Int32) (a2 : Int32) (h : QH) : qcl (d + 1) 151 [qR (some t), qI a1, qI a2] h =
 (qck 8 t h).bind fun _ =>
 (qgr 8 1 t h).bind fun o1 =>
  o1.bind fun p2 => (qai 0 p2 (a2 - 1) h).bind fun x3 =>
  (qgr 8 1 t h).bind fun o4 =>
  o4.bind fun p5 => (qai 0 p5 a2 h).bind fun x6 =>
  qbig (d + 1) 151 19 [sR (some t), sI a1, sI a2, sL (Int32.toInt64 x3), none, sL (Int32.toInt64 x6), none, none, none] [] h := by
  exact qE0 95 [19, 70, 79, 88, 106, 121, 138, 143, 155, 157, 175] (by rfl)
set_option maxRecDepth 1000000 in
set_option maxHeartbeats 1000000 in
theorem E151_19 (d : Nat) (t : Nat) (a1 : Int32) (a2 : Int32) (a3 : Int64) (a5 : Int64) (h : QH) : qbig (d + 1) 151 19 [sR (some t), sI a1, sI a2, sL a3, none, sL a5, none, none, none] [] h =
 if a1 = 23 then
  (if (lg_cmp a3 a5) < 0 then
   (qbig (d + 1) 151 121 [sR (some t), none, sI a2, none, none, none, none, none, none] [qL ((1 : Int32).toInt64)] h)
  else
   (qbig (d + 1) 151 121 [sR (some t), none, sI a2, none, none, none, none, none, none] [qL ((0 : Int32).toInt64)] h))
 else
  (if a1 = 24 then
  (if 0 < (lg_cmp a3 a5) then
   (qbig (d + 1) 151 138 [sR (some t), none, sI a2, none, none, none, none, none, none] [qL ((1 : Int32).toInt64)] h)
  else
   (qbig (d + 1) 151 138 [sR (some t), none, sI a2, none, none, none, none, none, none] [qL ((0 : Int32).toInt64)] h))
 else
  (if a1 = 25 then
  (qbig (d + 1) 151 143 [sR (some t), none, sI a2, sL a3, none, sL a5, none, none, none] [] h)
 else
  (if a1 = 26 then
  (qbig (d + 1) 151 70 [sR (some t), none, sI a2, none, none, none, none, sL (a3 + a5), none] [] h)
 else
  (if a1 = 27 then
  (qbig (d + 1) 151 79 [sR (some t), none, sI a2, none, none, none, none, sL (a3 - a5), none] [] h)
 else
  (if a1 = 28 then
  (qbig (d + 1) 151 88 [sR (some t), none, sI a2, none, none, none, none, sL (a3 * a5), none] [] h)
 else
  (if a1 = 29 then
  (if (lg_cmp a5 ((0 : Int32).toInt64)) = 0 then
   (if (0 : Int32) = 0 ∨ (0 : Int32) = 1 then some (some (qI 0), h) else none)
  else
   (if a5 = 0 then none else
    qbig (d + 1) 151 106 [sR (some t), none, sI a2, none, none, none, none, sL (a3 / a5), none] [] h))
 else
  (qbig (d + 1) 151 143 [sR (some t), none, sI a2, sL a3, none, sL a5, none, none, none] [] h))))))) := by
  exact qE 95 [19, 70, 79, 88, 106, 121, 138, 143, 155, 157, 175] (by rfl)
set_option maxRecDepth 1000000 in
set_option maxHeartbeats 1000000 in
theorem E151_70 (d : Nat) (t : Nat) (a2 : Int32) (a7 : Int64) (h : QH) : qbig (d + 1) 151 70 [sR (some t), none, sI a2, none, none, none, none, sL a7, none] [] h =
 qbig (d + 1) 151 157 [sR (some t), none, sI a2, none, none, none, none, sL a7, none] [] h := by
  exact qE 95 [19, 70, 79, 88, 106, 121, 138, 143, 155, 157, 175] (by rfl)
set_option maxRecDepth 1000000 in
set_option maxHeartbeats 1000000 in
theorem E151_79 (d : Nat) (t : Nat) (a2 : Int32) (a7 : Int64) (h : QH) : qbig (d + 1) 151 79 [sR (some t), none, sI a2, none, none, none, none, sL a7, none] [] h =
 qbig (d + 1) 151 157 [sR (some t), none, sI a2, none, none, none, none, sL a7, none] [] h := by
  exact qE 95 [19, 70, 79, 88, 106, 121, 138, 143, 155, 157, 175] (by rfl)
set_option maxRecDepth 1000000 in
set_option maxHeartbeats 1000000 in
theorem E151_88 (d : Nat) (t : Nat) (a2 : Int32) (a7 : Int64) (h : QH) : qbig (d + 1) 151 88 [sR (some t), none, sI a2, none, none, none, none, sL a7, none] [] h =
 qbig (d + 1) 151 157 [sR (some t), none, sI a2, none, none, none, none, sL a7, none] [] h := by
  exact qE 95 [19, 70, 79, 88, 106, 121, 138, 143, 155, 157, 175] (by rfl)
set_option maxRecDepth 1000000 in
set_option maxHeartbeats 1000000 in
theorem E151_106 (d : Nat) (t : Nat) (a2 : Int32) (a7 : Int64) (h : QH) : qbig (d + 1) 151 106 [sR (some t), none, sI a2, none, none, none, none, sL a7, none] [] h =
 qbig (d + 1) 151 157 [sR (some t), none, sI a2, none, none, none, none, sL a7, none] [] h := by
  exact qE 95 [19, 70, 79, 88, 106, 121, 138, 143, 155, 157, 175] (by rfl)
set_option maxRecDepth 1000000 in
set_option maxHeartbeats 1000000 in
theorem E151_121 (d : Nat) (t : Nat) (a2 : Int32) (b0 : Int64) (h : QH) : qbig (d + 1) 151 121 [sR (some t), none, sI a2, none, none, none, none, none, none] [qL b0] h =
 qbig (d + 1) 151 157 [sR (some t), none, sI a2, none, none, none, none, sL b0, none] [] h := by
  exact qE 95 [19, 70, 79, 88, 106, 121, 138, 143, 155, 157, 175] (by rfl)
set_option maxRecDepth 1000000 in
set_option maxHeartbeats 1000000 in
theorem E151_138 (d : Nat) (t : Nat) (a2 : Int32) (b0 : Int64) (h : QH) : qbig (d + 1) 151 138 [sR (some t), none, sI a2, none, none, none, none, none, none] [qL b0] h =
 qbig (d + 1) 151 157 [sR (some t), none, sI a2, none, none, none, none, sL b0, none] [] h := by
  exact qE 95 [19, 70, 79, 88, 106, 121, 138, 143, 155, 157, 175] (by rfl)
set_option maxRecDepth 1000000 in
set_option maxHeartbeats 1000000 in
theorem E151_143 (d : Nat) (t : Nat) (a2 : Int32) (a3 : Int64) (a5 : Int64) (h : QH) : qbig (d + 1) 151 143 [sR (some t), none, sI a2, sL a3, none, sL a5, none, none, none] [] h =
 if (lg_cmp a3 a5) = 0 then
  (qbig (d + 1) 151 155 [sR (some t), none, sI a2, none, none, none, none, none, none] [qL ((1 : Int32).toInt64)] h)
 else
  (qbig (d + 1) 151 155 [sR (some t), none, sI a2, none, none, none, none, none, none] [qL ((0 : Int32).toInt64)] h) := by
  exact qE 95 [19, 70, 79, 88, 106, 121, 138, 143, 155, 157, 175] (by rfl)
set_option maxRecDepth 1000000 in
set_option maxHeartbeats 1000000 in
theorem E151_155 (d : Nat) (t : Nat) (a2 : Int32) (b0 : Int64) (h : QH) : qbig (d + 1) 151 155 [sR (some t), none, sI a2, none, none, none, none, none, none] [qL b0] h =
 qbig (d + 1) 151 157 [sR (some t), none, sI a2, none, none, none, none, sL b0, none] [] h := by
  exact qE 95 [19, 70, 79, 88, 106, 121, 138, 143, 155, 157, 175] (by rfl)
set_option maxRecDepth 1000000 in
set_option maxHeartbeats 1000000 in
theorem E151_157 (d : Nat) (t : Nat) (a2 : Int32) (a7 : Int64) (h : QH) : qbig (d + 1) 151 157 [sR (some t), none, sI a2, none, none, none, none, sL a7, none] [] h =
 if 0 < (lg_cmp a7 ((1000000000 : Int32).toInt64)) then
  (qbig (d + 1) 151 175 [none, none, none, none, none, none, none, none, none] [] h)
 else
  (if (lg_cmp a7 (((-1000000000) : Int32).toInt64)) < 0 then
   (qbig (d + 1) 151 175 [none, none, none, none, none, none, none, none, none] [] h)
  else
   ((qgr 8 1 t h).bind fun o1 =>
    o1.bind fun p2 => (qsi 0 p2 (a2 - 1) (Int64.toInt32 a7) h).bind fun h3 =>
    if (1 : Int32) = 0 ∨ (1 : Int32) = 1 then some (some (qI 1), h3) else none)) := by
  exact qE 95 [19, 70, 79, 88, 106, 121, 138, 143, 155, 157, 175] (by rfl)
set_option maxRecDepth 1000000 in
set_option maxHeartbeats 1000000 in
theorem E151_175 (d : Nat)  (h : QH) : qbig (d + 1) 151 175 [none, none, none, none, none, none, none, none, none] [] h =
 if (0 : Int32) = 0 ∨ (0 : Int32) = 1 then some (some (qI 0), h) else none := by
  exact qE 95 [19, 70, 79, 88, 106, 121, 138, 143, 155, 157, 175] (by rfl)
set_option maxRecDepth 1000000 in
set_option maxHeartbeats 1000000 in
theorem E152 (d : Nat) (t : Nat) (a1 : Option Nat) (a2 : Int32) (h : QH) : qcl (d + 1) 152 [qR (some t), qR a1, qI a2] h =
 (qck 8 t h).bind fun _ =>
 if a1 = none then
  ((qgr 8 2 t h).bind fun o1 =>
   o1.bind fun p2 => (qai 0 p2 a2 h).bind fun x3 =>
   some (some (qI x3), h))
 else
  (a1.bind fun p4 => (qgr 1 0 p4 h).bind fun o5 =>
   o5.bind fun p6 => (qal p6 h).bind fun x7 =>
   qbig (d + 1) 152 19 [sR (some t), sR a1, sI a2, sI (x7 - 1)] [] h) := by
  exact qE0 51 [19] (by rfl)
set_option maxRecDepth 1000000 in
set_option maxHeartbeats 1000000 in
theorem E152_19 (d : Nat) (t : Nat) (a1 : Option Nat) (a2 : Int32) (a3 : Int32) (h : QH) : qbig (d + 1) 152 19 [sR (some t), sR a1, sI a2, sI a3] [] h =
 if a3 < 0 then
  ((qgr 8 2 t h).bind fun o1 =>
   o1.bind fun p2 => (qai 0 p2 a2 h).bind fun x3 =>
   some (some (qI x3), h))
 else
  (a1.bind fun p4 => (qgr 1 0 p4 h).bind fun o5 =>
   o5.bind fun p6 => (qai 0 p6 a3 h).bind fun x7 =>
   if x7 = a2 then
   (cI (qcl d 150 [qR (some t), qR a1, qI a3] h) fun x9 h8 =>
    if x9 = 0 then
    (qbig (d + 1) 152 19 [sR (some t), sR a1, sI a2, sI (a3 + (-1))] [] h8)
   else
    ((qai 0 3 a2 h8).bind fun x10 =>
     (qai 0 4 a2 h8).bind fun x11 =>
     (qgr 8 1 t h8).bind fun o12 =>
     o12.bind fun p13 => (qai 0 p13 0 h8).bind fun x14 =>
     some (some (qI (if x10 < (if x14 < x11 then x14 else x11) then (if x14 < x11 then x14 else x11) else x10)), h8)))
  else
   (qbig (d + 1) 152 19 [sR (some t), sR a1, sI a2, sI (a3 + (-1))] [] h)) := by
  exact qE 51 [19] (by rfl)
set_option maxRecDepth 1000000 in
set_option maxHeartbeats 1000000 in
theorem E153 (d : Nat) (t : Nat) (h : QH) : qcl (d + 1) 153 [qR (some t)] h =
 (qck 9 t h).bind fun _ =>
 (qpz 9 0 t 0 h).bind fun h1 =>
  (qpi 9 1 t 0 h1).bind fun h2 =>
  (qpi 9 2 t 0 h2).bind fun h3 =>
  (qna 0 64 h3).bind fun h4 =>
  (qpr 9 3 t (some (hN h3)) h4).bind fun h5 =>
  (qpi 9 4 t 0 h5).bind fun h6 =>
  some (none, h6) := by
  exact qE0 24 [] (by rfl)
set_option maxRecDepth 1000000 in
set_option maxHeartbeats 1000000 in
theorem E154 (d : Nat) (a0 : Option Nat) (a1 : Int32) (a2 : Int32) (a3 : Int32) (h : QH) : qcl (d + 1) 154 [qR a0, qI a1, qI a2, qI a3] h =
 if a2 = a1 then
  (if (0 : Int32) = 0 ∨ (0 : Int32) = 1 then some (some (qI 0), h) else none)
 else
  (cI (qcl d 75 [qR a0, qI a2, qI a3] h) fun x2 h1 =>
   if x2 = 0 then
   (cI (qcl d 83 [qR a0, qI a1, qI a2] h1) fun x4 h3 =>
    if x4 = 0 then
    (if (0 : Int32) = 0 ∨ (0 : Int32) = 1 then some (some (qI 0), h3) else none)
   else
    (if (1 : Int32) = 0 ∨ (1 : Int32) = 1 then some (some (qI 1), h3) else none))
  else
   (if (0 : Int32) = 0 ∨ (0 : Int32) = 1 then some (some (qI 0), h1) else none)) := by
  exact qE0 22 [] (by rfl)
set_option maxRecDepth 1000000 in
set_option maxHeartbeats 1000000 in
theorem E155 (d : Nat) (t : Nat) (a1 : Int32) (h : QH) : qcl (d + 1) 155 [qR (some t), qI a1] h =
 (qck 9 t h).bind fun _ =>
 (qgi 9 4 t h).bind fun x1 =>
  if 1000003 = 0 then none else
  (qpi 9 4 t (((x1 * 1103) + 12345) - ((x1 * 1103) + 12345) / 1000003 * 1000003) h).bind fun h2 =>
  if 0 < a1 then
  ((qgi 9 4 t h2).bind fun x3 =>
   if a1 = 0 then none else
   some (some (qI (x3 - x3 / a1 * a1)), h2))
 else
  (some (some (qI 0), h2)) := by
  exact qE0 24 [] (by rfl)
set_option maxRecDepth 1000000 in
set_option maxHeartbeats 1000000 in
theorem E156 (d : Nat) (t : Nat) (a1 : Option Nat) (a2 : Option Nat) (a3 : Int32) (a4 : Int32) (h : QH) : qcl (d + 1) 156 [qR (some t), qR a1, qR a2, qI a3, qI a4] h =
 (qck 9 t h).bind fun _ =>
 (qpz 9 0 t 1 h).bind fun h1 =>
  a1.bind fun p2 => (qgr 10 0 p2 h1).bind fun o3 =>
  o3.bind fun p4 => (qgi 2 0 p4 h1).bind fun x5 =>
  (qpi 9 1 t x5 h1).bind fun h6 =>
  (qpi 9 2 t 0 h6).bind fun h7 =>
  (qpi 9 4 t a4 h7).bind fun h8 =>
  qbig (d + 1) 156 30 [sR (some t), sR a1, sR a2, sI a3, none, sI 0, none] [] h8 := by
  exact qE0 83 [30, 65, 118] (by rfl)
set_option maxRecDepth 1000000 in
set_option maxHeartbeats 1000000 in
theorem E156_30 (d : Nat) (t : Nat) (a1 : Option Nat) (a2 : Option Nat) (a3 : Int32) (a5 : Int32) (h : QH) : qbig (d + 1) 156 30 [sR (some t), sR a1, sR a2, sI a3, none, sI a5, none] [] h =
 (qgi 9 1 t h).bind fun x1 =>
  if a5 < x1 then
  ((qgr 9 3 t h).bind fun o2 =>
   a1.bind fun p3 => (qgr 10 0 p3 h).bind fun o4 =>
   cI (qcl d 82 [qR o4, qI a5, qI a3] h) fun x6 h5 =>
   o2.bind fun p7 => (qsi 0 p7 a5 x6 h5).bind fun h8 =>
   qbig (d + 1) 156 30 [sR (some t), sR a1, sR a2, sI a3, none, sI (a5 + 1), none] [] h8)
 else
  (qbig (d + 1) 156 65 [sR (some t), sR a1, sR a2, sI a3, none, sI 0, none] [] h) := by
  exact qE 83 [30, 65, 118] (by rfl)
set_option maxRecDepth 1000000 in
set_option maxHeartbeats 1000000 in
theorem E156_65 (d : Nat) (t : Nat) (a1 : Option Nat) (a2 : Option Nat) (a3 : Int32) (a5 : Int32) (h : QH) : qbig (d + 1) 156 65 [sR (some t), sR a1, sR a2, sI a3, none, sI a5, none] [] h =
 if a5 < 7 then
  ((qgr 9 3 t h).bind fun o1 =>
   (qgr 9 3 t h).bind fun o2 =>
   o2.bind fun p4 => o1.bind fun p5 => (qcp p5 (a5 * 8) p4 ((a5 + 1) * 8) 8 h).bind fun h3 =>
   cV (qcl d 157 [qR (some t), qR a1, qR a2, qI a3, qI a5] h3) fun h6 =>
   qbig (d + 1) 156 65 [sR (some t), sR a1, sR a2, sI a3, none, sI (a5 + 1), none] [] h6)
 else
  (qbig (d + 1) 156 118 [sR (some t), none, none, none, none, sI 0, sI 0] [] h) := by
  exact qE 83 [30, 65, 118] (by rfl)
set_option maxRecDepth 1000000 in
set_option maxHeartbeats 1000000 in
theorem E156_118 (d : Nat) (t : Nat) (a5 : Int32) (a6 : Int32) (h : QH) : qbig (d + 1) 156 118 [sR (some t), none, none, none, none, sI a5, sI a6] [] h =
 (qgi 9 1 t h).bind fun x1 =>
  if a6 < x1 then
  ((qgr 9 3 t h).bind fun o2 =>
   o2.bind fun p3 => (qai 0 p3 (56 + a6) h).bind fun x4 =>
   if 0 < x4 then
   (qbig (d + 1) 156 118 [sR (some t), none, none, none, none, sI (a5 + 1), sI (a6 + 1)] [] h)
  else
   (qbig (d + 1) 156 118 [sR (some t), none, none, none, none, sI a5, sI (a6 + 1)] [] h))
 else
  (some (some (qI a5), h)) := by
  exact qE 83 [30, 65, 118] (by rfl)
set_option maxRecDepth 1000000 in
set_option maxHeartbeats 1000000 in
theorem E157 (d : Nat) (t : Nat) (a1 : Option Nat) (a2 : Option Nat) (a3 : Int32) (a4 : Int32) (h : QH) : qcl (d + 1) 157 [qR (some t), qR a1, qR a2, qI a3, qI a4] h =
 (qck 9 t h).bind fun _ =>
 a1.bind fun p1 => (qgr 10 1 p1 h).bind fun o2 =>
  cV (qcl d 148 [qR a2, qR o2, qI a3, qI a4, qI 1] h) fun h3 =>
  qbig (d + 1) 157 18 [sR (some t), sR a1, sR a2, none, sI a4, sI 0, sI 0, none] [] h3 := by
  exact qE0 69 [18] (by rfl)
set_option maxRecDepth 1000000 in
set_option maxHeartbeats 1000000 in
theorem E157_18 (d : Nat) (t : Nat) (a1 : Option Nat) (a2 : Option Nat) (a4 : Int32) (a5 : Int32) (a6 : Int32) (h : QH) : qbig (d + 1) 157 18 [sR (some t), sR a1, sR a2, none, sI a4, sI a5, sI a6, none] [] h =
 (qgi 9 1 t h).bind fun x1 =>
  if a6 < x1 then
  ((qgr 9 3 t h).bind fun o2 =>
   o2.bind fun p3 => (qai 0 p3 ((a4 * 8) + a6) h).bind fun x4 =>
   if 0 < x4 then
   (a1.bind fun p5 => (qgr 10 0 p5 h).bind fun o6 =>
    cI (qcl d 75 [qR o6, qI a6, qI a4] h) fun x8 h7 =>
    if x8 = 0 then
    ((qgi 9 1 t h7).bind fun x9 =>
     cI (qcl d 155 [qR (some t), qI x9] h7) fun x11 h10 =>
     a1.bind fun p12 => (qgr 10 0 p12 h10).bind fun o13 =>
     cI (qcl d 154 [qR o13, qI a6, qI x11, qI a4] h10) fun x15 h14 =>
     if x15 = 0 then
     (qbig (d + 1) 157 18 [sR (some t), sR a1, sR a2, none, sI a4, sI a5, sI (a6 + 1), none] [] h14)
    else
     (if ((a5 >>> (x11 &&& 31)) &&& 1) = 0 then
      (cV (qcl d 158 [qR (some t), qR a1, qR a2, qI a4, qI a6, qI x11] h14) fun h16 =>
       qbig (d + 1) 157 18 [sR (some t), sR a1, sR a2, none, sI a4, sI (a5 ||| (1 <<< (x11 &&& 31))), sI (a6 + 1), none] [] h16)
     else
      (qbig (d + 1) 157 18 [sR (some t), sR a1, sR a2, none, sI a4, sI a5, sI (a6 + 1), none] [] h14)))
   else
    (qbig (d + 1) 157 18 [sR (some t), sR a1, sR a2, none, sI a4, sI a5, sI (a6 + 1), none] [] h7))
  else
   (qbig (d + 1) 157 18 [sR (some t), sR a1, sR a2, none, sI a4, sI a5, sI (a6 + 1), none] [] h))
 else
  (some (none, h)) := by
  exact qE 69 [18] (by rfl)
set_option maxRecDepth 1000000 in
set_option maxHeartbeats 1000000 in
theorem E158 (d : Nat) (t : Nat) (a1 : Option Nat) (a2 : Option Nat) (a3 : Int32) (a4 : Int32) (a5 : Int32) (h : QH) : qcl (d + 1) 158 [qR (some t), qR a1, qR a2, qI a3, qI a4, qI a5] h =
 (qck 9 t h).bind fun _ =>
 (qgr 9 3 t h).bind fun o1 =>
  o1.bind fun p2 => (qai 0 p2 ((a3 * 8) + a5) h).bind fun x3 =>
  a1.bind fun p4 => (qgr 10 0 p4 h).bind fun o5 =>
  (qgr 9 3 t h).bind fun o6 =>
  o6.bind fun p7 => (qai 0 p7 ((a3 * 8) + a4) h).bind fun x8 =>
  cV (qcl d 149 [qR a2, qR o5, qI a4, qI x8, qI a5, qI x3] h) fun h9 =>
  cR (qcl d 163 [qR a1] h9) fun o11 h10 =>
  cI (qcl d 152 [qR a2, qR o11, qI 0] h10) fun x13 h12 =>
  cI (qcl d 155 [qR (some t), qI 100] h12) fun x15 h14 =>
  cR (qcl d 163 [qR a1] h14) fun o17 h16 =>
  cI (qcl d 152 [qR a2, qR o17, qI 2] h16) fun x19 h18 =>
  if x15 < x19 then
  ((qgi 9 2 t h18).bind fun x20 =>
   (qpi 9 2 t (x20 + 1) h18).bind fun h21 =>
   (qgr 9 3 t h21).bind fun o22 =>
   o22.bind fun p23 => (qsi 0 p23 (((a3 + 1) * 8) + a5) (if x3 < (if (x13 - 1) < 0 then 0 else (x13 - 1)) then (if (x13 - 1) < 0 then 0 else (x13 - 1)) else x3) h21).bind fun h24 =>
   some (none, h24))
 else
  ((qgr 9 3 t h18).bind fun o25 =>
   o25.bind fun p26 => (qsi 0 p26 (((a3 + 1) * 8) + a5) (if x3 < x13 then x13 else x3) h18).bind fun h27 =>
   some (none, h27)) := by
  exact qE0 70 [] (by rfl)
set_option maxRecDepth 1000000 in
set_option maxHeartbeats 1000000 in
theorem E159 (d : Nat) (t : Nat) (h : QH) : qcl (d + 1) 159 [qR (some t)] h =
 (qck 10 t h).bind fun _ =>
 cV (qcl d 74 [qR (some (hN h))] (qno 2 6 h)) fun h1 =>
  (qpr 10 0 t (some (hN h)) h1).bind fun h2 =>
  cV (qcl d 65 [qR (some (hN h2))] (qno 0 2 h2)) fun h3 =>
  (qpr 10 1 t (some (hN h2)) h3).bind fun h4 =>
  cV (qcl d 125 [qR (some (hN h4))] (qno 5 6 h4)) fun h5 =>
  (qpr 10 2 t (some (hN h4)) h5).bind fun h6 =>
  (qna 5 6 h6).bind fun h7 =>
  (qpr 10 3 t (some (hN h6)) h7).bind fun h8 =>
  (qpi 10 4 t 0 h8).bind fun h9 =>
  (qpi 10 5 t (-1) h9).bind fun h10 =>
  some (none, h10) := by
  exact qE0 33 [] (by rfl)
set_option maxRecDepth 1000000 in
set_option maxHeartbeats 1000000 in
theorem E160 (d : Nat) (t : Nat) (a1 : Option Nat) (h : QH) : qcl (d + 1) 160 [qR (some t), qR a1] h =
 (qck 10 t h).bind fun _ =>
 (qgr 10 0 t h).bind fun o1 =>
  a1.bind fun p2 => (qgr 10 0 p2 h).bind fun o3 =>
  cV (qcl d 78 [qR o1, qR o3] h) fun h4 =>
  (qgr 10 1 t h4).bind fun o5 =>
  a1.bind fun p6 => (qgr 10 1 p6 h4).bind fun o7 =>
  cV (qcl d 69 [qR o5, qR o7] h4) fun h8 =>
  (qgr 10 2 t h8).bind fun o9 =>
  a1.bind fun p10 => (qgr 10 2 p10 h8).bind fun o11 =>
  cV (qcl d 127 [qR o9, qR o11] h8) fun h12 =>
  qbig (d + 1) 160 35 [sR (some t), sR a1, sI 0] [] h12 := by
  exact qE0 44 [35] (by rfl)
set_option maxRecDepth 1000000 in
set_option maxHeartbeats 1000000 in
theorem E160_35 (d : Nat) (t : Nat) (a1 : Option Nat) (a2 : Int32) (h : QH) : qbig (d + 1) 160 35 [sR (some t), sR a1, sI a2] [] h =
 if a2 < 6 then
  ((qgr 10 3 t h).bind fun o1 =>
   a1.bind fun p2 => (qgr 10 3 p2 h).bind fun o3 =>
   o3.bind fun p4 => (qar p4 a2 h).bind fun o5 =>
   o1.bind fun p6 => (qsr p6 a2 o5 h).bind fun h7 =>
   qbig (d + 1) 160 35 [sR (some t), sR a1, sI (a2 + 1)] [] h7)
 else
  (a1.bind fun p8 => (qgi 10 4 p8 h).bind fun x9 =>
   (qpi 10 4 t x9 h).bind fun h10 =>
   a1.bind fun p11 => (qgi 10 5 p11 h10).bind fun x12 =>
   (qpi 10 5 t x12 h10).bind fun h13 =>
   some (none, h13)) := by
  exact qE 44 [35] (by rfl)
set_option maxRecDepth 1000000 in
set_option maxHeartbeats 1000000 in
theorem E161 (d : Nat) (t : Nat) (a1 : Int32) (a2 : Int32) (h : QH) : qcl (d + 1) 161 [qR (some t), qI a1, qI a2] h =
 (qck 10 t h).bind fun _ =>
 (qgr 10 0 t h).bind fun o1 =>
  cI (qcl d 80 [qR o1, qI a1] h) fun x3 h2 =>
  if x3 = 0 then
  (if (0 : Int32) = 0 ∨ (0 : Int32) = 1 then some (some (qI 0), h2) else none)
 else
  ((qgr 10 1 t h2).bind fun o4 =>
   cI (qcl d 72 [qR o4, qI a2] h2) fun x6 h5 =>
   if x6 = 0 then
   (if (0 : Int32) = 0 ∨ (0 : Int32) = 1 then some (some (qI 0), h5) else none)
  else
   (if (1 : Int32) = 0 ∨ (1 : Int32) = 1 then some (some (qI 1), h5) else none)) := by
  exact qE0 19 [] (by rfl)
set_option maxRecDepth 1000000 in
set_option maxHeartbeats 1000000 in
theorem E162 (d : Nat) (t : Nat) (a1 : Option Nat) (h : QH) : qcl (d + 1) 162 [qR (some t), qR a1] h =
 (qck 10 t h).bind fun _ =>
 (qgi 10 4 t h).bind fun x1 =>
  (qgr 10 3 t h).bind fun o2 =>
  o2.bind fun p3 => (qsr p3 x1 a1 h).bind fun h4 =>
  (qgi 10 4 t h4).bind fun x5 =>
  (qpi 10 4 t (x5 + 1) h4).bind fun h6 =>
  some (some (qI x1), h6) := by
  exact qE0 21 [] (by rfl)
set_option maxRecDepth 1000000 in
set_option maxHeartbeats 1000000 in
theorem E163 (d : Nat) (t : Nat) (h : QH) : qcl (d + 1) 163 [qR (some t)] h =
 (qck 10 t h).bind fun _ =>
 (qgi 10 5 t h).bind fun x1 =>
  if x1 < 0 then
  (some (some (qR none), h))
 else
  ((qgi 10 5 t h).bind fun x2 =>
   (qgi 10 4 t h).bind fun x3 =>
   if x2 < x3 then
   ((qgr 10 3 t h).bind fun o4 =>
    (qgi 10 5 t h).bind fun x5 =>
    o4.bind fun p6 => (qar p6 x5 h).bind fun o7 =>
    some (some (qR o7), h))
  else
   (some (some (qR none), h))) := by
  exact qE0 21 [] (by rfl)
set_option maxRecDepth 1000000 in
set_option maxHeartbeats 1000000 in
theorem E164 (d : Nat) (t : Nat) (h : QH) : qcl (d + 1) 164 [qR (some t)] h =
 (qck 12 t h).bind fun _ =>
 (qna 0 7 h).bind fun h1 =>
  (qpr 12 2 t (some (hN h)) h1).bind fun h2 =>
  (qna 0 5220 h2).bind fun h3 =>
  (qpr 12 3 t (some (hN h2)) h3).bind fun h4 =>
  (qna 0 10440 h4).bind fun h5 =>
  (qpr 12 4 t (some (hN h4)) h5).bind fun h6 =>
  (qna 2 2 h6).bind fun h7 =>
  (qpr 12 5 t (some (hN h6)) h7).bind fun h8 =>
  (qna 1 90 h8).bind fun h9 =>
  (qsi 1 (hN h8) 0 (Int8.toInt32 (Int32.toInt8 108)) h9).bind fun h10 =>
  (qsi 1 (hN h8) 1 (Int8.toInt32 (Int32.toInt8 101)) h10).bind fun h11 =>
  (qsi 1 (hN h8) 2 (Int8.toInt32 (Int32.toInt8 97)) h11).bind fun h12 =>
  (qsi 1 (hN h8) 3 (Int8.toInt32 (Int32.toInt8 114)) h12).bind fun h13 =>
  (qsi 1 (hN h8) 4 (Int8.toInt32 (Int32.toInt8 110)) h13).bind fun h14 =>
  (qsi 1 (hN h8) 5 (Int8.toInt32 (Int32.toInt8 116)) h14).bind fun h15 =>
  (qsi 1 (hN h8) 6 (Int8.toInt32 (Int32.toInt8 32)) h15).bind fun h16 =>
  (qsi 1 (hN h8) 7 (Int8.toInt32 (Int32.toInt8 116)) h16).bind fun h17 =>
  (qsi 1 (hN h8) 8 (Int8.toInt32 (Int32.toInt8 97)) h17).bind fun h18 =>
  (qsi 1 (hN h8) 9 (Int8.toInt32 (Int32.toInt8 107)) h18).bind fun h19 =>
  (qsi 1 (hN h8) 10 (Int8.toInt32 (Int32.toInt8 101)) h19).bind fun h20 =>
  (qsi 1 (hN h8) 11 (Int8.toInt32 (Int32.toInt8 115)) h20).bind fun h21 =>
  (qsi 1 (hN h8) 12 (Int8.toInt32 (Int32.toInt8 32)) h21).bind fun h22 =>
  (qsi 1 (hN h8) 13 (Int8.toInt32 (Int32.toInt8 119)) h22).bind fun h23 =>
  (qsi 1 (hN h8) 14 (Int8.toInt32 (Int32.toInt8 114)) h23).bind fun h24 =>
  (qsi 1 (hN h8) 15 (Int8.toInt32 (Int32.toInt8 111)) h24).bind fun h25 =>
  (qsi 1 (hN h8) 16 (Int8.toInt32 (Int32.toInt8 110)) h25).bind fun h26 =>
  (qsi 1 (hN h8) 17 (Int8.toInt32 (Int32.toInt8 103)) h26).bind fun h27 =>
  (qsi 1 (hN h8) 18 (Int8.toInt32 (Int32.toInt8 32)) h27).bind fun h28 =>
  (qsi 1 (hN h8) 19 (Int8.toInt32 (Int32.toInt8 114)) h28).bind fun h29 =>
  (qsi 1 (hN h8) 20 (Int8.toInt32 (Int32.toInt8 101)) h29).bind fun h30 =>
  (qsi 1 (hN h8) 21 (Int8.toInt32 (Int32.toInt8 102)) h30).bind fun h31 =>
  (qsi 1 (hN h8) 22 (Int8.toInt32 (Int32.toInt8 117)) h31).bind fun h32 =>
  (qsi 1 (hN h8) 23 (Int8.toInt32 (Int32.toInt8 115)) h32).bind fun h33 =>
  (qsi 1 (hN h8) 24 (Int8.toInt32 (Int32.toInt8 101)) h33).bind fun h34 =>
  (qsi 1 (hN h8) 25 (Int8.toInt32 (Int32.toInt8 115)) h34).bind fun h35 =>
  (qsi 1 (hN h8) 26 (Int8.toInt32 (Int32.toInt8 32)) h35).bind fun h36 =>
  (qsi 1 (hN h8) 27 (Int8.toInt32 (Int32.toInt8 105)) h36).bind fun h37 =>
  (qsi 1 (hN h8) 28 (Int8.toInt32 (Int32.toInt8 102)) h37).bind fun h38 =>
  (qsi 1 (hN h8) 29 (Int8.toInt32 (Int32.toInt8 32)) h38).bind fun h39 =>
  (qsi 1 (hN h8) 30 (Int8.toInt32 (Int32.toInt8 111)) h39).bind fun h40 =>
  (qsi 1 (hN h8) 31 (Int8.toInt32 (Int32.toInt8 114)) h40).bind fun h41 =>
  (qsi 1 (hN h8) 32 (Int8.toInt32 (Int32.toInt8 32)) h41).bind fun h42 =>
  (qsi 1 (hN h8) 33 (Int8.toInt32 (Int32.toInt8 97)) h42).bind fun h43 =>
  (qsi 1 (hN h8) 34 (Int8.toInt32 (Int32.toInt8 110)) h43).bind fun h44 =>
  (qsi 1 (hN h8) 35 (Int8.toInt32 (Int32.toInt8 100)) h44).bind fun h45 =>
  (qsi 1 (hN h8) 36 (Int8.toInt32 (Int32.toInt8 32)) h45).bind fun h46 =>
  (qsi 1 (hN h8) 37 (Int8.toInt32 (Int32.toInt8 110)) h46).bind fun h47 =>
  (qsi 1 (hN h8) 38 (Int8.toInt32 (Int32.toInt8 111)) h47).bind fun h48 =>
  (qsi 1 (hN h8) 39 (Int8.toInt32 (Int32.toInt8 116)) h48).bind fun h49 =>
  (qsi 1 (hN h8) 40 (Int8.toInt32 (Int32.toInt8 32)) h49).bind fun h50 =>
  (qsi 1 (hN h8) 41 (Int8.toInt32 (Int32.toInt8 107)) h50).bind fun h51 =>
  (qsi 1 (hN h8) 42 (Int8.toInt32 (Int32.toInt8 110)) h51).bind fun h52 =>
  (qsi 1 (hN h8) 43 (Int8.toInt32 (Int32.toInt8 111)) h52).bind fun h53 =>
  (qsi 1 (hN h8) 44 (Int8.toInt32 (Int32.toInt8 119)) h53).bind fun h54 =>
  (qsi 1 (hN h8) 45 (Int8.toInt32 (Int32.toInt8 115)) h54).bind fun h55 =>
  (qsi 1 (hN h8) 46 (Int8.toInt32 (Int32.toInt8 32)) h55).bind fun h56 =>
  (qsi 1 (hN h8) 47 (Int8.toInt32 (Int32.toInt8 104)) h56).bind fun h57 =>
  (qsi 1 (hN h8) 48 (Int8.toInt32 (Int32.toInt8 97)) h57).bind fun h58 =>
  (qsi 1 (hN h8) 49 (Int8.toInt32 (Int32.toInt8 115)) h58).bind fun h59 =>
  (qsi 1 (hN h8) 50 (Int8.toInt32 (Int32.toInt8 32)) h59).bind fun h60 =>
  (qsi 1 (hN h8) 51 (Int8.toInt32 (Int32.toInt8 116)) h60).bind fun h61 =>
  (qsi 1 (hN h8) 52 (Int8.toInt32 (Int32.toInt8 101)) h61).bind fun h62 =>
  (qsi 1 (hN h8) 53 (Int8.toInt32 (Int32.toInt8 108)) h62).bind fun h63 =>
  (qsi 1 (hN h8) 54 (Int8.toInt32 (Int32.toInt8 108)) h63).bind fun h64 =>
  (qsi 1 (hN h8) 55 (Int8.toInt32 (Int32.toInt8 32)) h64).bind fun h65 =>
  (qsi 1 (hN h8) 56 (Int8.toInt32 (Int32.toInt8 108)) h65).bind fun h66 =>
  (qsi 1 (hN h8) 57 (Int8.toInt32 (Int32.toInt8 101)) h66).bind fun h67 =>
  (qsi 1 (hN h8) 58 (Int8.toInt32 (Int32.toInt8 97)) h67).bind fun h68 =>
  (qsi 1 (hN h8) 59 (Int8.toInt32 (Int32.toInt8 114)) h68).bind fun h69 =>
  (qsi 1 (hN h8) 60 (Int8.toInt32 (Int32.toInt8 110)) h69).bind fun h70 =>
  (qsi 1 (hN h8) 61 (Int8.toInt32 (Int32.toInt8 32)) h70).bind fun h71 =>
  (qsi 1 (hN h8) 62 (Int8.toInt32 (Int32.toInt8 97)) h71).bind fun h72 =>
  (qsi 1 (hN h8) 63 (Int8.toInt32 (Int32.toInt8 114)) h72).bind fun h73 =>
  (qsi 1 (hN h8) 64 (Int8.toInt32 (Int32.toInt8 116)) h73).bind fun h74 =>
  (qsi 1 (hN h8) 65 (Int8.toInt32 (Int32.toInt8 32)) h74).bind fun h75 =>
  (qsi 1 (hN h8) 66 (Int8.toInt32 (Int32.toInt8 100)) h75).bind fun h76 =>
  (qsi 1 (hN h8) 67 (Int8.toInt32 (Int32.toInt8 97)) h76).bind fun h77 =>
  (qsi 1 (hN h8) 68 (Int8.toInt32 (Int32.toInt8 121)) h77).bind fun h78 =>
  (qsi 1 (hN h8) 69 (Int8.toInt32 (Int32.toInt8 32)) h78).bind fun h79 =>
  (qsi 1 (hN h8) 70 (Int8.toInt32 (Int32.toInt8 116)) h79).bind fun h80 =>
  (qsi 1 (hN h8) 71 (Int8.toInt32 (Int32.toInt8 101)) h80).bind fun h81 =>
  (qsi 1 (hN h8) 72 (Int8.toInt32 (Int32.toInt8 108)) h81).bind fun h82 =>
  (qsi 1 (hN h8) 73 (Int8.toInt32 (Int32.toInt8 108)) h82).bind fun h83 =>
  (qsi 1 (hN h8) 74 (Int8.toInt32 (Int32.toInt8 101)) h83).bind fun h84 =>
  (qsi 1 (hN h8) 75 (Int8.toInt32 (Int32.toInt8 114)) h84).bind fun h85 =>
  (qsi 1 (hN h8) 76 (Int8.toInt32 (Int32.toInt8 32)) h85).bind fun h86 =>
  (qsi 1 (hN h8) 77 (Int8.toInt32 (Int32.toInt8 108)) h86).bind fun h87 =>
  (qsi 1 (hN h8) 78 (Int8.toInt32 (Int32.toInt8 101)) h87).bind fun h88 =>
  (qsi 1 (hN h8) 79 (Int8.toInt32 (Int32.toInt8 97)) h88).bind fun h89 =>
  (qsi 1 (hN h8) 80 (Int8.toInt32 (Int32.toInt8 114)) h89).bind fun h90 =>
  (qsi 1 (hN h8) 81 (Int8.toInt32 (Int32.toInt8 110)) h90).bind fun h91 =>
  (qsi 1 (hN h8) 82 (Int8.toInt32 (Int32.toInt8 101)) h91).bind fun h92 =>
  (qsi 1 (hN h8) 83 (Int8.toInt32 (Int32.toInt8 114)) h92).bind fun h93 =>
  (qsi 1 (hN h8) 84 (Int8.toInt32 (Int32.toInt8 32)) h93).bind fun h94 =>
  (qsi 1 (hN h8) 85 (Int8.toInt32 (Int32.toInt8 111)) h94).bind fun h95 =>
  (qsi 1 (hN h8) 86 (Int8.toInt32 (Int32.toInt8 110)) h95).bind fun h96 =>
  (qsi 1 (hN h8) 87 (Int8.toInt32 (Int32.toInt8 99)) h96).bind fun h97 =>
  (qsi 1 (hN h8) 88 (Int8.toInt32 (Int32.toInt8 101)) h97).bind fun h98 =>
  (qsi 1 (hN h8) 89 (Int8.toInt32 (Int32.toInt8 32)) h98).bind fun h99 =>
  (qpr 12 7 t (some (hN h8)) h99).bind fun h100 =>
  (qna 1 400 h100).bind fun h101 =>
  (qpr 12 8 t (some (hN h100)) h101).bind fun h102 =>
  (qna 0 5 h102).bind fun h103 =>
  (qpr 12 9 t (some (hN h102)) h103).bind fun h104 =>
  (qpi 12 11 t (-1) h104).bind fun h105 =>
  (qna 0 401 h105).bind fun h106 =>
  (qpr 12 12 t (some (hN h105)) h106).bind fun h107 =>
  (qna 0 401 h107).bind fun h108 =>
  (qpr 12 13 t (some (hN h107)) h108).bind fun h109 =>
  (qna 0 401 h109).bind fun h110 =>
  (qpr 12 14 t (some (hN h109)) h110).bind fun h111 =>
  (qna 0 9 h111).bind fun h112 =>
  (qpr 12 22 t (some (hN h111)) h112).bind fun h113 =>
  (qna 0 40 h113).bind fun h114 =>
  (qpr 12 23 t (some (hN h113)) h114).bind fun h115 =>
  (qna 0 40 h115).bind fun h116 =>
  (qpr 12 24 t (some (hN h115)) h116).bind fun h117 =>
  (qna 2 40 h117).bind fun h118 =>
  (qpr 12 25 t (some (hN h117)) h118).bind fun h119 =>
  (qna 2 40 h119).bind fun h120 =>
  (qpr 12 26 t (some (hN h119)) h120).bind fun h121 =>
  (qna 0 8 h121).bind fun h122 =>
  (qpr 12 27 t (some (hN h121)) h122).bind fun h123 =>
  (qna 0 60 h123).bind fun h124 =>
  (qpr 12 32 t (some (hN h123)) h124).bind fun h125 =>
  (qna 0 7936 h125).bind fun h126 =>
  (qpr 12 33 t (some (hN h125)) h126).bind fun h127 =>
  (qna 2 7936 h127).bind fun h128 =>
  (qpr 12 34 t (some (hN h127)) h128).bind fun h129 =>
  (qpi 12 35 t (-1) h129).bind fun h130 =>
  (qpi 12 36 t (-1) h130).bind fun h131 =>
  (qpi 12 37 t (-1) h131).bind fun h132 =>
  (qna 0 256 h132).bind fun h133 =>
  (qpr 12 39 t (some (hN h132)) h133).bind fun h134 =>
  (qna 0 10 h134).bind fun h135 =>
  (qpr 12 40 t (some (hN h134)) h135).bind fun h136 =>
  (qna 0 56 h136).bind fun h137 =>
  (qpr 12 41 t (some (hN h136)) h137).bind fun h138 =>
  (qpi 12 42 t (-1) h138).bind fun h139 =>
  (qgr 12 3 t h139).bind fun o140 =>
  o140.bind fun p141 => (qsi 0 p141 413 (-1) h139).bind fun h142 =>
  some (none, h142) := by
  exact qE0 476 [] (by rfl)
set_option maxRecDepth 1000000 in
set_option maxHeartbeats 1000000 in
theorem E165 (d : Nat) (t : Nat) (a1 : Int32) (a2 : Int32) (a3 : Int32) (a4 : Int32) (h : QH) : qcl (d + 1) 165 [qR (some t), qI a1, qI a2, qI a3, qI a4] h =
 (qck 12 t h).bind fun _ =>
 cI (qcl d 199 [qI a1, qI a2, qI a3] h) fun x2 h1 =>
  if x2 = 0 then
  (some (some (qI (-1)), h1))
 else
  (cI (qcl d 218 [qI a4, qI 1, qI 9] h1) fun x4 h3 =>
   if x4 = 0 then
   (some (some (qI (-1)), h3))
  else
   (cI (qcl d 166 [qR (some t), qI a1, qI a2, qI a3, qI a4] h3) fun x6 h5 =>
    some (some (qI x6), h5))) := by
  exact qE0 24 [] (by rfl)
set_option maxRecDepth 1000000 in
set_option maxHeartbeats 1000000 in
theorem E166 (d : Nat) (t : Nat) (a1 : Int32) (a2 : Int32) (a3 : Int32) (a4 : Int32) (h : QH) : qcl (d + 1) 166 [qR (some t), qI a1, qI a2, qI a3, qI a4] h =
 (qck 12 t h).bind fun _ =>
 if a3 < a4 then
  (some (some (qI (-1)), h))
 else
  (qbig (d + 1) 166 11 [sR (some t), sI a1, sI a2, sI a3, sI a4, sI 0, none, none, none] [] h) := by
  exact qE0 95 [11, 48, 69, 100] (by rfl)
set_option maxRecDepth 1000000 in
set_option maxHeartbeats 1000000 in
theorem E166_11 (d : Nat) (t : Nat) (a1 : Int32) (a2 : Int32) (a3 : Int32) (a4 : Int32) (a5 : Int32) (h : QH) : qbig (d + 1) 166 11 [sR (some t), sI a1, sI a2, sI a3, sI a4, sI a5, none, none, none] [] h =
 if a5 < 10 then
  ((qgr 12 40 t h).bind fun o1 =>
   if a5 = a3 then
   (o1.bind fun p2 => (qsi 0 p2 a5 1 h).bind fun h3 =>
    qbig (d + 1) 166 11 [sR (some t), sI a1, sI a2, sI a3, sI a4, sI (a5 + 1), none, none, none] [] h3)
  else
   (o1.bind fun p4 => (qsi 0 p4 a5 0 h).bind fun h5 =>
    qbig (d + 1) 166 11 [sR (some t), sI a1, sI a2, sI a3, sI a4, sI (a5 + 1), none, none, none] [] h5))
 else
  (qbig (d + 1) 166 48 [sR (some t), sI a1, sI a2, sI a3, sI a4, sI 1, sI 0, none, none] [] h) := by
  exact qE 95 [11, 48, 69, 100] (by rfl)
set_option maxRecDepth 1000000 in
set_option maxHeartbeats 1000000 in
theorem E166_48 (d : Nat) (t : Nat) (a1 : Int32) (a2 : Int32) (a3 : Int32) (a4 : Int32) (a5 : Int32) (a6 : Int32) (h : QH) : qbig (d + 1) 166 48 [sR (some t), sI a1, sI a2, sI a3, sI a4, sI a5, sI a6, none, none] [] h =
 if a5 < a1 then
  (if a3 = a4 then
   (some (some (qI (-1)), h))
  else
   (qbig (d + 1) 166 69 [sR (some t), sI a1, sI a2, sI a3, sI a4, sI a5, sI a6, sI 0, sI a4] [] h))
 else
  (some (some (qI a6), h)) := by
  exact qE 95 [11, 48, 69, 100] (by rfl)
set_option maxRecDepth 1000000 in
set_option maxHeartbeats 1000000 in
theorem E166_69 (d : Nat) (t : Nat) (a1 : Int32) (a2 : Int32) (a3 : Int32) (a4 : Int32) (a5 : Int32) (a6 : Int32) (a7 : Int32) (a8 : Int32) (h : QH) : qbig (d + 1) 166 69 [sR (some t), sI a1, sI a2, sI a3, sI a4, sI a5, sI a6, sI a7, sI a8] [] h =
 if a8 < 9 then
  ((qgr 12 40 t h).bind fun o1 =>
   o1.bind fun p2 => (qai 0 p2 (a8 + 1) h).bind fun x3 =>
   qbig (d + 1) 166 69 [sR (some t), sI a1, sI a2, sI a3, sI a4, sI a5, sI a6, sI (a7 + x3), sI (a8 + 1)] [] h)
 else
  (qbig (d + 1) 166 100 [sR (some t), sI a1, sI a2, sI a3, sI a4, sI a5, sI a6, sI a7, sI a4] [] h) := by
  exact qE 95 [11, 48, 69, 100] (by rfl)
set_option maxRecDepth 1000000 in
set_option maxHeartbeats 1000000 in
theorem E166_100 (d : Nat) (t : Nat) (a1 : Int32) (a2 : Int32) (a3 : Int32) (a4 : Int32) (a5 : Int32) (a6 : Int32) (a7 : Int32) (a8 : Int32) (h : QH) : qbig (d + 1) 166 100 [sR (some t), sI a1, sI a2, sI a3, sI a4, sI a5, sI a6, sI a7, sI a8] [] h =
 if a8 < 9 then
  ((qgr 12 40 t h).bind fun o1 =>
   (qgr 12 40 t h).bind fun o2 =>
   o2.bind fun p3 => (qai 0 p3 a8 h).bind fun x4 =>
   (qgr 12 40 t h).bind fun o5 =>
   o5.bind fun p6 => (qai 0 p6 (a8 + 1) h).bind fun x7 =>
   cI (qcl d 217 [qI 100, qI (x4 + (a2 * x7))] h) fun x9 h8 =>
   o1.bind fun p10 => (qsi 0 p10 a8 x9 h8).bind fun h11 =>
   qbig (d + 1) 166 100 [sR (some t), sI a1, sI a2, sI a3, sI a4, sI a5, sI a6, sI a7, sI (a8 + 1)] [] h11)
 else
  (cI (qcl d 217 [qI 100, qI (a5 + (a2 * a7))] h) fun x13 h12 =>
   qbig (d + 1) 166 48 [sR (some t), sI a1, sI a2, sI a3, sI a4, sI x13, sI (a6 + 1), none, none] [] h12) := by
  exact qE 95 [11, 48, 69, 100] (by rfl)
set_option maxRecDepth 1000000 in
set_option maxHeartbeats 1000000 in
theorem E167 (d : Nat) (t : Nat) (a1 : Int32) (a2 : Int32) (h : QH) : qcl (d + 1) 167 [qR (some t), qI a1, qI a2] h =
 (qck 12 t h).bind fun _ =>
 cI (qcl d 218 [qI a1, qI 1, qI 6] h) fun x2 h1 =>
  if x2 = 0 then
  (cI (qcl d 244 [qR (some t), qI (-1)] h1) fun x4 h3 =>
   some (some (qI x4), h3))
 else
  (cI (qcl d 218 [qI a2, qI 1, qI 3] h1) fun x6 h5 =>
   if x6 = 0 then
   (cI (qcl d 244 [qR (some t), qI (-1)] h5) fun x8 h7 =>
    some (some (qI x8), h7))
  else
   (cI (qcl d 169 [qR (some t)] h5) fun x10 h9 =>
    if x10 = 5 then
    (cI (qcl d 244 [qR (some t), qI (-5)] h9) fun x12 h11 =>
     some (some (qI x12), h11))
   else
    ((qgr 12 3 t h9).bind fun o13 =>
     o13.bind fun p14 => (qsi 0 p14 (40 + (4 * x10)) a1 h9).bind fun h15 =>
     (qgr 12 3 t h15).bind fun o16 =>
     o16.bind fun p17 => (qsi 0 p17 ((40 + (4 * x10)) + 1) a2 h15).bind fun h18 =>
     (qgr 12 3 t h18).bind fun o19 =>
     o19.bind fun p20 => (qsi 0 p20 ((40 + (4 * x10)) + 2) 1 h18).bind fun h21 =>
     (qgr 12 3 t h21).bind fun o22 =>
     o22.bind fun p23 => (qsi 0 p23 ((40 + (4 * x10)) + 3) 0 h21).bind fun h24 =>
     qbig (d + 1) 167 99 [sR (some t), none, none, sI x10, sI 0] [] h24))) := by
  exact qE0 101 [99] (by rfl)
set_option maxRecDepth 1000000 in
set_option maxHeartbeats 1000000 in
theorem E167_99 (d : Nat) (t : Nat) (a3 : Int32) (a4 : Int32) (h : QH) : qbig (d + 1) 167 99 [sR (some t), none, none, sI a3, sI a4] [] h =
 if a4 < 8 then
  ((qgr 12 3 t h).bind fun o1 =>
   o1.bind fun p2 => (qsi 0 p2 ((60 + (5 * a4)) + a3) 0 h).bind fun h3 =>
   qbig (d + 1) 167 99 [sR (some t), none, none, sI a3, sI (a4 + 1)] [] h3)
 else
  ((qgr 12 3 t h).bind fun o4 =>
   o4.bind fun p5 => (qai 0 p5 409 h).bind fun x6 =>
   o4.bind fun p7 => (qsi 0 p7 409 (x6 + 1) h).bind fun h8 =>
   cI (qcl d 190 [qR (some t), qI a3] h8) fun x10 h9 =>
   some (some (qI x10), h9)) := by
  exact qE 101 [99] (by rfl)
set_option maxRecDepth 1000000 in
set_option maxHeartbeats 1000000 in
theorem E168 (d : Nat) (t : Nat) (a1 : Int32) (a2 : Int32) (h : QH) : qcl (d + 1) 168 [qR (some t), qI a1, qI a2] h =
 (qck 12 t h).bind fun _ =>
 (qgr 12 3 t h).bind fun o1 =>
  o1.bind fun p2 => (qai 0 p2 ((40 + (4 * a1)) + a2) h).bind fun x3 =>
  some (some (qI x3), h) := by
  exact qE0 16 [] (by rfl)
set_option maxRecDepth 1000000 in
set_option maxHeartbeats 1000000 in
theorem E169 (d : Nat) (t : Nat) (h : QH) : qcl (d + 1) 169 [qR (some t)] h =
 (qck 12 t h).bind fun _ =>
 (qgr 12 3 t h).bind fun o1 =>
  o1.bind fun p2 => (qai 0 p2 409 h).bind fun x3 =>
  some (some (qI x3), h) := by
  exact qE0 10 [] (by rfl)
set_option maxRecDepth 1000000 in
set_option maxHeartbeats 1000000 in
theorem E170 (d : Nat) (t : Nat) (a1 : Int32) (a2 : Int32) (a3 : Int32) (a4 : Int32) (a5 : Int32) (a6 : Int32) (a7 : Int32) (h : QH) : qcl (d + 1) 170 [qR (some t), qI a1, qI a2, qI a3, qI a4, qI a5, qI a6, qI a7] h =
 (qck 12 t h).bind fun _ =>
 (qgr 12 22 t h).bind fun o1 =>
  o1.bind fun p2 => (qsi 0 p2 0 a2 h).bind fun h3 =>
  (qgr 12 22 t h3).bind fun o4 =>
  o4.bind fun p5 => (qsi 0 p5 1 a4 h3).bind fun h6 =>
  (qgr 12 22 t h6).bind fun o7 =>
  cI (qcl d 227 [qR (some t), qI a1, qI 1] h6) fun x9 h8 =>
  o7.bind fun p10 => (qsi 0 p10 2 x9 h8).bind fun h11 =>
  (qgr 12 22 t h11).bind fun o12 =>
  cI (qcl d 227 [qR (some t), qI a3, qI 0] h11) fun x14 h13 =>
  o12.bind fun p15 => (qsi 0 p15 3 x14 h13).bind fun h16 =>
  (qgr 12 22 t h16).bind fun o17 =>
  o17.bind fun p18 => (qsi 0 p18 4 a5 h16).bind fun h19 =>
  (qgr 12 22 t h19).bind fun o20 =>
  o20.bind fun p21 => (qsi 0 p21 5 a6 h19).bind fun h22 =>
  (qgr 12 22 t h22).bind fun o23 =>
  o23.bind fun p24 => (qsi 0 p24 6 a1 h22).bind fun h25 =>
  (qgr 12 22 t h25).bind fun o26 =>
  o26.bind fun p27 => (qsi 0 p27 7 a3 h25).bind fun h28 =>
  (qgr 12 22 t h28).bind fun o29 =>
  o29.bind fun p30 => (qsi 0 p30 8 a7 h28).bind fun h31 =>
  some (none, h31) := by
  exact qE0 57 [] (by rfl)
set_option maxRecDepth 1000000 in
set_option maxHeartbeats 1000000 in
theorem E171 (d : Nat) (t : Nat) (a1 : Int32) (h : QH) : qcl (d + 1) 171 [qR (some t), qI a1] h =
 (qck 12 t h).bind fun _ =>
 cI (qcl d 218 [qI a1, qI 0, qI 1] h) fun x2 h1 =>
  if x2 = 0 then
  (cI (qcl d 244 [qR (some t), qI (-1)] h1) fun x4 h3 =>
   some (some (qI x4), h3))
 else
  ((qgr 12 5 t h1).bind fun o5 =>
   o5.bind fun p6 => (qai 2 p6 a1 h1).bind fun x7 =>
   if x7 = 0 then
   (cI (qcl d 244 [qR (some t), qI (-2)] h1) fun x9 h8 =>
    some (some (qI x9), h8))
  else
   (qbig (d + 1) 171 33 [sR (some t), sI a1, sI 0] [] h1)) := by
  exact qE0 46 [33] (by rfl)
set_option maxRecDepth 1000000 in
set_option maxHeartbeats 1000000 in
theorem E171_33 (d : Nat) (t : Nat) (a1 : Int32) (a2 : Int32) (h : QH) : qbig (d + 1) 171 33 [sR (some t), sI a1, sI a2] [] h =
 if a2 < 5220 then
  ((qgr 12 3 t h).bind fun o1 =>
   (qgr 12 4 t h).bind fun o2 =>
   o2.bind fun p3 => (qai 0 p3 ((5220 * a1) + a2) h).bind fun x4 =>
   o1.bind fun p5 => (qsi 0 p5 a2 x4 h).bind fun h6 =>
   qbig (d + 1) 171 33 [sR (some t), sI a1, sI (a2 + 1)] [] h6)
 else
  (cI (qcl d 190 [qR (some t), qI 0] h) fun x8 h7 =>
   some (some (qI x8), h7)) := by
  exact qE 46 [33] (by rfl)
