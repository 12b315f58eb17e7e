set_option maxRecDepth 100000 in
set_option maxHeartbeats 1000000 in
theorem E64 (d : Nat) (t : Nat) (a1 : Int32) (a2 : Int32) (h : QH) : qcl (d + 1) 64 [qR (some t), qI a1, qI a2] h =
 (qck 11 t h).bind fun _ =>
 if a2 = 0 then
  ((qgr 11 0 t h).bind fun o1 =>
   o1.bind fun p2 => (qgr 10 2 p2 h).bind fun o3 =>
   cI (qcl d 128 [qR o3, qI a1] h) fun x5 h4 =>
   if x5 = 0 then
   (cI (qcl d 43 [qR (some t), qI (-2)] h4) fun x7 h6 =>
    some (some (qI x7), h6))
  else
   ((qgr 11 0 t h4).bind fun o8 =>
    o8.bind fun p9 => (qgr 10 2 p9 h4).bind fun o10 =>
    o10.bind fun p11 => (qgr 5 5 p11 h4).bind fun o12 =>
    o12.bind fun p13 => (qai 0 p13 a1 h4).bind fun x14 =>
    (qgr 11 0 t h4).bind fun o15 =>
    o15.bind fun p16 => (qgr 10 2 p16 h4).bind fun o17 =>
    o17.bind fun p18 => (qgr 5 5 p18 h4).bind fun o19 =>
    o19.bind fun p20 => (qsi 0 p20 a1 a2 h4).bind fun h21 =>
    cI (qcl d 10 [qR (some t), qI x14] h21) fun x23 h22 =>
    some (some (qI x23), h22)))
 else
  (if a2 = 1 then
   ((qgr 11 0 t h).bind fun o24 =>
    o24.bind fun p25 => (qgr 10 2 p25 h).bind fun o26 =>
    cI (qcl d 128 [qR o26, qI a1] h) fun x28 h27 =>
    if x28 = 0 then
    (cI (qcl d 43 [qR (some t), qI (-2)] h27) fun x30 h29 =>
     some (some (qI x30), h29))
   else
    ((qgr 11 0 t h27).bind fun o31 =>
     o31.bind fun p32 => (qgr 10 2 p32 h27).bind fun o33 =>
     o33.bind fun p34 => (qgr 5 5 p34 h27).bind fun o35 =>
     o35.bind fun p36 => (qai 0 p36 a1 h27).bind fun x37 =>
     (qgr 11 0 t h27).bind fun o38 =>
     o38.bind fun p39 => (qgr 10 2 p39 h27).bind fun o40 =>
     o40.bind fun p41 => (qgr 5 5 p41 h27).bind fun o42 =>
     o42.bind fun p43 => (qsi 0 p43 a1 a2 h27).bind fun h44 =>
     cI (qcl d 10 [qR (some t), qI x37] h44) fun x46 h45 =>
     some (some (qI x46), h45)))
  else
   (cI (qcl d 43 [qR (some t), qI (-1)] h) fun x48 h47 =>
    some (some (qI x48), h47))) := by
  exact qE0 42 [] (by rfl)
set_option maxRecDepth 100000 in
set_option maxHeartbeats 1000000 in
theorem E65 (d : Nat) (t : Nat) (h : QH) : qcl (d + 1) 65 [qR (some t)] h =
 (qck 0 t h).bind fun _ =>
 (qpi 0 0 t 0 h).bind fun h1 =>
  (qna 0 20 h1).bind fun h2 =>
  (qpr 0 1 t (some (hN h1)) h2).bind fun h3 =>
  some (none, h3) := by
  exact qE0 15 [] (by rfl)
set_option maxRecDepth 100000 in
set_option maxHeartbeats 1000000 in
theorem E66 (d : Nat) (t : Nat) (a1 : Int32) (a2 : Int32) (h : QH) : qcl (d + 1) 66 [qR (some t), qI a1, qI a2] h =
 (qck 0 t h).bind fun _ =>
 cI (qcl d 72 [qR (some t), qI a1] h) fun x2 h1 =>
  if x2 = 0 then
  ((qgi 0 0 t h1).bind fun x3 =>
   if (a2 >>> (x3 &&& 31)) = 0 then
   (if (0 : Int32) = 0 then
    (if (1 : Int32) = 0 ∨ (1 : Int32) = 1 then some (some (qI 1), h1) else none)
   else
    (if (0 : Int32) = 0 ∨ (0 : Int32) = 1 then some (some (qI 0), h1) else none))
  else
   (if (0 : Int32) = 0 ∨ (0 : Int32) = 1 then some (some (qI 0), h1) else none))
 else
  (if ((a2 >>> (a1 &&& 31)) &&& 1) = 0 then
   ((qgi 0 0 t h1).bind fun x4 =>
    if (a2 >>> (x4 &&& 31)) = 0 then
    (if (0 : Int32) = 0 then
     (if (1 : Int32) = 0 ∨ (1 : Int32) = 1 then some (some (qI 1), h1) else none)
    else
     (if (0 : Int32) = 0 ∨ (0 : Int32) = 1 then some (some (qI 0), h1) else none))
   else
    (if (0 : Int32) = 0 ∨ (0 : Int32) = 1 then some (some (qI 0), h1) else none))
  else
   ((qgi 0 0 t h1).bind fun x5 =>
    if (a2 >>> (x5 &&& 31)) = 0 then
    (if (1 : Int32) = 0 then
     (if (1 : Int32) = 0 ∨ (1 : Int32) = 1 then some (some (qI 1), h1) else none)
    else
     (if (0 : Int32) = 0 ∨ (0 : Int32) = 1 then some (some (qI 0), h1) else none))
   else
    (if (0 : Int32) = 0 ∨ (0 : Int32) = 1 then some (some (qI 0), h1) else none))) := by
  exact qE0 30 [] (by rfl)
set_option maxRecDepth 100000 in
set_option maxHeartbeats 1000000 in
theorem E67 (d : Nat) (t : Nat) (a1 : Int32) (a2 : Int32) (a3 : Int32) (h : QH) : qcl (d + 1) 67 [qR (some t), qI a1, qI a2, qI a3] h =
 (qck 0 t h).bind fun _ =>
 cI (qcl d 71 [qR (some t), qI a1, qI a2] h) fun x2 h1 =>
  (qgr 0 1 t h1).bind fun o3 =>
  o3.bind fun p4 => (qsi 0 p4 ((a2 * 5) + a1) a3 h1).bind fun h5 =>
  some (some (qI x2), h5) := by
  exact qE0 21 [] (by rfl)
set_option maxRecDepth 100000 in
set_option maxHeartbeats 1000000 in
theorem E68 (d : Nat) (t : Nat) (a1 : Int32) (a2 : Int32) (h : QH) : qcl (d + 1) 68 [qR (some t), qI a1, qI a2] h =
 (qck 0 t h).bind fun _ =>
 (qgi 0 0 t h).bind fun x1 =>
  (qgr 0 1 t h).bind fun o2 =>
  o2.bind fun p3 => (qsi 0 p3 (0 + x1) a1 h).bind fun h4 =>
  (qgr 0 1 t h4).bind fun o5 =>
  o5.bind fun p6 => (qsi 0 p6 (5 + x1) a2 h4).bind fun h7 =>
  (qgr 0 1 t h7).bind fun o8 =>
  o8.bind fun p9 => (qsi 0 p9 (10 + x1) 1 h7).bind fun h10 =>
  (qgr 0 1 t h10).bind fun o11 =>
  o11.bind fun p12 => (qsi 0 p12 (15 + x1) 0 h10).bind fun h13 =>
  (qgi 0 0 t h13).bind fun x14 =>
  (qpi 0 0 t (x14 + 1) h13).bind fun h15 =>
  some (some (qI x1), h15) := by
  exact qE0 44 [] (by rfl)
set_option maxRecDepth 100000 in
set_option maxHeartbeats 1000000 in
theorem E69 (d : Nat) (t : Nat) (a1 : Option Nat) (h : QH) : qcl (d + 1) 69 [qR (some t), qR a1] h =
 (qck 0 t h).bind fun _ =>
 a1.bind fun p1 => (qgi 0 0 p1 h).bind fun x2 =>
  (qpi 0 0 t x2 h).bind fun h3 =>
  a1.bind fun p4 => (qgr 0 1 p4 h3).bind fun o5 =>
  (qgr 0 1 t h3).bind fun o6 =>
  (qgr 0 1 t h3).bind fun o7 =>
  o7.bind fun p8 => (qal p8 h3).bind fun x9 =>
  o6.bind fun p11 => o5.bind fun p12 => (qcp p12 0 p11 0 x9 h3).bind fun h10 =>
  some (none, h10) := by
  exact qE0 20 [] (by rfl)
set_option maxRecDepth 100000 in
set_option maxHeartbeats 1000000 in
theorem E70 (d : Nat) (t : Nat) (a1 : Int32) (h : QH) : qcl (d + 1) 70 [qR (some t), qI a1] h =
 (qck 0 t h).bind fun _ =>
 qbig (d + 1) 70 2 [sR (some t), sI a1, sI 0, none] [] h := by
  exact qE0 38 [2] (by rfl)
set_option maxRecDepth 100000 in
set_option maxHeartbeats 1000000 in
theorem E70_2 (d : Nat) (t : Nat) (a1 : Int32) (a2 : Int32) (h : QH) : qbig (d + 1) 70 2 [sR (some t), sI a1, sI a2, none] [] h =
 (qgi 0 0 t h).bind fun x1 =>
  if a2 < x1 then
  (if ((a1 >>> (a2 &&& 31)) &&& 1) = 0 then
   (if (0 : Int32) = 0 then
    (cI (qcl d 71 [qR (some t), qI a2, qI 3] h) fun x3 h2 =>
     if (x3 &&& (a1 ^^^ (-1))) = 0 then
     (some (some (qI a2), h2))
    else
     (qbig (d + 1) 70 2 [sR (some t), sI a1, sI (a2 + 1), none] [] h2))
   else
    (qbig (d + 1) 70 2 [sR (some t), sI a1, sI (a2 + 1), none] [] h))
  else
   (if (1 : Int32) = 0 then
    (cI (qcl d 71 [qR (some t), qI a2, qI 3] h) fun x5 h4 =>
     if (x5 &&& (a1 ^^^ (-1))) = 0 then
     (some (some (qI a2), h4))
    else
     (qbig (d + 1) 70 2 [sR (some t), sI a1, sI (a2 + 1), none] [] h4))
   else
    (qbig (d + 1) 70 2 [sR (some t), sI a1, sI (a2 + 1), none] [] h)))
 else
  (some (some (qI (-1)), h)) := by
  exact qE 38 [2] (by rfl)
set_option maxRecDepth 100000 in
set_option maxHeartbeats 1000000 in
theorem E71 (d : Nat) (t : Nat) (a1 : Int32) (a2 : Int32) (h : QH) : qcl (d + 1) 71 [qR (some t), qI a1, qI a2] h =
 (qck 0 t h).bind fun _ =>
 (qgr 0 1 t h).bind fun o1 =>
  o1.bind fun p2 => (qai 0 p2 ((a2 * 5) + a1) h).bind fun x3 =>
  some (some (qI x3), h) := by
  exact qE0 14 [] (by rfl)
set_option maxRecDepth 100000 in
set_option maxHeartbeats 1000000 in
theorem E72 (d : Nat) (t : Nat) (a1 : Int32) (h : QH) : qcl (d + 1) 72 [qR (some t), qI a1] h =
 (qck 0 t h).bind fun _ =>
 if a1 < 0 then
  (if (0 : Int32) = 0 ∨ (0 : Int32) = 1 then some (some (qI 0), h) else none)
 else
  ((qgi 0 0 t h).bind fun x1 =>
   if a1 < x1 then
   (if (1 : Int32) = 0 ∨ (1 : Int32) = 1 then some (some (qI 1), h) else none)
  else
   (if (0 : Int32) = 0 ∨ (0 : Int32) = 1 then some (some (qI 0), h) else none)) := by
  exact qE0 15 [] (by rfl)
set_option maxRecDepth 100000 in
set_option maxHeartbeats 1000000 in
theorem E73 (d : Nat) (t : Nat) (a1 : Option Nat) (a2 : Option Nat) (a3 : Option Nat) (h : QH) : qcl (d + 1) 73 [qR (some t), qR a1, qR a2, qR a3] h =
 (qck 1 t h).bind fun _ =>
 (qpr 1 0 t a1 h).bind fun h1 =>
  (qpr 1 1 t a2 h1).bind fun h2 =>
  (qpr 1 2 t a3 h2).bind fun h3 =>
  some (none, h3) := by
  exact qE0 17 [] (by rfl)
set_option maxRecDepth 100000 in
set_option maxHeartbeats 1000000 in
theorem E74 (d : Nat) (t : Nat) (h : QH) : qcl (d + 1) 74 [qR (some t)] h =
 (qck 2 t h).bind fun _ =>
 (qpi 2 0 t 0 h).bind fun h1 =>
  (qpi 2 1 t 0 h1).bind fun h2 =>
  (qna 0 32 h2).bind fun h3 =>
  (qpr 2 2 t (some (hN h2)) h3).bind fun h4 =>
  (qna 0 8 h4).bind fun h5 =>
  (qpr 2 3 t (some (hN h4)) h5).bind fun h6 =>
  (qna 0 8 h6).bind fun h7 =>
  (qpr 2 4 t (some (hN h6)) h7).bind fun h8 =>
  (qna 0 40 h8).bind fun h9 =>
  (qpr 2 5 t (some (hN h8)) h9).bind fun h10 =>
  some (none, h10) := by
  exact qE0 30 [] (by rfl)
set_option maxRecDepth 100000 in
set_option maxHeartbeats 1000000 in
theorem E75 (d : Nat) (t : Nat) (a1 : Int32) (a2 : Int32) (h : QH) : qcl (d + 1) 75 [qR (some t), qI a1, qI a2] h =
 (qck 2 t h).bind fun _ =>
 cI (qcl d 88 [qR (some t), qI a1, qI 3] h) fun x2 h1 =>
  if ((x2 >>> (a2 &&& 31)) &&& 1) = 0 then
  (if (0 : Int32) = 0 ∨ (0 : Int32) = 1 then some (some (qI 0), h1) else none)
 else
  (if (1 : Int32) = 0 ∨ (1 : Int32) = 1 then some (some (qI 1), h1) else none) := by
  exact qE0 18 [] (by rfl)
set_option maxRecDepth 100000 in
set_option maxHeartbeats 1000000 in
theorem E76 (d : Nat) (t : Nat) (a1 : Int32) (a2 : Int32) (a3 : Int32) (h : QH) : qcl (d + 1) 76 [qR (some t), qI a1, qI a2, qI a3] h =
 (qck 2 t h).bind fun _ =>
 cI (qcl d 88 [qR (some t), qI a1, qI a2] h) fun x2 h1 =>
  (qgr 2 2 t h1).bind fun o3 =>
  o3.bind fun p4 => (qsi 0 p4 ((a2 * 8) + a1) a3 h1).bind fun h5 =>
  some (some (qI x2), h5) := by
  exact qE0 21 [] (by rfl)
set_option maxRecDepth 100000 in
set_option maxHeartbeats 1000000 in
theorem E77 (d : Nat) (t : Nat) (a1 : Int32) (a2 : Int32) (a3 : Int32) (h : QH) : qcl (d + 1) 77 [qR (some t), qI a1, qI a2, qI a3] h =
 (qck 2 t h).bind fun _ =>
 (qgi 2 0 t h).bind fun x1 =>
  (qgr 2 2 t h).bind fun o2 =>
  o2.bind fun p3 => (qsi 0 p3 (0 + x1) a1 h).bind fun h4 =>
  (qgr 2 2 t h4).bind fun o5 =>
  o5.bind fun p6 => (qsi 0 p6 (8 + x1) a2 h4).bind fun h7 =>
  (qgr 2 2 t h7).bind fun o8 =>
  o8.bind fun p9 => (qsi 0 p9 (16 + x1) a3 h7).bind fun h10 =>
  (qgr 2 2 t h10).bind fun o11 =>
  o11.bind fun p12 => (qsi 0 p12 (24 + x1) 0 h10).bind fun h13 =>
  (qgr 2 4 t h13).bind fun o14 =>
  o14.bind fun p15 => (qsi 0 p15 x1 (1 <<< (x1 &&& 31)) h13).bind fun h16 =>
  (qgr 2 3 t h16).bind fun o17 =>
  cI (qcl d 79 [qR (some t)] h16) fun x19 h18 =>
  o17.bind fun p20 => (qsi 0 p20 x1 x19 h18).bind fun h21 =>
  qbig (d + 1) 77 74 [sR (some t), none, none, none, sI x1, sI 0] [] h21 := by
  exact qE0 88 [74, 104] (by rfl)
set_option maxRecDepth 100000 in
set_option maxHeartbeats 1000000 in
theorem E77_74 (d : Nat) (t : Nat) (a4 : Int32) (a5 : Int32) (h : QH) : qbig (d + 1) 77 74 [sR (some t), none, none, none, sI a4, sI a5] [] h =
 if a5 < a4 then
  ((qgr 2 3 t h).bind fun o1 =>
   o1.bind fun p2 => (qai 0 p2 a5 h).bind fun x3 =>
   o1.bind fun p4 => (qsi 0 p4 a5 (x3 ||| (1 <<< (a4 &&& 31))) h).bind fun h5 =>
   qbig (d + 1) 77 74 [sR (some t), none, none, none, sI a4, sI (a5 + 1)] [] h5)
 else
  (qbig (d + 1) 77 104 [sR (some t), none, none, none, sI a4, sI 0] [] h) := by
  exact qE 88 [74, 104] (by rfl)
set_option maxRecDepth 100000 in
set_option maxHeartbeats 1000000 in
theorem E77_104 (d : Nat) (t : Nat) (a4 : Int32) (a5 : Int32) (h : QH) : qbig (d + 1) 77 104 [sR (some t), none, none, none, sI a4, sI a5] [] h =
 if a5 < 5 then
  ((qgr 2 5 t h).bind fun o1 =>
   cI (qcl d 18 [qI a4, qI a5] h) fun x3 h2 =>
   o1.bind fun p4 => (qsi 0 p4 x3 0 h2).bind fun h5 =>
   qbig (d + 1) 77 104 [sR (some t), none, none, none, sI a4, sI (a5 + 1)] [] h5)
 else
  ((qgi 2 0 t h).bind fun x6 =>
   (qpi 2 0 t (x6 + 1) h).bind fun h7 =>
   some (some (qI a4), h7)) := by
  exact qE 88 [74, 104] (by rfl)
set_option maxRecDepth 100000 in
set_option maxHeartbeats 1000000 in
theorem E78 (d : Nat) (t : Nat) (a1 : Option Nat) (h : QH) : qcl (d + 1) 78 [qR (some t), qR a1] h =
 (qck 2 t h).bind fun _ =>
 a1.bind fun p1 => (qgi 2 0 p1 h).bind fun x2 =>
  (qpi 2 0 t x2 h).bind fun h3 =>
  a1.bind fun p4 => (qgi 2 1 p4 h3).bind fun x5 =>
  (qpi 2 1 t x5 h3).bind fun h6 =>
  a1.bind fun p7 => (qgr 2 2 p7 h6).bind fun o8 =>
  (qgr 2 2 t h6).bind fun o9 =>
  (qgr 2 2 t h6).bind fun o10 =>
  o10.bind fun p11 => (qal p11 h6).bind fun x12 =>
  o9.bind fun p14 => o8.bind fun p15 => (qcp p15 0 p14 0 x12 h6).bind fun h13 =>
  a1.bind fun p16 => (qgr 2 3 p16 h13).bind fun o17 =>
  (qgr 2 3 t h13).bind fun o18 =>
  (qgr 2 3 t h13).bind fun o19 =>
  o19.bind fun p20 => (qal p20 h13).bind fun x21 =>
  o18.bind fun p23 => o17.bind fun p24 => (qcp p24 0 p23 0 x21 h13).bind fun h22 =>
  a1.bind fun p25 => (qgr 2 4 p25 h22).bind fun o26 =>
  (qgr 2 4 t h22).bind fun o27 =>
  (qgr 2 4 t h22).bind fun o28 =>
  o28.bind fun p29 => (qal p29 h22).bind fun x30 =>
  o27.bind fun p32 => o26.bind fun p33 => (qcp p33 0 p32 0 x30 h22).bind fun h31 =>
  a1.bind fun p34 => (qgr 2 5 p34 h31).bind fun o35 =>
  (qgr 2 5 t h31).bind fun o36 =>
  (qgr 2 5 t h31).bind fun o37 =>
  o37.bind fun p38 => (qal p38 h31).bind fun x39 =>
  o36.bind fun p41 => o35.bind fun p42 => (qcp p42 0 p41 0 x39 h31).bind fun h40 =>
  some (none, h40) := by
  exact qE0 54 [] (by rfl)
set_option maxRecDepth 100000 in
set_option maxHeartbeats 1000000 in
theorem E79 (d : Nat) (t : Nat) (h : QH) : qcl (d + 1) 79 [qR (some t)] h =
 (qck 2 t h).bind fun _ =>
 (qgi 2 0 t h).bind fun x1 =>
  some (some (qI ((1 <<< (x1 &&& 31)) - 1)), h) := by
  exact qE0 12 [] (by rfl)
set_option maxRecDepth 100000 in
set_option maxHeartbeats 1000000 in
theorem E80 (d : Nat) (t : Nat) (a1 : Int32) (h : QH) : qcl (d + 1) 80 [qR (some t), qI a1] h =
 (qck 2 t h).bind fun _ =>
 if a1 < 0 then
  (if (0 : Int32) = 0 ∨ (0 : Int32) = 1 then some (some (qI 0), h) else none)
 else
  ((qgi 2 0 t h).bind fun x1 =>
   if a1 < x1 then
   (if (1 : Int32) = 0 ∨ (1 : Int32) = 1 then some (some (qI 1), h) else none)
  else
   (if (0 : Int32) = 0 ∨ (0 : Int32) = 1 then some (some (qI 0), h) else none)) := by
  exact qE0 15 [] (by rfl)
set_option maxRecDepth 100000 in
set_option maxHeartbeats 1000000 in
theorem E81 (d : Nat) (t : Nat) (a1 : Int32) (h : QH) : qcl (d + 1) 81 [qR (some t), qI a1] h =
 (qck 2 t h).bind fun _ =>
 qbig (d + 1) 81 4 [sR (some t), sI a1, sI 0, sI 0] [] h := by
  exact qE0 28 [4] (by rfl)
set_option maxRecDepth 100000 in
set_option maxHeartbeats 1000000 in
theorem E81_4 (d : Nat) (t : Nat) (a1 : Int32) (a2 : Int32) (a3 : Int32) (h : QH) : qbig (d + 1) 81 4 [sR (some t), sI a1, sI a2, sI a3] [] h =
 (qgi 2 0 t h).bind fun x1 =>
  if a3 < x1 then
  (cI (qcl d 82 [qR (some t), qI a3, qI a1] h) fun x3 h2 =>
   if 0 < x3 then
   (qbig (d + 1) 81 4 [sR (some t), sI a1, sI (a2 ||| (1 <<< (a3 &&& 31))), sI (a3 + 1)] [] h2)
  else
   (qbig (d + 1) 81 4 [sR (some t), sI a1, sI a2, sI (a3 + 1)] [] h2))
 else
  (some (some (qI a2), h)) := by
  exact qE 28 [4] (by rfl)
set_option maxRecDepth 100000 in
set_option maxHeartbeats 1000000 in
theorem E82 (d : Nat) (t : Nat) (a1 : Int32) (a2 : Int32) (h : QH) : qcl (d + 1) 82 [qR (some t), qI a1, qI a2] h =
 (qck 2 t h).bind fun _ =>
 (qgr 2 5 t h).bind fun o1 =>
  cI (qcl d 18 [qI a1, qI a2] h) fun x3 h2 =>
  o1.bind fun p4 => (qai 0 p4 x3 h2).bind fun x5 =>
  some (some (qI x5), h2) := by
  exact qE0 12 [] (by rfl)
set_option maxRecDepth 100000 in
set_option maxHeartbeats 1000000 in
theorem E83 (d : Nat) (t : Nat) (a1 : Int32) (a2 : Int32) (h : QH) : qcl (d + 1) 83 [qR (some t), qI a1, qI a2] h =
 (qck 2 t h).bind fun _ =>
 (qgr 2 3 t h).bind fun o1 =>
  o1.bind fun p2 => (qai 0 p2 a1 h).bind fun x3 =>
  if ((x3 >>> (a2 &&& 31)) &&& 1) = 0 then
  (if (0 : Int32) = 0 ∨ (0 : Int32) = 1 then some (some (qI 0), h) else none)
 else
  (if (1 : Int32) = 0 ∨ (1 : Int32) = 1 then some (some (qI 1), h) else none) := by
  exact qE0 18 [] (by rfl)
set_option maxRecDepth 100000 in
set_option maxHeartbeats 1000000 in
theorem E84 (d : Nat) (t : Nat) (a1 : Int32) (h : QH) : qcl (d + 1) 84 [qR (some t), qI a1] h =
 (qck 2 t h).bind fun _ =>
 (qgi 2 0 t h).bind fun x1 =>
  if (a1 + 1) < x1 then
  (some (some (qI (a1 + 1)), h))
 else
  (some (some (qI 0), h)) := by
  exact qE0 17 [] (by rfl)
set_option maxRecDepth 100000 in
set_option maxHeartbeats 1000000 in
theorem E85 (d : Nat) (t : Nat) (a1 : Int32) (a2 : Int32) (a3 : Int32) (h : QH) : qcl (d + 1) 85 [qR (some t), qI a1, qI a2, qI a3] h =
 (qck 2 t h).bind fun _ =>
 cI (qcl d 82 [qR (some t), qI a1, qI a2] h) fun x2 h1 =>
  (qgr 2 5 t h1).bind fun o3 =>
  cI (qcl d 18 [qI a1, qI a2] h1) fun x5 h4 =>
  o3.bind fun p6 => (qsi 0 p6 x5 a3 h4).bind fun h7 =>
  some (some (qI x2), h7) := by
  exact qE0 19 [] (by rfl)
set_option maxRecDepth 100000 in
set_option maxHeartbeats 1000000 in
theorem E86 (d : Nat) (t : Nat) (a1 : Int32) (a2 : Int32) (a3 : Int32) (h : QH) : qcl (d + 1) 86 [qR (some t), qI a1, qI a2, qI a3] h =
 (qck 2 t h).bind fun _ =>
 (qgr 2 3 t h).bind fun o1 =>
  o1.bind fun p2 => (qai 0 p2 a1 h).bind fun x3 =>
  (qgr 2 3 t h).bind fun o4 =>
  (qgr 2 3 t h).bind fun o5 =>
  o5.bind fun p6 => (qai 0 p6 a1 h).bind fun x7 =>
  o4.bind fun p8 => (qsi 0 p8 a1 ((x7 &&& ((1 <<< (a2 &&& 31)) ^^^ (-1))) ||| (a3 <<< (a2 &&& 31))) h).bind fun h9 =>
  (qgr 2 3 t h9).bind fun o10 =>
  (qgr 2 3 t h9).bind fun o11 =>
  o11.bind fun p12 => (qai 0 p12 a2 h9).bind fun x13 =>
  o10.bind fun p14 => (qsi 0 p14 a2 ((x13 &&& ((1 <<< (a1 &&& 31)) ^^^ (-1))) ||| (a3 <<< (a1 &&& 31))) h9).bind fun h15 =>
  some (some (qI ((x3 >>> (a2 &&& 31)) &&& 1)), h15) := by
  exact qE0 52 [] (by rfl)
set_option maxRecDepth 100000 in
set_option maxHeartbeats 1000000 in
theorem E87 (d : Nat) (t : Nat) (a1 : Int32) (a2 : Int32) (h : QH) : qcl (d + 1) 87 [qR (some t), qI a1, qI a2] h =
 (qck 2 t h).bind fun _ =>
 (qgr 2 4 t h).bind fun o1 =>
  o1.bind fun p2 => (qai 0 p2 a1 h).bind fun x3 =>
  (qgr 2 4 t h).bind fun o4 =>
  o4.bind fun p5 => (qai 0 p5 a2 h).bind fun x6 =>
  (qgr 2 4 t h).bind fun o7 =>
  o7.bind fun p8 => (qsi 0 p8 a1 (x3 ||| x6) h).bind fun h9 =>
  (qgr 2 4 t h9).bind fun o10 =>
  o10.bind fun p11 => (qsi 0 p11 a2 (x3 ||| x6) h9).bind fun h12 =>
  (qgi 2 1 t h12).bind fun x13 =>
  (qpi 2 1 t (x13 + 1) h12).bind fun h14 =>
  qbig (d + 1) 87 44 [sR (some t), none, none, none, sI 0, sI 0] [] h14 := by
  exact qE0 51 [44] (by rfl)
set_option maxRecDepth 100000 in
set_option maxHeartbeats 1000000 in
theorem E87_44 (d : Nat) (t : Nat) (a4 : Int32) (a5 : Int32) (h : QH) : qbig (d + 1) 87 44 [sR (some t), none, none, none, sI a4, sI a5] [] h =
 (qgi 2 0 t h).bind fun x1 =>
  if a5 < x1 then
  ((qgr 2 4 t h).bind fun o2 =>
   o2.bind fun p3 => (qai 0 p3 a5 h).bind fun x4 =>
   cI (qcl d 79 [qR (some t)] h) fun x6 h5 =>
   if x4 = x6 then
   (qbig (d + 1) 87 44 [sR (some t), none, none, none, sI (a4 + 1), sI (a5 + 1)] [] h5)
  else
   (qbig (d + 1) 87 44 [sR (some t), none, none, none, sI a4, sI (a5 + 1)] [] h5))
 else
  (some (some (qI a4), h)) := by
  exact qE 51 [44] (by rfl)
set_option maxRecDepth 100000 in
set_option maxHeartbeats 1000000 in
theorem E88 (d : Nat) (t : Nat) (a1 : Int32) (a2 : Int32) (h : QH) : qcl (d + 1) 88 [qR (some t), qI a1, qI a2] h =
 (qck 2 t h).bind fun _ =>
 (qgr 2 2 t h).bind fun o1 =>
  o1.bind fun p2 => (qai 0 p2 ((a2 * 8) + a1) h).bind fun x3 =>
  some (some (qI x3), h) := by
  exact qE0 14 [] (by rfl)
set_option maxRecDepth 100000 in
set_option maxHeartbeats 1000000 in
theorem E89 (d : Nat) (t : Nat) (h : QH) : qcl (d + 1) 89 [qR (some t)] h =
 (qck 3 t h).bind fun _ =>
 (qna 0 1240 h).bind fun h1 =>
  (qpr 3 0 t (some (hN h)) h1).bind fun h2 =>
  (qna 0 1240 h2).bind fun h3 =>
  (qpr 3 1 t (some (hN h2)) h3).bind fun h4 =>
  (qna 0 240 h4).bind fun h5 =>
  (qpr 3 2 t (some (hN h4)) h5).bind fun h6 =>
  (qna 0 60 h6).bind fun h7 =>
  (qpr 3 3 t (some (hN h6)) h7).bind fun h8 =>
  (qpi 3 4 t (-1) h8).bind fun h9 =>
  some (none, h9) := by
  exact qE0 27 [] (by rfl)
set_option maxRecDepth 100000 in
set_option maxHeartbeats 1000000 in
theorem E90 (d : Nat) (t : Nat) (a1 : Option Nat) (a2 : Int32) (h : QH) : qcl (d + 1) 90 [qR (some t), qR a1, qI a2] h =
 (qck 3 t h).bind fun _ =>
 qbig (d + 1) 90 2 [sR (some t), sR a1, sI a2, sI 0, none, none] [] h := by
  exact qE0 47 [2, 16] (by rfl)
set_option maxRecDepth 100000 in
set_option maxHeartbeats 1000000 in
theorem E90_2 (d : Nat) (t : Nat) (a1 : Option Nat) (a2 : Int32) (a3 : Int32) (h : QH) : qbig (d + 1) 90 2 [sR (some t), sR a1, sI a2, sI a3, none, none] [] h =
 a1.bind fun p1 => (qgr 10 0 p1 h).bind fun o2 =>
  o2.bind fun p3 => (qgi 2 0 p3 h).bind fun x4 =>
  if a3 < x4 then
  (qbig (d + 1) 90 16 [sR (some t), sR a1, sI a2, sI a3, sI 0, none] [] h)
 else
  (if (1 : Int32) = 0 ∨ (1 : Int32) = 1 then some (some (qI 1), h) else none) := by
  exact qE 47 [2, 16] (by rfl)
set_option maxRecDepth 100000 in
set_option maxHeartbeats 1000000 in
theorem E90_16 (d : Nat) (t : Nat) (a1 : Option Nat) (a2 : Int32) (a3 : Int32) (a4 : Int32) (h : QH) : qbig (d + 1) 90 16 [sR (some t), sR a1, sI a2, sI a3, sI a4, none] [] h =
 a1.bind fun p1 => (qgr 10 1 p1 h).bind fun o2 =>
  o2.bind fun p3 => (qgi 0 0 p3 h).bind fun x4 =>
  if a4 < x4 then
  ((qgr 3 0 t h).bind fun o5 =>
   cI (qcl d 18 [qI a3, qI a4] h) fun x7 h6 =>
   o5.bind fun p8 => (qai 0 p8 (((a2 + 1) * 40) + x7) h6).bind fun x9 =>
   a1.bind fun p10 => (qgr 10 1 p10 h6).bind fun o11 =>
   cI (qcl d 71 [qR o11, qI a4, qI 2] h6) fun x13 h12 =>
   if x9 < x13 then
   (if (0 : Int32) = 0 ∨ (0 : Int32) = 1 then some (some (qI 0), h12) else none)
  else
   (qbig (d + 1) 90 16 [sR (some t), sR a1, sI a2, sI a3, sI (a4 + 1), none] [] h12))
 else
  (qbig (d + 1) 90 2 [sR (some t), sR a1, sI a2, sI (a3 + 1), none, none] [] h) := by
  exact qE 47 [2, 16] (by rfl)
set_option maxRecDepth 100000 in
set_option maxHeartbeats 1000000 in
theorem E91 (d : Nat) (t : Nat) (h : QH) : qcl (d + 1) 91 [qR (some t)] h =
 (qck 3 t h).bind fun _ =>
 qbig (d + 1) 91 4 [sR (some t), sI 0, sI 0] [] h := by
  exact qE0 25 [4] (by rfl)
set_option maxRecDepth 100000 in
set_option maxHeartbeats 1000000 in
theorem E91_4 (d : Nat) (t : Nat) (a1 : Int32) (a2 : Int32) (h : QH) : qbig (d + 1) 91 4 [sR (some t), sI a1, sI a2] [] h =
 (qgr 3 2 t h).bind fun o1 =>
  o1.bind fun p2 => (qal p2 h).bind fun x3 =>
  if a2 < x3 then
  ((qgr 3 2 t h).bind fun o4 =>
   o4.bind fun p5 => (qai 0 p5 a2 h).bind fun x6 =>
   qbig (d + 1) 91 4 [sR (some t), sI (a1 + x6), sI (a2 + 1)] [] h)
 else
  (some (some (qI a1), h)) := by
  exact qE 25 [4] (by rfl)
set_option maxRecDepth 100000 in
set_option maxHeartbeats 1000000 in
theorem E92 (d : Nat) (t : Nat) (a1 : Option Nat) (a2 : Option Nat) (a3 : Int32) (a4 : Int32) (h : QH) : qcl (d + 1) 92 [qR (some t), qR a1, qR a2, qI a3, qI a4] h =
 (qck 3 t h).bind fun _ =>
 a1.bind fun p1 => (qgr 10 2 p1 h).bind fun o2 =>
  o2.bind fun p3 => (qgr 5 1 p3 h).bind fun o4 =>
  o4.bind fun p5 => (qai 0 p5 a3 h).bind fun x6 =>
  a1.bind fun p7 => (qgr 10 2 p7 h).bind fun o8 =>
  o8.bind fun p9 => (qgr 5 3 p9 h).bind fun o10 =>
  o10.bind fun p11 => (qai 0 p11 a3 h).bind fun x12 =>
  a1.bind fun p13 => (qgr 10 2 p13 h).bind fun o14 =>
  o14.bind fun p15 => (qgr 5 2 p15 h).bind fun o16 =>
  o16.bind fun p17 => (qai 0 p17 a3 h).bind fun x18 =>
  a1.bind fun p19 => (qgr 10 0 p19 h).bind fun o20 =>
  (qgr 3 0 t h).bind fun o21 =>
  cI (qcl d 18 [qI x18, qI x12] h) fun x23 h22 =>
  o21.bind fun p24 => (qai 0 p24 ((x6 * 40) + x23) h22).bind fun x25 =>
  (qgr 3 0 t h22).bind fun o26 =>
  cI (qcl d 18 [qI a4, qI x12] h22) fun x28 h27 =>
  o26.bind fun p29 => (qai 0 p29 ((x6 * 40) + x28) h27).bind fun x30 =>
  cV (qcl d 149 [qR a2, qR o20, qI x18, qI x25, qI a4, qI x30] h27) fun h31 =>
  some (none, h31) := by
  exact qE0 48 [] (by rfl)
set_option maxRecDepth 100000 in
set_option maxHeartbeats 1000000 in
theorem E93 (d : Nat) (t : Nat) (a1 : Int32) (h : QH) : qcl (d + 1) 93 [qR (some t), qI a1] h =
 (qck 3 t h).bind fun _ =>
 qbig (d + 1) 93 2 [sR (some t), sI a1, sI 0] [] h := by
  exact qE0 21 [2] (by rfl)
set_option maxRecDepth 100000 in
set_option maxHeartbeats 1000000 in
theorem E93_2 (d : Nat) (t : Nat) (a1 : Int32) (a2 : Int32) (h : QH) : qbig (d + 1) 93 2 [sR (some t), sI a1, sI a2] [] h =
 if a2 < a1 then
  ((qgr 3 3 t h).bind fun o1 =>
   o1.bind fun p2 => (qai 0 p2 a2 h).bind fun x3 =>
   if x3 = 0 then
   (qbig (d + 1) 93 2 [sR (some t), sI a1, sI (a2 + 1)] [] h)
  else
   (some (some (qI a2), h)))
 else
  (some (some (qI (-1)), h)) := by
  exact qE 21 [2] (by rfl)
set_option maxRecDepth 100000 in
set_option maxHeartbeats 1000000 in
theorem E94 (d : Nat) (t : Nat) (a1 : Int32) (h : QH) : qcl (d + 1) 94 [qR (some t), qI a1] h =
 (qck 3 t h).bind fun _ =>
 qbig (d + 1) 94 4 [sR (some t), sI a1, sI 0, sI 0] [] h := by
  exact qE0 22 [4] (by rfl)
set_option maxRecDepth 100000 in
set_option maxHeartbeats 1000000 in
theorem E94_4 (d : Nat) (t : Nat) (a1 : Int32) (a2 : Int32) (a3 : Int32) (h : QH) : qbig (d + 1) 94 4 [sR (some t), sI a1, sI a2, sI a3] [] h =
 if a3 < a1 then
  ((qgr 3 3 t h).bind fun o1 =>
   o1.bind fun p2 => (qai 0 p2 a3 h).bind fun x3 =>
   if x3 = 0 then
   (qbig (d + 1) 94 4 [sR (some t), sI a1, sI a2, sI (a3 + 1)] [] h)
  else
   (qbig (d + 1) 94 4 [sR (some t), sI a1, sI (a2 + 1), sI (a3 + 1)] [] h))
 else
  (some (some (qI a2), h)) := by
  exact qE 22 [4] (by rfl)
set_option maxRecDepth 100000 in
set_option maxHeartbeats 1000000 in
theorem E95 (d : Nat) (t : Nat) (a1 : Option Nat) (h : QH) : qcl (d + 1) 95 [qR (some t), qR a1] h =
 (qck 3 t h).bind fun _ =>
 qbig (d + 1) 95 2 [sR (some t), sR a1, sI 0] [] h := by
  exact qE0 21 [2] (by rfl)
set_option maxRecDepth 100000 in
set_option maxHeartbeats 1000000 in
theorem E95_2 (d : Nat) (t : Nat) (a1 : Option Nat) (a2 : Int32) (h : QH) : qbig (d + 1) 95 2 [sR (some t), sR a1, sI a2] [] h =
 if a2 < 30 then
  (cI (qcl d 90 [qR (some t), qR a1, qI a2] h) fun x2 h1 =>
   if x2 = 0 then
   (qbig (d + 1) 95 2 [sR (some t), sR a1, sI (a2 + 1)] [] h1)
  else
   (some (some (qI a2), h1)))
 else
  (some (some (qI (-1)), h)) := by
  exact qE 21 [2] (by rfl)
set_option maxRecDepth 100000 in
set_option maxHeartbeats 1000000 in
theorem E96 (d : Nat) (t : Nat) (a1 : Option Nat) (a2 : Option Nat) (a3 : Int32) (h : QH) : qcl (d + 1) 96 [qR (some t), qR a1, qR a2, qI a3] h =
 (qck 3 t h).bind fun _ =>
 (qgi 3 4 t h).bind fun x1 =>
  if x1 = a3 then
  (some (none, h))
 else
  ((qpi 3 4 t a3 h).bind fun h2 =>
   (qgr 3 2 t h2).bind fun o3 =>
   cV (qcl d 8 [qR o3, qI 0] h2) fun h4 =>
   a1.bind fun p5 => (qgr 10 0 p5 h4).bind fun o6 =>
   o6.bind fun p7 => (qgr 2 5 p7 h4).bind fun o8 =>
   (qgr 3 0 t h4).bind fun o9 =>
   o9.bind fun p11 => o8.bind fun p12 => (qcp p12 0 p11 0 40 h4).bind fun h10 =>
   qbig (d + 1) 96 43 [sR (some t), sR a1, sR a2, none, sI 0, none] [] h10) := by
  exact qE0 83 [43, 103] (by rfl)
set_option maxRecDepth 100000 in
set_option maxHeartbeats 1000000 in
theorem E96_43 (d : Nat) (t : Nat) (a1 : Option Nat) (a2 : Option Nat) (a4 : Int32) (h : QH) : qbig (d + 1) 96 43 [sR (some t), sR a1, sR a2, none, sI a4, none] [] h =
 if a4 < 30 then
  ((qgr 3 0 t h).bind fun o1 =>
   (qgr 3 0 t h).bind fun o2 =>
   o2.bind fun p4 => o1.bind fun p5 => (qcp p5 (a4 * 40) p4 ((a4 + 1) * 40) 40 h).bind fun h3 =>
   (qgr 3 1 t h3).bind fun o6 =>
   (qgr 3 1 t h3).bind fun o7 =>
   o7.bind fun p9 => o6.bind fun p10 => (qcp p10 (a4 * 40) p9 ((a4 + 1) * 40) 40 h3).bind fun h8 =>
   qbig (d + 1) 96 103 [sR (some t), sR a1, sR a2, none, sI a4, sI 0] [] h8)
 else
  (some (none, h)) := by
  exact qE 83 [43, 103] (by rfl)
set_option maxRecDepth 100000 in
set_option maxHeartbeats 1000000 in
theorem E96_103 (d : Nat) (t : Nat) (a1 : Option Nat) (a2 : Option Nat) (a4 : Int32) (a5 : Int32) (h : QH) : qbig (d + 1) 96 103 [sR (some t), sR a1, sR a2, none, sI a4, sI a5] [] h =
 a1.bind fun p1 => (qgr 10 2 p1 h).bind fun o2 =>
  o2.bind fun p3 => (qgi 5 0 p3 h).bind fun x4 =>
  if a5 < x4 then
  (a1.bind fun p5 => (qgr 10 2 p5 h).bind fun o6 =>
   o6.bind fun p7 => (qgr 5 1 p7 h).bind fun o8 =>
   o8.bind fun p9 => (qai 0 p9 a5 h).bind fun x10 =>
   if x10 = a4 then
   (cV (qcl d 97 [qR (some t), qR a1, qR a2, qI a5] h) fun h11 =>
    qbig (d + 1) 96 103 [sR (some t), sR a1, sR a2, none, sI a4, sI (a5 + 1)] [] h11)
  else
   (qbig (d + 1) 96 103 [sR (some t), sR a1, sR a2, none, sI a4, sI (a5 + 1)] [] h))
 else
  (qbig (d + 1) 96 43 [sR (some t), sR a1, sR a2, none, sI (a4 + 1), none] [] h) := by
  exact qE 83 [43, 103] (by rfl)
set_option maxRecDepth 100000 in
set_option maxHeartbeats 1000000 in
theorem E97 (d : Nat) (t : Nat) (a1 : Option Nat) (a2 : Option Nat) (a3 : Int32) (h : QH) : qcl (d + 1) 97 [qR (some t), qR a1, qR a2, qI a3] h =
 (qck 3 t h).bind fun _ =>
 a1.bind fun p1 => (qgr 10 2 p1 h).bind fun o2 =>
  o2.bind fun p3 => (qgr 5 3 p3 h).bind fun o4 =>
  o4.bind fun p5 => (qai 0 p5 a3 h).bind fun x6 =>
  o2.bind fun p7 => (qgr 5 4 p7 h).bind fun o8 =>
  o8.bind fun p9 => (qai 0 p9 a3 h).bind fun x10 =>
  a1.bind fun p11 => (qgr 10 1 p11 h).bind fun o12 =>
  cI (qcl d 71 [qR o12, qI x6, qI 0] h) fun x14 h13 =>
  qbig (d + 1) 97 36 [sR (some t), sR a1, sR a2, sI a3, sR o2, sI x6, sI x10, sI x14] [] h13 := by
  exact qE0 86 [36] (by rfl)
set_option maxRecDepth 100000 in
set_option maxHeartbeats 1000000 in
theorem E97_36 (d : Nat) (t : Nat) (a1 : Option Nat) (a2 : Option Nat) (a3 : Int32) (a4 : Option Nat) (a5 : Int32) (a6 : Int32) (a7 : Int32) (h : QH) : qbig (d + 1) 97 36 [sR (some t), sR a1, sR a2, sI a3, sR a4, sI a5, sI a6, sI a7] [] h =
 a1.bind fun p1 => (qgr 10 1 p1 h).bind fun o2 =>
  a4.bind fun p3 => (qgr 5 1 p3 h).bind fun o4 =>
  o4.bind fun p5 => (qai 0 p5 a3 h).bind fun x6 =>
  cI (qcl d 1 [qI a6] h) fun x8 h7 =>
  cV (qcl d 148 [qR a2, qR o2, qI a5, qI x6, qI x8] h7) fun h9 =>
  if a6 = 0 then
  ((qgr 3 3 t h9).bind fun o10 =>
   cI (qcl d 103 [qR (some t), qR a1, qI a3, qI a7] h9) fun x12 h11 =>
   o10.bind fun p13 => (qsi 0 p13 a3 x12 h11).bind fun h14 =>
   (qgr 3 3 t h14).bind fun o15 =>
   o15.bind fun p16 => (qai 0 p16 a3 h14).bind fun x17 =>
   if x17 = 0 then
   ((qgr 3 3 t h14).bind fun o18 =>
    cI (qcl d 102 [qR (some t), qR a1, qR a2, qI a3, qI a7] h14) fun x20 h19 =>
    o18.bind fun p21 => (qsi 0 p21 a3 x20 h19).bind fun h22 =>
    (qgr 3 3 t h22).bind fun o23 =>
    o23.bind fun p24 => (qai 0 p24 a3 h22).bind fun x25 =>
    if x25 = 0 then
    (cV (qcl d 98 [qR (some t), qR a1, qR a2, qI a3, qI a7] h22) fun h26 =>
     some (none, h26))
   else
    (some (none, h22)))
  else
   ((qgr 3 3 t h14).bind fun o27 =>
    o27.bind fun p28 => (qai 0 p28 a3 h14).bind fun x29 =>
    if x29 = 0 then
    (cV (qcl d 98 [qR (some t), qR a1, qR a2, qI a3, qI a7] h14) fun h30 =>
     some (none, h30))
   else
    (some (none, h14))))
 else
  (cI (qcl d 2 [qI a6] h9) fun x32 h31 =>
   cV (qcl d 92 [qR (some t), qR a1, qR a2, qI a3, qI x32] h31) fun h33 =>
   cR (qcl d 163 [qR a1] h33) fun o35 h34 =>
   cI (qcl d 152 [qR a2, qR o35, qI 1] h34) fun x37 h36 =>
   (qgr 3 3 t h36).bind fun o38 =>
   cI (qcl d 103 [qR (some t), qR a1, qI a3, qI x37] h36) fun x40 h39 =>
   o38.bind fun p41 => (qsi 0 p41 a3 x40 h39).bind fun h42 =>
   (qgr 3 3 t h42).bind fun o43 =>
   o43.bind fun p44 => (qai 0 p44 a3 h42).bind fun x45 =>
   if x45 = 0 then
   ((qgr 3 3 t h42).bind fun o46 =>
    cI (qcl d 102 [qR (some t), qR a1, qR a2, qI a3, qI x37] h42) fun x48 h47 =>
    o46.bind fun p49 => (qsi 0 p49 a3 x48 h47).bind fun h50 =>
    (qgr 3 3 t h50).bind fun o51 =>
    o51.bind fun p52 => (qai 0 p52 a3 h50).bind fun x53 =>
    if x53 = 0 then
    (cV (qcl d 98 [qR (some t), qR a1, qR a2, qI a3, qI x37] h50) fun h54 =>
     some (none, h54))
   else
    (some (none, h50)))
  else
   ((qgr 3 3 t h42).bind fun o55 =>
    o55.bind fun p56 => (qai 0 p56 a3 h42).bind fun x57 =>
    if x57 = 0 then
    (cV (qcl d 98 [qR (some t), qR a1, qR a2, qI a3, qI x37] h42) fun h58 =>
     some (none, h58))
   else
    (some (none, h42)))) := by
  exact qE 86 [36] (by rfl)
set_option maxRecDepth 100000 in
set_option maxHeartbeats 1000000 in
theorem E98 (d : Nat) (t : Nat) (a1 : Option Nat) (a2 : Option Nat) (a3 : Int32) (a4 : Int32) (h : QH) : qcl (d + 1) 98 [qR (some t), qR a1, qR a2, qI a3, qI a4] h =
 (qck 3 t h).bind fun _ =>
 a1.bind fun p1 => (qgr 10 2 p1 h).bind fun o2 =>
  o2.bind fun p3 => (qgr 5 1 p3 h).bind fun o4 =>
  o4.bind fun p5 => (qai 0 p5 a3 h).bind fun x6 =>
  o2.bind fun p7 => (qgr 5 3 p7 h).bind fun o8 =>
  o8.bind fun p9 => (qai 0 p9 a3 h).bind fun x10 =>
  o2.bind fun p11 => (qgr 5 2 p11 h).bind fun o12 =>
  o12.bind fun p13 => (qai 0 p13 a3 h).bind fun x14 =>
  qbig (d + 1) 98 33 [sR (some t), sR a1, sR a2, sI a3, sI a4, sR o2, sI x6, sI x10, sI x14, none, none, none, none] [] h := by
  exact qE0 120 [33, 82] (by rfl)
set_option maxRecDepth 100000 in
set_option maxHeartbeats 1000000 in
theorem E98_33 (d : Nat) (t : Nat) (a1 : Option Nat) (a2 : Option Nat) (a3 : Int32) (a4 : Int32) (a5 : Option Nat) (a6 : Int32) (a7 : Int32) (a8 : Int32) (h : QH) : qbig (d + 1) 98 33 [sR (some t), sR a1, sR a2, sI a3, sI a4, sR a5, sI a6, sI a7, sI a8, none, none, none, none] [] h =
 a5.bind fun p1 => (qgr 5 5 p1 h).bind fun o2 =>
  o2.bind fun p3 => (qai 0 p3 a3 h).bind fun x4 =>
  (qgr 3 1 t h).bind fun o5 =>
  cI (qcl d 18 [qI a8, qI a7] h) fun x7 h6 =>
  o5.bind fun p8 => (qai 0 p8 ((a6 * 40) + x7) h6).bind fun x9 =>
  (qgr 3 2 t h6).bind fun o10 =>
  o10.bind fun p11 => (qai 0 p11 ((a6 * 8) + a8) h6).bind fun x12 =>
  o10.bind fun p13 => (qsi 0 p13 ((a6 * 8) + a8) (x12 + a4) h6).bind fun h14 =>
  qbig (d + 1) 98 82 [sR (some t), sR a1, sR a2, sI a3, sI a4, sR a5, sI a6, sI a7, none, sI (x4 ||| x9), sI 0, none, none] [] h14 := by
  exact qE 120 [33, 82] (by rfl)
set_option maxRecDepth 100000 in
set_option maxHeartbeats 1000000 in
theorem E98_82 (d : Nat) (t : Nat) (a1 : Option Nat) (a2 : Option Nat) (a3 : Int32) (a4 : Int32) (a5 : Option Nat) (a6 : Int32) (a7 : Int32) (a9 : Int32) (a10 : Int32) (h : QH) : qbig (d + 1) 98 82 [sR (some t), sR a1, sR a2, sI a3, sI a4, sR a5, sI a6, sI a7, none, sI a9, sI a10, none, none] [] h =
 a1.bind fun p1 => (qgr 10 0 p1 h).bind fun o2 =>
  o2.bind fun p3 => (qgi 2 0 p3 h).bind fun x4 =>
  if a10 < x4 then
  (a5.bind fun p5 => (qgr 5 4 p5 h).bind fun o6 =>
   o6.bind fun p7 => (qai 0 p7 a3 h).bind fun x8 =>
   if ((x8 >>> (a10 &&& 31)) &&& 1) = 0 then
   (qbig (d + 1) 98 82 [sR (some t), sR a1, sR a2, sI a3, sI a4, sR a5, sI a6, sI a7, none, sI a9, sI (a10 + 1), none, none] [] h)
  else
   ((qgr 3 2 t h).bind fun o9 =>
    o9.bind fun p10 => (qai 0 p10 ((a6 * 8) + a10) h).bind fun x11 =>
    o9.bind fun p12 => (qsi 0 p12 ((a6 * 8) + a10) (x11 + a4) h).bind fun h13 =>
    cV (qcl d 92 [qR (some t), qR a1, qR a2, qI a3, qI a10] h13) fun h14 =>
    cR (qcl d 163 [qR a1] h14) fun o16 h15 =>
    cI (qcl d 152 [qR a2, qR o16, qI 0] h15) fun x18 h17 =>
    cI (qcl d 18 [qI a10, qI a7] h17) fun x20 h19 =>
    (qgr 3 0 t h19).bind fun o21 =>
    o21.bind fun p22 => (qai 0 p22 (((a6 + 1) * 40) + x20) h19).bind fun x23 =>
    if x23 < x18 then
    ((qgr 3 0 t h19).bind fun o24 =>
     o24.bind fun p25 => (qsi 0 p25 (((a6 + 1) * 40) + x20) x18 h19).bind fun h26 =>
     (qgr 3 1 t h26).bind fun o27 =>
     o27.bind fun p28 => (qsi 0 p28 (((a6 + 1) * 40) + x20) a9 h26).bind fun h29 =>
     qbig (d + 1) 98 82 [sR (some t), sR a1, sR a2, sI a3, sI a4, sR a5, sI a6, sI a7, none, sI a9, sI (a10 + 1), none, none] [] h29)
   else
    (qbig (d + 1) 98 82 [sR (some t), sR a1, sR a2, sI a3, sI a4, sR a5, sI a6, sI a7, none, sI a9, sI (a10 + 1), none, none] [] h19)))
 else
  (some (none, h)) := by
  exact qE 120 [33, 82] (by rfl)
set_option maxRecDepth 100000 in
set_option maxHeartbeats 1000000 in
theorem E99 (d : Nat) (t : Nat) (a1 : Option Nat) (a2 : Int32) (a3 : Int32) (a4 : Int32) (h : QH) : qcl (d + 1) 99 [qR (some t), qR a1, qI a2, qI a3, qI a4] h =
 (qck 3 t h).bind fun _ =>
 cI (qcl d 71 [qR a1, qI a2, qI 3] h) fun x2 h1 =>
  qbig (d + 1) 99 11 [sR (some t), sR a1, none, sI a3, sI a4, sI x2, sI 0] [] h1 := by
  exact qE0 43 [11] (by rfl)
set_option maxRecDepth 100000 in
set_option maxHeartbeats 1000000 in
theorem E99_11 (d : Nat) (t : Nat) (a1 : Option Nat) (a3 : Int32) (a4 : Int32) (a5 : Int32) (a6 : Int32) (h : QH) : qbig (d + 1) 99 11 [sR (some t), sR a1, none, sI a3, sI a4, sI a5, sI a6] [] h =
 a1.bind fun p1 => (qgi 0 0 p1 h).bind fun x2 =>
  if a6 < x2 then
  (if ((a5 >>> (a6 &&& 31)) &&& 1) = 0 then
   (qbig (d + 1) 99 11 [sR (some t), sR a1, none, sI a3, sI a4, sI a5, sI (a6 + 1)] [] h)
  else
   ((qgr 3 0 t h).bind fun o3 =>
    cI (qcl d 18 [qI a4, qI a6] h) fun x5 h4 =>
    o3.bind fun p6 => (qai 0 p6 ((a3 * 40) + x5) h4).bind fun x7 =>
    cI (qcl d 71 [qR a1, qI a6, qI 2] h4) fun x9 h8 =>
    if x7 < x9 then
    (if (0 : Int32) = 0 ∨ (0 : Int32) = 1 then some (some (qI 0), h8) else none)
   else
    (qbig (d + 1) 99 11 [sR (some t), sR a1, none, sI a3, sI a4, sI a5, sI (a6 + 1)] [] h8)))
 else
  (if (1 : Int32) = 0 ∨ (1 : Int32) = 1 then some (some (qI 1), h) else none) := by
  exact qE 43 [11] (by rfl)
set_option maxRecDepth 100000 in
set_option maxHeartbeats 1000000 in
theorem E100 (d : Nat) (t : Nat) (a1 : Option Nat) (a2 : Int32) (a3 : Int32) (h : QH) : qcl (d + 1) 100 [qR (some t), qR a1, qI a2, qI a3] h =
 (qck 3 t h).bind fun _ =>
 cI (qcl d 88 [qR a1, qI a3, qI 2] h) fun x2 h1 =>
  (qgr 3 2 t h1).bind fun o3 =>
  o3.bind fun p4 => (qai 0 p4 ((a2 * 8) + a3) h1).bind fun x5 =>
  some (some (qI (x2 - x5)), h1) := by
  exact qE0 19 [] (by rfl)
set_option maxRecDepth 100000 in
set_option maxHeartbeats 1000000 in
theorem E101 (d : Nat) (t : Nat) (a1 : Option Nat) (a2 : Int32) (a3 : Int32) (a4 : Int32) (h : QH) : qcl (d + 1) 101 [qR (some t), qR a1, qI a2, qI a3, qI a4] h =
 (qck 3 t h).bind fun _ =>
 a1.bind fun p1 => (qgr 10 2 p1 h).bind fun o2 =>
  o2.bind fun p3 => (qgr 5 1 p3 h).bind fun o4 =>
  o4.bind fun p5 => (qai 0 p5 a2 h).bind fun x6 =>
  a1.bind fun p7 => (qgr 10 0 p7 h).bind fun o8 =>
  cI (qcl d 75 [qR o8, qI a3, qI x6] h) fun x10 h9 =>
  if x10 = 0 then
  (a1.bind fun p11 => (qgr 10 0 p11 h9).bind fun o12 =>
   a1.bind fun p13 => (qgr 10 2 p13 h9).bind fun o14 =>
   o14.bind fun p15 => (qgr 5 2 p15 h9).bind fun o16 =>
   o16.bind fun p17 => (qai 0 p17 a2 h9).bind fun x18 =>
   cI (qcl d 83 [qR o12, qI x18, qI a3] h9) fun x20 h19 =>
   if x20 = 0 then
   (some (some (qI 6), h19))
  else
   (a1.bind fun p21 => (qgr 10 0 p21 h19).bind fun o22 =>
    cI (qcl d 100 [qR (some t), qR o22, qI x6, qI a3] h19) fun x24 h23 =>
    if x24 < a4 then
    (some (some (qI 7), h23))
   else
    (a1.bind fun p25 => (qgr 10 1 p25 h23).bind fun o26 =>
     a1.bind fun p27 => (qgr 10 2 p27 h23).bind fun o28 =>
     o28.bind fun p29 => (qgr 5 3 p29 h23).bind fun o30 =>
     o30.bind fun p31 => (qai 0 p31 a2 h23).bind fun x32 =>
     cI (qcl d 99 [qR (some t), qR o26, qI x32, qI x6, qI a3] h23) fun x34 h33 =>
     if x34 = 0 then
     (some (some (qI 8), h33))
    else
     (some (some (qI 0), h33)))))
 else
  (some (some (qI 5), h9)) := by
  exact qE0 57 [] (by rfl)
set_option maxRecDepth 100000 in
set_option maxHeartbeats 1000000 in
theorem E102 (d : Nat) (t : Nat) (a1 : Option Nat) (a2 : Option Nat) (a3 : Int32) (a4 : Int32) (h : QH) : qcl (d + 1) 102 [qR (some t), qR a1, qR a2, qI a3, qI a4] h =
 (qck 3 t h).bind fun _ =>
 qbig (d + 1) 102 6 [sR (some t), sR a1, sR a2, sI a3, sI a4, sI 0, sI 0, none] [] h := by
  exact qE0 60 [6, 101] (by rfl)
set_option maxRecDepth 100000 in
set_option maxHeartbeats 1000000 in
theorem E102_6 (d : Nat) (t : Nat) (a1 : Option Nat) (a2 : Option Nat) (a3 : Int32) (a4 : Int32) (a5 : Int32) (a6 : Int32) (h : QH) : qbig (d + 1) 102 6 [sR (some t), sR a1, sR a2, sI a3, sI a4, sI a5, sI a6, none] [] h =
 a1.bind fun p1 => (qgr 10 0 p1 h).bind fun o2 =>
  o2.bind fun p3 => (qgi 2 0 p3 h).bind fun x4 =>
  if a6 < x4 then
  (a1.bind fun p5 => (qgr 10 2 p5 h).bind fun o6 =>
   o6.bind fun p7 => (qgr 5 4 p7 h).bind fun o8 =>
   o8.bind fun p9 => (qai 0 p9 a3 h).bind fun x10 =>
   if ((x10 >>> (a6 &&& 31)) &&& 1) = 0 then
   (qbig (d + 1) 102 101 [sR (some t), sR a1, sR a2, sI a3, sI a4, sI a5, sI (a6 + 1), none] [] h)
  else
   (cI (qcl d 101 [qR (some t), qR a1, qI a3, qI a6, qI a4] h) fun x12 h11 =>
    cV (qcl d 92 [qR (some t), qR a1, qR a2, qI a3, qI a6] h11) fun h13 =>
    if x12 = 0 then
    (cR (qcl d 163 [qR a1] h13) fun o15 h14 =>
     cI (qcl d 152 [qR a2, qR o15, qI 3] h14) fun x17 h16 =>
     if x17 = 0 then
     (if x12 = 0 then
      (qbig (d + 1) 102 101 [sR (some t), sR a1, sR a2, sI a3, sI a4, sI a5, sI (a6 + 1), none] [] h16)
     else
      (if a5 = 0 then
       (qbig (d + 1) 102 101 [sR (some t), sR a1, sR a2, sI a3, sI a4, sI x12, sI (a6 + 1), none] [] h16)
      else
       (if x12 < a5 then
        (qbig (d + 1) 102 101 [sR (some t), sR a1, sR a2, sI a3, sI a4, sI x12, sI (a6 + 1), none] [] h16)
       else
        (qbig (d + 1) 102 101 [sR (some t), sR a1, sR a2, sI a3, sI a4, sI a5, sI (a6 + 1), none] [] h16))))
    else
     (if (9 : Int32) = 0 then
      (qbig (d + 1) 102 101 [sR (some t), sR a1, sR a2, sI a3, sI a4, sI a5, sI (a6 + 1), none] [] h16)
     else
      (if a5 = 0 then
       (qbig (d + 1) 102 101 [sR (some t), sR a1, sR a2, sI a3, sI a4, sI 9, sI (a6 + 1), none] [] h16)
      else
       (if 9 < a5 then
        (qbig (d + 1) 102 101 [sR (some t), sR a1, sR a2, sI a3, sI a4, sI 9, sI (a6 + 1), none] [] h16)
       else
        (qbig (d + 1) 102 101 [sR (some t), sR a1, sR a2, sI a3, sI a4, sI a5, sI (a6 + 1), none] [] h16)))))
   else
    (if x12 = 0 then
     (qbig (d + 1) 102 101 [sR (some t), sR a1, sR a2, sI a3, sI a4, sI a5, sI (a6 + 1), none] [] h13)
    else
     (if a5 = 0 then
      (qbig (d + 1) 102 101 [sR (some t), sR a1, sR a2, sI a3, sI a4, sI x12, sI (a6 + 1), none] [] h13)
     else
      (if x12 < a5 then
       (qbig (d + 1) 102 101 [sR (some t), sR a1, sR a2, sI a3, sI a4, sI x12, sI (a6 + 1), none] [] h13)
      else
       (qbig (d + 1) 102 101 [sR (some t), sR a1, sR a2, sI a3, sI a4, sI a5, sI (a6 + 1), none] [] h13))))))
 else
  (some (some (qI a5), h)) := by
  exact qE 60 [6, 101] (by rfl)
set_option maxRecDepth 100000 in
set_option maxHeartbeats 1000000 in
theorem E102_101 (d : Nat) (t : Nat) (a1 : Option Nat) (a2 : Option Nat) (a3 : Int32) (a4 : Int32) (a5 : Int32) (a6 : Int32) (h : QH) : qbig (d + 1) 102 101 [sR (some t), sR a1, sR a2, sI a3, sI a4, sI a5, sI a6, none] [] h =
 qbig (d + 1) 102 6 [sR (some t), sR a1, sR a2, sI a3, sI a4, sI a5, sI a6, none] [] h := by
  exact qE 60 [6, 101] (by rfl)
set_option maxRecDepth 100000 in
set_option maxHeartbeats 1000000 in
theorem E103 (d : Nat) (t : Nat) (a1 : Option Nat) (a2 : Int32) (a3 : Int32) (h : QH) : qcl (d + 1) 103 [qR (some t), qR a1, qI a2, qI a3] h =
 (qck 3 t h).bind fun _ =>
 a1.bind fun p1 => (qgr 10 2 p1 h).bind fun o2 =>
  o2.bind fun p3 => (qgr 5 1 p3 h).bind fun o4 =>
  o4.bind fun p5 => (qai 0 p5 a2 h).bind fun x6 =>
  a1.bind fun p7 => (qgr 10 2 p7 h).bind fun o8 =>
  o8.bind fun p9 => (qgr 5 3 p9 h).bind fun o10 =>
  o10.bind fun p11 => (qai 0 p11 a2 h).bind fun x12 =>
  a1.bind fun p13 => (qgr 10 2 p13 h).bind fun o14 =>
  o14.bind fun p15 => (qgr 5 2 p15 h).bind fun o16 =>
  o16.bind fun p17 => (qai 0 p17 a2 h).bind fun x18 =>
  a1.bind fun p19 => (qgr 10 2 p19 h).bind fun o20 =>
  o20.bind fun p21 => (qgr 5 4 p21 h).bind fun o22 =>
  o22.bind fun p23 => (qai 0 p23 a2 h).bind fun x24 =>
  qbig (d + 1) 103 44 [sR (some t), sR a1, none, sI a3, sI x6, sI x12, sI x18, sI x24, none] [] h := by
  exact qE0 83 [44] (by rfl)
set_option maxRecDepth 100000 in
set_option maxHeartbeats 1000000 in
theorem E103_44 (d : Nat) (t : Nat) (a1 : Option Nat) (a3 : Int32) (a4 : Int32) (a5 : Int32) (a6 : Int32) (a7 : Int32) (h : QH) : qbig (d + 1) 103 44 [sR (some t), sR a1, none, sI a3, sI a4, sI a5, sI a6, sI a7, none] [] h =
 (qgr 3 0 t h).bind fun o1 =>
  cI (qcl d 18 [qI a6, qI a5] h) fun x3 h2 =>
  o1.bind fun p4 => (qai 0 p4 ((a4 * 40) + x3) h2).bind fun x5 =>
  if x5 = 0 then
  (some (some (qI 1), h2))
 else
  (a1.bind fun p6 => (qgr 10 0 p6 h2).bind fun o7 =>
   cI (qcl d 75 [qR o7, qI a6, qI a4] h2) fun x9 h8 =>
   if x9 = 0 then
   (a1.bind fun p10 => (qgr 10 0 p10 h8).bind fun o11 =>
    cI (qcl d 100 [qR (some t), qR o11, qI a4, qI a6] h8) fun x13 h12 =>
    if x13 < a3 then
    (some (some (qI 3), h12))
   else
    (cI (qcl d 1 [qI a7] h12) fun x15 h14 =>
     if x15 < 1 then
     (some (some (qI 4), h14))
    else
     (a1.bind fun p16 => (qgr 10 1 p16 h14).bind fun o17 =>
      cI (qcl d 71 [qR o17, qI a5, qI 1] h14) fun x19 h18 =>
      if x19 < x15 then
      (some (some (qI 4), h18))
     else
      (if ((a7 >>> (a6 &&& 31)) &&& 1) = 0 then
       (some (some (qI 0), h18))
      else
       (some (some (qI 4), h18))))))
  else
   (some (some (qI 2), h8))) := by
  exact qE 83 [44] (by rfl)
set_option maxRecDepth 100000 in
set_option maxHeartbeats 1000000 in
theorem E104 (d : Nat) (t : Nat) (h : QH) : qcl (d + 1) 104 [qR (some t)] h =
 (qck 3 t h).bind fun _ =>
 qbig (d + 1) 104 6 [sR (some t), sI 0, sI 1200] [] h := by
  exact qE0 25 [6] (by rfl)
set_option maxRecDepth 100000 in
set_option maxHeartbeats 1000000 in
theorem E104_6 (d : Nat) (t : Nat) (a1 : Int32) (a2 : Int32) (h : QH) : qbig (d + 1) 104 6 [sR (some t), sI a1, sI a2] [] h =
 (qgr 3 1 t h).bind fun o1 =>
  o1.bind fun p2 => (qal p2 h).bind fun x3 =>
  if a2 < x3 then
  ((qgr 3 1 t h).bind fun o4 =>
   o4.bind fun p5 => (qai 0 p5 a2 h).bind fun x6 =>
   qbig (d + 1) 104 6 [sR (some t), sI (a1 + x6), sI (a2 + 1)] [] h)
 else
  (some (some (qI a1), h)) := by
  exact qE 25 [6] (by rfl)
set_option maxRecDepth 100000 in
set_option maxHeartbeats 1000000 in
theorem E105 (d : Nat) (t : Nat) (h : QH) : qcl (d + 1) 105 [qR (some t)] h =
 (qck 4 t h).bind fun _ =>
 (qpi 4 0 t 0 h).bind fun h1 =>
  (qna 0 0 h1).bind fun h2 =>
  (qpr 4 1 t (some (hN h1)) h2).bind fun h3 =>
  (qpi 4 2 t 0 h3).bind fun h4 =>
  (qpi 4 3 t 0 h4).bind fun h5 =>
  (qpi 4 4 t 31 h5).bind fun h6 =>
  (qpi 4 5 t 0 h6).bind fun h7 =>
  (qpi 4 6 t 0 h7).bind fun h8 =>
  (qpi 4 7 t 0 h8).bind fun h9 =>
  (qpi 4 8 t 0 h9).bind fun h10 =>
  (qpi 4 9 t 0 h10).bind fun h11 =>
  cR (qcl d 4 [qR (some 5)] h11) fun o13 h12 =>
  (qpr 4 10 t o13 h12).bind fun h14 =>
  cR (qcl d 4 [qR (some 6)] h14) fun o16 h15 =>
  (qpr 4 11 t o16 h15).bind fun h17 =>
  (qna 0 12 h17).bind fun h18 =>
  (qpr 4 12 t (some (hN h17)) h18).bind fun h19 =>
  (qna 0 12 h19).bind fun h20 =>
  (qpr 4 13 t (some (hN h19)) h20).bind fun h21 =>
  (qna 0 412 h21).bind fun h22 =>
  (qpr 4 14 t (some (hN h21)) h22).bind fun h23 =>
  some (none, h23) := by
  exact qE0 59 [] (by rfl)
set_option maxRecDepth 100000 in
set_option maxHeartbeats 1000000 in
theorem E106 (d : Nat) (t : Nat) (h : QH) : qcl (d + 1) 106 [qR (some t)] h =
 (qck 4 t h).bind fun _ =>
 (qgi 4 3 t h).bind fun x1 =>
  (qgi 4 2 t h).bind fun x2 =>
  if x1 < x2 then
  ((qgr 4 1 t h).bind fun o3 =>
   (qgi 4 3 t h).bind fun x4 =>
   o3.bind fun p5 => (qai 0 p5 x4 h).bind fun x6 =>
   if x6 = 32 then
   ((qgi 4 3 t h).bind fun x7 =>
    (qpi 4 3 t (x7 + 1) h).bind fun h8 =>
    qbig (d + 1) 106 0 [sR (some t)] [] h8)
  else
   ((qgi 4 3 t h).bind fun x9 =>
    (qpi 4 0 t x9 h).bind fun h10 =>
    (qgi 4 3 t h10).bind fun x11 =>
    (qgi 4 2 t h10).bind fun x12 =>
    if x11 < x12 then
    ((qgr 4 1 t h10).bind fun o13 =>
     (qgi 4 3 t h10).bind fun x14 =>
     o13.bind fun p15 => (qai 0 p15 x14 h10).bind fun x16 =>
     cI (qcl d 109 [qI x16] h10) fun x18 h17 =>
     if x18 = 0 then
     ((qgr 4 1 t h17).bind fun o19 =>
      (qgi 4 3 t h17).bind fun x20 =>
      o19.bind fun p21 => (qai 0 p21 x20 h17).bind fun x22 =>
      cI (qcl d 108 [qI x22] h17) fun x24 h23 =>
      if x24 = 0 then
      (cV (qcl d 123 [qR (some t)] h23) fun h25 =>
       some (none, h25))
     else
      (cV (qcl d 122 [qR (some t)] h23) fun h26 =>
       some (none, h26)))
    else
     (cV (qcl d 124 [qR (some t)] h17) fun h27 =>
      some (none, h27)))
   else
    ((qpi 4 4 t 31 h10).bind fun h28 =>
     some (none, h28))))
 else
  ((qgi 4 3 t h).bind fun x29 =>
   (qpi 4 0 t x29 h).bind fun h30 =>
   (qgi 4 3 t h30).bind fun x31 =>
   (qgi 4 2 t h30).bind fun x32 =>
   if x31 < x32 then
   ((qgr 4 1 t h30).bind fun o33 =>
    (qgi 4 3 t h30).bind fun x34 =>
    o33.bind fun p35 => (qai 0 p35 x34 h30).bind fun x36 =>
    cI (qcl d 109 [qI x36] h30) fun x38 h37 =>
    if x38 = 0 then
    ((qgr 4 1 t h37).bind fun o39 =>
     (qgi 4 3 t h37).bind fun x40 =>
     o39.bind fun p41 => (qai 0 p41 x40 h37).bind fun x42 =>
     cI (qcl d 108 [qI x42] h37) fun x44 h43 =>
     if x44 = 0 then
     (cV (qcl d 123 [qR (some t)] h43) fun h45 =>
      some (none, h45))
    else
     (cV (qcl d 122 [qR (some t)] h43) fun h46 =>
      some (none, h46)))
   else
    (cV (qcl d 124 [qR (some t)] h37) fun h47 =>
     some (none, h47)))
  else
   ((qpi 4 4 t 31 h30).bind fun h48 =>
    some (none, h48))) := by
  exact qE0 60 [0] (by rfl)
set_option maxRecDepth 100000 in
set_option maxHeartbeats 1000000 in
theorem E106_0 (d : Nat) (t : Nat) (h : QH) : qbig (d + 1) 106 0 [sR (some t)] [] h =
 (qgi 4 3 t h).bind fun x1 =>
  (qgi 4 2 t h).bind fun x2 =>
  if x1 < x2 then
  ((qgr 4 1 t h).bind fun o3 =>
   (qgi 4 3 t h).bind fun x4 =>
   o3.bind fun p5 => (qai 0 p5 x4 h).bind fun x6 =>
   if x6 = 32 then
   ((qgi 4 3 t h).bind fun x7 =>
    (qpi 4 3 t (x7 + 1) h).bind fun h8 =>
    qbig (d + 1) 106 0 [sR (some t)] [] h8)
  else
   ((qgi 4 3 t h).bind fun x9 =>
    (qpi 4 0 t x9 h).bind fun h10 =>
    (qgi 4 3 t h10).bind fun x11 =>
    (qgi 4 2 t h10).bind fun x12 =>
    if x11 < x12 then
    ((qgr 4 1 t h10).bind fun o13 =>
     (qgi 4 3 t h10).bind fun x14 =>
     o13.bind fun p15 => (qai 0 p15 x14 h10).bind fun x16 =>
     cI (qcl d 109 [qI x16] h10) fun x18 h17 =>
     if x18 = 0 then
     ((qgr 4 1 t h17).bind fun o19 =>
      (qgi 4 3 t h17).bind fun x20 =>
      o19.bind fun p21 => (qai 0 p21 x20 h17).bind fun x22 =>
      cI (qcl d 108 [qI x22] h17) fun x24 h23 =>
      if x24 = 0 then
      (cV (qcl d 123 [qR (some t)] h23) fun h25 =>
       some (none, h25))
     else
      (cV (qcl d 122 [qR (some t)] h23) fun h26 =>
       some (none, h26)))
    else
     (cV (qcl d 124 [qR (some t)] h17) fun h27 =>
      some (none, h27)))
   else
    ((qpi 4 4 t 31 h10).bind fun h28 =>
     some (none, h28))))
 else
  ((qgi 4 3 t h).bind fun x29 =>
   (qpi 4 0 t x29 h).bind fun h30 =>
   (qgi 4 3 t h30).bind fun x31 =>
   (qgi 4 2 t h30).bind fun x32 =>
   if x31 < x32 then
   ((qgr 4 1 t h30).bind fun o33 =>
    (qgi 4 3 t h30).bind fun x34 =>
    o33.bind fun p35 => (qai 0 p35 x34 h30).bind fun x36 =>
    cI (qcl d 109 [qI x36] h30) fun x38 h37 =>
    if x38 = 0 then
    ((qgr 4 1 t h37).bind fun o39 =>
     (qgi 4 3 t h37).bind fun x40 =>
     o39.bind fun p41 => (qai 0 p41 x40 h37).bind fun x42 =>
     cI (qcl d 108 [qI x42] h37) fun x44 h43 =>
     if x44 = 0 then
     (cV (qcl d 123 [qR (some t)] h43) fun h45 =>
      some (none, h45))
    else
     (cV (qcl d 122 [qR (some t)] h43) fun h46 =>
      some (none, h46)))
   else
    (cV (qcl d 124 [qR (some t)] h37) fun h47 =>
     some (none, h47)))
  else
   ((qpi 4 4 t 31 h30).bind fun h48 =>
    some (none, h48))) := by
  exact qE 60 [0] (by rfl)
set_option maxRecDepth 100000 in
set_option maxHeartbeats 1000000 in
theorem E107 (d : Nat) (t : Nat) (a1 : Int32) (h : QH) : qcl (d + 1) 107 [qR (some t), qI a1] h =
 (qck 4 t h).bind fun _ =>
 (qgr 4 14 t h).bind fun o1 =>
  o1.bind fun p2 => (qal p2 h).bind fun x3 =>
  if a1 < x3 then
  ((qgr 4 14 t h).bind fun o4 =>
   o4.bind fun p5 => (qai 0 p5 a1 h).bind fun x6 =>
   (qgi 4 9 t h).bind fun x7 =>
   o4.bind fun p8 => (qsi 0 p8 a1 (x6 ||| (x7 <<< (5 &&& 31))) h).bind fun h9 =>
   some (none, h9))
 else
  (some (none, h)) := by
  exact qE0 22 [] (by rfl)
set_option maxRecDepth 100000 in
set_option maxHeartbeats 1000000 in
theorem E108 (d : Nat) (a0 : Int32) (h : QH) : qcl (d + 1) 108 [qI a0] h =
 if a0 < 48 then
  (if (0 : Int32) = 0 ∨ (0 : Int32) = 1 then some (some (qI 0), h) else none)
 else
  (if 57 < a0 then
   (if (0 : Int32) = 0 ∨ (0 : Int32) = 1 then some (some (qI 0), h) else none)
  else
   (if (1 : Int32) = 0 ∨ (1 : Int32) = 1 then some (some (qI 1), h) else none)) := by
  exact qE0 15 [] (by rfl)
set_option maxRecDepth 100000 in
set_option maxHeartbeats 1000000 in
theorem E109 (d : Nat) (a0 : Int32) (h : QH) : qcl (d + 1) 109 [qI a0] h =
 if a0 < 97 then
  (if (0 : Int32) = 0 ∨ (0 : Int32) = 1 then some (some (qI 0), h) else none)
 else
  (if 122 < a0 then
   (if (0 : Int32) = 0 ∨ (0 : Int32) = 1 then some (some (qI 0), h) else none)
  else
   (if (1 : Int32) = 0 ∨ (1 : Int32) = 1 then some (some (qI 1), h) else none)) := by
  exact qE0 15 [] (by rfl)
set_option maxRecDepth 100000 in
set_option maxHeartbeats 1000000 in
theorem E110 (d : Nat) (t : Nat) (a1 : Int32) (a2 : Int32) (h : QH) : qcl (d + 1) 110 [qR (some t), qI a1, qI a2] h =
 (qck 4 t h).bind fun _ =>
 (qgi 4 3 t h).bind fun x1 =>
  (qgi 4 0 t h).bind fun x2 =>
  if (a2 - a1) = (x1 - x2) then
  (qbig (d + 1) 110 19 [sR (some t), sI a1, sI a2, sI a1] [] h)
 else
  (if (0 : Int32) = 0 ∨ (0 : Int32) = 1 then some (some (qI 0), h) else none) := by
  exact qE0 41 [19] (by rfl)
set_option maxRecDepth 100000 in
set_option maxHeartbeats 1000000 in
theorem E110_19 (d : Nat) (t : Nat) (a1 : Int32) (a2 : Int32) (a3 : Int32) (h : QH) : qbig (d + 1) 110 19 [sR (some t), sI a1, sI a2, sI a3] [] h =
 if a3 < a2 then
  ((qgr 4 10 t h).bind fun o1 =>
   o1.bind fun p2 => (qai 3 p2 a3 h).bind fun x3 =>
   (qgr 4 1 t h).bind fun o4 =>
   (qgi 4 0 t h).bind fun x5 =>
   o4.bind fun p6 => (qai 0 p6 ((x5 + a3) - a1) h).bind fun x7 =>
   if x3 = x7 then
   (qbig (d + 1) 110 19 [sR (some t), sI a1, sI a2, sI (a3 + 1)] [] h)
  else
   (if (0 : Int32) = 0 ∨ (0 : Int32) = 1 then some (some (qI 0), h) else none))
 else
  (if (1 : Int32) = 0 ∨ (1 : Int32) = 1 then some (some (qI 1), h) else none) := by
  exact qE 41 [19] (by rfl)
set_option maxRecDepth 100000 in
set_option maxHeartbeats 1000000 in
theorem E111 (d : Nat) (t : Nat) (a1 : Int32) (a2 : Int32) (h : QH) : qcl (d + 1) 111 [qR (some t), qI a1, qI a2] h =
 (qck 4 t h).bind fun _ =>
 (qgi 4 9 t h).bind fun x1 =>
  (qgr 4 14 t h).bind fun o2 =>
  o2.bind fun p3 => (qal p3 h).bind fun x4 =>
  if x1 < x4 then
  ((qgr 4 14 t h).bind fun o5 =>
   (qgi 4 9 t h).bind fun x6 =>
   o5.bind fun p7 => (qsi 0 p7 x6 (a1 ||| (a2 <<< (5 &&& 31))) h).bind fun h8 =>
   (qgi 4 9 t h8).bind fun x9 =>
   (qpi 4 9 t (x9 + 1) h8).bind fun h10 =>
   some (none, h10))
 else
  (some (none, h)) := by
  exact qE0 28 [] (by rfl)
set_option maxRecDepth 100000 in
set_option maxHeartbeats 1000000 in
theorem E112 (d : Nat) (t : Nat) (a1 : Option Nat) (a2 : Int32) (h : QH) : qcl (d + 1) 112 [qR (some t), qR a1, qI a2] h =
 (qck 4 t h).bind fun _ =>
 (qpr 4 1 t a1 h).bind fun h1 =>
  a1.bind fun p2 => (qal p2 h1).bind fun x3 =>
  (qpi 4 2 t (if x3 < a2 then x3 else a2) h1).bind fun h4 =>
  (qpi 4 3 t 0 h4).bind fun h5 =>
  (qpi 4 6 t 0 h5).bind fun h6 =>
  (qpi 4 7 t 0 h6).bind fun h7 =>
  (qpi 4 8 t 0 h7).bind fun h8 =>
  (qpi 4 9 t 0 h8).bind fun h9 =>
  cV (qcl d 106 [qR (some t)] h9) fun h10 =>
  qbig (d + 1) 112 46 [sR (some t), none, none, sI 0] [] h10 := by
  exact qE0 76 [46] (by rfl)
set_option maxRecDepth 100000 in
set_option maxHeartbeats 1000000 in
theorem E112_46 (d : Nat) (t : Nat) (a3 : Int32) (h : QH) : qbig (d + 1) 112 46 [sR (some t), none, none, sI a3] [] h =
 if a3 < 12 then
  (cI (qcl d 115 [qR (some t)] h) fun x2 h1 =>
   if x2 = 0 then
   (some (some (qR none), h1))
  else
   ((qgi 4 4 t h1).bind fun x3 =>
    if x3 = 31 then
    ((qgr 4 12 t (qno 1 3 h1)).bind fun o4 =>
     (qgi 4 8 t (qno 1 3 h1)).bind fun x5 =>
     cR (qcl d 7 [qR o4, qI x5] (qno 1 3 h1)) fun o7 h6 =>
     (qgr 4 13 t h6).bind fun o8 =>
     (qgi 4 8 t h6).bind fun x9 =>
     cR (qcl d 7 [qR o8, qI x9] h6) fun o11 h10 =>
     (qgr 4 14 t h10).bind fun o12 =>
     (qgi 4 9 t h10).bind fun x13 =>
     cR (qcl d 7 [qR o12, qI x13] h10) fun o15 h14 =>
     cV (qcl d 73 [qR (some (hN h1)), qR o7, qR o11, qR o15] h14) fun h16 =>
     some (some (qR (some (hN h1))), h16))
   else
    ((qgi 4 4 t h1).bind fun x17 =>
     if x17 = 18 then
     (cV (qcl d 106 [qR (some t)] h1) fun h18 =>
      qbig (d + 1) 112 46 [sR (some t), none, none, sI (a3 + 1)] [] h18)
    else
     (some (some (qR none), h1)))))
 else
  (some (some (qR none), h)) := by
  exact qE 76 [46] (by rfl)
