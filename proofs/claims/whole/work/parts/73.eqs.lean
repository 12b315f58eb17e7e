set_option maxRecDepth 100000 in
set_option maxHeartbeats 1000000 in
theorem E113 (d : Nat) (t : Nat) (h : QH) : qcl (d + 1) 113 [qR (some t)] h =
 (qck 4 t h).bind fun _ =>
 cI (qcl d 118 [qR (some t)] h) fun x2 h1 =>
  qbig (d + 1) 113 7 [sR (some t), sI x2, sI 0, none] [] h1 := by
  exact qE0 38 [7] (by rfl)
set_option maxRecDepth 100000 in
set_option maxHeartbeats 1000000 in
theorem E113_7 (d : Nat) (t : Nat) (a1 : Int32) (a2 : Int32) (h : QH) : qbig (d + 1) 113 7 [sR (some t), sI a1, sI a2, none] [] h =
 if a1 = 0 then
  (if (a1 : Int32) = 0 ∨ (a1 : Int32) = 1 then some (some (qI a1), h) else none)
 else
  ((qgi 4 4 t h).bind fun x1 =>
   if x1 = 6 then
   (if a2 < 400 then
    ((qgi 4 9 t h).bind fun x2 =>
     cV (qcl d 111 [qR (some t), qI 6, qI 0] h) fun h3 =>
     cV (qcl d 106 [qR (some t)] h3) fun h4 =>
     cI (qcl d 118 [qR (some t)] h4) fun x6 h5 =>
     cV (qcl d 107 [qR (some t), qI x2] h5) fun h7 =>
     qbig (d + 1) 113 7 [sR (some t), sI x6, sI (a2 + 1), none] [] h7)
   else
    (if (a1 : Int32) = 0 ∨ (a1 : Int32) = 1 then some (some (qI a1), h) else none))
  else
   (if (a1 : Int32) = 0 ∨ (a1 : Int32) = 1 then some (some (qI a1), h) else none)) := by
  exact qE 38 [7] (by rfl)
set_option maxRecDepth 100000 in
set_option maxHeartbeats 1000000 in
theorem E114 (d : Nat) (t : Nat) (a1 : Int32) (h : QH) : qcl (d + 1) 114 [qR (some t), qI a1] h =
 (qck 4 t h).bind fun _ =>
 (qgi 4 7 t h).bind fun x1 =>
  if x1 < 8 then
  ((qgi 4 7 t h).bind fun x2 =>
   (qpi 4 7 t (x2 + 1) h).bind fun h3 =>
   cV (qcl d 106 [qR (some t)] h3) fun h4 =>
   if a1 = 20 then
   (cI (qcl d 121 [qR (some t)] h4) fun x6 h5 =>
    if x6 = 0 then
    (if (0 : Int32) = 0 ∨ (0 : Int32) = 1 then some (some (qI 0), h5) else none)
   else
    ((qgi 4 4 t h5).bind fun x7 =>
     if x7 = a1 then
     ((qgi 4 7 t h5).bind fun x8 =>
      (qpi 4 7 t (x8 - 1) h5).bind fun h9 =>
      cV (qcl d 106 [qR (some t)] h9) fun h10 =>
      if (1 : Int32) = 0 ∨ (1 : Int32) = 1 then some (some (qI 1), h10) else none)
    else
     (if (0 : Int32) = 0 ∨ (0 : Int32) = 1 then some (some (qI 0), h5) else none)))
  else
   (cI (qcl d 119 [qR (some t)] h4) fun x12 h11 =>
    if x12 = 0 then
    (if (0 : Int32) = 0 ∨ (0 : Int32) = 1 then some (some (qI 0), h11) else none)
   else
    ((qgi 4 4 t h11).bind fun x13 =>
     if x13 = a1 then
     ((qgi 4 7 t h11).bind fun x14 =>
      (qpi 4 7 t (x14 - 1) h11).bind fun h15 =>
      cV (qcl d 106 [qR (some t)] h15) fun h16 =>
      if (1 : Int32) = 0 ∨ (1 : Int32) = 1 then some (some (qI 1), h16) else none)
    else
     (if (0 : Int32) = 0 ∨ (0 : Int32) = 1 then some (some (qI 0), h11) else none))))
 else
  (if (0 : Int32) = 0 ∨ (0 : Int32) = 1 then some (some (qI 0), h) else none) := by
  exact qE0 46 [] (by rfl)
set_option maxRecDepth 100000 in
set_option maxHeartbeats 1000000 in
theorem E115 (d : Nat) (t : Nat) (h : QH) : qcl (d + 1) 115 [qR (some t)] h =
 (qck 4 t h).bind fun _ =>
 (qgi 4 4 t h).bind fun x1 =>
  if x1 = 0 then
  (cV (qcl d 106 [qR (some t)] h) fun h2 =>
   if x1 = 3 then
   (cV (qcl d 111 [qR (some t), qI 17, qI 1] h2) fun h3 =>
    qbig (d + 1) 115 54 [sR (some t), sI x1] [] h3)
  else
   (cI (qcl d 119 [qR (some t)] h2) fun x5 h4 =>
    if x5 = 0 then
    (if (0 : Int32) = 0 ∨ (0 : Int32) = 1 then some (some (qI 0), h4) else none)
   else
    (qbig (d + 1) 115 54 [sR (some t), sI x1] [] h4)))
 else
  (if x1 = 1 then
   (cV (qcl d 106 [qR (some t)] h) fun h6 =>
    if x1 = 3 then
    (cV (qcl d 111 [qR (some t), qI 17, qI 1] h6) fun h7 =>
     qbig (d + 1) 115 54 [sR (some t), sI x1] [] h7)
   else
    (cI (qcl d 119 [qR (some t)] h6) fun x9 h8 =>
     if x9 = 0 then
     (if (0 : Int32) = 0 ∨ (0 : Int32) = 1 then some (some (qI 0), h8) else none)
    else
     (qbig (d + 1) 115 54 [sR (some t), sI x1] [] h8)))
  else
   (if x1 = 2 then
    (cV (qcl d 106 [qR (some t)] h) fun h10 =>
     if x1 = 3 then
     (cV (qcl d 111 [qR (some t), qI 17, qI 1] h10) fun h11 =>
      qbig (d + 1) 115 54 [sR (some t), sI x1] [] h11)
    else
     (cI (qcl d 119 [qR (some t)] h10) fun x13 h12 =>
      if x13 = 0 then
      (if (0 : Int32) = 0 ∨ (0 : Int32) = 1 then some (some (qI 0), h12) else none)
     else
      (qbig (d + 1) 115 54 [sR (some t), sI x1] [] h12)))
   else
    (if x1 = 3 then
     (cV (qcl d 106 [qR (some t)] h) fun h14 =>
      if x1 = 3 then
      (cV (qcl d 111 [qR (some t), qI 17, qI 1] h14) fun h15 =>
       qbig (d + 1) 115 54 [sR (some t), sI x1] [] h15)
     else
      (cI (qcl d 119 [qR (some t)] h14) fun x17 h16 =>
       if x17 = 0 then
       (if (0 : Int32) = 0 ∨ (0 : Int32) = 1 then some (some (qI 0), h16) else none)
      else
       (qbig (d + 1) 115 54 [sR (some t), sI x1] [] h16)))
    else
     (if (0 : Int32) = 0 ∨ (0 : Int32) = 1 then some (some (qI 0), h) else none)))) := by
  exact qE0 73 [54] (by rfl)
set_option maxRecDepth 100000 in
set_option maxHeartbeats 1000000 in
theorem E115_54 (d : Nat) (t : Nat) (a1 : Int32) (h : QH) : qbig (d + 1) 115 54 [sR (some t), sI a1] [] h =
 (qgi 4 4 t h).bind fun x1 =>
  if x1 = 4 then
  (cV (qcl d 106 [qR (some t)] h) fun h2 =>
   cI (qcl d 121 [qR (some t)] h2) fun x4 h3 =>
   if x4 = 0 then
   (if (0 : Int32) = 0 ∨ (0 : Int32) = 1 then some (some (qI 0), h3) else none)
  else
   ((qgr 4 12 t h3).bind fun o5 =>
    (qgi 4 8 t h3).bind fun x6 =>
    o5.bind fun p7 => (qsi 0 p7 x6 a1 h3).bind fun h8 =>
    (qgr 4 13 t h8).bind fun o9 =>
    (qgi 4 8 t h8).bind fun x10 =>
    (qgi 4 9 t h8).bind fun x11 =>
    o9.bind fun p12 => (qsi 0 p12 x10 x11 h8).bind fun h13 =>
    (qgi 4 8 t h13).bind fun x14 =>
    (qpi 4 8 t (x14 + 1) h13).bind fun h15 =>
    if (1 : Int32) = 0 ∨ (1 : Int32) = 1 then some (some (qI 1), h15) else none))
 else
  (cV (qcl d 111 [qR (some t), qI 17, qI 1] h) fun h16 =>
   (qgr 4 12 t h16).bind fun o17 =>
   (qgi 4 8 t h16).bind fun x18 =>
   o17.bind fun p19 => (qsi 0 p19 x18 a1 h16).bind fun h20 =>
   (qgr 4 13 t h20).bind fun o21 =>
   (qgi 4 8 t h20).bind fun x22 =>
   (qgi 4 9 t h20).bind fun x23 =>
   o21.bind fun p24 => (qsi 0 p24 x22 x23 h20).bind fun h25 =>
   (qgi 4 8 t h25).bind fun x26 =>
   (qpi 4 8 t (x26 + 1) h25).bind fun h27 =>
   if (1 : Int32) = 0 ∨ (1 : Int32) = 1 then some (some (qI 1), h27) else none) := by
  exact qE 73 [54] (by rfl)
set_option maxRecDepth 100000 in
set_option maxHeartbeats 1000000 in
theorem E116 (d : Nat) (t : Nat) (h : QH) : qcl (d + 1) 116 [qR (some t)] h =
 (qck 4 t h).bind fun _ =>
 cI (qcl d 119 [qR (some t)] h) fun x2 h1 =>
  if x2 = 0 then
  (if (0 : Int32) = 0 ∨ (0 : Int32) = 1 then some (some (qI 0), h1) else none)
 else
  ((qgi 4 4 t h1).bind fun x3 =>
   if x3 = 23 then
   (cV (qcl d 106 [qR (some t)] h1) fun h4 =>
    cI (qcl d 119 [qR (some t)] h4) fun x6 h5 =>
    if x6 = 0 then
    (if (0 : Int32) = 0 ∨ (0 : Int32) = 1 then some (some (qI 0), h5) else none)
   else
    (cV (qcl d 111 [qR (some t), qI x3, qI 0] h5) fun h7 =>
     if (1 : Int32) = 0 ∨ (1 : Int32) = 1 then some (some (qI 1), h7) else none))
  else
   (if x3 = 24 then
    (cV (qcl d 106 [qR (some t)] h1) fun h8 =>
     cI (qcl d 119 [qR (some t)] h8) fun x10 h9 =>
     if x10 = 0 then
     (if (0 : Int32) = 0 ∨ (0 : Int32) = 1 then some (some (qI 0), h9) else none)
    else
     (cV (qcl d 111 [qR (some t), qI x3, qI 0] h9) fun h11 =>
      if (1 : Int32) = 0 ∨ (1 : Int32) = 1 then some (some (qI 1), h11) else none))
   else
    (if x3 = 25 then
     (cV (qcl d 106 [qR (some t)] h1) fun h12 =>
      cI (qcl d 119 [qR (some t)] h12) fun x14 h13 =>
      if x14 = 0 then
      (if (0 : Int32) = 0 ∨ (0 : Int32) = 1 then some (some (qI 0), h13) else none)
     else
      (cV (qcl d 111 [qR (some t), qI x3, qI 0] h13) fun h15 =>
       if (1 : Int32) = 0 ∨ (1 : Int32) = 1 then some (some (qI 1), h15) else none))
    else
     (if (0 : Int32) = 0 ∨ (0 : Int32) = 1 then some (some (qI 0), h1) else none)))) := by
  exact qE0 37 [] (by rfl)
set_option maxRecDepth 100000 in
set_option maxHeartbeats 1000000 in
theorem E117 (d : Nat) (t : Nat) (h : QH) : qcl (d + 1) 117 [qR (some t)] h =
 (qck 4 t h).bind fun _ =>
 (qgi 4 4 t h).bind fun x1 =>
  if x1 = 21 then
  (cI (qcl d 114 [qR (some t), qI 22] h) fun x3 h2 =>
   if (x3 : Int32) = 0 ∨ (x3 : Int32) = 1 then some (some (qI x3), h2) else none)
 else
  ((qgi 4 4 t h).bind fun x4 =>
   if x4 < 8 then
   ((qgi 4 4 t h).bind fun x5 =>
    if x5 = 17 then
    ((qgi 4 5 t h).bind fun x6 =>
     if 1000 < x6 then
     (qbig (d + 1) 117 64 [sR (some t), sI 0, none] [qI 0] h)
    else
     (qbig (d + 1) 117 64 [sR (some t), sI 0, none] [qI 1] h))
   else
    (qbig (d + 1) 117 64 [sR (some t), sI 0, none] [qI 0] h))
  else
   ((qgi 4 4 t h).bind fun x7 =>
    if 16 < x7 then
    ((qgi 4 4 t h).bind fun x8 =>
     if x8 = 17 then
     ((qgi 4 5 t h).bind fun x9 =>
      if 1000 < x9 then
      (qbig (d + 1) 117 64 [sR (some t), sI 0, none] [qI 0] h)
     else
      (qbig (d + 1) 117 64 [sR (some t), sI 0, none] [qI 1] h))
    else
     (qbig (d + 1) 117 64 [sR (some t), sI 0, none] [qI 0] h))
   else
    ((qgi 4 4 t h).bind fun x10 =>
     if x10 = 17 then
     ((qgi 4 5 t h).bind fun x11 =>
      if 1000 < x11 then
      (qbig (d + 1) 117 64 [sR (some t), sI 1, none] [qI 0] h)
     else
      (qbig (d + 1) 117 64 [sR (some t), sI 1, none] [qI 1] h))
    else
     (qbig (d + 1) 117 64 [sR (some t), sI 1, none] [qI 0] h)))) := by
  exact qE0 67 [64] (by rfl)
set_option maxRecDepth 100000 in
set_option maxHeartbeats 1000000 in
theorem E117_64 (d : Nat) (t : Nat) (a1 : Int32) (b0 : Int32) (h : QH) : qbig (d + 1) 117 64 [sR (some t), sI a1, none] [qI b0] h =
 if a1 = 0 then
  (if b0 = 0 then
   (if (0 : Int32) = 0 ∨ (0 : Int32) = 1 then some (some (qI 0), h) else none)
  else
   ((qgi 4 6 t h).bind fun x1 =>
    if x1 < 50 then
    ((qgi 4 6 t h).bind fun x2 =>
     (qpi 4 6 t (x2 + 1) h).bind fun h3 =>
     (qgi 4 4 t h3).bind fun x4 =>
     if b0 = 0 then
     (cV (qcl d 111 [qR (some t), qI x4, qI 0] h3) fun h5 =>
      cV (qcl d 106 [qR (some t)] h5) fun h6 =>
      if (1 : Int32) = 0 ∨ (1 : Int32) = 1 then some (some (qI 1), h6) else none)
    else
     ((qgi 4 5 t h3).bind fun x7 =>
      cV (qcl d 111 [qR (some t), qI x4, qI x7] h3) fun h8 =>
      cV (qcl d 106 [qR (some t)] h8) fun h9 =>
      if (1 : Int32) = 0 ∨ (1 : Int32) = 1 then some (some (qI 1), h9) else none))
   else
    (if (0 : Int32) = 0 ∨ (0 : Int32) = 1 then some (some (qI 0), h) else none)))
 else
  ((qgi 4 6 t h).bind fun x10 =>
   if x10 < 50 then
   ((qgi 4 6 t h).bind fun x11 =>
    (qpi 4 6 t (x11 + 1) h).bind fun h12 =>
    (qgi 4 4 t h12).bind fun x13 =>
    if b0 = 0 then
    (cV (qcl d 111 [qR (some t), qI x13, qI 0] h12) fun h14 =>
     cV (qcl d 106 [qR (some t)] h14) fun h15 =>
     if (1 : Int32) = 0 ∨ (1 : Int32) = 1 then some (some (qI 1), h15) else none)
   else
    ((qgi 4 5 t h12).bind fun x16 =>
     cV (qcl d 111 [qR (some t), qI x13, qI x16] h12) fun h17 =>
     cV (qcl d 106 [qR (some t)] h17) fun h18 =>
     if (1 : Int32) = 0 ∨ (1 : Int32) = 1 then some (some (qI 1), h18) else none))
  else
   (if (0 : Int32) = 0 ∨ (0 : Int32) = 1 then some (some (qI 0), h) else none)) := by
  exact qE 67 [64] (by rfl)
set_option maxRecDepth 100000 in
set_option maxHeartbeats 1000000 in
theorem E118 (d : Nat) (t : Nat) (h : QH) : qcl (d + 1) 118 [qR (some t)] h =
 (qck 4 t h).bind fun _ =>
 qbig (d + 1) 118 4 [sR (some t), sI 0, sI 0] [] h := by
  exact qE0 47 [4] (by rfl)
set_option maxRecDepth 100000 in
set_option maxHeartbeats 1000000 in
theorem E118_4 (d : Nat) (t : Nat) (a1 : Int32) (a2 : Int32) (h : QH) : qbig (d + 1) 118 4 [sR (some t), sI a1, sI a2] [] h =
 (qgi 4 4 t h).bind fun x1 =>
  if x1 = 7 then
  (if a2 < 400 then
   (if a1 = 0 then
    (cV (qcl d 106 [qR (some t)] h) fun h2 =>
     qbig (d + 1) 118 4 [sR (some t), sI 1, sI (a2 + 1)] [] h2)
   else
    (cV (qcl d 106 [qR (some t)] h) fun h3 =>
     qbig (d + 1) 118 4 [sR (some t), sI 0, sI (a2 + 1)] [] h3))
  else
   ((qgi 4 4 t h).bind fun x4 =>
    if x4 = 19 then
    (cI (qcl d 114 [qR (some t), qI 20] h) fun x6 h5 =>
     if x6 = 0 then
     (if (x6 : Int32) = 0 ∨ (x6 : Int32) = 1 then some (some (qI x6), h5) else none)
    else
     (if a1 = 0 then
      (if (x6 : Int32) = 0 ∨ (x6 : Int32) = 1 then some (some (qI x6), h5) else none)
     else
      (cV (qcl d 111 [qR (some t), qI 7, qI 0] h5) fun h7 =>
       if (x6 : Int32) = 0 ∨ (x6 : Int32) = 1 then some (some (qI x6), h7) else none)))
   else
    (cI (qcl d 116 [qR (some t)] h) fun x9 h8 =>
     if x9 = 0 then
     (if (x9 : Int32) = 0 ∨ (x9 : Int32) = 1 then some (some (qI x9), h8) else none)
    else
     (if a1 = 0 then
      (if (x9 : Int32) = 0 ∨ (x9 : Int32) = 1 then some (some (qI x9), h8) else none)
     else
      (cV (qcl d 111 [qR (some t), qI 7, qI 0] h8) fun h10 =>
       if (x9 : Int32) = 0 ∨ (x9 : Int32) = 1 then some (some (qI x9), h10) else none)))))
 else
  ((qgi 4 4 t h).bind fun x11 =>
   if x11 = 19 then
   (cI (qcl d 114 [qR (some t), qI 20] h) fun x13 h12 =>
    if x13 = 0 then
    (if (x13 : Int32) = 0 ∨ (x13 : Int32) = 1 then some (some (qI x13), h12) else none)
   else
    (if a1 = 0 then
     (if (x13 : Int32) = 0 ∨ (x13 : Int32) = 1 then some (some (qI x13), h12) else none)
    else
     (cV (qcl d 111 [qR (some t), qI 7, qI 0] h12) fun h14 =>
      if (x13 : Int32) = 0 ∨ (x13 : Int32) = 1 then some (some (qI x13), h14) else none)))
  else
   (cI (qcl d 116 [qR (some t)] h) fun x16 h15 =>
    if x16 = 0 then
    (if (x16 : Int32) = 0 ∨ (x16 : Int32) = 1 then some (some (qI x16), h15) else none)
   else
    (if a1 = 0 then
     (if (x16 : Int32) = 0 ∨ (x16 : Int32) = 1 then some (some (qI x16), h15) else none)
    else
     (cV (qcl d 111 [qR (some t), qI 7, qI 0] h15) fun h17 =>
      if (x16 : Int32) = 0 ∨ (x16 : Int32) = 1 then some (some (qI x16), h17) else none)))) := by
  exact qE 47 [4] (by rfl)
set_option maxRecDepth 100000 in
set_option maxHeartbeats 1000000 in
theorem E119 (d : Nat) (t : Nat) (h : QH) : qcl (d + 1) 119 [qR (some t)] h =
 (qck 4 t h).bind fun _ =>
 cI (qcl d 120 [qR (some t)] h) fun x2 h1 =>
  qbig (d + 1) 119 7 [sR (some t), sI x2, sI 0, none] [] h1 := by
  exact qE0 39 [7] (by rfl)
set_option maxRecDepth 100000 in
set_option maxHeartbeats 1000000 in
theorem E119_7 (d : Nat) (t : Nat) (a1 : Int32) (a2 : Int32) (h : QH) : qbig (d + 1) 119 7 [sR (some t), sI a1, sI a2, none] [] h =
 if a1 = 0 then
  (if (a1 : Int32) = 0 ∨ (a1 : Int32) = 1 then some (some (qI a1), h) else none)
 else
  ((qgi 4 4 t h).bind fun x1 =>
   if x1 = 26 then
   (if a2 < 400 then
    ((qgi 4 4 t h).bind fun x2 =>
     cV (qcl d 106 [qR (some t)] h) fun h3 =>
     cI (qcl d 120 [qR (some t)] h3) fun x5 h4 =>
     cV (qcl d 111 [qR (some t), qI x2, qI 0] h4) fun h6 =>
     qbig (d + 1) 119 7 [sR (some t), sI x5, sI (a2 + 1), none] [] h6)
   else
    (if (a1 : Int32) = 0 ∨ (a1 : Int32) = 1 then some (some (qI a1), h) else none))
  else
   ((qgi 4 4 t h).bind fun x7 =>
    if x7 = 27 then
    (if a2 < 400 then
     ((qgi 4 4 t h).bind fun x8 =>
      cV (qcl d 106 [qR (some t)] h) fun h9 =>
      cI (qcl d 120 [qR (some t)] h9) fun x11 h10 =>
      cV (qcl d 111 [qR (some t), qI x8, qI 0] h10) fun h12 =>
      qbig (d + 1) 119 7 [sR (some t), sI x11, sI (a2 + 1), none] [] h12)
    else
     (if (a1 : Int32) = 0 ∨ (a1 : Int32) = 1 then some (some (qI a1), h) else none))
   else
    (if (a1 : Int32) = 0 ∨ (a1 : Int32) = 1 then some (some (qI a1), h) else none))) := by
  exact qE 39 [7] (by rfl)
set_option maxRecDepth 100000 in
set_option maxHeartbeats 1000000 in
theorem E120 (d : Nat) (t : Nat) (h : QH) : qcl (d + 1) 120 [qR (some t)] h =
 (qck 4 t h).bind fun _ =>
 cI (qcl d 117 [qR (some t)] h) fun x2 h1 =>
  qbig (d + 1) 120 7 [sR (some t), sI x2, sI 0, none] [] h1 := by
  exact qE0 39 [7] (by rfl)
set_option maxRecDepth 100000 in
set_option maxHeartbeats 1000000 in
theorem E120_7 (d : Nat) (t : Nat) (a1 : Int32) (a2 : Int32) (h : QH) : qbig (d + 1) 120 7 [sR (some t), sI a1, sI a2, none] [] h =
 if a1 = 0 then
  (if (a1 : Int32) = 0 ∨ (a1 : Int32) = 1 then some (some (qI a1), h) else none)
 else
  ((qgi 4 4 t h).bind fun x1 =>
   if x1 = 28 then
   (if a2 < 400 then
    ((qgi 4 4 t h).bind fun x2 =>
     cV (qcl d 106 [qR (some t)] h) fun h3 =>
     cI (qcl d 117 [qR (some t)] h3) fun x5 h4 =>
     cV (qcl d 111 [qR (some t), qI x2, qI 0] h4) fun h6 =>
     qbig (d + 1) 120 7 [sR (some t), sI x5, sI (a2 + 1), none] [] h6)
   else
    (if (a1 : Int32) = 0 ∨ (a1 : Int32) = 1 then some (some (qI a1), h) else none))
  else
   ((qgi 4 4 t h).bind fun x7 =>
    if x7 = 29 then
    (if a2 < 400 then
     ((qgi 4 4 t h).bind fun x8 =>
      cV (qcl d 106 [qR (some t)] h) fun h9 =>
      cI (qcl d 117 [qR (some t)] h9) fun x11 h10 =>
      cV (qcl d 111 [qR (some t), qI x8, qI 0] h10) fun h12 =>
      qbig (d + 1) 120 7 [sR (some t), sI x11, sI (a2 + 1), none] [] h12)
    else
     (if (a1 : Int32) = 0 ∨ (a1 : Int32) = 1 then some (some (qI a1), h) else none))
   else
    (if (a1 : Int32) = 0 ∨ (a1 : Int32) = 1 then some (some (qI a1), h) else none))) := by
  exact qE 39 [7] (by rfl)
set_option maxRecDepth 100000 in
set_option maxHeartbeats 1000000 in
theorem E121 (d : Nat) (t : Nat) (h : QH) : qcl (d + 1) 121 [qR (some t)] h =
 (qck 4 t h).bind fun _ =>
 cI (qcl d 113 [qR (some t)] h) fun x2 h1 =>
  qbig (d + 1) 121 7 [sR (some t), sI x2, sI 0, none] [] h1 := by
  exact qE0 38 [7] (by rfl)
set_option maxRecDepth 100000 in
set_option maxHeartbeats 1000000 in
theorem E121_7 (d : Nat) (t : Nat) (a1 : Int32) (a2 : Int32) (h : QH) : qbig (d + 1) 121 7 [sR (some t), sI a1, sI a2, none] [] h =
 if a1 = 0 then
  (if (a1 : Int32) = 0 ∨ (a1 : Int32) = 1 then some (some (qI a1), h) else none)
 else
  ((qgi 4 4 t h).bind fun x1 =>
   if x1 = 5 then
   (if a2 < 400 then
    ((qgi 4 9 t h).bind fun x2 =>
     cV (qcl d 111 [qR (some t), qI 5, qI 0] h) fun h3 =>
     cV (qcl d 106 [qR (some t)] h3) fun h4 =>
     cI (qcl d 113 [qR (some t)] h4) fun x6 h5 =>
     cV (qcl d 107 [qR (some t), qI x2] h5) fun h7 =>
     qbig (d + 1) 121 7 [sR (some t), sI x6, sI (a2 + 1), none] [] h7)
   else
    (if (a1 : Int32) = 0 ∨ (a1 : Int32) = 1 then some (some (qI a1), h) else none))
  else
   (if (a1 : Int32) = 0 ∨ (a1 : Int32) = 1 then some (some (qI a1), h) else none)) := by
  exact qE 38 [7] (by rfl)
set_option maxRecDepth 100000 in
set_option maxHeartbeats 1000000 in
theorem E122 (d : Nat) (t : Nat) (h : QH) : qcl (d + 1) 122 [qR (some t)] h =
 (qck 4 t h).bind fun _ =>
 (qpi 4 4 t 17 h).bind fun h1 =>
  (qpi 4 5 t 0 h1).bind fun h2 =>
  qbig (d + 1) 122 11 [sR (some t)] [] h2 := by
  exact qE0 47 [11] (by rfl)
set_option maxRecDepth 100000 in
set_option maxHeartbeats 1000000 in
theorem E122_11 (d : Nat) (t : Nat) (h : QH) : qbig (d + 1) 122 11 [sR (some t)] [] h =
 (qgi 4 3 t h).bind fun x1 =>
  (qgi 4 2 t h).bind fun x2 =>
  if x1 < x2 then
  ((qgr 4 1 t h).bind fun o3 =>
   (qgi 4 3 t h).bind fun x4 =>
   o3.bind fun p5 => (qai 0 p5 x4 h).bind fun x6 =>
   cI (qcl d 108 [qI x6] h) fun x8 h7 =>
   if x8 = 0 then
   (some (none, h7))
  else
   ((qgi 4 5 t h7).bind fun x9 =>
    (qgr 4 1 t h7).bind fun o10 =>
    (qgi 4 3 t h7).bind fun x11 =>
    o10.bind fun p12 => (qai 0 p12 x11 h7).bind fun x13 =>
    (qpi 4 5 t (if 1001 < (((x9 * 10) + x13) - 48) then 1001 else (((x9 * 10) + x13) - 48)) h7).bind fun h14 =>
    (qgi 4 3 t h14).bind fun x15 =>
    (qpi 4 3 t (x15 + 1) h14).bind fun h16 =>
    qbig (d + 1) 122 11 [sR (some t)] [] h16))
 else
  (some (none, h)) := by
  exact qE 47 [11] (by rfl)
set_option maxRecDepth 100000 in
set_option maxHeartbeats 1000000 in
theorem E123 (d : Nat) (t : Nat) (h : QH) : qcl (d + 1) 123 [qR (some t)] h =
 (qck 4 t h).bind fun _ =>
 (qpi 4 4 t 30 h).bind fun h1 =>
  qbig (d + 1) 123 8 [sR (some t), sI 0] [] h1 := by
  exact qE0 39 [8] (by rfl)
set_option maxRecDepth 100000 in
set_option maxHeartbeats 1000000 in
theorem E123_8 (d : Nat) (t : Nat) (a1 : Int32) (h : QH) : qbig (d + 1) 123 8 [sR (some t), sI a1] [] h =
 (qgr 4 11 t h).bind fun o1 =>
  o1.bind fun p2 => (qal p2 h).bind fun x3 =>
  if a1 < x3 then
  ((qgr 4 11 t h).bind fun o4 =>
   o4.bind fun p5 => (qai 3 p5 a1 h).bind fun x6 =>
   (qgr 4 1 t h).bind fun o7 =>
   (qgi 4 3 t h).bind fun x8 =>
   o7.bind fun p9 => (qai 0 p9 x8 h).bind fun x10 =>
   if x6 = x10 then
   ((qpi 4 4 t (18 + a1) h).bind fun h11 =>
    qbig (d + 1) 123 8 [sR (some t), sI (a1 + 1)] [] h11)
  else
   (qbig (d + 1) 123 8 [sR (some t), sI (a1 + 1)] [] h))
 else
  ((qgi 4 3 t h).bind fun x12 =>
   (qpi 4 3 t (x12 + 1) h).bind fun h13 =>
   some (none, h13)) := by
  exact qE 39 [8] (by rfl)
set_option maxRecDepth 100000 in
set_option maxHeartbeats 1000000 in
theorem E124 (d : Nat) (t : Nat) (h : QH) : qcl (d + 1) 124 [qR (some t)] h =
 (qck 4 t h).bind fun _ =>
 (qgi 4 3 t h).bind fun x1 =>
  (qgi 4 2 t h).bind fun x2 =>
  if x1 < x2 then
  ((qgr 4 1 t h).bind fun o3 =>
   (qgi 4 3 t h).bind fun x4 =>
   o3.bind fun p5 => (qai 0 p5 x4 h).bind fun x6 =>
   cI (qcl d 109 [qI x6] h) fun x8 h7 =>
   if x8 = 0 then
   ((qpi 4 4 t 30 h7).bind fun h9 =>
    qbig (d + 1) 124 51 [sR (some t), sI 0, sI 0, sI 0] [] h9)
  else
   ((qgi 4 3 t h7).bind fun x10 =>
    (qpi 4 3 t (x10 + 1) h7).bind fun h11 =>
    qbig (d + 1) 124 0 [sR (some t), none, none, none] [] h11))
 else
  ((qpi 4 4 t 30 h).bind fun h12 =>
   qbig (d + 1) 124 51 [sR (some t), sI 0, sI 0, sI 0] [] h12) := by
  exact qE0 64 [0, 51] (by rfl)
set_option maxRecDepth 100000 in
set_option maxHeartbeats 1000000 in
theorem E124_0 (d : Nat) (t : Nat) (h : QH) : qbig (d + 1) 124 0 [sR (some t), none, none, none] [] h =
 (qgi 4 3 t h).bind fun x1 =>
  (qgi 4 2 t h).bind fun x2 =>
  if x1 < x2 then
  ((qgr 4 1 t h).bind fun o3 =>
   (qgi 4 3 t h).bind fun x4 =>
   o3.bind fun p5 => (qai 0 p5 x4 h).bind fun x6 =>
   cI (qcl d 109 [qI x6] h) fun x8 h7 =>
   if x8 = 0 then
   ((qpi 4 4 t 30 h7).bind fun h9 =>
    qbig (d + 1) 124 51 [sR (some t), sI 0, sI 0, sI 0] [] h9)
  else
   ((qgi 4 3 t h7).bind fun x10 =>
    (qpi 4 3 t (x10 + 1) h7).bind fun h11 =>
    qbig (d + 1) 124 0 [sR (some t), none, none, none] [] h11))
 else
  ((qpi 4 4 t 30 h).bind fun h12 =>
   qbig (d + 1) 124 51 [sR (some t), sI 0, sI 0, sI 0] [] h12) := by
  exact qE 64 [0, 51] (by rfl)
set_option maxRecDepth 100000 in
set_option maxHeartbeats 1000000 in
theorem E124_51 (d : Nat) (t : Nat) (a1 : Int32) (a2 : Int32) (a3 : Int32) (h : QH) : qbig (d + 1) 124 51 [sR (some t), sI a1, sI a2, sI a3] [] h =
 (qgr 4 10 t h).bind fun o1 =>
  o1.bind fun p2 => (qal p2 h).bind fun x3 =>
  if a3 < x3 then
  ((qgi 4 4 t h).bind fun x4 =>
   if x4 = 30 then
   ((qgr 4 10 t h).bind fun o5 =>
    o5.bind fun p6 => (qai 3 p6 a3 h).bind fun x7 =>
    if x7 = 32 then
    (cI (qcl d 110 [qR (some t), qI a2, qI a3] h) fun x9 h8 =>
     if x9 = 0 then
     (qbig (d + 1) 124 51 [sR (some t), sI (a1 + 1), sI (a3 + 1), sI (a3 + 1)] [] h8)
    else
     ((qpi 4 4 t a1 h8).bind fun h10 =>
      qbig (d + 1) 124 51 [sR (some t), sI (a1 + 1), sI (a3 + 1), sI (a3 + 1)] [] h10))
   else
    (qbig (d + 1) 124 51 [sR (some t), sI a1, sI a2, sI (a3 + 1)] [] h))
  else
   (some (none, h)))
 else
  (some (none, h)) := by
  exact qE 64 [0, 51] (by rfl)
set_option maxRecDepth 100000 in
set_option maxHeartbeats 1000000 in
theorem E125 (d : Nat) (t : Nat) (h : QH) : qcl (d + 1) 125 [qR (some t)] h =
 (qck 5 t h).bind fun _ =>
 (qpi 5 0 t 0 h).bind fun h1 =>
  (qna 0 60 h1).bind fun h2 =>
  (qpr 5 1 t (some (hN h1)) h2).bind fun h3 =>
  (qna 0 60 h3).bind fun h4 =>
  (qpr 5 2 t (some (hN h3)) h4).bind fun h5 =>
  (qna 0 60 h5).bind fun h6 =>
  (qpr 5 3 t (some (hN h5)) h6).bind fun h7 =>
  (qna 0 60 h7).bind fun h8 =>
  (qpr 5 4 t (some (hN h7)) h8).bind fun h9 =>
  (qna 0 60 h9).bind fun h10 =>
  (qpr 5 5 t (some (hN h9)) h10).bind fun h11 =>
  some (none, h11) := by
  exact qE0 31 [] (by rfl)
set_option maxRecDepth 100000 in
set_option maxHeartbeats 1000000 in
theorem E126 (d : Nat) (t : Nat) (a1 : Int32) (a2 : Int32) (a3 : Int32) (a4 : Int32) (h : QH) : qcl (d + 1) 126 [qR (some t), qI a1, qI a2, qI a3, qI a4] h =
 (qck 5 t h).bind fun _ =>
 (qgi 5 0 t h).bind fun x1 =>
  (qgr 5 1 t h).bind fun o2 =>
  o2.bind fun p3 => (qsi 0 p3 x1 a1 h).bind fun h4 =>
  (qgr 5 2 t h4).bind fun o5 =>
  o5.bind fun p6 => (qsi 0 p6 x1 a2 h4).bind fun h7 =>
  (qgr 5 3 t h7).bind fun o8 =>
  o8.bind fun p9 => (qsi 0 p9 x1 a3 h7).bind fun h10 =>
  (qgr 5 4 t h10).bind fun o11 =>
  o11.bind fun p12 => (qsi 0 p12 x1 a4 h10).bind fun h13 =>
  (qgr 5 5 t h13).bind fun o14 =>
  o14.bind fun p15 => (qsi 0 p15 x1 0 h13).bind fun h16 =>
  (qgi 5 0 t h16).bind fun x17 =>
  (qpi 5 0 t (x17 + 1) h16).bind fun h18 =>
  some (some (qI x1), h18) := by
  exact qE0 41 [] (by rfl)
set_option maxRecDepth 100000 in
set_option maxHeartbeats 1000000 in
theorem E127 (d : Nat) (t : Nat) (a1 : Option Nat) (h : QH) : qcl (d + 1) 127 [qR (some t), qR a1] h =
 (qck 5 t h).bind fun _ =>
 a1.bind fun p1 => (qgi 5 0 p1 h).bind fun x2 =>
  (qpi 5 0 t x2 h).bind fun h3 =>
  a1.bind fun p4 => (qgr 5 1 p4 h3).bind fun o5 =>
  (qgr 5 1 t h3).bind fun o6 =>
  (qgr 5 1 t h3).bind fun o7 =>
  o7.bind fun p8 => (qal p8 h3).bind fun x9 =>
  o6.bind fun p11 => o5.bind fun p12 => (qcp p12 0 p11 0 x9 h3).bind fun h10 =>
  a1.bind fun p13 => (qgr 5 2 p13 h10).bind fun o14 =>
  (qgr 5 2 t h10).bind fun o15 =>
  (qgr 5 2 t h10).bind fun o16 =>
  o16.bind fun p17 => (qal p17 h10).bind fun x18 =>
  o15.bind fun p20 => o14.bind fun p21 => (qcp p21 0 p20 0 x18 h10).bind fun h19 =>
  a1.bind fun p22 => (qgr 5 3 p22 h19).bind fun o23 =>
  (qgr 5 3 t h19).bind fun o24 =>
  (qgr 5 3 t h19).bind fun o25 =>
  o25.bind fun p26 => (qal p26 h19).bind fun x27 =>
  o24.bind fun p29 => o23.bind fun p30 => (qcp p30 0 p29 0 x27 h19).bind fun h28 =>
  a1.bind fun p31 => (qgr 5 4 p31 h28).bind fun o32 =>
  (qgr 5 4 t h28).bind fun o33 =>
  (qgr 5 4 t h28).bind fun o34 =>
  o34.bind fun p35 => (qal p35 h28).bind fun x36 =>
  o33.bind fun p38 => o32.bind fun p39 => (qcp p39 0 p38 0 x36 h28).bind fun h37 =>
  a1.bind fun p40 => (qgr 5 5 p40 h37).bind fun o41 =>
  (qgr 5 5 t h37).bind fun o42 =>
  (qgr 5 5 t h37).bind fun o43 =>
  o43.bind fun p44 => (qal p44 h37).bind fun x45 =>
  o42.bind fun p47 => o41.bind fun p48 => (qcp p48 0 p47 0 x45 h37).bind fun h46 =>
  some (none, h46) := by
  exact qE0 60 [] (by rfl)
set_option maxRecDepth 100000 in
set_option maxHeartbeats 1000000 in
theorem E128 (d : Nat) (t : Nat) (a1 : Int32) (h : QH) : qcl (d + 1) 128 [qR (some t), qI a1] h =
 (qck 5 t h).bind fun _ =>
 if a1 < 0 then
  (if (0 : Int32) = 0 ∨ (0 : Int32) = 1 then some (some (qI 0), h) else none)
 else
  ((qgi 5 0 t h).bind fun x1 =>
   if a1 < x1 then
   (if (1 : Int32) = 0 ∨ (1 : Int32) = 1 then some (some (qI 1), h) else none)
  else
   (if (0 : Int32) = 0 ∨ (0 : Int32) = 1 then some (some (qI 0), h) else none)) := by
  exact qE0 15 [] (by rfl)
set_option maxRecDepth 100000 in
set_option maxHeartbeats 1000000 in
theorem E129 (d : Nat) (t : Nat) (h : QH) : qcl (d + 1) 129 [qR (some t)] h =
 (qck 6 t h).bind fun _ =>
 (qpi 6 0 t (-1) h).bind fun h1 =>
  (qna 0 31 h1).bind fun h2 =>
  (qpr 6 1 t (some (hN h1)) h2).bind fun h3 =>
  (qpi 6 2 t (-1) h3).bind fun h4 =>
  (qpi 6 3 t (-1) h4).bind fun h5 =>
  (qpi 6 4 t 0 h5).bind fun h6 =>
  (qpi 6 5 t 0 h6).bind fun h7 =>
  (qpi 6 6 t 0 h7).bind fun h8 =>
  (qpi 6 7 t 0 h8).bind fun h9 =>
  (qna 0 8 h9).bind fun h10 =>
  (qpr 6 8 t (some (hN h9)) h10).bind fun h11 =>
  (qna 0 30 h11).bind fun h12 =>
  (qpr 6 9 t (some (hN h11)) h12).bind fun h13 =>
  (qna 2 256 h13).bind fun h14 =>
  (qpr 6 10 t (some (hN h13)) h14).bind fun h15 =>
  (qna 0 256 h15).bind fun h16 =>
  (qpr 6 11 t (some (hN h15)) h16).bind fun h17 =>
  (qna 0 256 h17).bind fun h18 =>
  (qpr 6 12 t (some (hN h17)) h18).bind fun h19 =>
  some (none, h19) := by
  exact qE0 53 [] (by rfl)
set_option maxRecDepth 100000 in
set_option maxHeartbeats 1000000 in
theorem E130 (d : Nat) (t : Nat) (a1 : Option Nat) (a2 : Int32) (a3 : Int32) (h : QH) : qcl (d + 1) 130 [qR (some t), qR a1, qI a2, qI a3] h =
 (qck 6 t h).bind fun _ =>
 cI (qcl d 135 [qR (some t), qI a2, qI (a3 + 1)] h) fun x2 h1 =>
  if x2 = 0 then
  (cV (qcl d 136 [qR (some t), qR a1, qI a2, qI a3] h1) fun h3 =>
   (qgi 6 6 t h3).bind fun x4 =>
   cI (qcl d 1 [qI x4] h3) fun x6 h5 =>
   qbig (d + 1) 130 34 [sR (some t), none, sI a2, sI a3, sI 0, sI (1 <<< (x6 &&& 31))] [] h5)
 else
  (if (1 : Int32) = 0 ∨ (1 : Int32) = 1 then some (some (qI 1), h1) else none) := by
  exact qE0 62 [34] (by rfl)
set_option maxRecDepth 100000 in
set_option maxHeartbeats 1000000 in
theorem E130_34 (d : Nat) (t : Nat) (a2 : Int32) (a3 : Int32) (a4 : Int32) (a5 : Int32) (h : QH) : qbig (d + 1) 130 34 [sR (some t), none, sI a2, sI a3, sI a4, sI a5] [] h =
 if 0 < a5 then
  ((qgr 6 10 t h).bind fun o1 =>
   o1.bind fun p2 => (qai 2 p2 a4 h).bind fun x3 =>
   if x3 = 0 then
   ((qgi 6 6 t h).bind fun x4 =>
    (qgi 6 6 t h).bind fun x5 =>
    qbig (d + 1) 130 34 [sR (some t), none, sI a2, sI a3, sI ((a4 - x4) &&& x5), sI (a5 + (-1))] [] h)
  else
   (cI (qcl d 1 [qI a4] h) fun x7 h6 =>
    (qgi 6 7 t h6).bind fun x8 =>
    if x7 = x8 then
    (cI (qcl d 135 [qR (some t), qI (a2 ||| a4), qI (a3 + 1)] h6) fun x10 h9 =>
     if x10 = 0 then
     ((qgi 6 6 t h9).bind fun x11 =>
      (qgi 6 6 t h9).bind fun x12 =>
      qbig (d + 1) 130 34 [sR (some t), none, sI a2, sI a3, sI ((a4 - x11) &&& x12), sI (a5 + (-1))] [] h9)
    else
     (if (1 : Int32) = 0 ∨ (1 : Int32) = 1 then some (some (qI 1), h9) else none))
   else
    ((qgi 6 6 t h6).bind fun x13 =>
     (qgi 6 6 t h6).bind fun x14 =>
     qbig (d + 1) 130 34 [sR (some t), none, sI a2, sI a3, sI ((a4 - x13) &&& x14), sI (a5 + (-1))] [] h6)))
 else
  (if (0 : Int32) = 0 ∨ (0 : Int32) = 1 then some (some (qI 0), h) else none) := by
  exact qE 62 [34] (by rfl)
set_option maxRecDepth 100000 in
set_option maxHeartbeats 1000000 in
theorem E131 (d : Nat) (t : Nat) (a1 : Option Nat) (a2 : Int32) (h : QH) : qcl (d + 1) 131 [qR (some t), qR a1, qI a2] h =
 (qck 6 t h).bind fun _ =>
 (qgr 6 11 t h).bind fun o1 =>
  cV (qcl d 8 [qR o1, qI (-1)] h) fun h2 =>
  (qgr 6 11 t h2).bind fun o3 =>
  o3.bind fun p4 => (qsi 0 p4 a2 0 h2).bind fun h5 =>
  qbig (d + 1) 131 17 [sR (some t), sR a1, sI a2, sI 0, none] [] h5 := by
  exact qE0 60 [17, 44] (by rfl)
set_option maxRecDepth 100000 in
set_option maxHeartbeats 1000000 in
theorem E131_17 (d : Nat) (t : Nat) (a1 : Option Nat) (a2 : Int32) (a3 : Int32) (h : QH) : qbig (d + 1) 131 17 [sR (some t), sR a1, sI a2, sI a3, none] [] h =
 if a3 < 30 then
  ((qgr 6 11 t h).bind fun o1 =>
   (qgi 6 4 t h).bind fun x2 =>
   o1.bind fun p3 => (qai 0 p3 x2 h).bind fun x4 =>
   if x4 = a3 then
   (some (some (qI a3), h))
  else
   ((qgi 6 4 t h).bind fun x5 =>
    qbig (d + 1) 131 44 [sR (some t), sR a1, sI a2, sI a3, sI x5] [] h))
 else
  ((qgr 6 11 t h).bind fun o6 =>
   (qgi 6 4 t h).bind fun x7 =>
   o6.bind fun p8 => (qai 0 p8 x7 h).bind fun x9 =>
   if x9 = 30 then
   (some (some (qI 30), h))
  else
   (some (some (qI (-1)), h))) := by
  exact qE 60 [17, 44] (by rfl)
set_option maxRecDepth 100000 in
set_option maxHeartbeats 1000000 in
theorem E131_44 (d : Nat) (t : Nat) (a1 : Option Nat) (a2 : Int32) (a3 : Int32) (a4 : Int32) (h : QH) : qbig (d + 1) 131 44 [sR (some t), sR a1, sI a2, sI a3, sI a4] [] h =
 if a4 < a2 then
  (qbig (d + 1) 131 17 [sR (some t), sR a1, sI a2, sI (a3 + 1), none] [] h)
 else
  ((qgr 6 11 t h).bind fun o1 =>
   o1.bind fun p2 => (qai 0 p2 a4 h).bind fun x3 =>
   if x3 = a3 then
   (cV (qcl d 134 [qR (some t), qR a1, qI a4, qI a3] h) fun h4 =>
    qbig (d + 1) 131 44 [sR (some t), sR a1, sI a2, sI a3, sI (a4 + (-1))] [] h4)
  else
   (qbig (d + 1) 131 44 [sR (some t), sR a1, sI a2, sI a3, sI (a4 + (-1))] [] h)) := by
  exact qE 60 [17, 44] (by rfl)
set_option maxRecDepth 100000 in
set_option maxHeartbeats 1000000 in
theorem E132 (d : Nat) (t : Nat) (a1 : Option Nat) (a2 : Int32) (a3 : Int32) (h : QH) : qcl (d + 1) 132 [qR (some t), qR a1, qI a2, qI a3] h =
 (qck 6 t h).bind fun _ =>
 (qgi 6 2 t h).bind fun x1 =>
  if x1 = a3 then
  ((qgi 6 3 t h).bind fun x2 =>
   if x2 = a2 then
   (some (none, h))
  else
   ((qpi 6 2 t a3 h).bind fun h3 =>
    (qpi 6 3 t a2 h3).bind fun h4 =>
    a1.bind fun p5 => (qgr 10 0 p5 h4).bind fun o6 =>
    cI (qcl d 81 [qR o6, qI a2] h4) fun x8 h7 =>
    a1.bind fun p9 => (qgr 10 0 p9 h7).bind fun o10 =>
    cI (qcl d 79 [qR o10] h7) fun x12 h11 =>
    cV (qcl d 139 [qR (some t), qR a1, qI a2, qI x12] h11) fun h13 =>
    a1.bind fun p14 => (qgr 10 0 p14 h13).bind fun o15 =>
    cI (qcl d 131 [qR (some t), qR o15, qI x8] h13) fun x17 h16 =>
    (qpi 6 0 t x17 h16).bind fun h18 =>
    (qgi 6 0 t h18).bind fun x19 =>
    if x19 = (-1) then
    (some (none, h18))
   else
    (a1.bind fun p20 => (qgr 10 0 p20 h18).bind fun o21 =>
     cV (qcl d 138 [qR (some t), qR o21, qI x8] h18) fun h22 =>
     a1.bind fun p23 => (qgr 10 0 p23 h22).bind fun o24 =>
     cV (qcl d 144 [qR (some t), qR o24, qI x8] h22) fun h25 =>
     some (none, h25))))
 else
  ((qpi 6 2 t a3 h).bind fun h26 =>
   (qpi 6 3 t a2 h26).bind fun h27 =>
   a1.bind fun p28 => (qgr 10 0 p28 h27).bind fun o29 =>
   cI (qcl d 81 [qR o29, qI a2] h27) fun x31 h30 =>
   a1.bind fun p32 => (qgr 10 0 p32 h30).bind fun o33 =>
   cI (qcl d 79 [qR o33] h30) fun x35 h34 =>
   cV (qcl d 139 [qR (some t), qR a1, qI a2, qI x35] h34) fun h36 =>
   a1.bind fun p37 => (qgr 10 0 p37 h36).bind fun o38 =>
   cI (qcl d 131 [qR (some t), qR o38, qI x31] h36) fun x40 h39 =>
   (qpi 6 0 t x40 h39).bind fun h41 =>
   (qgi 6 0 t h41).bind fun x42 =>
   if x42 = (-1) then
   (some (none, h41))
  else
   (a1.bind fun p43 => (qgr 10 0 p43 h41).bind fun o44 =>
    cV (qcl d 138 [qR (some t), qR o44, qI x31] h41) fun h45 =>
    a1.bind fun p46 => (qgr 10 0 p46 h45).bind fun o47 =>
    cV (qcl d 144 [qR (some t), qR o47, qI x31] h45) fun h48 =>
    some (none, h48))) := by
  exact qE0 54 [] (by rfl)
set_option maxRecDepth 100000 in
set_option maxHeartbeats 1000000 in
theorem E133 (d : Nat) (t : Nat) (a1 : Option Nat) (a2 : Int32) (a3 : Int32) (h : QH) : qcl (d + 1) 133 [qR (some t), qR a1, qI a2, qI a3] h =
 (qck 6 t h).bind fun _ =>
 a1.bind fun p1 => (qgr 10 1 p1 h).bind fun o2 =>
  cI (qcl d 71 [qR o2, qI a2, qI 1] h) fun x4 h3 =>
  qbig (d + 1) 133 14 [sR (some t), sR a1, none, sI a3, sI x4, sI 0] [] h3 := by
  exact qE0 34 [14] (by rfl)
set_option maxRecDepth 100000 in
set_option maxHeartbeats 1000000 in
theorem E133_14 (d : Nat) (t : Nat) (a1 : Option Nat) (a3 : Int32) (a4 : Int32) (a5 : Int32) (h : QH) : qbig (d + 1) 133 14 [sR (some t), sR a1, none, sI a3, sI a4, sI a5] [] h =
 if a5 < 8 then
  (a1.bind fun p1 => (qgr 10 0 p1 h).bind fun o2 =>
   cI (qcl d 141 [qR (some t), qR o2, qI a4, qI a3, qI a5] h) fun x4 h3 =>
   (qgr 6 11 t h3).bind fun o5 =>
   o5.bind fun p6 => (qai 0 p6 a3 h3).bind fun x7 =>
   if x4 = x7 then
   (some (some (qI a5), h3))
  else
   (qbig (d + 1) 133 14 [sR (some t), sR a1, none, sI a3, sI a4, sI (a5 + 1)] [] h3))
 else
  (some (some (qI (-1)), h)) := by
  exact qE 34 [14] (by rfl)
set_option maxRecDepth 100000 in
set_option maxHeartbeats 1000000 in
theorem E134 (d : Nat) (t : Nat) (a1 : Option Nat) (a2 : Int32) (a3 : Int32) (h : QH) : qcl (d + 1) 134 [qR (some t), qR a1, qI a2, qI a3] h =
 (qck 6 t h).bind fun _ =>
 cV (qcl d 136 [qR (some t), qR a1, qI a2, qI a3] h) fun h1 =>
  (qgi 6 6 t h1).bind fun x2 =>
  cI (qcl d 1 [qI x2] h1) fun x4 h3 =>
  qbig (d + 1) 134 21 [sR (some t), none, sI a2, sI a3, sI 0, sI (1 <<< (x4 &&& 31))] [] h3 := by
  exact qE0 50 [21] (by rfl)
set_option maxRecDepth 100000 in
set_option maxHeartbeats 1000000 in
theorem E134_21 (d : Nat) (t : Nat) (a2 : Int32) (a3 : Int32) (a4 : Int32) (a5 : Int32) (h : QH) : qbig (d + 1) 134 21 [sR (some t), none, sI a2, sI a3, sI a4, sI a5] [] h =
 if 0 < a5 then
  ((qgr 6 10 t h).bind fun o1 =>
   o1.bind fun p2 => (qai 2 p2 a4 h).bind fun x3 =>
   if x3 = 0 then
   ((qgi 6 6 t h).bind fun x4 =>
    (qgi 6 6 t h).bind fun x5 =>
    qbig (d + 1) 134 21 [sR (some t), none, sI a2, sI a3, sI ((a4 - x4) &&& x5), sI (a5 + (-1))] [] h)
  else
   (cI (qcl d 1 [qI a4] h) fun x7 h6 =>
    (qgi 6 7 t h6).bind fun x8 =>
    if x7 = x8 then
    ((qgr 6 11 t h6).bind fun o9 =>
     o9.bind fun p10 => (qsi 0 p10 (a2 ||| a4) (a3 + 1) h6).bind fun h11 =>
     (qgi 6 6 t h11).bind fun x12 =>
     (qgi 6 6 t h11).bind fun x13 =>
     qbig (d + 1) 134 21 [sR (some t), none, sI a2, sI a3, sI ((a4 - x12) &&& x13), sI (a5 + (-1))] [] h11)
   else
    ((qgi 6 6 t h6).bind fun x14 =>
     (qgi 6 6 t h6).bind fun x15 =>
     qbig (d + 1) 134 21 [sR (some t), none, sI a2, sI a3, sI ((a4 - x14) &&& x15), sI (a5 + (-1))] [] h6)))
 else
  (some (none, h)) := by
  exact qE 50 [21] (by rfl)
set_option maxRecDepth 100000 in
set_option maxHeartbeats 1000000 in
theorem E135 (d : Nat) (t : Nat) (a1 : Int32) (a2 : Int32) (h : QH) : qcl (d + 1) 135 [qR (some t), qI a1, qI a2] h =
 (qck 6 t h).bind fun _ =>
 (qgr 6 12 t h).bind fun o1 =>
  o1.bind fun p2 => (qai 0 p2 a1 h).bind fun x3 =>
  if ((x3 >>> (a2 &&& 31)) &&& 1) = 0 then
  (if (0 : Int32) = 0 ∨ (0 : Int32) = 1 then some (some (qI 0), h) else none)
 else
  (if (1 : Int32) = 0 ∨ (1 : Int32) = 1 then some (some (qI 1), h) else none) := by
  exact qE0 18 [] (by rfl)
set_option maxRecDepth 100000 in
set_option maxHeartbeats 1000000 in
theorem E136 (d : Nat) (t : Nat) (a1 : Option Nat) (a2 : Int32) (a3 : Int32) (h : QH) : qcl (d + 1) 136 [qR (some t), qR a1, qI a2, qI a3] h =
 (qck 6 t h).bind fun _ =>
 (qgr 6 9 t h).bind fun o1 =>
  o1.bind fun p2 => (qai 0 p2 a3 h).bind fun x3 =>
  (qgi 6 5 t h).bind fun x4 =>
  (qgr 6 9 t h).bind fun o5 =>
  o5.bind fun p6 => (qai 0 p6 a3 h).bind fun x7 =>
  (qgi 6 5 t h).bind fun x8 =>
  (qpi 6 6 t 0 h).bind fun h9 =>
  qbig (d + 1) 136 40 [sR (some t), sR a1, none, none, sI ((x3 &&& a2) &&& x4), sI ((x7 &&& x8) &&& (a2 ^^^ (-1))), sI 0, none, none] [] h9 := by
  exact qE0 117 [40, 110] (by rfl)
set_option maxRecDepth 100000 in
set_option maxHeartbeats 1000000 in
theorem E136_40 (d : Nat) (t : Nat) (a1 : Option Nat) (a4 : Int32) (a5 : Int32) (a6 : Int32) (h : QH) : qbig (d + 1) 136 40 [sR (some t), sR a1, none, none, sI a4, sI a5, sI a6, none, none] [] h =
 if a6 < 8 then
  (if ((a4 >>> (a6 &&& 31)) &&& 1) = 0 then
   (qbig (d + 1) 136 40 [sR (some t), sR a1, none, none, sI a4, sI a5, sI (a6 + 1), none, none] [] h)
  else
   ((qgi 6 6 t h).bind fun x1 =>
    a1.bind fun p2 => (qgr 2 3 p2 h).bind fun o3 =>
    o3.bind fun p4 => (qai 0 p4 a6 h).bind fun x5 =>
    (qpi 6 6 t (x1 ||| (x5 &&& a5)) h).bind fun h6 =>
    qbig (d + 1) 136 40 [sR (some t), sR a1, none, none, sI a4, sI a5, sI (a6 + 1), none, none] [] h6))
 else
  ((qpi 6 7 t 0 h).bind fun h7 =>
   (qgr 6 10 t h7).bind fun o8 =>
   o8.bind fun p9 => (qsi 2 p9 0 (1 &&& 1) h7).bind fun h10 =>
   (qgi 6 6 t h10).bind fun x11 =>
   cI (qcl d 1 [qI x11] h10) fun x13 h12 =>
   qbig (d + 1) 136 110 [sR (some t), sR a1, none, none, sI a4, none, sI 0, sI ((1 <<< (x13 &&& 31)) - 1), none] [] h12) := by
  exact qE 117 [40, 110] (by rfl)
set_option maxRecDepth 100000 in
set_option maxHeartbeats 1000000 in
theorem E136_110 (d : Nat) (t : Nat) (a1 : Option Nat) (a4 : Int32) (a6 : Int32) (a7 : Int32) (h : QH) : qbig (d + 1) 136 110 [sR (some t), sR a1, none, none, sI a4, none, sI a6, sI a7, none] [] h =
 if 0 < a7 then
  ((qgi 6 6 t h).bind fun x1 =>
   (qgi 6 6 t h).bind fun x2 =>
   cI (qcl d 1 [qI ((a6 - x1) &&& x2)] h) fun x4 h3 =>
   (qgr 6 10 t h3).bind fun o5 =>
   cI (qcl d 143 [qR (some t), qI ((a6 - x1) &&& x2)] h3) fun x7 h6 =>
   if x7 = 0 then
   (o5.bind fun p8 => (qsi 2 p8 ((a6 - x1) &&& x2) (0 &&& 1) h6).bind fun h9 =>
    (qgr 6 10 t h9).bind fun o10 =>
    o10.bind fun p11 => (qai 2 p11 ((a6 - x1) &&& x2) h9).bind fun x12 =>
    if x12 = 0 then
    (qbig (d + 1) 136 110 [sR (some t), sR a1, none, none, sI a4, none, sI ((a6 - x1) &&& x2), sI (a7 + (-1)), none] [] h9)
   else
    ((qgi 6 7 t h9).bind fun x13 =>
     (qpi 6 7 t (if x13 < x4 then x4 else x13) h9).bind fun h14 =>
     qbig (d + 1) 136 110 [sR (some t), sR a1, none, none, sI a4, none, sI ((a6 - x1) &&& x2), sI (a7 + (-1)), none] [] h14))
  else
   (cI (qcl d 140 [qR (some t), qR a1, qI a4, qI ((a6 - x1) &&& x2)] h6) fun x16 h15 =>
    if x16 < x4 then
    (o5.bind fun p17 => (qsi 2 p17 ((a6 - x1) &&& x2) (0 &&& 1) h15).bind fun h18 =>
     (qgr 6 10 t h18).bind fun o19 =>
     o19.bind fun p20 => (qai 2 p20 ((a6 - x1) &&& x2) h18).bind fun x21 =>
     if x21 = 0 then
     (qbig (d + 1) 136 110 [sR (some t), sR a1, none, none, sI a4, none, sI ((a6 - x1) &&& x2), sI (a7 + (-1)), none] [] h18)
    else
     ((qgi 6 7 t h18).bind fun x22 =>
      (qpi 6 7 t (if x22 < x4 then x4 else x22) h18).bind fun h23 =>
      qbig (d + 1) 136 110 [sR (some t), sR a1, none, none, sI a4, none, sI ((a6 - x1) &&& x2), sI (a7 + (-1)), none] [] h23))
   else
    (o5.bind fun p24 => (qsi 2 p24 ((a6 - x1) &&& x2) (1 &&& 1) h15).bind fun h25 =>
     (qgr 6 10 t h25).bind fun o26 =>
     o26.bind fun p27 => (qai 2 p27 ((a6 - x1) &&& x2) h25).bind fun x28 =>
     if x28 = 0 then
     (qbig (d + 1) 136 110 [sR (some t), sR a1, none, none, sI a4, none, sI ((a6 - x1) &&& x2), sI (a7 + (-1)), none] [] h25)
    else
     ((qgi 6 7 t h25).bind fun x29 =>
      (qpi 6 7 t (if x29 < x4 then x4 else x29) h25).bind fun h30 =>
      qbig (d + 1) 136 110 [sR (some t), sR a1, none, none, sI a4, none, sI ((a6 - x1) &&& x2), sI (a7 + (-1)), none] [] h30))))
 else
  (some (none, h)) := by
  exact qE 117 [40, 110] (by rfl)
set_option maxRecDepth 100000 in
set_option maxHeartbeats 1000000 in
theorem E137 (d : Nat) (t : Nat) (a1 : Int32) (a2 : Int32) (h : QH) : qcl (d + 1) 137 [qR (some t), qI a1, qI a2] h =
 (qck 6 t h).bind fun _ =>
 (qgi 6 6 t h).bind fun x1 =>
  cI (qcl d 1 [qI x1] h) fun x3 h2 =>
  qbig (d + 1) 137 13 [sR (some t), sI a1, sI a2, sI 0, sI (1 <<< (x3 &&& 31))] [] h2 := by
  exact qE0 43 [13] (by rfl)
set_option maxRecDepth 100000 in
set_option maxHeartbeats 1000000 in
theorem E137_13 (d : Nat) (t : Nat) (a1 : Int32) (a2 : Int32) (a3 : Int32) (a4 : Int32) (h : QH) : qbig (d + 1) 137 13 [sR (some t), sI a1, sI a2, sI a3, sI a4] [] h =
 if 0 < a4 then
  ((qgr 6 10 t h).bind fun o1 =>
   o1.bind fun p2 => (qai 2 p2 a3 h).bind fun x3 =>
   if x3 = 0 then
   ((qgi 6 6 t h).bind fun x4 =>
    (qgi 6 6 t h).bind fun x5 =>
    qbig (d + 1) 137 13 [sR (some t), sI a1, sI a2, sI ((a3 - x4) &&& x5), sI (a4 + (-1))] [] h)
  else
   (cI (qcl d 135 [qR (some t), qI (a1 ||| a3), qI (a2 + 1)] h) fun x7 h6 =>
    if x7 = 0 then
    ((qgi 6 6 t h6).bind fun x8 =>
     (qgi 6 6 t h6).bind fun x9 =>
     qbig (d + 1) 137 13 [sR (some t), sI a1, sI a2, sI ((a3 - x8) &&& x9), sI (a4 + (-1))] [] h6)
   else
    (some (some (qI a3), h6))))
 else
  (some (some (qI 0), h)) := by
  exact qE 43 [13] (by rfl)
set_option maxRecDepth 100000 in
set_option maxHeartbeats 1000000 in
theorem E138 (d : Nat) (t : Nat) (a1 : Option Nat) (a2 : Int32) (h : QH) : qcl (d + 1) 138 [qR (some t), qR a1, qI a2] h =
 (qck 6 t h).bind fun _ =>
 (qgr 6 12 t h).bind fun o1 =>
  cV (qcl d 8 [qR o1, qI 0] h) fun h2 =>
  (qgr 6 12 t h2).bind fun o3 =>
  (qgi 6 4 t h2).bind fun x4 =>
  o3.bind fun p5 => (qsi 0 p5 x4 (-1) h2).bind fun h6 =>
  (qgi 6 0 t h6).bind fun x7 =>
  qbig (d + 1) 138 25 [sR (some t), sR a1, sI a2, sI (x7 - 1), none] [] h6 := by
  exact qE0 56 [25, 37] (by rfl)
set_option maxRecDepth 100000 in
set_option maxHeartbeats 1000000 in
theorem E138_25 (d : Nat) (t : Nat) (a1 : Option Nat) (a2 : Int32) (a3 : Int32) (h : QH) : qbig (d + 1) 138 25 [sR (some t), sR a1, sI a2, sI a3, none] [] h =
 if 0 < a3 then
  ((qgi 6 4 t h).bind fun x1 =>
   qbig (d + 1) 138 37 [sR (some t), sR a1, sI a2, sI a3, sI (x1 - 1)] [] h)
 else
  (some (none, h)) := by
  exact qE 56 [25, 37] (by rfl)
set_option maxRecDepth 100000 in
set_option maxHeartbeats 1000000 in
theorem E138_37 (d : Nat) (t : Nat) (a1 : Option Nat) (a2 : Int32) (a3 : Int32) (a4 : Int32) (h : QH) : qbig (d + 1) 138 37 [sR (some t), sR a1, sI a2, sI a3, sI a4] [] h =
 if a4 < a2 then
  (qbig (d + 1) 138 25 [sR (some t), sR a1, sI a2, sI (a3 + (-1)), none] [] h)
 else
  (if (a4 &&& a2) = a2 then
   (cI (qcl d 130 [qR (some t), qR a1, qI a4, qI a3] h) fun x2 h1 =>
    if x2 = 0 then
    (qbig (d + 1) 138 37 [sR (some t), sR a1, sI a2, sI a3, sI (a4 + (-1))] [] h1)
   else
    ((qgr 6 12 t h1).bind fun o3 =>
     o3.bind fun p4 => (qai 0 p4 a4 h1).bind fun x5 =>
     o3.bind fun p6 => (qsi 0 p6 a4 (x5 ||| (1 <<< (a3 &&& 31))) h1).bind fun h7 =>
     qbig (d + 1) 138 37 [sR (some t), sR a1, sI a2, sI a3, sI (a4 + (-1))] [] h7))
  else
   (qbig (d + 1) 138 37 [sR (some t), sR a1, sI a2, sI a3, sI (a4 + (-1))] [] h)) := by
  exact qE 56 [25, 37] (by rfl)
set_option maxRecDepth 100000 in
set_option maxHeartbeats 1000000 in
theorem E139 (d : Nat) (t : Nat) (a1 : Option Nat) (a2 : Int32) (a3 : Int32) (h : QH) : qcl (d + 1) 139 [qR (some t), qR a1, qI a2, qI a3] h =
 (qck 6 t h).bind fun _ =>
 (qpi 6 4 t a3 h).bind fun h1 =>
  (qpi 6 5 t 0 h1).bind fun h2 =>
  a1.bind fun p3 => (qgr 10 1 p3 h2).bind fun o4 =>
  cI (qcl d 71 [qR o4, qI a2, qI 0] h2) fun x6 h5 =>
  qbig (d + 1) 139 28 [sR (some t), sR a1, sI a2, sI a3, sI (if x6 < 1 then 1 else x6), sI 0, none] [] h5 := by
  exact qE0 97 [28, 96, 114] (by rfl)
set_option maxRecDepth 100000 in
set_option maxHeartbeats 1000000 in
theorem E139_28 (d : Nat) (t : Nat) (a1 : Option Nat) (a2 : Int32) (a3 : Int32) (a4 : Int32) (a5 : Int32) (h : QH) : qbig (d + 1) 139 28 [sR (some t), sR a1, sI a2, sI a3, sI a4, sI a5, none] [] h =
 if a5 < 8 then
  (a1.bind fun p1 => (qgr 10 0 p1 h).bind fun o2 =>
   cI (qcl d 88 [qR o2, qI a5, qI 2] h) fun x4 h3 =>
   if a4 = 0 then none else
   (qgr 6 8 t h3).bind fun o5 =>
   a1.bind fun p6 => (qgr 10 1 p6 h3).bind fun o7 =>
   cI (qcl d 71 [qR o7, qI a2, qI 1] h3) fun x9 h8 =>
   o5.bind fun p10 => (qsi 0 p10 a5 ((x4 / a4) * x9) h8).bind fun h11 =>
   if 0 < (x4 / a4) then
   ((qgi 6 5 t h11).bind fun x12 =>
    (qpi 6 5 t (x12 ||| (1 <<< (a5 &&& 31))) h11).bind fun h13 =>
    qbig (d + 1) 139 28 [sR (some t), sR a1, sI a2, sI a3, sI a4, sI (a5 + 1), none] [] h13)
  else
   (qbig (d + 1) 139 28 [sR (some t), sR a1, sI a2, sI a3, sI a4, sI (a5 + 1), none] [] h11))
 else
  (qbig (d + 1) 139 96 [sR (some t), sR a1, none, sI a3, none, sI 0, none] [] h) := by
  exact qE 97 [28, 96, 114] (by rfl)
set_option maxRecDepth 100000 in
set_option maxHeartbeats 1000000 in
theorem E139_96 (d : Nat) (t : Nat) (a1 : Option Nat) (a3 : Int32) (a5 : Int32) (h : QH) : qbig (d + 1) 139 96 [sR (some t), sR a1, none, sI a3, none, sI a5, none] [] h =
 if a5 < 30 then
  ((qgr 6 9 t h).bind fun o1 =>
   o1.bind fun p2 => (qsi 0 p2 a5 0 h).bind fun h3 =>
   qbig (d + 1) 139 114 [sR (some t), sR a1, none, sI a3, none, sI a5, sI 0] [] h3)
 else
  (some (none, h)) := by
  exact qE 97 [28, 96, 114] (by rfl)
set_option maxRecDepth 100000 in
set_option maxHeartbeats 1000000 in
theorem E139_114 (d : Nat) (t : Nat) (a1 : Option Nat) (a3 : Int32) (a5 : Int32) (a6 : Int32) (h : QH) : qbig (d + 1) 139 114 [sR (some t), sR a1, none, sI a3, none, sI a5, sI a6] [] h =
 if a6 < 8 then
  (if ((a3 >>> (a6 &&& 31)) &&& 1) = 0 then
   (qbig (d + 1) 139 114 [sR (some t), sR a1, none, sI a3, none, sI a5, sI (a6 + 1)] [] h)
  else
   (a1.bind fun p1 => (qgr 10 0 p1 h).bind fun o2 =>
    cI (qcl d 75 [qR o2, qI a6, qI a5] h) fun x4 h3 =>
    if x4 = 0 then
    ((qgr 6 9 t h3).bind fun o5 =>
     o5.bind fun p6 => (qai 0 p6 a5 h3).bind fun x7 =>
     o5.bind fun p8 => (qsi 0 p8 a5 (x7 ||| (1 <<< (a6 &&& 31))) h3).bind fun h9 =>
     qbig (d + 1) 139 114 [sR (some t), sR a1, none, sI a3, none, sI a5, sI (a6 + 1)] [] h9)
   else
    (qbig (d + 1) 139 114 [sR (some t), sR a1, none, sI a3, none, sI a5, sI (a6 + 1)] [] h3)))
 else
  (qbig (d + 1) 139 96 [sR (some t), sR a1, none, sI a3, none, sI (a5 + 1), none] [] h) := by
  exact qE 97 [28, 96, 114] (by rfl)
set_option maxRecDepth 100000 in
set_option maxHeartbeats 1000000 in
theorem E140 (d : Nat) (t : Nat) (a1 : Option Nat) (a2 : Int32) (a3 : Int32) (h : QH) : qcl (d + 1) 140 [qR (some t), qR a1, qI a2, qI a3] h =
 (qck 6 t h).bind fun _ =>
 qbig (d + 1) 140 6 [sR (some t), sR a1, sI a2, sI a3, sI 0, sI 0] [] h := by
  exact qE0 36 [6] (by rfl)
set_option maxRecDepth 100000 in
set_option maxHeartbeats 1000000 in
theorem E140_6 (d : Nat) (t : Nat) (a1 : Option Nat) (a2 : Int32) (a3 : Int32) (a4 : Int32) (a5 : Int32) (h : QH) : qbig (d + 1) 140 6 [sR (some t), sR a1, sI a2, sI a3, sI a4, sI a5] [] h =
 if a5 < 8 then
  (if ((a2 >>> (a5 &&& 31)) &&& 1) = 0 then
   (qbig (d + 1) 140 6 [sR (some t), sR a1, sI a2, sI a3, sI a4, sI (a5 + 1)] [] h)
  else
   (a1.bind fun p1 => (qgr 2 3 p1 h).bind fun o2 =>
    o2.bind fun p3 => (qai 0 p3 a5 h).bind fun x4 =>
    if (x4 &&& a3) = 0 then
    (qbig (d + 1) 140 6 [sR (some t), sR a1, sI a2, sI a3, sI a4, sI (a5 + 1)] [] h)
   else
    ((qgr 6 8 t h).bind fun o5 =>
     o5.bind fun p6 => (qai 0 p6 a5 h).bind fun x7 =>
     qbig (d + 1) 140 6 [sR (some t), sR a1, sI a2, sI a3, sI (a4 + x7), sI (a5 + 1)] [] h)))
 else
  (some (some (qI a4), h)) := by
  exact qE 36 [6] (by rfl)
set_option maxRecDepth 100000 in
set_option maxHeartbeats 1000000 in
theorem E141 (d : Nat) (t : Nat) (a1 : Option Nat) (a2 : Int32) (a3 : Int32) (a4 : Int32) (h : QH) : qcl (d + 1) 141 [qR (some t), qR a1, qI a2, qI a3, qI a4] h =
 (qck 6 t h).bind fun _ =>
 if ((a3 >>> (a4 &&& 31)) &&& 1) = 0 then
  (cI (qcl d 1 [qI 0] h) fun x2 h1 =>
   qbig (d + 1) 141 49 [sR (some t), none, none, sI a3, none, sI 0, sI (if x2 < a2 then x2 else a2), sI (-1), sI 0, none] [] h1)
 else
  (a1.bind fun p3 => (qgr 2 3 p3 h).bind fun o4 =>
   o4.bind fun p5 => (qai 0 p5 a4 h).bind fun x6 =>
   (qgi 6 4 t h).bind fun x7 =>
   cI (qcl d 1 [qI ((x6 &&& x7) &&& (a3 ^^^ (-1)))] h) fun x9 h8 =>
   qbig (d + 1) 141 49 [sR (some t), none, none, sI a3, none, sI ((x6 &&& x7) &&& (a3 ^^^ (-1))), sI (if x9 < a2 then x9 else a2), sI (-1), sI ((x6 &&& x7) &&& (a3 ^^^ (-1))), none] [] h8) := by
  exact qE0 73 [49] (by rfl)
set_option maxRecDepth 100000 in
set_option maxHeartbeats 1000000 in
theorem E141_49 (d : Nat) (t : Nat) (a3 : Int32) (a5 : Int32) (a6 : Int32) (a7 : Int32) (a8 : Int32) (h : QH) : qbig (d + 1) 141 49 [sR (some t), none, none, sI a3, none, sI a5, sI a6, sI a7, sI a8, none] [] h =
 if 0 < a8 then
  (cI (qcl d 1 [qI a8] h) fun x2 h1 =>
   if x2 = a6 then
   ((qgr 6 11 t h1).bind fun o3 =>
    o3.bind fun p4 => (qai 0 p4 (a3 ||| a8) h1).bind fun x5 =>
    if x5 = (-1) then
    (qbig (d + 1) 141 49 [sR (some t), none, none, sI a3, none, sI a5, sI a6, sI a7, sI ((a8 - 1) &&& a5), none] [] h1)
   else
    (if a7 = (-1) then
     (qbig (d + 1) 141 49 [sR (some t), none, none, sI a3, none, sI a5, sI a6, sI (x5 + 1), sI ((a8 - 1) &&& a5), none] [] h1)
    else
     (if (x5 + 1) < a7 then
      (qbig (d + 1) 141 49 [sR (some t), none, none, sI a3, none, sI a5, sI a6, sI (x5 + 1), sI ((a8 - 1) &&& a5), none] [] h1)
     else
      (qbig (d + 1) 141 49 [sR (some t), none, none, sI a3, none, sI a5, sI a6, sI a7, sI ((a8 - 1) &&& a5), none] [] h1))))
  else
   (if (-1) = (-1) then
    (qbig (d + 1) 141 49 [sR (some t), none, none, sI a3, none, sI a5, sI a6, sI a7, sI ((a8 - 1) &&& a5), none] [] h1)
   else
    (if a7 = (-1) then
     (qbig (d + 1) 141 49 [sR (some t), none, none, sI a3, none, sI a5, sI a6, sI ((-1) + 1), sI ((a8 - 1) &&& a5), none] [] h1)
    else
     (if ((-1) + 1) < a7 then
      (qbig (d + 1) 141 49 [sR (some t), none, none, sI a3, none, sI a5, sI a6, sI ((-1) + 1), sI ((a8 - 1) &&& a5), none] [] h1)
     else
      (qbig (d + 1) 141 49 [sR (some t), none, none, sI a3, none, sI a5, sI a6, sI a7, sI ((a8 - 1) &&& a5), none] [] h1)))))
 else
  (some (some (qI a7), h)) := by
  exact qE 73 [49] (by rfl)
set_option maxRecDepth 100000 in
set_option maxHeartbeats 1000000 in
theorem E142 (d : Nat) (t : Nat) (a1 : Option Nat) (a2 : Int32) (a3 : Int32) (h : QH) : qcl (d + 1) 142 [qR (some t), qR a1, qI a2, qI a3] h =
 (qck 6 t h).bind fun _ =>
 a1.bind fun p1 => (qgr 10 0 p1 h).bind fun o2 =>
  cI (qcl d 79 [qR o2] h) fun x4 h3 =>
  (qpi 6 4 t x4 h3).bind fun h5 =>
  a1.bind fun p6 => (qgr 10 1 p6 h5).bind fun o7 =>
  cI (qcl d 71 [qR o7, qI a2, qI 1] h5) fun x9 h8 =>
  (qgr 6 11 t h8).bind fun o10 =>
  cV (qcl d 8 [qR o10, qI (-1)] h8) fun h11 =>
  (qgr 6 11 t h11).bind fun o12 =>
  (qgi 6 4 t h11).bind fun x13 =>
  o12.bind fun p14 => (qsi 0 p14 x13 0 h11).bind fun h15 =>
  (qgi 6 4 t h15).bind fun x16 =>
  qbig (d + 1) 142 48 [sR (some t), sR a1, none, sI a3, sI x9, sI (x16 - 1), none, none] [] h15 := by
  exact qE0 81 [48, 57] (by rfl)
set_option maxRecDepth 100000 in
set_option maxHeartbeats 1000000 in
theorem E142_48 (d : Nat) (t : Nat) (a1 : Option Nat) (a3 : Int32) (a4 : Int32) (a5 : Int32) (h : QH) : qbig (d + 1) 142 48 [sR (some t), sR a1, none, sI a3, sI a4, sI a5, none, none] [] h =
 if a5 < a3 then
  ((qgr 6 11 t h).bind fun o1 =>
   o1.bind fun p2 => (qai 0 p2 a3 h).bind fun x3 =>
   some (some (qI x3), h))
 else
  (qbig (d + 1) 142 57 [sR (some t), sR a1, none, sI a3, sI a4, sI a5, sI 0, none] [] h) := by
  exact qE 81 [48, 57] (by rfl)
set_option maxRecDepth 100000 in
set_option maxHeartbeats 1000000 in
theorem E142_57 (d : Nat) (t : Nat) (a1 : Option Nat) (a3 : Int32) (a4 : Int32) (a5 : Int32) (a6 : Int32) (h : QH) : qbig (d + 1) 142 57 [sR (some t), sR a1, none, sI a3, sI a4, sI a5, sI a6, none] [] h =
 if (a5 &&& a3) = a3 then
  (if a6 < 8 then
   (a1.bind fun p1 => (qgr 10 0 p1 h).bind fun o2 =>
    cI (qcl d 141 [qR (some t), qR o2, qI a4, qI a5, qI a6] h) fun x4 h3 =>
    if x4 = (-1) then
    (qbig (d + 1) 142 57 [sR (some t), sR a1, none, sI a3, sI a4, sI a5, sI (a6 + 1), none] [] h3)
   else
    ((qgr 6 11 t h3).bind fun o5 =>
     o5.bind fun p6 => (qai 0 p6 a5 h3).bind fun x7 =>
     if x7 = (-1) then
     ((qgr 6 11 t h3).bind fun o8 =>
      o8.bind fun p9 => (qsi 0 p9 a5 x4 h3).bind fun h10 =>
      qbig (d + 1) 142 57 [sR (some t), sR a1, none, sI a3, sI a4, sI a5, sI (a6 + 1), none] [] h10)
    else
     ((qgr 6 11 t h3).bind fun o11 =>
      o11.bind fun p12 => (qai 0 p12 a5 h3).bind fun x13 =>
      if x4 < x13 then
      ((qgr 6 11 t h3).bind fun o14 =>
       o14.bind fun p15 => (qsi 0 p15 a5 x4 h3).bind fun h16 =>
       qbig (d + 1) 142 57 [sR (some t), sR a1, none, sI a3, sI a4, sI a5, sI (a6 + 1), none] [] h16)
     else
      (qbig (d + 1) 142 57 [sR (some t), sR a1, none, sI a3, sI a4, sI a5, sI (a6 + 1), none] [] h3))))
  else
   (qbig (d + 1) 142 48 [sR (some t), sR a1, none, sI a3, sI a4, sI (a5 + (-1)), none, none] [] h))
 else
  (qbig (d + 1) 142 48 [sR (some t), sR a1, none, sI a3, sI a4, sI (a5 + (-1)), none, none] [] h) := by
  exact qE 81 [48, 57] (by rfl)
set_option maxRecDepth 100000 in
set_option maxHeartbeats 1000000 in
theorem E143 (d : Nat) (t : Nat) (a1 : Int32) (h : QH) : qcl (d + 1) 143 [qR (some t), qI a1] h =
 (qck 6 t h).bind fun _ =>
 qbig (d + 1) 143 2 [sR (some t), sI a1, sI 0] [] h := by
  exact qE0 33 [2] (by rfl)
set_option maxRecDepth 100000 in
set_option maxHeartbeats 1000000 in
theorem E143_2 (d : Nat) (t : Nat) (a1 : Int32) (a2 : Int32) (h : QH) : qbig (d + 1) 143 2 [sR (some t), sI a1, sI a2] [] h =
 if a2 < 8 then
  (if ((a1 >>> (a2 &&& 31)) &&& 1) = 0 then
   (qbig (d + 1) 143 2 [sR (some t), sI a1, sI (a2 + 1)] [] h)
  else
   ((qgr 6 10 t h).bind fun o1 =>
    o1.bind fun p2 => (qai 2 p2 (a1 &&& ((1 <<< (a2 &&& 31)) ^^^ (-1))) h).bind fun x3 =>
    if x3 = 0 then
    (if (0 : Int32) = 0 ∨ (0 : Int32) = 1 then some (some (qI 0), h) else none)
   else
    (qbig (d + 1) 143 2 [sR (some t), sI a1, sI (a2 + 1)] [] h)))
 else
  (if (1 : Int32) = 0 ∨ (1 : Int32) = 1 then some (some (qI 1), h) else none) := by
  exact qE 33 [2] (by rfl)
set_option maxRecDepth 100000 in
set_option maxHeartbeats 1000000 in
theorem E144 (d : Nat) (t : Nat) (a1 : Option Nat) (a2 : Int32) (h : QH) : qcl (d + 1) 144 [qR (some t), qR a1, qI a2] h =
 (qck 6 t h).bind fun _ =>
 (qgr 6 1 t h).bind fun o1 =>
  o1.bind fun p2 => (qsi 0 p2 0 a2 h).bind fun h3 =>
  qbig (d + 1) 144 9 [sR (some t), sR a1, none, sI 0] [] h3 := by
  exact qE0 45 [9] (by rfl)
set_option maxRecDepth 100000 in
set_option maxHeartbeats 1000000 in
theorem E144_9 (d : Nat) (t : Nat) (a1 : Option Nat) (a3 : Int32) (h : QH) : qbig (d + 1) 144 9 [sR (some t), sR a1, none, sI a3] [] h =
 (qgi 6 0 t h).bind fun x1 =>
  if a3 < x1 then
  ((qgr 6 1 t h).bind fun o2 =>
   o2.bind fun p3 => (qai 0 p3 a3 h).bind fun x4 =>
   cV (qcl d 136 [qR (some t), qR a1, qI x4, qI a3] h) fun h5 =>
   (qgr 6 1 t h5).bind fun o6 =>
   (qgr 6 1 t h5).bind fun o7 =>
   o7.bind fun p8 => (qai 0 p8 a3 h5).bind fun x9 =>
   (qgr 6 1 t h5).bind fun o10 =>
   o10.bind fun p11 => (qai 0 p11 a3 h5).bind fun x12 =>
   cI (qcl d 137 [qR (some t), qI x12, qI a3] h5) fun x14 h13 =>
   o6.bind fun p15 => (qsi 0 p15 (a3 + 1) (x9 ||| x14) h13).bind fun h16 =>
   qbig (d + 1) 144 9 [sR (some t), sR a1, none, sI (a3 + 1)] [] h16)
 else
  (some (none, h)) := by
  exact qE 45 [9] (by rfl)
set_option maxRecDepth 100000 in
set_option maxHeartbeats 1000000 in
theorem E145 (d : Nat) (t : Nat) (h : QH) : qcl (d + 1) 145 [qR (some t)] h =
 (qck 7 t h).bind fun _ =>
 (qpi 7 0 t 0 h).bind fun h1 =>
  (qna 0 400 h1).bind fun h2 =>
  (qpr 7 1 t (some (hN h1)) h2).bind fun h3 =>
  some (none, h3) := by
  exact qE0 15 [] (by rfl)
set_option maxRecDepth 100000 in
set_option maxHeartbeats 1000000 in
theorem E146 (d : Nat) (t : Nat) (a1 : Int32) (h : QH) : qcl (d + 1) 146 [qR (some t), qI a1] h =
 (qck 7 t h).bind fun _ =>
 qbig (d + 1) 146 3 [sR (some t), sI a1, sI 24] [] h := by
  exact qE0 32 [3] (by rfl)
set_option maxRecDepth 100000 in
set_option maxHeartbeats 1000000 in
theorem E146_3 (d : Nat) (t : Nat) (a1 : Int32) (a2 : Int32) (h : QH) : qbig (d + 1) 146 3 [sR (some t), sI a1, sI a2] [] h =
 if a2 < 0 then
  (some (none, h))
 else
  ((qgi 7 0 t h).bind fun x1 =>
   if x1 < 400 then
   ((qgr 7 1 t h).bind fun o2 =>
    (qgi 7 0 t h).bind fun x3 =>
    o2.bind fun p4 => (qsi 0 p4 x3 (((Int32.toUInt32 a1 >>> (Int32.toUInt32 a2 &&& Int32.toUInt32 31)).toInt32) &&& 255) h).bind fun h5 =>
    (qgi 7 0 t h5).bind fun x6 =>
    (qpi 7 0 t (x6 + 1) h5).bind fun h7 =>
    qbig (d + 1) 146 3 [sR (some t), sI a1, sI (a2 + (-8))] [] h7)
  else
   (some (none, h))) := by
  exact qE 32 [3] (by rfl)
