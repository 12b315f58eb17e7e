set_option maxRecDepth 100000 in
set_option maxHeartbeats 1000000 in
theorem E15 (d : Nat) (t : Nat) (a1 : Int32) (h : QH) : qcl (d + 1) 15 [qR (some t), qI a1] h =
 (qck 11 t h).bind fun _ =>
 if a1 < 0 then
  (cI (qcl d 43 [qR (some t), qI (-1)] h) fun x2 h1 =>
   some (some (qI x2), h1))
 else
  (if a1 < 2 then
   ((qgr 11 1 t h).bind fun o3 =>
    o3.bind fun p4 => (qar p4 a1 h).bind fun o5 =>
    if o5 = none then
    (cI (qcl d 43 [qR (some t), qI (-2)] h) fun x7 h6 =>
     some (some (qI x7), h6))
   else
    ((qgr 11 0 t h).bind fun o8 =>
     (qgr 11 1 t h).bind fun o9 =>
     o9.bind fun p10 => (qar p10 a1 h).bind fun o11 =>
     cV (qcl d 160 [qR o8, qR o11] h) fun h12 =>
     cI (qcl d 10 [qR (some t), qI 0] h12) fun x14 h13 =>
     some (some (qI x14), h13)))
  else
   (cI (qcl d 43 [qR (some t), qI (-1)] h) fun x16 h15 =>
    some (some (qI x16), h15))) := by
  exact qE0 34 [] (by rfl)
set_option maxRecDepth 100000 in
set_option maxHeartbeats 1000000 in
theorem E16 (d : Nat) (t : Nat) (a1 : Int32) (a2 : Int32) (a3 : Int32) (h : QH) : qcl (d + 1) 16 [qR (some t), qI a1, qI a2, qI a3] h =
 (qck 11 t h).bind fun _ =>
 cI (qcl d 21 [qI a1] h) fun x2 h1 =>
  if x2 = 0 then
  (some (some (qI (-1)), h1))
 else
  ((qgr 11 0 t h1).bind fun o3 =>
   cI (qcl d 161 [qR o3, qI a2, qI a3] h1) fun x5 h4 =>
   if x5 = 0 then
   (some (some (qI (-1)), h4))
  else
   ((qgr 11 5 t h4).bind fun o6 =>
    (qgr 11 0 t h4).bind fun o7 =>
    (qgr 11 4 t h4).bind fun o8 =>
    (qgi 11 10 t h4).bind fun x9 =>
    cV (qcl d 96 [qR o6, qR o7, qR o8, qI x9] h4) fun h10 =>
    (qgr 11 5 t h10).bind fun o11 =>
    o11.bind fun p12 => (qgr 3 0 p12 h10).bind fun o13 =>
    cI (qcl d 18 [qI a2, qI a3] h10) fun x15 h14 =>
    o13.bind fun p16 => (qai 0 p16 (((a1 + 1) * 40) + x15) h14).bind fun x17 =>
    some (some (qI x17), h14))) := by
  exact qE0 39 [] (by rfl)
set_option maxRecDepth 100000 in
set_option maxHeartbeats 1000000 in
theorem E17 (d : Nat) (t : Nat) (a1 : Int32) (h : QH) : qcl (d + 1) 17 [qR (some t), qI a1] h =
 (qck 11 t h).bind fun _ =>
 (qgr 11 0 t h).bind fun o1 =>
  o1.bind fun p2 => (qgr 10 1 p2 h).bind fun o3 =>
  cI (qcl d 72 [qR o3, qI a1] h) fun x5 h4 =>
  if x5 = 0 then
  (some (some (qI (-1)), h4))
 else
  (qbig (d + 1) 17 24 [sR (some t), sI a1, sI (-1), sI 31, sI 0, none] [] h4) := by
  exact qE0 50 [24, 81] (by rfl)
set_option maxRecDepth 100000 in
set_option maxHeartbeats 1000000 in
theorem E17_24 (d : Nat) (t : Nat) (a1 : Int32) (a2 : Int32) (a3 : Int32) (a4 : Int32) (h : QH) : qbig (d + 1) 17 24 [sR (some t), sI a1, sI a2, sI a3, sI a4, none] [] h =
 (qgr 11 0 t h).bind fun o1 =>
  o1.bind fun p2 => (qgr 10 0 p2 h).bind fun o3 =>
  o3.bind fun p4 => (qgi 2 0 p4 h).bind fun x5 =>
  if a4 < x5 then
  ((qgr 11 0 t h).bind fun o6 =>
   o6.bind fun p7 => (qgr 10 0 p7 h).bind fun o8 =>
   cI (qcl d 79 [qR o8] h) fun x10 h9 =>
   cI (qcl d 51 [qR (some t), qI a1, qI x10, qI (1 <<< (a4 &&& 31))] h9) fun x12 h11 =>
   if x12 = (-1) then
   (qbig (d + 1) 17 81 [sR (some t), sI a1, sI a2, sI a3, sI (a4 + 1), none] [] h11)
  else
   (if x12 < a3 then
    (qbig (d + 1) 17 81 [sR (some t), sI a1, sI a4, sI x12, sI (a4 + 1), none] [] h11)
   else
    (qbig (d + 1) 17 81 [sR (some t), sI a1, sI a2, sI a3, sI (a4 + 1), none] [] h11)))
 else
  (some (some (qI a2), h)) := by
  exact qE 50 [24, 81] (by rfl)
set_option maxRecDepth 100000 in
set_option maxHeartbeats 1000000 in
theorem E17_81 (d : Nat) (t : Nat) (a1 : Int32) (a2 : Int32) (a3 : Int32) (a4 : Int32) (h : QH) : qbig (d + 1) 17 81 [sR (some t), sI a1, sI a2, sI a3, sI a4, none] [] h =
 qbig (d + 1) 17 24 [sR (some t), sI a1, sI a2, sI a3, sI a4, none] [] h := by
  exact qE 50 [24, 81] (by rfl)
set_option maxRecDepth 100000 in
set_option maxHeartbeats 1000000 in
theorem E18 (d : Nat) (a0 : Int32) (a1 : Int32) (h : QH) : qcl (d + 1) 18 [qI a0, qI a1] h =
 some (some (qI ((a0 * 5) + a1)), h) := by
  exact qE0 11 [] (by rfl)
set_option maxRecDepth 100000 in
set_option maxHeartbeats 1000000 in
theorem E19 (d : Nat) (t : Nat) (h : QH) : qcl (d + 1) 19 [qR (some t)] h =
 (qck 11 t h).bind fun _ =>
 (qgr 11 0 t h).bind fun o1 =>
  o1.bind fun p2 => (qgr 10 2 p2 h).bind fun o3 =>
  o3.bind fun p4 => (qgi 5 0 p4 h).bind fun x5 =>
  (qgr 11 0 t h).bind fun o6 =>
  o6.bind fun p7 => (qgr 10 2 p7 h).bind fun o8 =>
  o8.bind fun p9 => (qpi 5 0 p9 0 h).bind fun h10 =>
  (qgi 11 10 t h10).bind fun x11 =>
  (qpi 11 10 t (x11 + 1) h10).bind fun h12 =>
  some (some (qI x5), h12) := by
  exact qE0 23 [] (by rfl)
set_option maxRecDepth 100000 in
set_option maxHeartbeats 1000000 in
theorem E20 (d : Nat) (t : Nat) (a1 : Int32) (h : QH) : qcl (d + 1) 20 [qR (some t), qI a1] h =
 (qck 11 t h).bind fun _ =>
 if a1 = 0 then
  ((qgr 11 0 t h).bind fun o35 =>
   o35.bind fun p36 => (qgr 10 0 p36 h).bind fun o37 =>
   o37.bind fun p38 => (qgi 2 0 p38 h).bind fun x39 =>
   some (some (qI x39), h))
 else
  (if a1 = 1 then
  ((qgr 11 0 t h).bind fun o30 =>
   o30.bind fun p31 => (qgr 10 1 p31 h).bind fun o32 =>
   o32.bind fun p33 => (qgi 0 0 p33 h).bind fun x34 =>
   some (some (qI x34), h))
 else
  (if a1 = 2 then
  ((qgr 11 0 t h).bind fun o27 =>
   o27.bind fun p28 => (qgi 10 4 p28 h).bind fun x29 =>
   some (some (qI x29), h))
 else
  (if a1 = 3 then
  ((qgr 11 0 t h).bind fun o22 =>
   o22.bind fun p23 => (qgr 10 2 p23 h).bind fun o24 =>
   o24.bind fun p25 => (qgi 5 0 p25 h).bind fun x26 =>
   some (some (qI x26), h))
 else
  (if a1 = 4 then
  ((qgr 11 2 t h).bind fun o19 =>
   o19.bind fun p20 => (qgi 7 0 p20 h).bind fun x21 =>
   some (some (qI x21), h))
 else
  (if a1 = 5 then
  ((qgr 11 8 t h).bind fun o16 =>
   o16.bind fun p17 => (qai 0 p17 (a1 - 5) h).bind fun x18 =>
   some (some (qI x18), h))
 else
  (if a1 = 6 then
  ((qgr 11 8 t h).bind fun o13 =>
   o13.bind fun p14 => (qai 0 p14 (a1 - 5) h).bind fun x15 =>
   some (some (qI x15), h))
 else
  (if a1 = 7 then
  ((qgr 11 8 t h).bind fun o10 =>
   o10.bind fun p11 => (qai 0 p11 (a1 - 5) h).bind fun x12 =>
   some (some (qI x12), h))
 else
  (if a1 = 8 then
  ((qgr 11 8 t h).bind fun o7 =>
   o7.bind fun p8 => (qai 0 p8 (a1 - 5) h).bind fun x9 =>
   some (some (qI x9), h))
 else
  (if a1 = 9 then
  ((qgr 11 8 t h).bind fun o4 =>
   o4.bind fun p5 => (qai 0 p5 (a1 - 5) h).bind fun x6 =>
   some (some (qI x6), h))
 else
  (if a1 = 10 then
  ((qgr 11 0 t h).bind fun o1 =>
   o1.bind fun p2 => (qgi 10 5 p2 h).bind fun x3 =>
   some (some (qI x3), h))
 else
  (some (some (qI (-1)), h)))))))))))) := by
  exact qE0 43 [] (by rfl)
set_option maxRecDepth 100000 in
set_option maxHeartbeats 1000000 in
theorem E21 (d : Nat) (a0 : Int32) (h : QH) : qcl (d + 1) 21 [qI a0] h =
 if a0 < 0 then
  (if (0 : Int32) = 0 ∨ (0 : Int32) = 1 then some (some (qI 0), h) else none)
 else
  (if a0 < 30 then
   (if (1 : Int32) = 0 ∨ (1 : Int32) = 1 then some (some (qI 1), h) else none)
  else
   (if (0 : Int32) = 0 ∨ (0 : Int32) = 1 then some (some (qI 0), h) else none)) := by
  exact qE0 14 [] (by rfl)
set_option maxRecDepth 100000 in
set_option maxHeartbeats 1000000 in
theorem E22 (d : Nat) (t : Nat) (a1 : Int32) (a2 : Int32) (h : QH) : qcl (d + 1) 22 [qR (some t), qI a1, qI a2] h =
 (qck 11 t h).bind fun _ =>
 (qgr 11 7 t h).bind fun o1 =>
  o1.bind fun p2 => (qgi 9 0 p2 h).bind fun x3 =>
  if x3 = 0 then
  (some (some (qI (-1)), h))
 else
  (if a2 = (-1) then
   (if a1 = 0 then
    ((qgr 11 7 t h).bind fun o4 =>
     o4.bind fun p5 => (qgi 9 2 p5 h).bind fun x6 =>
     some (some (qI x6), h))
   else
    (if a1 < 0 then
     (some (some (qI (-1)), h))
    else
     (if a1 < 7 then
      (if a2 < 0 then
       (some (some (qI (-1)), h))
      else
       ((qgr 11 7 t h).bind fun o7 =>
        o7.bind fun p8 => (qgi 9 1 p8 h).bind fun x9 =>
        if a2 < x9 then
        ((qgr 11 7 t h).bind fun o10 =>
         o10.bind fun p11 => (qgr 9 3 p11 h).bind fun o12 =>
         o12.bind fun p13 => (qai 0 p13 (((a1 + 1) * 8) + a2) h).bind fun x14 =>
         some (some (qI x14), h))
       else
        (some (some (qI (-1)), h))))
     else
      (some (some (qI (-1)), h)))))
  else
   (if a1 < 0 then
    (some (some (qI (-1)), h))
   else
    (if a1 < 7 then
     (if a2 < 0 then
      (some (some (qI (-1)), h))
     else
      ((qgr 11 7 t h).bind fun o15 =>
       o15.bind fun p16 => (qgi 9 1 p16 h).bind fun x17 =>
       if a2 < x17 then
       ((qgr 11 7 t h).bind fun o18 =>
        o18.bind fun p19 => (qgr 9 3 p19 h).bind fun o20 =>
        o20.bind fun p21 => (qai 0 p21 (((a1 + 1) * 8) + a2) h).bind fun x22 =>
        some (some (qI x22), h))
      else
       (some (some (qI (-1)), h))))
    else
     (some (some (qI (-1)), h))))) := by
  exact qE0 46 [] (by rfl)
set_option maxRecDepth 100000 in
set_option maxHeartbeats 1000000 in
theorem E23 (d : Nat) (t : Nat) (a1 : Int32) (h : QH) : qcl (d + 1) 23 [qR (some t), qI a1] h =
 (qck 11 t h).bind fun _ =>
 if a1 < 0 then
  (some (some (qI (-1)), h))
 else
  ((qgr 11 2 t h).bind fun o1 =>
   o1.bind fun p2 => (qgi 7 0 p2 h).bind fun x3 =>
   if x3 < a1 then
   (some (some (qI (-1)), h))
  else
   ((qgr 11 2 t h).bind fun o4 =>
    o4.bind fun p5 => (qpi 7 0 p5 a1 h).bind fun h6 =>
    some (some (qI a1), h6))) := by
  exact qE0 20 [] (by rfl)
set_option maxRecDepth 100000 in
set_option maxHeartbeats 1000000 in
theorem E24 (d : Nat) (t : Nat) (h : QH) : qcl (d + 1) 24 [qR (some t)] h =
 (qck 11 t h).bind fun _ =>
 (qgi 11 13 t h).bind fun x1 =>
  some (some (qI x1), h) := by
  exact qE0 8 [] (by rfl)
set_option maxRecDepth 100000 in
set_option maxHeartbeats 1000000 in
theorem E25 (d : Nat) (t : Nat) (a1 : Int32) (a2 : Int32) (a3 : Int32) (a4 : Int32) (a5 : Int32) (h : QH) : qcl (d + 1) 25 [qR (some t), qI a1, qI a2, qI a3, qI a4, qI a5] h =
 (qck 11 t h).bind fun _ =>
 (qgr 11 2 t h).bind fun o1 =>
  o1.bind fun p2 => (qgi 7 0 p2 h).bind fun x3 =>
  if 400 < (x3 + 20) then
  (some (some (qI (-1)), h))
 else
  ((qgr 11 2 t h).bind fun o4 =>
   cV (qcl d 146 [qR o4, qI a1] h) fun h5 =>
   (qgr 11 2 t h5).bind fun o6 =>
   cV (qcl d 146 [qR o6, qI a2] h5) fun h7 =>
   (qgr 11 2 t h7).bind fun o8 =>
   cV (qcl d 146 [qR o8, qI a3] h7) fun h9 =>
   (qgr 11 2 t h9).bind fun o10 =>
   cV (qcl d 146 [qR o10, qI a4] h9) fun h11 =>
   (qgr 11 2 t h11).bind fun o12 =>
   cV (qcl d 146 [qR o12, qI a5] h11) fun h13 =>
   (qgr 11 2 t h13).bind fun o14 =>
   o14.bind fun p15 => (qgi 7 0 p15 h13).bind fun x16 =>
   some (some (qI x16), h13)) := by
  exact qE0 38 [] (by rfl)
set_option maxRecDepth 100000 in
set_option maxHeartbeats 1000000 in
theorem E26 (d : Nat) (t : Nat) (a1 : Int32) (a2 : Int32) (h : QH) : qcl (d + 1) 26 [qR (some t), qI a1, qI a2] h =
 (qck 11 t h).bind fun _ =>
 (qgr 11 0 t h).bind fun o1 =>
  o1.bind fun p2 => (qgr 10 1 p2 h).bind fun o3 =>
  cI (qcl d 72 [qR o3, qI a1] h) fun x5 h4 =>
  if x5 = 0 then
  (some (some (qI (-1)), h4))
 else
  (if a2 = 0 then
   ((qgr 11 0 t h4).bind fun o6 =>
    o6.bind fun p7 => (qgr 10 0 p7 h4).bind fun o8 =>
    cI (qcl d 81 [qR o8, qI a1] h4) fun x10 h9 =>
    (qgr 11 6 t h9).bind fun o11 =>
    (qgr 11 0 t h9).bind fun o12 =>
    cI (qcl d 142 [qR o11, qR o12, qI a1, qI x10] h9) fun x14 h13 =>
    if a2 = 0 then
    (if a2 = 0 then
     (some (some (qI x14), h13))
    else
     (some (some (qI (-1)), h13)))
   else
    (if 0 < x14 then
     ((qgr 11 6 t h13).bind fun o15 =>
      (qgr 11 0 t h13).bind fun o16 =>
      cI (qcl d 133 [qR o15, qR o16, qI a1, qI x10] h13) fun x18 h17 =>
      some (some (qI x18), h17))
    else
     (if a2 = 0 then
      (some (some (qI x14), h13))
     else
      (some (some (qI (-1)), h13)))))
  else
   (if a2 = 1 then
    ((qgr 11 0 t h4).bind fun o19 =>
     o19.bind fun p20 => (qgr 10 0 p20 h4).bind fun o21 =>
     cI (qcl d 81 [qR o21, qI a1] h4) fun x23 h22 =>
     (qgr 11 6 t h22).bind fun o24 =>
     (qgr 11 0 t h22).bind fun o25 =>
     cI (qcl d 142 [qR o24, qR o25, qI a1, qI x23] h22) fun x27 h26 =>
     if a2 = 0 then
     (if a2 = 0 then
      (some (some (qI x27), h26))
     else
      (some (some (qI (-1)), h26)))
    else
     (if 0 < x27 then
      ((qgr 11 6 t h26).bind fun o28 =>
       (qgr 11 0 t h26).bind fun o29 =>
       cI (qcl d 133 [qR o28, qR o29, qI a1, qI x23] h26) fun x31 h30 =>
       some (some (qI x31), h30))
     else
      (if a2 = 0 then
       (some (some (qI x27), h26))
      else
       (some (some (qI (-1)), h26)))))
   else
    (some (some (qI (-1)), h4)))) := by
  exact qE0 50 [] (by rfl)
set_option maxRecDepth 100000 in
set_option maxHeartbeats 1000000 in
theorem E27 (d : Nat) (t : Nat) (a1 : Int32) (a2 : Int32) (h : QH) : qcl (d + 1) 27 [qR (some t), qI a1, qI a2] h =
 (qck 11 t h).bind fun _ =>
 (qgr 11 0 t h).bind fun o1 =>
  o1.bind fun p2 => (qgr 10 1 p2 h).bind fun o3 =>
  cI (qcl d 72 [qR o3, qI a1] h) fun x5 h4 =>
  if x5 = 0 then
  (some (some (qI (-1)), h4))
 else
  (if a2 = (-1) then
   ((qgr 11 6 t h4).bind fun o6 =>
    (qgr 11 0 t h4).bind fun o7 =>
    (qgi 11 10 t h4).bind fun x8 =>
    cV (qcl d 132 [qR o6, qR o7, qI a1, qI x8] h4) fun h9 =>
    (qgr 11 6 t h9).bind fun o10 =>
    o10.bind fun p11 => (qgi 6 0 p11 h9).bind fun x12 =>
    if x12 = (-1) then
    (some (some (qI (-1)), h9))
   else
    ((qgr 11 6 t h9).bind fun o13 =>
     o13.bind fun p14 => (qgr 6 1 p14 h9).bind fun o15 =>
     (qgr 11 6 t h9).bind fun o16 =>
     o16.bind fun p17 => (qgi 6 0 p17 h9).bind fun x18 =>
     o15.bind fun p19 => (qai 0 p19 (if x18 < (a2 + 1) then x18 else (a2 + 1)) h9).bind fun x20 =>
     some (some (qI x20), h9)))
  else
   (cI (qcl d 21 [qI a2] h4) fun x22 h21 =>
    if x22 = 0 then
    (some (some (qI (-1)), h21))
   else
    ((qgr 11 6 t h21).bind fun o23 =>
     (qgr 11 0 t h21).bind fun o24 =>
     (qgi 11 10 t h21).bind fun x25 =>
     cV (qcl d 132 [qR o23, qR o24, qI a1, qI x25] h21) fun h26 =>
     (qgr 11 6 t h26).bind fun o27 =>
     o27.bind fun p28 => (qgi 6 0 p28 h26).bind fun x29 =>
     if x29 = (-1) then
     (some (some (qI (-1)), h26))
    else
     ((qgr 11 6 t h26).bind fun o30 =>
      o30.bind fun p31 => (qgr 6 1 p31 h26).bind fun o32 =>
      (qgr 11 6 t h26).bind fun o33 =>
      o33.bind fun p34 => (qgi 6 0 p34 h26).bind fun x35 =>
      o32.bind fun p36 => (qai 0 p36 (if x35 < (a2 + 1) then x35 else (a2 + 1)) h26).bind fun x37 =>
      some (some (qI x37), h26))))) := by
  exact qE0 46 [] (by rfl)
set_option maxRecDepth 100000 in
set_option maxHeartbeats 1000000 in
theorem E28 (d : Nat) (t : Nat) (a1 : Int32) (h : QH) : qcl (d + 1) 28 [qR (some t), qI a1] h =
 (qck 11 t h).bind fun _ =>
 if a1 < (-1) then
  (cI (qcl d 43 [qR (some t), qI (-2)] h) fun x2 h1 =>
   some (some (qI x2), h1))
 else
  ((qgr 11 0 t h).bind fun o3 =>
   o3.bind fun p4 => (qgi 10 4 p4 h).bind fun x5 =>
   if a1 < x5 then
   ((qgr 11 0 t h).bind fun o6 =>
    o6.bind fun p7 => (qgi 10 5 p7 h).bind fun x8 =>
    (qgr 11 0 t h).bind fun o9 =>
    o9.bind fun p10 => (qpi 10 5 p10 a1 h).bind fun h11 =>
    cI (qcl d 10 [qR (some t), qI x8] h11) fun x13 h12 =>
    some (some (qI x13), h12))
  else
   (cI (qcl d 43 [qR (some t), qI (-2)] h) fun x15 h14 =>
    some (some (qI x15), h14))) := by
  exact qE0 29 [] (by rfl)
set_option maxRecDepth 100000 in
set_option maxHeartbeats 1000000 in
theorem E29 (d : Nat) (t : Nat) (a1 : Int32) (a2 : Int32) (a3 : Int32) (a4 : Int32) (h : QH) : qcl (d + 1) 29 [qR (some t), qI a1, qI a2, qI a3, qI a4] h =
 (qck 11 t h).bind fun _ =>
 (qgr 11 0 t h).bind fun o1 =>
  cI (qcl d 161 [qR o1, qI a1, qI a3] h) fun x3 h2 =>
  if x3 = 0 then
  (some (some (qI (-1)), h2))
 else
  ((qgr 11 0 t h2).bind fun o4 =>
   o4.bind fun p5 => (qgr 10 0 p5 h2).bind fun o6 =>
   cI (qcl d 80 [qR o6, qI a2] h2) fun x8 h7 =>
   if x8 = 0 then
   (some (some (qI (-1)), h7))
  else
   (if a1 = a2 then
    (some (some (qI (-1)), h7))
   else
    ((qgr 11 0 t h7).bind fun o9 =>
     o9.bind fun p10 => (qgr 10 0 p10 h7).bind fun o11 =>
     (qgr 11 4 t h7).bind fun o12 =>
     (qgr 11 0 t h7).bind fun o13 =>
     o13.bind fun p14 => (qgr 10 1 p14 h7).bind fun o15 =>
     cV (qcl d 148 [qR o12, qR o15, qI a3, qI 0, qI 1] h7) fun h16 =>
     (qgr 11 4 t h16).bind fun o17 =>
     cI (qcl d 82 [qR o11, qI a1, qI a3] h16) fun x19 h18 =>
     cI (qcl d 82 [qR o11, qI a2, qI a3] h18) fun x21 h20 =>
     cV (qcl d 149 [qR o17, qR o11, qI a1, qI x19, qI a2, qI x21] h20) fun h22 =>
     (qgr 11 0 t h22).bind fun o23 =>
     cR (qcl d 163 [qR o23] h22) fun o25 h24 =>
     if a4 = 0 then
     ((qgr 11 4 t h24).bind fun o35 =>
      cI (qcl d 152 [qR o35, qR o25, qI 0] h24) fun x37 h36 =>
      some (some (qI x37), h36))
    else
     (if a4 = 1 then
     ((qgr 11 4 t h24).bind fun o32 =>
      cI (qcl d 152 [qR o32, qR o25, qI 1] h24) fun x34 h33 =>
      some (some (qI x34), h33))
    else
     (if a4 = 2 then
     ((qgr 11 4 t h24).bind fun o29 =>
      cI (qcl d 152 [qR o29, qR o25, qI 3] h24) fun x31 h30 =>
      some (some (qI x31), h30))
    else
     (if a4 = 3 then
     ((qgr 11 4 t h24).bind fun o26 =>
      cI (qcl d 152 [qR o26, qR o25, qI 2] h24) fun x28 h27 =>
      some (some (qI x28), h27))
    else
     (some (some (qI (-1)), h24)))))))) := by
  exact qE0 81 [] (by rfl)
set_option maxRecDepth 100000 in
set_option maxHeartbeats 1000000 in
theorem E30 (d : Nat) (t : Nat) (a1 : Int32) (a2 : Int32) (a3 : Int32) (h : QH) : qcl (d + 1) 30 [qR (some t), qI a1, qI a2, qI a3] h =
 (qck 11 t h).bind fun _ =>
 cI (qcl d 21 [qI a1] h) fun x2 h1 =>
  if x2 = 0 then
  (some (some (qI (-1)), h1))
 else
  ((qgr 11 0 t h1).bind fun o3 =>
   cI (qcl d 161 [qR o3, qI a2, qI a3] h1) fun x5 h4 =>
   if x5 = 0 then
   (some (some (qI (-1)), h4))
  else
   ((qgr 11 5 t h4).bind fun o6 =>
    (qgr 11 0 t h4).bind fun o7 =>
    (qgr 11 4 t h4).bind fun o8 =>
    (qgi 11 10 t h4).bind fun x9 =>
    cV (qcl d 96 [qR o6, qR o7, qR o8, qI x9] h4) fun h10 =>
    (qgr 11 5 t h10).bind fun o11 =>
    o11.bind fun p12 => (qgr 3 1 p12 h10).bind fun o13 =>
    cI (qcl d 18 [qI a2, qI a3] h10) fun x15 h14 =>
    o13.bind fun p16 => (qai 0 p16 (((a1 + 1) * 40) + x15) h14).bind fun x17 =>
    some (some (qI x17), h14))) := by
  exact qE0 39 [] (by rfl)
set_option maxRecDepth 100000 in
set_option maxHeartbeats 1000000 in
theorem E31 (d : Nat) (t : Nat) (a1 : Int32) (h : QH) : qcl (d + 1) 31 [qR (some t), qI a1] h =
 (qck 11 t h).bind fun _ =>
 if a1 = (-1) then
  ((qgr 11 0 t h).bind fun o1 =>
   o1.bind fun p2 => (qgr 10 0 p2 h).bind fun o3 =>
   o3.bind fun p4 => (qgi 2 1 p4 h).bind fun x5 =>
   some (some (qI x5), h))
 else
  ((qgr 11 0 t h).bind fun o6 =>
   o6.bind fun p7 => (qgr 10 0 p7 h).bind fun o8 =>
   cI (qcl d 80 [qR o8, qI a1] h) fun x10 h9 =>
   if x10 = 0 then
   (some (some (qI (-1)), h9))
  else
   ((qgr 11 0 t h9).bind fun o11 =>
    o11.bind fun p12 => (qgr 10 0 p12 h9).bind fun o13 =>
    o13.bind fun p14 => (qgr 2 4 p14 h9).bind fun o15 =>
    o15.bind fun p16 => (qai 0 p16 a1 h9).bind fun x17 =>
    some (some (qI x17), h9))) := by
  exact qE0 28 [] (by rfl)
set_option maxRecDepth 100000 in
set_option maxHeartbeats 1000000 in
theorem E32 (d : Nat) (t : Nat) (a1 : Int32) (h : QH) : qcl (d + 1) 32 [qR (some t), qI a1] h =
 (qck 11 t h).bind fun _ =>
 if a1 < 0 then
  (cI (qcl d 43 [qR (some t), qI (-1)] h) fun x2 h1 =>
   some (some (qI x2), h1))
 else
  (if a1 < 2 then
   ((qgr 11 1 t h).bind fun o3 =>
    o3.bind fun p4 => (qar p4 a1 h).bind fun o5 =>
    if o5 = none then
    ((qgr 11 1 t h).bind fun o6 =>
     cV (qcl d 159 [qR (some (hN h))] (qno 10 6 h)) fun h7 =>
     o6.bind fun p8 => (qsr p8 a1 (some (hN h)) h7).bind fun h9 =>
     (qgr 11 1 t h9).bind fun o10 =>
     o10.bind fun p11 => (qar p11 a1 h9).bind fun o12 =>
     (qgr 11 0 t h9).bind fun o13 =>
     cV (qcl d 160 [qR o12, qR o13] h9) fun h14 =>
     cI (qcl d 10 [qR (some t), qI 0] h14) fun x16 h15 =>
     some (some (qI x16), h15))
   else
    ((qgr 11 1 t h).bind fun o17 =>
     o17.bind fun p18 => (qar p18 a1 h).bind fun o19 =>
     (qgr 11 0 t h).bind fun o20 =>
     cV (qcl d 160 [qR o19, qR o20] h) fun h21 =>
     cI (qcl d 10 [qR (some t), qI 0] h21) fun x23 h22 =>
     some (some (qI x23), h22)))
  else
   (cI (qcl d 43 [qR (some t), qI (-1)] h) fun x25 h24 =>
    some (some (qI x25), h24))) := by
  exact qE0 37 [] (by rfl)
set_option maxRecDepth 100000 in
set_option maxHeartbeats 1000000 in
theorem E33 (d : Nat) (t : Nat) (a1 : Int32) (h : QH) : qcl (d + 1) 33 [qR (some t), qI a1] h =
 (qck 11 t h).bind fun _ =>
 (qgr 11 5 t h).bind fun o1 =>
  (qgr 11 0 t h).bind fun o2 =>
  (qgr 11 4 t h).bind fun o3 =>
  (qgi 11 10 t h).bind fun x4 =>
  cV (qcl d 96 [qR o1, qR o2, qR o3, qI x4] h) fun h5 =>
  if a1 = 0 then
  ((qgr 11 5 t h5).bind fun o24 =>
   (qgr 11 0 t h5).bind fun o25 =>
   o25.bind fun p26 => (qgr 10 2 p26 h5).bind fun o27 =>
   o27.bind fun p28 => (qgi 5 0 p28 h5).bind fun x29 =>
   cI (qcl d 94 [qR o24, qI x29] h5) fun x31 h30 =>
   some (some (qI x31), h30))
 else
  (if a1 = 1 then
  ((qgr 11 5 t h5).bind fun o16 =>
   (qgr 11 0 t h5).bind fun o17 =>
   o17.bind fun p18 => (qgr 10 2 p18 h5).bind fun o19 =>
   o19.bind fun p20 => (qgi 5 0 p20 h5).bind fun x21 =>
   cI (qcl d 93 [qR o16, qI x21] h5) fun x23 h22 =>
   some (some (qI x23), h22))
 else
  (if a1 = 2 then
  ((qgr 11 5 t h5).bind fun o13 =>
   cI (qcl d 91 [qR o13] h5) fun x15 h14 =>
   some (some (qI x15), h14))
 else
  (if a1 = 3 then
  ((qgr 11 5 t h5).bind fun o9 =>
   (qgr 11 0 t h5).bind fun o10 =>
   cI (qcl d 95 [qR o9, qR o10] h5) fun x12 h11 =>
   some (some (qI x12), h11))
 else
  (if a1 = 4 then
  ((qgr 11 5 t h5).bind fun o6 =>
   cI (qcl d 104 [qR o6] h5) fun x8 h7 =>
   some (some (qI x8), h7))
 else
  (some (some (qI (-1)), h5)))))) := by
  exact qE0 48 [] (by rfl)
set_option maxRecDepth 100000 in
set_option maxHeartbeats 1000000 in
theorem E34 (d : Nat) (t : Nat) (a1 : Int32) (a2 : Int32) (a3 : Int32) (h : QH) : qcl (d + 1) 34 [qR (some t), qI a1, qI a2, qI a3] h =
 (qck 11 t h).bind fun _ =>
 if a3 < 0 then
  (cI (qcl d 43 [qR (some t), qI (-1)] h) fun x2 h1 =>
   some (some (qI x2), h1))
 else
  (if 9 < a3 then
   (cI (qcl d 43 [qR (some t), qI (-1)] h) fun x4 h3 =>
    some (some (qI x4), h3))
  else
   ((qgr 11 0 t h).bind fun o5 =>
    cI (qcl d 161 [qR o5, qI a1, qI a2] h) fun x7 h6 =>
    if x7 = 0 then
    (cI (qcl d 43 [qR (some t), qI (-2)] h6) fun x9 h8 =>
     some (some (qI x9), h8))
   else
    ((qgr 11 0 t h6).bind fun o10 =>
     o10.bind fun p11 => (qgr 10 0 p11 h6).bind fun o12 =>
     cI (qcl d 85 [qR o12, qI a1, qI a2, qI a3] h6) fun x14 h13 =>
     cI (qcl d 10 [qR (some t), qI x14] h13) fun x16 h15 =>
     some (some (qI x16), h15)))) := by
  exact qE0 34 [] (by rfl)
set_option maxRecDepth 100000 in
set_option maxHeartbeats 1000000 in
theorem E35 (d : Nat) (t : Nat) (h : QH) : qcl (d + 1) 35 [qR (some t)] h =
 (qck 11 t h).bind fun _ =>
 (qgr 11 2 t h).bind fun o1 =>
  o1.bind fun p2 => (qgi 7 0 p2 h).bind fun x3 =>
  (qgr 11 2 t h).bind fun o4 =>
  o4.bind fun p5 => (qpi 7 0 p5 0 h).bind fun h6 =>
  (qgr 11 0 t h6).bind fun o7 =>
  o7.bind fun p8 => (qgi 10 4 p8 h6).bind fun x9 =>
  if x9 < 6 then
  ((qgr 11 3 t h6).bind fun o10 =>
   (qgr 11 2 t h6).bind fun o11 =>
   o11.bind fun p12 => (qgr 7 1 p12 h6).bind fun o13 =>
   cR (qcl d 112 [qR o10, qR o13, qI x3] h6) fun o15 h14 =>
   if o15 = none then
   ((qgr 11 3 t h14).bind fun o16 =>
    o16.bind fun p17 => (qgi 4 0 p17 h14).bind fun x18 =>
    (qpi 11 13 t x18 h14).bind fun h19 =>
    if o15 = none then
    (cI (qcl d 43 [qR (some t), qI (-6)] h19) fun x21 h20 =>
     some (some (qI x21), h20))
   else
    ((qgr 11 0 t h19).bind fun o22 =>
     cI (qcl d 162 [qR o22, qR o15] h19) fun x24 h23 =>
     cI (qcl d 10 [qR (some t), qI x24] h23) fun x26 h25 =>
     some (some (qI x26), h25)))
  else
   ((qpi 11 13 t (-1) h14).bind fun h27 =>
    if o15 = none then
    (cI (qcl d 43 [qR (some t), qI (-6)] h27) fun x29 h28 =>
     some (some (qI x29), h28))
   else
    ((qgr 11 0 t h27).bind fun o30 =>
     cI (qcl d 162 [qR o30, qR o15] h27) fun x32 h31 =>
     cI (qcl d 10 [qR (some t), qI x32] h31) fun x34 h33 =>
     some (some (qI x34), h33))))
 else
  (cI (qcl d 43 [qR (some t), qI (-5)] h6) fun x36 h35 =>
   some (some (qI x36), h35)) := by
  exact qE0 52 [] (by rfl)
set_option maxRecDepth 100000 in
set_option maxHeartbeats 1000000 in
theorem E36 (d : Nat) (t : Nat) (a1 : Int32) (h : QH) : qcl (d + 1) 36 [qR (some t), qI a1] h =
 (qck 11 t h).bind fun _ =>
 (qgr 11 0 t h).bind fun o1 =>
  o1.bind fun p2 => (qgr 10 1 p2 h).bind fun o3 =>
  cI (qcl d 72 [qR o3, qI a1] h) fun x5 h4 =>
  if x5 = 0 then
  (some (some (qI (-1)), h4))
 else
  (qbig (d + 1) 36 24 [sR (some t), sI a1, sI (-1), sI 31, sI 0, none] [] h4) := by
  exact qE0 44 [24, 69] (by rfl)
set_option maxRecDepth 100000 in
set_option maxHeartbeats 1000000 in
theorem E36_24 (d : Nat) (t : Nat) (a1 : Int32) (a2 : Int32) (a3 : Int32) (a4 : Int32) (h : QH) : qbig (d + 1) 36 24 [sR (some t), sI a1, sI a2, sI a3, sI a4, none] [] h =
 (qgr 11 0 t h).bind fun o1 =>
  o1.bind fun p2 => (qgr 10 0 p2 h).bind fun o3 =>
  o3.bind fun p4 => (qgi 2 0 p4 h).bind fun x5 =>
  if a4 < x5 then
  (cI (qcl d 52 [qR (some t), qI a1, qI a4] h) fun x7 h6 =>
   if x7 = (-1) then
   (qbig (d + 1) 36 69 [sR (some t), sI a1, sI a2, sI a3, sI (a4 + 1), none] [] h6)
  else
   (if x7 < a3 then
    (qbig (d + 1) 36 69 [sR (some t), sI a1, sI a4, sI x7, sI (a4 + 1), none] [] h6)
   else
    (qbig (d + 1) 36 69 [sR (some t), sI a1, sI a2, sI a3, sI (a4 + 1), none] [] h6)))
 else
  (some (some (qI a2), h)) := by
  exact qE 44 [24, 69] (by rfl)
set_option maxRecDepth 100000 in
set_option maxHeartbeats 1000000 in
theorem E36_69 (d : Nat) (t : Nat) (a1 : Int32) (a2 : Int32) (a3 : Int32) (a4 : Int32) (h : QH) : qbig (d + 1) 36 69 [sR (some t), sI a1, sI a2, sI a3, sI a4, none] [] h =
 qbig (d + 1) 36 24 [sR (some t), sI a1, sI a2, sI a3, sI a4, none] [] h := by
  exact qE 44 [24, 69] (by rfl)
set_option maxRecDepth 100000 in
set_option maxHeartbeats 1000000 in
theorem E37 (d : Nat) (t : Nat) (a1 : Int32) (a2 : Int32) (a3 : Int32) (h : QH) : qcl (d + 1) 37 [qR (some t), qI a1, qI a2, qI a3] h =
 (qck 11 t h).bind fun _ =>
 if a3 = 0 then
  ((qgr 11 0 t h).bind fun o1 =>
   o1.bind fun p2 => (qgr 10 0 p2 h).bind fun o3 =>
   cI (qcl d 80 [qR o3, qI a1] h) fun x5 h4 =>
   if x5 = 0 then
   (cI (qcl d 43 [qR (some t), qI (-2)] h4) fun x7 h6 =>
    some (some (qI x7), h6))
  else
   ((qgr 11 0 t h4).bind fun o8 =>
    o8.bind fun p9 => (qgr 10 0 p9 h4).bind fun o10 =>
    cI (qcl d 80 [qR o10, qI a2] h4) fun x12 h11 =>
    if x12 = 0 then
    (cI (qcl d 43 [qR (some t), qI (-2)] h11) fun x14 h13 =>
     some (some (qI x14), h13))
   else
    (if a1 = a2 then
     (cI (qcl d 43 [qR (some t), qI (-3)] h11) fun x16 h15 =>
      some (some (qI x16), h15))
    else
     ((qgr 11 0 t h11).bind fun o17 =>
      o17.bind fun p18 => (qgr 10 0 p18 h11).bind fun o19 =>
      cI (qcl d 86 [qR o19, qI a1, qI a2, qI a3] h11) fun x21 h20 =>
      cI (qcl d 10 [qR (some t), qI x21] h20) fun x23 h22 =>
      some (some (qI x23), h22)))))
 else
  (if a3 = 1 then
   ((qgr 11 0 t h).bind fun o24 =>
    o24.bind fun p25 => (qgr 10 0 p25 h).bind fun o26 =>
    cI (qcl d 80 [qR o26, qI a1] h) fun x28 h27 =>
    if x28 = 0 then
    (cI (qcl d 43 [qR (some t), qI (-2)] h27) fun x30 h29 =>
     some (some (qI x30), h29))
   else
    ((qgr 11 0 t h27).bind fun o31 =>
     o31.bind fun p32 => (qgr 10 0 p32 h27).bind fun o33 =>
     cI (qcl d 80 [qR o33, qI a2] h27) fun x35 h34 =>
     if x35 = 0 then
     (cI (qcl d 43 [qR (some t), qI (-2)] h34) fun x37 h36 =>
      some (some (qI x37), h36))
    else
     (if a1 = a2 then
      (cI (qcl d 43 [qR (some t), qI (-3)] h34) fun x39 h38 =>
       some (some (qI x39), h38))
     else
      ((qgr 11 0 t h34).bind fun o40 =>
       o40.bind fun p41 => (qgr 10 0 p41 h34).bind fun o42 =>
       cI (qcl d 86 [qR o42, qI a1, qI a2, qI a3] h34) fun x44 h43 =>
       cI (qcl d 10 [qR (some t), qI x44] h43) fun x46 h45 =>
       some (some (qI x46), h45)))))
  else
   (cI (qcl d 43 [qR (some t), qI (-1)] h) fun x48 h47 =>
    some (some (qI x48), h47))) := by
  exact qE0 47 [] (by rfl)
set_option maxRecDepth 100000 in
set_option maxHeartbeats 1000000 in
theorem E38 (d : Nat) (t : Nat) (a1 : Int32) (a2 : Int32) (h : QH) : qcl (d + 1) 38 [qR (some t), qI a1, qI a2] h =
 (qck 11 t h).bind fun _ =>
 (qgr 11 0 t h).bind fun o1 =>
  o1.bind fun p2 => (qgr 10 0 p2 h).bind fun o3 =>
  cI (qcl d 80 [qR o3, qI a1] h) fun x5 h4 =>
  if x5 = 0 then
  (some (some (qI (-1)), h4))
 else
  (if a2 < 0 then
   (some (some (qI (-1)), h4))
  else
   (if 9 < a2 then
    (some (some (qI (-1)), h4))
   else
    (if a2 < 4 then
     ((qgr 11 0 t h4).bind fun o6 =>
      o6.bind fun p7 => (qgr 10 0 p7 h4).bind fun o8 =>
      cI (qcl d 88 [qR o8, qI a1, qI a2] h4) fun x10 h9 =>
      some (some (qI x10), h9))
    else
     (if a2 = 4 then
      ((qgr 11 0 t h4).bind fun o11 =>
       o11.bind fun p12 => (qgr 10 0 p12 h4).bind fun o13 =>
       o13.bind fun p14 => (qgr 2 3 p14 h4).bind fun o15 =>
       o15.bind fun p16 => (qai 0 p16 a1 h4).bind fun x17 =>
       some (some (qI x17), h4))
     else
      ((qgr 11 0 t h4).bind fun o18 =>
       o18.bind fun p19 => (qgr 10 1 p19 h4).bind fun o20 =>
       cI (qcl d 72 [qR o20, qI ((a2 - 4) - 1)] h4) fun x22 h21 =>
       if x22 = 0 then
       (some (some (qI 0), h21))
      else
       ((qgr 11 0 t h21).bind fun o23 =>
        o23.bind fun p24 => (qgr 10 0 p24 h21).bind fun o25 =>
        cI (qcl d 82 [qR o25, qI a1, qI ((a2 - 4) - 1)] h21) fun x27 h26 =>
        some (some (qI x27), h26))))))) := by
  exact qE0 59 [] (by rfl)
set_option maxRecDepth 100000 in
set_option maxHeartbeats 1000000 in
theorem E39 (d : Nat) (t : Nat) (a1 : Int32) (a2 : Int32) (a3 : Int32) (h : QH) : qcl (d + 1) 39 [qR (some t), qI a1, qI a2, qI a3] h =
 (qck 11 t h).bind fun _ =>
 cI (qcl d 59 [qI 0, qI a1] h) fun x2 h1 =>
  if x2 = 0 then
  (cI (qcl d 43 [qR (some t), qI (-1)] h1) fun x4 h3 =>
   some (some (qI x4), h3))
 else
  (cI (qcl d 59 [qI 1, qI a2] h1) fun x6 h5 =>
   if x6 = 0 then
   (cI (qcl d 43 [qR (some t), qI (-1)] h5) fun x8 h7 =>
    some (some (qI x8), h7))
  else
   (cI (qcl d 59 [qI 2, qI a3] h5) fun x10 h9 =>
    if x10 = 0 then
    (cI (qcl d 43 [qR (some t), qI (-1)] h9) fun x12 h11 =>
     some (some (qI x12), h11))
   else
    ((qgr 11 0 t h9).bind fun o13 =>
     o13.bind fun p14 => (qgr 10 0 p14 h9).bind fun o15 =>
     o15.bind fun p16 => (qgi 2 0 p16 h9).bind fun x17 =>
     if x17 < 8 then
     ((qgr 11 0 t h9).bind fun o18 =>
      o18.bind fun p19 => (qgr 10 0 p19 h9).bind fun o20 =>
      cI (qcl d 77 [qR o20, qI a1, qI a2, qI a3] h9) fun x22 h21 =>
      cI (qcl d 10 [qR (some t), qI x22] h21) fun x24 h23 =>
      some (some (qI x24), h23))
    else
     (cI (qcl d 43 [qR (some t), qI (-5)] h9) fun x26 h25 =>
      some (some (qI x26), h25))))) := by
  exact qE0 41 [] (by rfl)
set_option maxRecDepth 100000 in
set_option maxHeartbeats 1000000 in
theorem E40 (d : Nat) (t : Nat) (a1 : Int32) (h : QH) : qcl (d + 1) 40 [qR (some t), qI a1] h =
 (qck 11 t h).bind fun _ =>
 qbig (d + 1) 40 4 [sR (some t), sI a1, sI 0, sI 0, none] [] h := by
  exact qE0 54 [4] (by rfl)
set_option maxRecDepth 100000 in
set_option maxHeartbeats 1000000 in
theorem E40_4 (d : Nat) (t : Nat) (a1 : Int32) (a2 : Int32) (a3 : Int32) (h : QH) : qbig (d + 1) 40 4 [sR (some t), sI a1, sI a2, sI a3, none] [] h =
 (qgr 11 0 t h).bind fun o1 =>
  o1.bind fun p2 => (qgr 10 1 p2 h).bind fun o3 =>
  o3.bind fun p4 => (qgi 0 0 p4 h).bind fun x5 =>
  if a3 < x5 then
  ((qgr 11 0 t h).bind fun o6 =>
   o6.bind fun p7 => (qgr 10 1 p7 h).bind fun o8 =>
   cI (qcl d 70 [qR o8, qI a2] h) fun x10 h9 =>
   if x10 = (-1) then
   (if a1 = (-1) then
    (some (some (qI a3), h9))
   else
    (some (some (qI (-1)), h9)))
  else
   (if a3 = a1 then
    (some (some (qI x10), h9))
   else
    (qbig (d + 1) 40 4 [sR (some t), sI a1, sI (a2 ||| (1 <<< (x10 &&& 31))), sI (a3 + 1), none] [] h9)))
 else
  (if a1 = (-1) then
   ((qgr 11 0 t h).bind fun o11 =>
    o11.bind fun p12 => (qgr 10 1 p12 h).bind fun o13 =>
    o13.bind fun p14 => (qgi 0 0 p14 h).bind fun x15 =>
    some (some (qI x15), h))
  else
   (some (some (qI (-1)), h))) := by
  exact qE 54 [4] (by rfl)
set_option maxRecDepth 100000 in
set_option maxHeartbeats 1000000 in
theorem E41 (d : Nat) (t : Nat) (a1 : Int32) (a2 : Int32) (a3 : Int32) (h : QH) : qcl (d + 1) 41 [qR (some t), qI a1, qI a2, qI a3] h =
 (qck 11 t h).bind fun _ =>
 cI (qcl d 59 [qI a2, qI a3] h) fun x2 h1 =>
  if x2 = 0 then
  (cI (qcl d 43 [qR (some t), qI (-1)] h1) fun x4 h3 =>
   some (some (qI x4), h3))
 else
  ((qgr 11 0 t h1).bind fun o5 =>
   o5.bind fun p6 => (qgr 10 0 p6 h1).bind fun o7 =>
   cI (qcl d 80 [qR o7, qI a1] h1) fun x9 h8 =>
   if x9 = 0 then
   (cI (qcl d 43 [qR (some t), qI (-2)] h8) fun x11 h10 =>
    some (some (qI x11), h10))
  else
   ((qgr 11 0 t h8).bind fun o12 =>
    o12.bind fun p13 => (qgr 10 0 p13 h8).bind fun o14 =>
    cI (qcl d 76 [qR o14, qI a1, qI a2, qI a3] h8) fun x16 h15 =>
    cI (qcl d 10 [qR (some t), qI x16] h15) fun x18 h17 =>
    some (some (qI x18), h17))) := by
  exact qE0 33 [] (by rfl)
set_option maxRecDepth 100000 in
set_option maxHeartbeats 1000000 in
theorem E42 (d : Nat) (a0 : Int32) (h : QH) : qcl (d + 1) 42 [qI a0] h =
 if a0 = (-5) then
  (some (some (qI 3), h))
 else
  (if a0 = (-4) then
  (some (some (qI 4), h))
 else
  (if a0 = (-3) then
  (some (some (qI 2), h))
 else
  (if a0 = (-2) then
  (some (some (qI 1), h))
 else
  (if a0 = (-1) then
  (some (some (qI 0), h))
 else
  (some (some (qI 4), h)))))) := by
  exact qE0 17 [] (by rfl)
set_option maxRecDepth 100000 in
set_option maxHeartbeats 1000000 in
theorem E43 (d : Nat) (t : Nat) (a1 : Int32) (h : QH) : qcl (d + 1) 43 [qR (some t), qI a1] h =
 (qck 11 t h).bind fun _ =>
 (qpi 11 11 t a1 h).bind fun h1 =>
  (qgr 11 8 t h1).bind fun o2 =>
  cI (qcl d 42 [qI a1] h1) fun x4 h3 =>
  o2.bind fun p5 => (qai 0 p5 x4 h3).bind fun x6 =>
  o2.bind fun p7 => (qsi 0 p7 x4 (x6 + 1) h3).bind fun h8 =>
  some (some (qI a1), h8) := by
  exact qE0 19 [] (by rfl)
set_option maxRecDepth 100000 in
set_option maxHeartbeats 1000000 in
theorem E44 (d : Nat) (t : Nat) (a1 : Int32) (a2 : Int32) (h : QH) : qcl (d + 1) 44 [qR (some t), qI a1, qI a2] h =
 (qck 11 t h).bind fun _ =>
 (qgr 11 0 t h).bind fun o1 =>
  cI (qcl d 161 [qR o1, qI a1, qI a2] h) fun x3 h2 =>
  if x3 = 0 then
  (some (some (qI (-1)), h2))
 else
  ((qgr 11 0 t h2).bind fun o4 =>
   o4.bind fun p5 => (qgr 10 0 p5 h2).bind fun o6 =>
   cI (qcl d 82 [qR o6, qI a1, qI a2] h2) fun x8 h7 =>
   (qgr 11 4 t h7).bind fun o9 =>
   (qgr 11 0 t h7).bind fun o10 =>
   o10.bind fun p11 => (qgr 10 1 p11 h7).bind fun o12 =>
   cV (qcl d 148 [qR o9, qR o12, qI a2, qI 0, qI 1] h7) fun h13 =>
   qbig (d + 1) 44 53 [sR (some t), sI a1, sI a2, sR o6, sI x8, sI a1, sI 1, none, none] [] h13) := by
  exact qE0 94 [53, 121] (by rfl)
set_option maxRecDepth 100000 in
set_option maxHeartbeats 1000000 in
theorem E44_53 (d : Nat) (t : Nat) (a1 : Int32) (a2 : Int32) (a3 : Option Nat) (a4 : Int32) (a5 : Int32) (a6 : Int32) (h : QH) : qbig (d + 1) 44 53 [sR (some t), sI a1, sI a2, sR a3, sI a4, sI a5, sI a6, none, none] [] h =
 a3.bind fun p1 => (qgi 2 0 p1 h).bind fun x2 =>
  if a6 < x2 then
  (cI (qcl d 84 [qR a3, qI a5] h) fun x4 h3 =>
   cI (qcl d 82 [qR a3, qI x4, qI a2] h3) fun x6 h5 =>
   (qgr 11 4 t h5).bind fun o7 =>
   cV (qcl d 149 [qR o7, qR a3, qI a5, qI a4, qI x4, qI x6] h5) fun h8 =>
   (qgr 11 4 t h8).bind fun o9 =>
   (qgr 11 0 t h8).bind fun o10 =>
   cR (qcl d 163 [qR o10] h8) fun o12 h11 =>
   cI (qcl d 152 [qR o9, qR o12, qI 0] h11) fun x14 h13 =>
   qbig (d + 1) 44 121 [sR (some t), sI a1, sI a2, sR a3, sI (if x6 < x14 then x14 else x6), sI x4, sI a6, none, none] [] h13)
 else
  (if a5 = a1 then
   (some (some (qI a4), h))
  else
   ((qgr 11 4 t h).bind fun o15 =>
    cI (qcl d 82 [qR a3, qI a1, qI a2] h) fun x17 h16 =>
    cV (qcl d 149 [qR o15, qR a3, qI a5, qI a4, qI a1, qI x17] h16) fun h18 =>
    (qgr 11 4 t h18).bind fun o19 =>
    (qgr 11 0 t h18).bind fun o20 =>
    cR (qcl d 163 [qR o20] h18) fun o22 h21 =>
    cI (qcl d 152 [qR o19, qR o22, qI 0] h21) fun x24 h23 =>
    some (some (qI x24), h23))) := by
  exact qE 94 [53, 121] (by rfl)
set_option maxRecDepth 100000 in
set_option maxHeartbeats 1000000 in
theorem E44_121 (d : Nat) (t : Nat) (a1 : Int32) (a2 : Int32) (a3 : Option Nat) (a4 : Int32) (a5 : Int32) (a6 : Int32) (h : QH) : qbig (d + 1) 44 121 [sR (some t), sI a1, sI a2, sR a3, sI a4, sI a5, sI a6, none, none] [] h =
 qbig (d + 1) 44 53 [sR (some t), sI a1, sI a2, sR a3, sI a4, sI a5, sI (a6 + 1), none, none] [] h := by
  exact qE 94 [53, 121] (by rfl)
set_option maxRecDepth 100000 in
set_option maxHeartbeats 1000000 in
theorem E45 (d : Nat) (t : Nat) (a1 : Int32) (h : QH) : qcl (d + 1) 45 [qR (some t), qI a1] h =
 (qck 11 t h).bind fun _ =>
 (qgr 11 0 t h).bind fun o1 =>
  o1.bind fun p2 => (qgr 10 1 p2 h).bind fun o3 =>
  cI (qcl d 72 [qR o3, qI a1] h) fun x5 h4 =>
  if x5 = 0 then
  (cI (qcl d 43 [qR (some t), qI (-2)] h4) fun x7 h6 =>
   some (some (qI x7), h6))
 else
  ((qgr 11 2 t h4).bind fun o8 =>
   o8.bind fun p9 => (qgi 7 0 p9 h4).bind fun x10 =>
   if x10 = 0 then
   (cI (qcl d 43 [qR (some t), qI (-6)] h4) fun x12 h11 =>
    some (some (qI x12), h11))
  else
   (cI (qcl d 56 [qR (some t), qI a1] h4) fun x14 h13 =>
    (qgr 11 2 t h13).bind fun o15 =>
    o15.bind fun p16 => (qgi 7 0 p16 h13).bind fun x17 =>
    (qpi 11 12 t (x17 - x14) h13).bind fun h18 =>
    (qgr 11 2 t h18).bind fun o19 =>
    o19.bind fun p20 => (qpi 7 0 p20 0 h18).bind fun h21 =>
    cI (qcl d 10 [qR (some t), qI x14] h21) fun x23 h22 =>
    some (some (qI x23), h22))) := by
  exact qE0 42 [] (by rfl)
set_option maxRecDepth 100000 in
set_option maxHeartbeats 1000000 in
theorem E46 (d : Nat) (t : Nat) (a1 : Int32) (a2 : Int32) (a3 : Int32) (h : QH) : qcl (d + 1) 46 [qR (some t), qI a1, qI a2, qI a3] h =
 (qck 11 t h).bind fun _ =>
 cI (qcl d 47 [qI a2, qI a3] h) fun x2 h1 =>
  if x2 = 0 then
  (cI (qcl d 43 [qR (some t), qI (-1)] h1) fun x4 h3 =>
   some (some (qI x4), h3))
 else
  (if a2 = 3 then
   ((qgr 11 0 t h1).bind fun o5 =>
    o5.bind fun p6 => (qgr 10 1 p6 h1).bind fun o7 =>
    cI (qcl d 66 [qR o7, qI a1, qI a3] h1) fun x9 h8 =>
    if x9 = 0 then
    (cI (qcl d 43 [qR (some t), qI (-1)] h8) fun x11 h10 =>
     some (some (qI x11), h10))
   else
    ((qgr 11 0 t h8).bind fun o12 =>
     o12.bind fun p13 => (qgr 10 1 p13 h8).bind fun o14 =>
     cI (qcl d 72 [qR o14, qI a1] h8) fun x16 h15 =>
     if x16 = 0 then
     (cI (qcl d 43 [qR (some t), qI (-2)] h15) fun x18 h17 =>
      some (some (qI x18), h17))
    else
     ((qgr 11 0 t h15).bind fun o19 =>
      o19.bind fun p20 => (qgr 10 1 p20 h15).bind fun o21 =>
      cI (qcl d 67 [qR o21, qI a1, qI a2, qI a3] h15) fun x23 h22 =>
      cI (qcl d 10 [qR (some t), qI x23] h22) fun x25 h24 =>
      some (some (qI x25), h24))))
  else
   ((qgr 11 0 t h1).bind fun o26 =>
    o26.bind fun p27 => (qgr 10 1 p27 h1).bind fun o28 =>
    cI (qcl d 72 [qR o28, qI a1] h1) fun x30 h29 =>
    if x30 = 0 then
    (cI (qcl d 43 [qR (some t), qI (-2)] h29) fun x32 h31 =>
     some (some (qI x32), h31))
   else
    ((qgr 11 0 t h29).bind fun o33 =>
     o33.bind fun p34 => (qgr 10 1 p34 h29).bind fun o35 =>
     cI (qcl d 67 [qR o35, qI a1, qI a2, qI a3] h29) fun x37 h36 =>
     cI (qcl d 10 [qR (some t), qI x37] h36) fun x39 h38 =>
     some (some (qI x39), h38)))) := by
  exact qE0 43 [] (by rfl)
set_option maxRecDepth 100000 in
set_option maxHeartbeats 1000000 in
theorem E47 (d : Nat) (a0 : Int32) (a1 : Int32) (h : QH) : qcl (d + 1) 47 [qI a0, qI a1] h =
 if a0 < 0 then
  (if (0 : Int32) = 0 ∨ (0 : Int32) = 1 then some (some (qI 0), h) else none)
 else
  (if a0 < 4 then
   ((qai 0 1 a0 h).bind fun x1 =>
    if a1 < x1 then
    (if (0 : Int32) = 0 ∨ (0 : Int32) = 1 then some (some (qI 0), h) else none)
   else
    ((qai 0 2 a0 h).bind fun x2 =>
     if x2 < a1 then
     (if (0 : Int32) = 0 ∨ (0 : Int32) = 1 then some (some (qI 0), h) else none)
    else
     (if (1 : Int32) = 0 ∨ (1 : Int32) = 1 then some (some (qI 1), h) else none)))
  else
   (if (0 : Int32) = 0 ∨ (0 : Int32) = 1 then some (some (qI 0), h) else none)) := by
  exact qE0 24 [] (by rfl)
set_option maxRecDepth 100000 in
set_option maxHeartbeats 1000000 in
theorem E48 (d : Nat) (t : Nat) (a1 : Int32) (a2 : Int32) (a3 : Int32) (a4 : Int32) (h : QH) : qcl (d + 1) 48 [qR (some t), qI a1, qI a2, qI a3, qI a4] h =
 (qck 11 t h).bind fun _ =>
 cI (qcl d 21 [qI a1] h) fun x2 h1 =>
  if x2 = 0 then
  (cI (qcl d 43 [qR (some t), qI (-1)] h1) fun x4 h3 =>
   some (some (qI x4), h3))
 else
  ((qgr 11 0 t h1).bind fun o5 =>
   o5.bind fun p6 => (qgr 10 0 p6 h1).bind fun o7 =>
   cI (qcl d 79 [qR o7] h1) fun x9 h8 =>
   if (a4 &&& (x9 ^^^ (-1))) = 0 then
   ((qgr 11 0 t h8).bind fun o10 =>
    cI (qcl d 161 [qR o10, qI a2, qI a3] h8) fun x12 h11 =>
    if x12 = 0 then
    (cI (qcl d 43 [qR (some t), qI (-2)] h11) fun x14 h13 =>
     some (some (qI x14), h13))
   else
    ((qgr 11 0 t h11).bind fun o15 =>
     o15.bind fun p16 => (qgr 10 2 p16 h11).bind fun o17 =>
     o17.bind fun p18 => (qgi 5 0 p18 h11).bind fun x19 =>
     if x19 < 60 then
     ((qgr 11 0 t h11).bind fun o20 =>
      o20.bind fun p21 => (qgr 10 2 p21 h11).bind fun o22 =>
      cI (qcl d 126 [qR o22, qI a1, qI a2, qI a3, qI a4] h11) fun x24 h23 =>
      cI (qcl d 10 [qR (some t), qI x24] h23) fun x26 h25 =>
      some (some (qI x26), h25))
    else
     (cI (qcl d 43 [qR (some t), qI (-5)] h11) fun x28 h27 =>
      some (some (qI x28), h27))))
  else
   (cI (qcl d 43 [qR (some t), qI (-1)] h8) fun x30 h29 =>
    some (some (qI x30), h29))) := by
  exact qE0 52 [] (by rfl)
set_option maxRecDepth 100000 in
set_option maxHeartbeats 1000000 in
theorem E49 (d : Nat) (t : Nat) (h : QH) : qcl (d + 1) 49 [qR (some t)] h =
 (qck 11 t h).bind fun _ =>
 (qgi 11 12 t h).bind fun x1 =>
  some (some (qI x1), h) := by
  exact qE0 8 [] (by rfl)
set_option maxRecDepth 100000 in
set_option maxHeartbeats 1000000 in
theorem E50 (d : Nat) (t : Nat) (a1 : Int32) (h : QH) : qcl (d + 1) 50 [qR (some t), qI a1] h =
 (qck 11 t h).bind fun _ =>
 (qgr 11 0 t h).bind fun o1 =>
  o1.bind fun p2 => (qgr 10 1 p2 h).bind fun o3 =>
  cI (qcl d 72 [qR o3, qI a1] h) fun x5 h4 =>
  if x5 = 0 then
  (some (some (qI (-1)), h4))
 else
  ((qgr 11 0 t h4).bind fun o6 =>
   o6.bind fun p7 => (qgr 10 0 p7 h4).bind fun o8 =>
   cI (qcl d 79 [qR o8] h4) fun x10 h9 =>
   (qgr 11 0 t h9).bind fun o11 =>
   o11.bind fun p12 => (qgr 10 0 p12 h9).bind fun o13 =>
   cI (qcl d 81 [qR o13, qI a1] h9) fun x15 h14 =>
   cI (qcl d 51 [qR (some t), qI a1, qI x10, qI x15] h14) fun x17 h16 =>
   some (some (qI x17), h16)) := by
  exact qE0 26 [] (by rfl)
set_option maxRecDepth 100000 in
set_option maxHeartbeats 1000000 in
theorem E51 (d : Nat) (t : Nat) (a1 : Int32) (a2 : Int32) (a3 : Int32) (h : QH) : qcl (d + 1) 51 [qR (some t), qI a1, qI a2, qI a3] h =
 (qck 11 t h).bind fun _ =>
 (qgr 11 6 t h).bind fun o1 =>
  (qgr 11 0 t h).bind fun o2 =>
  cV (qcl d 139 [qR o1, qR o2, qI a1, qI a2] h) fun h3 =>
  (qgr 11 6 t h3).bind fun o4 =>
  (qgr 11 0 t h3).bind fun o5 =>
  o5.bind fun p6 => (qgr 10 0 p6 h3).bind fun o7 =>
  cI (qcl d 131 [qR o4, qR o7, qI a3] h3) fun x9 h8 =>
  some (some (qI x9), h8) := by
  exact qE0 20 [] (by rfl)
set_option maxRecDepth 100000 in
set_option maxHeartbeats 1000000 in
theorem E52 (d : Nat) (t : Nat) (a1 : Int32) (a2 : Int32) (h : QH) : qcl (d + 1) 52 [qR (some t), qI a1, qI a2] h =
 (qck 11 t h).bind fun _ =>
 (qgr 11 0 t h).bind fun o1 =>
  o1.bind fun p2 => (qgr 10 0 p2 h).bind fun o3 =>
  cI (qcl d 79 [qR o3] h) fun x5 h4 =>
  (qgr 11 0 t h4).bind fun o6 =>
  o6.bind fun p7 => (qgr 10 0 p7 h4).bind fun o8 =>
  cI (qcl d 81 [qR o8, qI a1] h4) fun x10 h9 =>
  cI (qcl d 51 [qR (some t), qI a1, qI (x5 &&& ((1 <<< (a2 &&& 31)) ^^^ (-1))), qI (x10 &&& (x5 &&& ((1 <<< (a2 &&& 31)) ^^^ (-1))))] h9) fun x12 h11 =>
  some (some (qI x12), h11) := by
  exact qE0 28 [] (by rfl)
set_option maxRecDepth 100000 in
set_option maxHeartbeats 1000000 in
theorem E53 (d : Nat) (t : Nat) (a1 : Int32) (a2 : Int32) (h : QH) : qcl (d + 1) 53 [qR (some t), qI a1, qI a2] h =
 (qck 11 t h).bind fun _ =>
 cI (qcl d 21 [qI a1] h) fun x2 h1 =>
  if x2 = 0 then
  (some (some (qI (-1)), h1))
 else
  ((qgr 11 0 t h1).bind fun o3 =>
   o3.bind fun p4 => (qgr 10 0 p4 h1).bind fun o5 =>
   cI (qcl d 80 [qR o5, qI a2] h1) fun x7 h6 =>
   if x7 = 0 then
   (some (some (qI (-1)), h6))
  else
   ((qgr 11 5 t h6).bind fun o8 =>
    (qgr 11 0 t h6).bind fun o9 =>
    (qgr 11 4 t h6).bind fun o10 =>
    (qgi 11 10 t h6).bind fun x11 =>
    cV (qcl d 96 [qR o8, qR o9, qR o10, qI x11] h6) fun h12 =>
    (qgr 11 5 t h12).bind fun o13 =>
    o13.bind fun p14 => (qgr 3 2 p14 h12).bind fun o15 =>
    o15.bind fun p16 => (qai 0 p16 ((a1 * 8) + a2) h12).bind fun x17 =>
    some (some (qI x17), h12))) := by
  exact qE0 35 [] (by rfl)
set_option maxRecDepth 100000 in
set_option maxHeartbeats 1000000 in
theorem E54 (d : Nat) (t : Nat) (a1 : Int32) (a2 : Int32) (h : QH) : qcl (d + 1) 54 [qR (some t), qI a1, qI a2] h =
 (qck 11 t h).bind fun _ =>
 (qgr 11 0 t h).bind fun o1 =>
  cI (qcl d 161 [qR o1, qI a2, qI a1] h) fun x3 h2 =>
  if x3 = 0 then
  (some (some (qI (-1)), h2))
 else
  ((qgr 11 0 t h2).bind fun o4 =>
   o4.bind fun p5 => (qgr 10 0 p5 h2).bind fun o6 =>
   cI (qcl d 79 [qR o6] h2) fun x8 h7 =>
   cI (qcl d 51 [qR (some t), qI a1, qI x8, qI (1 <<< (a2 &&& 31))] h7) fun x10 h9 =>
   some (some (qI x10), h9)) := by
  exact qE0 24 [] (by rfl)
set_option maxRecDepth 100000 in
set_option maxHeartbeats 1000000 in
theorem E55 (d : Nat) (t : Nat) (h : QH) : qcl (d + 1) 55 [qR (some t)] h =
 (qck 11 t h).bind fun _ =>
 (qgi 11 11 t h).bind fun x1 =>
  some (some (qI x1), h) := by
  exact qE0 8 [] (by rfl)
set_option maxRecDepth 100000 in
set_option maxHeartbeats 1000000 in
theorem E56 (d : Nat) (t : Nat) (a1 : Int32) (h : QH) : qcl (d + 1) 56 [qR (some t), qI a1] h =
 (qck 11 t h).bind fun _ =>
 qbig (d + 1) 56 4 [sR (some t), sI a1, sI 0, sI 0] [] h := by
  exact qE0 44 [4] (by rfl)
set_option maxRecDepth 100000 in
set_option maxHeartbeats 1000000 in
theorem E56_4 (d : Nat) (t : Nat) (a1 : Int32) (a2 : Int32) (a3 : Int32) (h : QH) : qbig (d + 1) 56 4 [sR (some t), sI a1, sI a2, sI a3] [] h =
 (qgr 11 0 t h).bind fun o1 =>
  o1.bind fun p2 => (qgr 10 0 p2 h).bind fun o3 =>
  o3.bind fun p4 => (qgi 2 0 p4 h).bind fun x5 =>
  if a3 < x5 then
  ((qgr 11 2 t h).bind fun o6 =>
   o6.bind fun p7 => (qgi 7 0 p7 h).bind fun x8 =>
   if a3 < x8 then
   ((qgr 11 2 t h).bind fun o9 =>
    o9.bind fun p10 => (qgr 7 1 p10 h).bind fun o11 =>
    o11.bind fun p12 => (qai 0 p12 a3 h).bind fun x13 =>
    if 9 < x13 then
    (qbig (d + 1) 56 4 [sR (some t), sI a1, sI a2, sI (a3 + 1)] [] h)
   else
    ((qgr 11 0 t h).bind fun o14 =>
     o14.bind fun p15 => (qgr 10 0 p15 h).bind fun o16 =>
     (qgr 11 2 t h).bind fun o17 =>
     o17.bind fun p18 => (qgr 7 1 p18 h).bind fun o19 =>
     o19.bind fun p20 => (qai 0 p20 a3 h).bind fun x21 =>
     cI (qcl d 85 [qR o16, qI a3, qI a1, qI x21] h) fun x23 h22 =>
     qbig (d + 1) 56 4 [sR (some t), sI a1, sI (a2 + 1), sI (a3 + 1)] [] h22))
  else
   (some (some (qI a2), h)))
 else
  (some (some (qI a2), h)) := by
  exact qE 44 [4] (by rfl)
set_option maxRecDepth 100000 in
set_option maxHeartbeats 1000000 in
theorem E57 (d : Nat) (t : Nat) (a1 : Int32) (a2 : Int32) (h : QH) : qcl (d + 1) 57 [qR (some t), qI a1, qI a2] h =
 (qck 11 t h).bind fun _ =>
 (qgr 11 0 t h).bind fun o1 =>
  o1.bind fun p2 => (qgr 10 0 p2 h).bind fun o3 =>
  cI (qcl d 80 [qR o3, qI a1] h) fun x5 h4 =>
  if x5 = 0 then
  (cI (qcl d 43 [qR (some t), qI (-2)] h4) fun x7 h6 =>
   some (some (qI x7), h6))
 else
  ((qgr 11 0 t h4).bind fun o8 =>
   o8.bind fun p9 => (qgr 10 0 p9 h4).bind fun o10 =>
   cI (qcl d 80 [qR o10, qI a2] h4) fun x12 h11 =>
   if x12 = 0 then
   (cI (qcl d 43 [qR (some t), qI (-2)] h11) fun x14 h13 =>
    some (some (qI x14), h13))
  else
   (if a1 = a2 then
    (cI (qcl d 43 [qR (some t), qI (-3)] h11) fun x16 h15 =>
     some (some (qI x16), h15))
   else
    ((qgr 11 0 t h11).bind fun o17 =>
     o17.bind fun p18 => (qgr 10 0 p18 h11).bind fun o19 =>
     cI (qcl d 83 [qR o19, qI a1, qI a2] h11) fun x21 h20 =>
     if x21 = 0 then
     (cI (qcl d 43 [qR (some t), qI (-3)] h20) fun x23 h22 =>
      some (some (qI x23), h22))
    else
     ((qgr 11 0 t h20).bind fun o24 =>
      o24.bind fun p25 => (qgr 10 0 p25 h20).bind fun o26 =>
      cI (qcl d 87 [qR o26, qI a1, qI a2] h20) fun x28 h27 =>
      cI (qcl d 10 [qR (some t), qI x28] h27) fun x30 h29 =>
      some (some (qI x30), h29))))) := by
  exact qE0 44 [] (by rfl)
set_option maxRecDepth 100000 in
set_option maxHeartbeats 1000000 in
theorem E58 (d : Nat) (t : Nat) (a1 : Int32) (h : QH) : qcl (d + 1) 58 [qR (some t), qI a1] h =
 (qck 11 t h).bind fun _ =>
 if a1 < 1 then
  (some (some (qI (-1)), h))
 else
  (if 12 < a1 then
   (some (some (qI (-1)), h))
  else
   (if 3 < a1 then
    (some (some (qI ((2 * a1) - 4)), h))
   else
    (if 2 = 0 then none else
     some (some (qI ((a1 * (a1 - 1)) / 2)), h)))) := by
  exact qE0 30 [] (by rfl)
set_option maxRecDepth 100000 in
set_option maxHeartbeats 1000000 in
theorem E59 (d : Nat) (a0 : Int32) (a1 : Int32) (h : QH) : qcl (d + 1) 59 [qI a0, qI a1] h =
 if a0 < 0 then
  (if (0 : Int32) = 0 ∨ (0 : Int32) = 1 then some (some (qI 0), h) else none)
 else
  (if a0 < 4 then
   (if a1 < 0 then
    (if (0 : Int32) = 0 ∨ (0 : Int32) = 1 then some (some (qI 0), h) else none)
   else
    ((qai 0 0 a0 h).bind fun x1 =>
     if x1 < a1 then
     (if (0 : Int32) = 0 ∨ (0 : Int32) = 1 then some (some (qI 0), h) else none)
    else
     (if (1 : Int32) = 0 ∨ (1 : Int32) = 1 then some (some (qI 1), h) else none)))
  else
   (if (0 : Int32) = 0 ∨ (0 : Int32) = 1 then some (some (qI 0), h) else none)) := by
  exact qE0 21 [] (by rfl)
set_option maxRecDepth 100000 in
set_option maxHeartbeats 1000000 in
theorem E60 (d : Nat) (t : Nat) (a1 : Int32) (a2 : Int32) (h : QH) : qcl (d + 1) 60 [qR (some t), qI a1, qI a2] h =
 (qck 11 t h).bind fun _ =>
 if a2 < 0 then
  (cI (qcl d 43 [qR (some t), qI (-1)] h) fun x2 h1 =>
   some (some (qI x2), h1))
 else
  (if 1000000 < a2 then
   (cI (qcl d 43 [qR (some t), qI (-1)] h) fun x4 h3 =>
    some (some (qI x4), h3))
  else
   ((qgr 11 0 t h).bind fun o5 =>
    o5.bind fun p6 => (qgr 10 1 p6 h).bind fun o7 =>
    cI (qcl d 72 [qR o7, qI a1] h) fun x9 h8 =>
    if x9 = 0 then
    (cI (qcl d 43 [qR (some t), qI (-2)] h8) fun x11 h10 =>
     some (some (qI x11), h10))
   else
    ((qgr 11 7 t h8).bind fun o12 =>
     (qgr 11 0 t h8).bind fun o13 =>
     (qgr 11 4 t h8).bind fun o14 =>
     cI (qcl d 156 [qR o12, qR o13, qR o14, qI a1, qI a2] h8) fun x16 h15 =>
     cI (qcl d 10 [qR (some t), qI x16] h15) fun x18 h17 =>
     some (some (qI x18), h17)))) := by
  exact qE0 36 [] (by rfl)
set_option maxRecDepth 100000 in
set_option maxHeartbeats 1000000 in
theorem E61 (d : Nat) (t : Nat) (a1 : Int32) (a2 : Int32) (a3 : Int32) (a4 : Int32) (h : QH) : qcl (d + 1) 61 [qR (some t), qI a1, qI a2, qI a3, qI a4] h =
 (qck 11 t h).bind fun _ =>
 cI (qcl d 12 [qI a1, qI a2, qI a3] h) fun x2 h1 =>
  if x2 = 0 then
  (some (some (qI (-1)), h1))
 else
  (if a4 < 0 then
   (some (some (qI (-1)), h1))
  else
   (if 12 < a4 then
    (some (some (qI (-1)), h1))
   else
    (qbig (d + 1) 61 27 [sR (some t), sI a1, sI a2, sI a3, sI a4, sI 9, none] [] h1))) := by
  exact qE0 41 [27] (by rfl)
set_option maxRecDepth 100000 in
set_option maxHeartbeats 1000000 in
theorem E61_27 (d : Nat) (t : Nat) (a1 : Int32) (a2 : Int32) (a3 : Int32) (a4 : Int32) (a5 : Int32) (h : QH) : qbig (d + 1) 61 27 [sR (some t), sI a1, sI a2, sI a3, sI a4, sI a5, none] [] h =
 if a5 < 1 then
  (some (some (qI 0), h))
 else
  (cI (qcl d 13 [qR (some t), qI a1, qI a2, qI a3, qI a5] h) fun x2 h1 =>
   if x2 = (-1) then
   (qbig (d + 1) 61 27 [sR (some t), sI a1, sI a2, sI a3, sI a4, sI (a5 + (-1)), none] [] h1)
  else
   (if a4 < x2 then
    (qbig (d + 1) 61 27 [sR (some t), sI a1, sI a2, sI a3, sI a4, sI (a5 + (-1)), none] [] h1)
   else
    (some (some (qI a5), h1)))) := by
  exact qE 41 [27] (by rfl)
set_option maxRecDepth 100000 in
set_option maxHeartbeats 1000000 in
theorem E62 (d : Nat) (t : Nat) (a1 : Int32) (h : QH) : qcl (d + 1) 62 [qR (some t), qI a1] h =
 (qck 11 t h).bind fun _ =>
 (qgr 11 0 t h).bind fun o1 =>
  o1.bind fun p2 => (qgr 10 2 p2 h).bind fun o3 =>
  cI (qcl d 128 [qR o3, qI a1] h) fun x5 h4 =>
  if x5 = 0 then
  (some (some (qI (-1)), h4))
 else
  ((qgr 11 5 t h4).bind fun o6 =>
   (qgr 11 0 t h4).bind fun o7 =>
   (qgr 11 4 t h4).bind fun o8 =>
   (qgi 11 10 t h4).bind fun x9 =>
   cV (qcl d 96 [qR o6, qR o7, qR o8, qI x9] h4) fun h10 =>
   (qgr 11 5 t h10).bind fun o11 =>
   o11.bind fun p12 => (qgr 3 3 p12 h10).bind fun o13 =>
   o13.bind fun p14 => (qai 0 p14 a1 h10).bind fun x15 =>
   some (some (qI x15), h10)) := by
  exact qE0 28 [] (by rfl)
set_option maxRecDepth 100000 in
set_option maxHeartbeats 1000000 in
theorem E63 (d : Nat) (t : Nat) (a1 : Int32) (a2 : Int32) (h : QH) : qcl (d + 1) 63 [qR (some t), qI a1, qI a2] h =
 (qck 11 t h).bind fun _ =>
 (qgr 11 0 t h).bind fun o1 =>
  cI (qcl d 161 [qR o1, qI a2, qI a1] h) fun x3 h2 =>
  if x3 = 0 then
  (some (some (qI (-1)), h2))
 else
  (cI (qcl d 52 [qR (some t), qI a1, qI a2] h2) fun x5 h4 =>
   some (some (qI x5), h4)) := by
  exact qE0 18 [] (by rfl)
