set_option maxRecDepth 100000 in
set_option maxHeartbeats 1000000 in
theorem E0 (d : Nat) (a0 : Option Nat) (h : QH) : qcl (d + 1) 0 [qR a0] h =
 cV (qcl d 9 [qR (some (hN h))] (qno 11 14 h)) fun h1 =>
  cV (qcl d 164 [qR (some (hN h1))] (qno 12 45 h1)) fun h2 =>
  qbig (d + 1) 0 18 [sR a0, sR (some (hN h)), sR (some (hN h1)), sI 0] [] h2 := by
  exact qE0 1132 [18] (by rfl)
set_option maxRecDepth 100000 in
set_option maxHeartbeats 1000000 in
theorem E0_18 (d : Nat) (a0 : Option Nat) (a1 : Option Nat) (a2 : Option Nat) (a3 : Int32) (h : QH) : qbig (d + 1) 0 18 [sR a0, sR a1, sR a2, sI a3] [] h =
 a0.bind fun p1 => (qal p1 h).bind fun x2 =>
  if (x2 - 6) < a3 then
  (if (1 : Int32) = 0 ∨ (1 : Int32) = 1 then some (some (qI 1), h) else none)
 else
  (a0.bind fun p3 => (qai 0 p3 a3 h).bind fun x4 =>
   if (x4 &&& 63) = 0 then
   (a0.bind fun p481 => (qai 0 p481 (a3 + 1) h).bind fun x482 =>
    a0.bind fun p483 => (qai 0 p483 (a3 + 2) h).bind fun x484 =>
    a0.bind fun p485 => (qai 0 p485 (a3 + 3) h).bind fun x486 =>
    cI (qcl d 39 [qR a1, qI x482, qI x484, qI x486] h) fun x488 h487 =>
    a0.bind fun p489 => (qai 0 p489 (a3 + 1) h487).bind fun x490 =>
    a0.bind fun p491 => (qai 0 p491 (a3 + 2) h487).bind fun x492 =>
    a0.bind fun p493 => (qai 0 p493 (a3 + 3) h487).bind fun x494 =>
    cI (qcl d 226 [qR a2, qI x490, qI x492, qI x494] h487) fun x496 h495 =>
    if x488 = x496 then
    (qbig (d + 1) 0 18 [sR a0, sR a1, sR a2, sI (a3 + 6)] [] h495)
   else
    (if (0 : Int32) = 0 ∨ (0 : Int32) = 1 then some (some (qI 0), h495) else none))
  else
   (if (x4 &&& 63) = 1 then
   (a0.bind fun p465 => (qai 0 p465 (a3 + 1) h).bind fun x466 =>
    a0.bind fun p467 => (qai 0 p467 (a3 + 2) h).bind fun x468 =>
    a0.bind fun p469 => (qai 0 p469 (a3 + 3) h).bind fun x470 =>
    cI (qcl d 41 [qR a1, qI x466, qI x468, qI x470] h) fun x472 h471 =>
    a0.bind fun p473 => (qai 0 p473 (a3 + 1) h471).bind fun x474 =>
    a0.bind fun p475 => (qai 0 p475 (a3 + 2) h471).bind fun x476 =>
    a0.bind fun p477 => (qai 0 p477 (a3 + 3) h471).bind fun x478 =>
    cI (qcl d 235 [qR a2, qI x474, qI x476, qI x478] h471) fun x480 h479 =>
    if x472 = x480 then
    (qbig (d + 1) 0 18 [sR a0, sR a1, sR a2, sI (a3 + 6)] [] h479)
   else
    (if (0 : Int32) = 0 ∨ (0 : Int32) = 1 then some (some (qI 0), h479) else none))
  else
   (if (x4 &&& 63) = 2 then
   (a0.bind fun p449 => (qai 0 p449 (a3 + 1) h).bind fun x450 =>
    a0.bind fun p451 => (qai 0 p451 (a3 + 2) h).bind fun x452 =>
    a0.bind fun p453 => (qai 0 p453 (a3 + 3) h).bind fun x454 =>
    cI (qcl d 37 [qR a1, qI x450, qI x452, qI x454] h) fun x456 h455 =>
    a0.bind fun p457 => (qai 0 p457 (a3 + 1) h455).bind fun x458 =>
    a0.bind fun p459 => (qai 0 p459 (a3 + 2) h455).bind fun x460 =>
    a0.bind fun p461 => (qai 0 p461 (a3 + 3) h455).bind fun x462 =>
    cI (qcl d 222 [qR a2, qI x458, qI x460, qI x462] h455) fun x464 h463 =>
    if x456 = x464 then
    (qbig (d + 1) 0 18 [sR a0, sR a1, sR a2, sI (a3 + 6)] [] h463)
   else
    (if (0 : Int32) = 0 ∨ (0 : Int32) = 1 then some (some (qI 0), h463) else none))
  else
   (if (x4 &&& 63) = 3 then
   (a0.bind fun p437 => (qai 0 p437 (a3 + 1) h).bind fun x438 =>
    a0.bind fun p439 => (qai 0 p439 (a3 + 2) h).bind fun x440 =>
    cI (qcl d 14 [qR a1, qI x438, qI x440] h) fun x442 h441 =>
    a0.bind fun p443 => (qai 0 p443 (a3 + 1) h441).bind fun x444 =>
    a0.bind fun p445 => (qai 0 p445 (a3 + 2) h441).bind fun x446 =>
    cI (qcl d 167 [qR a2, qI x444, qI x446] h441) fun x448 h447 =>
    if x442 = x448 then
    (qbig (d + 1) 0 18 [sR a0, sR a1, sR a2, sI (a3 + 6)] [] h447)
   else
    (if (0 : Int32) = 0 ∨ (0 : Int32) = 1 then some (some (qI 0), h447) else none))
  else
   (if (x4 &&& 63) = 4 then
   (a0.bind fun p421 => (qai 0 p421 (a3 + 1) h).bind fun x422 =>
    a0.bind fun p423 => (qai 0 p423 (a3 + 2) h).bind fun x424 =>
    a0.bind fun p425 => (qai 0 p425 (a3 + 3) h).bind fun x426 =>
    cI (qcl d 46 [qR a1, qI x422, qI x424, qI x426] h) fun x428 h427 =>
    a0.bind fun p429 => (qai 0 p429 (a3 + 1) h427).bind fun x430 =>
    a0.bind fun p431 => (qai 0 p431 (a3 + 2) h427).bind fun x432 =>
    a0.bind fun p433 => (qai 0 p433 (a3 + 3) h427).bind fun x434 =>
    cI (qcl d 248 [qR a2, qI x430, qI x432, qI x434] h427) fun x436 h435 =>
    if x428 = x436 then
    (qbig (d + 1) 0 18 [sR a0, sR a1, sR a2, sI (a3 + 6)] [] h435)
   else
    (if (0 : Int32) = 0 ∨ (0 : Int32) = 1 then some (some (qI 0), h435) else none))
  else
   (if (x4 &&& 63) = 5 then
   (a0.bind fun p405 => (qai 0 p405 (a3 + 1) h).bind fun x406 =>
    a0.bind fun p407 => (qai 0 p407 (a3 + 2) h).bind fun x408 =>
    a0.bind fun p409 => (qai 0 p409 (a3 + 3) h).bind fun x410 =>
    cI (qcl d 34 [qR a1, qI x406, qI x408, qI x410] h) fun x412 h411 =>
    a0.bind fun p413 => (qai 0 p413 (a3 + 1) h411).bind fun x414 =>
    a0.bind fun p415 => (qai 0 p415 (a3 + 2) h411).bind fun x416 =>
    a0.bind fun p417 => (qai 0 p417 (a3 + 3) h411).bind fun x418 =>
    cI (qcl d 210 [qR a2, qI x414, qI x416, qI x418] h411) fun x420 h419 =>
    if x412 = x420 then
    (qbig (d + 1) 0 18 [sR a0, sR a1, sR a2, sI (a3 + 6)] [] h419)
   else
    (if (0 : Int32) = 0 ∨ (0 : Int32) = 1 then some (some (qI 0), h419) else none))
  else
   (if (x4 &&& 63) = 6 then
   (a0.bind fun p393 => (qai 0 p393 (a3 + 1) h).bind fun x394 =>
    a0.bind fun p395 => (qai 0 p395 (a3 + 2) h).bind fun x396 =>
    cI (qcl d 38 [qR a1, qI x394, qI x396] h) fun x398 h397 =>
    a0.bind fun p399 => (qai 0 p399 (a3 + 1) h397).bind fun x400 =>
    a0.bind fun p401 => (qai 0 p401 (a3 + 2) h397).bind fun x402 =>
    cI (qcl d 225 [qR a2, qI x400, qI x402] h397) fun x404 h403 =>
    if x398 = x404 then
    (qbig (d + 1) 0 18 [sR a0, sR a1, sR a2, sI (a3 + 6)] [] h403)
   else
    (if (0 : Int32) = 0 ∨ (0 : Int32) = 1 then some (some (qI 0), h403) else none))
  else
   (if (x4 &&& 63) = 7 then
   (a0.bind fun p369 => (qai 0 p369 (a3 + 1) h).bind fun x370 =>
    a0.bind fun p371 => (qai 0 p371 (a3 + 2) h).bind fun x372 =>
    a0.bind fun p373 => (qai 0 p373 (a3 + 3) h).bind fun x374 =>
    a0.bind fun p375 => (qai 0 p375 (a3 + 4) h).bind fun x376 =>
    a0.bind fun p377 => (qai 0 p377 (a3 + 5) h).bind fun x378 =>
    cI (qcl d 25 [qR a1, qI x370, qI x372, qI x374, qI x376, qI x378] h) fun x380 h379 =>
    a0.bind fun p381 => (qai 0 p381 (a3 + 1) h379).bind fun x382 =>
    a0.bind fun p383 => (qai 0 p383 (a3 + 2) h379).bind fun x384 =>
    a0.bind fun p385 => (qai 0 p385 (a3 + 3) h379).bind fun x386 =>
    a0.bind fun p387 => (qai 0 p387 (a3 + 4) h379).bind fun x388 =>
    a0.bind fun p389 => (qai 0 p389 (a3 + 5) h379).bind fun x390 =>
    cI (qcl d 185 [qR a2, qI x382, qI x384, qI x386, qI x388, qI x390] h379) fun x392 h391 =>
    if x380 = x392 then
    (qbig (d + 1) 0 18 [sR a0, sR a1, sR a2, sI (a3 + 6)] [] h391)
   else
    (if (0 : Int32) = 0 ∨ (0 : Int32) = 1 then some (some (qI 0), h391) else none))
  else
   (if (x4 &&& 63) = 8 then
   (a0.bind fun p361 => (qai 0 p361 (a3 + 1) h).bind fun x362 =>
    cI (qcl d 23 [qR a1, qI x362] h) fun x364 h363 =>
    a0.bind fun p365 => (qai 0 p365 (a3 + 1) h363).bind fun x366 =>
    cI (qcl d 182 [qR a2, qI x366] h363) fun x368 h367 =>
    if x364 = x368 then
    (qbig (d + 1) 0 18 [sR a0, sR a1, sR a2, sI (a3 + 6)] [] h367)
   else
    (if (0 : Int32) = 0 ∨ (0 : Int32) = 1 then some (some (qI 0), h367) else none))
  else
   (if (x4 &&& 63) = 9 then
   (a0.bind fun p353 => (qai 0 p353 (a3 + 1) h).bind fun x354 =>
    cI (qcl d 45 [qR a1, qI x354] h) fun x356 h355 =>
    a0.bind fun p357 => (qai 0 p357 (a3 + 1) h355).bind fun x358 =>
    cI (qcl d 247 [qR a2, qI x358] h355) fun x360 h359 =>
    if x356 = x360 then
    (qbig (d + 1) 0 18 [sR a0, sR a1, sR a2, sI (a3 + 6)] [] h359)
   else
    (if (0 : Int32) = 0 ∨ (0 : Int32) = 1 then some (some (qI 0), h359) else none))
  else
   (if (x4 &&& 63) = 10 then
   (cI (qcl d 49 [qR a1] h) fun x350 h349 =>
    cI (qcl d 255 [qR a2] h349) fun x352 h351 =>
    if x350 = x352 then
    (qbig (d + 1) 0 18 [sR a0, sR a1, sR a2, sI (a3 + 6)] [] h351)
   else
    (if (0 : Int32) = 0 ∨ (0 : Int32) = 1 then some (some (qI 0), h351) else none))
  else
   (if (x4 &&& 63) = 11 then
   (cI (qcl d 35 [qR a1] h) fun x346 h345 =>
    cI (qcl d 214 [qR a2] h345) fun x348 h347 =>
    if x346 = x348 then
    (qbig (d + 1) 0 18 [sR a0, sR a1, sR a2, sI (a3 + 6)] [] h347)
   else
    (if (0 : Int32) = 0 ∨ (0 : Int32) = 1 then some (some (qI 0), h347) else none))
  else
   (if (x4 &&& 63) = 12 then
   (cI (qcl d 24 [qR a1] h) fun x342 h341 =>
    cI (qcl d 183 [qR a2] h341) fun x344 h343 =>
    if x342 = x344 then
    (qbig (d + 1) 0 18 [sR a0, sR a1, sR a2, sI (a3 + 6)] [] h343)
   else
    (if (0 : Int32) = 0 ∨ (0 : Int32) = 1 then some (some (qI 0), h343) else none))
  else
   (if (x4 &&& 63) = 13 then
   (a0.bind fun p333 => (qai 0 p333 (a3 + 1) h).bind fun x334 =>
    cI (qcl d 28 [qR a1, qI x334] h) fun x336 h335 =>
    a0.bind fun p337 => (qai 0 p337 (a3 + 1) h335).bind fun x338 =>
    cI (qcl d 189 [qR a2, qI x338] h335) fun x340 h339 =>
    if x336 = x340 then
    (qbig (d + 1) 0 18 [sR a0, sR a1, sR a2, sI (a3 + 6)] [] h339)
   else
    (if (0 : Int32) = 0 ∨ (0 : Int32) = 1 then some (some (qI 0), h339) else none))
  else
   (if (x4 &&& 63) = 14 then
   (a0.bind fun p313 => (qai 0 p313 (a3 + 1) h).bind fun x314 =>
    a0.bind fun p315 => (qai 0 p315 (a3 + 2) h).bind fun x316 =>
    a0.bind fun p317 => (qai 0 p317 (a3 + 3) h).bind fun x318 =>
    a0.bind fun p319 => (qai 0 p319 (a3 + 4) h).bind fun x320 =>
    cI (qcl d 29 [qR a1, qI x314, qI x316, qI x318, qI x320] h) fun x322 h321 =>
    a0.bind fun p323 => (qai 0 p323 (a3 + 1) h321).bind fun x324 =>
    a0.bind fun p325 => (qai 0 p325 (a3 + 2) h321).bind fun x326 =>
    a0.bind fun p327 => (qai 0 p327 (a3 + 3) h321).bind fun x328 =>
    a0.bind fun p329 => (qai 0 p329 (a3 + 4) h321).bind fun x330 =>
    cI (qcl d 192 [qR a2, qI x324, qI x326, qI x328, qI x330] h321) fun x332 h331 =>
    if x322 = x332 then
    (qbig (d + 1) 0 18 [sR a0, sR a1, sR a2, sI (a3 + 6)] [] h331)
   else
    (if (0 : Int32) = 0 ∨ (0 : Int32) = 1 then some (some (qI 0), h331) else none))
  else
   (if (x4 &&& 63) = 15 then
   (a0.bind fun p293 => (qai 0 p293 (a3 + 1) h).bind fun x294 =>
    a0.bind fun p295 => (qai 0 p295 (a3 + 2) h).bind fun x296 =>
    a0.bind fun p297 => (qai 0 p297 (a3 + 3) h).bind fun x298 =>
    a0.bind fun p299 => (qai 0 p299 (a3 + 4) h).bind fun x300 =>
    cI (qcl d 48 [qR a1, qI x294, qI x296, qI x298, qI x300] h) fun x302 h301 =>
    a0.bind fun p303 => (qai 0 p303 (a3 + 1) h301).bind fun x304 =>
    a0.bind fun p305 => (qai 0 p305 (a3 + 2) h301).bind fun x306 =>
    a0.bind fun p307 => (qai 0 p307 (a3 + 3) h301).bind fun x308 =>
    a0.bind fun p309 => (qai 0 p309 (a3 + 4) h301).bind fun x310 =>
    cI (qcl d 249 [qR a2, qI x304, qI x306, qI x308, qI x310] h301) fun x312 h311 =>
    if x302 = x312 then
    (qbig (d + 1) 0 18 [sR a0, sR a1, sR a2, sI (a3 + 6)] [] h311)
   else
    (if (0 : Int32) = 0 ∨ (0 : Int32) = 1 then some (some (qI 0), h311) else none))
  else
   (if (x4 &&& 63) = 16 then
   (a0.bind fun p281 => (qai 0 p281 (a3 + 1) h).bind fun x282 =>
    a0.bind fun p283 => (qai 0 p283 (a3 + 2) h).bind fun x284 =>
    cI (qcl d 64 [qR a1, qI x282, qI x284] h) fun x286 h285 =>
    a0.bind fun p287 => (qai 0 p287 (a3 + 1) h285).bind fun x288 =>
    a0.bind fun p289 => (qai 0 p289 (a3 + 2) h285).bind fun x290 =>
    cI (qcl d 277 [qR a2, qI x288, qI x290] h285) fun x292 h291 =>
    if x286 = x292 then
    (qbig (d + 1) 0 18 [sR a0, sR a1, sR a2, sI (a3 + 6)] [] h291)
   else
    (if (0 : Int32) = 0 ∨ (0 : Int32) = 1 then some (some (qI 0), h291) else none))
  else
   (if (x4 &&& 63) = 17 then
   (cI (qcl d 19 [qR a1] h) fun x278 h277 =>
    cI (qcl d 177 [qR a2] h277) fun x280 h279 =>
    if x278 = x280 then
    (qbig (d + 1) 0 18 [sR a0, sR a1, sR a2, sI (a3 + 6)] [] h279)
   else
    (if (0 : Int32) = 0 ∨ (0 : Int32) = 1 then some (some (qI 0), h279) else none))
  else
   (if (x4 &&& 63) = 18 then
   (a0.bind fun p261 => (qai 0 p261 (a3 + 1) h).bind fun x262 =>
    a0.bind fun p263 => (qai 0 p263 (a3 + 2) h).bind fun x264 =>
    a0.bind fun p265 => (qai 0 p265 (a3 + 3) h).bind fun x266 =>
    cI (qcl d 16 [qR a1, qI x262, qI x264, qI x266] h) fun x268 h267 =>
    a0.bind fun p269 => (qai 0 p269 (a3 + 1) h267).bind fun x270 =>
    a0.bind fun p271 => (qai 0 p271 (a3 + 2) h267).bind fun x272 =>
    a0.bind fun p273 => (qai 0 p273 (a3 + 3) h267).bind fun x274 =>
    cI (qcl d 173 [qR a2, qI x270, qI x272, qI x274] h267) fun x276 h275 =>
    if x268 = x276 then
    (qbig (d + 1) 0 18 [sR a0, sR a1, sR a2, sI (a3 + 6)] [] h275)
   else
    (if (0 : Int32) = 0 ∨ (0 : Int32) = 1 then some (some (qI 0), h275) else none))
  else
   (if (x4 &&& 63) = 19 then
   (a0.bind fun p245 => (qai 0 p245 (a3 + 1) h).bind fun x246 =>
    a0.bind fun p247 => (qai 0 p247 (a3 + 2) h).bind fun x248 =>
    a0.bind fun p249 => (qai 0 p249 (a3 + 3) h).bind fun x250 =>
    cI (qcl d 30 [qR a1, qI x246, qI x248, qI x250] h) fun x252 h251 =>
    a0.bind fun p253 => (qai 0 p253 (a3 + 1) h251).bind fun x254 =>
    a0.bind fun p255 => (qai 0 p255 (a3 + 2) h251).bind fun x256 =>
    a0.bind fun p257 => (qai 0 p257 (a3 + 3) h251).bind fun x258 =>
    cI (qcl d 195 [qR a2, qI x254, qI x256, qI x258] h251) fun x260 h259 =>
    if x252 = x260 then
    (qbig (d + 1) 0 18 [sR a0, sR a1, sR a2, sI (a3 + 6)] [] h259)
   else
    (if (0 : Int32) = 0 ∨ (0 : Int32) = 1 then some (some (qI 0), h259) else none))
  else
   (if (x4 &&& 63) = 20 then
   (a0.bind fun p233 => (qai 0 p233 (a3 + 1) h).bind fun x234 =>
    a0.bind fun p235 => (qai 0 p235 (a3 + 2) h).bind fun x236 =>
    cI (qcl d 53 [qR a1, qI x234, qI x236] h) fun x238 h237 =>
    a0.bind fun p239 => (qai 0 p239 (a3 + 1) h237).bind fun x240 =>
    a0.bind fun p241 => (qai 0 p241 (a3 + 2) h237).bind fun x242 =>
    cI (qcl d 259 [qR a2, qI x240, qI x242] h237) fun x244 h243 =>
    if x238 = x244 then
    (qbig (d + 1) 0 18 [sR a0, sR a1, sR a2, sI (a3 + 6)] [] h243)
   else
    (if (0 : Int32) = 0 ∨ (0 : Int32) = 1 then some (some (qI 0), h243) else none))
  else
   (if (x4 &&& 63) = 21 then
   (a0.bind fun p225 => (qai 0 p225 (a3 + 1) h).bind fun x226 =>
    cI (qcl d 62 [qR a1, qI x226] h) fun x228 h227 =>
    a0.bind fun p229 => (qai 0 p229 (a3 + 1) h227).bind fun x230 =>
    cI (qcl d 274 [qR a2, qI x230] h227) fun x232 h231 =>
    if x228 = x232 then
    (qbig (d + 1) 0 18 [sR a0, sR a1, sR a2, sI (a3 + 6)] [] h231)
   else
    (if (0 : Int32) = 0 ∨ (0 : Int32) = 1 then some (some (qI 0), h231) else none))
  else
   (if (x4 &&& 63) = 22 then
   (a0.bind fun p217 => (qai 0 p217 (a3 + 1) h).bind fun x218 =>
    cI (qcl d 33 [qR a1, qI x218] h) fun x220 h219 =>
    a0.bind fun p221 => (qai 0 p221 (a3 + 1) h219).bind fun x222 =>
    cI (qcl d 209 [qR a2, qI x222] h219) fun x224 h223 =>
    if x220 = x224 then
    (qbig (d + 1) 0 18 [sR a0, sR a1, sR a2, sI (a3 + 6)] [] h223)
   else
    (if (0 : Int32) = 0 ∨ (0 : Int32) = 1 then some (some (qI 0), h223) else none))
  else
   (if (x4 &&& 63) = 23 then
   (a0.bind fun p209 => (qai 0 p209 (a3 + 1) h).bind fun x210 =>
    cI (qcl d 50 [qR a1, qI x210] h) fun x212 h211 =>
    a0.bind fun p213 => (qai 0 p213 (a3 + 1) h211).bind fun x214 =>
    cI (qcl d 258 [qR a2, qI x214] h211) fun x216 h215 =>
    if x212 = x216 then
    (qbig (d + 1) 0 18 [sR a0, sR a1, sR a2, sI (a3 + 6)] [] h215)
   else
    (if (0 : Int32) = 0 ∨ (0 : Int32) = 1 then some (some (qI 0), h215) else none))
  else
   (if (x4 &&& 63) = 24 then
   (a0.bind fun p197 => (qai 0 p197 (a3 + 1) h).bind fun x198 =>
    a0.bind fun p199 => (qai 0 p199 (a3 + 2) h).bind fun x200 =>
    cI (qcl d 27 [qR a1, qI x198, qI x200] h) fun x202 h201 =>
    a0.bind fun p203 => (qai 0 p203 (a3 + 1) h201).bind fun x204 =>
    a0.bind fun p205 => (qai 0 p205 (a3 + 2) h201).bind fun x206 =>
    cI (qcl d 188 [qR a2, qI x204, qI x206] h201) fun x208 h207 =>
    if x202 = x208 then
    (qbig (d + 1) 0 18 [sR a0, sR a1, sR a2, sI (a3 + 6)] [] h207)
   else
    (if (0 : Int32) = 0 ∨ (0 : Int32) = 1 then some (some (qI 0), h207) else none))
  else
   (if (x4 &&& 63) = 25 then
   (a0.bind fun p185 => (qai 0 p185 (a3 + 1) h).bind fun x186 =>
    a0.bind fun p187 => (qai 0 p187 (a3 + 2) h).bind fun x188 =>
    cI (qcl d 26 [qR a1, qI x186, qI x188] h) fun x190 h189 =>
    a0.bind fun p191 => (qai 0 p191 (a3 + 1) h189).bind fun x192 =>
    a0.bind fun p193 => (qai 0 p193 (a3 + 2) h189).bind fun x194 =>
    cI (qcl d 186 [qR a2, qI x192, qI x194] h189) fun x196 h195 =>
    if x190 = x196 then
    (qbig (d + 1) 0 18 [sR a0, sR a1, sR a2, sI (a3 + 6)] [] h195)
   else
    (if (0 : Int32) = 0 ∨ (0 : Int32) = 1 then some (some (qI 0), h195) else none))
  else
   (if (x4 &&& 63) = 26 then
   (a0.bind fun p173 => (qai 0 p173 (a3 + 1) h).bind fun x174 =>
    a0.bind fun p175 => (qai 0 p175 (a3 + 2) h).bind fun x176 =>
    cI (qcl d 63 [qR a1, qI x174, qI x176] h) fun x178 h177 =>
    a0.bind fun p179 => (qai 0 p179 (a3 + 1) h177).bind fun x180 =>
    a0.bind fun p181 => (qai 0 p181 (a3 + 2) h177).bind fun x182 =>
    cI (qcl d 275 [qR a2, qI x180, qI x182] h177) fun x184 h183 =>
    if x178 = x184 then
    (qbig (d + 1) 0 18 [sR a0, sR a1, sR a2, sI (a3 + 6)] [] h183)
   else
    (if (0 : Int32) = 0 ∨ (0 : Int32) = 1 then some (some (qI 0), h183) else none))
  else
   (if (x4 &&& 63) = 27 then
   (a0.bind fun p165 => (qai 0 p165 (a3 + 1) h).bind fun x166 =>
    cI (qcl d 36 [qR a1, qI x166] h) fun x168 h167 =>
    a0.bind fun p169 => (qai 0 p169 (a3 + 1) h167).bind fun x170 =>
    cI (qcl d 216 [qR a2, qI x170] h167) fun x172 h171 =>
    if x168 = x172 then
    (qbig (d + 1) 0 18 [sR a0, sR a1, sR a2, sI (a3 + 6)] [] h171)
   else
    (if (0 : Int32) = 0 ∨ (0 : Int32) = 1 then some (some (qI 0), h171) else none))
  else
   (if (x4 &&& 63) = 28 then
   (a0.bind fun p153 => (qai 0 p153 (a3 + 1) h).bind fun x154 =>
    a0.bind fun p155 => (qai 0 p155 (a3 + 2) h).bind fun x156 =>
    cI (qcl d 54 [qR a1, qI x154, qI x156] h) fun x158 h157 =>
    a0.bind fun p159 => (qai 0 p159 (a3 + 1) h157).bind fun x160 =>
    a0.bind fun p161 => (qai 0 p161 (a3 + 2) h157).bind fun x162 =>
    cI (qcl d 261 [qR a2, qI x160, qI x162] h157) fun x164 h163 =>
    if x158 = x164 then
    (qbig (d + 1) 0 18 [sR a0, sR a1, sR a2, sI (a3 + 6)] [] h163)
   else
    (if (0 : Int32) = 0 ∨ (0 : Int32) = 1 then some (some (qI 0), h163) else none))
  else
   (if (x4 &&& 63) = 29 then
   (a0.bind fun p145 => (qai 0 p145 (a3 + 1) h).bind fun x146 =>
    cI (qcl d 17 [qR a1, qI x146] h) fun x148 h147 =>
    a0.bind fun p149 => (qai 0 p149 (a3 + 1) h147).bind fun x150 =>
    cI (qcl d 174 [qR a2, qI x150] h147) fun x152 h151 =>
    if x148 = x152 then
    (qbig (d + 1) 0 18 [sR a0, sR a1, sR a2, sI (a3 + 6)] [] h151)
   else
    (if (0 : Int32) = 0 ∨ (0 : Int32) = 1 then some (some (qI 0), h151) else none))
  else
   (if (x4 &&& 63) = 30 then
   (a0.bind fun p125 => (qai 0 p125 (a3 + 1) h).bind fun x126 =>
    a0.bind fun p127 => (qai 0 p127 (a3 + 2) h).bind fun x128 =>
    a0.bind fun p129 => (qai 0 p129 (a3 + 3) h).bind fun x130 =>
    a0.bind fun p131 => (qai 0 p131 (a3 + 4) h).bind fun x132 =>
    cI (qcl d 11 [qR a1, qI x126, qI x128, qI x130, qI x132] h) fun x134 h133 =>
    a0.bind fun p135 => (qai 0 p135 (a3 + 1) h133).bind fun x136 =>
    a0.bind fun p137 => (qai 0 p137 (a3 + 2) h133).bind fun x138 =>
    a0.bind fun p139 => (qai 0 p139 (a3 + 3) h133).bind fun x140 =>
    a0.bind fun p141 => (qai 0 p141 (a3 + 4) h133).bind fun x142 =>
    cI (qcl d 165 [qR a2, qI x136, qI x138, qI x140, qI x142] h133) fun x144 h143 =>
    if x134 = x144 then
    (qbig (d + 1) 0 18 [sR a0, sR a1, sR a2, sI (a3 + 6)] [] h143)
   else
    (if (0 : Int32) = 0 ∨ (0 : Int32) = 1 then some (some (qI 0), h143) else none))
  else
   (if (x4 &&& 63) = 31 then
   (a0.bind fun p105 => (qai 0 p105 (a3 + 1) h).bind fun x106 =>
    a0.bind fun p107 => (qai 0 p107 (a3 + 2) h).bind fun x108 =>
    a0.bind fun p109 => (qai 0 p109 (a3 + 3) h).bind fun x110 =>
    a0.bind fun p111 => (qai 0 p111 (a3 + 4) h).bind fun x112 =>
    cI (qcl d 61 [qR a1, qI x106, qI x108, qI x110, qI x112] h) fun x114 h113 =>
    a0.bind fun p115 => (qai 0 p115 (a3 + 1) h113).bind fun x116 =>
    a0.bind fun p117 => (qai 0 p117 (a3 + 2) h113).bind fun x118 =>
    a0.bind fun p119 => (qai 0 p119 (a3 + 3) h113).bind fun x120 =>
    a0.bind fun p121 => (qai 0 p121 (a3 + 4) h113).bind fun x122 =>
    cI (qcl d 273 [qR a2, qI x116, qI x118, qI x120, qI x122] h113) fun x124 h123 =>
    if x114 = x124 then
    (qbig (d + 1) 0 18 [sR a0, sR a1, sR a2, sI (a3 + 6)] [] h123)
   else
    (if (0 : Int32) = 0 ∨ (0 : Int32) = 1 then some (some (qI 0), h123) else none))
  else
   (if (x4 &&& 63) = 32 then
   (a0.bind fun p93 => (qai 0 p93 (a3 + 1) h).bind fun x94 =>
    a0.bind fun p95 => (qai 0 p95 (a3 + 2) h).bind fun x96 =>
    cI (qcl d 44 [qR a1, qI x94, qI x96] h) fun x98 h97 =>
    a0.bind fun p99 => (qai 0 p99 (a3 + 1) h97).bind fun x100 =>
    a0.bind fun p101 => (qai 0 p101 (a3 + 2) h97).bind fun x102 =>
    cI (qcl d 246 [qR a2, qI x100, qI x102] h97) fun x104 h103 =>
    if x98 = x104 then
    (qbig (d + 1) 0 18 [sR a0, sR a1, sR a2, sI (a3 + 6)] [] h103)
   else
    (if (0 : Int32) = 0 ∨ (0 : Int32) = 1 then some (some (qI 0), h103) else none))
  else
   (if (x4 &&& 63) = 33 then
   (a0.bind fun p85 => (qai 0 p85 (a3 + 1) h).bind fun x86 =>
    cI (qcl d 40 [qR a1, qI x86] h) fun x88 h87 =>
    a0.bind fun p89 => (qai 0 p89 (a3 + 1) h87).bind fun x90 =>
    cI (qcl d 229 [qR a2, qI x90] h87) fun x92 h91 =>
    if x88 = x92 then
    (qbig (d + 1) 0 18 [sR a0, sR a1, sR a2, sI (a3 + 6)] [] h91)
   else
    (if (0 : Int32) = 0 ∨ (0 : Int32) = 1 then some (some (qI 0), h91) else none))
  else
   (if (x4 &&& 63) = 34 then
   (a0.bind fun p73 => (qai 0 p73 (a3 + 1) h).bind fun x74 =>
    a0.bind fun p75 => (qai 0 p75 (a3 + 2) h).bind fun x76 =>
    cI (qcl d 57 [qR a1, qI x74, qI x76] h) fun x78 h77 =>
    a0.bind fun p79 => (qai 0 p79 (a3 + 1) h77).bind fun x80 =>
    a0.bind fun p81 => (qai 0 p81 (a3 + 2) h77).bind fun x82 =>
    cI (qcl d 267 [qR a2, qI x80, qI x82] h77) fun x84 h83 =>
    if x78 = x84 then
    (qbig (d + 1) 0 18 [sR a0, sR a1, sR a2, sI (a3 + 6)] [] h83)
   else
    (if (0 : Int32) = 0 ∨ (0 : Int32) = 1 then some (some (qI 0), h83) else none))
  else
   (if (x4 &&& 63) = 35 then
   (a0.bind fun p65 => (qai 0 p65 (a3 + 1) h).bind fun x66 =>
    cI (qcl d 31 [qR a1, qI x66] h) fun x68 h67 =>
    a0.bind fun p69 => (qai 0 p69 (a3 + 1) h67).bind fun x70 =>
    cI (qcl d 197 [qR a2, qI x70] h67) fun x72 h71 =>
    if x68 = x72 then
    (qbig (d + 1) 0 18 [sR a0, sR a1, sR a2, sI (a3 + 6)] [] h71)
   else
    (if (0 : Int32) = 0 ∨ (0 : Int32) = 1 then some (some (qI 0), h71) else none))
  else
   (if (x4 &&& 63) = 36 then
   (a0.bind fun p57 => (qai 0 p57 (a3 + 1) h).bind fun x58 =>
    cI (qcl d 58 [qR a1, qI x58] h) fun x60 h59 =>
    a0.bind fun p61 => (qai 0 p61 (a3 + 1) h59).bind fun x62 =>
    cI (qcl d 268 [qR a2, qI x62] h59) fun x64 h63 =>
    if x60 = x64 then
    (qbig (d + 1) 0 18 [sR a0, sR a1, sR a2, sI (a3 + 6)] [] h63)
   else
    (if (0 : Int32) = 0 ∨ (0 : Int32) = 1 then some (some (qI 0), h63) else none))
  else
   (if (x4 &&& 63) = 37 then
   (a0.bind fun p45 => (qai 0 p45 (a3 + 1) h).bind fun x46 =>
    a0.bind fun p47 => (qai 0 p47 (a3 + 2) h).bind fun x48 =>
    cI (qcl d 60 [qR a1, qI x46, qI x48] h) fun x50 h49 =>
    a0.bind fun p51 => (qai 0 p51 (a3 + 1) h49).bind fun x52 =>
    a0.bind fun p53 => (qai 0 p53 (a3 + 2) h49).bind fun x54 =>
    cI (qcl d 272 [qR a2, qI x52, qI x54] h49) fun x56 h55 =>
    if x50 = x56 then
    (qbig (d + 1) 0 18 [sR a0, sR a1, sR a2, sI (a3 + 6)] [] h55)
   else
    (if (0 : Int32) = 0 ∨ (0 : Int32) = 1 then some (some (qI 0), h55) else none))
  else
   (if (x4 &&& 63) = 38 then
   (a0.bind fun p33 => (qai 0 p33 (a3 + 1) h).bind fun x34 =>
    a0.bind fun p35 => (qai 0 p35 (a3 + 2) h).bind fun x36 =>
    cI (qcl d 22 [qR a1, qI x34, qI x36] h) fun x38 h37 =>
    a0.bind fun p39 => (qai 0 p39 (a3 + 1) h37).bind fun x40 =>
    a0.bind fun p41 => (qai 0 p41 (a3 + 2) h37).bind fun x42 =>
    cI (qcl d 180 [qR a2, qI x40, qI x42] h37) fun x44 h43 =>
    if x38 = x44 then
    (qbig (d + 1) 0 18 [sR a0, sR a1, sR a2, sI (a3 + 6)] [] h43)
   else
    (if (0 : Int32) = 0 ∨ (0 : Int32) = 1 then some (some (qI 0), h43) else none))
  else
   (if (x4 &&& 63) = 39 then
   (a0.bind fun p25 => (qai 0 p25 (a3 + 1) h).bind fun x26 =>
    cI (qcl d 32 [qR a1, qI x26] h) fun x28 h27 =>
    a0.bind fun p29 => (qai 0 p29 (a3 + 1) h27).bind fun x30 =>
    cI (qcl d 198 [qR a2, qI x30] h27) fun x32 h31 =>
    if x28 = x32 then
    (qbig (d + 1) 0 18 [sR a0, sR a1, sR a2, sI (a3 + 6)] [] h31)
   else
    (if (0 : Int32) = 0 ∨ (0 : Int32) = 1 then some (some (qI 0), h31) else none))
  else
   (if (x4 &&& 63) = 40 then
   (a0.bind fun p17 => (qai 0 p17 (a3 + 1) h).bind fun x18 =>
    cI (qcl d 15 [qR a1, qI x18] h) fun x20 h19 =>
    a0.bind fun p21 => (qai 0 p21 (a3 + 1) h19).bind fun x22 =>
    cI (qcl d 171 [qR a2, qI x22] h19) fun x24 h23 =>
    if x20 = x24 then
    (qbig (d + 1) 0 18 [sR a0, sR a1, sR a2, sI (a3 + 6)] [] h23)
   else
    (if (0 : Int32) = 0 ∨ (0 : Int32) = 1 then some (some (qI 0), h23) else none))
  else
   (if (x4 &&& 63) = 41 then
   (a0.bind fun p9 => (qai 0 p9 (a3 + 1) h).bind fun x10 =>
    cI (qcl d 20 [qR a1, qI x10] h) fun x12 h11 =>
    a0.bind fun p13 => (qai 0 p13 (a3 + 1) h11).bind fun x14 =>
    cI (qcl d 179 [qR a2, qI x14] h11) fun x16 h15 =>
    if x12 = x16 then
    (qbig (d + 1) 0 18 [sR a0, sR a1, sR a2, sI (a3 + 6)] [] h15)
   else
    (if (0 : Int32) = 0 ∨ (0 : Int32) = 1 then some (some (qI 0), h15) else none))
  else
   (if (x4 &&& 63) = 42 then
   (cI (qcl d 55 [qR a1] h) fun x6 h5 =>
    cI (qcl d 262 [qR a2] h5) fun x8 h7 =>
    if x6 = x8 then
    (qbig (d + 1) 0 18 [sR a0, sR a1, sR a2, sI (a3 + 6)] [] h7)
   else
    (if (0 : Int32) = 0 ∨ (0 : Int32) = 1 then some (some (qI 0), h7) else none))
  else
   (qbig (d + 1) 0 18 [sR a0, sR a1, sR a2, sI (a3 + 6)] [] h)))))))))))))))))))))))))))))))))))))))))))) := by
  exact qE 1132 [18] (by rfl)
set_option maxRecDepth 100000 in
set_option maxHeartbeats 1000000 in
theorem E1 (d : Nat) (a0 : Int32) (h : QH) : qcl (d + 1) 1 [qI a0] h =
 qbig (d + 1) 1 10 [sI (a0 - (((Int32.toUInt32 a0 >>> (Int32.toUInt32 1 &&& Int32.toUInt32 31)).toInt32) &&& 1431655765))] [] h := by
  exact qE0 47 [10, 24, 34, 41, 48] (by rfl)
set_option maxRecDepth 100000 in
set_option maxHeartbeats 1000000 in
theorem E1_10 (d : Nat) (a0 : Int32) (h : QH) : qbig (d + 1) 1 10 [sI a0] [] h =
 qbig (d + 1) 1 24 [sI ((a0 &&& 858993459) + (((Int32.toUInt32 a0 >>> (Int32.toUInt32 2 &&& Int32.toUInt32 31)).toInt32) &&& 858993459))] [] h := by
  exact qE 47 [10, 24, 34, 41, 48] (by rfl)
set_option maxRecDepth 100000 in
set_option maxHeartbeats 1000000 in
theorem E1_24 (d : Nat) (a0 : Int32) (h : QH) : qbig (d + 1) 1 24 [sI a0] [] h =
 qbig (d + 1) 1 34 [sI ((a0 + ((Int32.toUInt32 a0 >>> (Int32.toUInt32 4 &&& Int32.toUInt32 31)).toInt32)) &&& 252645135)] [] h := by
  exact qE 47 [10, 24, 34, 41, 48] (by rfl)
set_option maxRecDepth 100000 in
set_option maxHeartbeats 1000000 in
theorem E1_34 (d : Nat) (a0 : Int32) (h : QH) : qbig (d + 1) 1 34 [sI a0] [] h =
 qbig (d + 1) 1 41 [sI (a0 + ((Int32.toUInt32 a0 >>> (Int32.toUInt32 8 &&& Int32.toUInt32 31)).toInt32))] [] h := by
  exact qE 47 [10, 24, 34, 41, 48] (by rfl)
set_option maxRecDepth 100000 in
set_option maxHeartbeats 1000000 in
theorem E1_41 (d : Nat) (a0 : Int32) (h : QH) : qbig (d + 1) 1 41 [sI a0] [] h =
 qbig (d + 1) 1 48 [sI (a0 + ((Int32.toUInt32 a0 >>> (Int32.toUInt32 16 &&& Int32.toUInt32 31)).toInt32))] [] h := by
  exact qE 47 [10, 24, 34, 41, 48] (by rfl)
set_option maxRecDepth 100000 in
set_option maxHeartbeats 1000000 in
theorem E1_48 (d : Nat) (a0 : Int32) (h : QH) : qbig (d + 1) 1 48 [sI a0] [] h =
 some (some (qI (a0 &&& 63)), h) := by
  exact qE 47 [10, 24, 34, 41, 48] (by rfl)
set_option maxRecDepth 100000 in
set_option maxHeartbeats 1000000 in
theorem E2 (d : Nat) (a0 : Int32) (h : QH) : qcl (d + 1) 2 [qI a0] h =
 qbig (d + 1) 2 8 [sI ((a0 ^^^ (-1)) &&& (a0 - 1)), none] [] h := by
  exact qE0 59 [8, 19, 34, 49, 62, 74] (by rfl)
set_option maxRecDepth 100000 in
set_option maxHeartbeats 1000000 in
theorem E2_8 (d : Nat) (a0 : Int32) (h : QH) : qbig (d + 1) 2 8 [sI a0, none] [] h =
 if 0 < a0 then
  (qbig (d + 1) 2 19 [sI a0, sI 1] [] h)
 else
  (some (some (qI (a0 &&& 32)), h)) := by
  exact qE 59 [8, 19, 34, 49, 62, 74] (by rfl)
set_option maxRecDepth 100000 in
set_option maxHeartbeats 1000000 in
theorem E2_19 (d : Nat) (a0 : Int32) (a1 : Int32) (h : QH) : qbig (d + 1) 2 19 [sI a0, sI a1] [] h =
 if 65536 < a0 then
  (qbig (d + 1) 2 34 [sI ((Int32.toUInt32 a0 >>> (Int32.toUInt32 16 &&& Int32.toUInt32 31)).toInt32), sI (a1 + 16)] [] h)
 else
  (qbig (d + 1) 2 34 [sI a0, sI a1] [] h) := by
  exact qE 59 [8, 19, 34, 49, 62, 74] (by rfl)
set_option maxRecDepth 100000 in
set_option maxHeartbeats 1000000 in
theorem E2_34 (d : Nat) (a0 : Int32) (a1 : Int32) (h : QH) : qbig (d + 1) 2 34 [sI a0, sI a1] [] h =
 if 256 < a0 then
  (qbig (d + 1) 2 49 [sI ((Int32.toUInt32 a0 >>> (Int32.toUInt32 8 &&& Int32.toUInt32 31)).toInt32), sI (a1 + 8)] [] h)
 else
  (qbig (d + 1) 2 49 [sI a0, sI a1] [] h) := by
  exact qE 59 [8, 19, 34, 49, 62, 74] (by rfl)
set_option maxRecDepth 100000 in
set_option maxHeartbeats 1000000 in
theorem E2_49 (d : Nat) (a0 : Int32) (a1 : Int32) (h : QH) : qbig (d + 1) 2 49 [sI a0, sI a1] [] h =
 if 16 < a0 then
  (qbig (d + 1) 2 62 [sI ((Int32.toUInt32 a0 >>> (Int32.toUInt32 4 &&& Int32.toUInt32 31)).toInt32), sI (a1 + 4)] [] h)
 else
  (qbig (d + 1) 2 62 [sI a0, sI a1] [] h) := by
  exact qE 59 [8, 19, 34, 49, 62, 74] (by rfl)
set_option maxRecDepth 100000 in
set_option maxHeartbeats 1000000 in
theorem E2_62 (d : Nat) (a0 : Int32) (a1 : Int32) (h : QH) : qbig (d + 1) 2 62 [sI a0, sI a1] [] h =
 if 4 < a0 then
  (qbig (d + 1) 2 74 [sI ((Int32.toUInt32 a0 >>> (Int32.toUInt32 2 &&& Int32.toUInt32 31)).toInt32), sI (a1 + 2)] [] h)
 else
  (qbig (d + 1) 2 74 [sI a0, sI a1] [] h) := by
  exact qE 59 [8, 19, 34, 49, 62, 74] (by rfl)
set_option maxRecDepth 100000 in
set_option maxHeartbeats 1000000 in
theorem E2_74 (d : Nat) (a0 : Int32) (a1 : Int32) (h : QH) : qbig (d + 1) 2 74 [sI a0, sI a1] [] h =
 some (some (qI (a1 + ((Int32.toUInt32 a0 >>> (Int32.toUInt32 1 &&& Int32.toUInt32 31)).toInt32))), h) := by
  exact qE 59 [8, 19, 34, 49, 62, 74] (by rfl)
set_option maxRecDepth 100000 in
set_option maxHeartbeats 1000000 in
theorem E3 (d : Nat) (t : Nat) (h : QH) : qcl (d + 1) 3 [qR (some t)] h =
 (qck 13 t h).bind fun _ =>
 if (1 : Int32) = 0 then
  (if (0 : Int32) = 0 ∨ (0 : Int32) = 1 then some (some (qI 0), h) else none)
 else
  ((qgi 13 1 t h).bind fun x1 =>
   if x1 = 0 then
   (if (1 : Int32) = 0 ∨ (1 : Int32) = 1 then some (some (qI 1), h) else none)
  else
   (if (0 : Int32) = 0 ∨ (0 : Int32) = 1 then some (some (qI 0), h) else none)) := by
  exact qE0 14 [] (by rfl)
set_option maxRecDepth 100000 in
set_option maxHeartbeats 1000000 in
theorem E4 (d : Nat) (t : Nat) (h : QH) : qcl (d + 1) 4 [qR (some t)] h =
 (qck 13 t h).bind fun _ =>
 cI (qcl d 3 [qR (some t)] h) fun x2 h1 =>
  if x2 = 0 then
  ((qgr 13 0 t h1).bind fun o3 =>
   none)
 else
  ((qgr 13 0 t h1).bind fun o4 =>
   cR (qcl d 6 [qR o4] h1) fun o6 h5 =>
   some (some (qR o6), h5)) := by
  exact qE0 16 [] (by rfl)
set_option maxRecDepth 100000 in
set_option maxHeartbeats 1000000 in
theorem E5 (d : Nat) (a0 : Option Nat) (a1 : Int32) (a2 : Option Nat) (a3 : Int32) (a4 : Int32) (h : QH) : qcl (d + 1) 5 [qR a0, qI a1, qR a2, qI a3, qI a4] h =
 qbig (d + 1) 5 3 [sR a0, sI a1, sR a2, sI a3, sI a4, sI 0] [] h := by
  exact qE0 24 [3] (by rfl)
set_option maxRecDepth 100000 in
set_option maxHeartbeats 1000000 in
theorem E5_3 (d : Nat) (a0 : Option Nat) (a1 : Int32) (a2 : Option Nat) (a3 : Int32) (a4 : Int32) (a5 : Int32) (h : QH) : qbig (d + 1) 5 3 [sR a0, sI a1, sR a2, sI a3, sI a4, sI a5] [] h =
 if a5 < a4 then
  (a0.bind fun p1 => (qai 1 p1 a1 h).bind fun x2 =>
   a2.bind fun p3 => (qsi 3 p3 a3 ((Int32.toUInt32 ((Int32.toUInt32 (x2 &&& 255) % 65536).toInt32)).toUInt16.toUInt32.toInt32) h).bind fun h4 =>
   qbig (d + 1) 5 3 [sR a0, sI (a1 + 1), sR a2, sI (a3 + 1), sI a4, sI (a5 + 1)] [] h4)
 else
  (some (none, h)) := by
  exact qE 24 [3] (by rfl)
set_option maxRecDepth 100000 in
set_option maxHeartbeats 1000000 in
theorem E6 (d : Nat) (a0 : Option Nat) (h : QH) : qcl (d + 1) 6 [qR a0] h =
 a0.bind fun p1 => (qal p1 h).bind fun x2 =>
  (qna 3 x2 h).bind fun h3 =>
  a0.bind fun p4 => (qal p4 h3).bind fun x5 =>
  cV (qcl d 5 [qR a0, qI 0, qR (some (hN h)), qI 0, qI x5] h3) fun h6 =>
  some (some (qR (some (hN h))), h6) := by
  exact qE0 18 [] (by rfl)
set_option maxRecDepth 100000 in
set_option maxHeartbeats 1000000 in
theorem E7 (d : Nat) (a0 : Option Nat) (a1 : Int32) (h : QH) : qcl (d + 1) 7 [qR a0, qI a1] h =
 a0.bind fun p1 => (qal p1 h).bind fun x2 =>
  if a1 = x2 then
  (a0.bind fun p4 => (qcn p4 h).bind fun h3 =>
   (qca (hN h) h3).bind fun _ =>
   some (some (qR (some (hN h))), h3))
 else
  ((qna 0 a1 h).bind fun h5 =>
   a0.bind fun p6 => (qal p6 h5).bind fun x7 =>
   a0.bind fun p9 => (qcp p9 0 (hN h) 0 (if a1 < x7 then a1 else x7) h5).bind fun h8 =>
   some (some (qR (some (hN h))), h8)) := by
  exact qE0 27 [] (by rfl)
set_option maxRecDepth 100000 in
set_option maxHeartbeats 1000000 in
theorem E8 (d : Nat) (a0 : Option Nat) (a1 : Int32) (h : QH) : qcl (d + 1) 8 [qR a0, qI a1] h =
 a0.bind fun p1 => (qal p1 h).bind fun x2 =>
  qbig (d + 1) 8 5 [sR a0, sI a1, sI 0, sI x2] [] h := by
  exact qE0 20 [5] (by rfl)
set_option maxRecDepth 100000 in
set_option maxHeartbeats 1000000 in
theorem E8_5 (d : Nat) (a0 : Option Nat) (a1 : Int32) (a2 : Int32) (a3 : Int32) (h : QH) : qbig (d + 1) 8 5 [sR a0, sI a1, sI a2, sI a3] [] h =
 if a2 < a3 then
  (a0.bind fun p1 => (qsi 0 p1 a2 a1 h).bind fun h2 =>
   qbig (d + 1) 8 5 [sR a0, sI a1, sI (a2 + 1), sI a3] [] h2)
 else
  (some (none, h)) := by
  exact qE 20 [5] (by rfl)
set_option maxRecDepth 100000 in
set_option maxHeartbeats 1000000 in
theorem E9 (d : Nat) (t : Nat) (h : QH) : qcl (d + 1) 9 [qR (some t)] h =
 (qck 11 t h).bind fun _ =>
 cV (qcl d 159 [qR (some (hN h))] (qno 10 6 h)) fun h1 =>
  (qpr 11 0 t (some (hN h)) h1).bind fun h2 =>
  (qna 4 2 h2).bind fun h3 =>
  (qpr 11 1 t (some (hN h2)) h3).bind fun h4 =>
  cV (qcl d 145 [qR (some (hN h4))] (qno 7 2 h4)) fun h5 =>
  (qpr 11 2 t (some (hN h4)) h5).bind fun h6 =>
  cV (qcl d 105 [qR (some (hN h6))] (qno 4 15 h6)) fun h7 =>
  (qpr 11 3 t (some (hN h6)) h7).bind fun h8 =>
  cV (qcl d 147 [qR (some (hN h8))] (qno 8 3 h8)) fun h9 =>
  (qpr 11 4 t (some (hN h8)) h9).bind fun h10 =>
  cV (qcl d 89 [qR (some (hN h10))] (qno 3 5 h10)) fun h11 =>
  (qpr 11 5 t (some (hN h10)) h11).bind fun h12 =>
  cV (qcl d 129 [qR (some (hN h12))] (qno 6 13 h12)) fun h13 =>
  (qpr 11 6 t (some (hN h12)) h13).bind fun h14 =>
  cV (qcl d 153 [qR (some (hN h14))] (qno 9 5 h14)) fun h15 =>
  (qpr 11 7 t (some (hN h14)) h15).bind fun h16 =>
  (qna 0 5 h16).bind fun h17 =>
  (qpr 11 8 t (some (hN h16)) h17).bind fun h18 =>
  (qna 0 10 h18).bind fun h19 =>
  (qpr 11 9 t (some (hN h18)) h19).bind fun h20 =>
  (qpi 11 10 t 0 h20).bind fun h21 =>
  (qpi 11 11 t 0 h21).bind fun h22 =>
  (qpi 11 12 t 0 h22).bind fun h23 =>
  (qpi 11 13 t (-1) h23).bind fun h24 =>
  some (none, h24) := by
  exact qE0 67 [] (by rfl)
set_option maxRecDepth 100000 in
set_option maxHeartbeats 1000000 in
theorem E10 (d : Nat) (t : Nat) (a1 : Int32) (h : QH) : qcl (d + 1) 10 [qR (some t), qI a1] h =
 (qck 11 t h).bind fun _ =>
 (qpi 11 11 t 0 h).bind fun h1 =>
  (qgi 11 10 t h1).bind fun x2 =>
  (qpi 11 10 t (x2 + 1) h1).bind fun h3 =>
  some (some (qI a1), h3) := by
  exact qE0 16 [] (by rfl)
set_option maxRecDepth 100000 in
set_option maxHeartbeats 1000000 in
theorem E11 (d : Nat) (t : Nat) (a1 : Int32) (a2 : Int32) (a3 : Int32) (a4 : Int32) (h : QH) : qcl (d + 1) 11 [qR (some t), qI a1, qI a2, qI a3, qI a4] h =
 (qck 11 t h).bind fun _ =>
 cI (qcl d 12 [qI a1, qI a2, qI a3] h) fun x2 h1 =>
  if x2 = 0 then
  (some (some (qI (-1)), h1))
 else
  (if a4 < 1 then
   (some (some (qI (-1)), h1))
  else
   (if 9 < a4 then
    (some (some (qI (-1)), h1))
   else
    (cI (qcl d 13 [qR (some t), qI a1, qI a2, qI a3, qI a4] h1) fun x4 h3 =>
     some (some (qI x4), h3)))) := by
  exact qE0 25 [] (by rfl)
set_option maxRecDepth 100000 in
set_option maxHeartbeats 1000000 in
theorem E12 (d : Nat) (a0 : Int32) (a1 : Int32) (a2 : Int32) (h : QH) : qcl (d + 1) 12 [qI a0, qI a1, qI a2] h =
 if a0 < 1 then
  (if (0 : Int32) = 0 ∨ (0 : Int32) = 1 then some (some (qI 0), h) else none)
 else
  (if 12 < a0 then
   (if (0 : Int32) = 0 ∨ (0 : Int32) = 1 then some (some (qI 0), h) else none)
  else
   (if a1 < 1 then
    (if (0 : Int32) = 0 ∨ (0 : Int32) = 1 then some (some (qI 0), h) else none)
   else
    (if 3 < a1 then
     (if (0 : Int32) = 0 ∨ (0 : Int32) = 1 then some (some (qI 0), h) else none)
    else
     (if a2 < 1 then
      (if (0 : Int32) = 0 ∨ (0 : Int32) = 1 then some (some (qI 0), h) else none)
     else
      (if 9 < a2 then
       (if (0 : Int32) = 0 ∨ (0 : Int32) = 1 then some (some (qI 0), h) else none)
      else
       (if (1 : Int32) = 0 ∨ (1 : Int32) = 1 then some (some (qI 1), h) else none)))))) := by
  exact qE0 27 [] (by rfl)
set_option maxRecDepth 100000 in
set_option maxHeartbeats 1000000 in
theorem E13 (d : Nat) (t : Nat) (a1 : Int32) (a2 : Int32) (a3 : Int32) (a4 : Int32) (h : QH) : qcl (d + 1) 13 [qR (some t), qI a1, qI a2, qI a3, qI a4] h =
 (qck 11 t h).bind fun _ =>
 if a3 < a4 then
  (some (some (qI (-1)), h))
 else
  (if a3 = a4 then
   (if 1 < a1 then
    (some (some (qI (-1)), h))
   else
    ((qgr 11 9 t h).bind fun o1 =>
     cV (qcl d 8 [qR o1, qI 0] h) fun h2 =>
     (qgr 11 9 t h2).bind fun o3 =>
     o3.bind fun p4 => (qsi 0 p4 a3 1 h2).bind fun h5 =>
     qbig (d + 1) 13 40 [sR (some t), sI a1, sI a2, sI a3, sI a4, sI 1, sI 0, none, none] [] h5))
  else
   ((qgr 11 9 t h).bind fun o6 =>
    cV (qcl d 8 [qR o6, qI 0] h) fun h7 =>
    (qgr 11 9 t h7).bind fun o8 =>
    o8.bind fun p9 => (qsi 0 p9 a3 1 h7).bind fun h10 =>
    qbig (d + 1) 13 40 [sR (some t), sI a1, sI a2, sI a3, sI a4, sI 1, sI 0, none, none] [] h10)) := by
  exact qE0 69 [40, 59] (by rfl)
set_option maxRecDepth 100000 in
set_option maxHeartbeats 1000000 in
theorem E13_40 (d : Nat) (t : Nat) (a1 : Int32) (a2 : Int32) (a3 : Int32) (a4 : Int32) (a5 : Int32) (a6 : Int32) (h : QH) : qbig (d + 1) 13 40 [sR (some t), sI a1, sI a2, sI a3, sI a4, sI a5, sI a6, none, none] [] h =
 if a5 < a1 then
  (if a6 < 12 then
   (qbig (d + 1) 13 59 [sR (some t), sI a1, sI a2, sI a3, sI a4, sI a5, sI a6, sI (a4 + 1), none] [] h)
  else
   (some (some (qI a6), h)))
 else
  (some (some (qI a6), h)) := by
  exact qE 69 [40, 59] (by rfl)
set_option maxRecDepth 100000 in
set_option maxHeartbeats 1000000 in
theorem E13_59 (d : Nat) (t : Nat) (a1 : Int32) (a2 : Int32) (a3 : Int32) (a4 : Int32) (a5 : Int32) (a6 : Int32) (a7 : Int32) (h : QH) : qbig (d + 1) 13 59 [sR (some t), sI a1, sI a2, sI a3, sI a4, sI a5, sI a6, sI a7, none] [] h =
 if a3 < a7 then
  (qbig (d + 1) 13 40 [sR (some t), sI a1, sI a2, sI a3, sI a4, sI a5, sI (a6 + 1), none, none] [] h)
 else
  ((qgr 11 9 t h).bind fun o1 =>
   o1.bind fun p2 => (qai 0 p2 a7 h).bind fun x3 =>
   (qgr 11 9 t h).bind fun o4 =>
   o4.bind fun p5 => (qai 0 p5 (a7 - 1) h).bind fun x6 =>
   o4.bind fun p7 => (qsi 0 p7 (a7 - 1) (x6 + (a2 * x3)) h).bind fun h8 =>
   qbig (d + 1) 13 59 [sR (some t), sI a1, sI a2, sI a3, sI a4, sI (a5 + (a2 * x3)), sI a6, sI (a7 + 1), none] [] h8) := by
  exact qE 69 [40, 59] (by rfl)
set_option maxRecDepth 100000 in
set_option maxHeartbeats 1000000 in
theorem E14 (d : Nat) (t : Nat) (a1 : Int32) (a2 : Int32) (h : QH) : qcl (d + 1) 14 [qR (some t), qI a1, qI a2] h =
 (qck 11 t h).bind fun _ =>
 cI (qcl d 47 [qI 0, qI a1] h) fun x2 h1 =>
  if x2 = 0 then
  (cI (qcl d 43 [qR (some t), qI (-1)] h1) fun x4 h3 =>
   some (some (qI x4), h3))
 else
  (cI (qcl d 47 [qI 1, qI a2] h1) fun x6 h5 =>
   if x6 = 0 then
   (cI (qcl d 43 [qR (some t), qI (-1)] h5) fun x8 h7 =>
    some (some (qI x8), h7))
  else
   ((qgr 11 0 t h5).bind fun o9 =>
    o9.bind fun p10 => (qgr 10 1 p10 h5).bind fun o11 =>
    o11.bind fun p12 => (qgi 0 0 p12 h5).bind fun x13 =>
    if x13 < 5 then
    ((qgr 11 0 t h5).bind fun o14 =>
     o14.bind fun p15 => (qgr 10 1 p15 h5).bind fun o16 =>
     cI (qcl d 68 [qR o16, qI a1, qI a2] h5) fun x18 h17 =>
     cI (qcl d 10 [qR (some t), qI x18] h17) fun x20 h19 =>
     some (some (qI x20), h19))
   else
    (cI (qcl d 43 [qR (some t), qI (-5)] h5) fun x22 h21 =>
     some (some (qI x22), h21)))) := by
  exact qE0 36 [] (by rfl)
