-- JudgedCodeModel.goTo
def f_X9_goTo_569 (S : sh) (k519 : Nat → Int32 → Int32 → Int32 → dt → Option (Unit × dt)) (o0 : Nat) (x1 : Int32) (x2 : Int32) (x3 : Int32) (os0 : Nat) (xs1 : Int32) (xs2 : Int32) (D : dt) : Option (Unit × dt) := ix xs1 (sA S os0) <| nm (pI D os0 xs1.toNatClampNeg (vp_nar .boolean xs2)) fun D288 => nm (x3 + 1) fun y289 => k519 o0 x1 x2 y289 D288
def f_X9_goTo_564 (S : sh) (k519 : Nat → Int32 → Int32 → Int32 → dt → Option (Unit × dt)) (o0 : Nat) (x1 : Int32) (x2 : Int32) (x3 : Int32) (os0 : Nat) (xs1 : Int32) (D : dt) : Option (Unit × dt) := f_X9_goTo_569 S k519 o0 x1 x2 x3 os0 xs1 (1 : Int32) D
def f_X9_goTo_568 (S : sh) (k519 : Nat → Int32 → Int32 → Int32 → dt → Option (Unit × dt)) (o0 : Nat) (x1 : Int32) (x2 : Int32) (x3 : Int32) (os0 : Nat) (xs1 : Int32) (D : dt) : Option (Unit × dt) := f_X9_goTo_569 S k519 o0 x1 x2 x3 os0 xs1 (0 : Int32) D
def f_X9_goTo_519 (S : sh) : Nat → Nat → Int32 → Int32 → Int32 → dt → Option (Unit × dt)
  | 0, _, _, _, _, _ => none
  | n + 1, o0, x1, x2, x3, D => if (512 : Int32) ≤ x3 then (some ((), D)) else (nm (((512 : Int32) * x1) + x3) fun y291 => rq (gR D o0 34) fun o292 => rq (gR D o0 45) fun o296 => ix x3 (sA S o296) <| if (gI D o296 x3.toNatClampNeg) = 0 then (f_X9_goTo_568 S (f_X9_goTo_519 S n) o0 x1 x2 x3 o292 y291 D) else (if x2 = 0 then (rq (gR D o0 34) fun o303 => ix y291 (sA S o303) <| if (gI D o303 y291.toNatClampNeg) = 0 then (f_X9_goTo_568 S (f_X9_goTo_519 S n) o0 x1 x2 x3 o292 y291 D) else (f_X9_goTo_564 S (f_X9_goTo_519 S n) o0 x1 x2 x3 o292 y291 D)) else (f_X9_goTo_564 S (f_X9_goTo_519 S n) o0 x1 x2 x3 o292 y291 D)))
def f_X9_goTo_482 (S : sh) (k277 : Nat → Int32 → Int32 → Int32 → dt → Option (Unit × dt)) (o0 : Nat) (x1 : Int32) (x2 : Int32) (x3 : Int32) (x4 : Int32) (x5 : Int32) (os0 : Nat) (xs1 : Int32) (xs2 : Int64) (D : dt) : Option (Unit × dt) := ix xs1 (sA S os0) <| nm (pL D os0 xs1.toNatClampNeg xs2) fun D310 => rq (gR D310 o0 38) fun o311 => rq (gR D310 o0 43) fun o315 => ix x5 (sA S o315) <| ix x4 (sA S o311) <| nm (pI D310 o311 x4.toNatClampNeg (gI D310 o315 x5.toNatClampNeg)) fun D321 => rq (gR D321 o0 39) fun o322 => rq (gR D321 o0 44) fun o326 => ix x5 (sA S o326) <| ix x4 (sA S o322) <| nm (pI D321 o322 x4.toNatClampNeg (gI D321 o326 x5.toNatClampNeg)) fun D332 => nm (x3 + 1) fun y333 => k277 o0 x1 x2 y333 D332
def f_X9_goTo_457 (S : sh) (k277 : Nat → Int32 → Int32 → Int32 → dt → Option (Unit × dt)) (o0 : Nat) (x1 : Int32) (x2 : Int32) (x3 : Int32) (x4 : Int32) (x5 : Int32) (os0 : Nat) (xs1 : Int32) (xs2 : Int64) (D : dt) : Option (Unit × dt) := ix xs1 (sA S os0) <| nm (pL D os0 xs1.toNatClampNeg xs2) fun D335 => rq (gR D335 o0 37) fun o336 => if x2 = 0 then (f_X9_goTo_482 S k277 o0 x1 x2 x3 x4 x5 o336 x4 (gL D335 o0 49) D335) else (rq (gR D335 o0 42) fun o341 => ix x5 (sA S o341) <| f_X9_goTo_482 S k277 o0 x1 x2 x3 x4 x5 o336 x4 (gL D335 o341 x5.toNatClampNeg) D335)
def f_X9_goTo_432 (S : sh) (k277 : Nat → Int32 → Int32 → Int32 → dt → Option (Unit × dt)) (o0 : Nat) (x1 : Int32) (x2 : Int32) (x3 : Int32) (x4 : Int32) (x5 : Int32) (os0 : Nat) (xs1 : Int32) (xs2 : Int32) (D : dt) : Option (Unit × dt) := ix xs1 (sA S os0) <| nm (pI D os0 xs1.toNatClampNeg xs2) fun D347 => rq (gR D347 o0 36) fun o348 => if x2 = 0 then (f_X9_goTo_457 S k277 o0 x1 x2 x3 x4 x5 o348 x4 (gL D347 o0 48) D347) else (rq (gR D347 o0 41) fun o353 => ix x5 (sA S o353) <| f_X9_goTo_457 S k277 o0 x1 x2 x3 x4 x5 o348 x4 (gL D347 o353 x5.toNatClampNeg) D347)
def f_X9_goTo_405 (S : sh) (k277 : Nat → Int32 → Int32 → Int32 → dt → Option (Unit × dt)) (o0 : Nat) (x1 : Int32) (x2 : Int32) (x3 : Int32) (x4 : Int32) (x5 : Int32) (os0 : Nat) (xs1 : Int32) (xs2 : Int32) (xs3 : Int64) (xs4 : Int64) (xs5 : Int32) (xs6 : Int32) (D : dt) : Option (Unit × dt) := cq (f_X9_join S os0 xs1 xs2 xs3 xs4 xs5 xs6 D) fun _ D359 => rq (gR D359 o0 35) fun o360 => if x2 = 0 then (f_X9_goTo_432 S k277 o0 x1 x2 x3 x4 x5 o360 x4 (gI D359 o0 47) D359) else (rq (gR D359 o0 40) fun o365 => ix x5 (sA S o365) <| f_X9_goTo_432 S k277 o0 x1 x2 x3 x4 x5 o360 x4 (gI D359 o365 x5.toNatClampNeg) D359)
def f_X9_goTo_384 (S : sh) (k277 : Nat → Int32 → Int32 → Int32 → dt → Option (Unit × dt)) (o0 : Nat) (x1 : Int32) (x2 : Int32) (x3 : Int32) (x4 : Int32) (x5 : Int32) (os0 : Nat) (xs1 : Int32) (xs2 : Int32) (xs3 : Int64) (xs4 : Int64) (xs5 : Int32) (D : dt) : Option (Unit × dt) := if x2 = 0 then (rq (gR D o0 39) fun o371 => ix x4 (sA S o371) <| f_X9_goTo_405 S k277 o0 x1 x2 x3 x4 x5 os0 xs1 xs2 xs3 xs4 xs5 (gI D o371 x4.toNatClampNeg) D) else (rq (gR D o0 44) fun o376 => ix x5 (sA S o376) <| f_X9_goTo_405 S k277 o0 x1 x2 x3 x4 x5 os0 xs1 xs2 xs3 xs4 xs5 (gI D o376 x5.toNatClampNeg) D)
def f_X9_goTo_363 (S : sh) (k277 : Nat → Int32 → Int32 → Int32 → dt → Option (Unit × dt)) (o0 : Nat) (x1 : Int32) (x2 : Int32) (x3 : Int32) (x4 : Int32) (x5 : Int32) (os0 : Nat) (xs1 : Int32) (xs2 : Int32) (xs3 : Int64) (xs4 : Int64) (D : dt) : Option (Unit × dt) := if x2 = 0 then (rq (gR D o0 38) fun o382 => ix x4 (sA S o382) <| f_X9_goTo_384 S k277 o0 x1 x2 x3 x4 x5 os0 xs1 xs2 xs3 xs4 (gI D o382 x4.toNatClampNeg) D) else (rq (gR D o0 43) fun o387 => ix x5 (sA S o387) <| f_X9_goTo_384 S k277 o0 x1 x2 x3 x4 x5 os0 xs1 xs2 xs3 xs4 (gI D o387 x5.toNatClampNeg) D)
def f_X9_goTo_342 (S : sh) (k277 : Nat → Int32 → Int32 → Int32 → dt → Option (Unit × dt)) (o0 : Nat) (x1 : Int32) (x2 : Int32) (x3 : Int32) (x4 : Int32) (x5 : Int32) (os0 : Nat) (xs1 : Int32) (xs2 : Int32) (xs3 : Int64) (D : dt) : Option (Unit × dt) := if x2 = 0 then (rq (gR D o0 37) fun o393 => ix x4 (sA S o393) <| f_X9_goTo_363 S k277 o0 x1 x2 x3 x4 x5 os0 xs1 xs2 xs3 (gL D o393 x4.toNatClampNeg) D) else (rq (gR D o0 42) fun o398 => ix x5 (sA S o398) <| f_X9_goTo_363 S k277 o0 x1 x2 x3 x4 x5 os0 xs1 xs2 xs3 (gL D o398 x5.toNatClampNeg) D)
def f_X9_goTo_321 (S : sh) (k277 : Nat → Int32 → Int32 → Int32 → dt → Option (Unit × dt)) (o0 : Nat) (x1 : Int32) (x2 : Int32) (x3 : Int32) (x4 : Int32) (x5 : Int32) (os0 : Nat) (xs1 : Int32) (xs2 : Int32) (D : dt) : Option (Unit × dt) := if x2 = 0 then (rq (gR D o0 36) fun o404 => ix x4 (sA S o404) <| f_X9_goTo_342 S k277 o0 x1 x2 x3 x4 x5 os0 xs1 xs2 (gL D o404 x4.toNatClampNeg) D) else (rq (gR D o0 41) fun o409 => ix x5 (sA S o409) <| f_X9_goTo_342 S k277 o0 x1 x2 x3 x4 x5 os0 xs1 xs2 (gL D o409 x5.toNatClampNeg) D)
def f_X9_goTo_277 (S : sh) : Nat → Nat → Int32 → Int32 → Int32 → dt → Option (Unit × dt)
  | 0, _, _, _, _, _ => none
  | n + 1, o0, x1, x2, x3, D => if (64 : Int32) ≤ x3 then (nm ((0 : Int32)) fun y415 => f_X9_goTo_519 S LF o0 x1 x2 y415 D) else (nm (((64 : Int32) * x1) + x3) fun y416 => nm ((11 : Int32) + x3) fun y417 => if x2 = 0 then (rq (gR D o0 35) fun o419 => ix y416 (sA S o419) <| f_X9_goTo_321 S (f_X9_goTo_277 S n) o0 x1 x2 x3 y416 y417 o0 y417 (gI D o419 y416.toNatClampNeg) D) else (rq (gR D o0 40) fun o424 => ix y417 (sA S o424) <| f_X9_goTo_321 S (f_X9_goTo_277 S n) o0 x1 x2 x3 y416 y417 o0 y417 (gI D o424 y417.toNatClampNeg) D))
def f_X9_goTo_268 (S : sh) (k24 : Nat → Int32 → Int32 → Int32 → dt → Option (Unit × dt)) (o0 : Nat) (x1 : Int32) (x2 : Int32) (x3 : Int32) (os0 : Nat) (xs1 : Int32) (xs2 : Int32) (D : dt) : Option (Unit × dt) := ix xs1 (sA S os0) <| nm (pI D os0 xs1.toNatClampNeg xs2) fun D430 => nm (x3 + 1) fun y431 => k24 o0 x1 x2 y431 D430
def f_X9_goTo_241 (S : sh) (k24 : Nat → Int32 → Int32 → Int32 → dt → Option (Unit × dt)) (o0 : Nat) (x1 : Int32) (x2 : Int32) (x3 : Int32) (x4 : Int32) (os0 : Nat) (xs1 : Int32) (xs2 : Int32) (D : dt) : Option (Unit × dt) := ix xs1 (sA S os0) <| nm (pI D os0 xs1.toNatClampNeg xs2) fun D433 => rq (gR D433 o0 33) fun o434 => rq (gR D433 o0 29) fun o438 => ix x4 (sA S o438) <| if (gI D433 o438 x4.toNatClampNeg) = 0 then (f_X9_goTo_268 S k24 o0 x1 x2 x3 o434 x4 (0 : Int32) D433) else (rq (gR D433 o0 44) fun o444 => ix x3 (sA S o444) <| f_X9_goTo_268 S k24 o0 x1 x2 x3 o434 x4 (gI D433 o444 x3.toNatClampNeg) D433)
def f_X9_goTo_214 (S : sh) (k24 : Nat → Int32 → Int32 → Int32 → dt → Option (Unit × dt)) (o0 : Nat) (x1 : Int32) (x2 : Int32) (x3 : Int32) (x4 : Int32) (os0 : Nat) (xs1 : Int32) (xs2 : Int64) (D : dt) : Option (Unit × dt) := ix xs1 (sA S os0) <| nm (pL D os0 xs1.toNatClampNeg xs2) fun D450 => rq (gR D450 o0 32) fun o451 => rq (gR D450 o0 29) fun o455 => ix x4 (sA S o455) <| if (gI D450 o455 x4.toNatClampNeg) = 0 then (f_X9_goTo_241 S k24 o0 x1 x2 x3 x4 o451 x4 (0 : Int32) D450) else (rq (gR D450 o0 43) fun o461 => ix x3 (sA S o461) <| f_X9_goTo_241 S k24 o0 x1 x2 x3 x4 o451 x4 (gI D450 o461 x3.toNatClampNeg) D450)
def f_X9_goTo_190 (S : sh) (k24 : Nat → Int32 → Int32 → Int32 → dt → Option (Unit × dt)) (o0 : Nat) (x1 : Int32) (x2 : Int32) (x3 : Int32) (x4 : Int32) (os0 : Nat) (xs1 : Int32) (xs2 : Int64) (D : dt) : Option (Unit × dt) := ix xs1 (sA S os0) <| nm (pL D os0 xs1.toNatClampNeg xs2) fun D467 => rq (gR D467 o0 31) fun o468 => if x2 = 0 then (f_X9_goTo_214 S k24 o0 x1 x2 x3 x4 o468 x4 (gL D467 o0 49) D467) else (rq (gR D467 o0 42) fun o473 => ix x3 (sA S o473) <| f_X9_goTo_214 S k24 o0 x1 x2 x3 x4 o468 x4 (gL D467 o473 x3.toNatClampNeg) D467)
def f_X9_goTo_166 (S : sh) (k24 : Nat → Int32 → Int32 → Int32 → dt → Option (Unit × dt)) (o0 : Nat) (x1 : Int32) (x2 : Int32) (x3 : Int32) (x4 : Int32) (os0 : Nat) (xs1 : Int32) (xs2 : Int32) (D : dt) : Option (Unit × dt) := ix xs1 (sA S os0) <| nm (pI D os0 xs1.toNatClampNeg xs2) fun D479 => rq (gR D479 o0 30) fun o480 => if x2 = 0 then (f_X9_goTo_190 S k24 o0 x1 x2 x3 x4 o480 x4 (gL D479 o0 48) D479) else (rq (gR D479 o0 41) fun o485 => ix x3 (sA S o485) <| f_X9_goTo_190 S k24 o0 x1 x2 x3 x4 o480 x4 (gL D479 o485 x3.toNatClampNeg) D479)
def f_X9_goTo_140 (S : sh) (k24 : Nat → Int32 → Int32 → Int32 → dt → Option (Unit × dt)) (o0 : Nat) (x1 : Int32) (x2 : Int32) (x3 : Int32) (x4 : Int32) (os0 : Nat) (xs1 : Int32) (xs2 : Int32) (xs3 : Int64) (xs4 : Int64) (xs5 : Int32) (xs6 : Int32) (D : dt) : Option (Unit × dt) := cq (f_X9_join S os0 xs1 xs2 xs3 xs4 xs5 xs6 D) fun _ D491 => rq (gR D491 o0 29) fun o492 => if x2 = 0 then (f_X9_goTo_166 S k24 o0 x1 x2 x3 x4 o492 x4 (gI D491 o0 47) D491) else (rq (gR D491 o0 40) fun o497 => ix x3 (sA S o497) <| f_X9_goTo_166 S k24 o0 x1 x2 x3 x4 o492 x4 (gI D491 o497 x3.toNatClampNeg) D491)
def f_X9_goTo_120 (S : sh) (k24 : Nat → Int32 → Int32 → Int32 → dt → Option (Unit × dt)) (o0 : Nat) (x1 : Int32) (x2 : Int32) (x3 : Int32) (x4 : Int32) (os0 : Nat) (xs1 : Int32) (xs2 : Int32) (xs3 : Int64) (xs4 : Int64) (xs5 : Int32) (D : dt) : Option (Unit × dt) := if x2 = 0 then (rq (gR D o0 33) fun o503 => ix x4 (sA S o503) <| f_X9_goTo_140 S k24 o0 x1 x2 x3 x4 os0 xs1 xs2 xs3 xs4 xs5 (gI D o503 x4.toNatClampNeg) D) else (rq (gR D o0 44) fun o508 => ix x3 (sA S o508) <| f_X9_goTo_140 S k24 o0 x1 x2 x3 x4 os0 xs1 xs2 xs3 xs4 xs5 (gI D o508 x3.toNatClampNeg) D)
def f_X9_goTo_100 (S : sh) (k24 : Nat → Int32 → Int32 → Int32 → dt → Option (Unit × dt)) (o0 : Nat) (x1 : Int32) (x2 : Int32) (x3 : Int32) (x4 : Int32) (os0 : Nat) (xs1 : Int32) (xs2 : Int32) (xs3 : Int64) (xs4 : Int64) (D : dt) : Option (Unit × dt) := if x2 = 0 then (rq (gR D o0 32) fun o514 => ix x4 (sA S o514) <| f_X9_goTo_120 S k24 o0 x1 x2 x3 x4 os0 xs1 xs2 xs3 xs4 (gI D o514 x4.toNatClampNeg) D) else (rq (gR D o0 43) fun o519 => ix x3 (sA S o519) <| f_X9_goTo_120 S k24 o0 x1 x2 x3 x4 os0 xs1 xs2 xs3 xs4 (gI D o519 x3.toNatClampNeg) D)
def f_X9_goTo_80 (S : sh) (k24 : Nat → Int32 → Int32 → Int32 → dt → Option (Unit × dt)) (o0 : Nat) (x1 : Int32) (x2 : Int32) (x3 : Int32) (x4 : Int32) (os0 : Nat) (xs1 : Int32) (xs2 : Int32) (xs3 : Int64) (D : dt) : Option (Unit × dt) := if x2 = 0 then (rq (gR D o0 31) fun o525 => ix x4 (sA S o525) <| f_X9_goTo_100 S k24 o0 x1 x2 x3 x4 os0 xs1 xs2 xs3 (gL D o525 x4.toNatClampNeg) D) else (rq (gR D o0 42) fun o530 => ix x3 (sA S o530) <| f_X9_goTo_100 S k24 o0 x1 x2 x3 x4 os0 xs1 xs2 xs3 (gL D o530 x3.toNatClampNeg) D)
def f_X9_goTo_60 (S : sh) (k24 : Nat → Int32 → Int32 → Int32 → dt → Option (Unit × dt)) (o0 : Nat) (x1 : Int32) (x2 : Int32) (x3 : Int32) (x4 : Int32) (os0 : Nat) (xs1 : Int32) (xs2 : Int32) (D : dt) : Option (Unit × dt) := if x2 = 0 then (rq (gR D o0 30) fun o536 => ix x4 (sA S o536) <| f_X9_goTo_80 S k24 o0 x1 x2 x3 x4 os0 xs1 xs2 (gL D o536 x4.toNatClampNeg) D) else (rq (gR D o0 41) fun o541 => ix x3 (sA S o541) <| f_X9_goTo_80 S k24 o0 x1 x2 x3 x4 os0 xs1 xs2 (gL D o541 x3.toNatClampNeg) D)
def f_X9_goTo_24 (S : sh) : Nat → Nat → Int32 → Int32 → Int32 → dt → Option (Unit × dt)
  | 0, _, _, _, _, _ => none
  | n + 1, o0, x1, x2, x3, D => if (11 : Int32) ≤ x3 then (nm ((0 : Int32)) fun y547 => f_X9_goTo_277 S LF o0 x1 x2 y547 D) else (nm (((11 : Int32) * x1) + x3) fun y548 => if x2 = 0 then (rq (gR D o0 29) fun o550 => ix y548 (sA S o550) <| f_X9_goTo_60 S (f_X9_goTo_24 S n) o0 x1 x2 x3 y548 o0 x3 (gI D o550 y548.toNatClampNeg) D) else (rq (gR D o0 40) fun o555 => ix x3 (sA S o555) <| f_X9_goTo_60 S (f_X9_goTo_24 S n) o0 x1 x2 x3 y548 o0 x3 (gI D o555 x3.toNatClampNeg) D))
def f_X9_goTo_14 (S : sh) (o0 : Nat) (x1 : Int32) (xs0 : Int32) (D : dt) : Option (Unit × dt) := rq (gR D o0 27) fun o560 => ix x1 (sA S o560) <| nm (pI D o560 x1.toNatClampNeg (vp_nar .boolean (1 : Int32))) fun D565 => nm ((0 : Int32)) fun y566 => f_X9_goTo_24 S LF o0 x1 xs0 y566 D565
def f_X9_goTo (S : sh) (o0 : Nat) (x1 : Int32) (D : dt) : Option (Unit × dt) := rq (gR D o0 27) fun o567 => ix x1 (sA S o567) <| if (gI D o567 x1.toNatClampNeg) = 0 then (f_X9_goTo_14 S o0 x1 (1 : Int32) D) else (f_X9_goTo_14 S o0 x1 (0 : Int32) D)
theorem mk_X9_goTo : MkV yX9_goTo RX9 cX9_goTo 6 none 1 := ⟨⟨lk_1460, lk_86, lk_121, (tb_in (i := 1461) (by decide +kernel) (by decide +kernel))⟩, by decide +kernel⟩
section
variable {p : Program} {l : Launch} {e : Env} {R : Room} {s : State} {m : MethodId} {args : Array Value} {below : List Frame} {meth : Method} {c : Code} {H : Heap} {locs : List Loc} {G : va_G} {cA : Nat → ClassId} {S : sh} {D : dt} {ad : Nat → Nat} {A : Nat → Prop}
set_option maxHeartbeats 4000000 in
set_option maxRecDepth 100000 in
theorem w_X9_goTo_569 {r : Unit} {D' : dt} (hC : Cx RX9 cX9_goTo 6 none p s m args meth c) (hR : 3 ≤ R.frames ∧ 74 ≤ R.locals) {k519 : Nat → Int32 → Int32 → Int32 → dt → Option (Unit × dt)} (hk519 : ∀ (o0 a0 : Nat) (x1 : Int32) (x2 : Int32) (x3 : Int32) (D : dt) (H : Heap) (locs : List Loc) (ls : Array Slot), Is S ad o0 a0 8 → Wd G cA S D ad A s H locs → lv_has ls 6 [(0, .ref a0), (1, .int x1), (2, .int x2), (3, .int x3)] → k519 o0 x1 x2 x3 D = some (r, D') → W p l e R s m args below meth c H locs 0 0 (MQ below (Qn none True (wpost G cA S D' ad A) A) args s 0 0 A) (F0 m 519 ls [])) : ∀ (o0 a0 : Nat) (x1 : Int32) (x2 : Int32) (x3 : Int32) (os0 as0 : Nat) (xs1 : Int32) (xs2 : Int32) (D : dt) (H : Heap) (locs : List Loc) (ls : Array Slot), Is S ad o0 a0 8 → Is S ad os0 as0 103 → Wd G cA S D ad A s H locs → lv_has ls 6 [(0, .ref a0), (1, .int x1), (2, .int x2), (3, .int x3)] → f_X9_goTo_569 S k519 o0 x1 x2 x3 os0 xs1 xs2 D = some (r, D') → W p l e R s m args below meth c H locs 0 0 (MQ below (Qn none True (wpost G cA S D' ad A) A) args s 0 0 A) (F0 m 569 ls [.int xs2, .int xs1, .ref as0]) := by
  obtain ⟨hx, hb, -⟩ := id hC
  intro o0 a0 x1 x2 x3 os0 as0 xs1 xs2 D H locs ls hi0 his0 hw hl h
  unfold f_X9_goTo_569 at h
  obtain ⟨hn287, h⟩ := ix_i h
  refine r_zas hC hw his0 hn287 dX9_goTo_569 (fun D288 eD288 H locs hw => ?_)
  have h := nm_i h D288 eD288
  obtain ⟨y289, ey289⟩ : ∃ z : Int32, z = x3 + 1 := ⟨_, rfl⟩
  have h := nm_i h y289 ey289
  refine lv_iinc (v := y289) (lv' := [(3, .int y289), (0, .ref a0), (1, .int x1), (2, .int x2)]) hx hb dX9_goTo_570 hl (k := 3) rfl (by rw [ey289]; rfl) (by decide) rfl (fun ls hl => ?_)
  refine lv_goto (tgt := 519) hx hb dX9_goTo_573 (by decide) ?_
  exact hk519 o0 a0 x1 x2 y289 _ _ _ _ hi0 hw (lv_sub hl [1, 2, 3, 0] rfl) h
set_option maxHeartbeats 4000000 in
set_option maxRecDepth 100000 in
theorem w_X9_goTo_564 {r : Unit} {D' : dt} (hC : Cx RX9 cX9_goTo 6 none p s m args meth c) (hR : 3 ≤ R.frames ∧ 74 ≤ R.locals) {k519 : Nat → Int32 → Int32 → Int32 → dt → Option (Unit × dt)} (hk519 : ∀ (o0 a0 : Nat) (x1 : Int32) (x2 : Int32) (x3 : Int32) (D : dt) (H : Heap) (locs : List Loc) (ls : Array Slot), Is S ad o0 a0 8 → Wd G cA S D ad A s H locs → lv_has ls 6 [(0, .ref a0), (1, .int x1), (2, .int x2), (3, .int x3)] → k519 o0 x1 x2 x3 D = some (r, D') → W p l e R s m args below meth c H locs 0 0 (MQ below (Qn none True (wpost G cA S D' ad A) A) args s 0 0 A) (F0 m 519 ls [])) : ∀ (o0 a0 : Nat) (x1 : Int32) (x2 : Int32) (x3 : Int32) (os0 as0 : Nat) (xs1 : Int32) (D : dt) (H : Heap) (locs : List Loc) (ls : Array Slot), Is S ad o0 a0 8 → Is S ad os0 as0 103 → Wd G cA S D ad A s H locs → lv_has ls 6 [(0, .ref a0), (1, .int x1), (2, .int x2), (3, .int x3)] → f_X9_goTo_564 S k519 o0 x1 x2 x3 os0 xs1 D = some (r, D') → W p l e R s m args below meth c H locs 0 0 (MQ below (Qn none True (wpost G cA S D' ad A) A) args s 0 0 A) (F0 m 564 ls [.int xs1, .ref as0]) := by
  obtain ⟨hx, hb, -⟩ := id hC
  intro o0 a0 x1 x2 x3 os0 as0 xs1 D H locs ls hi0 his0 hw hl h
  unfold f_X9_goTo_564 at h
  refine lv_iconst (v := 1) hx hb dX9_goTo_564 (by decide) ?_
  refine lv_goto (tgt := 569) hx hb dX9_goTo_565 (by decide) ?_
  exact w_X9_goTo_569 hC hR hk519 o0 a0 x1 x2 x3 os0 as0 xs1 (1 : Int32) _ _ _ _ hi0 his0 hw (lv_sub hl [0, 1, 2, 3] rfl) h
set_option maxHeartbeats 4000000 in
set_option maxRecDepth 100000 in
theorem w_X9_goTo_568 {r : Unit} {D' : dt} (hC : Cx RX9 cX9_goTo 6 none p s m args meth c) (hR : 3 ≤ R.frames ∧ 74 ≤ R.locals) {k519 : Nat → Int32 → Int32 → Int32 → dt → Option (Unit × dt)} (hk519 : ∀ (o0 a0 : Nat) (x1 : Int32) (x2 : Int32) (x3 : Int32) (D : dt) (H : Heap) (locs : List Loc) (ls : Array Slot), Is S ad o0 a0 8 → Wd G cA S D ad A s H locs → lv_has ls 6 [(0, .ref a0), (1, .int x1), (2, .int x2), (3, .int x3)] → k519 o0 x1 x2 x3 D = some (r, D') → W p l e R s m args below meth c H locs 0 0 (MQ below (Qn none True (wpost G cA S D' ad A) A) args s 0 0 A) (F0 m 519 ls [])) : ∀ (o0 a0 : Nat) (x1 : Int32) (x2 : Int32) (x3 : Int32) (os0 as0 : Nat) (xs1 : Int32) (D : dt) (H : Heap) (locs : List Loc) (ls : Array Slot), Is S ad o0 a0 8 → Is S ad os0 as0 103 → Wd G cA S D ad A s H locs → lv_has ls 6 [(0, .ref a0), (1, .int x1), (2, .int x2), (3, .int x3)] → f_X9_goTo_568 S k519 o0 x1 x2 x3 os0 xs1 D = some (r, D') → W p l e R s m args below meth c H locs 0 0 (MQ below (Qn none True (wpost G cA S D' ad A) A) args s 0 0 A) (F0 m 568 ls [.int xs1, .ref as0]) := by
  obtain ⟨hx, hb, -⟩ := id hC
  intro o0 a0 x1 x2 x3 os0 as0 xs1 D H locs ls hi0 his0 hw hl h
  unfold f_X9_goTo_568 at h
  refine lv_iconst (v := 0) hx hb dX9_goTo_568 (by decide) ?_
  exact w_X9_goTo_569 hC hR hk519 o0 a0 x1 x2 x3 os0 as0 xs1 (0 : Int32) _ _ _ _ hi0 his0 hw (lv_sub hl [0, 1, 2, 3] rfl) h
set_option maxHeartbeats 4000000 in
set_option maxRecDepth 100000 in
theorem w_X9_goTo_519 {r : Unit} {D' : dt} (hC : Cx RX9 cX9_goTo 6 none p s m args meth c) (hR : 3 ≤ R.frames ∧ 74 ≤ R.locals) : ∀ (n : Nat), ∀ (o0 a0 : Nat) (x1 : Int32) (x2 : Int32) (x3 : Int32) (D : dt) (H : Heap) (locs : List Loc) (ls : Array Slot), Is S ad o0 a0 8 → Wd G cA S D ad A s H locs → lv_has ls 6 [(0, .ref a0), (1, .int x1), (2, .int x2), (3, .int x3)] → f_X9_goTo_519 S n o0 x1 x2 x3 D = some (r, D') → W p l e R s m args below meth c H locs 0 0 (MQ below (Qn none True (wpost G cA S D' ad A) A) args s 0 0 A) (F0 m 519 ls []) := by
  obtain ⟨hx, hb, -⟩ := id hC
  intro n
  induction n with
  | zero =>
    intro o0 a0 x1 x2 x3 D H locs ls hi0 hw hl h
    rw [f_X9_goTo_519.eq_1] at h
    cases h
  | succ n ih =>
    intro o0 a0 x1 x2 x3 D H locs ls hi0 hw hl h
    rw [f_X9_goTo_519.eq_2] at h
    refine lv_iload_n hx hb dX9_goTo_519 rfl (lv_at hl 3 rfl) ?_
    refine lv_sipush (v := 512) hx hb dX9_goTo_520 (by decide) ?_
    refine lv_icmp_ge (tgt := 576) hx hb dX9_goTo_523 (by decide) (fun c290 => ?_) (fun c290 => ?_)
    · have h := i_yes c290 h
      cases h
      exact r_vret hC hw dX9_goTo_576
    · have h := i_no c290 h
      refine lv_sipush (v := 512) hx hb dX9_goTo_526 (by decide) ?_
      refine lv_iload_n hx hb dX9_goTo_529 rfl (lv_at hl 1 rfl) ?_
      refine lv_imul hx hb dX9_goTo_530 ?_
      refine lv_iload_n hx hb dX9_goTo_531 rfl (lv_at hl 3 rfl) ?_
      refine lv_iadd hx hb dX9_goTo_532 ?_
      refine lv_topi (fun y291 ey291 => ?_)
      have h := nm_i h y291 ey291
      refine lv_istore (lv' := [(4, .int y291), (0, .ref a0), (1, .int x1), (2, .int x2), (3, .int x3)]) hx hb dX9_goTo_533 hl (by decide) rfl (fun ls hl => ?_)
      refine lv_aload_n hx hb dX9_goTo_535 rfl (lv_at hl 1 rfl) ?_
      obtain ⟨o292, ho295, h⟩ := rq_i h
      refine r_getR hC hw kc_8 hi0 34 rfl lk_1106 dX9_goTo_536 rfl ho295 (fun a293 hi294 => ?_)
      refine lv_iload hx hb dX9_goTo_539 (lv_at hl 0 rfl) ?_
      refine lv_aload_n hx hb dX9_goTo_541 rfl (lv_at hl 1 rfl) ?_
      obtain ⟨o296, ho299, h⟩ := rq_i h
      refine r_getR hC hw kc_8 hi0 45 rfl lk_1117 dX9_goTo_542 rfl ho299 (fun a297 hi298 => ?_)
      refine lv_iload_n hx hb dX9_goTo_545 rfl (lv_at hl 4 rfl) ?_
      obtain ⟨hn300, h⟩ := ix_i h
      refine r_zald hC hw hi298 hn300 dX9_goTo_546 ?_
      refine lv_if_eq (tgt := 568) hx hb dX9_goTo_547 (by decide) (fun c301 => ?_) (fun c301 => ?_)
      · have h := i_yes c301 h
        exact w_X9_goTo_568 hC hR ih o0 a0 x1 x2 x3 o292 a293 y291 _ _ _ _ hi0 hi294 hw (lv_sub hl [1, 2, 3, 4] rfl) h
      · have h := i_no c301 h
        refine lv_iload_n hx hb dX9_goTo_550 rfl (lv_at hl 3 rfl) ?_
        refine lv_if_ne (tgt := 564) hx hb dX9_goTo_551 (by decide) (fun c302 => ?_) (fun c302 => ?_)
        · have h := i_no c302 h
          exact w_X9_goTo_564 hC hR ih o0 a0 x1 x2 x3 o292 a293 y291 _ _ _ _ hi0 hi294 hw (lv_sub hl [1, 2, 3, 4] rfl) h
        · have h := i_yes c302 h
          refine lv_aload_n hx hb dX9_goTo_554 rfl (lv_at hl 1 rfl) ?_
          obtain ⟨o303, ho306, h⟩ := rq_i h
          refine r_getR hC hw kc_8 hi0 34 rfl lk_1106 dX9_goTo_555 rfl ho306 (fun a304 hi305 => ?_)
          refine lv_iload hx hb dX9_goTo_558 (lv_at hl 0 rfl) ?_
          obtain ⟨hn307, h⟩ := ix_i h
          refine r_zald hC hw hi305 hn307 dX9_goTo_560 ?_
          refine lv_if_eq (tgt := 568) hx hb dX9_goTo_561 (by decide) (fun c308 => ?_) (fun c308 => ?_)
          · have h := i_yes c308 h
            exact w_X9_goTo_568 hC hR ih o0 a0 x1 x2 x3 o292 a293 y291 _ _ _ _ hi0 hi294 hw (lv_sub hl [1, 2, 3, 4] rfl) h
          · have h := i_no c308 h
            exact w_X9_goTo_564 hC hR ih o0 a0 x1 x2 x3 o292 a293 y291 _ _ _ _ hi0 hi294 hw (lv_sub hl [1, 2, 3, 4] rfl) h
set_option maxHeartbeats 4000000 in
set_option maxRecDepth 100000 in
theorem w_X9_goTo_482 {r : Unit} {D' : dt} (hC : Cx RX9 cX9_goTo 6 none p s m args meth c) (hR : 3 ≤ R.frames ∧ 74 ≤ R.locals) {k277 : Nat → Int32 → Int32 → Int32 → dt → Option (Unit × dt)} (hk277 : ∀ (o0 a0 : Nat) (x1 : Int32) (x2 : Int32) (x3 : Int32) (D : dt) (H : Heap) (locs : List Loc) (ls : Array Slot), Is S ad o0 a0 8 → Wd G cA S D ad A s H locs → lv_has ls 6 [(0, .ref a0), (1, .int x1), (2, .int x2), (3, .int x3)] → k277 o0 x1 x2 x3 D = some (r, D') → W p l e R s m args below meth c H locs 0 0 (MQ below (Qn none True (wpost G cA S D' ad A) A) args s 0 0 A) (F0 m 277 ls [])) : ∀ (o0 a0 : Nat) (x1 : Int32) (x2 : Int32) (x3 : Int32) (x4 : Int32) (x5 : Int32) (os0 as0 : Nat) (xs1 : Int32) (xs2 : Int64) (D : dt) (H : Heap) (locs : List Loc) (ls : Array Slot), Is S ad o0 a0 8 → Is S ad os0 as0 101 → Wd G cA S D ad A s H locs → lv_has ls 6 [(0, .ref a0), (1, .int x1), (2, .int x2), (3, .int x3), (4, .int x4), (5, .int x5)] → f_X9_goTo_482 S k277 o0 x1 x2 x3 x4 x5 os0 xs1 xs2 D = some (r, D') → W p l e R s m args below meth c H locs 0 0 (MQ below (Qn none True (wpost G cA S D' ad A) A) args s 0 0 A) (F0 m 482 ls [.long xs2, .int xs1, .ref as0]) := by
  obtain ⟨hx, hb, -⟩ := id hC
  intro o0 a0 x1 x2 x3 x4 x5 os0 as0 xs1 xs2 D H locs ls hi0 his0 hw hl h
  unfold f_X9_goTo_482 at h
  obtain ⟨hn309, h⟩ := ix_i h
  refine r_las hC hw his0 hn309 dX9_goTo_482 (fun D310 eD310 H locs hw => ?_)
  have h := nm_i h D310 eD310
  refine lv_aload_n hx hb dX9_goTo_483 rfl (lv_at hl 0 rfl) ?_
  obtain ⟨o311, ho314, h⟩ := rq_i h
  refine r_getR hC hw kc_8 hi0 38 rfl lk_1110 dX9_goTo_484 rfl ho314 (fun a312 hi313 => ?_)
  refine lv_iload hx hb dX9_goTo_487 (lv_at hl 4 rfl) ?_
  refine lv_aload_n hx hb dX9_goTo_489 rfl (lv_at hl 0 rfl) ?_
  obtain ⟨o315, ho318, h⟩ := rq_i h
  refine r_getR hC hw kc_8 hi0 43 rfl lk_1115 dX9_goTo_490 rfl ho318 (fun a316 hi317 => ?_)
  refine lv_iload hx hb dX9_goTo_493 (lv_at hl 5 rfl) ?_
  obtain ⟨hn319, h⟩ := ix_i h
  refine r_iald hC hw hi317 hn319 dX9_goTo_495 ?_
  obtain ⟨hn320, h⟩ := ix_i h
  refine r_ias hC hw hi313 hn320 dX9_goTo_496 (fun D321 eD321 H locs hw => ?_)
  have h := nm_i h D321 eD321
  refine lv_aload_n hx hb dX9_goTo_497 rfl (lv_at hl 0 rfl) ?_
  obtain ⟨o322, ho325, h⟩ := rq_i h
  refine r_getR hC hw kc_8 hi0 39 rfl lk_1111 dX9_goTo_498 rfl ho325 (fun a323 hi324 => ?_)
  refine lv_iload hx hb dX9_goTo_501 (lv_at hl 4 rfl) ?_
  refine lv_aload_n hx hb dX9_goTo_503 rfl (lv_at hl 0 rfl) ?_
  obtain ⟨o326, ho329, h⟩ := rq_i h
  refine r_getR hC hw kc_8 hi0 44 rfl lk_1116 dX9_goTo_504 rfl ho329 (fun a327 hi328 => ?_)
  refine lv_iload hx hb dX9_goTo_507 (lv_at hl 5 rfl) ?_
  obtain ⟨hn330, h⟩ := ix_i h
  refine r_iald hC hw hi328 hn330 dX9_goTo_509 ?_
  obtain ⟨hn331, h⟩ := ix_i h
  refine r_ias hC hw hi324 hn331 dX9_goTo_510 (fun D332 eD332 H locs hw => ?_)
  have h := nm_i h D332 eD332
  obtain ⟨y333, ey333⟩ : ∃ z : Int32, z = x3 + 1 := ⟨_, rfl⟩
  have h := nm_i h y333 ey333
  refine lv_iinc (v := y333) (lv' := [(3, .int y333), (0, .ref a0), (1, .int x1), (2, .int x2), (4, .int x4), (5, .int x5)]) hx hb dX9_goTo_511 hl (k := 3) rfl (by rw [ey333]; rfl) (by decide) rfl (fun ls hl => ?_)
  refine lv_goto (tgt := 277) hx hb dX9_goTo_514 (by decide) ?_
  exact hk277 o0 a0 x1 x2 y333 _ _ _ _ hi0 hw (lv_sub hl [1, 2, 3, 0] rfl) h
set_option maxHeartbeats 4000000 in
set_option maxRecDepth 100000 in
theorem w_X9_goTo_457 {r : Unit} {D' : dt} (hC : Cx RX9 cX9_goTo 6 none p s m args meth c) (hR : 3 ≤ R.frames ∧ 74 ≤ R.locals) {k277 : Nat → Int32 → Int32 → Int32 → dt → Option (Unit × dt)} (hk277 : ∀ (o0 a0 : Nat) (x1 : Int32) (x2 : Int32) (x3 : Int32) (D : dt) (H : Heap) (locs : List Loc) (ls : Array Slot), Is S ad o0 a0 8 → Wd G cA S D ad A s H locs → lv_has ls 6 [(0, .ref a0), (1, .int x1), (2, .int x2), (3, .int x3)] → k277 o0 x1 x2 x3 D = some (r, D') → W p l e R s m args below meth c H locs 0 0 (MQ below (Qn none True (wpost G cA S D' ad A) A) args s 0 0 A) (F0 m 277 ls [])) : ∀ (o0 a0 : Nat) (x1 : Int32) (x2 : Int32) (x3 : Int32) (x4 : Int32) (x5 : Int32) (os0 as0 : Nat) (xs1 : Int32) (xs2 : Int64) (D : dt) (H : Heap) (locs : List Loc) (ls : Array Slot), Is S ad o0 a0 8 → Is S ad os0 as0 101 → Wd G cA S D ad A s H locs → lv_has ls 6 [(0, .ref a0), (1, .int x1), (2, .int x2), (3, .int x3), (4, .int x4), (5, .int x5)] → f_X9_goTo_457 S k277 o0 x1 x2 x3 x4 x5 os0 xs1 xs2 D = some (r, D') → W p l e R s m args below meth c H locs 0 0 (MQ below (Qn none True (wpost G cA S D' ad A) A) args s 0 0 A) (F0 m 457 ls [.long xs2, .int xs1, .ref as0]) := by
  obtain ⟨hx, hb, -⟩ := id hC
  intro o0 a0 x1 x2 x3 x4 x5 os0 as0 xs1 xs2 D H locs ls hi0 his0 hw hl h
  unfold f_X9_goTo_457 at h
  obtain ⟨hn334, h⟩ := ix_i h
  refine r_las hC hw his0 hn334 dX9_goTo_457 (fun D335 eD335 H locs hw => ?_)
  have h := nm_i h D335 eD335
  refine lv_aload_n hx hb dX9_goTo_458 rfl (lv_at hl 0 rfl) ?_
  obtain ⟨o336, ho339, h⟩ := rq_i h
  refine r_getR hC hw kc_8 hi0 37 rfl lk_1109 dX9_goTo_459 rfl ho339 (fun a337 hi338 => ?_)
  refine lv_iload hx hb dX9_goTo_462 (lv_at hl 4 rfl) ?_
  refine lv_iload_n hx hb dX9_goTo_464 rfl (lv_at hl 2 rfl) ?_
  refine lv_if_eq (tgt := 478) hx hb dX9_goTo_465 (by decide) (fun c340 => ?_) (fun c340 => ?_)
  · have h := i_yes c340 h
    refine lv_aload_n hx hb dX9_goTo_478 rfl (lv_at hl 0 rfl) ?_
    refine r_gL hC hw kc_8 hi0 49 rfl lk_1121 dX9_goTo_479 ?_
    exact w_X9_goTo_482 hC hR hk277 o0 a0 x1 x2 x3 x4 x5 o336 a337 x4 (gL D335 o0 49) _ _ _ _ hi0 hi338 hw (lv_sub hl [0, 1, 2, 3, 4, 5] rfl) h
  · have h := i_no c340 h
    refine lv_aload_n hx hb dX9_goTo_468 rfl (lv_at hl 0 rfl) ?_
    obtain ⟨o341, ho344, h⟩ := rq_i h
    refine r_getR hC hw kc_8 hi0 42 rfl lk_1114 dX9_goTo_469 rfl ho344 (fun a342 hi343 => ?_)
    refine lv_iload hx hb dX9_goTo_472 (lv_at hl 5 rfl) ?_
    obtain ⟨hn345, h⟩ := ix_i h
    refine r_lald hC hw hi343 hn345 dX9_goTo_474 ?_
    refine lv_goto (tgt := 482) hx hb dX9_goTo_475 (by decide) ?_
    exact w_X9_goTo_482 hC hR hk277 o0 a0 x1 x2 x3 x4 x5 o336 a337 x4 (gL D335 o341 x5.toNatClampNeg) _ _ _ _ hi0 hi338 hw (lv_sub hl [0, 1, 2, 3, 4, 5] rfl) h
set_option maxHeartbeats 4000000 in
set_option maxRecDepth 100000 in
theorem w_X9_goTo_432 {r : Unit} {D' : dt} (hC : Cx RX9 cX9_goTo 6 none p s m args meth c) (hR : 3 ≤ R.frames ∧ 74 ≤ R.locals) {k277 : Nat → Int32 → Int32 → Int32 → dt → Option (Unit × dt)} (hk277 : ∀ (o0 a0 : Nat) (x1 : Int32) (x2 : Int32) (x3 : Int32) (D : dt) (H : Heap) (locs : List Loc) (ls : Array Slot), Is S ad o0 a0 8 → Wd G cA S D ad A s H locs → lv_has ls 6 [(0, .ref a0), (1, .int x1), (2, .int x2), (3, .int x3)] → k277 o0 x1 x2 x3 D = some (r, D') → W p l e R s m args below meth c H locs 0 0 (MQ below (Qn none True (wpost G cA S D' ad A) A) args s 0 0 A) (F0 m 277 ls [])) : ∀ (o0 a0 : Nat) (x1 : Int32) (x2 : Int32) (x3 : Int32) (x4 : Int32) (x5 : Int32) (os0 as0 : Nat) (xs1 : Int32) (xs2 : Int32) (D : dt) (H : Heap) (locs : List Loc) (ls : Array Slot), Is S ad o0 a0 8 → Is S ad os0 as0 100 → Wd G cA S D ad A s H locs → lv_has ls 6 [(0, .ref a0), (1, .int x1), (2, .int x2), (3, .int x3), (4, .int x4), (5, .int x5)] → f_X9_goTo_432 S k277 o0 x1 x2 x3 x4 x5 os0 xs1 xs2 D = some (r, D') → W p l e R s m args below meth c H locs 0 0 (MQ below (Qn none True (wpost G cA S D' ad A) A) args s 0 0 A) (F0 m 432 ls [.int xs2, .int xs1, .ref as0]) := by
  obtain ⟨hx, hb, -⟩ := id hC
  intro o0 a0 x1 x2 x3 x4 x5 os0 as0 xs1 xs2 D H locs ls hi0 his0 hw hl h
  unfold f_X9_goTo_432 at h
  obtain ⟨hn346, h⟩ := ix_i h
  refine r_ias hC hw his0 hn346 dX9_goTo_432 (fun D347 eD347 H locs hw => ?_)
  have h := nm_i h D347 eD347
  refine lv_aload_n hx hb dX9_goTo_433 rfl (lv_at hl 0 rfl) ?_
  obtain ⟨o348, ho351, h⟩ := rq_i h
  refine r_getR hC hw kc_8 hi0 36 rfl lk_1108 dX9_goTo_434 rfl ho351 (fun a349 hi350 => ?_)
  refine lv_iload hx hb dX9_goTo_437 (lv_at hl 4 rfl) ?_
  refine lv_iload_n hx hb dX9_goTo_439 rfl (lv_at hl 2 rfl) ?_
  refine lv_if_eq (tgt := 453) hx hb dX9_goTo_440 (by decide) (fun c352 => ?_) (fun c352 => ?_)
  · have h := i_yes c352 h
    refine lv_aload_n hx hb dX9_goTo_453 rfl (lv_at hl 0 rfl) ?_
    refine r_gL hC hw kc_8 hi0 48 rfl lk_1120 dX9_goTo_454 ?_
    exact w_X9_goTo_457 hC hR hk277 o0 a0 x1 x2 x3 x4 x5 o348 a349 x4 (gL D347 o0 48) _ _ _ _ hi0 hi350 hw (lv_sub hl [0, 1, 2, 3, 4, 5] rfl) h
  · have h := i_no c352 h
    refine lv_aload_n hx hb dX9_goTo_443 rfl (lv_at hl 0 rfl) ?_
    obtain ⟨o353, ho356, h⟩ := rq_i h
    refine r_getR hC hw kc_8 hi0 41 rfl lk_1113 dX9_goTo_444 rfl ho356 (fun a354 hi355 => ?_)
    refine lv_iload hx hb dX9_goTo_447 (lv_at hl 5 rfl) ?_
    obtain ⟨hn357, h⟩ := ix_i h
    refine r_lald hC hw hi355 hn357 dX9_goTo_449 ?_
    refine lv_goto (tgt := 457) hx hb dX9_goTo_450 (by decide) ?_
    exact w_X9_goTo_457 hC hR hk277 o0 a0 x1 x2 x3 x4 x5 o348 a349 x4 (gL D347 o353 x5.toNatClampNeg) _ _ _ _ hi0 hi350 hw (lv_sub hl [0, 1, 2, 3, 4, 5] rfl) h
set_option maxHeartbeats 4000000 in
set_option maxRecDepth 100000 in
theorem w_X9_goTo_405 {r : Unit} {D' : dt} (hC : Cx RX9 cX9_goTo 6 none p s m args meth c) (hR : 3 ≤ R.frames ∧ 74 ≤ R.locals) {k277 : Nat → Int32 → Int32 → Int32 → dt → Option (Unit × dt)} (hk277 : ∀ (o0 a0 : Nat) (x1 : Int32) (x2 : Int32) (x3 : Int32) (D : dt) (H : Heap) (locs : List Loc) (ls : Array Slot), Is S ad o0 a0 8 → Wd G cA S D ad A s H locs → lv_has ls 6 [(0, .ref a0), (1, .int x1), (2, .int x2), (3, .int x3)] → k277 o0 x1 x2 x3 D = some (r, D') → W p l e R s m args below meth c H locs 0 0 (MQ below (Qn none True (wpost G cA S D' ad A) A) args s 0 0 A) (F0 m 277 ls [])) : ∀ (o0 a0 : Nat) (x1 : Int32) (x2 : Int32) (x3 : Int32) (x4 : Int32) (x5 : Int32) (os0 as0 : Nat) (xs1 : Int32) (xs2 : Int32) (xs3 : Int64) (xs4 : Int64) (xs5 : Int32) (xs6 : Int32) (D : dt) (H : Heap) (locs : List Loc) (ls : Array Slot), Is S ad o0 a0 8 → Is S ad os0 as0 8 → Wd G cA S D ad A s H locs → lv_has ls 6 [(0, .ref a0), (1, .int x1), (2, .int x2), (3, .int x3), (4, .int x4), (5, .int x5)] → f_X9_goTo_405 S k277 o0 x1 x2 x3 x4 x5 os0 xs1 xs2 xs3 xs4 xs5 xs6 D = some (r, D') → W p l e R s m args below meth c H locs 0 0 (MQ below (Qn none True (wpost G cA S D' ad A) A) args s 0 0 A) (F0 m 405 ls [.int xs6, .int xs5, .long xs4, .long xs3, .int xs2, .int xs1, .ref as0]) := by
  obtain ⟨hx, hb, -⟩ := id hC
  intro o0 a0 x1 x2 x3 x4 x5 os0 as0 xs1 xs2 xs3 xs4 xs5 xs6 D H locs ls hi0 his0 hw hl h
  unfold f_X9_goTo_405 at h
  obtain ⟨_, D359, hq358, h⟩ := cq_i h
  refine r_cV (st' := []) [.int xs1, .int xs2, .long xs3, .long xs4, .int xs5, .int xs6] [] hC hw kc_8 his0 (k_X9_join _ his0 hq358) mk_X9_join lk_1462 ⟨Nat.le_trans (by decide) hR.1, Nat.le_trans (by decide) hR.2⟩ ⟨Nat.zero_le _, Nat.zero_le _⟩ rfl hl.1 rfl rfl (Nat.le_of_ble_eq_true rfl) dX9_goTo_405 (fun hP H locs hw => ?_)
  refine lv_aload_n hx hb dX9_goTo_408 rfl (lv_at hl 0 rfl) ?_
  obtain ⟨o360, ho363, h⟩ := rq_i h
  refine r_getR hC hw kc_8 hi0 35 rfl lk_1107 dX9_goTo_409 rfl ho363 (fun a361 hi362 => ?_)
  refine lv_iload hx hb dX9_goTo_412 (lv_at hl 4 rfl) ?_
  refine lv_iload_n hx hb dX9_goTo_414 rfl (lv_at hl 2 rfl) ?_
  refine lv_if_eq (tgt := 428) hx hb dX9_goTo_415 (by decide) (fun c364 => ?_) (fun c364 => ?_)
  · have h := i_yes c364 h
    refine lv_aload_n hx hb dX9_goTo_428 rfl (lv_at hl 0 rfl) ?_
    refine r_gI hC hw kc_8 hi0 47 rfl lk_1119 dX9_goTo_429 ?_
    exact w_X9_goTo_432 hC hR hk277 o0 a0 x1 x2 x3 x4 x5 o360 a361 x4 (gI D359 o0 47) _ _ _ _ hi0 hi362 hw (lv_sub hl [0, 1, 2, 3, 4, 5] rfl) h
  · have h := i_no c364 h
    refine lv_aload_n hx hb dX9_goTo_418 rfl (lv_at hl 0 rfl) ?_
    obtain ⟨o365, ho368, h⟩ := rq_i h
    refine r_getR hC hw kc_8 hi0 40 rfl lk_1112 dX9_goTo_419 rfl ho368 (fun a366 hi367 => ?_)
    refine lv_iload hx hb dX9_goTo_422 (lv_at hl 5 rfl) ?_
    obtain ⟨hn369, h⟩ := ix_i h
    refine r_iald hC hw hi367 hn369 dX9_goTo_424 ?_
    refine lv_goto (tgt := 432) hx hb dX9_goTo_425 (by decide) ?_
    exact w_X9_goTo_432 hC hR hk277 o0 a0 x1 x2 x3 x4 x5 o360 a361 x4 (gI D359 o365 x5.toNatClampNeg) _ _ _ _ hi0 hi362 hw (lv_sub hl [0, 1, 2, 3, 4, 5] rfl) h
set_option maxHeartbeats 4000000 in
set_option maxRecDepth 100000 in
theorem w_X9_goTo_384 {r : Unit} {D' : dt} (hC : Cx RX9 cX9_goTo 6 none p s m args meth c) (hR : 3 ≤ R.frames ∧ 74 ≤ R.locals) {k277 : Nat → Int32 → Int32 → Int32 → dt → Option (Unit × dt)} (hk277 : ∀ (o0 a0 : Nat) (x1 : Int32) (x2 : Int32) (x3 : Int32) (D : dt) (H : Heap) (locs : List Loc) (ls : Array Slot), Is S ad o0 a0 8 → Wd G cA S D ad A s H locs → lv_has ls 6 [(0, .ref a0), (1, .int x1), (2, .int x2), (3, .int x3)] → k277 o0 x1 x2 x3 D = some (r, D') → W p l e R s m args below meth c H locs 0 0 (MQ below (Qn none True (wpost G cA S D' ad A) A) args s 0 0 A) (F0 m 277 ls [])) : ∀ (o0 a0 : Nat) (x1 : Int32) (x2 : Int32) (x3 : Int32) (x4 : Int32) (x5 : Int32) (os0 as0 : Nat) (xs1 : Int32) (xs2 : Int32) (xs3 : Int64) (xs4 : Int64) (xs5 : Int32) (D : dt) (H : Heap) (locs : List Loc) (ls : Array Slot), Is S ad o0 a0 8 → Is S ad os0 as0 8 → Wd G cA S D ad A s H locs → lv_has ls 6 [(0, .ref a0), (1, .int x1), (2, .int x2), (3, .int x3), (4, .int x4), (5, .int x5)] → f_X9_goTo_384 S k277 o0 x1 x2 x3 x4 x5 os0 xs1 xs2 xs3 xs4 xs5 D = some (r, D') → W p l e R s m args below meth c H locs 0 0 (MQ below (Qn none True (wpost G cA S D' ad A) A) args s 0 0 A) (F0 m 384 ls [.int xs5, .long xs4, .long xs3, .int xs2, .int xs1, .ref as0]) := by
  obtain ⟨hx, hb, -⟩ := id hC
  intro o0 a0 x1 x2 x3 x4 x5 os0 as0 xs1 xs2 xs3 xs4 xs5 D H locs ls hi0 his0 hw hl h
  unfold f_X9_goTo_384 at h
  refine lv_iload_n hx hb dX9_goTo_384 rfl (lv_at hl 2 rfl) ?_
  refine lv_if_eq (tgt := 398) hx hb dX9_goTo_385 (by decide) (fun c370 => ?_) (fun c370 => ?_)
  · have h := i_yes c370 h
    refine lv_aload_n hx hb dX9_goTo_398 rfl (lv_at hl 0 rfl) ?_
    obtain ⟨o371, ho374, h⟩ := rq_i h
    refine r_getR hC hw kc_8 hi0 39 rfl lk_1111 dX9_goTo_399 rfl ho374 (fun a372 hi373 => ?_)
    refine lv_iload hx hb dX9_goTo_402 (lv_at hl 4 rfl) ?_
    obtain ⟨hn375, h⟩ := ix_i h
    refine r_iald hC hw hi373 hn375 dX9_goTo_404 ?_
    exact w_X9_goTo_405 hC hR hk277 o0 a0 x1 x2 x3 x4 x5 os0 as0 xs1 xs2 xs3 xs4 xs5 (gI D o371 x4.toNatClampNeg) _ _ _ _ hi0 his0 hw (lv_sub hl [0, 1, 2, 3, 4, 5] rfl) h
  · have h := i_no c370 h
    refine lv_aload_n hx hb dX9_goTo_388 rfl (lv_at hl 0 rfl) ?_
    obtain ⟨o376, ho379, h⟩ := rq_i h
    refine r_getR hC hw kc_8 hi0 44 rfl lk_1116 dX9_goTo_389 rfl ho379 (fun a377 hi378 => ?_)
    refine lv_iload hx hb dX9_goTo_392 (lv_at hl 5 rfl) ?_
    obtain ⟨hn380, h⟩ := ix_i h
    refine r_iald hC hw hi378 hn380 dX9_goTo_394 ?_
    refine lv_goto (tgt := 405) hx hb dX9_goTo_395 (by decide) ?_
    exact w_X9_goTo_405 hC hR hk277 o0 a0 x1 x2 x3 x4 x5 os0 as0 xs1 xs2 xs3 xs4 xs5 (gI D o376 x5.toNatClampNeg) _ _ _ _ hi0 his0 hw (lv_sub hl [0, 1, 2, 3, 4, 5] rfl) h
set_option maxHeartbeats 4000000 in
set_option maxRecDepth 100000 in
theorem w_X9_goTo_363 {r : Unit} {D' : dt} (hC : Cx RX9 cX9_goTo 6 none p s m args meth c) (hR : 3 ≤ R.frames ∧ 74 ≤ R.locals) {k277 : Nat → Int32 → Int32 → Int32 → dt → Option (Unit × dt)} (hk277 : ∀ (o0 a0 : Nat) (x1 : Int32) (x2 : Int32) (x3 : Int32) (D : dt) (H : Heap) (locs : List Loc) (ls : Array Slot), Is S ad o0 a0 8 → Wd G cA S D ad A s H locs → lv_has ls 6 [(0, .ref a0), (1, .int x1), (2, .int x2), (3, .int x3)] → k277 o0 x1 x2 x3 D = some (r, D') → W p l e R s m args below meth c H locs 0 0 (MQ below (Qn none True (wpost G cA S D' ad A) A) args s 0 0 A) (F0 m 277 ls [])) : ∀ (o0 a0 : Nat) (x1 : Int32) (x2 : Int32) (x3 : Int32) (x4 : Int32) (x5 : Int32) (os0 as0 : Nat) (xs1 : Int32) (xs2 : Int32) (xs3 : Int64) (xs4 : Int64) (D : dt) (H : Heap) (locs : List Loc) (ls : Array Slot), Is S ad o0 a0 8 → Is S ad os0 as0 8 → Wd G cA S D ad A s H locs → lv_has ls 6 [(0, .ref a0), (1, .int x1), (2, .int x2), (3, .int x3), (4, .int x4), (5, .int x5)] → f_X9_goTo_363 S k277 o0 x1 x2 x3 x4 x5 os0 xs1 xs2 xs3 xs4 D = some (r, D') → W p l e R s m args below meth c H locs 0 0 (MQ below (Qn none True (wpost G cA S D' ad A) A) args s 0 0 A) (F0 m 363 ls [.long xs4, .long xs3, .int xs2, .int xs1, .ref as0]) := by
  obtain ⟨hx, hb, -⟩ := id hC
  intro o0 a0 x1 x2 x3 x4 x5 os0 as0 xs1 xs2 xs3 xs4 D H locs ls hi0 his0 hw hl h
  unfold f_X9_goTo_363 at h
  refine lv_iload_n hx hb dX9_goTo_363 rfl (lv_at hl 2 rfl) ?_
  refine lv_if_eq (tgt := 377) hx hb dX9_goTo_364 (by decide) (fun c381 => ?_) (fun c381 => ?_)
  · have h := i_yes c381 h
    refine lv_aload_n hx hb dX9_goTo_377 rfl (lv_at hl 0 rfl) ?_
    obtain ⟨o382, ho385, h⟩ := rq_i h
    refine r_getR hC hw kc_8 hi0 38 rfl lk_1110 dX9_goTo_378 rfl ho385 (fun a383 hi384 => ?_)
    refine lv_iload hx hb dX9_goTo_381 (lv_at hl 4 rfl) ?_
    obtain ⟨hn386, h⟩ := ix_i h
    refine r_iald hC hw hi384 hn386 dX9_goTo_383 ?_
    exact w_X9_goTo_384 hC hR hk277 o0 a0 x1 x2 x3 x4 x5 os0 as0 xs1 xs2 xs3 xs4 (gI D o382 x4.toNatClampNeg) _ _ _ _ hi0 his0 hw (lv_sub hl [0, 1, 2, 3, 4, 5] rfl) h
  · have h := i_no c381 h
    refine lv_aload_n hx hb dX9_goTo_367 rfl (lv_at hl 0 rfl) ?_
    obtain ⟨o387, ho390, h⟩ := rq_i h
    refine r_getR hC hw kc_8 hi0 43 rfl lk_1115 dX9_goTo_368 rfl ho390 (fun a388 hi389 => ?_)
    refine lv_iload hx hb dX9_goTo_371 (lv_at hl 5 rfl) ?_
    obtain ⟨hn391, h⟩ := ix_i h
    refine r_iald hC hw hi389 hn391 dX9_goTo_373 ?_
    refine lv_goto (tgt := 384) hx hb dX9_goTo_374 (by decide) ?_
    exact w_X9_goTo_384 hC hR hk277 o0 a0 x1 x2 x3 x4 x5 os0 as0 xs1 xs2 xs3 xs4 (gI D o387 x5.toNatClampNeg) _ _ _ _ hi0 his0 hw (lv_sub hl [0, 1, 2, 3, 4, 5] rfl) h
set_option maxHeartbeats 4000000 in
set_option maxRecDepth 100000 in
theorem w_X9_goTo_342 {r : Unit} {D' : dt} (hC : Cx RX9 cX9_goTo 6 none p s m args meth c) (hR : 3 ≤ R.frames ∧ 74 ≤ R.locals) {k277 : Nat → Int32 → Int32 → Int32 → dt → Option (Unit × dt)} (hk277 : ∀ (o0 a0 : Nat) (x1 : Int32) (x2 : Int32) (x3 : Int32) (D : dt) (H : Heap) (locs : List Loc) (ls : Array Slot), Is S ad o0 a0 8 → Wd G cA S D ad A s H locs → lv_has ls 6 [(0, .ref a0), (1, .int x1), (2, .int x2), (3, .int x3)] → k277 o0 x1 x2 x3 D = some (r, D') → W p l e R s m args below meth c H locs 0 0 (MQ below (Qn none True (wpost G cA S D' ad A) A) args s 0 0 A) (F0 m 277 ls [])) : ∀ (o0 a0 : Nat) (x1 : Int32) (x2 : Int32) (x3 : Int32) (x4 : Int32) (x5 : Int32) (os0 as0 : Nat) (xs1 : Int32) (xs2 : Int32) (xs3 : Int64) (D : dt) (H : Heap) (locs : List Loc) (ls : Array Slot), Is S ad o0 a0 8 → Is S ad os0 as0 8 → Wd G cA S D ad A s H locs → lv_has ls 6 [(0, .ref a0), (1, .int x1), (2, .int x2), (3, .int x3), (4, .int x4), (5, .int x5)] → f_X9_goTo_342 S k277 o0 x1 x2 x3 x4 x5 os0 xs1 xs2 xs3 D = some (r, D') → W p l e R s m args below meth c H locs 0 0 (MQ below (Qn none True (wpost G cA S D' ad A) A) args s 0 0 A) (F0 m 342 ls [.long xs3, .int xs2, .int xs1, .ref as0]) := by
  obtain ⟨hx, hb, -⟩ := id hC
  intro o0 a0 x1 x2 x3 x4 x5 os0 as0 xs1 xs2 xs3 D H locs ls hi0 his0 hw hl h
  unfold f_X9_goTo_342 at h
  refine lv_iload_n hx hb dX9_goTo_342 rfl (lv_at hl 2 rfl) ?_
  refine lv_if_eq (tgt := 356) hx hb dX9_goTo_343 (by decide) (fun c392 => ?_) (fun c392 => ?_)
  · have h := i_yes c392 h
    refine lv_aload_n hx hb dX9_goTo_356 rfl (lv_at hl 0 rfl) ?_
    obtain ⟨o393, ho396, h⟩ := rq_i h
    refine r_getR hC hw kc_8 hi0 37 rfl lk_1109 dX9_goTo_357 rfl ho396 (fun a394 hi395 => ?_)
    refine lv_iload hx hb dX9_goTo_360 (lv_at hl 4 rfl) ?_
    obtain ⟨hn397, h⟩ := ix_i h
    refine r_lald hC hw hi395 hn397 dX9_goTo_362 ?_
    exact w_X9_goTo_363 hC hR hk277 o0 a0 x1 x2 x3 x4 x5 os0 as0 xs1 xs2 xs3 (gL D o393 x4.toNatClampNeg) _ _ _ _ hi0 his0 hw (lv_sub hl [0, 1, 2, 3, 4, 5] rfl) h
  · have h := i_no c392 h
    refine lv_aload_n hx hb dX9_goTo_346 rfl (lv_at hl 0 rfl) ?_
    obtain ⟨o398, ho401, h⟩ := rq_i h
    refine r_getR hC hw kc_8 hi0 42 rfl lk_1114 dX9_goTo_347 rfl ho401 (fun a399 hi400 => ?_)
    refine lv_iload hx hb dX9_goTo_350 (lv_at hl 5 rfl) ?_
    obtain ⟨hn402, h⟩ := ix_i h
    refine r_lald hC hw hi400 hn402 dX9_goTo_352 ?_
    refine lv_goto (tgt := 363) hx hb dX9_goTo_353 (by decide) ?_
    exact w_X9_goTo_363 hC hR hk277 o0 a0 x1 x2 x3 x4 x5 os0 as0 xs1 xs2 xs3 (gL D o398 x5.toNatClampNeg) _ _ _ _ hi0 his0 hw (lv_sub hl [0, 1, 2, 3, 4, 5] rfl) h
set_option maxHeartbeats 4000000 in
set_option maxRecDepth 100000 in
theorem w_X9_goTo_321 {r : Unit} {D' : dt} (hC : Cx RX9 cX9_goTo 6 none p s m args meth c) (hR : 3 ≤ R.frames ∧ 74 ≤ R.locals) {k277 : Nat → Int32 → Int32 → Int32 → dt → Option (Unit × dt)} (hk277 : ∀ (o0 a0 : Nat) (x1 : Int32) (x2 : Int32) (x3 : Int32) (D : dt) (H : Heap) (locs : List Loc) (ls : Array Slot), Is S ad o0 a0 8 → Wd G cA S D ad A s H locs → lv_has ls 6 [(0, .ref a0), (1, .int x1), (2, .int x2), (3, .int x3)] → k277 o0 x1 x2 x3 D = some (r, D') → W p l e R s m args below meth c H locs 0 0 (MQ below (Qn none True (wpost G cA S D' ad A) A) args s 0 0 A) (F0 m 277 ls [])) : ∀ (o0 a0 : Nat) (x1 : Int32) (x2 : Int32) (x3 : Int32) (x4 : Int32) (x5 : Int32) (os0 as0 : Nat) (xs1 : Int32) (xs2 : Int32) (D : dt) (H : Heap) (locs : List Loc) (ls : Array Slot), Is S ad o0 a0 8 → Is S ad os0 as0 8 → Wd G cA S D ad A s H locs → lv_has ls 6 [(0, .ref a0), (1, .int x1), (2, .int x2), (3, .int x3), (4, .int x4), (5, .int x5)] → f_X9_goTo_321 S k277 o0 x1 x2 x3 x4 x5 os0 xs1 xs2 D = some (r, D') → W p l e R s m args below meth c H locs 0 0 (MQ below (Qn none True (wpost G cA S D' ad A) A) args s 0 0 A) (F0 m 321 ls [.int xs2, .int xs1, .ref as0]) := by
  obtain ⟨hx, hb, -⟩ := id hC
  intro o0 a0 x1 x2 x3 x4 x5 os0 as0 xs1 xs2 D H locs ls hi0 his0 hw hl h
  unfold f_X9_goTo_321 at h
  refine lv_iload_n hx hb dX9_goTo_321 rfl (lv_at hl 2 rfl) ?_
  refine lv_if_eq (tgt := 335) hx hb dX9_goTo_322 (by decide) (fun c403 => ?_) (fun c403 => ?_)
  · have h := i_yes c403 h
    refine lv_aload_n hx hb dX9_goTo_335 rfl (lv_at hl 0 rfl) ?_
    obtain ⟨o404, ho407, h⟩ := rq_i h
    refine r_getR hC hw kc_8 hi0 36 rfl lk_1108 dX9_goTo_336 rfl ho407 (fun a405 hi406 => ?_)
    refine lv_iload hx hb dX9_goTo_339 (lv_at hl 4 rfl) ?_
    obtain ⟨hn408, h⟩ := ix_i h
    refine r_lald hC hw hi406 hn408 dX9_goTo_341 ?_
    exact w_X9_goTo_342 hC hR hk277 o0 a0 x1 x2 x3 x4 x5 os0 as0 xs1 xs2 (gL D o404 x4.toNatClampNeg) _ _ _ _ hi0 his0 hw (lv_sub hl [0, 1, 2, 3, 4, 5] rfl) h
  · have h := i_no c403 h
    refine lv_aload_n hx hb dX9_goTo_325 rfl (lv_at hl 0 rfl) ?_
    obtain ⟨o409, ho412, h⟩ := rq_i h
    refine r_getR hC hw kc_8 hi0 41 rfl lk_1113 dX9_goTo_326 rfl ho412 (fun a410 hi411 => ?_)
    refine lv_iload hx hb dX9_goTo_329 (lv_at hl 5 rfl) ?_
    obtain ⟨hn413, h⟩ := ix_i h
    refine r_lald hC hw hi411 hn413 dX9_goTo_331 ?_
    refine lv_goto (tgt := 342) hx hb dX9_goTo_332 (by decide) ?_
    exact w_X9_goTo_342 hC hR hk277 o0 a0 x1 x2 x3 x4 x5 os0 as0 xs1 xs2 (gL D o409 x5.toNatClampNeg) _ _ _ _ hi0 his0 hw (lv_sub hl [0, 1, 2, 3, 4, 5] rfl) h
set_option maxHeartbeats 4000000 in
set_option maxRecDepth 100000 in
theorem w_X9_goTo_277 {r : Unit} {D' : dt} (hC : Cx RX9 cX9_goTo 6 none p s m args meth c) (hR : 3 ≤ R.frames ∧ 74 ≤ R.locals) : ∀ (n : Nat), ∀ (o0 a0 : Nat) (x1 : Int32) (x2 : Int32) (x3 : Int32) (D : dt) (H : Heap) (locs : List Loc) (ls : Array Slot), Is S ad o0 a0 8 → Wd G cA S D ad A s H locs → lv_has ls 6 [(0, .ref a0), (1, .int x1), (2, .int x2), (3, .int x3)] → f_X9_goTo_277 S n o0 x1 x2 x3 D = some (r, D') → W p l e R s m args below meth c H locs 0 0 (MQ below (Qn none True (wpost G cA S D' ad A) A) args s 0 0 A) (F0 m 277 ls []) := by
  obtain ⟨hx, hb, -⟩ := id hC
  intro n
  induction n with
  | zero =>
    intro o0 a0 x1 x2 x3 D H locs ls hi0 hw hl h
    rw [f_X9_goTo_277.eq_1] at h
    cases h
  | succ n ih =>
    intro o0 a0 x1 x2 x3 D H locs ls hi0 hw hl h
    rw [f_X9_goTo_277.eq_2] at h
    refine lv_iload_n hx hb dX9_goTo_277 rfl (lv_at hl 3 rfl) ?_
    refine lv_bipush (v := 64) hx hb dX9_goTo_278 (by decide) ?_
    refine lv_icmp_ge (tgt := 517) hx hb dX9_goTo_280 (by decide) (fun c414 => ?_) (fun c414 => ?_)
    · have h := i_yes c414 h
      refine lv_iconst (v := 0) hx hb dX9_goTo_517 (by decide) ?_
      refine lv_topi (fun y415 ey415 => ?_)
      have h := nm_i h y415 ey415
      refine lv_istore_n (lv' := [(3, .int y415), (0, .ref a0), (1, .int x1), (2, .int x2)]) hx hb dX9_goTo_518 rfl hl (by decide) rfl (fun ls hl => ?_)
      exact w_X9_goTo_519 hC hR LF o0 a0 x1 x2 y415 _ _ _ _ hi0 hw (lv_sub hl [1, 2, 3, 0] rfl) h
    · have h := i_no c414 h
      refine lv_bipush (v := 64) hx hb dX9_goTo_283 (by decide) ?_
      refine lv_iload_n hx hb dX9_goTo_285 rfl (lv_at hl 1 rfl) ?_
      refine lv_imul hx hb dX9_goTo_286 ?_
      refine lv_iload_n hx hb dX9_goTo_287 rfl (lv_at hl 3 rfl) ?_
      refine lv_iadd hx hb dX9_goTo_288 ?_
      refine lv_topi (fun y416 ey416 => ?_)
      have h := nm_i h y416 ey416
      refine lv_istore (lv' := [(4, .int y416), (0, .ref a0), (1, .int x1), (2, .int x2), (3, .int x3)]) hx hb dX9_goTo_289 hl (by decide) rfl (fun ls hl => ?_)
      refine lv_bipush (v := 11) hx hb dX9_goTo_291 (by decide) ?_
      refine lv_iload_n hx hb dX9_goTo_293 rfl (lv_at hl 4 rfl) ?_
      refine lv_iadd hx hb dX9_goTo_294 ?_
      refine lv_topi (fun y417 ey417 => ?_)
      have h := nm_i h y417 ey417
      refine lv_istore (lv' := [(5, .int y417), (4, .int y416), (0, .ref a0), (1, .int x1), (2, .int x2), (3, .int x3)]) hx hb dX9_goTo_295 hl (by decide) rfl (fun ls hl => ?_)
      refine lv_aload_n hx hb dX9_goTo_297 rfl (lv_at hl 2 rfl) ?_
      refine lv_iload hx hb dX9_goTo_298 (lv_at hl 0 rfl) ?_
      refine lv_iload_n hx hb dX9_goTo_300 rfl (lv_at hl 4 rfl) ?_
      refine lv_if_eq (tgt := 314) hx hb dX9_goTo_301 (by decide) (fun c418 => ?_) (fun c418 => ?_)
      · have h := i_yes c418 h
        refine lv_aload_n hx hb dX9_goTo_314 rfl (lv_at hl 2 rfl) ?_
        obtain ⟨o419, ho422, h⟩ := rq_i h
        refine r_getR hC hw kc_8 hi0 35 rfl lk_1107 dX9_goTo_315 rfl ho422 (fun a420 hi421 => ?_)
        refine lv_iload hx hb dX9_goTo_318 (lv_at hl 1 rfl) ?_
        obtain ⟨hn423, h⟩ := ix_i h
        refine r_iald hC hw hi421 hn423 dX9_goTo_320 ?_
        exact w_X9_goTo_321 hC hR ih o0 a0 x1 x2 x3 y416 y417 o0 a0 y417 (gI D o419 y416.toNatClampNeg) _ _ _ _ hi0 hi0 hw (lv_sub hl [2, 3, 4, 5, 1, 0] rfl) h
      · have h := i_no c418 h
        refine lv_aload_n hx hb dX9_goTo_304 rfl (lv_at hl 2 rfl) ?_
        obtain ⟨o424, ho427, h⟩ := rq_i h
        refine r_getR hC hw kc_8 hi0 40 rfl lk_1112 dX9_goTo_305 rfl ho427 (fun a425 hi426 => ?_)
        refine lv_iload hx hb dX9_goTo_308 (lv_at hl 0 rfl) ?_
        obtain ⟨hn428, h⟩ := ix_i h
        refine r_iald hC hw hi426 hn428 dX9_goTo_310 ?_
        refine lv_goto (tgt := 321) hx hb dX9_goTo_311 (by decide) ?_
        exact w_X9_goTo_321 hC hR ih o0 a0 x1 x2 x3 y416 y417 o0 a0 y417 (gI D o424 y417.toNatClampNeg) _ _ _ _ hi0 hi0 hw (lv_sub hl [2, 3, 4, 5, 1, 0] rfl) h
set_option maxHeartbeats 4000000 in
set_option maxRecDepth 100000 in
theorem w_X9_goTo_268 {r : Unit} {D' : dt} (hC : Cx RX9 cX9_goTo 6 none p s m args meth c) (hR : 3 ≤ R.frames ∧ 74 ≤ R.locals) {k24 : Nat → Int32 → Int32 → Int32 → dt → Option (Unit × dt)} (hk24 : ∀ (o0 a0 : Nat) (x1 : Int32) (x2 : Int32) (x3 : Int32) (D : dt) (H : Heap) (locs : List Loc) (ls : Array Slot), Is S ad o0 a0 8 → Wd G cA S D ad A s H locs → lv_has ls 6 [(0, .ref a0), (1, .int x1), (2, .int x2), (3, .int x3)] → k24 o0 x1 x2 x3 D = some (r, D') → W p l e R s m args below meth c H locs 0 0 (MQ below (Qn none True (wpost G cA S D' ad A) A) args s 0 0 A) (F0 m 24 ls [])) : ∀ (o0 a0 : Nat) (x1 : Int32) (x2 : Int32) (x3 : Int32) (os0 as0 : Nat) (xs1 : Int32) (xs2 : Int32) (D : dt) (H : Heap) (locs : List Loc) (ls : Array Slot), Is S ad o0 a0 8 → Is S ad os0 as0 100 → Wd G cA S D ad A s H locs → lv_has ls 6 [(0, .ref a0), (1, .int x1), (2, .int x2), (3, .int x3)] → f_X9_goTo_268 S k24 o0 x1 x2 x3 os0 xs1 xs2 D = some (r, D') → W p l e R s m args below meth c H locs 0 0 (MQ below (Qn none True (wpost G cA S D' ad A) A) args s 0 0 A) (F0 m 268 ls [.int xs2, .int xs1, .ref as0]) := by
  obtain ⟨hx, hb, -⟩ := id hC
  intro o0 a0 x1 x2 x3 os0 as0 xs1 xs2 D H locs ls hi0 his0 hw hl h
  unfold f_X9_goTo_268 at h
  obtain ⟨hn429, h⟩ := ix_i h
  refine r_ias hC hw his0 hn429 dX9_goTo_268 (fun D430 eD430 H locs hw => ?_)
  have h := nm_i h D430 eD430
  obtain ⟨y431, ey431⟩ : ∃ z : Int32, z = x3 + 1 := ⟨_, rfl⟩
  have h := nm_i h y431 ey431
  refine lv_iinc (v := y431) (lv' := [(3, .int y431), (0, .ref a0), (1, .int x1), (2, .int x2)]) hx hb dX9_goTo_269 hl (k := 3) rfl (by rw [ey431]; rfl) (by decide) rfl (fun ls hl => ?_)
  refine lv_goto (tgt := 24) hx hb dX9_goTo_272 (by decide) ?_
  exact hk24 o0 a0 x1 x2 y431 _ _ _ _ hi0 hw (lv_sub hl [1, 2, 3, 0] rfl) h
set_option maxHeartbeats 4000000 in
set_option maxRecDepth 100000 in
theorem w_X9_goTo_241 {r : Unit} {D' : dt} (hC : Cx RX9 cX9_goTo 6 none p s m args meth c) (hR : 3 ≤ R.frames ∧ 74 ≤ R.locals) {k24 : Nat → Int32 → Int32 → Int32 → dt → Option (Unit × dt)} (hk24 : ∀ (o0 a0 : Nat) (x1 : Int32) (x2 : Int32) (x3 : Int32) (D : dt) (H : Heap) (locs : List Loc) (ls : Array Slot), Is S ad o0 a0 8 → Wd G cA S D ad A s H locs → lv_has ls 6 [(0, .ref a0), (1, .int x1), (2, .int x2), (3, .int x3)] → k24 o0 x1 x2 x3 D = some (r, D') → W p l e R s m args below meth c H locs 0 0 (MQ below (Qn none True (wpost G cA S D' ad A) A) args s 0 0 A) (F0 m 24 ls [])) : ∀ (o0 a0 : Nat) (x1 : Int32) (x2 : Int32) (x3 : Int32) (x4 : Int32) (os0 as0 : Nat) (xs1 : Int32) (xs2 : Int32) (D : dt) (H : Heap) (locs : List Loc) (ls : Array Slot), Is S ad o0 a0 8 → Is S ad os0 as0 100 → Wd G cA S D ad A s H locs → lv_has ls 6 [(0, .ref a0), (1, .int x1), (2, .int x2), (3, .int x3), (4, .int x4)] → f_X9_goTo_241 S k24 o0 x1 x2 x3 x4 os0 xs1 xs2 D = some (r, D') → W p l e R s m args below meth c H locs 0 0 (MQ below (Qn none True (wpost G cA S D' ad A) A) args s 0 0 A) (F0 m 241 ls [.int xs2, .int xs1, .ref as0]) := by
  obtain ⟨hx, hb, -⟩ := id hC
  intro o0 a0 x1 x2 x3 x4 os0 as0 xs1 xs2 D H locs ls hi0 his0 hw hl h
  unfold f_X9_goTo_241 at h
  obtain ⟨hn432, h⟩ := ix_i h
  refine r_ias hC hw his0 hn432 dX9_goTo_241 (fun D433 eD433 H locs hw => ?_)
  have h := nm_i h D433 eD433
  refine lv_aload_n hx hb dX9_goTo_242 rfl (lv_at hl 0 rfl) ?_
  obtain ⟨o434, ho437, h⟩ := rq_i h
  refine r_getR hC hw kc_8 hi0 33 rfl lk_1105 dX9_goTo_243 rfl ho437 (fun a435 hi436 => ?_)
  refine lv_iload hx hb dX9_goTo_246 (lv_at hl 4 rfl) ?_
  refine lv_aload_n hx hb dX9_goTo_248 rfl (lv_at hl 0 rfl) ?_
  obtain ⟨o438, ho441, h⟩ := rq_i h
  refine r_getR hC hw kc_8 hi0 29 rfl lk_1101 dX9_goTo_249 rfl ho441 (fun a439 hi440 => ?_)
  refine lv_iload hx hb dX9_goTo_252 (lv_at hl 4 rfl) ?_
  obtain ⟨hn442, h⟩ := ix_i h
  refine r_iald hC hw hi440 hn442 dX9_goTo_254 ?_
  refine lv_if_ne (tgt := 262) hx hb dX9_goTo_255 (by decide) (fun c443 => ?_) (fun c443 => ?_)
  · have h := i_no c443 h
    refine lv_aload_n hx hb dX9_goTo_262 rfl (lv_at hl 0 rfl) ?_
    obtain ⟨o444, ho447, h⟩ := rq_i h
    refine r_getR hC hw kc_8 hi0 44 rfl lk_1116 dX9_goTo_263 rfl ho447 (fun a445 hi446 => ?_)
    refine lv_iload_n hx hb dX9_goTo_266 rfl (lv_at hl 3 rfl) ?_
    obtain ⟨hn448, h⟩ := ix_i h
    refine r_iald hC hw hi446 hn448 dX9_goTo_267 ?_
    exact w_X9_goTo_268 hC hR hk24 o0 a0 x1 x2 x3 o434 a435 x4 (gI D433 o444 x3.toNatClampNeg) _ _ _ _ hi0 hi436 hw (lv_sub hl [0, 1, 2, 3] rfl) h
  · have h := i_yes c443 h
    refine lv_iconst (v := 0) hx hb dX9_goTo_258 (by decide) ?_
    refine lv_goto (tgt := 268) hx hb dX9_goTo_259 (by decide) ?_
    exact w_X9_goTo_268 hC hR hk24 o0 a0 x1 x2 x3 o434 a435 x4 (0 : Int32) _ _ _ _ hi0 hi436 hw (lv_sub hl [0, 1, 2, 3] rfl) h
set_option maxHeartbeats 4000000 in
set_option maxRecDepth 100000 in
theorem w_X9_goTo_214 {r : Unit} {D' : dt} (hC : Cx RX9 cX9_goTo 6 none p s m args meth c) (hR : 3 ≤ R.frames ∧ 74 ≤ R.locals) {k24 : Nat → Int32 → Int32 → Int32 → dt → Option (Unit × dt)} (hk24 : ∀ (o0 a0 : Nat) (x1 : Int32) (x2 : Int32) (x3 : Int32) (D : dt) (H : Heap) (locs : List Loc) (ls : Array Slot), Is S ad o0 a0 8 → Wd G cA S D ad A s H locs → lv_has ls 6 [(0, .ref a0), (1, .int x1), (2, .int x2), (3, .int x3)] → k24 o0 x1 x2 x3 D = some (r, D') → W p l e R s m args below meth c H locs 0 0 (MQ below (Qn none True (wpost G cA S D' ad A) A) args s 0 0 A) (F0 m 24 ls [])) : ∀ (o0 a0 : Nat) (x1 : Int32) (x2 : Int32) (x3 : Int32) (x4 : Int32) (os0 as0 : Nat) (xs1 : Int32) (xs2 : Int64) (D : dt) (H : Heap) (locs : List Loc) (ls : Array Slot), Is S ad o0 a0 8 → Is S ad os0 as0 101 → Wd G cA S D ad A s H locs → lv_has ls 6 [(0, .ref a0), (1, .int x1), (2, .int x2), (3, .int x3), (4, .int x4)] → f_X9_goTo_214 S k24 o0 x1 x2 x3 x4 os0 xs1 xs2 D = some (r, D') → W p l e R s m args below meth c H locs 0 0 (MQ below (Qn none True (wpost G cA S D' ad A) A) args s 0 0 A) (F0 m 214 ls [.long xs2, .int xs1, .ref as0]) := by
  obtain ⟨hx, hb, -⟩ := id hC
  intro o0 a0 x1 x2 x3 x4 os0 as0 xs1 xs2 D H locs ls hi0 his0 hw hl h
  unfold f_X9_goTo_214 at h
  obtain ⟨hn449, h⟩ := ix_i h
  refine r_las hC hw his0 hn449 dX9_goTo_214 (fun D450 eD450 H locs hw => ?_)
  have h := nm_i h D450 eD450
  refine lv_aload_n hx hb dX9_goTo_215 rfl (lv_at hl 0 rfl) ?_
  obtain ⟨o451, ho454, h⟩ := rq_i h
  refine r_getR hC hw kc_8 hi0 32 rfl lk_1104 dX9_goTo_216 rfl ho454 (fun a452 hi453 => ?_)
  refine lv_iload hx hb dX9_goTo_219 (lv_at hl 4 rfl) ?_
  refine lv_aload_n hx hb dX9_goTo_221 rfl (lv_at hl 0 rfl) ?_
  obtain ⟨o455, ho458, h⟩ := rq_i h
  refine r_getR hC hw kc_8 hi0 29 rfl lk_1101 dX9_goTo_222 rfl ho458 (fun a456 hi457 => ?_)
  refine lv_iload hx hb dX9_goTo_225 (lv_at hl 4 rfl) ?_
  obtain ⟨hn459, h⟩ := ix_i h
  refine r_iald hC hw hi457 hn459 dX9_goTo_227 ?_
  refine lv_if_ne (tgt := 235) hx hb dX9_goTo_228 (by decide) (fun c460 => ?_) (fun c460 => ?_)
  · have h := i_no c460 h
    refine lv_aload_n hx hb dX9_goTo_235 rfl (lv_at hl 0 rfl) ?_
    obtain ⟨o461, ho464, h⟩ := rq_i h
    refine r_getR hC hw kc_8 hi0 43 rfl lk_1115 dX9_goTo_236 rfl ho464 (fun a462 hi463 => ?_)
    refine lv_iload_n hx hb dX9_goTo_239 rfl (lv_at hl 3 rfl) ?_
    obtain ⟨hn465, h⟩ := ix_i h
    refine r_iald hC hw hi463 hn465 dX9_goTo_240 ?_
    exact w_X9_goTo_241 hC hR hk24 o0 a0 x1 x2 x3 x4 o451 a452 x4 (gI D450 o461 x3.toNatClampNeg) _ _ _ _ hi0 hi453 hw (lv_sub hl [0, 1, 2, 3, 4] rfl) h
  · have h := i_yes c460 h
    refine lv_iconst (v := 0) hx hb dX9_goTo_231 (by decide) ?_
    refine lv_goto (tgt := 241) hx hb dX9_goTo_232 (by decide) ?_
    exact w_X9_goTo_241 hC hR hk24 o0 a0 x1 x2 x3 x4 o451 a452 x4 (0 : Int32) _ _ _ _ hi0 hi453 hw (lv_sub hl [0, 1, 2, 3, 4] rfl) h
set_option maxHeartbeats 4000000 in
set_option maxRecDepth 100000 in
theorem w_X9_goTo_190 {r : Unit} {D' : dt} (hC : Cx RX9 cX9_goTo 6 none p s m args meth c) (hR : 3 ≤ R.frames ∧ 74 ≤ R.locals) {k24 : Nat → Int32 → Int32 → Int32 → dt → Option (Unit × dt)} (hk24 : ∀ (o0 a0 : Nat) (x1 : Int32) (x2 : Int32) (x3 : Int32) (D : dt) (H : Heap) (locs : List Loc) (ls : Array Slot), Is S ad o0 a0 8 → Wd G cA S D ad A s H locs → lv_has ls 6 [(0, .ref a0), (1, .int x1), (2, .int x2), (3, .int x3)] → k24 o0 x1 x2 x3 D = some (r, D') → W p l e R s m args below meth c H locs 0 0 (MQ below (Qn none True (wpost G cA S D' ad A) A) args s 0 0 A) (F0 m 24 ls [])) : ∀ (o0 a0 : Nat) (x1 : Int32) (x2 : Int32) (x3 : Int32) (x4 : Int32) (os0 as0 : Nat) (xs1 : Int32) (xs2 : Int64) (D : dt) (H : Heap) (locs : List Loc) (ls : Array Slot), Is S ad o0 a0 8 → Is S ad os0 as0 101 → Wd G cA S D ad A s H locs → lv_has ls 6 [(0, .ref a0), (1, .int x1), (2, .int x2), (3, .int x3), (4, .int x4)] → f_X9_goTo_190 S k24 o0 x1 x2 x3 x4 os0 xs1 xs2 D = some (r, D') → W p l e R s m args below meth c H locs 0 0 (MQ below (Qn none True (wpost G cA S D' ad A) A) args s 0 0 A) (F0 m 190 ls [.long xs2, .int xs1, .ref as0]) := by
  obtain ⟨hx, hb, -⟩ := id hC
  intro o0 a0 x1 x2 x3 x4 os0 as0 xs1 xs2 D H locs ls hi0 his0 hw hl h
  unfold f_X9_goTo_190 at h
  obtain ⟨hn466, h⟩ := ix_i h
  refine r_las hC hw his0 hn466 dX9_goTo_190 (fun D467 eD467 H locs hw => ?_)
  have h := nm_i h D467 eD467
  refine lv_aload_n hx hb dX9_goTo_191 rfl (lv_at hl 0 rfl) ?_
  obtain ⟨o468, ho471, h⟩ := rq_i h
  refine r_getR hC hw kc_8 hi0 31 rfl lk_1103 dX9_goTo_192 rfl ho471 (fun a469 hi470 => ?_)
  refine lv_iload hx hb dX9_goTo_195 (lv_at hl 4 rfl) ?_
  refine lv_iload_n hx hb dX9_goTo_197 rfl (lv_at hl 2 rfl) ?_
  refine lv_if_eq (tgt := 210) hx hb dX9_goTo_198 (by decide) (fun c472 => ?_) (fun c472 => ?_)
  · have h := i_yes c472 h
    refine lv_aload_n hx hb dX9_goTo_210 rfl (lv_at hl 0 rfl) ?_
    refine r_gL hC hw kc_8 hi0 49 rfl lk_1121 dX9_goTo_211 ?_
    exact w_X9_goTo_214 hC hR hk24 o0 a0 x1 x2 x3 x4 o468 a469 x4 (gL D467 o0 49) _ _ _ _ hi0 hi470 hw (lv_sub hl [0, 1, 2, 3, 4] rfl) h
  · have h := i_no c472 h
    refine lv_aload_n hx hb dX9_goTo_201 rfl (lv_at hl 0 rfl) ?_
    obtain ⟨o473, ho476, h⟩ := rq_i h
    refine r_getR hC hw kc_8 hi0 42 rfl lk_1114 dX9_goTo_202 rfl ho476 (fun a474 hi475 => ?_)
    refine lv_iload_n hx hb dX9_goTo_205 rfl (lv_at hl 3 rfl) ?_
    obtain ⟨hn477, h⟩ := ix_i h
    refine r_lald hC hw hi475 hn477 dX9_goTo_206 ?_
    refine lv_goto (tgt := 214) hx hb dX9_goTo_207 (by decide) ?_
    exact w_X9_goTo_214 hC hR hk24 o0 a0 x1 x2 x3 x4 o468 a469 x4 (gL D467 o473 x3.toNatClampNeg) _ _ _ _ hi0 hi470 hw (lv_sub hl [0, 1, 2, 3, 4] rfl) h
set_option maxHeartbeats 4000000 in
set_option maxRecDepth 100000 in
theorem w_X9_goTo_166 {r : Unit} {D' : dt} (hC : Cx RX9 cX9_goTo 6 none p s m args meth c) (hR : 3 ≤ R.frames ∧ 74 ≤ R.locals) {k24 : Nat → Int32 → Int32 → Int32 → dt → Option (Unit × dt)} (hk24 : ∀ (o0 a0 : Nat) (x1 : Int32) (x2 : Int32) (x3 : Int32) (D : dt) (H : Heap) (locs : List Loc) (ls : Array Slot), Is S ad o0 a0 8 → Wd G cA S D ad A s H locs → lv_has ls 6 [(0, .ref a0), (1, .int x1), (2, .int x2), (3, .int x3)] → k24 o0 x1 x2 x3 D = some (r, D') → W p l e R s m args below meth c H locs 0 0 (MQ below (Qn none True (wpost G cA S D' ad A) A) args s 0 0 A) (F0 m 24 ls [])) : ∀ (o0 a0 : Nat) (x1 : Int32) (x2 : Int32) (x3 : Int32) (x4 : Int32) (os0 as0 : Nat) (xs1 : Int32) (xs2 : Int32) (D : dt) (H : Heap) (locs : List Loc) (ls : Array Slot), Is S ad o0 a0 8 → Is S ad os0 as0 100 → Wd G cA S D ad A s H locs → lv_has ls 6 [(0, .ref a0), (1, .int x1), (2, .int x2), (3, .int x3), (4, .int x4)] → f_X9_goTo_166 S k24 o0 x1 x2 x3 x4 os0 xs1 xs2 D = some (r, D') → W p l e R s m args below meth c H locs 0 0 (MQ below (Qn none True (wpost G cA S D' ad A) A) args s 0 0 A) (F0 m 166 ls [.int xs2, .int xs1, .ref as0]) := by
  obtain ⟨hx, hb, -⟩ := id hC
  intro o0 a0 x1 x2 x3 x4 os0 as0 xs1 xs2 D H locs ls hi0 his0 hw hl h
  unfold f_X9_goTo_166 at h
  obtain ⟨hn478, h⟩ := ix_i h
  refine r_ias hC hw his0 hn478 dX9_goTo_166 (fun D479 eD479 H locs hw => ?_)
  have h := nm_i h D479 eD479
  refine lv_aload_n hx hb dX9_goTo_167 rfl (lv_at hl 0 rfl) ?_
  obtain ⟨o480, ho483, h⟩ := rq_i h
  refine r_getR hC hw kc_8 hi0 30 rfl lk_1102 dX9_goTo_168 rfl ho483 (fun a481 hi482 => ?_)
  refine lv_iload hx hb dX9_goTo_171 (lv_at hl 4 rfl) ?_
  refine lv_iload_n hx hb dX9_goTo_173 rfl (lv_at hl 2 rfl) ?_
  refine lv_if_eq (tgt := 186) hx hb dX9_goTo_174 (by decide) (fun c484 => ?_) (fun c484 => ?_)
  · have h := i_yes c484 h
    refine lv_aload_n hx hb dX9_goTo_186 rfl (lv_at hl 0 rfl) ?_
    refine r_gL hC hw kc_8 hi0 48 rfl lk_1120 dX9_goTo_187 ?_
    exact w_X9_goTo_190 hC hR hk24 o0 a0 x1 x2 x3 x4 o480 a481 x4 (gL D479 o0 48) _ _ _ _ hi0 hi482 hw (lv_sub hl [0, 1, 2, 3, 4] rfl) h
  · have h := i_no c484 h
    refine lv_aload_n hx hb dX9_goTo_177 rfl (lv_at hl 0 rfl) ?_
    obtain ⟨o485, ho488, h⟩ := rq_i h
    refine r_getR hC hw kc_8 hi0 41 rfl lk_1113 dX9_goTo_178 rfl ho488 (fun a486 hi487 => ?_)
    refine lv_iload_n hx hb dX9_goTo_181 rfl (lv_at hl 3 rfl) ?_
    obtain ⟨hn489, h⟩ := ix_i h
    refine r_lald hC hw hi487 hn489 dX9_goTo_182 ?_
    refine lv_goto (tgt := 190) hx hb dX9_goTo_183 (by decide) ?_
    exact w_X9_goTo_190 hC hR hk24 o0 a0 x1 x2 x3 x4 o480 a481 x4 (gL D479 o485 x3.toNatClampNeg) _ _ _ _ hi0 hi482 hw (lv_sub hl [0, 1, 2, 3, 4] rfl) h
set_option maxHeartbeats 4000000 in
set_option maxRecDepth 100000 in
theorem w_X9_goTo_140 {r : Unit} {D' : dt} (hC : Cx RX9 cX9_goTo 6 none p s m args meth c) (hR : 3 ≤ R.frames ∧ 74 ≤ R.locals) {k24 : Nat → Int32 → Int32 → Int32 → dt → Option (Unit × dt)} (hk24 : ∀ (o0 a0 : Nat) (x1 : Int32) (x2 : Int32) (x3 : Int32) (D : dt) (H : Heap) (locs : List Loc) (ls : Array Slot), Is S ad o0 a0 8 → Wd G cA S D ad A s H locs → lv_has ls 6 [(0, .ref a0), (1, .int x1), (2, .int x2), (3, .int x3)] → k24 o0 x1 x2 x3 D = some (r, D') → W p l e R s m args below meth c H locs 0 0 (MQ below (Qn none True (wpost G cA S D' ad A) A) args s 0 0 A) (F0 m 24 ls [])) : ∀ (o0 a0 : Nat) (x1 : Int32) (x2 : Int32) (x3 : Int32) (x4 : Int32) (os0 as0 : Nat) (xs1 : Int32) (xs2 : Int32) (xs3 : Int64) (xs4 : Int64) (xs5 : Int32) (xs6 : Int32) (D : dt) (H : Heap) (locs : List Loc) (ls : Array Slot), Is S ad o0 a0 8 → Is S ad os0 as0 8 → Wd G cA S D ad A s H locs → lv_has ls 6 [(0, .ref a0), (1, .int x1), (2, .int x2), (3, .int x3), (4, .int x4)] → f_X9_goTo_140 S k24 o0 x1 x2 x3 x4 os0 xs1 xs2 xs3 xs4 xs5 xs6 D = some (r, D') → W p l e R s m args below meth c H locs 0 0 (MQ below (Qn none True (wpost G cA S D' ad A) A) args s 0 0 A) (F0 m 140 ls [.int xs6, .int xs5, .long xs4, .long xs3, .int xs2, .int xs1, .ref as0]) := by
  obtain ⟨hx, hb, -⟩ := id hC
  intro o0 a0 x1 x2 x3 x4 os0 as0 xs1 xs2 xs3 xs4 xs5 xs6 D H locs ls hi0 his0 hw hl h
  unfold f_X9_goTo_140 at h
  obtain ⟨_, D491, hq490, h⟩ := cq_i h
  refine r_cV (st' := []) [.int xs1, .int xs2, .long xs3, .long xs4, .int xs5, .int xs6] [] hC hw kc_8 his0 (k_X9_join _ his0 hq490) mk_X9_join lk_1462 ⟨Nat.le_trans (by decide) hR.1, Nat.le_trans (by decide) hR.2⟩ ⟨Nat.zero_le _, Nat.zero_le _⟩ rfl hl.1 rfl rfl (Nat.le_of_ble_eq_true rfl) dX9_goTo_140 (fun hP H locs hw => ?_)
  refine lv_aload_n hx hb dX9_goTo_143 rfl (lv_at hl 0 rfl) ?_
  obtain ⟨o492, ho495, h⟩ := rq_i h
  refine r_getR hC hw kc_8 hi0 29 rfl lk_1101 dX9_goTo_144 rfl ho495 (fun a493 hi494 => ?_)
  refine lv_iload hx hb dX9_goTo_147 (lv_at hl 4 rfl) ?_
  refine lv_iload_n hx hb dX9_goTo_149 rfl (lv_at hl 2 rfl) ?_
  refine lv_if_eq (tgt := 162) hx hb dX9_goTo_150 (by decide) (fun c496 => ?_) (fun c496 => ?_)
  · have h := i_yes c496 h
    refine lv_aload_n hx hb dX9_goTo_162 rfl (lv_at hl 0 rfl) ?_
    refine r_gI hC hw kc_8 hi0 47 rfl lk_1119 dX9_goTo_163 ?_
    exact w_X9_goTo_166 hC hR hk24 o0 a0 x1 x2 x3 x4 o492 a493 x4 (gI D491 o0 47) _ _ _ _ hi0 hi494 hw (lv_sub hl [0, 1, 2, 3, 4] rfl) h
  · have h := i_no c496 h
    refine lv_aload_n hx hb dX9_goTo_153 rfl (lv_at hl 0 rfl) ?_
    obtain ⟨o497, ho500, h⟩ := rq_i h
    refine r_getR hC hw kc_8 hi0 40 rfl lk_1112 dX9_goTo_154 rfl ho500 (fun a498 hi499 => ?_)
    refine lv_iload_n hx hb dX9_goTo_157 rfl (lv_at hl 3 rfl) ?_
    obtain ⟨hn501, h⟩ := ix_i h
    refine r_iald hC hw hi499 hn501 dX9_goTo_158 ?_
    refine lv_goto (tgt := 166) hx hb dX9_goTo_159 (by decide) ?_
    exact w_X9_goTo_166 hC hR hk24 o0 a0 x1 x2 x3 x4 o492 a493 x4 (gI D491 o497 x3.toNatClampNeg) _ _ _ _ hi0 hi494 hw (lv_sub hl [0, 1, 2, 3, 4] rfl) h
set_option maxHeartbeats 4000000 in
set_option maxRecDepth 100000 in
theorem w_X9_goTo_120 {r : Unit} {D' : dt} (hC : Cx RX9 cX9_goTo 6 none p s m args meth c) (hR : 3 ≤ R.frames ∧ 74 ≤ R.locals) {k24 : Nat → Int32 → Int32 → Int32 → dt → Option (Unit × dt)} (hk24 : ∀ (o0 a0 : Nat) (x1 : Int32) (x2 : Int32) (x3 : Int32) (D : dt) (H : Heap) (locs : List Loc) (ls : Array Slot), Is S ad o0 a0 8 → Wd G cA S D ad A s H locs → lv_has ls 6 [(0, .ref a0), (1, .int x1), (2, .int x2), (3, .int x3)] → k24 o0 x1 x2 x3 D = some (r, D') → W p l e R s m args below meth c H locs 0 0 (MQ below (Qn none True (wpost G cA S D' ad A) A) args s 0 0 A) (F0 m 24 ls [])) : ∀ (o0 a0 : Nat) (x1 : Int32) (x2 : Int32) (x3 : Int32) (x4 : Int32) (os0 as0 : Nat) (xs1 : Int32) (xs2 : Int32) (xs3 : Int64) (xs4 : Int64) (xs5 : Int32) (D : dt) (H : Heap) (locs : List Loc) (ls : Array Slot), Is S ad o0 a0 8 → Is S ad os0 as0 8 → Wd G cA S D ad A s H locs → lv_has ls 6 [(0, .ref a0), (1, .int x1), (2, .int x2), (3, .int x3), (4, .int x4)] → f_X9_goTo_120 S k24 o0 x1 x2 x3 x4 os0 xs1 xs2 xs3 xs4 xs5 D = some (r, D') → W p l e R s m args below meth c H locs 0 0 (MQ below (Qn none True (wpost G cA S D' ad A) A) args s 0 0 A) (F0 m 120 ls [.int xs5, .long xs4, .long xs3, .int xs2, .int xs1, .ref as0]) := by
  obtain ⟨hx, hb, -⟩ := id hC
  intro o0 a0 x1 x2 x3 x4 os0 as0 xs1 xs2 xs3 xs4 xs5 D H locs ls hi0 his0 hw hl h
  unfold f_X9_goTo_120 at h
  refine lv_iload_n hx hb dX9_goTo_120 rfl (lv_at hl 2 rfl) ?_
  refine lv_if_eq (tgt := 133) hx hb dX9_goTo_121 (by decide) (fun c502 => ?_) (fun c502 => ?_)
  · have h := i_yes c502 h
    refine lv_aload_n hx hb dX9_goTo_133 rfl (lv_at hl 0 rfl) ?_
    obtain ⟨o503, ho506, h⟩ := rq_i h
    refine r_getR hC hw kc_8 hi0 33 rfl lk_1105 dX9_goTo_134 rfl ho506 (fun a504 hi505 => ?_)
    refine lv_iload hx hb dX9_goTo_137 (lv_at hl 4 rfl) ?_
    obtain ⟨hn507, h⟩ := ix_i h
    refine r_iald hC hw hi505 hn507 dX9_goTo_139 ?_
    exact w_X9_goTo_140 hC hR hk24 o0 a0 x1 x2 x3 x4 os0 as0 xs1 xs2 xs3 xs4 xs5 (gI D o503 x4.toNatClampNeg) _ _ _ _ hi0 his0 hw (lv_sub hl [0, 1, 2, 3, 4] rfl) h
  · have h := i_no c502 h
    refine lv_aload_n hx hb dX9_goTo_124 rfl (lv_at hl 0 rfl) ?_
    obtain ⟨o508, ho511, h⟩ := rq_i h
    refine r_getR hC hw kc_8 hi0 44 rfl lk_1116 dX9_goTo_125 rfl ho511 (fun a509 hi510 => ?_)
    refine lv_iload_n hx hb dX9_goTo_128 rfl (lv_at hl 3 rfl) ?_
    obtain ⟨hn512, h⟩ := ix_i h
    refine r_iald hC hw hi510 hn512 dX9_goTo_129 ?_
    refine lv_goto (tgt := 140) hx hb dX9_goTo_130 (by decide) ?_
    exact w_X9_goTo_140 hC hR hk24 o0 a0 x1 x2 x3 x4 os0 as0 xs1 xs2 xs3 xs4 xs5 (gI D o508 x3.toNatClampNeg) _ _ _ _ hi0 his0 hw (lv_sub hl [0, 1, 2, 3, 4] rfl) h
set_option maxHeartbeats 4000000 in
set_option maxRecDepth 100000 in
theorem w_X9_goTo_100 {r : Unit} {D' : dt} (hC : Cx RX9 cX9_goTo 6 none p s m args meth c) (hR : 3 ≤ R.frames ∧ 74 ≤ R.locals) {k24 : Nat → Int32 → Int32 → Int32 → dt → Option (Unit × dt)} (hk24 : ∀ (o0 a0 : Nat) (x1 : Int32) (x2 : Int32) (x3 : Int32) (D : dt) (H : Heap) (locs : List Loc) (ls : Array Slot), Is S ad o0 a0 8 → Wd G cA S D ad A s H locs → lv_has ls 6 [(0, .ref a0), (1, .int x1), (2, .int x2), (3, .int x3)] → k24 o0 x1 x2 x3 D = some (r, D') → W p l e R s m args below meth c H locs 0 0 (MQ below (Qn none True (wpost G cA S D' ad A) A) args s 0 0 A) (F0 m 24 ls [])) : ∀ (o0 a0 : Nat) (x1 : Int32) (x2 : Int32) (x3 : Int32) (x4 : Int32) (os0 as0 : Nat) (xs1 : Int32) (xs2 : Int32) (xs3 : Int64) (xs4 : Int64) (D : dt) (H : Heap) (locs : List Loc) (ls : Array Slot), Is S ad o0 a0 8 → Is S ad os0 as0 8 → Wd G cA S D ad A s H locs → lv_has ls 6 [(0, .ref a0), (1, .int x1), (2, .int x2), (3, .int x3), (4, .int x4)] → f_X9_goTo_100 S k24 o0 x1 x2 x3 x4 os0 xs1 xs2 xs3 xs4 D = some (r, D') → W p l e R s m args below meth c H locs 0 0 (MQ below (Qn none True (wpost G cA S D' ad A) A) args s 0 0 A) (F0 m 100 ls [.long xs4, .long xs3, .int xs2, .int xs1, .ref as0]) := by
  obtain ⟨hx, hb, -⟩ := id hC
  intro o0 a0 x1 x2 x3 x4 os0 as0 xs1 xs2 xs3 xs4 D H locs ls hi0 his0 hw hl h
  unfold f_X9_goTo_100 at h
  refine lv_iload_n hx hb dX9_goTo_100 rfl (lv_at hl 2 rfl) ?_
  refine lv_if_eq (tgt := 113) hx hb dX9_goTo_101 (by decide) (fun c513 => ?_) (fun c513 => ?_)
  · have h := i_yes c513 h
    refine lv_aload_n hx hb dX9_goTo_113 rfl (lv_at hl 0 rfl) ?_
    obtain ⟨o514, ho517, h⟩ := rq_i h
    refine r_getR hC hw kc_8 hi0 32 rfl lk_1104 dX9_goTo_114 rfl ho517 (fun a515 hi516 => ?_)
    refine lv_iload hx hb dX9_goTo_117 (lv_at hl 4 rfl) ?_
    obtain ⟨hn518, h⟩ := ix_i h
    refine r_iald hC hw hi516 hn518 dX9_goTo_119 ?_
    exact w_X9_goTo_120 hC hR hk24 o0 a0 x1 x2 x3 x4 os0 as0 xs1 xs2 xs3 xs4 (gI D o514 x4.toNatClampNeg) _ _ _ _ hi0 his0 hw (lv_sub hl [0, 1, 2, 3, 4] rfl) h
  · have h := i_no c513 h
    refine lv_aload_n hx hb dX9_goTo_104 rfl (lv_at hl 0 rfl) ?_
    obtain ⟨o519, ho522, h⟩ := rq_i h
    refine r_getR hC hw kc_8 hi0 43 rfl lk_1115 dX9_goTo_105 rfl ho522 (fun a520 hi521 => ?_)
    refine lv_iload_n hx hb dX9_goTo_108 rfl (lv_at hl 3 rfl) ?_
    obtain ⟨hn523, h⟩ := ix_i h
    refine r_iald hC hw hi521 hn523 dX9_goTo_109 ?_
    refine lv_goto (tgt := 120) hx hb dX9_goTo_110 (by decide) ?_
    exact w_X9_goTo_120 hC hR hk24 o0 a0 x1 x2 x3 x4 os0 as0 xs1 xs2 xs3 xs4 (gI D o519 x3.toNatClampNeg) _ _ _ _ hi0 his0 hw (lv_sub hl [0, 1, 2, 3, 4] rfl) h
set_option maxHeartbeats 4000000 in
set_option maxRecDepth 100000 in
theorem w_X9_goTo_80 {r : Unit} {D' : dt} (hC : Cx RX9 cX9_goTo 6 none p s m args meth c) (hR : 3 ≤ R.frames ∧ 74 ≤ R.locals) {k24 : Nat → Int32 → Int32 → Int32 → dt → Option (Unit × dt)} (hk24 : ∀ (o0 a0 : Nat) (x1 : Int32) (x2 : Int32) (x3 : Int32) (D : dt) (H : Heap) (locs : List Loc) (ls : Array Slot), Is S ad o0 a0 8 → Wd G cA S D ad A s H locs → lv_has ls 6 [(0, .ref a0), (1, .int x1), (2, .int x2), (3, .int x3)] → k24 o0 x1 x2 x3 D = some (r, D') → W p l e R s m args below meth c H locs 0 0 (MQ below (Qn none True (wpost G cA S D' ad A) A) args s 0 0 A) (F0 m 24 ls [])) : ∀ (o0 a0 : Nat) (x1 : Int32) (x2 : Int32) (x3 : Int32) (x4 : Int32) (os0 as0 : Nat) (xs1 : Int32) (xs2 : Int32) (xs3 : Int64) (D : dt) (H : Heap) (locs : List Loc) (ls : Array Slot), Is S ad o0 a0 8 → Is S ad os0 as0 8 → Wd G cA S D ad A s H locs → lv_has ls 6 [(0, .ref a0), (1, .int x1), (2, .int x2), (3, .int x3), (4, .int x4)] → f_X9_goTo_80 S k24 o0 x1 x2 x3 x4 os0 xs1 xs2 xs3 D = some (r, D') → W p l e R s m args below meth c H locs 0 0 (MQ below (Qn none True (wpost G cA S D' ad A) A) args s 0 0 A) (F0 m 80 ls [.long xs3, .int xs2, .int xs1, .ref as0]) := by
  obtain ⟨hx, hb, -⟩ := id hC
  intro o0 a0 x1 x2 x3 x4 os0 as0 xs1 xs2 xs3 D H locs ls hi0 his0 hw hl h
  unfold f_X9_goTo_80 at h
  refine lv_iload_n hx hb dX9_goTo_80 rfl (lv_at hl 2 rfl) ?_
  refine lv_if_eq (tgt := 93) hx hb dX9_goTo_81 (by decide) (fun c524 => ?_) (fun c524 => ?_)
  · have h := i_yes c524 h
    refine lv_aload_n hx hb dX9_goTo_93 rfl (lv_at hl 0 rfl) ?_
    obtain ⟨o525, ho528, h⟩ := rq_i h
    refine r_getR hC hw kc_8 hi0 31 rfl lk_1103 dX9_goTo_94 rfl ho528 (fun a526 hi527 => ?_)
    refine lv_iload hx hb dX9_goTo_97 (lv_at hl 4 rfl) ?_
    obtain ⟨hn529, h⟩ := ix_i h
    refine r_lald hC hw hi527 hn529 dX9_goTo_99 ?_
    exact w_X9_goTo_100 hC hR hk24 o0 a0 x1 x2 x3 x4 os0 as0 xs1 xs2 xs3 (gL D o525 x4.toNatClampNeg) _ _ _ _ hi0 his0 hw (lv_sub hl [0, 1, 2, 3, 4] rfl) h
  · have h := i_no c524 h
    refine lv_aload_n hx hb dX9_goTo_84 rfl (lv_at hl 0 rfl) ?_
    obtain ⟨o530, ho533, h⟩ := rq_i h
    refine r_getR hC hw kc_8 hi0 42 rfl lk_1114 dX9_goTo_85 rfl ho533 (fun a531 hi532 => ?_)
    refine lv_iload_n hx hb dX9_goTo_88 rfl (lv_at hl 3 rfl) ?_
    obtain ⟨hn534, h⟩ := ix_i h
    refine r_lald hC hw hi532 hn534 dX9_goTo_89 ?_
    refine lv_goto (tgt := 100) hx hb dX9_goTo_90 (by decide) ?_
    exact w_X9_goTo_100 hC hR hk24 o0 a0 x1 x2 x3 x4 os0 as0 xs1 xs2 xs3 (gL D o530 x3.toNatClampNeg) _ _ _ _ hi0 his0 hw (lv_sub hl [0, 1, 2, 3, 4] rfl) h
set_option maxHeartbeats 4000000 in
set_option maxRecDepth 100000 in
theorem w_X9_goTo_60 {r : Unit} {D' : dt} (hC : Cx RX9 cX9_goTo 6 none p s m args meth c) (hR : 3 ≤ R.frames ∧ 74 ≤ R.locals) {k24 : Nat → Int32 → Int32 → Int32 → dt → Option (Unit × dt)} (hk24 : ∀ (o0 a0 : Nat) (x1 : Int32) (x2 : Int32) (x3 : Int32) (D : dt) (H : Heap) (locs : List Loc) (ls : Array Slot), Is S ad o0 a0 8 → Wd G cA S D ad A s H locs → lv_has ls 6 [(0, .ref a0), (1, .int x1), (2, .int x2), (3, .int x3)] → k24 o0 x1 x2 x3 D = some (r, D') → W p l e R s m args below meth c H locs 0 0 (MQ below (Qn none True (wpost G cA S D' ad A) A) args s 0 0 A) (F0 m 24 ls [])) : ∀ (o0 a0 : Nat) (x1 : Int32) (x2 : Int32) (x3 : Int32) (x4 : Int32) (os0 as0 : Nat) (xs1 : Int32) (xs2 : Int32) (D : dt) (H : Heap) (locs : List Loc) (ls : Array Slot), Is S ad o0 a0 8 → Is S ad os0 as0 8 → Wd G cA S D ad A s H locs → lv_has ls 6 [(0, .ref a0), (1, .int x1), (2, .int x2), (3, .int x3), (4, .int x4)] → f_X9_goTo_60 S k24 o0 x1 x2 x3 x4 os0 xs1 xs2 D = some (r, D') → W p l e R s m args below meth c H locs 0 0 (MQ below (Qn none True (wpost G cA S D' ad A) A) args s 0 0 A) (F0 m 60 ls [.int xs2, .int xs1, .ref as0]) := by
  obtain ⟨hx, hb, -⟩ := id hC
  intro o0 a0 x1 x2 x3 x4 os0 as0 xs1 xs2 D H locs ls hi0 his0 hw hl h
  unfold f_X9_goTo_60 at h
  refine lv_iload_n hx hb dX9_goTo_60 rfl (lv_at hl 2 rfl) ?_
  refine lv_if_eq (tgt := 73) hx hb dX9_goTo_61 (by decide) (fun c535 => ?_) (fun c535 => ?_)
  · have h := i_yes c535 h
    refine lv_aload_n hx hb dX9_goTo_73 rfl (lv_at hl 0 rfl) ?_
    obtain ⟨o536, ho539, h⟩ := rq_i h
    refine r_getR hC hw kc_8 hi0 30 rfl lk_1102 dX9_goTo_74 rfl ho539 (fun a537 hi538 => ?_)
    refine lv_iload hx hb dX9_goTo_77 (lv_at hl 4 rfl) ?_
    obtain ⟨hn540, h⟩ := ix_i h
    refine r_lald hC hw hi538 hn540 dX9_goTo_79 ?_
    exact w_X9_goTo_80 hC hR hk24 o0 a0 x1 x2 x3 x4 os0 as0 xs1 xs2 (gL D o536 x4.toNatClampNeg) _ _ _ _ hi0 his0 hw (lv_sub hl [0, 1, 2, 3, 4] rfl) h
  · have h := i_no c535 h
    refine lv_aload_n hx hb dX9_goTo_64 rfl (lv_at hl 0 rfl) ?_
    obtain ⟨o541, ho544, h⟩ := rq_i h
    refine r_getR hC hw kc_8 hi0 41 rfl lk_1113 dX9_goTo_65 rfl ho544 (fun a542 hi543 => ?_)
    refine lv_iload_n hx hb dX9_goTo_68 rfl (lv_at hl 3 rfl) ?_
    obtain ⟨hn545, h⟩ := ix_i h
    refine r_lald hC hw hi543 hn545 dX9_goTo_69 ?_
    refine lv_goto (tgt := 80) hx hb dX9_goTo_70 (by decide) ?_
    exact w_X9_goTo_80 hC hR hk24 o0 a0 x1 x2 x3 x4 os0 as0 xs1 xs2 (gL D o541 x3.toNatClampNeg) _ _ _ _ hi0 his0 hw (lv_sub hl [0, 1, 2, 3, 4] rfl) h
set_option maxHeartbeats 4000000 in
set_option maxRecDepth 100000 in
theorem w_X9_goTo_24 {r : Unit} {D' : dt} (hC : Cx RX9 cX9_goTo 6 none p s m args meth c) (hR : 3 ≤ R.frames ∧ 74 ≤ R.locals) : ∀ (n : Nat), ∀ (o0 a0 : Nat) (x1 : Int32) (x2 : Int32) (x3 : Int32) (D : dt) (H : Heap) (locs : List Loc) (ls : Array Slot), Is S ad o0 a0 8 → Wd G cA S D ad A s H locs → lv_has ls 6 [(0, .ref a0), (1, .int x1), (2, .int x2), (3, .int x3)] → f_X9_goTo_24 S n o0 x1 x2 x3 D = some (r, D') → W p l e R s m args below meth c H locs 0 0 (MQ below (Qn none True (wpost G cA S D' ad A) A) args s 0 0 A) (F0 m 24 ls []) := by
  obtain ⟨hx, hb, -⟩ := id hC
  intro n
  induction n with
  | zero =>
    intro o0 a0 x1 x2 x3 D H locs ls hi0 hw hl h
    rw [f_X9_goTo_24.eq_1] at h
    cases h
  | succ n ih =>
    intro o0 a0 x1 x2 x3 D H locs ls hi0 hw hl h
    rw [f_X9_goTo_24.eq_2] at h
    refine lv_iload_n hx hb dX9_goTo_24 rfl (lv_at hl 3 rfl) ?_
    refine lv_bipush (v := 11) hx hb dX9_goTo_25 (by decide) ?_
    refine lv_icmp_ge (tgt := 275) hx hb dX9_goTo_27 (by decide) (fun c546 => ?_) (fun c546 => ?_)
    · have h := i_yes c546 h
      refine lv_iconst (v := 0) hx hb dX9_goTo_275 (by decide) ?_
      refine lv_topi (fun y547 ey547 => ?_)
      have h := nm_i h y547 ey547
      refine lv_istore_n (lv' := [(3, .int y547), (0, .ref a0), (1, .int x1), (2, .int x2)]) hx hb dX9_goTo_276 rfl hl (by decide) rfl (fun ls hl => ?_)
      exact w_X9_goTo_277 hC hR LF o0 a0 x1 x2 y547 _ _ _ _ hi0 hw (lv_sub hl [1, 2, 3, 0] rfl) h
    · have h := i_no c546 h
      refine lv_bipush (v := 11) hx hb dX9_goTo_30 (by decide) ?_
      refine lv_iload_n hx hb dX9_goTo_32 rfl (lv_at hl 1 rfl) ?_
      refine lv_imul hx hb dX9_goTo_33 ?_
      refine lv_iload_n hx hb dX9_goTo_34 rfl (lv_at hl 3 rfl) ?_
      refine lv_iadd hx hb dX9_goTo_35 ?_
      refine lv_topi (fun y548 ey548 => ?_)
      have h := nm_i h y548 ey548
      refine lv_istore (lv' := [(4, .int y548), (0, .ref a0), (1, .int x1), (2, .int x2), (3, .int x3)]) hx hb dX9_goTo_36 hl (by decide) rfl (fun ls hl => ?_)
      refine lv_aload_n hx hb dX9_goTo_38 rfl (lv_at hl 1 rfl) ?_
      refine lv_iload_n hx hb dX9_goTo_39 rfl (lv_at hl 4 rfl) ?_
      refine lv_iload_n hx hb dX9_goTo_40 rfl (lv_at hl 3 rfl) ?_
      refine lv_if_eq (tgt := 53) hx hb dX9_goTo_41 (by decide) (fun c549 => ?_) (fun c549 => ?_)
      · have h := i_yes c549 h
        refine lv_aload_n hx hb dX9_goTo_53 rfl (lv_at hl 1 rfl) ?_
        obtain ⟨o550, ho553, h⟩ := rq_i h
        refine r_getR hC hw kc_8 hi0 29 rfl lk_1101 dX9_goTo_54 rfl ho553 (fun a551 hi552 => ?_)
        refine lv_iload hx hb dX9_goTo_57 (lv_at hl 0 rfl) ?_
        obtain ⟨hn554, h⟩ := ix_i h
        refine r_iald hC hw hi552 hn554 dX9_goTo_59 ?_
        exact w_X9_goTo_60 hC hR ih o0 a0 x1 x2 x3 y548 o0 a0 x3 (gI D o550 y548.toNatClampNeg) _ _ _ _ hi0 hi0 hw (lv_sub hl [1, 2, 3, 4, 0] rfl) h
      · have h := i_no c549 h
        refine lv_aload_n hx hb dX9_goTo_44 rfl (lv_at hl 1 rfl) ?_
        obtain ⟨o555, ho558, h⟩ := rq_i h
        refine r_getR hC hw kc_8 hi0 40 rfl lk_1112 dX9_goTo_45 rfl ho558 (fun a556 hi557 => ?_)
        refine lv_iload_n hx hb dX9_goTo_48 rfl (lv_at hl 4 rfl) ?_
        obtain ⟨hn559, h⟩ := ix_i h
        refine r_iald hC hw hi557 hn559 dX9_goTo_49 ?_
        refine lv_goto (tgt := 60) hx hb dX9_goTo_50 (by decide) ?_
        exact w_X9_goTo_60 hC hR ih o0 a0 x1 x2 x3 y548 o0 a0 x3 (gI D o555 x3.toNatClampNeg) _ _ _ _ hi0 hi0 hw (lv_sub hl [1, 2, 3, 4, 0] rfl) h
set_option maxHeartbeats 4000000 in
set_option maxRecDepth 100000 in
theorem w_X9_goTo_14 {r : Unit} {D' : dt} (hC : Cx RX9 cX9_goTo 6 none p s m args meth c) (hR : 3 ≤ R.frames ∧ 74 ≤ R.locals) : ∀ (o0 a0 : Nat) (x1 : Int32) (xs0 : Int32) (D : dt) (H : Heap) (locs : List Loc) (ls : Array Slot), Is S ad o0 a0 8 → Wd G cA S D ad A s H locs → lv_has ls 6 [(0, .ref a0), (1, .int x1)] → f_X9_goTo_14 S o0 x1 xs0 D = some (r, D') → W p l e R s m args below meth c H locs 0 0 (MQ below (Qn none True (wpost G cA S D' ad A) A) args s 0 0 A) (F0 m 14 ls [.int xs0]) := by
  obtain ⟨hx, hb, -⟩ := id hC
  intro o0 a0 x1 xs0 D H locs ls hi0 hw hl h
  unfold f_X9_goTo_14 at h
  refine lv_istore_n (lv' := [(2, .int xs0), (0, .ref a0), (1, .int x1)]) hx hb dX9_goTo_14 rfl hl (by decide) rfl (fun ls hl => ?_)
  refine lv_aload_n hx hb dX9_goTo_15 rfl (lv_at hl 1 rfl) ?_
  obtain ⟨o560, ho563, h⟩ := rq_i h
  refine r_getR hC hw kc_8 hi0 27 rfl lk_1099 dX9_goTo_16 rfl ho563 (fun a561 hi562 => ?_)
  refine lv_iload_n hx hb dX9_goTo_19 rfl (lv_at hl 2 rfl) ?_
  refine lv_iconst (v := 1) hx hb dX9_goTo_20 (by decide) ?_
  obtain ⟨hn564, h⟩ := ix_i h
  refine r_zas hC hw hi562 hn564 dX9_goTo_21 (fun D565 eD565 H locs hw => ?_)
  have h := nm_i h D565 eD565
  refine lv_iconst (v := 0) hx hb dX9_goTo_22 (by decide) ?_
  refine lv_topi (fun y566 ey566 => ?_)
  have h := nm_i h y566 ey566
  refine lv_istore_n (lv' := [(3, .int y566), (2, .int xs0), (0, .ref a0), (1, .int x1)]) hx hb dX9_goTo_23 rfl hl (by decide) rfl (fun ls hl => ?_)
  exact w_X9_goTo_24 hC hR LF o0 a0 x1 xs0 y566 _ _ _ _ hi0 hw (lv_sub hl [2, 3, 1, 0] rfl) h
set_option maxHeartbeats 4000000 in
set_option maxRecDepth 100000 in
theorem w_X9_goTo_0 {r : Unit} {D' : dt} (hC : Cx RX9 cX9_goTo 6 none p s m args meth c) (hR : 3 ≤ R.frames ∧ 74 ≤ R.locals) : ∀ (o0 a0 : Nat) (x1 : Int32) (D : dt) (H : Heap) (locs : List Loc) (ls : Array Slot), Is S ad o0 a0 8 → Wd G cA S D ad A s H locs → lv_has ls 6 [(0, .ref a0), (1, .int x1)] → f_X9_goTo S o0 x1 D = some (r, D') → W p l e R s m args below meth c H locs 0 0 (MQ below (Qn none True (wpost G cA S D' ad A) A) args s 0 0 A) (F0 m 0 ls []) := by
  obtain ⟨hx, hb, -⟩ := id hC
  intro o0 a0 x1 D H locs ls hi0 hw hl h
  unfold f_X9_goTo at h
  refine lv_aload_n hx hb dX9_goTo_0 rfl (lv_at hl 0 rfl) ?_
  obtain ⟨o567, ho570, h⟩ := rq_i h
  refine r_getR hC hw kc_8 hi0 27 rfl lk_1099 dX9_goTo_1 rfl ho570 (fun a568 hi569 => ?_)
  refine lv_iload_n hx hb dX9_goTo_4 rfl (lv_at hl 1 rfl) ?_
  obtain ⟨hn571, h⟩ := ix_i h
  refine r_zald hC hw hi569 hn571 dX9_goTo_5 ?_
  refine lv_if_ne (tgt := 13) hx hb dX9_goTo_6 (by decide) (fun c572 => ?_) (fun c572 => ?_)
  · have h := i_no c572 h
    refine lv_iconst (v := 0) hx hb dX9_goTo_13 (by decide) ?_
    exact w_X9_goTo_14 hC hR o0 a0 x1 (0 : Int32) _ _ _ _ hi0 hw (lv_sub hl [0, 1] rfl) h
  · have h := i_yes c572 h
    refine lv_iconst (v := 1) hx hb dX9_goTo_9 (by decide) ?_
    refine lv_goto (tgt := 14) hx hb dX9_goTo_10 (by decide) ?_
    exact w_X9_goTo_14 hC hR o0 a0 x1 (1 : Int32) _ _ _ _ hi0 hw (lv_sub hl [0, 1] rfl) h
set_option maxHeartbeats 4000000 in
set_option maxRecDepth 100000 in
theorem k_X9_goTo {l : Launch} {G : va_G} {cA : Nat → ClassId} {S : sh} {D D' : dt} {ad : Nat → Nat} (sz : Nat) {o0 a0 : Nat} {x1 : Int32} {r : Unit} (hi0 : Is S ad o0 a0 8) (h : f_X9_goTo S o0 x1 D = some (r, D')) : Co l yX9_goTo (Cond.code yX9_goTo cX9_goTo 6 none :: tb0) 3 74 [.ref a0, .int x1] G cA S D ad sz none True D' := by
  refine Met.ofW (cc := cX9_goTo) (maxL := 6) (ret := none) (by decide) rfl ?_
  intro p e s m args below meth c s₁ B hml hv
  obtain ⟨rfl, hsz, hP, hK, hD0, hT, hX⟩ := hv
  subst hsz
  have hts := atoms_spec (ws := Cond.code yX9_goTo cX9_goTo 6 none :: tb0) B.pre
  have hC : Cx RX9 cX9_goTo 6 none p s m _ meth c := ⟨B.exec, B.bytes, hml, findClass_of_methodNamed B.named, fun w q => hts w (List.mem_cons_of_mem _ q), B.returns, B.notSynchronized⟩
  have hw := Wd.entry hP hK hD0 hT hX
  have hl := lv_entry ([.ref a0, .int x1]) (n := 6) (Nat.le_of_ble_eq_true rfl)
  rw [lg_entry_eq]
  exact w_X9_goTo_0 hC ⟨Nat.le_refl _, Nat.le_refl _⟩ o0 a0 x1 D _ _ _ hi0 hw hl h
end
