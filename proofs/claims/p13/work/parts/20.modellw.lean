-- JudgedCodeModel.reckonRange
def f_X9_reckonRange_802 (S : sh) (o0 : Nat) (x1 : Int32) (x2 : Int32) (x3 : Int32) (x5 : Int64) (x7 : Int64) (x9 : Int64) (x11 : Int64) (x20 : Int32) (D : dt) : Option (Unit × dt) := cq (f_X9_reckonMoved S o0 x1 x2 x3 x5 x7 x9 x11 x20 D) fun _ D148 => some ((), D148)
def f_X9_reckonRange_733 (S : sh) (os0 : Nat) (xs1 : Int32) (xs2 : Int64) (xs3 : Int64) (D : dt) : Option (Unit × dt) := cq (f_X9_number S os0 xs1 xs2 xs3 D) fun _ D150 => some ((), D150)
def f_X9_reckonRange_724 (S : sh) (x7 : Int64) (os0 : Nat) (xs1 : Int32) (xs2 : Int64) (D : dt) : Option (Unit × dt) := f_X9_reckonRange_733 S os0 xs1 xs2 x7 D
def f_X9_reckonRange_714 (S : sh) (x7 : Int64) (x11 : Int64) (x22 : Int32) (x23 : Int32) (os0 : Nat) (xs1 : Int32) (xs2 : Int64) (D : dt) : Option (Unit × dt) := if x23 = 0 then (if x22 = 0 then (f_X9_reckonRange_724 S x7 os0 xs1 xs2 D) else (f_X9_reckonRange_733 S os0 xs1 xs2 (x11 - (1 : Int64)) D)) else (f_X9_reckonRange_724 S x7 os0 xs1 xs2 D)
def f_X9_reckonRange_698 (S : sh) (o0 : Nat) (x4 : Int32) (x5 : Int64) (x7 : Int64) (x11 : Int64) (x22 : Int32) (xs0 : Int32) (D : dt) : Option (Unit × dt) := if xs0 = 0 then (f_X9_reckonRange_714 S x7 x11 x22 xs0 o0 x4 (0 : Int64) D) else (f_X9_reckonRange_714 S x7 x11 x22 xs0 o0 x4 x5 D)
def f_X9_reckonRange_697 (S : sh) (o0 : Nat) (x4 : Int32) (x5 : Int64) (x7 : Int64) (x11 : Int64) (x22 : Int32) (D : dt) : Option (Unit × dt) := f_X9_reckonRange_698 S o0 x4 x5 x7 x11 x22 (0 : Int32) D
def f_X9_reckonRange_676 (S : sh) (o0 : Nat) (x4 : Int32) (x5 : Int64) (x7 : Int64) (x11 : Int64) (xs0 : Int32) (D : dt) : Option (Unit × dt) := if xs0 = 0 then (f_X9_reckonRange_697 S o0 x4 x5 x7 x11 xs0 D) else (pq (f_X9_isBelow x7 x11) fun r156 => if r156 = 0 then (f_X9_reckonRange_697 S o0 x4 x5 x7 x11 xs0 D) else (f_X9_reckonRange_698 S o0 x4 x5 x7 x11 xs0 (1 : Int32) D))
def f_X9_reckonRange_675 (S : sh) (o0 : Nat) (x4 : Int32) (x5 : Int64) (x7 : Int64) (x11 : Int64) (D : dt) : Option (Unit × dt) := f_X9_reckonRange_676 S o0 x4 x5 x7 x11 (0 : Int32) D
def f_X9_reckonRange_644 (S : sh) (os0 : Nat) (xs1 : Int32) (xs2 : Int64) (xs3 : Int64) (D : dt) : Option (Unit × dt) := cq (f_X9_number S os0 xs1 xs2 xs3 D) fun _ D159 => some ((), D159)
def f_X9_reckonRange_627 (S : sh) (x7 : Int64) (x11 : Int64) (x22 : Int32) (os0 : Nat) (xs1 : Int32) (xs2 : Int64) (D : dt) : Option (Unit × dt) := if x22 = 0 then (f_X9_reckonRange_644 S os0 xs1 xs2 x7 D) else (pq (f_X9_over x7 x11) fun r162 => f_X9_reckonRange_644 S os0 xs1 xs2 r162 D)
def f_X9_reckonRange_606 (S : sh) (o0 : Nat) (x4 : Int32) (x5 : Int64) (x7 : Int64) (x11 : Int64) (xs0 : Int32) (D : dt) : Option (Unit × dt) := if xs0 = 0 then (f_X9_reckonRange_627 S x7 x11 xs0 o0 x4 (0 : Int64) D) else (pq (f_X9_over x5 x11) fun r165 => f_X9_reckonRange_627 S x7 x11 xs0 o0 x4 r165 D)
def f_X9_reckonRange_605 (S : sh) (o0 : Nat) (x4 : Int32) (x5 : Int64) (x7 : Int64) (x11 : Int64) (D : dt) : Option (Unit × dt) := f_X9_reckonRange_606 S o0 x4 x5 x7 x11 (0 : Int32) D
def f_X9_reckonRange_390 (S : sh) (o0 : Nat) (x1 : Int32) (x2 : Int32) (x3 : Int32) (x4 : Int32) (x5 : Int64) (x7 : Int64) (x9 : Int64) (x11 : Int64) (x18 : Int64) (x20 : Int32) (xs0 : Int32) (D : dt) : Option (Unit × dt) := if x2 = 0 then (pq (f_X9_isBelow (x7 + x11) x7) fun r168 => if r168 = 0 then (pq (f_X9_isBelow x18 (x7 + x11)) fun r171 => if r171 = 0 then (cq (f_X9_number S o0 x4 (x5 + x9) (x7 + x11) D) fun _ D174 => some ((), D174)) else (some ((), D))) else (some ((), D))) else if x2 = 1 then (pq (f_X9_isBelow x5 x11) fun r177 => if r177 = 0 then (cq (f_X9_number S o0 x4 (x5 - x11) (x7 - x9) D) fun _ D180 => some ((), D180)) else (some ((), D))) else if x2 = 2 then (pq (f_X9_isBelow (4294967295 : Int64) x7) fun r183 => if r183 = 0 then (pq (f_X9_isBelow (4294967295 : Int64) x11) fun r186 => if r186 = 0 then (pq (f_X9_isBelow x18 (x7 * x11)) fun r189 => if r189 = 0 then (cq (f_X9_number S o0 x4 (x5 * x9) (x7 * x11) D) fun _ D192 => some ((), D192)) else (some ((), D))) else (some ((), D))) else (some ((), D))) else if x2 = 3 then (rq (gR D o0 4) fun o194 => ix x1 (sA S o194) <| if (gI D o194 x1.toNatClampNeg) = 0 then (if xs0 = 0 then (f_X9_reckonRange_605 S o0 x4 x5 x7 x11 D) else (if (lg_cmp x11 (0 : Int64)) = 0 then (f_X9_reckonRange_605 S o0 x4 x5 x7 x11 D) else (f_X9_reckonRange_606 S o0 x4 x5 x7 x11 (1 : Int32) D))) else (some ((), D))) else if x2 = 4 then (pq (f_X9_greater x5 x9) fun r204 => pq (f_X9_greater x7 x11) fun r206 => pq (f_X9_mask r206) fun r208 => cq (f_X9_number S o0 x4 r204 r208 D) fun _ D210 => some ((), D210)) else if x2 = 5 then (pq (f_X9_lesser x7 x11) fun r213 => cq (f_X9_number S o0 x4 (0 : Int64) r213 D) fun _ D215 => some ((), D215)) else if x2 = 6 then (f_X9_reckonRange_802 S o0 x1 x2 x3 x5 x7 x9 x11 x20 D) else if x2 = 7 then (f_X9_reckonRange_802 S o0 x1 x2 x3 x5 x7 x9 x11 x20 D) else if x2 = 8 then (f_X9_reckonRange_802 S o0 x1 x2 x3 x5 x7 x9 x11 x20 D) else if x2 = 9 then (rq (gR D o0 4) fun o220 => ix x1 (sA S o220) <| if (gI D o220 x1.toNatClampNeg) = 0 then (if xs0 = 0 then (f_X9_reckonRange_675 S o0 x4 x5 x7 x11 D) else (if (lg_cmp x11 (0 : Int64)) = 0 then (f_X9_reckonRange_675 S o0 x4 x5 x7 x11 D) else (f_X9_reckonRange_676 S o0 x4 x5 x7 x11 (1 : Int32) D))) else (some ((), D))) else if x2 = 10 then (pq (f_X9_greater x7 x11) fun r230 => pq (f_X9_mask r230) fun r232 => cq (f_X9_number S o0 x4 (0 : Int64) r232 D) fun _ D234 => some ((), D234)) else (f_X9_reckonRange_802 S o0 x1 x2 x3 x5 x7 x9 x11 x20 D)
def f_X9_reckonRange_374 (S : sh) (o0 : Nat) (x1 : Int32) (x2 : Int32) (x3 : Int32) (x4 : Int32) (x5 : Int64) (x7 : Int64) (x9 : Int64) (x11 : Int64) (x18 : Int64) (xs0 : Int32) (xs1 : Int32) (D : dt) : Option (Unit × dt) := nm (xs0 &&& xs1) fun y235 => if (lg_cmp x9 x11) = 0 then (f_X9_reckonRange_390 S o0 x1 x2 x3 x4 x5 x7 x9 x11 x18 y235 (1 : Int32) D) else (f_X9_reckonRange_390 S o0 x1 x2 x3 x4 x5 x7 x9 x11 x18 y235 (0 : Int32) D)
def f_X9_reckonRange_349 (S : sh) (o0 : Nat) (x1 : Int32) (x2 : Int32) (x3 : Int32) (x4 : Int32) (x5 : Int64) (x7 : Int64) (x9 : Int64) (x11 : Int64) (xs0 : Int64) (D : dt) : Option (Unit × dt) := cq (f_X9_number S o0 x4 (0 : Int64) xs0 D) fun _ D238 => if x3 = 0 then (f_X9_reckonRange_374 S o0 x1 x2 x3 x4 x5 x7 x9 x11 xs0 x9.toInt32 (31 : Int32) D238) else (f_X9_reckonRange_374 S o0 x1 x2 x3 x4 x5 x7 x9 x11 xs0 x9.toInt32 (63 : Int32) D238)
def f_X9_reckonRange_307 (S : sh) (o0 : Nat) (x1 : Int32) (x2 : Int32) (x3 : Int32) (x4 : Int32) (x5 : Int64) (x7 : Int64) (x9 : Int64) (x11 : Int64) (xs0 : Int32) (D : dt) : Option (Unit × dt) := if xs0 = 0 then (if x3 = 0 then (f_X9_reckonRange_349 S o0 x1 x2 x3 x4 x5 x7 x9 x11 (4294967295 : Int64) D) else (f_X9_reckonRange_349 S o0 x1 x2 x3 x4 x5 x7 x9 x11 (-1 : Int64) D)) else (pq (f_X9_reckon S D o0 x1 x5 x9) fun r243 => cq (f_X9_number S o0 x4 r243 r243 D) fun _ D245 => some ((), D245))
def f_X9_reckonRange_306 (S : sh) (o0 : Nat) (x1 : Int32) (x2 : Int32) (x3 : Int32) (x4 : Int32) (x5 : Int64) (x7 : Int64) (x9 : Int64) (x11 : Int64) (D : dt) : Option (Unit × dt) := f_X9_reckonRange_307 S o0 x1 x2 x3 x4 x5 x7 x9 x11 (0 : Int32) D
def f_X9_reckonRange_270 (S : sh) (o0 : Nat) (x1 : Int32) (x2 : Int32) (x3 : Int32) (x4 : Int32) (x5 : Int64) (x7 : Int64) (x9 : Int64) (x11 : Int64) (D : dt) : Option (Unit × dt) := if (lg_cmp x5 x7) = 0 then (f_X9_reckonRange_307 S o0 x1 x2 x3 x4 x5 x7 x9 x11 (1 : Int32) D) else (f_X9_reckonRange_307 S o0 x1 x2 x3 x4 x5 x7 x9 x11 (0 : Int32) D)
def f_X9_reckonRange_234 (S : sh) (o0 : Nat) (x1 : Int32) (x2 : Int32) (x3 : Int32) (x4 : Int32) (x5 : Int64) (x7 : Int64) (x9 : Int64) (xs0 : Int64) (D : dt) : Option (Unit × dt) := if x2 = (11 : Int32) then (if (lg_cmp x9 xs0) = 0 then (f_X9_reckonRange_307 S o0 x1 x2 x3 x4 x5 x7 x9 xs0 (1 : Int32) D) else (f_X9_reckonRange_307 S o0 x1 x2 x3 x4 x5 x7 x9 xs0 (0 : Int32) D)) else (if x2 = (8 : Int32) then (f_X9_reckonRange_270 S o0 x1 x2 x3 x4 x5 x7 x9 xs0 D) else (if x2 = (13 : Int32) then (f_X9_reckonRange_270 S o0 x1 x2 x3 x4 x5 x7 x9 xs0 D) else (if (lg_cmp x5 x7) = 0 then (if (lg_cmp x9 xs0) = 0 then (f_X9_reckonRange_307 S o0 x1 x2 x3 x4 x5 x7 x9 xs0 (1 : Int32) D) else (f_X9_reckonRange_306 S o0 x1 x2 x3 x4 x5 x7 x9 xs0 D)) else (f_X9_reckonRange_306 S o0 x1 x2 x3 x4 x5 x7 x9 xs0 D))))
def f_X9_reckonRange_205 (S : sh) (o0 : Nat) (x1 : Int32) (x2 : Int32) (x3 : Int32) (x4 : Int32) (x5 : Int64) (x7 : Int64) (x11 : Int64) (x14 : Int32) (x16 : Int32) (xs0 : Int64) (D : dt) : Option (Unit × dt) := if x14 = 0 then (f_X9_reckonRange_234 S o0 x1 x2 x3 x4 x5 x7 xs0 x11 D) else (if x16 = 0 then (f_X9_reckonRange_234 S o0 x1 x2 x3 x4 x5 x7 xs0 (4294967295 : Int64) D) else (f_X9_reckonRange_234 S o0 x1 x2 x3 x4 x5 x7 xs0 (x11 &&& (4294967295 : Int64)) D))
def f_X9_reckonRange_178 (S : sh) (o0 : Nat) (x1 : Int32) (x2 : Int32) (x3 : Int32) (x4 : Int32) (x5 : Int64) (x9 : Int64) (x11 : Int64) (x14 : Int32) (x16 : Int32) (xs0 : Int64) (D : dt) : Option (Unit × dt) := if x14 = 0 then (f_X9_reckonRange_205 S o0 x1 x2 x3 x4 x5 xs0 x11 x14 x16 x9 D) else (if x16 = 0 then (f_X9_reckonRange_205 S o0 x1 x2 x3 x4 x5 xs0 x11 x14 x16 (0 : Int64) D) else (f_X9_reckonRange_205 S o0 x1 x2 x3 x4 x5 xs0 x11 x14 x16 (x9 &&& (4294967295 : Int64)) D))
def f_X9_reckonRange_149 (S : sh) (o0 : Nat) (x1 : Int32) (x2 : Int32) (x3 : Int32) (x4 : Int32) (x7 : Int64) (x9 : Int64) (x11 : Int64) (x13 : Int32) (x14 : Int32) (x15 : Int32) (x16 : Int32) (xs0 : Int64) (D : dt) : Option (Unit × dt) := if x13 = 0 then (f_X9_reckonRange_178 S o0 x1 x2 x3 x4 xs0 x9 x11 x14 x16 x7 D) else (if x15 = 0 then (f_X9_reckonRange_178 S o0 x1 x2 x3 x4 xs0 x9 x11 x14 x16 (4294967295 : Int64) D) else (f_X9_reckonRange_178 S o0 x1 x2 x3 x4 xs0 x9 x11 x14 x16 (x7 &&& (4294967295 : Int64)) D))
def f_X9_reckonRange_122 (S : sh) (o0 : Nat) (x1 : Int32) (x2 : Int32) (x3 : Int32) (x4 : Int32) (x5 : Int64) (x7 : Int64) (x9 : Int64) (x11 : Int64) (x13 : Int32) (x14 : Int32) (x15 : Int32) (xs0 : Int32) (D : dt) : Option (Unit × dt) := if x13 = 0 then (f_X9_reckonRange_149 S o0 x1 x2 x3 x4 x7 x9 x11 x13 x14 x15 xs0 x5 D) else (if x15 = 0 then (f_X9_reckonRange_149 S o0 x1 x2 x3 x4 x7 x9 x11 x13 x14 x15 xs0 (0 : Int64) D) else (f_X9_reckonRange_149 S o0 x1 x2 x3 x4 x7 x9 x11 x13 x14 x15 xs0 (x5 &&& (4294967295 : Int64)) D))
def f_X9_reckonRange_107 (S : sh) (o0 : Nat) (x1 : Int32) (x2 : Int32) (x3 : Int32) (x4 : Int32) (x5 : Int64) (x7 : Int64) (x9 : Int64) (x11 : Int64) (x13 : Int32) (x14 : Int32) (xs0 : Int32) (D : dt) : Option (Unit × dt) := if (lg_cmp x9 x11) = 0 then (f_X9_reckonRange_122 S o0 x1 x2 x3 x4 x5 x7 x9 x11 x13 x14 xs0 (1 : Int32) D) else (f_X9_reckonRange_122 S o0 x1 x2 x3 x4 x5 x7 x9 x11 x13 x14 xs0 (0 : Int32) D)
def f_X9_reckonRange_92 (S : sh) (o0 : Nat) (x1 : Int32) (x2 : Int32) (x3 : Int32) (x4 : Int32) (x5 : Int64) (x7 : Int64) (x9 : Int64) (x11 : Int64) (x13 : Int32) (xs0 : Int32) (D : dt) : Option (Unit × dt) := if (lg_cmp x5 x7) = 0 then (f_X9_reckonRange_107 S o0 x1 x2 x3 x4 x5 x7 x9 x11 x13 xs0 (1 : Int32) D) else (f_X9_reckonRange_107 S o0 x1 x2 x3 x4 x5 x7 x9 x11 x13 xs0 (0 : Int32) D)
def f_X9_reckonRange_91 (S : sh) (o0 : Nat) (x1 : Int32) (x2 : Int32) (x3 : Int32) (x4 : Int32) (x5 : Int64) (x7 : Int64) (x9 : Int64) (x11 : Int64) (x13 : Int32) (D : dt) : Option (Unit × dt) := f_X9_reckonRange_92 S o0 x1 x2 x3 x4 x5 x7 x9 x11 x13 (0 : Int32) D
def f_X9_reckonRange_64 (S : sh) (o0 : Nat) (x1 : Int32) (x2 : Int32) (x3 : Int32) (x4 : Int32) (x5 : Int64) (x7 : Int64) (x9 : Int64) (x11 : Int64) (xs0 : Int32) (D : dt) : Option (Unit × dt) := if x3 = 0 then (if x2 = (13 : Int32) then (f_X9_reckonRange_91 S o0 x1 x2 x3 x4 x5 x7 x9 x11 xs0 D) else (pq (f_X9_isBelow (4294967295 : Int64) x11) fun r266 => if r266 = 0 then (f_X9_reckonRange_91 S o0 x1 x2 x3 x4 x5 x7 x9 x11 xs0 D) else (f_X9_reckonRange_92 S o0 x1 x2 x3 x4 x5 x7 x9 x11 xs0 (1 : Int32) D))) else (f_X9_reckonRange_91 S o0 x1 x2 x3 x4 x5 x7 x9 x11 xs0 D)
def f_X9_reckonRange_63 (S : sh) (o0 : Nat) (x1 : Int32) (x2 : Int32) (x3 : Int32) (x4 : Int32) (x5 : Int64) (x7 : Int64) (x9 : Int64) (x11 : Int64) (D : dt) : Option (Unit × dt) := f_X9_reckonRange_64 S o0 x1 x2 x3 x4 x5 x7 x9 x11 (0 : Int32) D
def f_X9_reckonRange (S : sh) (o0 : Nat) (x1 : Int32) (x2 : Int32) (x3 : Int32) (D : dt) : Option (Unit × dt) := rq (gR D o0 2) fun o268 => ix x1 (sA S o268) <| nm (gI D o268 x1.toNatClampNeg) fun y273 => rq (gR D o0 41) fun o274 => ix y273 (sA S o274) <| nm (gL D o274 y273.toNatClampNeg) fun y279 => rq (gR D o0 42) fun o280 => ix y273 (sA S o280) <| nm (gL D o280 y273.toNatClampNeg) fun y285 => nm (gL D o0 51) fun y286 => nm (gL D o0 52) fun y287 => if x3 = 0 then (if x2 = (13 : Int32) then (f_X9_reckonRange_63 S o0 x1 x2 x3 y273 y279 y285 y286 y287 D) else (pq (f_X9_isBelow (4294967295 : Int64) y285) fun r291 => if r291 = 0 then (f_X9_reckonRange_63 S o0 x1 x2 x3 y273 y279 y285 y286 y287 D) else (f_X9_reckonRange_64 S o0 x1 x2 x3 y273 y279 y285 y286 y287 (1 : Int32) D))) else (f_X9_reckonRange_63 S o0 x1 x2 x3 y273 y279 y285 y286 y287 D)
set_option maxRecDepth 1000000 in
theorem mk_X9_reckonRange : MkV yX9_reckonRange RX9 cX9_reckonRange 24 none 3 := ⟨⟨lk_1494, lk_93, lk_121, (tb_in (i := 1495) rfl rfl)⟩, by decide +kernel⟩
section
variable {p : Program} {l : Launch} {e : Env} {R : Room} {s : State} {m : MethodId} {args : Array Value} {below : List Frame} {meth : Method} {c : Code} {H : Heap} {locs : List Loc} {G : va_G} {cA : Nat → ClassId} {S : sh} {D : dt} {ad : Nat → Nat} {A : Nat → Prop}
set_option maxHeartbeats 4000000 in
set_option maxRecDepth 100000 in
theorem w_X9_reckonRange_802 {r : Unit} {D' : dt} (hC : Cx RX9 cX9_reckonRange 24 none p s m args meth c) (hR : 5 ≤ R.frames ∧ 139 ≤ R.locals) : ∀ (o0 a0 : Nat) (x1 : Int32) (x2 : Int32) (x3 : Int32) (x5 : Int64) (x7 : Int64) (x9 : Int64) (x11 : Int64) (x20 : Int32) (D : dt) (H : Heap) (locs : List Loc) (ls : Array Slot), Is S ad o0 a0 8 → Wd G cA S D ad A s H locs → lv_has ls 24 [(0, .ref a0), (1, .int x1), (2, .int x2), (3, .int x3), (5, .long x5), (7, .long x7), (9, .long x9), (11, .long x11), (20, .int x20)] → f_X9_reckonRange_802 S o0 x1 x2 x3 x5 x7 x9 x11 x20 D = some (r, D') → W p l e R s m args below meth c H locs 0 0 (MQ below (Qn none True (wpost G cA S D' ad A) A) args s 0 0 A) (F0 m 802 ls []) := by
  obtain ⟨hx, hb, -⟩ := id hC
  intro o0 a0 x1 x2 x3 x5 x7 x9 x11 x20 D H locs ls hi0 hw hl h
  unfold f_X9_reckonRange_802 at h
  refine lv_aload_n hx hb dX9_reckonRange_802 rfl (lv_at hl 0 rfl) ?_
  refine lv_iload_n hx hb dX9_reckonRange_803 rfl (lv_at hl 1 rfl) ?_
  refine lv_iload_n hx hb dX9_reckonRange_804 rfl (lv_at hl 2 rfl) ?_
  refine lv_iload_n hx hb dX9_reckonRange_805 rfl (lv_at hl 3 rfl) ?_
  refine lv_lload hx hb dX9_reckonRange_806 (lv_at hl 4 rfl) ?_
  refine lv_lload hx hb dX9_reckonRange_808 (lv_at hl 5 rfl) ?_
  refine lv_lload hx hb dX9_reckonRange_810 (lv_at hl 6 rfl) ?_
  refine lv_lload hx hb dX9_reckonRange_812 (lv_at hl 7 rfl) ?_
  refine lv_iload hx hb dX9_reckonRange_814 (lv_at hl 8 rfl) ?_
  obtain ⟨_, D148, hq147, h⟩ := cq_i h
  refine r_cV (st' := []) [.int x1, .int x2, .int x3, .long x5, .long x7, .long x9, .long x11, .int x20] [] hC hw kc_8 hi0 (k_X9_reckonMoved _ hi0 hq147) mk_X9_reckonMoved lk_1503 ⟨Nat.le_trans (by decide) hR.1, Nat.le_trans (by decide) hR.2⟩ ⟨Nat.zero_le _, Nat.zero_le _⟩ rfl hl.1 rfl rfl (Nat.le_of_ble_eq_true rfl) dX9_reckonRange_816 (fun hP H locs hw => ?_)
  cases h
  exact r_vret hC hw dX9_reckonRange_819
set_option maxHeartbeats 4000000 in
set_option maxRecDepth 100000 in
theorem w_X9_reckonRange_733 {r : Unit} {D' : dt} (hC : Cx RX9 cX9_reckonRange 24 none p s m args meth c) (hR : 5 ≤ R.frames ∧ 139 ≤ R.locals) : ∀ (os0 as0 : Nat) (xs1 : Int32) (xs2 : Int64) (xs3 : Int64) (D : dt) (H : Heap) (locs : List Loc) (ls : Array Slot), Is S ad os0 as0 8 → Wd G cA S D ad A s H locs → lv_has ls 24 [] → f_X9_reckonRange_733 S os0 xs1 xs2 xs3 D = some (r, D') → W p l e R s m args below meth c H locs 0 0 (MQ below (Qn none True (wpost G cA S D' ad A) A) args s 0 0 A) (F0 m 733 ls [.long xs3, .long xs2, .int xs1, .ref as0]) := by
  obtain ⟨hx, hb, -⟩ := id hC
  intro os0 as0 xs1 xs2 xs3 D H locs ls his0 hw hl h
  unfold f_X9_reckonRange_733 at h
  obtain ⟨_, D150, hq149, h⟩ := cq_i h
  refine r_cV (st' := []) [.int xs1, .long xs2, .long xs3] [] hC hw kc_8 his0 (k_X9_number _ his0 hq149) mk_X9_number lk_1496 ⟨Nat.le_trans (by decide) hR.1, Nat.le_trans (by decide) hR.2⟩ ⟨Nat.zero_le _, Nat.zero_le _⟩ rfl hl.1 rfl rfl (Nat.le_of_ble_eq_true rfl) dX9_reckonRange_733 (fun hP H locs hw => ?_)
  refine lv_goto (tgt := 819) hx hb dX9_reckonRange_736 (by decide) ?_
  cases h
  exact r_vret hC hw dX9_reckonRange_819
set_option maxHeartbeats 4000000 in
set_option maxRecDepth 100000 in
theorem w_X9_reckonRange_724 {r : Unit} {D' : dt} (hC : Cx RX9 cX9_reckonRange 24 none p s m args meth c) (hR : 5 ≤ R.frames ∧ 139 ≤ R.locals) : ∀ (x7 : Int64) (os0 as0 : Nat) (xs1 : Int32) (xs2 : Int64) (D : dt) (H : Heap) (locs : List Loc) (ls : Array Slot), Is S ad os0 as0 8 → Wd G cA S D ad A s H locs → lv_has ls 24 [(7, .long x7)] → f_X9_reckonRange_724 S x7 os0 xs1 xs2 D = some (r, D') → W p l e R s m args below meth c H locs 0 0 (MQ below (Qn none True (wpost G cA S D' ad A) A) args s 0 0 A) (F0 m 724 ls [.long xs2, .int xs1, .ref as0]) := by
  obtain ⟨hx, hb, -⟩ := id hC
  intro x7 os0 as0 xs1 xs2 D H locs ls his0 hw hl h
  unfold f_X9_reckonRange_724 at h
  refine lv_lload hx hb dX9_reckonRange_724 (lv_at hl 0 rfl) ?_
  refine lv_goto (tgt := 733) hx hb dX9_reckonRange_726 (by decide) ?_
  exact w_X9_reckonRange_733 hC hR os0 as0 xs1 xs2 x7 _ _ _ _ his0 hw (lv_sub hl [] rfl) h
set_option maxHeartbeats 4000000 in
set_option maxRecDepth 100000 in
theorem w_X9_reckonRange_714 {r : Unit} {D' : dt} (hC : Cx RX9 cX9_reckonRange 24 none p s m args meth c) (hR : 5 ≤ R.frames ∧ 139 ≤ R.locals) : ∀ (x7 : Int64) (x11 : Int64) (x22 : Int32) (x23 : Int32) (os0 as0 : Nat) (xs1 : Int32) (xs2 : Int64) (D : dt) (H : Heap) (locs : List Loc) (ls : Array Slot), Is S ad os0 as0 8 → Wd G cA S D ad A s H locs → lv_has ls 24 [(7, .long x7), (11, .long x11), (22, .int x22), (23, .int x23)] → f_X9_reckonRange_714 S x7 x11 x22 x23 os0 xs1 xs2 D = some (r, D') → W p l e R s m args below meth c H locs 0 0 (MQ below (Qn none True (wpost G cA S D' ad A) A) args s 0 0 A) (F0 m 714 ls [.long xs2, .int xs1, .ref as0]) := by
  obtain ⟨hx, hb, -⟩ := id hC
  intro x7 x11 x22 x23 os0 as0 xs1 xs2 D H locs ls his0 hw hl h
  unfold f_X9_reckonRange_714 at h
  refine lv_iload hx hb dX9_reckonRange_714 (lv_at hl 3 rfl) ?_
  refine lv_if_ne (tgt := 724) hx hb dX9_reckonRange_716 (by decide) (fun c151 => ?_) (fun c151 => ?_)
  · have h := i_no c151 h
    exact w_X9_reckonRange_724 hC hR x7 os0 as0 xs1 xs2 _ _ _ _ his0 hw (lv_sub hl [0] rfl) h
  · have h := i_yes c151 h
    refine lv_iload hx hb dX9_reckonRange_719 (lv_at hl 2 rfl) ?_
    refine lv_if_ne (tgt := 729) hx hb dX9_reckonRange_721 (by decide) (fun c152 => ?_) (fun c152 => ?_)
    · have h := i_no c152 h
      refine lv_lload hx hb dX9_reckonRange_729 (lv_at hl 1 rfl) ?_
      refine lv_lconst (v := 1) hx hb dX9_reckonRange_731 (by decide) ?_
      refine lv_lsub hx hb dX9_reckonRange_732 ?_
      exact w_X9_reckonRange_733 hC hR os0 as0 xs1 xs2 (x11 - (1 : Int64)) _ _ _ _ his0 hw (lv_sub hl [] rfl) h
    · have h := i_yes c152 h
      exact w_X9_reckonRange_724 hC hR x7 os0 as0 xs1 xs2 _ _ _ _ his0 hw (lv_sub hl [0] rfl) h
set_option maxHeartbeats 4000000 in
set_option maxRecDepth 100000 in
theorem w_X9_reckonRange_698 {r : Unit} {D' : dt} (hC : Cx RX9 cX9_reckonRange 24 none p s m args meth c) (hR : 5 ≤ R.frames ∧ 139 ≤ R.locals) : ∀ (o0 a0 : Nat) (x4 : Int32) (x5 : Int64) (x7 : Int64) (x11 : Int64) (x22 : Int32) (xs0 : Int32) (D : dt) (H : Heap) (locs : List Loc) (ls : Array Slot), Is S ad o0 a0 8 → Wd G cA S D ad A s H locs → lv_has ls 24 [(0, .ref a0), (4, .int x4), (5, .long x5), (7, .long x7), (11, .long x11), (22, .int x22)] → f_X9_reckonRange_698 S o0 x4 x5 x7 x11 x22 xs0 D = some (r, D') → W p l e R s m args below meth c H locs 0 0 (MQ below (Qn none True (wpost G cA S D' ad A) A) args s 0 0 A) (F0 m 698 ls [.int xs0]) := by
  obtain ⟨hx, hb, -⟩ := id hC
  intro o0 a0 x4 x5 x7 x11 x22 xs0 D H locs ls hi0 hw hl h
  unfold f_X9_reckonRange_698 at h
  refine lv_istore (lv' := [(23, .int xs0), (0, .ref a0), (4, .int x4), (5, .long x5), (7, .long x7), (11, .long x11), (22, .int x22)]) hx hb dX9_reckonRange_698 hl (by decide) rfl (fun ls hl => ?_)
  refine lv_aload_n hx hb dX9_reckonRange_700 rfl (lv_at hl 1 rfl) ?_
  refine lv_iload hx hb dX9_reckonRange_701 (lv_at hl 2 rfl) ?_
  refine lv_iload hx hb dX9_reckonRange_703 (lv_at hl 0 rfl) ?_
  refine lv_if_eq (tgt := 713) hx hb dX9_reckonRange_705 (by decide) (fun c153 => ?_) (fun c153 => ?_)
  · have h := i_yes c153 h
    refine lv_lconst (v := 0) hx hb dX9_reckonRange_713 (by decide) ?_
    exact w_X9_reckonRange_714 hC hR x7 x11 x22 xs0 o0 a0 x4 (0 : Int64) _ _ _ _ hi0 hw (lv_sub hl [4, 5, 6, 0] rfl) h
  · have h := i_no c153 h
    refine lv_lload hx hb dX9_reckonRange_708 (lv_at hl 3 rfl) ?_
    refine lv_goto (tgt := 714) hx hb dX9_reckonRange_710 (by decide) ?_
    exact w_X9_reckonRange_714 hC hR x7 x11 x22 xs0 o0 a0 x4 x5 _ _ _ _ hi0 hw (lv_sub hl [4, 5, 6, 0] rfl) h
set_option maxHeartbeats 4000000 in
set_option maxRecDepth 100000 in
theorem w_X9_reckonRange_697 {r : Unit} {D' : dt} (hC : Cx RX9 cX9_reckonRange 24 none p s m args meth c) (hR : 5 ≤ R.frames ∧ 139 ≤ R.locals) : ∀ (o0 a0 : Nat) (x4 : Int32) (x5 : Int64) (x7 : Int64) (x11 : Int64) (x22 : Int32) (D : dt) (H : Heap) (locs : List Loc) (ls : Array Slot), Is S ad o0 a0 8 → Wd G cA S D ad A s H locs → lv_has ls 24 [(0, .ref a0), (4, .int x4), (5, .long x5), (7, .long x7), (11, .long x11), (22, .int x22)] → f_X9_reckonRange_697 S o0 x4 x5 x7 x11 x22 D = some (r, D') → W p l e R s m args below meth c H locs 0 0 (MQ below (Qn none True (wpost G cA S D' ad A) A) args s 0 0 A) (F0 m 697 ls []) := by
  obtain ⟨hx, hb, -⟩ := id hC
  intro o0 a0 x4 x5 x7 x11 x22 D H locs ls hi0 hw hl h
  unfold f_X9_reckonRange_697 at h
  refine lv_iconst (v := 0) hx hb dX9_reckonRange_697 (by decide) ?_
  exact w_X9_reckonRange_698 hC hR o0 a0 x4 x5 x7 x11 x22 (0 : Int32) _ _ _ _ hi0 hw (lv_sub hl [0, 1, 2, 3, 4, 5] rfl) h
set_option maxHeartbeats 4000000 in
set_option maxRecDepth 100000 in
theorem w_X9_reckonRange_676 {r : Unit} {D' : dt} (hC : Cx RX9 cX9_reckonRange 24 none p s m args meth c) (hR : 5 ≤ R.frames ∧ 139 ≤ R.locals) : ∀ (o0 a0 : Nat) (x4 : Int32) (x5 : Int64) (x7 : Int64) (x11 : Int64) (xs0 : Int32) (D : dt) (H : Heap) (locs : List Loc) (ls : Array Slot), Is S ad o0 a0 8 → Wd G cA S D ad A s H locs → lv_has ls 24 [(0, .ref a0), (4, .int x4), (5, .long x5), (7, .long x7), (11, .long x11)] → f_X9_reckonRange_676 S o0 x4 x5 x7 x11 xs0 D = some (r, D') → W p l e R s m args below meth c H locs 0 0 (MQ below (Qn none True (wpost G cA S D' ad A) A) args s 0 0 A) (F0 m 676 ls [.int xs0]) := by
  obtain ⟨hx, hb, -⟩ := id hC
  intro o0 a0 x4 x5 x7 x11 xs0 D H locs ls hi0 hw hl h
  unfold f_X9_reckonRange_676 at h
  refine lv_istore (lv' := [(22, .int xs0), (0, .ref a0), (4, .int x4), (5, .long x5), (7, .long x7), (11, .long x11)]) hx hb dX9_reckonRange_676 hl (by decide) rfl (fun ls hl => ?_)
  refine lv_iload hx hb dX9_reckonRange_678 (lv_at hl 0 rfl) ?_
  refine lv_if_eq (tgt := 697) hx hb dX9_reckonRange_680 (by decide) (fun c154 => ?_) (fun c154 => ?_)
  · have h := i_yes c154 h
    exact w_X9_reckonRange_697 hC hR o0 a0 x4 x5 x7 x11 xs0 _ _ _ _ hi0 hw (lv_sub hl [1, 2, 3, 4, 5, 0] rfl) h
  · have h := i_no c154 h
    refine lv_lload hx hb dX9_reckonRange_683 (lv_at hl 4 rfl) ?_
    refine lv_lload hx hb dX9_reckonRange_685 (lv_at hl 5 rfl) ?_
    obtain ⟨r156, hq155, h⟩ := pq_i h
    refine r_cS (st' := [.int r156]) [.long x7, .long x11] [] hC hw (k_X9_isBelow _ hq155) mk_X9_isBelow lk_1358 ⟨Nat.le_trans (by decide) hR.1, Nat.le_trans (by decide) hR.2⟩ ⟨Nat.zero_le _, Nat.zero_le _⟩ rfl hl.1 rfl rfl (Nat.le_of_ble_eq_true rfl) dX9_reckonRange_687 (fun hP H locs hw => ?_)
    refine lv_if_eq (tgt := 697) hx hb dX9_reckonRange_690 (by decide) (fun c157 => ?_) (fun c157 => ?_)
    · have h := i_yes c157 h
      exact w_X9_reckonRange_697 hC hR o0 a0 x4 x5 x7 x11 xs0 _ _ _ _ hi0 hw (lv_sub hl [1, 2, 3, 4, 5, 0] rfl) h
    · have h := i_no c157 h
      refine lv_iconst (v := 1) hx hb dX9_reckonRange_693 (by decide) ?_
      refine lv_goto (tgt := 698) hx hb dX9_reckonRange_694 (by decide) ?_
      exact w_X9_reckonRange_698 hC hR o0 a0 x4 x5 x7 x11 xs0 (1 : Int32) _ _ _ _ hi0 hw (lv_sub hl [1, 2, 3, 4, 5, 0] rfl) h
set_option maxHeartbeats 4000000 in
set_option maxRecDepth 100000 in
theorem w_X9_reckonRange_675 {r : Unit} {D' : dt} (hC : Cx RX9 cX9_reckonRange 24 none p s m args meth c) (hR : 5 ≤ R.frames ∧ 139 ≤ R.locals) : ∀ (o0 a0 : Nat) (x4 : Int32) (x5 : Int64) (x7 : Int64) (x11 : Int64) (D : dt) (H : Heap) (locs : List Loc) (ls : Array Slot), Is S ad o0 a0 8 → Wd G cA S D ad A s H locs → lv_has ls 24 [(0, .ref a0), (4, .int x4), (5, .long x5), (7, .long x7), (11, .long x11)] → f_X9_reckonRange_675 S o0 x4 x5 x7 x11 D = some (r, D') → W p l e R s m args below meth c H locs 0 0 (MQ below (Qn none True (wpost G cA S D' ad A) A) args s 0 0 A) (F0 m 675 ls []) := by
  obtain ⟨hx, hb, -⟩ := id hC
  intro o0 a0 x4 x5 x7 x11 D H locs ls hi0 hw hl h
  unfold f_X9_reckonRange_675 at h
  refine lv_iconst (v := 0) hx hb dX9_reckonRange_675 (by decide) ?_
  exact w_X9_reckonRange_676 hC hR o0 a0 x4 x5 x7 x11 (0 : Int32) _ _ _ _ hi0 hw (lv_sub hl [0, 1, 2, 3, 4] rfl) h
set_option maxHeartbeats 4000000 in
set_option maxRecDepth 100000 in
theorem w_X9_reckonRange_644 {r : Unit} {D' : dt} (hC : Cx RX9 cX9_reckonRange 24 none p s m args meth c) (hR : 5 ≤ R.frames ∧ 139 ≤ R.locals) : ∀ (os0 as0 : Nat) (xs1 : Int32) (xs2 : Int64) (xs3 : Int64) (D : dt) (H : Heap) (locs : List Loc) (ls : Array Slot), Is S ad os0 as0 8 → Wd G cA S D ad A s H locs → lv_has ls 24 [] → f_X9_reckonRange_644 S os0 xs1 xs2 xs3 D = some (r, D') → W p l e R s m args below meth c H locs 0 0 (MQ below (Qn none True (wpost G cA S D' ad A) A) args s 0 0 A) (F0 m 644 ls [.long xs3, .long xs2, .int xs1, .ref as0]) := by
  obtain ⟨hx, hb, -⟩ := id hC
  intro os0 as0 xs1 xs2 xs3 D H locs ls his0 hw hl h
  unfold f_X9_reckonRange_644 at h
  obtain ⟨_, D159, hq158, h⟩ := cq_i h
  refine r_cV (st' := []) [.int xs1, .long xs2, .long xs3] [] hC hw kc_8 his0 (k_X9_number _ his0 hq158) mk_X9_number lk_1496 ⟨Nat.le_trans (by decide) hR.1, Nat.le_trans (by decide) hR.2⟩ ⟨Nat.zero_le _, Nat.zero_le _⟩ rfl hl.1 rfl rfl (Nat.le_of_ble_eq_true rfl) dX9_reckonRange_644 (fun hP H locs hw => ?_)
  refine lv_goto (tgt := 819) hx hb dX9_reckonRange_647 (by decide) ?_
  cases h
  exact r_vret hC hw dX9_reckonRange_819
set_option maxHeartbeats 4000000 in
set_option maxRecDepth 100000 in
theorem w_X9_reckonRange_627 {r : Unit} {D' : dt} (hC : Cx RX9 cX9_reckonRange 24 none p s m args meth c) (hR : 5 ≤ R.frames ∧ 139 ≤ R.locals) : ∀ (x7 : Int64) (x11 : Int64) (x22 : Int32) (os0 as0 : Nat) (xs1 : Int32) (xs2 : Int64) (D : dt) (H : Heap) (locs : List Loc) (ls : Array Slot), Is S ad os0 as0 8 → Wd G cA S D ad A s H locs → lv_has ls 24 [(7, .long x7), (11, .long x11), (22, .int x22)] → f_X9_reckonRange_627 S x7 x11 x22 os0 xs1 xs2 D = some (r, D') → W p l e R s m args below meth c H locs 0 0 (MQ below (Qn none True (wpost G cA S D' ad A) A) args s 0 0 A) (F0 m 627 ls [.long xs2, .int xs1, .ref as0]) := by
  obtain ⟨hx, hb, -⟩ := id hC
  intro x7 x11 x22 os0 as0 xs1 xs2 D H locs ls his0 hw hl h
  unfold f_X9_reckonRange_627 at h
  refine lv_iload hx hb dX9_reckonRange_627 (lv_at hl 2 rfl) ?_
  refine lv_if_eq (tgt := 642) hx hb dX9_reckonRange_629 (by decide) (fun c160 => ?_) (fun c160 => ?_)
  · have h := i_yes c160 h
    refine lv_lload hx hb dX9_reckonRange_642 (lv_at hl 0 rfl) ?_
    exact w_X9_reckonRange_644 hC hR os0 as0 xs1 xs2 x7 _ _ _ _ his0 hw (lv_sub hl [] rfl) h
  · have h := i_no c160 h
    refine lv_lload hx hb dX9_reckonRange_632 (lv_at hl 0 rfl) ?_
    refine lv_lload hx hb dX9_reckonRange_634 (lv_at hl 1 rfl) ?_
    obtain ⟨r162, hq161, h⟩ := pq_i h
    refine r_cS (st' := [.long r162, .long xs2, .int xs1, .ref as0]) [.long x7, .long x11] [.long xs2, .int xs1, .ref as0] hC hw (k_X9_over _ hq161) mk_X9_over lk_1355 ⟨Nat.le_trans (by decide) hR.1, Nat.le_trans (by decide) hR.2⟩ ⟨Nat.zero_le _, Nat.zero_le _⟩ rfl hl.1 rfl rfl (Nat.le_of_ble_eq_true rfl) dX9_reckonRange_636 (fun hP H locs hw => ?_)
    refine lv_goto (tgt := 644) hx hb dX9_reckonRange_639 (by decide) ?_
    exact w_X9_reckonRange_644 hC hR os0 as0 xs1 xs2 r162 _ _ _ _ his0 hw (lv_sub hl [] rfl) h
set_option maxHeartbeats 4000000 in
set_option maxRecDepth 100000 in
theorem w_X9_reckonRange_606 {r : Unit} {D' : dt} (hC : Cx RX9 cX9_reckonRange 24 none p s m args meth c) (hR : 5 ≤ R.frames ∧ 139 ≤ R.locals) : ∀ (o0 a0 : Nat) (x4 : Int32) (x5 : Int64) (x7 : Int64) (x11 : Int64) (xs0 : Int32) (D : dt) (H : Heap) (locs : List Loc) (ls : Array Slot), Is S ad o0 a0 8 → Wd G cA S D ad A s H locs → lv_has ls 24 [(0, .ref a0), (4, .int x4), (5, .long x5), (7, .long x7), (11, .long x11)] → f_X9_reckonRange_606 S o0 x4 x5 x7 x11 xs0 D = some (r, D') → W p l e R s m args below meth c H locs 0 0 (MQ below (Qn none True (wpost G cA S D' ad A) A) args s 0 0 A) (F0 m 606 ls [.int xs0]) := by
  obtain ⟨hx, hb, -⟩ := id hC
  intro o0 a0 x4 x5 x7 x11 xs0 D H locs ls hi0 hw hl h
  unfold f_X9_reckonRange_606 at h
  refine lv_istore (lv' := [(22, .int xs0), (0, .ref a0), (4, .int x4), (5, .long x5), (7, .long x7), (11, .long x11)]) hx hb dX9_reckonRange_606 hl (by decide) rfl (fun ls hl => ?_)
  refine lv_aload_n hx hb dX9_reckonRange_608 rfl (lv_at hl 1 rfl) ?_
  refine lv_iload hx hb dX9_reckonRange_609 (lv_at hl 2 rfl) ?_
  refine lv_iload hx hb dX9_reckonRange_611 (lv_at hl 0 rfl) ?_
  refine lv_if_eq (tgt := 626) hx hb dX9_reckonRange_613 (by decide) (fun c163 => ?_) (fun c163 => ?_)
  · have h := i_yes c163 h
    refine lv_lconst (v := 0) hx hb dX9_reckonRange_626 (by decide) ?_
    exact w_X9_reckonRange_627 hC hR x7 x11 xs0 o0 a0 x4 (0 : Int64) _ _ _ _ hi0 hw (lv_sub hl [4, 5, 0] rfl) h
  · have h := i_no c163 h
    refine lv_lload hx hb dX9_reckonRange_616 (lv_at hl 3 rfl) ?_
    refine lv_lload hx hb dX9_reckonRange_618 (lv_at hl 5 rfl) ?_
    obtain ⟨r165, hq164, h⟩ := pq_i h
    refine r_cS (st' := [.long r165, .int x4, .ref a0]) [.long x5, .long x11] [.int x4, .ref a0] hC hw (k_X9_over _ hq164) mk_X9_over lk_1355 ⟨Nat.le_trans (by decide) hR.1, Nat.le_trans (by decide) hR.2⟩ ⟨Nat.zero_le _, Nat.zero_le _⟩ rfl hl.1 rfl rfl (Nat.le_of_ble_eq_true rfl) dX9_reckonRange_620 (fun hP H locs hw => ?_)
    refine lv_goto (tgt := 627) hx hb dX9_reckonRange_623 (by decide) ?_
    exact w_X9_reckonRange_627 hC hR x7 x11 xs0 o0 a0 x4 r165 _ _ _ _ hi0 hw (lv_sub hl [4, 5, 0] rfl) h
set_option maxHeartbeats 4000000 in
set_option maxRecDepth 100000 in
theorem w_X9_reckonRange_605 {r : Unit} {D' : dt} (hC : Cx RX9 cX9_reckonRange 24 none p s m args meth c) (hR : 5 ≤ R.frames ∧ 139 ≤ R.locals) : ∀ (o0 a0 : Nat) (x4 : Int32) (x5 : Int64) (x7 : Int64) (x11 : Int64) (D : dt) (H : Heap) (locs : List Loc) (ls : Array Slot), Is S ad o0 a0 8 → Wd G cA S D ad A s H locs → lv_has ls 24 [(0, .ref a0), (4, .int x4), (5, .long x5), (7, .long x7), (11, .long x11)] → f_X9_reckonRange_605 S o0 x4 x5 x7 x11 D = some (r, D') → W p l e R s m args below meth c H locs 0 0 (MQ below (Qn none True (wpost G cA S D' ad A) A) args s 0 0 A) (F0 m 605 ls []) := by
  obtain ⟨hx, hb, -⟩ := id hC
  intro o0 a0 x4 x5 x7 x11 D H locs ls hi0 hw hl h
  unfold f_X9_reckonRange_605 at h
  refine lv_iconst (v := 0) hx hb dX9_reckonRange_605 (by decide) ?_
  exact w_X9_reckonRange_606 hC hR o0 a0 x4 x5 x7 x11 (0 : Int32) _ _ _ _ hi0 hw (lv_sub hl [0, 1, 2, 3, 4] rfl) h
set_option maxHeartbeats 4000000 in
set_option maxRecDepth 100000 in
theorem w_X9_reckonRange_390 {r : Unit} {D' : dt} (hC : Cx RX9 cX9_reckonRange 24 none p s m args meth c) (hR : 5 ≤ R.frames ∧ 139 ≤ R.locals) : ∀ (o0 a0 : Nat) (x1 : Int32) (x2 : Int32) (x3 : Int32) (x4 : Int32) (x5 : Int64) (x7 : Int64) (x9 : Int64) (x11 : Int64) (x18 : Int64) (x20 : Int32) (xs0 : Int32) (D : dt) (H : Heap) (locs : List Loc) (ls : Array Slot), Is S ad o0 a0 8 → Wd G cA S D ad A s H locs → lv_has ls 24 [(0, .ref a0), (1, .int x1), (2, .int x2), (3, .int x3), (4, .int x4), (5, .long x5), (7, .long x7), (9, .long x9), (11, .long x11), (18, .long x18), (20, .int x20)] → f_X9_reckonRange_390 S o0 x1 x2 x3 x4 x5 x7 x9 x11 x18 x20 xs0 D = some (r, D') → W p l e R s m args below meth c H locs 0 0 (MQ below (Qn none True (wpost G cA S D' ad A) A) args s 0 0 A) (F0 m 390 ls [.int xs0]) := by
  obtain ⟨hx, hb, -⟩ := id hC
  intro o0 a0 x1 x2 x3 x4 x5 x7 x9 x11 x18 x20 xs0 D H locs ls hi0 hw hl h
  unfold f_X9_reckonRange_390 at h
  refine lv_istore (lv' := [(21, .int xs0), (0, .ref a0), (1, .int x1), (2, .int x2), (3, .int x3), (4, .int x4), (5, .long x5), (7, .long x7), (9, .long x9), (11, .long x11), (18, .long x18), (20, .int x20)]) hx hb dX9_reckonRange_390 hl (by decide) rfl (fun ls hl => ?_)
  refine lv_iload_n hx hb dX9_reckonRange_392 rfl (lv_at hl 3 rfl) ?_
  by_cases c166 : x2 = 0
  · have h := i_yes c166 h
    refine lv_tableIn (off := 59) (tgt := 452) hx hb dX9_reckonRange_393 (by rw [c166]; decide) (by rw [c166]; decide) (by rw [c166] <;> rfl) (by decide) ?_
    refine lv_lload hx hb dX9_reckonRange_452 (lv_at hl 7 rfl) ?_
    refine lv_lload hx hb dX9_reckonRange_454 (lv_at hl 9 rfl) ?_
    refine lv_ladd hx hb dX9_reckonRange_456 ?_
    refine lv_lload hx hb dX9_reckonRange_457 (lv_at hl 7 rfl) ?_
    obtain ⟨r168, hq167, h⟩ := pq_i h
    refine r_cS (st' := [.int r168]) [.long (x7 + x11), .long x7] [] hC hw (k_X9_isBelow _ hq167) mk_X9_isBelow lk_1358 ⟨Nat.le_trans (by decide) hR.1, Nat.le_trans (by decide) hR.2⟩ ⟨Nat.zero_le _, Nat.zero_le _⟩ rfl hl.1 rfl rfl (Nat.le_of_ble_eq_true rfl) dX9_reckonRange_459 (fun hP H locs hw => ?_)
    refine lv_if_ne (tgt := 819) hx hb dX9_reckonRange_462 (by decide) (fun c169 => ?_) (fun c169 => ?_)
    · have h := i_no c169 h
      cases h
      exact r_vret hC hw dX9_reckonRange_819
    · have h := i_yes c169 h
      refine lv_lload hx hb dX9_reckonRange_465 (lv_at hl 10 rfl) ?_
      refine lv_lload hx hb dX9_reckonRange_467 (lv_at hl 7 rfl) ?_
      refine lv_lload hx hb dX9_reckonRange_469 (lv_at hl 9 rfl) ?_
      refine lv_ladd hx hb dX9_reckonRange_471 ?_
      obtain ⟨r171, hq170, h⟩ := pq_i h
      refine r_cS (st' := [.int r171]) [.long x18, .long (x7 + x11)] [] hC hw (k_X9_isBelow _ hq170) mk_X9_isBelow lk_1358 ⟨Nat.le_trans (by decide) hR.1, Nat.le_trans (by decide) hR.2⟩ ⟨Nat.zero_le _, Nat.zero_le _⟩ rfl hl.1 rfl rfl (Nat.le_of_ble_eq_true rfl) dX9_reckonRange_472 (fun hP H locs hw => ?_)
      refine lv_if_ne (tgt := 819) hx hb dX9_reckonRange_475 (by decide) (fun c172 => ?_) (fun c172 => ?_)
      · have h := i_no c172 h
        cases h
        exact r_vret hC hw dX9_reckonRange_819
      · have h := i_yes c172 h
        refine lv_aload_n hx hb dX9_reckonRange_478 rfl (lv_at hl 1 rfl) ?_
        refine lv_iload hx hb dX9_reckonRange_479 (lv_at hl 5 rfl) ?_
        refine lv_lload hx hb dX9_reckonRange_481 (lv_at hl 6 rfl) ?_
        refine lv_lload hx hb dX9_reckonRange_483 (lv_at hl 8 rfl) ?_
        refine lv_ladd hx hb dX9_reckonRange_485 ?_
        refine lv_lload hx hb dX9_reckonRange_486 (lv_at hl 7 rfl) ?_
        refine lv_lload hx hb dX9_reckonRange_488 (lv_at hl 9 rfl) ?_
        refine lv_ladd hx hb dX9_reckonRange_490 ?_
        obtain ⟨_, D174, hq173, h⟩ := cq_i h
        refine r_cV (st' := []) [.int x4, .long (x5 + x9), .long (x7 + x11)] [] hC hw kc_8 hi0 (k_X9_number _ hi0 hq173) mk_X9_number lk_1496 ⟨Nat.le_trans (by decide) hR.1, Nat.le_trans (by decide) hR.2⟩ ⟨Nat.zero_le _, Nat.zero_le _⟩ rfl hl.1 rfl rfl (Nat.le_of_ble_eq_true rfl) dX9_reckonRange_491 (fun hP H locs hw => ?_)
        refine lv_goto (tgt := 819) hx hb dX9_reckonRange_494 (by decide) ?_
        cases h
        exact r_vret hC hw dX9_reckonRange_819
  have h := i_no c166 h
  by_cases c175 : x2 = 1
  · have h := i_yes c175 h
    refine lv_tableIn (off := 104) (tgt := 497) hx hb dX9_reckonRange_393 (by rw [c175]; decide) (by rw [c175]; decide) (by rw [c175] <;> rfl) (by decide) ?_
    refine lv_lload hx hb dX9_reckonRange_497 (lv_at hl 6 rfl) ?_
    refine lv_lload hx hb dX9_reckonRange_499 (lv_at hl 9 rfl) ?_
    obtain ⟨r177, hq176, h⟩ := pq_i h
    refine r_cS (st' := [.int r177]) [.long x5, .long x11] [] hC hw (k_X9_isBelow _ hq176) mk_X9_isBelow lk_1358 ⟨Nat.le_trans (by decide) hR.1, Nat.le_trans (by decide) hR.2⟩ ⟨Nat.zero_le _, Nat.zero_le _⟩ rfl hl.1 rfl rfl (Nat.le_of_ble_eq_true rfl) dX9_reckonRange_501 (fun hP H locs hw => ?_)
    refine lv_if_ne (tgt := 819) hx hb dX9_reckonRange_504 (by decide) (fun c178 => ?_) (fun c178 => ?_)
    · have h := i_no c178 h
      cases h
      exact r_vret hC hw dX9_reckonRange_819
    · have h := i_yes c178 h
      refine lv_aload_n hx hb dX9_reckonRange_507 rfl (lv_at hl 1 rfl) ?_
      refine lv_iload hx hb dX9_reckonRange_508 (lv_at hl 5 rfl) ?_
      refine lv_lload hx hb dX9_reckonRange_510 (lv_at hl 6 rfl) ?_
      refine lv_lload hx hb dX9_reckonRange_512 (lv_at hl 9 rfl) ?_
      refine lv_lsub hx hb dX9_reckonRange_514 ?_
      refine lv_lload hx hb dX9_reckonRange_515 (lv_at hl 7 rfl) ?_
      refine lv_lload hx hb dX9_reckonRange_517 (lv_at hl 8 rfl) ?_
      refine lv_lsub hx hb dX9_reckonRange_519 ?_
      obtain ⟨_, D180, hq179, h⟩ := cq_i h
      refine r_cV (st' := []) [.int x4, .long (x5 - x11), .long (x7 - x9)] [] hC hw kc_8 hi0 (k_X9_number _ hi0 hq179) mk_X9_number lk_1496 ⟨Nat.le_trans (by decide) hR.1, Nat.le_trans (by decide) hR.2⟩ ⟨Nat.zero_le _, Nat.zero_le _⟩ rfl hl.1 rfl rfl (Nat.le_of_ble_eq_true rfl) dX9_reckonRange_520 (fun hP H locs hw => ?_)
      refine lv_goto (tgt := 819) hx hb dX9_reckonRange_523 (by decide) ?_
      cases h
      exact r_vret hC hw dX9_reckonRange_819
  have h := i_no c175 h
  by_cases c181 : x2 = 2
  · have h := i_yes c181 h
    refine lv_tableIn (off := 133) (tgt := 526) hx hb dX9_reckonRange_393 (by rw [c181]; decide) (by rw [c181]; decide) (by rw [c181] <;> rfl) (by decide) ?_
    refine lv_ldc2 (v := 4294967295) hx hb hC.2.2.2.1 (hC.2.2.2.2.1 _ lk_1347) dX9_reckonRange_526 ?_
    refine lv_lload hx hb dX9_reckonRange_529 (lv_at hl 7 rfl) ?_
    obtain ⟨r183, hq182, h⟩ := pq_i h
    refine r_cS (st' := [.int r183]) [.long (4294967295 : Int64), .long x7] [] hC hw (k_X9_isBelow _ hq182) mk_X9_isBelow lk_1358 ⟨Nat.le_trans (by decide) hR.1, Nat.le_trans (by decide) hR.2⟩ ⟨Nat.zero_le _, Nat.zero_le _⟩ rfl hl.1 rfl rfl (Nat.le_of_ble_eq_true rfl) dX9_reckonRange_531 (fun hP H locs hw => ?_)
    refine lv_if_ne (tgt := 819) hx hb dX9_reckonRange_534 (by decide) (fun c184 => ?_) (fun c184 => ?_)
    · have h := i_no c184 h
      cases h
      exact r_vret hC hw dX9_reckonRange_819
    · have h := i_yes c184 h
      refine lv_ldc2 (v := 4294967295) hx hb hC.2.2.2.1 (hC.2.2.2.2.1 _ lk_1347) dX9_reckonRange_537 ?_
      refine lv_lload hx hb dX9_reckonRange_540 (lv_at hl 9 rfl) ?_
      obtain ⟨r186, hq185, h⟩ := pq_i h
      refine r_cS (st' := [.int r186]) [.long (4294967295 : Int64), .long x11] [] hC hw (k_X9_isBelow _ hq185) mk_X9_isBelow lk_1358 ⟨Nat.le_trans (by decide) hR.1, Nat.le_trans (by decide) hR.2⟩ ⟨Nat.zero_le _, Nat.zero_le _⟩ rfl hl.1 rfl rfl (Nat.le_of_ble_eq_true rfl) dX9_reckonRange_542 (fun hP H locs hw => ?_)
      refine lv_if_ne (tgt := 819) hx hb dX9_reckonRange_545 (by decide) (fun c187 => ?_) (fun c187 => ?_)
      · have h := i_no c187 h
        cases h
        exact r_vret hC hw dX9_reckonRange_819
      · have h := i_yes c187 h
        refine lv_lload hx hb dX9_reckonRange_548 (lv_at hl 10 rfl) ?_
        refine lv_lload hx hb dX9_reckonRange_550 (lv_at hl 7 rfl) ?_
        refine lv_lload hx hb dX9_reckonRange_552 (lv_at hl 9 rfl) ?_
        refine lv_lmul hx hb dX9_reckonRange_554 ?_
        obtain ⟨r189, hq188, h⟩ := pq_i h
        refine r_cS (st' := [.int r189]) [.long x18, .long (x7 * x11)] [] hC hw (k_X9_isBelow _ hq188) mk_X9_isBelow lk_1358 ⟨Nat.le_trans (by decide) hR.1, Nat.le_trans (by decide) hR.2⟩ ⟨Nat.zero_le _, Nat.zero_le _⟩ rfl hl.1 rfl rfl (Nat.le_of_ble_eq_true rfl) dX9_reckonRange_555 (fun hP H locs hw => ?_)
        refine lv_if_ne (tgt := 819) hx hb dX9_reckonRange_558 (by decide) (fun c190 => ?_) (fun c190 => ?_)
        · have h := i_no c190 h
          cases h
          exact r_vret hC hw dX9_reckonRange_819
        · have h := i_yes c190 h
          refine lv_aload_n hx hb dX9_reckonRange_561 rfl (lv_at hl 1 rfl) ?_
          refine lv_iload hx hb dX9_reckonRange_562 (lv_at hl 5 rfl) ?_
          refine lv_lload hx hb dX9_reckonRange_564 (lv_at hl 6 rfl) ?_
          refine lv_lload hx hb dX9_reckonRange_566 (lv_at hl 8 rfl) ?_
          refine lv_lmul hx hb dX9_reckonRange_568 ?_
          refine lv_lload hx hb dX9_reckonRange_569 (lv_at hl 7 rfl) ?_
          refine lv_lload hx hb dX9_reckonRange_571 (lv_at hl 9 rfl) ?_
          refine lv_lmul hx hb dX9_reckonRange_573 ?_
          obtain ⟨_, D192, hq191, h⟩ := cq_i h
          refine r_cV (st' := []) [.int x4, .long (x5 * x9), .long (x7 * x11)] [] hC hw kc_8 hi0 (k_X9_number _ hi0 hq191) mk_X9_number lk_1496 ⟨Nat.le_trans (by decide) hR.1, Nat.le_trans (by decide) hR.2⟩ ⟨Nat.zero_le _, Nat.zero_le _⟩ rfl hl.1 rfl rfl (Nat.le_of_ble_eq_true rfl) dX9_reckonRange_574 (fun hP H locs hw => ?_)
          refine lv_goto (tgt := 819) hx hb dX9_reckonRange_577 (by decide) ?_
          cases h
          exact r_vret hC hw dX9_reckonRange_819
  have h := i_no c181 h
  by_cases c193 : x2 = 3
  · have h := i_yes c193 h
    refine lv_tableIn (off := 187) (tgt := 580) hx hb dX9_reckonRange_393 (by rw [c193]; decide) (by rw [c193]; decide) (by rw [c193] <;> rfl) (by decide) ?_
    refine lv_aload_n hx hb dX9_reckonRange_580 rfl (lv_at hl 1 rfl) ?_
    obtain ⟨o194, ho197, h⟩ := rq_i h
    refine r_getR hC hw kc_8 hi0 4 rfl lk_1076 dX9_reckonRange_581 rfl ho197 (fun a195 hi196 => ?_)
    refine lv_iload_n hx hb dX9_reckonRange_584 rfl (lv_at hl 2 rfl) ?_
    obtain ⟨hn198, h⟩ := ix_i h
    refine r_iald hC hw hi196 hn198 dX9_reckonRange_585 ?_
    refine lv_if_ne (tgt := 819) hx hb dX9_reckonRange_586 (by decide) (fun c199 => ?_) (fun c199 => ?_)
    · have h := i_no c199 h
      cases h
      exact r_vret hC hw dX9_reckonRange_819
    · have h := i_yes c199 h
      refine lv_iload hx hb dX9_reckonRange_589 (lv_at hl 0 rfl) ?_
      refine lv_if_eq (tgt := 605) hx hb dX9_reckonRange_591 (by decide) (fun c200 => ?_) (fun c200 => ?_)
      · have h := i_yes c200 h
        exact w_X9_reckonRange_605 hC hR o0 a0 x4 x5 x7 x11 _ _ _ _ hi0 hw (lv_sub hl [1, 5, 6, 7, 9] rfl) h
      · have h := i_no c200 h
        refine lv_lload hx hb dX9_reckonRange_594 (lv_at hl 9 rfl) ?_
        refine lv_lconst (v := 0) hx hb dX9_reckonRange_596 (by decide) ?_
        refine W.lcmp hx hb dX9_reckonRange_597 ?_
        refine lv_if_eq (tgt := 605) hx hb dX9_reckonRange_598 (by decide) (fun c201 => ?_) (fun c201 => ?_)
        · have h := i_yes c201 h
          exact w_X9_reckonRange_605 hC hR o0 a0 x4 x5 x7 x11 _ _ _ _ hi0 hw (lv_sub hl [1, 5, 6, 7, 9] rfl) h
        · have h := i_no c201 h
          refine lv_iconst (v := 1) hx hb dX9_reckonRange_601 (by decide) ?_
          refine lv_goto (tgt := 606) hx hb dX9_reckonRange_602 (by decide) ?_
          exact w_X9_reckonRange_606 hC hR o0 a0 x4 x5 x7 x11 (1 : Int32) _ _ _ _ hi0 hw (lv_sub hl [1, 5, 6, 7, 9] rfl) h
  have h := i_no c193 h
  by_cases c202 : x2 = 4
  · have h := i_yes c202 h
    refine lv_tableIn (off := 363) (tgt := 756) hx hb dX9_reckonRange_393 (by rw [c202]; decide) (by rw [c202]; decide) (by rw [c202] <;> rfl) (by decide) ?_
    refine lv_aload_n hx hb dX9_reckonRange_756 rfl (lv_at hl 1 rfl) ?_
    refine lv_iload hx hb dX9_reckonRange_757 (lv_at hl 5 rfl) ?_
    refine lv_lload hx hb dX9_reckonRange_759 (lv_at hl 6 rfl) ?_
    refine lv_lload hx hb dX9_reckonRange_761 (lv_at hl 8 rfl) ?_
    obtain ⟨r204, hq203, h⟩ := pq_i h
    refine r_cS (st' := [.long r204, .int x4, .ref a0]) [.long x5, .long x9] [.int x4, .ref a0] hC hw (k_X9_greater _ hq203) mk_X9_greater lk_1469 ⟨Nat.le_trans (by decide) hR.1, Nat.le_trans (by decide) hR.2⟩ ⟨Nat.zero_le _, Nat.zero_le _⟩ rfl hl.1 rfl rfl (Nat.le_of_ble_eq_true rfl) dX9_reckonRange_763 (fun hP H locs hw => ?_)
    refine lv_lload hx hb dX9_reckonRange_766 (lv_at hl 7 rfl) ?_
    refine lv_lload hx hb dX9_reckonRange_768 (lv_at hl 9 rfl) ?_
    obtain ⟨r206, hq205, h⟩ := pq_i h
    refine r_cS (st' := [.long r206, .long r204, .int x4, .ref a0]) [.long x7, .long x11] [.long r204, .int x4, .ref a0] hC hw (k_X9_greater _ hq205) mk_X9_greater lk_1469 ⟨Nat.le_trans (by decide) hR.1, Nat.le_trans (by decide) hR.2⟩ ⟨Nat.zero_le _, Nat.zero_le _⟩ rfl hl.1 rfl rfl (Nat.le_of_ble_eq_true rfl) dX9_reckonRange_770 (fun hP H locs hw => ?_)
    obtain ⟨r208, hq207, h⟩ := pq_i h
    refine r_cS (st' := [.long r208, .long r204, .int x4, .ref a0]) [.long r206] [.long r204, .int x4, .ref a0] hC hw (k_X9_mask _ hq207) mk_X9_mask lk_1500 ⟨Nat.le_trans (by decide) hR.1, Nat.le_trans (by decide) hR.2⟩ ⟨Nat.zero_le _, Nat.zero_le _⟩ rfl hl.1 rfl rfl (Nat.le_of_ble_eq_true rfl) dX9_reckonRange_773 (fun hP H locs hw => ?_)
    obtain ⟨_, D210, hq209, h⟩ := cq_i h
    refine r_cV (st' := []) [.int x4, .long r204, .long r208] [] hC hw kc_8 hi0 (k_X9_number _ hi0 hq209) mk_X9_number lk_1496 ⟨Nat.le_trans (by decide) hR.1, Nat.le_trans (by decide) hR.2⟩ ⟨Nat.zero_le _, Nat.zero_le _⟩ rfl hl.1 rfl rfl (Nat.le_of_ble_eq_true rfl) dX9_reckonRange_776 (fun hP H locs hw => ?_)
    refine lv_goto (tgt := 819) hx hb dX9_reckonRange_779 (by decide) ?_
    cases h
    exact r_vret hC hw dX9_reckonRange_819
  have h := i_no c202 h
  by_cases c211 : x2 = 5
  · have h := i_yes c211 h
    refine lv_tableIn (off := 346) (tgt := 739) hx hb dX9_reckonRange_393 (by rw [c211]; decide) (by rw [c211]; decide) (by rw [c211] <;> rfl) (by decide) ?_
    refine lv_aload_n hx hb dX9_reckonRange_739 rfl (lv_at hl 1 rfl) ?_
    refine lv_iload hx hb dX9_reckonRange_740 (lv_at hl 5 rfl) ?_
    refine lv_lconst (v := 0) hx hb dX9_reckonRange_742 (by decide) ?_
    refine lv_lload hx hb dX9_reckonRange_743 (lv_at hl 7 rfl) ?_
    refine lv_lload hx hb dX9_reckonRange_745 (lv_at hl 9 rfl) ?_
    obtain ⟨r213, hq212, h⟩ := pq_i h
    refine r_cS (st' := [.long r213, .long (0 : Int64), .int x4, .ref a0]) [.long x7, .long x11] [.long (0 : Int64), .int x4, .ref a0] hC hw (k_X9_lesser _ hq212) mk_X9_lesser lk_1466 ⟨Nat.le_trans (by decide) hR.1, Nat.le_trans (by decide) hR.2⟩ ⟨Nat.zero_le _, Nat.zero_le _⟩ rfl hl.1 rfl rfl (Nat.le_of_ble_eq_true rfl) dX9_reckonRange_747 (fun hP H locs hw => ?_)
    obtain ⟨_, D215, hq214, h⟩ := cq_i h
    refine r_cV (st' := []) [.int x4, .long (0 : Int64), .long r213] [] hC hw kc_8 hi0 (k_X9_number _ hi0 hq214) mk_X9_number lk_1496 ⟨Nat.le_trans (by decide) hR.1, Nat.le_trans (by decide) hR.2⟩ ⟨Nat.zero_le _, Nat.zero_le _⟩ rfl hl.1 rfl rfl (Nat.le_of_ble_eq_true rfl) dX9_reckonRange_750 (fun hP H locs hw => ?_)
    refine lv_goto (tgt := 819) hx hb dX9_reckonRange_753 (by decide) ?_
    cases h
    exact r_vret hC hw dX9_reckonRange_819
  have h := i_no c211 h
  by_cases c216 : x2 = 6
  · have h := i_yes c216 h
    refine lv_tableIn (off := 409) (tgt := 802) hx hb dX9_reckonRange_393 (by rw [c216]; decide) (by rw [c216]; decide) (by rw [c216] <;> rfl) (by decide) ?_
    exact w_X9_reckonRange_802 hC hR o0 a0 x1 x2 x3 x5 x7 x9 x11 x20 _ _ _ _ hi0 hw (lv_sub hl [1, 2, 3, 4, 6, 7, 8, 9, 11] rfl) h
  have h := i_no c216 h
  by_cases c217 : x2 = 7
  · have h := i_yes c217 h
    refine lv_tableIn (off := 409) (tgt := 802) hx hb dX9_reckonRange_393 (by rw [c217]; decide) (by rw [c217]; decide) (by rw [c217] <;> rfl) (by decide) ?_
    exact w_X9_reckonRange_802 hC hR o0 a0 x1 x2 x3 x5 x7 x9 x11 x20 _ _ _ _ hi0 hw (lv_sub hl [1, 2, 3, 4, 6, 7, 8, 9, 11] rfl) h
  have h := i_no c217 h
  by_cases c218 : x2 = 8
  · have h := i_yes c218 h
    refine lv_tableIn (off := 409) (tgt := 802) hx hb dX9_reckonRange_393 (by rw [c218]; decide) (by rw [c218]; decide) (by rw [c218] <;> rfl) (by decide) ?_
    exact w_X9_reckonRange_802 hC hR o0 a0 x1 x2 x3 x5 x7 x9 x11 x20 _ _ _ _ hi0 hw (lv_sub hl [1, 2, 3, 4, 6, 7, 8, 9, 11] rfl) h
  have h := i_no c218 h
  by_cases c219 : x2 = 9
  · have h := i_yes c219 h
    refine lv_tableIn (off := 257) (tgt := 650) hx hb dX9_reckonRange_393 (by rw [c219]; decide) (by rw [c219]; decide) (by rw [c219] <;> rfl) (by decide) ?_
    refine lv_aload_n hx hb dX9_reckonRange_650 rfl (lv_at hl 1 rfl) ?_
    obtain ⟨o220, ho223, h⟩ := rq_i h
    refine r_getR hC hw kc_8 hi0 4 rfl lk_1076 dX9_reckonRange_651 rfl ho223 (fun a221 hi222 => ?_)
    refine lv_iload_n hx hb dX9_reckonRange_654 rfl (lv_at hl 2 rfl) ?_
    obtain ⟨hn224, h⟩ := ix_i h
    refine r_iald hC hw hi222 hn224 dX9_reckonRange_655 ?_
    refine lv_if_ne (tgt := 819) hx hb dX9_reckonRange_656 (by decide) (fun c225 => ?_) (fun c225 => ?_)
    · have h := i_no c225 h
      cases h
      exact r_vret hC hw dX9_reckonRange_819
    · have h := i_yes c225 h
      refine lv_iload hx hb dX9_reckonRange_659 (lv_at hl 0 rfl) ?_
      refine lv_if_eq (tgt := 675) hx hb dX9_reckonRange_661 (by decide) (fun c226 => ?_) (fun c226 => ?_)
      · have h := i_yes c226 h
        exact w_X9_reckonRange_675 hC hR o0 a0 x4 x5 x7 x11 _ _ _ _ hi0 hw (lv_sub hl [1, 5, 6, 7, 9] rfl) h
      · have h := i_no c226 h
        refine lv_lload hx hb dX9_reckonRange_664 (lv_at hl 9 rfl) ?_
        refine lv_lconst (v := 0) hx hb dX9_reckonRange_666 (by decide) ?_
        refine W.lcmp hx hb dX9_reckonRange_667 ?_
        refine lv_if_eq (tgt := 675) hx hb dX9_reckonRange_668 (by decide) (fun c227 => ?_) (fun c227 => ?_)
        · have h := i_yes c227 h
          exact w_X9_reckonRange_675 hC hR o0 a0 x4 x5 x7 x11 _ _ _ _ hi0 hw (lv_sub hl [1, 5, 6, 7, 9] rfl) h
        · have h := i_no c227 h
          refine lv_iconst (v := 1) hx hb dX9_reckonRange_671 (by decide) ?_
          refine lv_goto (tgt := 676) hx hb dX9_reckonRange_672 (by decide) ?_
          exact w_X9_reckonRange_676 hC hR o0 a0 x4 x5 x7 x11 (1 : Int32) _ _ _ _ hi0 hw (lv_sub hl [1, 5, 6, 7, 9] rfl) h
  have h := i_no c219 h
  by_cases c228 : x2 = 10
  · have h := i_yes c228 h
    refine lv_tableIn (off := 389) (tgt := 782) hx hb dX9_reckonRange_393 (by rw [c228]; decide) (by rw [c228]; decide) (by rw [c228] <;> rfl) (by decide) ?_
    refine lv_aload_n hx hb dX9_reckonRange_782 rfl (lv_at hl 1 rfl) ?_
    refine lv_iload hx hb dX9_reckonRange_783 (lv_at hl 5 rfl) ?_
    refine lv_lconst (v := 0) hx hb dX9_reckonRange_785 (by decide) ?_
    refine lv_lload hx hb dX9_reckonRange_786 (lv_at hl 7 rfl) ?_
    refine lv_lload hx hb dX9_reckonRange_788 (lv_at hl 9 rfl) ?_
    obtain ⟨r230, hq229, h⟩ := pq_i h
    refine r_cS (st' := [.long r230, .long (0 : Int64), .int x4, .ref a0]) [.long x7, .long x11] [.long (0 : Int64), .int x4, .ref a0] hC hw (k_X9_greater _ hq229) mk_X9_greater lk_1469 ⟨Nat.le_trans (by decide) hR.1, Nat.le_trans (by decide) hR.2⟩ ⟨Nat.zero_le _, Nat.zero_le _⟩ rfl hl.1 rfl rfl (Nat.le_of_ble_eq_true rfl) dX9_reckonRange_790 (fun hP H locs hw => ?_)
    obtain ⟨r232, hq231, h⟩ := pq_i h
    refine r_cS (st' := [.long r232, .long (0 : Int64), .int x4, .ref a0]) [.long r230] [.long (0 : Int64), .int x4, .ref a0] hC hw (k_X9_mask _ hq231) mk_X9_mask lk_1500 ⟨Nat.le_trans (by decide) hR.1, Nat.le_trans (by decide) hR.2⟩ ⟨Nat.zero_le _, Nat.zero_le _⟩ rfl hl.1 rfl rfl (Nat.le_of_ble_eq_true rfl) dX9_reckonRange_793 (fun hP H locs hw => ?_)
    obtain ⟨_, D234, hq233, h⟩ := cq_i h
    refine r_cV (st' := []) [.int x4, .long (0 : Int64), .long r232] [] hC hw kc_8 hi0 (k_X9_number _ hi0 hq233) mk_X9_number lk_1496 ⟨Nat.le_trans (by decide) hR.1, Nat.le_trans (by decide) hR.2⟩ ⟨Nat.zero_le _, Nat.zero_le _⟩ rfl hl.1 rfl rfl (Nat.le_of_ble_eq_true rfl) dX9_reckonRange_796 (fun hP H locs hw => ?_)
    refine lv_goto (tgt := 819) hx hb dX9_reckonRange_799 (by decide) ?_
    cases h
    exact r_vret hC hw dX9_reckonRange_819
  have h := i_no c228 h
  refine lv_tableOut (tgt := 802) hx hb dX9_reckonRange_393 (by have nc166 := lv_neT c166 (a := 0) rfl; have nc175 := lv_neT c175 (a := 1) rfl; have nc181 := lv_neT c181 (a := 2) rfl; have nc193 := lv_neT c193 (a := 3) rfl; have nc202 := lv_neT c202 (a := 4) rfl; have nc211 := lv_neT c211 (a := 5) rfl; have nc216 := lv_neT c216 (a := 6) rfl; have nc217 := lv_neT c217 (a := 7) rfl; have nc218 := lv_neT c218 (a := 8) rfl; have nc219 := lv_neT c219 (a := 9) rfl; have nc228 := lv_neT c228 (a := 10) rfl; omega) (by decide) ?_
  exact w_X9_reckonRange_802 hC hR o0 a0 x1 x2 x3 x5 x7 x9 x11 x20 _ _ _ _ hi0 hw (lv_sub hl [1, 2, 3, 4, 6, 7, 8, 9, 11] rfl) h
set_option maxHeartbeats 4000000 in
set_option maxRecDepth 100000 in
theorem w_X9_reckonRange_374 {r : Unit} {D' : dt} (hC : Cx RX9 cX9_reckonRange 24 none p s m args meth c) (hR : 5 ≤ R.frames ∧ 139 ≤ R.locals) : ∀ (o0 a0 : Nat) (x1 : Int32) (x2 : Int32) (x3 : Int32) (x4 : Int32) (x5 : Int64) (x7 : Int64) (x9 : Int64) (x11 : Int64) (x18 : Int64) (xs0 : Int32) (xs1 : Int32) (D : dt) (H : Heap) (locs : List Loc) (ls : Array Slot), Is S ad o0 a0 8 → Wd G cA S D ad A s H locs → lv_has ls 24 [(0, .ref a0), (1, .int x1), (2, .int x2), (3, .int x3), (4, .int x4), (5, .long x5), (7, .long x7), (9, .long x9), (11, .long x11), (18, .long x18)] → f_X9_reckonRange_374 S o0 x1 x2 x3 x4 x5 x7 x9 x11 x18 xs0 xs1 D = some (r, D') → W p l e R s m args below meth c H locs 0 0 (MQ below (Qn none True (wpost G cA S D' ad A) A) args s 0 0 A) (F0 m 374 ls [.int xs1, .int xs0]) := by
  obtain ⟨hx, hb, -⟩ := id hC
  intro o0 a0 x1 x2 x3 x4 x5 x7 x9 x11 x18 xs0 xs1 D H locs ls hi0 hw hl h
  unfold f_X9_reckonRange_374 at h
  refine lv_iand hx hb dX9_reckonRange_374 ?_
  refine lv_topi (fun y235 ey235 => ?_)
  have h := nm_i h y235 ey235
  refine lv_istore (lv' := [(20, .int y235), (0, .ref a0), (1, .int x1), (2, .int x2), (3, .int x3), (4, .int x4), (5, .long x5), (7, .long x7), (9, .long x9), (11, .long x11), (18, .long x18)]) hx hb dX9_reckonRange_375 hl (by decide) rfl (fun ls hl => ?_)
  refine lv_lload hx hb dX9_reckonRange_377 (lv_at hl 8 rfl) ?_
  refine lv_lload hx hb dX9_reckonRange_379 (lv_at hl 9 rfl) ?_
  refine W.lcmp hx hb dX9_reckonRange_381 ?_
  refine lv_if_ne (tgt := 389) hx hb dX9_reckonRange_382 (by decide) (fun c236 => ?_) (fun c236 => ?_)
  · have h := i_no c236 h
    refine lv_iconst (v := 0) hx hb dX9_reckonRange_389 (by decide) ?_
    exact w_X9_reckonRange_390 hC hR o0 a0 x1 x2 x3 x4 x5 x7 x9 x11 x18 y235 (0 : Int32) _ _ _ _ hi0 hw (lv_sub hl [1, 2, 3, 4, 5, 6, 7, 8, 9, 10, 0] rfl) h
  · have h := i_yes c236 h
    refine lv_iconst (v := 1) hx hb dX9_reckonRange_385 (by decide) ?_
    refine lv_goto (tgt := 390) hx hb dX9_reckonRange_386 (by decide) ?_
    exact w_X9_reckonRange_390 hC hR o0 a0 x1 x2 x3 x4 x5 x7 x9 x11 x18 y235 (1 : Int32) _ _ _ _ hi0 hw (lv_sub hl [1, 2, 3, 4, 5, 6, 7, 8, 9, 10, 0] rfl) h
set_option maxHeartbeats 4000000 in
set_option maxRecDepth 100000 in
theorem w_X9_reckonRange_349 {r : Unit} {D' : dt} (hC : Cx RX9 cX9_reckonRange 24 none p s m args meth c) (hR : 5 ≤ R.frames ∧ 139 ≤ R.locals) : ∀ (o0 a0 : Nat) (x1 : Int32) (x2 : Int32) (x3 : Int32) (x4 : Int32) (x5 : Int64) (x7 : Int64) (x9 : Int64) (x11 : Int64) (xs0 : Int64) (D : dt) (H : Heap) (locs : List Loc) (ls : Array Slot), Is S ad o0 a0 8 → Wd G cA S D ad A s H locs → lv_has ls 24 [(0, .ref a0), (1, .int x1), (2, .int x2), (3, .int x3), (4, .int x4), (5, .long x5), (7, .long x7), (9, .long x9), (11, .long x11)] → f_X9_reckonRange_349 S o0 x1 x2 x3 x4 x5 x7 x9 x11 xs0 D = some (r, D') → W p l e R s m args below meth c H locs 0 0 (MQ below (Qn none True (wpost G cA S D' ad A) A) args s 0 0 A) (F0 m 349 ls [.long xs0]) := by
  obtain ⟨hx, hb, -⟩ := id hC
  intro o0 a0 x1 x2 x3 x4 x5 x7 x9 x11 xs0 D H locs ls hi0 hw hl h
  unfold f_X9_reckonRange_349 at h
  refine lv_lstore (lv' := [(18, .long xs0), (0, .ref a0), (1, .int x1), (2, .int x2), (3, .int x3), (4, .int x4), (5, .long x5), (7, .long x7), (9, .long x9), (11, .long x11)]) hx hb dX9_reckonRange_349 hl (by decide) rfl (fun ls hl => ?_)
  refine lv_aload_n hx hb dX9_reckonRange_351 rfl (lv_at hl 1 rfl) ?_
  refine lv_iload hx hb dX9_reckonRange_352 (lv_at hl 5 rfl) ?_
  refine lv_lconst (v := 0) hx hb dX9_reckonRange_354 (by decide) ?_
  refine lv_lload hx hb dX9_reckonRange_355 (lv_at hl 0 rfl) ?_
  obtain ⟨_, D238, hq237, h⟩ := cq_i h
  refine r_cV (st' := []) [.int x4, .long (0 : Int64), .long xs0] [] hC hw kc_8 hi0 (k_X9_number _ hi0 hq237) mk_X9_number lk_1496 ⟨Nat.le_trans (by decide) hR.1, Nat.le_trans (by decide) hR.2⟩ ⟨Nat.zero_le _, Nat.zero_le _⟩ rfl hl.1 rfl rfl (Nat.le_of_ble_eq_true rfl) dX9_reckonRange_357 (fun hP H locs hw => ?_)
  refine lv_lload hx hb dX9_reckonRange_360 (lv_at hl 8 rfl) ?_
  refine lv_l2i (v := x9.toInt32) hx hb dX9_reckonRange_362 rfl ?_
  refine lv_iload_n hx hb dX9_reckonRange_363 rfl (lv_at hl 4 rfl) ?_
  refine lv_if_eq (tgt := 372) hx hb dX9_reckonRange_364 (by decide) (fun c239 => ?_) (fun c239 => ?_)
  · have h := i_yes c239 h
    refine lv_bipush (v := 31) hx hb dX9_reckonRange_372 (by decide) ?_
    exact w_X9_reckonRange_374 hC hR o0 a0 x1 x2 x3 x4 x5 x7 x9 x11 xs0 x9.toInt32 (31 : Int32) _ _ _ _ hi0 hw (lv_sub hl [1, 2, 3, 4, 5, 6, 7, 8, 9, 0] rfl) h
  · have h := i_no c239 h
    refine lv_bipush (v := 63) hx hb dX9_reckonRange_367 (by decide) ?_
    refine lv_goto (tgt := 374) hx hb dX9_reckonRange_369 (by decide) ?_
    exact w_X9_reckonRange_374 hC hR o0 a0 x1 x2 x3 x4 x5 x7 x9 x11 xs0 x9.toInt32 (63 : Int32) _ _ _ _ hi0 hw (lv_sub hl [1, 2, 3, 4, 5, 6, 7, 8, 9, 0] rfl) h
set_option maxHeartbeats 4000000 in
set_option maxRecDepth 100000 in
theorem w_X9_reckonRange_307 {r : Unit} {D' : dt} (hC : Cx RX9 cX9_reckonRange 24 none p s m args meth c) (hR : 5 ≤ R.frames ∧ 139 ≤ R.locals) : ∀ (o0 a0 : Nat) (x1 : Int32) (x2 : Int32) (x3 : Int32) (x4 : Int32) (x5 : Int64) (x7 : Int64) (x9 : Int64) (x11 : Int64) (xs0 : Int32) (D : dt) (H : Heap) (locs : List Loc) (ls : Array Slot), Is S ad o0 a0 8 → Wd G cA S D ad A s H locs → lv_has ls 24 [(0, .ref a0), (1, .int x1), (2, .int x2), (3, .int x3), (4, .int x4), (5, .long x5), (7, .long x7), (9, .long x9), (11, .long x11)] → f_X9_reckonRange_307 S o0 x1 x2 x3 x4 x5 x7 x9 x11 xs0 D = some (r, D') → W p l e R s m args below meth c H locs 0 0 (MQ below (Qn none True (wpost G cA S D' ad A) A) args s 0 0 A) (F0 m 307 ls [.int xs0]) := by
  obtain ⟨hx, hb, -⟩ := id hC
  intro o0 a0 x1 x2 x3 x4 x5 x7 x9 x11 xs0 D H locs ls hi0 hw hl h
  unfold f_X9_reckonRange_307 at h
  refine lv_istore (lv' := [(17, .int xs0), (0, .ref a0), (1, .int x1), (2, .int x2), (3, .int x3), (4, .int x4), (5, .long x5), (7, .long x7), (9, .long x9), (11, .long x11)]) hx hb dX9_reckonRange_307 hl (by decide) rfl (fun ls hl => ?_)
  refine lv_iload hx hb dX9_reckonRange_309 (lv_at hl 0 rfl) ?_
  refine lv_if_eq (tgt := 336) hx hb dX9_reckonRange_311 (by decide) (fun c240 => ?_) (fun c240 => ?_)
  · have h := i_yes c240 h
    refine lv_iload_n hx hb dX9_reckonRange_336 rfl (lv_at hl 4 rfl) ?_
    refine lv_if_eq (tgt := 346) hx hb dX9_reckonRange_337 (by decide) (fun c241 => ?_) (fun c241 => ?_)
    · have h := i_yes c241 h
      refine lv_ldc2 (v := 4294967295) hx hb hC.2.2.2.1 (hC.2.2.2.2.1 _ lk_1347) dX9_reckonRange_346 ?_
      exact w_X9_reckonRange_349 hC hR o0 a0 x1 x2 x3 x4 x5 x7 x9 x11 (4294967295 : Int64) _ _ _ _ hi0 hw (lv_sub hl [1, 2, 3, 4, 5, 6, 7, 8, 9] rfl) h
    · have h := i_no c241 h
      refine lv_ldc2 (v := (-1)) hx hb hC.2.2.2.1 (hC.2.2.2.2.1 _ lk_1365) dX9_reckonRange_340 ?_
      refine lv_goto (tgt := 349) hx hb dX9_reckonRange_343 (by decide) ?_
      exact w_X9_reckonRange_349 hC hR o0 a0 x1 x2 x3 x4 x5 x7 x9 x11 (-1 : Int64) _ _ _ _ hi0 hw (lv_sub hl [1, 2, 3, 4, 5, 6, 7, 8, 9] rfl) h
  · have h := i_no c240 h
    refine lv_aload_n hx hb dX9_reckonRange_314 rfl (lv_at hl 1 rfl) ?_
    refine lv_iload_n hx hb dX9_reckonRange_315 rfl (lv_at hl 2 rfl) ?_
    refine lv_lload hx hb dX9_reckonRange_316 (lv_at hl 6 rfl) ?_
    refine lv_lload hx hb dX9_reckonRange_318 (lv_at hl 8 rfl) ?_
    obtain ⟨r243, hq242, h⟩ := pq_i h
    refine r_cV (st' := [.long r243]) [.int x1, .long x5, .long x9] [] hC hw kc_8 hi0 (k_X9_reckon _ hi0 hq242) mk_X9_reckon lk_1340 ⟨Nat.le_trans (by decide) hR.1, Nat.le_trans (by decide) hR.2⟩ ⟨Nat.zero_le _, Nat.zero_le _⟩ rfl hl.1 rfl rfl (Nat.le_of_ble_eq_true rfl) dX9_reckonRange_320 (fun hP H locs hw => ?_)
    refine lv_lstore (lv' := [(18, .long r243), (17, .int xs0), (0, .ref a0), (1, .int x1), (2, .int x2), (3, .int x3), (4, .int x4), (5, .long x5), (7, .long x7), (9, .long x9), (11, .long x11)]) hx hb dX9_reckonRange_323 hl (by decide) rfl (fun ls hl => ?_)
    refine lv_aload_n hx hb dX9_reckonRange_325 rfl (lv_at hl 2 rfl) ?_
    refine lv_iload hx hb dX9_reckonRange_326 (lv_at hl 6 rfl) ?_
    refine lv_lload hx hb dX9_reckonRange_328 (lv_at hl 0 rfl) ?_
    refine lv_lload hx hb dX9_reckonRange_330 (lv_at hl 0 rfl) ?_
    obtain ⟨_, D245, hq244, h⟩ := cq_i h
    refine r_cV (st' := []) [.int x4, .long r243, .long r243] [] hC hw kc_8 hi0 (k_X9_number _ hi0 hq244) mk_X9_number lk_1496 ⟨Nat.le_trans (by decide) hR.1, Nat.le_trans (by decide) hR.2⟩ ⟨Nat.zero_le _, Nat.zero_le _⟩ rfl hl.1 rfl rfl (Nat.le_of_ble_eq_true rfl) dX9_reckonRange_332 (fun hP H locs hw => ?_)
    cases h
    exact r_vret hC hw dX9_reckonRange_335
set_option maxHeartbeats 4000000 in
set_option maxRecDepth 100000 in
theorem w_X9_reckonRange_306 {r : Unit} {D' : dt} (hC : Cx RX9 cX9_reckonRange 24 none p s m args meth c) (hR : 5 ≤ R.frames ∧ 139 ≤ R.locals) : ∀ (o0 a0 : Nat) (x1 : Int32) (x2 : Int32) (x3 : Int32) (x4 : Int32) (x5 : Int64) (x7 : Int64) (x9 : Int64) (x11 : Int64) (D : dt) (H : Heap) (locs : List Loc) (ls : Array Slot), Is S ad o0 a0 8 → Wd G cA S D ad A s H locs → lv_has ls 24 [(0, .ref a0), (1, .int x1), (2, .int x2), (3, .int x3), (4, .int x4), (5, .long x5), (7, .long x7), (9, .long x9), (11, .long x11)] → f_X9_reckonRange_306 S o0 x1 x2 x3 x4 x5 x7 x9 x11 D = some (r, D') → W p l e R s m args below meth c H locs 0 0 (MQ below (Qn none True (wpost G cA S D' ad A) A) args s 0 0 A) (F0 m 306 ls []) := by
  obtain ⟨hx, hb, -⟩ := id hC
  intro o0 a0 x1 x2 x3 x4 x5 x7 x9 x11 D H locs ls hi0 hw hl h
  unfold f_X9_reckonRange_306 at h
  refine lv_iconst (v := 0) hx hb dX9_reckonRange_306 (by decide) ?_
  exact w_X9_reckonRange_307 hC hR o0 a0 x1 x2 x3 x4 x5 x7 x9 x11 (0 : Int32) _ _ _ _ hi0 hw (lv_sub hl [0, 1, 2, 3, 4, 5, 6, 7, 8] rfl) h
set_option maxHeartbeats 4000000 in
set_option maxRecDepth 100000 in
theorem w_X9_reckonRange_270 {r : Unit} {D' : dt} (hC : Cx RX9 cX9_reckonRange 24 none p s m args meth c) (hR : 5 ≤ R.frames ∧ 139 ≤ R.locals) : ∀ (o0 a0 : Nat) (x1 : Int32) (x2 : Int32) (x3 : Int32) (x4 : Int32) (x5 : Int64) (x7 : Int64) (x9 : Int64) (x11 : Int64) (D : dt) (H : Heap) (locs : List Loc) (ls : Array Slot), Is S ad o0 a0 8 → Wd G cA S D ad A s H locs → lv_has ls 24 [(0, .ref a0), (1, .int x1), (2, .int x2), (3, .int x3), (4, .int x4), (5, .long x5), (7, .long x7), (9, .long x9), (11, .long x11)] → f_X9_reckonRange_270 S o0 x1 x2 x3 x4 x5 x7 x9 x11 D = some (r, D') → W p l e R s m args below meth c H locs 0 0 (MQ below (Qn none True (wpost G cA S D' ad A) A) args s 0 0 A) (F0 m 270 ls []) := by
  obtain ⟨hx, hb, -⟩ := id hC
  intro o0 a0 x1 x2 x3 x4 x5 x7 x9 x11 D H locs ls hi0 hw hl h
  unfold f_X9_reckonRange_270 at h
  refine lv_lload hx hb dX9_reckonRange_270 (lv_at hl 5 rfl) ?_
  refine lv_lload hx hb dX9_reckonRange_272 (lv_at hl 6 rfl) ?_
  refine W.lcmp hx hb dX9_reckonRange_274 ?_
  refine lv_if_ne (tgt := 282) hx hb dX9_reckonRange_275 (by decide) (fun c246 => ?_) (fun c246 => ?_)
  · have h := i_no c246 h
    refine lv_iconst (v := 0) hx hb dX9_reckonRange_282 (by decide) ?_
    refine lv_goto (tgt := 307) hx hb dX9_reckonRange_283 (by decide) ?_
    exact w_X9_reckonRange_307 hC hR o0 a0 x1 x2 x3 x4 x5 x7 x9 x11 (0 : Int32) _ _ _ _ hi0 hw (lv_sub hl [0, 1, 2, 3, 4, 5, 6, 7, 8] rfl) h
  · have h := i_yes c246 h
    refine lv_iconst (v := 1) hx hb dX9_reckonRange_278 (by decide) ?_
    refine lv_goto (tgt := 307) hx hb dX9_reckonRange_279 (by decide) ?_
    exact w_X9_reckonRange_307 hC hR o0 a0 x1 x2 x3 x4 x5 x7 x9 x11 (1 : Int32) _ _ _ _ hi0 hw (lv_sub hl [0, 1, 2, 3, 4, 5, 6, 7, 8] rfl) h
set_option maxHeartbeats 4000000 in
set_option maxRecDepth 100000 in
theorem w_X9_reckonRange_234 {r : Unit} {D' : dt} (hC : Cx RX9 cX9_reckonRange 24 none p s m args meth c) (hR : 5 ≤ R.frames ∧ 139 ≤ R.locals) : ∀ (o0 a0 : Nat) (x1 : Int32) (x2 : Int32) (x3 : Int32) (x4 : Int32) (x5 : Int64) (x7 : Int64) (x9 : Int64) (xs0 : Int64) (D : dt) (H : Heap) (locs : List Loc) (ls : Array Slot), Is S ad o0 a0 8 → Wd G cA S D ad A s H locs → lv_has ls 24 [(0, .ref a0), (1, .int x1), (2, .int x2), (3, .int x3), (4, .int x4), (5, .long x5), (7, .long x7), (9, .long x9)] → f_X9_reckonRange_234 S o0 x1 x2 x3 x4 x5 x7 x9 xs0 D = some (r, D') → W p l e R s m args below meth c H locs 0 0 (MQ below (Qn none True (wpost G cA S D' ad A) A) args s 0 0 A) (F0 m 234 ls [.long xs0]) := by
  obtain ⟨hx, hb, -⟩ := id hC
  intro o0 a0 x1 x2 x3 x4 x5 x7 x9 xs0 D H locs ls hi0 hw hl h
  unfold f_X9_reckonRange_234 at h
  refine lv_lstore (lv' := [(11, .long xs0), (0, .ref a0), (1, .int x1), (2, .int x2), (3, .int x3), (4, .int x4), (5, .long x5), (7, .long x7), (9, .long x9)]) hx hb dX9_reckonRange_234 hl (by decide) rfl (fun ls hl => ?_)
  refine lv_iload_n hx hb dX9_reckonRange_236 rfl (lv_at hl 3 rfl) ?_
  refine lv_bipush (v := 11) hx hb dX9_reckonRange_237 (by decide) ?_
  refine lv_icmp_ne (tgt := 258) hx hb dX9_reckonRange_239 (by decide) (fun c247 => ?_) (fun c247 => ?_)
  · have h := i_no c247 h
    refine lv_iload_n hx hb dX9_reckonRange_258 rfl (lv_at hl 3 rfl) ?_
    refine lv_bipush (v := 8) hx hb dX9_reckonRange_259 (by decide) ?_
    refine lv_icmp_eq (tgt := 270) hx hb dX9_reckonRange_261 (by decide) (fun c248 => ?_) (fun c248 => ?_)
    · have h := i_yes c248 h
      exact w_X9_reckonRange_270 hC hR o0 a0 x1 x2 x3 x4 x5 x7 x9 xs0 _ _ _ _ hi0 hw (lv_sub hl [1, 2, 3, 4, 5, 6, 7, 8, 0] rfl) h
    · have h := i_no c248 h
      refine lv_iload_n hx hb dX9_reckonRange_264 rfl (lv_at hl 3 rfl) ?_
      refine lv_bipush (v := 13) hx hb dX9_reckonRange_265 (by decide) ?_
      refine lv_icmp_ne (tgt := 286) hx hb dX9_reckonRange_267 (by decide) (fun c249 => ?_) (fun c249 => ?_)
      · have h := i_no c249 h
        refine lv_lload hx hb dX9_reckonRange_286 (lv_at hl 6 rfl) ?_
        refine lv_lload hx hb dX9_reckonRange_288 (lv_at hl 7 rfl) ?_
        refine W.lcmp hx hb dX9_reckonRange_290 ?_
        refine lv_if_ne (tgt := 306) hx hb dX9_reckonRange_291 (by decide) (fun c250 => ?_) (fun c250 => ?_)
        · have h := i_no c250 h
          exact w_X9_reckonRange_306 hC hR o0 a0 x1 x2 x3 x4 x5 x7 x9 xs0 _ _ _ _ hi0 hw (lv_sub hl [1, 2, 3, 4, 5, 6, 7, 8, 0] rfl) h
        · have h := i_yes c250 h
          refine lv_lload hx hb dX9_reckonRange_294 (lv_at hl 8 rfl) ?_
          refine lv_lload hx hb dX9_reckonRange_296 (lv_at hl 0 rfl) ?_
          refine W.lcmp hx hb dX9_reckonRange_298 ?_
          refine lv_if_ne (tgt := 306) hx hb dX9_reckonRange_299 (by decide) (fun c251 => ?_) (fun c251 => ?_)
          · have h := i_no c251 h
            exact w_X9_reckonRange_306 hC hR o0 a0 x1 x2 x3 x4 x5 x7 x9 xs0 _ _ _ _ hi0 hw (lv_sub hl [1, 2, 3, 4, 5, 6, 7, 8, 0] rfl) h
          · have h := i_yes c251 h
            refine lv_iconst (v := 1) hx hb dX9_reckonRange_302 (by decide) ?_
            refine lv_goto (tgt := 307) hx hb dX9_reckonRange_303 (by decide) ?_
            exact w_X9_reckonRange_307 hC hR o0 a0 x1 x2 x3 x4 x5 x7 x9 xs0 (1 : Int32) _ _ _ _ hi0 hw (lv_sub hl [1, 2, 3, 4, 5, 6, 7, 8, 0] rfl) h
      · have h := i_yes c249 h
        exact w_X9_reckonRange_270 hC hR o0 a0 x1 x2 x3 x4 x5 x7 x9 xs0 _ _ _ _ hi0 hw (lv_sub hl [1, 2, 3, 4, 5, 6, 7, 8, 0] rfl) h
  · have h := i_yes c247 h
    refine lv_lload hx hb dX9_reckonRange_242 (lv_at hl 8 rfl) ?_
    refine lv_lload hx hb dX9_reckonRange_244 (lv_at hl 0 rfl) ?_
    refine W.lcmp hx hb dX9_reckonRange_246 ?_
    refine lv_if_ne (tgt := 254) hx hb dX9_reckonRange_247 (by decide) (fun c252 => ?_) (fun c252 => ?_)
    · have h := i_no c252 h
      refine lv_iconst (v := 0) hx hb dX9_reckonRange_254 (by decide) ?_
      refine lv_goto (tgt := 307) hx hb dX9_reckonRange_255 (by decide) ?_
      exact w_X9_reckonRange_307 hC hR o0 a0 x1 x2 x3 x4 x5 x7 x9 xs0 (0 : Int32) _ _ _ _ hi0 hw (lv_sub hl [1, 2, 3, 4, 5, 6, 7, 8, 0] rfl) h
    · have h := i_yes c252 h
      refine lv_iconst (v := 1) hx hb dX9_reckonRange_250 (by decide) ?_
      refine lv_goto (tgt := 307) hx hb dX9_reckonRange_251 (by decide) ?_
      exact w_X9_reckonRange_307 hC hR o0 a0 x1 x2 x3 x4 x5 x7 x9 xs0 (1 : Int32) _ _ _ _ hi0 hw (lv_sub hl [1, 2, 3, 4, 5, 6, 7, 8, 0] rfl) h
set_option maxHeartbeats 4000000 in
set_option maxRecDepth 100000 in
theorem w_X9_reckonRange_205 {r : Unit} {D' : dt} (hC : Cx RX9 cX9_reckonRange 24 none p s m args meth c) (hR : 5 ≤ R.frames ∧ 139 ≤ R.locals) : ∀ (o0 a0 : Nat) (x1 : Int32) (x2 : Int32) (x3 : Int32) (x4 : Int32) (x5 : Int64) (x7 : Int64) (x11 : Int64) (x14 : Int32) (x16 : Int32) (xs0 : Int64) (D : dt) (H : Heap) (locs : List Loc) (ls : Array Slot), Is S ad o0 a0 8 → Wd G cA S D ad A s H locs → lv_has ls 24 [(0, .ref a0), (1, .int x1), (2, .int x2), (3, .int x3), (4, .int x4), (5, .long x5), (7, .long x7), (11, .long x11), (14, .int x14), (16, .int x16)] → f_X9_reckonRange_205 S o0 x1 x2 x3 x4 x5 x7 x11 x14 x16 xs0 D = some (r, D') → W p l e R s m args below meth c H locs 0 0 (MQ below (Qn none True (wpost G cA S D' ad A) A) args s 0 0 A) (F0 m 205 ls [.long xs0]) := by
  obtain ⟨hx, hb, -⟩ := id hC
  intro o0 a0 x1 x2 x3 x4 x5 x7 x11 x14 x16 xs0 D H locs ls hi0 hw hl h
  unfold f_X9_reckonRange_205 at h
  refine lv_lstore (lv' := [(9, .long xs0), (0, .ref a0), (1, .int x1), (2, .int x2), (3, .int x3), (4, .int x4), (5, .long x5), (7, .long x7), (11, .long x11), (14, .int x14), (16, .int x16)]) hx hb dX9_reckonRange_205 hl (by decide) rfl (fun ls hl => ?_)
  refine lv_iload hx hb dX9_reckonRange_207 (lv_at hl 9 rfl) ?_
  refine lv_if_eq (tgt := 232) hx hb dX9_reckonRange_209 (by decide) (fun c253 => ?_) (fun c253 => ?_)
  · have h := i_yes c253 h
    refine lv_lload hx hb dX9_reckonRange_232 (lv_at hl 8 rfl) ?_
    exact w_X9_reckonRange_234 hC hR o0 a0 x1 x2 x3 x4 x5 x7 xs0 x11 _ _ _ _ hi0 hw (lv_sub hl [1, 2, 3, 4, 5, 6, 7, 0] rfl) h
  · have h := i_no c253 h
    refine lv_iload hx hb dX9_reckonRange_212 (lv_at hl 10 rfl) ?_
    refine lv_if_eq (tgt := 226) hx hb dX9_reckonRange_214 (by decide) (fun c254 => ?_) (fun c254 => ?_)
    · have h := i_yes c254 h
      refine lv_ldc2 (v := 4294967295) hx hb hC.2.2.2.1 (hC.2.2.2.2.1 _ lk_1347) dX9_reckonRange_226 ?_
      refine lv_goto (tgt := 234) hx hb dX9_reckonRange_229 (by decide) ?_
      exact w_X9_reckonRange_234 hC hR o0 a0 x1 x2 x3 x4 x5 x7 xs0 (4294967295 : Int64) _ _ _ _ hi0 hw (lv_sub hl [1, 2, 3, 4, 5, 6, 7, 0] rfl) h
    · have h := i_no c254 h
      refine lv_lload hx hb dX9_reckonRange_217 (lv_at hl 8 rfl) ?_
      refine lv_ldc2 (v := 4294967295) hx hb hC.2.2.2.1 (hC.2.2.2.2.1 _ lk_1347) dX9_reckonRange_219 ?_
      refine lv_land hx hb dX9_reckonRange_222 ?_
      refine lv_goto (tgt := 234) hx hb dX9_reckonRange_223 (by decide) ?_
      exact w_X9_reckonRange_234 hC hR o0 a0 x1 x2 x3 x4 x5 x7 xs0 (x11 &&& (4294967295 : Int64)) _ _ _ _ hi0 hw (lv_sub hl [1, 2, 3, 4, 5, 6, 7, 0] rfl) h
set_option maxHeartbeats 4000000 in
set_option maxRecDepth 100000 in
theorem w_X9_reckonRange_178 {r : Unit} {D' : dt} (hC : Cx RX9 cX9_reckonRange 24 none p s m args meth c) (hR : 5 ≤ R.frames ∧ 139 ≤ R.locals) : ∀ (o0 a0 : Nat) (x1 : Int32) (x2 : Int32) (x3 : Int32) (x4 : Int32) (x5 : Int64) (x9 : Int64) (x11 : Int64) (x14 : Int32) (x16 : Int32) (xs0 : Int64) (D : dt) (H : Heap) (locs : List Loc) (ls : Array Slot), Is S ad o0 a0 8 → Wd G cA S D ad A s H locs → lv_has ls 24 [(0, .ref a0), (1, .int x1), (2, .int x2), (3, .int x3), (4, .int x4), (5, .long x5), (9, .long x9), (11, .long x11), (14, .int x14), (16, .int x16)] → f_X9_reckonRange_178 S o0 x1 x2 x3 x4 x5 x9 x11 x14 x16 xs0 D = some (r, D') → W p l e R s m args below meth c H locs 0 0 (MQ below (Qn none True (wpost G cA S D' ad A) A) args s 0 0 A) (F0 m 178 ls [.long xs0]) := by
  obtain ⟨hx, hb, -⟩ := id hC
  intro o0 a0 x1 x2 x3 x4 x5 x9 x11 x14 x16 xs0 D H locs ls hi0 hw hl h
  unfold f_X9_reckonRange_178 at h
  refine lv_lstore (lv' := [(7, .long xs0), (0, .ref a0), (1, .int x1), (2, .int x2), (3, .int x3), (4, .int x4), (5, .long x5), (9, .long x9), (11, .long x11), (14, .int x14), (16, .int x16)]) hx hb dX9_reckonRange_178 hl (by decide) rfl (fun ls hl => ?_)
  refine lv_iload hx hb dX9_reckonRange_180 (lv_at hl 9 rfl) ?_
  refine lv_if_eq (tgt := 203) hx hb dX9_reckonRange_182 (by decide) (fun c255 => ?_) (fun c255 => ?_)
  · have h := i_yes c255 h
    refine lv_lload hx hb dX9_reckonRange_203 (lv_at hl 7 rfl) ?_
    exact w_X9_reckonRange_205 hC hR o0 a0 x1 x2 x3 x4 x5 xs0 x11 x14 x16 x9 _ _ _ _ hi0 hw (lv_sub hl [1, 2, 3, 4, 5, 6, 0, 8, 9, 10] rfl) h
  · have h := i_no c255 h
    refine lv_iload hx hb dX9_reckonRange_185 (lv_at hl 10 rfl) ?_
    refine lv_if_eq (tgt := 199) hx hb dX9_reckonRange_187 (by decide) (fun c256 => ?_) (fun c256 => ?_)
    · have h := i_yes c256 h
      refine lv_lconst (v := 0) hx hb dX9_reckonRange_199 (by decide) ?_
      refine lv_goto (tgt := 205) hx hb dX9_reckonRange_200 (by decide) ?_
      exact w_X9_reckonRange_205 hC hR o0 a0 x1 x2 x3 x4 x5 xs0 x11 x14 x16 (0 : Int64) _ _ _ _ hi0 hw (lv_sub hl [1, 2, 3, 4, 5, 6, 0, 8, 9, 10] rfl) h
    · have h := i_no c256 h
      refine lv_lload hx hb dX9_reckonRange_190 (lv_at hl 7 rfl) ?_
      refine lv_ldc2 (v := 4294967295) hx hb hC.2.2.2.1 (hC.2.2.2.2.1 _ lk_1347) dX9_reckonRange_192 ?_
      refine lv_land hx hb dX9_reckonRange_195 ?_
      refine lv_goto (tgt := 205) hx hb dX9_reckonRange_196 (by decide) ?_
      exact w_X9_reckonRange_205 hC hR o0 a0 x1 x2 x3 x4 x5 xs0 x11 x14 x16 (x9 &&& (4294967295 : Int64)) _ _ _ _ hi0 hw (lv_sub hl [1, 2, 3, 4, 5, 6, 0, 8, 9, 10] rfl) h
set_option maxHeartbeats 4000000 in
set_option maxRecDepth 100000 in
theorem w_X9_reckonRange_149 {r : Unit} {D' : dt} (hC : Cx RX9 cX9_reckonRange 24 none p s m args meth c) (hR : 5 ≤ R.frames ∧ 139 ≤ R.locals) : ∀ (o0 a0 : Nat) (x1 : Int32) (x2 : Int32) (x3 : Int32) (x4 : Int32) (x7 : Int64) (x9 : Int64) (x11 : Int64) (x13 : Int32) (x14 : Int32) (x15 : Int32) (x16 : Int32) (xs0 : Int64) (D : dt) (H : Heap) (locs : List Loc) (ls : Array Slot), Is S ad o0 a0 8 → Wd G cA S D ad A s H locs → lv_has ls 24 [(0, .ref a0), (1, .int x1), (2, .int x2), (3, .int x3), (4, .int x4), (7, .long x7), (9, .long x9), (11, .long x11), (13, .int x13), (14, .int x14), (15, .int x15), (16, .int x16)] → f_X9_reckonRange_149 S o0 x1 x2 x3 x4 x7 x9 x11 x13 x14 x15 x16 xs0 D = some (r, D') → W p l e R s m args below meth c H locs 0 0 (MQ below (Qn none True (wpost G cA S D' ad A) A) args s 0 0 A) (F0 m 149 ls [.long xs0]) := by
  obtain ⟨hx, hb, -⟩ := id hC
  intro o0 a0 x1 x2 x3 x4 x7 x9 x11 x13 x14 x15 x16 xs0 D H locs ls hi0 hw hl h
  unfold f_X9_reckonRange_149 at h
  refine lv_lstore (lv' := [(5, .long xs0), (0, .ref a0), (1, .int x1), (2, .int x2), (3, .int x3), (4, .int x4), (7, .long x7), (9, .long x9), (11, .long x11), (13, .int x13), (14, .int x14), (15, .int x15), (16, .int x16)]) hx hb dX9_reckonRange_149 hl (by decide) rfl (fun ls hl => ?_)
  refine lv_iload hx hb dX9_reckonRange_151 (lv_at hl 9 rfl) ?_
  refine lv_if_eq (tgt := 176) hx hb dX9_reckonRange_153 (by decide) (fun c257 => ?_) (fun c257 => ?_)
  · have h := i_yes c257 h
    refine lv_lload hx hb dX9_reckonRange_176 (lv_at hl 6 rfl) ?_
    exact w_X9_reckonRange_178 hC hR o0 a0 x1 x2 x3 x4 xs0 x9 x11 x14 x16 x7 _ _ _ _ hi0 hw (lv_sub hl [1, 2, 3, 4, 5, 0, 7, 8, 10, 12] rfl) h
  · have h := i_no c257 h
    refine lv_iload hx hb dX9_reckonRange_156 (lv_at hl 11 rfl) ?_
    refine lv_if_eq (tgt := 170) hx hb dX9_reckonRange_158 (by decide) (fun c258 => ?_) (fun c258 => ?_)
    · have h := i_yes c258 h
      refine lv_ldc2 (v := 4294967295) hx hb hC.2.2.2.1 (hC.2.2.2.2.1 _ lk_1347) dX9_reckonRange_170 ?_
      refine lv_goto (tgt := 178) hx hb dX9_reckonRange_173 (by decide) ?_
      exact w_X9_reckonRange_178 hC hR o0 a0 x1 x2 x3 x4 xs0 x9 x11 x14 x16 (4294967295 : Int64) _ _ _ _ hi0 hw (lv_sub hl [1, 2, 3, 4, 5, 0, 7, 8, 10, 12] rfl) h
    · have h := i_no c258 h
      refine lv_lload hx hb dX9_reckonRange_161 (lv_at hl 6 rfl) ?_
      refine lv_ldc2 (v := 4294967295) hx hb hC.2.2.2.1 (hC.2.2.2.2.1 _ lk_1347) dX9_reckonRange_163 ?_
      refine lv_land hx hb dX9_reckonRange_166 ?_
      refine lv_goto (tgt := 178) hx hb dX9_reckonRange_167 (by decide) ?_
      exact w_X9_reckonRange_178 hC hR o0 a0 x1 x2 x3 x4 xs0 x9 x11 x14 x16 (x7 &&& (4294967295 : Int64)) _ _ _ _ hi0 hw (lv_sub hl [1, 2, 3, 4, 5, 0, 7, 8, 10, 12] rfl) h
set_option maxHeartbeats 4000000 in
set_option maxRecDepth 100000 in
theorem w_X9_reckonRange_122 {r : Unit} {D' : dt} (hC : Cx RX9 cX9_reckonRange 24 none p s m args meth c) (hR : 5 ≤ R.frames ∧ 139 ≤ R.locals) : ∀ (o0 a0 : Nat) (x1 : Int32) (x2 : Int32) (x3 : Int32) (x4 : Int32) (x5 : Int64) (x7 : Int64) (x9 : Int64) (x11 : Int64) (x13 : Int32) (x14 : Int32) (x15 : Int32) (xs0 : Int32) (D : dt) (H : Heap) (locs : List Loc) (ls : Array Slot), Is S ad o0 a0 8 → Wd G cA S D ad A s H locs → lv_has ls 24 [(0, .ref a0), (1, .int x1), (2, .int x2), (3, .int x3), (4, .int x4), (5, .long x5), (7, .long x7), (9, .long x9), (11, .long x11), (13, .int x13), (14, .int x14), (15, .int x15)] → f_X9_reckonRange_122 S o0 x1 x2 x3 x4 x5 x7 x9 x11 x13 x14 x15 xs0 D = some (r, D') → W p l e R s m args below meth c H locs 0 0 (MQ below (Qn none True (wpost G cA S D' ad A) A) args s 0 0 A) (F0 m 122 ls [.int xs0]) := by
  obtain ⟨hx, hb, -⟩ := id hC
  intro o0 a0 x1 x2 x3 x4 x5 x7 x9 x11 x13 x14 x15 xs0 D H locs ls hi0 hw hl h
  unfold f_X9_reckonRange_122 at h
  refine lv_istore (lv' := [(16, .int xs0), (0, .ref a0), (1, .int x1), (2, .int x2), (3, .int x3), (4, .int x4), (5, .long x5), (7, .long x7), (9, .long x9), (11, .long x11), (13, .int x13), (14, .int x14), (15, .int x15)]) hx hb dX9_reckonRange_122 hl (by decide) rfl (fun ls hl => ?_)
  refine lv_iload hx hb dX9_reckonRange_124 (lv_at hl 10 rfl) ?_
  refine lv_if_eq (tgt := 147) hx hb dX9_reckonRange_126 (by decide) (fun c259 => ?_) (fun c259 => ?_)
  · have h := i_yes c259 h
    refine lv_lload hx hb dX9_reckonRange_147 (lv_at hl 6 rfl) ?_
    exact w_X9_reckonRange_149 hC hR o0 a0 x1 x2 x3 x4 x7 x9 x11 x13 x14 x15 xs0 x5 _ _ _ _ hi0 hw (lv_sub hl [1, 2, 3, 4, 5, 7, 8, 9, 10, 11, 12, 0] rfl) h
  · have h := i_no c259 h
    refine lv_iload hx hb dX9_reckonRange_129 (lv_at hl 12 rfl) ?_
    refine lv_if_eq (tgt := 143) hx hb dX9_reckonRange_131 (by decide) (fun c260 => ?_) (fun c260 => ?_)
    · have h := i_yes c260 h
      refine lv_lconst (v := 0) hx hb dX9_reckonRange_143 (by decide) ?_
      refine lv_goto (tgt := 149) hx hb dX9_reckonRange_144 (by decide) ?_
      exact w_X9_reckonRange_149 hC hR o0 a0 x1 x2 x3 x4 x7 x9 x11 x13 x14 x15 xs0 (0 : Int64) _ _ _ _ hi0 hw (lv_sub hl [1, 2, 3, 4, 5, 7, 8, 9, 10, 11, 12, 0] rfl) h
    · have h := i_no c260 h
      refine lv_lload hx hb dX9_reckonRange_134 (lv_at hl 6 rfl) ?_
      refine lv_ldc2 (v := 4294967295) hx hb hC.2.2.2.1 (hC.2.2.2.2.1 _ lk_1347) dX9_reckonRange_136 ?_
      refine lv_land hx hb dX9_reckonRange_139 ?_
      refine lv_goto (tgt := 149) hx hb dX9_reckonRange_140 (by decide) ?_
      exact w_X9_reckonRange_149 hC hR o0 a0 x1 x2 x3 x4 x7 x9 x11 x13 x14 x15 xs0 (x5 &&& (4294967295 : Int64)) _ _ _ _ hi0 hw (lv_sub hl [1, 2, 3, 4, 5, 7, 8, 9, 10, 11, 12, 0] rfl) h
set_option maxHeartbeats 4000000 in
set_option maxRecDepth 100000 in
theorem w_X9_reckonRange_107 {r : Unit} {D' : dt} (hC : Cx RX9 cX9_reckonRange 24 none p s m args meth c) (hR : 5 ≤ R.frames ∧ 139 ≤ R.locals) : ∀ (o0 a0 : Nat) (x1 : Int32) (x2 : Int32) (x3 : Int32) (x4 : Int32) (x5 : Int64) (x7 : Int64) (x9 : Int64) (x11 : Int64) (x13 : Int32) (x14 : Int32) (xs0 : Int32) (D : dt) (H : Heap) (locs : List Loc) (ls : Array Slot), Is S ad o0 a0 8 → Wd G cA S D ad A s H locs → lv_has ls 24 [(0, .ref a0), (1, .int x1), (2, .int x2), (3, .int x3), (4, .int x4), (5, .long x5), (7, .long x7), (9, .long x9), (11, .long x11), (13, .int x13), (14, .int x14)] → f_X9_reckonRange_107 S o0 x1 x2 x3 x4 x5 x7 x9 x11 x13 x14 xs0 D = some (r, D') → W p l e R s m args below meth c H locs 0 0 (MQ below (Qn none True (wpost G cA S D' ad A) A) args s 0 0 A) (F0 m 107 ls [.int xs0]) := by
  obtain ⟨hx, hb, -⟩ := id hC
  intro o0 a0 x1 x2 x3 x4 x5 x7 x9 x11 x13 x14 xs0 D H locs ls hi0 hw hl h
  unfold f_X9_reckonRange_107 at h
  refine lv_istore (lv' := [(15, .int xs0), (0, .ref a0), (1, .int x1), (2, .int x2), (3, .int x3), (4, .int x4), (5, .long x5), (7, .long x7), (9, .long x9), (11, .long x11), (13, .int x13), (14, .int x14)]) hx hb dX9_reckonRange_107 hl (by decide) rfl (fun ls hl => ?_)
  refine lv_lload hx hb dX9_reckonRange_109 (lv_at hl 8 rfl) ?_
  refine lv_lload hx hb dX9_reckonRange_111 (lv_at hl 9 rfl) ?_
  refine W.lcmp hx hb dX9_reckonRange_113 ?_
  refine lv_if_ne (tgt := 121) hx hb dX9_reckonRange_114 (by decide) (fun c261 => ?_) (fun c261 => ?_)
  · have h := i_no c261 h
    refine lv_iconst (v := 0) hx hb dX9_reckonRange_121 (by decide) ?_
    exact w_X9_reckonRange_122 hC hR o0 a0 x1 x2 x3 x4 x5 x7 x9 x11 x13 x14 xs0 (0 : Int32) _ _ _ _ hi0 hw (lv_sub hl [1, 2, 3, 4, 5, 6, 7, 8, 9, 10, 11, 0] rfl) h
  · have h := i_yes c261 h
    refine lv_iconst (v := 1) hx hb dX9_reckonRange_117 (by decide) ?_
    refine lv_goto (tgt := 122) hx hb dX9_reckonRange_118 (by decide) ?_
    exact w_X9_reckonRange_122 hC hR o0 a0 x1 x2 x3 x4 x5 x7 x9 x11 x13 x14 xs0 (1 : Int32) _ _ _ _ hi0 hw (lv_sub hl [1, 2, 3, 4, 5, 6, 7, 8, 9, 10, 11, 0] rfl) h
set_option maxHeartbeats 4000000 in
set_option maxRecDepth 100000 in
theorem w_X9_reckonRange_92 {r : Unit} {D' : dt} (hC : Cx RX9 cX9_reckonRange 24 none p s m args meth c) (hR : 5 ≤ R.frames ∧ 139 ≤ R.locals) : ∀ (o0 a0 : Nat) (x1 : Int32) (x2 : Int32) (x3 : Int32) (x4 : Int32) (x5 : Int64) (x7 : Int64) (x9 : Int64) (x11 : Int64) (x13 : Int32) (xs0 : Int32) (D : dt) (H : Heap) (locs : List Loc) (ls : Array Slot), Is S ad o0 a0 8 → Wd G cA S D ad A s H locs → lv_has ls 24 [(0, .ref a0), (1, .int x1), (2, .int x2), (3, .int x3), (4, .int x4), (5, .long x5), (7, .long x7), (9, .long x9), (11, .long x11), (13, .int x13)] → f_X9_reckonRange_92 S o0 x1 x2 x3 x4 x5 x7 x9 x11 x13 xs0 D = some (r, D') → W p l e R s m args below meth c H locs 0 0 (MQ below (Qn none True (wpost G cA S D' ad A) A) args s 0 0 A) (F0 m 92 ls [.int xs0]) := by
  obtain ⟨hx, hb, -⟩ := id hC
  intro o0 a0 x1 x2 x3 x4 x5 x7 x9 x11 x13 xs0 D H locs ls hi0 hw hl h
  unfold f_X9_reckonRange_92 at h
  refine lv_istore (lv' := [(14, .int xs0), (0, .ref a0), (1, .int x1), (2, .int x2), (3, .int x3), (4, .int x4), (5, .long x5), (7, .long x7), (9, .long x9), (11, .long x11), (13, .int x13)]) hx hb dX9_reckonRange_92 hl (by decide) rfl (fun ls hl => ?_)
  refine lv_lload hx hb dX9_reckonRange_94 (lv_at hl 6 rfl) ?_
  refine lv_lload hx hb dX9_reckonRange_96 (lv_at hl 7 rfl) ?_
  refine W.lcmp hx hb dX9_reckonRange_98 ?_
  refine lv_if_ne (tgt := 106) hx hb dX9_reckonRange_99 (by decide) (fun c262 => ?_) (fun c262 => ?_)
  · have h := i_no c262 h
    refine lv_iconst (v := 0) hx hb dX9_reckonRange_106 (by decide) ?_
    exact w_X9_reckonRange_107 hC hR o0 a0 x1 x2 x3 x4 x5 x7 x9 x11 x13 xs0 (0 : Int32) _ _ _ _ hi0 hw (lv_sub hl [1, 2, 3, 4, 5, 6, 7, 8, 9, 10, 0] rfl) h
  · have h := i_yes c262 h
    refine lv_iconst (v := 1) hx hb dX9_reckonRange_102 (by decide) ?_
    refine lv_goto (tgt := 107) hx hb dX9_reckonRange_103 (by decide) ?_
    exact w_X9_reckonRange_107 hC hR o0 a0 x1 x2 x3 x4 x5 x7 x9 x11 x13 xs0 (1 : Int32) _ _ _ _ hi0 hw (lv_sub hl [1, 2, 3, 4, 5, 6, 7, 8, 9, 10, 0] rfl) h
set_option maxHeartbeats 4000000 in
set_option maxRecDepth 100000 in
theorem w_X9_reckonRange_91 {r : Unit} {D' : dt} (hC : Cx RX9 cX9_reckonRange 24 none p s m args meth c) (hR : 5 ≤ R.frames ∧ 139 ≤ R.locals) : ∀ (o0 a0 : Nat) (x1 : Int32) (x2 : Int32) (x3 : Int32) (x4 : Int32) (x5 : Int64) (x7 : Int64) (x9 : Int64) (x11 : Int64) (x13 : Int32) (D : dt) (H : Heap) (locs : List Loc) (ls : Array Slot), Is S ad o0 a0 8 → Wd G cA S D ad A s H locs → lv_has ls 24 [(0, .ref a0), (1, .int x1), (2, .int x2), (3, .int x3), (4, .int x4), (5, .long x5), (7, .long x7), (9, .long x9), (11, .long x11), (13, .int x13)] → f_X9_reckonRange_91 S o0 x1 x2 x3 x4 x5 x7 x9 x11 x13 D = some (r, D') → W p l e R s m args below meth c H locs 0 0 (MQ below (Qn none True (wpost G cA S D' ad A) A) args s 0 0 A) (F0 m 91 ls []) := by
  obtain ⟨hx, hb, -⟩ := id hC
  intro o0 a0 x1 x2 x3 x4 x5 x7 x9 x11 x13 D H locs ls hi0 hw hl h
  unfold f_X9_reckonRange_91 at h
  refine lv_iconst (v := 0) hx hb dX9_reckonRange_91 (by decide) ?_
  exact w_X9_reckonRange_92 hC hR o0 a0 x1 x2 x3 x4 x5 x7 x9 x11 x13 (0 : Int32) _ _ _ _ hi0 hw (lv_sub hl [0, 1, 2, 3, 4, 5, 6, 7, 8, 9] rfl) h
set_option maxHeartbeats 4000000 in
set_option maxRecDepth 100000 in
theorem w_X9_reckonRange_64 {r : Unit} {D' : dt} (hC : Cx RX9 cX9_reckonRange 24 none p s m args meth c) (hR : 5 ≤ R.frames ∧ 139 ≤ R.locals) : ∀ (o0 a0 : Nat) (x1 : Int32) (x2 : Int32) (x3 : Int32) (x4 : Int32) (x5 : Int64) (x7 : Int64) (x9 : Int64) (x11 : Int64) (xs0 : Int32) (D : dt) (H : Heap) (locs : List Loc) (ls : Array Slot), Is S ad o0 a0 8 → Wd G cA S D ad A s H locs → lv_has ls 24 [(0, .ref a0), (1, .int x1), (2, .int x2), (3, .int x3), (4, .int x4), (5, .long x5), (7, .long x7), (9, .long x9), (11, .long x11)] → f_X9_reckonRange_64 S o0 x1 x2 x3 x4 x5 x7 x9 x11 xs0 D = some (r, D') → W p l e R s m args below meth c H locs 0 0 (MQ below (Qn none True (wpost G cA S D' ad A) A) args s 0 0 A) (F0 m 64 ls [.int xs0]) := by
  obtain ⟨hx, hb, -⟩ := id hC
  intro o0 a0 x1 x2 x3 x4 x5 x7 x9 x11 xs0 D H locs ls hi0 hw hl h
  unfold f_X9_reckonRange_64 at h
  refine lv_istore (lv' := [(13, .int xs0), (0, .ref a0), (1, .int x1), (2, .int x2), (3, .int x3), (4, .int x4), (5, .long x5), (7, .long x7), (9, .long x9), (11, .long x11)]) hx hb dX9_reckonRange_64 hl (by decide) rfl (fun ls hl => ?_)
  refine lv_iload_n hx hb dX9_reckonRange_66 rfl (lv_at hl 4 rfl) ?_
  refine lv_if_ne (tgt := 91) hx hb dX9_reckonRange_67 (by decide) (fun c263 => ?_) (fun c263 => ?_)
  · have h := i_no c263 h
    exact w_X9_reckonRange_91 hC hR o0 a0 x1 x2 x3 x4 x5 x7 x9 x11 xs0 _ _ _ _ hi0 hw (lv_sub hl [1, 2, 3, 4, 5, 6, 7, 8, 9, 0] rfl) h
  · have h := i_yes c263 h
    refine lv_iload_n hx hb dX9_reckonRange_70 rfl (lv_at hl 3 rfl) ?_
    refine lv_bipush (v := 13) hx hb dX9_reckonRange_71 (by decide) ?_
    refine lv_icmp_eq (tgt := 91) hx hb dX9_reckonRange_73 (by decide) (fun c264 => ?_) (fun c264 => ?_)
    · have h := i_yes c264 h
      exact w_X9_reckonRange_91 hC hR o0 a0 x1 x2 x3 x4 x5 x7 x9 x11 xs0 _ _ _ _ hi0 hw (lv_sub hl [1, 2, 3, 4, 5, 6, 7, 8, 9, 0] rfl) h
    · have h := i_no c264 h
      refine lv_ldc2 (v := 4294967295) hx hb hC.2.2.2.1 (hC.2.2.2.2.1 _ lk_1347) dX9_reckonRange_76 ?_
      refine lv_lload hx hb dX9_reckonRange_79 (lv_at hl 9 rfl) ?_
      obtain ⟨r266, hq265, h⟩ := pq_i h
      refine r_cS (st' := [.int r266]) [.long (4294967295 : Int64), .long x11] [] hC hw (k_X9_isBelow _ hq265) mk_X9_isBelow lk_1358 ⟨Nat.le_trans (by decide) hR.1, Nat.le_trans (by decide) hR.2⟩ ⟨Nat.zero_le _, Nat.zero_le _⟩ rfl hl.1 rfl rfl (Nat.le_of_ble_eq_true rfl) dX9_reckonRange_81 (fun hP H locs hw => ?_)
      refine lv_if_eq (tgt := 91) hx hb dX9_reckonRange_84 (by decide) (fun c267 => ?_) (fun c267 => ?_)
      · have h := i_yes c267 h
        exact w_X9_reckonRange_91 hC hR o0 a0 x1 x2 x3 x4 x5 x7 x9 x11 xs0 _ _ _ _ hi0 hw (lv_sub hl [1, 2, 3, 4, 5, 6, 7, 8, 9, 0] rfl) h
      · have h := i_no c267 h
        refine lv_iconst (v := 1) hx hb dX9_reckonRange_87 (by decide) ?_
        refine lv_goto (tgt := 92) hx hb dX9_reckonRange_88 (by decide) ?_
        exact w_X9_reckonRange_92 hC hR o0 a0 x1 x2 x3 x4 x5 x7 x9 x11 xs0 (1 : Int32) _ _ _ _ hi0 hw (lv_sub hl [1, 2, 3, 4, 5, 6, 7, 8, 9, 0] rfl) h
set_option maxHeartbeats 4000000 in
set_option maxRecDepth 100000 in
theorem w_X9_reckonRange_63 {r : Unit} {D' : dt} (hC : Cx RX9 cX9_reckonRange 24 none p s m args meth c) (hR : 5 ≤ R.frames ∧ 139 ≤ R.locals) : ∀ (o0 a0 : Nat) (x1 : Int32) (x2 : Int32) (x3 : Int32) (x4 : Int32) (x5 : Int64) (x7 : Int64) (x9 : Int64) (x11 : Int64) (D : dt) (H : Heap) (locs : List Loc) (ls : Array Slot), Is S ad o0 a0 8 → Wd G cA S D ad A s H locs → lv_has ls 24 [(0, .ref a0), (1, .int x1), (2, .int x2), (3, .int x3), (4, .int x4), (5, .long x5), (7, .long x7), (9, .long x9), (11, .long x11)] → f_X9_reckonRange_63 S o0 x1 x2 x3 x4 x5 x7 x9 x11 D = some (r, D') → W p l e R s m args below meth c H locs 0 0 (MQ below (Qn none True (wpost G cA S D' ad A) A) args s 0 0 A) (F0 m 63 ls []) := by
  obtain ⟨hx, hb, -⟩ := id hC
  intro o0 a0 x1 x2 x3 x4 x5 x7 x9 x11 D H locs ls hi0 hw hl h
  unfold f_X9_reckonRange_63 at h
  refine lv_iconst (v := 0) hx hb dX9_reckonRange_63 (by decide) ?_
  exact w_X9_reckonRange_64 hC hR o0 a0 x1 x2 x3 x4 x5 x7 x9 x11 (0 : Int32) _ _ _ _ hi0 hw (lv_sub hl [0, 1, 2, 3, 4, 5, 6, 7, 8] rfl) h
set_option maxHeartbeats 4000000 in
set_option maxRecDepth 100000 in
theorem w_X9_reckonRange_0 {r : Unit} {D' : dt} (hC : Cx RX9 cX9_reckonRange 24 none p s m args meth c) (hR : 5 ≤ R.frames ∧ 139 ≤ R.locals) : ∀ (o0 a0 : Nat) (x1 : Int32) (x2 : Int32) (x3 : Int32) (D : dt) (H : Heap) (locs : List Loc) (ls : Array Slot), Is S ad o0 a0 8 → Wd G cA S D ad A s H locs → lv_has ls 24 [(0, .ref a0), (1, .int x1), (2, .int x2), (3, .int x3)] → f_X9_reckonRange S o0 x1 x2 x3 D = some (r, D') → W p l e R s m args below meth c H locs 0 0 (MQ below (Qn none True (wpost G cA S D' ad A) A) args s 0 0 A) (F0 m 0 ls []) := by
  obtain ⟨hx, hb, -⟩ := id hC
  intro o0 a0 x1 x2 x3 D H locs ls hi0 hw hl h
  unfold f_X9_reckonRange at h
  refine lv_aload_n hx hb dX9_reckonRange_0 rfl (lv_at hl 0 rfl) ?_
  obtain ⟨o268, ho271, h⟩ := rq_i h
  refine r_getR hC hw kc_8 hi0 2 rfl lk_1074 dX9_reckonRange_1 rfl ho271 (fun a269 hi270 => ?_)
  refine lv_iload_n hx hb dX9_reckonRange_4 rfl (lv_at hl 1 rfl) ?_
  obtain ⟨hn272, h⟩ := ix_i h
  refine r_iald hC hw hi270 hn272 dX9_reckonRange_5 ?_
  refine lv_topi (fun y273 ey273 => ?_)
  have h := nm_i h y273 ey273
  refine lv_istore (lv' := [(4, .int y273), (0, .ref a0), (1, .int x1), (2, .int x2), (3, .int x3)]) hx hb dX9_reckonRange_6 hl (by decide) rfl (fun ls hl => ?_)
  refine lv_aload_n hx hb dX9_reckonRange_8 rfl (lv_at hl 1 rfl) ?_
  obtain ⟨o274, ho277, h⟩ := rq_i h
  refine r_getR hC hw kc_8 hi0 41 rfl lk_1113 dX9_reckonRange_9 rfl ho277 (fun a275 hi276 => ?_)
  refine lv_iload hx hb dX9_reckonRange_12 (lv_at hl 0 rfl) ?_
  obtain ⟨hn278, h⟩ := ix_i h
  refine r_lald hC hw hi276 hn278 dX9_reckonRange_14 ?_
  refine lv_topl (fun y279 ey279 => ?_)
  have h := nm_i h y279 ey279
  refine lv_lstore (lv' := [(5, .long y279), (4, .int y273), (0, .ref a0), (1, .int x1), (2, .int x2), (3, .int x3)]) hx hb dX9_reckonRange_15 hl (by decide) rfl (fun ls hl => ?_)
  refine lv_aload_n hx hb dX9_reckonRange_17 rfl (lv_at hl 2 rfl) ?_
  obtain ⟨o280, ho283, h⟩ := rq_i h
  refine r_getR hC hw kc_8 hi0 42 rfl lk_1114 dX9_reckonRange_18 rfl ho283 (fun a281 hi282 => ?_)
  refine lv_iload hx hb dX9_reckonRange_21 (lv_at hl 1 rfl) ?_
  obtain ⟨hn284, h⟩ := ix_i h
  refine r_lald hC hw hi282 hn284 dX9_reckonRange_23 ?_
  refine lv_topl (fun y285 ey285 => ?_)
  have h := nm_i h y285 ey285
  refine lv_lstore (lv' := [(7, .long y285), (5, .long y279), (4, .int y273), (0, .ref a0), (1, .int x1), (2, .int x2), (3, .int x3)]) hx hb dX9_reckonRange_24 hl (by decide) rfl (fun ls hl => ?_)
  refine lv_aload_n hx hb dX9_reckonRange_26 rfl (lv_at hl 3 rfl) ?_
  refine r_gL hC hw kc_8 hi0 51 rfl lk_1123 dX9_reckonRange_27 ?_
  refine lv_topl (fun y286 ey286 => ?_)
  have h := nm_i h y286 ey286
  refine lv_lstore (lv' := [(9, .long y286), (7, .long y285), (5, .long y279), (4, .int y273), (0, .ref a0), (1, .int x1), (2, .int x2), (3, .int x3)]) hx hb dX9_reckonRange_30 hl (by decide) rfl (fun ls hl => ?_)
  refine lv_aload_n hx hb dX9_reckonRange_32 rfl (lv_at hl 4 rfl) ?_
  refine r_gL hC hw kc_8 hi0 52 rfl lk_1124 dX9_reckonRange_33 ?_
  refine lv_topl (fun y287 ey287 => ?_)
  have h := nm_i h y287 ey287
  refine lv_lstore (lv' := [(11, .long y287), (9, .long y286), (7, .long y285), (5, .long y279), (4, .int y273), (0, .ref a0), (1, .int x1), (2, .int x2), (3, .int x3)]) hx hb dX9_reckonRange_36 hl (by decide) rfl (fun ls hl => ?_)
  refine lv_iload_n hx hb dX9_reckonRange_38 rfl (lv_at hl 8 rfl) ?_
  refine lv_if_ne (tgt := 63) hx hb dX9_reckonRange_39 (by decide) (fun c288 => ?_) (fun c288 => ?_)
  · have h := i_no c288 h
    exact w_X9_reckonRange_63 hC hR o0 a0 x1 x2 x3 y273 y279 y285 y286 y287 _ _ _ _ hi0 hw (lv_sub hl [5, 6, 7, 8, 4, 3, 2, 1, 0] rfl) h
  · have h := i_yes c288 h
    refine lv_iload_n hx hb dX9_reckonRange_42 rfl (lv_at hl 7 rfl) ?_
    refine lv_bipush (v := 13) hx hb dX9_reckonRange_43 (by decide) ?_
    refine lv_icmp_eq (tgt := 63) hx hb dX9_reckonRange_45 (by decide) (fun c289 => ?_) (fun c289 => ?_)
    · have h := i_yes c289 h
      exact w_X9_reckonRange_63 hC hR o0 a0 x1 x2 x3 y273 y279 y285 y286 y287 _ _ _ _ hi0 hw (lv_sub hl [5, 6, 7, 8, 4, 3, 2, 1, 0] rfl) h
    · have h := i_no c289 h
      refine lv_ldc2 (v := 4294967295) hx hb hC.2.2.2.1 (hC.2.2.2.2.1 _ lk_1347) dX9_reckonRange_48 ?_
      refine lv_lload hx hb dX9_reckonRange_51 (lv_at hl 2 rfl) ?_
      obtain ⟨r291, hq290, h⟩ := pq_i h
      refine r_cS (st' := [.int r291]) [.long (4294967295 : Int64), .long y285] [] hC hw (k_X9_isBelow _ hq290) mk_X9_isBelow lk_1358 ⟨Nat.le_trans (by decide) hR.1, Nat.le_trans (by decide) hR.2⟩ ⟨Nat.zero_le _, Nat.zero_le _⟩ rfl hl.1 rfl rfl (Nat.le_of_ble_eq_true rfl) dX9_reckonRange_53 (fun hP H locs hw => ?_)
      refine lv_if_eq (tgt := 63) hx hb dX9_reckonRange_56 (by decide) (fun c292 => ?_) (fun c292 => ?_)
      · have h := i_yes c292 h
        exact w_X9_reckonRange_63 hC hR o0 a0 x1 x2 x3 y273 y279 y285 y286 y287 _ _ _ _ hi0 hw (lv_sub hl [5, 6, 7, 8, 4, 3, 2, 1, 0] rfl) h
      · have h := i_no c292 h
        refine lv_iconst (v := 1) hx hb dX9_reckonRange_59 (by decide) ?_
        refine lv_goto (tgt := 64) hx hb dX9_reckonRange_60 (by decide) ?_
        exact w_X9_reckonRange_64 hC hR o0 a0 x1 x2 x3 y273 y279 y285 y286 y287 (1 : Int32) _ _ _ _ hi0 hw (lv_sub hl [5, 6, 7, 8, 4, 3, 2, 1, 0] rfl) h
set_option maxHeartbeats 4000000 in
set_option maxRecDepth 100000 in
theorem k_X9_reckonRange {l : Launch} {G : va_G} {cA : Nat → ClassId} {S : sh} {D D' : dt} {ad : Nat → Nat} (sz : Nat) {o0 a0 : Nat} {x1 : Int32} {x2 : Int32} {x3 : Int32} {r : Unit} (hi0 : Is S ad o0 a0 8) (h : f_X9_reckonRange S o0 x1 x2 x3 D = some (r, D')) : Co l yX9_reckonRange (Cond.code yX9_reckonRange cX9_reckonRange 24 none :: tb0) 5 139 [.ref a0, .int x1, .int x2, .int x3] G cA S D ad sz none True D' := by
  refine Met.ofW (cc := cX9_reckonRange) (maxL := 24) (ret := none) (by decide) rfl ?_
  intro p e s m args below meth c s₁ B hml hv
  obtain ⟨rfl, hsz, hP, hK, hD0, hT, hX⟩ := hv
  subst hsz
  have hts := atoms_spec (ws := Cond.code yX9_reckonRange cX9_reckonRange 24 none :: tb0) B.pre
  have hC : Cx RX9 cX9_reckonRange 24 none p s m _ meth c := ⟨B.exec, B.bytes, hml, findClass_of_methodNamed B.named, fun w q => hts w (List.mem_cons_of_mem _ q), B.returns, B.notSynchronized⟩
  have hw := Wd.entry hP hK hD0 hT hX
  have hl := lv_entry ([.ref a0, .int x1, .int x2, .int x3]) (n := 24) (Nat.le_of_ble_eq_true rfl)
  rw [lg_entry_eq]
  exact w_X9_reckonRange_0 hC ⟨Nat.le_refl _, Nat.le_refl _⟩ o0 a0 x1 x2 x3 D _ _ _ hi0 hw hl h
end
