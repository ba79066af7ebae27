-- JudgedCodeModel.call
def f_X9_call_357 (S : sh) : Nat → Nat → Int32 → dt → Option (Int32 × dt)
  | 0, _, _, _ => none
  | n + 1, o0, x4, D => if (6 : Int32) ≤ x4 then (some ((1 : Int32), D)) else (rq (gR D o0 21) fun o145 => ix x4 (sA S o145) <| nm (pL D o145 x4.toNatClampNeg (0 : Int64)) fun D150 => nm (x4 + 1) fun y151 => f_X9_call_357 S n o0 y151 D150)
def f_X9_call_347 (S : sh) (o0 : Nat) (x2 : Int64) (D : dt) : Option (Int32 × dt) := rq (gR D o0 21) fun o152 => ix (0 : Int32) (sA S o152) <| nm (pL D o152 (0 : Int32).toNatClampNeg x2) fun D157 => nm ((1 : Int32)) fun y158 => f_X9_call_357 S LF o0 y158 D157
def f_X9_call_346 (S : sh) (o0 : Nat) (xs0 : Int64) (D : dt) : Option (Int32 × dt) := f_X9_call_347 S o0 xs0 D
def f_X9_call_334 (S : sh) (o0 : Nat) (x6 : Int32) (D : dt) : Option (Int32 × dt) := if x6 = 0 then (f_X9_call_346 S o0 (-1 : Int64) D) else (f_X9_call_346 S o0 (0 : Int64) D)
def f_X9_call_313 (S : sh) (o0 : Nat) (x4 : Int32) (x5 : Int32) (xs0 : Int32) (D : dt) : Option (Int32 × dt) := if xs0 = 0 then (f_X9_call_334 S o0 xs0 D) else (rq (gR D o0 15) fun o161 => ix (((32 : Int32) * x4) + x5) (sA S o161) <| nm (pI D o161 (((32 : Int32) * x4) + x5).toNatClampNeg (vp_nar .boolean (0 : Int32))) fun D166 => f_X9_call_334 S o0 xs0 D166)
def f_X9_call_312 (S : sh) (o0 : Nat) (x4 : Int32) (x5 : Int32) (D : dt) : Option (Int32 × dt) := f_X9_call_313 S o0 x4 x5 (0 : Int32) D
def f_X9_call_265 (S : sh) (o0 : Nat) (xs0 : Int64) (D : dt) : Option (Int32 × dt) := f_X9_call_347 S o0 xs0 D
def f_X9_call_226 (S : sh) (o0 : Nat) (x1 : Int32) (x4 : Int32) (D : dt) : Option (Int32 × dt) := pq (f_X9_find S D o0 x4) fun r168 => if x1 = (1 : Int32) then (if 0 ≤ r168 then (f_X9_call_265 S o0 (((34359738368 : Int64) + (j_lshl x4.toInt64 (24 : Int32))) + (j_lshl r168.toInt64 (12 : Int32))) D) else (f_X9_call_265 S o0 (0 : Int64) D)) else (if x1 = (2 : Int32) then (rq (gR D o0 21) fun o178 => ix (4 : Int32) (sA S o178) <| cq (f_X9_change S o0 x4 r168 (gL D o178 (4 : Int32).toNatClampNeg) D) fun r184 D185 => f_X9_call_347 S o0 r184 D185) else (rq (gR D o0 10) fun o171 => ix x4 (sA S o171) <| if (gI D o171 x4.toNatClampNeg) = (1 : Int32) then (if r168 < 0 then (f_X9_call_312 S o0 x4 r168 D) else (f_X9_call_313 S o0 x4 r168 (1 : Int32) D)) else (f_X9_call_312 S o0 x4 r168 D)))
def f_X9_call_182 (S : sh) : Nat → Nat → Int32 → Int32 → Int32 → dt → Option (Int32 × dt)
  | 0, _, _, _, _, _ => none
  | n + 1, o0, x1, x4, x5, D => rq (gR D o0 12) fun o187 => ix x4 (sA S o187) <| if (gI D o187 x4.toNatClampNeg) ≤ x5 then (f_X9_call_226 S o0 x1 x4 D) else (if x1 = (2 : Int32) then (rq (gR D o0 24) fun o194 => rq (gR D o0 21) fun o198 => ix (3 : Int32) (sA S o198) <| pq (f_X9_octetAt S D o0 ((gL D o198 (3 : Int32).toNatClampNeg) + x5.toInt64)) fun r204 => ix x5 (sA S o194) <| nm (pI D o194 x5.toNatClampNeg r204) fun D206 => nm (x5 + 1) fun y207 => f_X9_call_182 S n o0 x1 x4 y207 D206) else (f_X9_call_226 S o0 x1 x4 D))
def f_X9_call_140 (S : sh) : Nat → Nat → Int32 → Int32 → Int32 → dt → Option (Int32 × dt)
  | 0, _, _, _, _, _ => none
  | n + 1, o0, x1, x4, x5, D => rq (gR D o0 11) fun o208 => ix x4 (sA S o208) <| if (gI D o208 x4.toNatClampNeg) ≤ x5 then (nm ((0 : Int32)) fun y214 => f_X9_call_182 S LF o0 x1 x4 y214 D) else (rq (gR D o0 25) fun o215 => rq (gR D o0 21) fun o219 => ix (2 : Int32) (sA S o219) <| pq (f_X9_octetAt S D o0 ((gL D o219 (2 : Int32).toNatClampNeg) + x5.toInt64)) fun r225 => ix x5 (sA S o215) <| nm (pI D o215 x5.toNatClampNeg r225) fun D227 => nm (x5 + 1) fun y228 => f_X9_call_140 S n o0 x1 x4 y228 D227)
def f_X9_call_137 (S : sh) (o0 : Nat) (x1 : Int32) (x4 : Int32) (D : dt) : Option (Int32 × dt) := nm ((0 : Int32)) fun y229 => f_X9_call_140 S LF o0 x1 x4 y229 D
def f_X9_call (S : sh) (o0 : Nat) (x1 : Int32) (D : dt) : Option (Int32 × dt) := nm (gL D o0 17) fun y230 => if x1 = (6 : Int32) then (rq (gR D o0 23) fun o274 => rq (gR D o0 21) fun o278 => ix (1 : Int32) (sA S o278) <| ix ((gI D o0 22) - (gI D o0 22) / (32 : Int32) * (32 : Int32)) (sA S o274) <| nm (pL D o274 ((gI D o0 22) - (gI D o0 22) / (32 : Int32) * (32 : Int32)).toNatClampNeg (gL D o278 (1 : Int32).toNatClampNeg)) fun D284 => nm (pI D284 o0 22 ((gI D284 o0 22) + (1 : Int32))) fun D285 => nm ((0 : Int64)) fun y286 => f_X9_call_347 S o0 y286 D285) else (if (4 : Int32) ≤ x1 then (f_X9_call_347 S o0 y230 D) else (rq (gR D o0 21) fun o233 => ix (1 : Int32) (sA S o233) <| nm (((gL D o233 (1 : Int32).toNatClampNeg) - (17179869184 : Int64)).toInt32) fun y238 => rq (gR D o0 21) fun o239 => ix (1 : Int32) (sA S o239) <| pq (f_X9_in (gL D o239 (1 : Int32).toNatClampNeg) (17179869184 : Int64) (((17179869184 : Int64) + ((gI D o0 9).toInt64)) - (1 : Int64))) fun r245 => if r245 = 0 then (some ((0 : Int32), D)) else (rq (gR D o0 21) fun o247 => ix (2 : Int32) (sA S o247) <| rq (gR D o0 11) fun o252 => ix y238 (sA S o252) <| pq (f_X9_isThere S D o0 (gL D o247 (2 : Int32).toNatClampNeg) (gI D o252 y238.toNatClampNeg) (0 : Int32)) fun r258 => if r258 = 0 then (some ((0 : Int32), D)) else (if x1 = (2 : Int32) then (rq (gR D o0 21) fun o261 => ix (3 : Int32) (sA S o261) <| rq (gR D o0 12) fun o266 => ix y238 (sA S o266) <| pq (f_X9_isThere S D o0 (gL D o261 (3 : Int32).toNatClampNeg) (gI D o266 y238.toNatClampNeg) (0 : Int32)) fun r272 => if r272 = 0 then (some ((0 : Int32), D)) else (f_X9_call_137 S o0 x1 y238 D)) else (f_X9_call_137 S o0 x1 y238 D)))))
theorem mk_X9_call : MkV yX9_call RX9 cX9_call 7 (some .boolean) 1 := ⟨⟨lk_1372, lk_74, lk_121, (tb_in (i := 1373) (by decide +kernel) (by decide +kernel))⟩, by decide +kernel⟩
section
variable {p : Program} {l : Launch} {e : Env} {R : Room} {s : State} {m : MethodId} {args : Array Value} {below : List Frame} {meth : Method} {c : Code} {H : Heap} {locs : List Loc} {G : va_G} {cA : Nat → ClassId} {S : sh} {D : dt} {ad : Nat → Nat} {A : Nat → Prop}
set_option maxHeartbeats 4000000 in
set_option maxRecDepth 100000 in
theorem w_X9_call_357 {r : Int32} {D' : dt} (hC : Cx RX9 cX9_call 7 (some .boolean) p s m args meth c) (hR : 3 ≤ R.frames ∧ 69 ≤ R.locals) : ∀ (n : Nat), ∀ (o0 a0 : Nat) (x4 : Int32) (D : dt) (H : Heap) (locs : List Loc) (ls : Array Slot), Is S ad o0 a0 8 → Wd G cA S D ad A s H locs → lv_has ls 7 [(0, .ref a0), (4, .int x4)] → f_X9_call_357 S n o0 x4 D = some (r, D') → W p l e R s m args below meth c H locs 0 0 (MQ below (Qn (some (.int r)) True (wpost G cA S D' ad A) A) args s 0 0 A) (F0 m 357 ls []) := by
  obtain ⟨hx, hb, -⟩ := id hC
  intro n
  induction n with
  | zero =>
    intro o0 a0 x4 D H locs ls hi0 hw hl h
    rw [f_X9_call_357.eq_1] at h
    cases h
  | succ n ih =>
    intro o0 a0 x4 D H locs ls hi0 hw hl h
    rw [f_X9_call_357.eq_2] at h
    refine lv_iload hx hb dX9_call_357 (lv_at hl 1 rfl) ?_
    refine lv_bipush (v := 6) hx hb dX9_call_359 (by decide) ?_
    refine lv_icmp_ge (tgt := 378) hx hb dX9_call_361 (by decide) (fun c144 => ?_) (fun c144 => ?_)
    · have h := i_yes c144 h
      refine lv_iconst (v := 1) hx hb dX9_call_378 (by decide) ?_
      cases h
      exact r_zret hC hw (Or.inr rfl) dX9_call_379
    · have h := i_no c144 h
      refine lv_aload_n hx hb dX9_call_364 rfl (lv_at hl 0 rfl) ?_
      obtain ⟨o145, ho148, h⟩ := rq_i h
      refine r_getR hC hw kc_8 hi0 21 rfl lk_1093 dX9_call_365 rfl ho148 (fun a146 hi147 => ?_)
      refine lv_iload hx hb dX9_call_368 (lv_at hl 1 rfl) ?_
      refine lv_lconst (v := 0) hx hb dX9_call_370 (by decide) ?_
      obtain ⟨hn149, h⟩ := ix_i h
      refine r_las hC hw hi147 hn149 dX9_call_371 (fun D150 eD150 H locs hw => ?_)
      have h := nm_i h D150 eD150
      obtain ⟨y151, ey151⟩ : ∃ z : Int32, z = x4 + 1 := ⟨_, rfl⟩
      have h := nm_i h y151 ey151
      refine lv_iinc (v := y151) (lv' := [(4, .int y151), (0, .ref a0)]) hx hb dX9_call_372 hl (k := 1) rfl (by rw [ey151]; rfl) (by decide) rfl (fun ls hl => ?_)
      refine lv_goto (tgt := 357) hx hb dX9_call_375 (by decide) ?_
      exact ih o0 a0 y151 _ _ _ _ hi0 hw (lv_sub hl [1, 0] rfl) h
set_option maxHeartbeats 4000000 in
set_option maxRecDepth 100000 in
theorem w_X9_call_347 {r : Int32} {D' : dt} (hC : Cx RX9 cX9_call 7 (some .boolean) p s m args meth c) (hR : 3 ≤ R.frames ∧ 69 ≤ R.locals) : ∀ (o0 a0 : Nat) (x2 : Int64) (D : dt) (H : Heap) (locs : List Loc) (ls : Array Slot), Is S ad o0 a0 8 → Wd G cA S D ad A s H locs → lv_has ls 7 [(0, .ref a0), (2, .long x2)] → f_X9_call_347 S o0 x2 D = some (r, D') → W p l e R s m args below meth c H locs 0 0 (MQ below (Qn (some (.int r)) True (wpost G cA S D' ad A) A) args s 0 0 A) (F0 m 347 ls []) := by
  obtain ⟨hx, hb, -⟩ := id hC
  intro o0 a0 x2 D H locs ls hi0 hw hl h
  unfold f_X9_call_347 at h
  refine lv_aload_n hx hb dX9_call_347 rfl (lv_at hl 0 rfl) ?_
  obtain ⟨o152, ho155, h⟩ := rq_i h
  refine r_getR hC hw kc_8 hi0 21 rfl lk_1093 dX9_call_348 rfl ho155 (fun a153 hi154 => ?_)
  refine lv_iconst (v := 0) hx hb dX9_call_351 (by decide) ?_
  refine lv_lload_n hx hb dX9_call_352 rfl (lv_at hl 1 rfl) ?_
  obtain ⟨hn156, h⟩ := ix_i h
  refine r_las hC hw hi154 hn156 dX9_call_353 (fun D157 eD157 H locs hw => ?_)
  have h := nm_i h D157 eD157
  refine lv_iconst (v := 1) hx hb dX9_call_354 (by decide) ?_
  refine lv_topi (fun y158 ey158 => ?_)
  have h := nm_i h y158 ey158
  refine lv_istore (lv' := [(4, .int y158), (0, .ref a0), (2, .long x2)]) hx hb dX9_call_355 hl (by decide) rfl (fun ls hl => ?_)
  exact w_X9_call_357 hC hR LF o0 a0 y158 _ _ _ _ hi0 hw (lv_sub hl [1, 0] rfl) h
set_option maxHeartbeats 4000000 in
set_option maxRecDepth 100000 in
theorem w_X9_call_346 {r : Int32} {D' : dt} (hC : Cx RX9 cX9_call 7 (some .boolean) p s m args meth c) (hR : 3 ≤ R.frames ∧ 69 ≤ R.locals) : ∀ (o0 a0 : Nat) (xs0 : Int64) (D : dt) (H : Heap) (locs : List Loc) (ls : Array Slot), Is S ad o0 a0 8 → Wd G cA S D ad A s H locs → lv_has ls 7 [(0, .ref a0)] → f_X9_call_346 S o0 xs0 D = some (r, D') → W p l e R s m args below meth c H locs 0 0 (MQ below (Qn (some (.int r)) True (wpost G cA S D' ad A) A) args s 0 0 A) (F0 m 346 ls [.long xs0]) := by
  obtain ⟨hx, hb, -⟩ := id hC
  intro o0 a0 xs0 D H locs ls hi0 hw hl h
  unfold f_X9_call_346 at h
  refine lv_lstore_n (lv' := [(2, .long xs0), (0, .ref a0)]) hx hb dX9_call_346 rfl hl (by decide) rfl (fun ls hl => ?_)
  exact w_X9_call_347 hC hR o0 a0 xs0 _ _ _ _ hi0 hw (lv_sub hl [1, 0] rfl) h
set_option maxHeartbeats 4000000 in
set_option maxRecDepth 100000 in
theorem w_X9_call_334 {r : Int32} {D' : dt} (hC : Cx RX9 cX9_call 7 (some .boolean) p s m args meth c) (hR : 3 ≤ R.frames ∧ 69 ≤ R.locals) : ∀ (o0 a0 : Nat) (x6 : Int32) (D : dt) (H : Heap) (locs : List Loc) (ls : Array Slot), Is S ad o0 a0 8 → Wd G cA S D ad A s H locs → lv_has ls 7 [(0, .ref a0), (6, .int x6)] → f_X9_call_334 S o0 x6 D = some (r, D') → W p l e R s m args below meth c H locs 0 0 (MQ below (Qn (some (.int r)) True (wpost G cA S D' ad A) A) args s 0 0 A) (F0 m 334 ls []) := by
  obtain ⟨hx, hb, -⟩ := id hC
  intro o0 a0 x6 D H locs ls hi0 hw hl h
  unfold f_X9_call_334 at h
  refine lv_iload hx hb dX9_call_334 (lv_at hl 1 rfl) ?_
  refine lv_if_eq (tgt := 343) hx hb dX9_call_336 (by decide) (fun c159 => ?_) (fun c159 => ?_)
  · have h := i_yes c159 h
    refine lv_ldc2 (v := (-1)) hx hb hC.2.2.2.1 (hC.2.2.2.2.1 _ lk_1365) dX9_call_343 ?_
    exact w_X9_call_346 hC hR o0 a0 (-1 : Int64) _ _ _ _ hi0 hw (lv_sub hl [0] rfl) h
  · have h := i_no c159 h
    refine lv_lconst (v := 0) hx hb dX9_call_339 (by decide) ?_
    refine lv_goto (tgt := 346) hx hb dX9_call_340 (by decide) ?_
    exact w_X9_call_346 hC hR o0 a0 (0 : Int64) _ _ _ _ hi0 hw (lv_sub hl [0] rfl) h
set_option maxHeartbeats 4000000 in
set_option maxRecDepth 100000 in
theorem w_X9_call_313 {r : Int32} {D' : dt} (hC : Cx RX9 cX9_call 7 (some .boolean) p s m args meth c) (hR : 3 ≤ R.frames ∧ 69 ≤ R.locals) : ∀ (o0 a0 : Nat) (x4 : Int32) (x5 : Int32) (xs0 : Int32) (D : dt) (H : Heap) (locs : List Loc) (ls : Array Slot), Is S ad o0 a0 8 → Wd G cA S D ad A s H locs → lv_has ls 7 [(0, .ref a0), (4, .int x4), (5, .int x5)] → f_X9_call_313 S o0 x4 x5 xs0 D = some (r, D') → W p l e R s m args below meth c H locs 0 0 (MQ below (Qn (some (.int r)) True (wpost G cA S D' ad A) A) args s 0 0 A) (F0 m 313 ls [.int xs0]) := by
  obtain ⟨hx, hb, -⟩ := id hC
  intro o0 a0 x4 x5 xs0 D H locs ls hi0 hw hl h
  unfold f_X9_call_313 at h
  refine lv_istore (lv' := [(6, .int xs0), (0, .ref a0), (4, .int x4), (5, .int x5)]) hx hb dX9_call_313 hl (by decide) rfl (fun ls hl => ?_)
  refine lv_iload hx hb dX9_call_315 (lv_at hl 0 rfl) ?_
  refine lv_if_eq (tgt := 334) hx hb dX9_call_317 (by decide) (fun c160 => ?_) (fun c160 => ?_)
  · have h := i_yes c160 h
    exact w_X9_call_334 hC hR o0 a0 xs0 _ _ _ _ hi0 hw (lv_sub hl [1, 0] rfl) h
  · have h := i_no c160 h
    refine lv_aload_n hx hb dX9_call_320 rfl (lv_at hl 1 rfl) ?_
    obtain ⟨o161, ho164, h⟩ := rq_i h
    refine r_getR hC hw kc_8 hi0 15 rfl lk_1087 dX9_call_321 rfl ho164 (fun a162 hi163 => ?_)
    refine lv_bipush (v := 32) hx hb dX9_call_324 (by decide) ?_
    refine lv_iload hx hb dX9_call_326 (lv_at hl 2 rfl) ?_
    refine lv_imul hx hb dX9_call_328 ?_
    refine lv_iload hx hb dX9_call_329 (lv_at hl 3 rfl) ?_
    refine lv_iadd hx hb dX9_call_331 ?_
    refine lv_iconst (v := 0) hx hb dX9_call_332 (by decide) ?_
    obtain ⟨hn165, h⟩ := ix_i h
    refine r_zas hC hw hi163 hn165 dX9_call_333 (fun D166 eD166 H locs hw => ?_)
    have h := nm_i h D166 eD166
    exact w_X9_call_334 hC hR o0 a0 xs0 _ _ _ _ hi0 hw (lv_sub hl [1, 0] rfl) h
set_option maxHeartbeats 4000000 in
set_option maxRecDepth 100000 in
theorem w_X9_call_312 {r : Int32} {D' : dt} (hC : Cx RX9 cX9_call 7 (some .boolean) p s m args meth c) (hR : 3 ≤ R.frames ∧ 69 ≤ R.locals) : ∀ (o0 a0 : Nat) (x4 : Int32) (x5 : Int32) (D : dt) (H : Heap) (locs : List Loc) (ls : Array Slot), Is S ad o0 a0 8 → Wd G cA S D ad A s H locs → lv_has ls 7 [(0, .ref a0), (4, .int x4), (5, .int x5)] → f_X9_call_312 S o0 x4 x5 D = some (r, D') → W p l e R s m args below meth c H locs 0 0 (MQ below (Qn (some (.int r)) True (wpost G cA S D' ad A) A) args s 0 0 A) (F0 m 312 ls []) := by
  obtain ⟨hx, hb, -⟩ := id hC
  intro o0 a0 x4 x5 D H locs ls hi0 hw hl h
  unfold f_X9_call_312 at h
  refine lv_iconst (v := 0) hx hb dX9_call_312 (by decide) ?_
  exact w_X9_call_313 hC hR o0 a0 x4 x5 (0 : Int32) _ _ _ _ hi0 hw (lv_sub hl [0, 1, 2] rfl) h
set_option maxHeartbeats 4000000 in
set_option maxRecDepth 100000 in
theorem w_X9_call_265 {r : Int32} {D' : dt} (hC : Cx RX9 cX9_call 7 (some .boolean) p s m args meth c) (hR : 3 ≤ R.frames ∧ 69 ≤ R.locals) : ∀ (o0 a0 : Nat) (xs0 : Int64) (D : dt) (H : Heap) (locs : List Loc) (ls : Array Slot), Is S ad o0 a0 8 → Wd G cA S D ad A s H locs → lv_has ls 7 [(0, .ref a0)] → f_X9_call_265 S o0 xs0 D = some (r, D') → W p l e R s m args below meth c H locs 0 0 (MQ below (Qn (some (.int r)) True (wpost G cA S D' ad A) A) args s 0 0 A) (F0 m 265 ls [.long xs0]) := by
  obtain ⟨hx, hb, -⟩ := id hC
  intro o0 a0 xs0 D H locs ls hi0 hw hl h
  unfold f_X9_call_265 at h
  refine lv_lstore_n (lv' := [(2, .long xs0), (0, .ref a0)]) hx hb dX9_call_265 rfl hl (by decide) rfl (fun ls hl => ?_)
  refine lv_goto (tgt := 347) hx hb dX9_call_266 (by decide) ?_
  exact w_X9_call_347 hC hR o0 a0 xs0 _ _ _ _ hi0 hw (lv_sub hl [1, 0] rfl) h
set_option maxHeartbeats 4000000 in
set_option maxRecDepth 100000 in
theorem w_X9_call_226 {r : Int32} {D' : dt} (hC : Cx RX9 cX9_call 7 (some .boolean) p s m args meth c) (hR : 3 ≤ R.frames ∧ 69 ≤ R.locals) : ∀ (o0 a0 : Nat) (x1 : Int32) (x4 : Int32) (D : dt) (H : Heap) (locs : List Loc) (ls : Array Slot), Is S ad o0 a0 8 → Wd G cA S D ad A s H locs → lv_has ls 7 [(0, .ref a0), (1, .int x1), (4, .int x4)] → f_X9_call_226 S o0 x1 x4 D = some (r, D') → W p l e R s m args below meth c H locs 0 0 (MQ below (Qn (some (.int r)) True (wpost G cA S D' ad A) A) args s 0 0 A) (F0 m 226 ls []) := by
  obtain ⟨hx, hb, -⟩ := id hC
  intro o0 a0 x1 x4 D H locs ls hi0 hw hl h
  unfold f_X9_call_226 at h
  refine lv_aload_n hx hb dX9_call_226 rfl (lv_at hl 0 rfl) ?_
  refine lv_iload hx hb dX9_call_227 (lv_at hl 2 rfl) ?_
  obtain ⟨r168, hq167, h⟩ := pq_i h
  refine r_cV (st' := [.int r168]) [.int x4] [] hC hw kc_8 hi0 (k_X9_find _ hi0 hq167) mk_X9_find lk_1375 ⟨Nat.le_trans (by decide) hR.1, Nat.le_trans (by decide) hR.2⟩ ⟨Nat.zero_le _, Nat.zero_le _⟩ rfl hl.1 rfl rfl (Nat.le_of_ble_eq_true rfl) dX9_call_229 (fun hP H locs hw => ?_)
  refine lv_istore (lv' := [(5, .int r168), (0, .ref a0), (1, .int x1), (4, .int x4)]) hx hb dX9_call_232 hl (by decide) rfl (fun ls hl => ?_)
  refine lv_iload_n hx hb dX9_call_234 rfl (lv_at hl 2 rfl) ?_
  refine lv_iconst (v := 1) hx hb dX9_call_235 (by decide) ?_
  refine lv_icmp_ne (tgt := 269) hx hb dX9_call_236 (by decide) (fun c169 => ?_) (fun c169 => ?_)
  · have h := i_no c169 h
    refine lv_iload_n hx hb dX9_call_269 rfl (lv_at hl 2 rfl) ?_
    refine lv_iconst (v := 2) hx hb dX9_call_270 (by decide) ?_
    refine lv_icmp_ne (tgt := 292) hx hb dX9_call_271 (by decide) (fun c170 => ?_) (fun c170 => ?_)
    · have h := i_no c170 h
      refine lv_aload_n hx hb dX9_call_292 rfl (lv_at hl 1 rfl) ?_
      obtain ⟨o171, ho174, h⟩ := rq_i h
      refine r_getR hC hw kc_8 hi0 10 rfl lk_1082 dX9_call_293 rfl ho174 (fun a172 hi173 => ?_)
      refine lv_iload hx hb dX9_call_296 (lv_at hl 3 rfl) ?_
      obtain ⟨hn175, h⟩ := ix_i h
      refine r_iald hC hw hi173 hn175 dX9_call_298 ?_
      refine lv_iconst (v := 1) hx hb dX9_call_299 (by decide) ?_
      refine lv_icmp_ne (tgt := 312) hx hb dX9_call_300 (by decide) (fun c176 => ?_) (fun c176 => ?_)
      · have h := i_no c176 h
        exact w_X9_call_312 hC hR o0 a0 x4 r168 _ _ _ _ hi0 hw (lv_sub hl [1, 3, 0] rfl) h
      · have h := i_yes c176 h
        refine lv_iload hx hb dX9_call_303 (lv_at hl 0 rfl) ?_
        refine lv_if_lt (tgt := 312) hx hb dX9_call_305 (by decide) (fun c177 => ?_) (fun c177 => ?_)
        · have h := i_yes c177 h
          exact w_X9_call_312 hC hR o0 a0 x4 r168 _ _ _ _ hi0 hw (lv_sub hl [1, 3, 0] rfl) h
        · have h := i_no c177 h
          refine lv_iconst (v := 1) hx hb dX9_call_308 (by decide) ?_
          refine lv_goto (tgt := 313) hx hb dX9_call_309 (by decide) ?_
          exact w_X9_call_313 hC hR o0 a0 x4 r168 (1 : Int32) _ _ _ _ hi0 hw (lv_sub hl [1, 3, 0] rfl) h
    · have h := i_yes c170 h
      refine lv_aload_n hx hb dX9_call_274 rfl (lv_at hl 1 rfl) ?_
      refine lv_iload hx hb dX9_call_275 (lv_at hl 3 rfl) ?_
      refine lv_iload hx hb dX9_call_277 (lv_at hl 0 rfl) ?_
      refine lv_aload_n hx hb dX9_call_279 rfl (lv_at hl 1 rfl) ?_
      obtain ⟨o178, ho181, h⟩ := rq_i h
      refine r_getR hC hw kc_8 hi0 21 rfl lk_1093 dX9_call_280 rfl ho181 (fun a179 hi180 => ?_)
      refine lv_iconst (v := 4) hx hb dX9_call_283 (by decide) ?_
      obtain ⟨hn182, h⟩ := ix_i h
      refine r_lald hC hw hi180 hn182 dX9_call_284 ?_
      obtain ⟨r184, D185, hq183, h⟩ := cq_i h
      refine r_cV (st' := [.long r184]) [.int x4, .int r168, .long (gL D o178 (4 : Int32).toNatClampNeg)] [] hC hw kc_8 hi0 (k_X9_change _ hi0 hq183) mk_X9_change lk_1379 ⟨Nat.le_trans (by decide) hR.1, Nat.le_trans (by decide) hR.2⟩ ⟨Nat.zero_le _, Nat.zero_le _⟩ rfl hl.1 rfl rfl (Nat.le_of_ble_eq_true rfl) dX9_call_285 (fun hP H locs hw => ?_)
      refine lv_lstore_n (lv' := [(2, .long r184), (5, .int r168), (0, .ref a0), (1, .int x1), (4, .int x4)]) hx hb dX9_call_288 rfl hl (by decide) rfl (fun ls hl => ?_)
      refine lv_goto (tgt := 347) hx hb dX9_call_289 (by decide) ?_
      exact w_X9_call_347 hC hR o0 a0 r184 _ _ _ _ hi0 hw (lv_sub hl [2, 0] rfl) h
  · have h := i_yes c169 h
    refine lv_iload hx hb dX9_call_239 (lv_at hl 0 rfl) ?_
    refine lv_if_ge (tgt := 248) hx hb dX9_call_241 (by decide) (fun c186 => ?_) (fun c186 => ?_)
    · have h := i_yes c186 h
      refine lv_ldc2 (v := 34359738368) hx hb hC.2.2.2.1 (hC.2.2.2.2.1 _ lk_1276) dX9_call_248 ?_
      refine lv_iload hx hb dX9_call_251 (lv_at hl 3 rfl) ?_
      refine lv_i2l (v := x4.toInt64) hx hb dX9_call_253 rfl ?_
      refine lv_bipush (v := 24) hx hb dX9_call_254 (by decide) ?_
      refine lv_lshl (v := j_lshl x4.toInt64 (24 : Int32)) hx hb dX9_call_256 rfl ?_
      refine lv_ladd hx hb dX9_call_257 ?_
      refine lv_iload hx hb dX9_call_258 (lv_at hl 0 rfl) ?_
      refine lv_i2l (v := r168.toInt64) hx hb dX9_call_260 rfl ?_
      refine lv_bipush (v := 12) hx hb dX9_call_261 (by decide) ?_
      refine lv_lshl (v := j_lshl r168.toInt64 (12 : Int32)) hx hb dX9_call_263 rfl ?_
      refine lv_ladd hx hb dX9_call_264 ?_
      exact w_X9_call_265 hC hR o0 a0 (((34359738368 : Int64) + (j_lshl x4.toInt64 (24 : Int32))) + (j_lshl r168.toInt64 (12 : Int32))) _ _ _ _ hi0 hw (lv_sub hl [1] rfl) h
    · have h := i_no c186 h
      refine lv_lconst (v := 0) hx hb dX9_call_244 (by decide) ?_
      refine lv_goto (tgt := 265) hx hb dX9_call_245 (by decide) ?_
      exact w_X9_call_265 hC hR o0 a0 (0 : Int64) _ _ _ _ hi0 hw (lv_sub hl [1] rfl) h
set_option maxHeartbeats 4000000 in
set_option maxRecDepth 100000 in
theorem w_X9_call_182 {r : Int32} {D' : dt} (hC : Cx RX9 cX9_call 7 (some .boolean) p s m args meth c) (hR : 3 ≤ R.frames ∧ 69 ≤ R.locals) : ∀ (n : Nat), ∀ (o0 a0 : Nat) (x1 : Int32) (x4 : Int32) (x5 : Int32) (D : dt) (H : Heap) (locs : List Loc) (ls : Array Slot), Is S ad o0 a0 8 → Wd G cA S D ad A s H locs → lv_has ls 7 [(0, .ref a0), (1, .int x1), (4, .int x4), (5, .int x5)] → f_X9_call_182 S n o0 x1 x4 x5 D = some (r, D') → W p l e R s m args below meth c H locs 0 0 (MQ below (Qn (some (.int r)) True (wpost G cA S D' ad A) A) args s 0 0 A) (F0 m 182 ls []) := by
  obtain ⟨hx, hb, -⟩ := id hC
  intro n
  induction n with
  | zero =>
    intro o0 a0 x1 x4 x5 D H locs ls hi0 hw hl h
    rw [f_X9_call_182.eq_1] at h
    cases h
  | succ n ih =>
    intro o0 a0 x1 x4 x5 D H locs ls hi0 hw hl h
    rw [f_X9_call_182.eq_2] at h
    refine lv_iload hx hb dX9_call_182 (lv_at hl 3 rfl) ?_
    refine lv_aload_n hx hb dX9_call_184 rfl (lv_at hl 0 rfl) ?_
    obtain ⟨o187, ho190, h⟩ := rq_i h
    refine r_getR hC hw kc_8 hi0 12 rfl lk_1084 dX9_call_185 rfl ho190 (fun a188 hi189 => ?_)
    refine lv_iload hx hb dX9_call_188 (lv_at hl 2 rfl) ?_
    obtain ⟨hn191, h⟩ := ix_i h
    refine r_iald hC hw hi189 hn191 dX9_call_190 ?_
    refine lv_icmp_ge (tgt := 226) hx hb dX9_call_191 (by decide) (fun c192 => ?_) (fun c192 => ?_)
    · have h := i_yes c192 h
      exact w_X9_call_226 hC hR o0 a0 x1 x4 _ _ _ _ hi0 hw (lv_sub hl [0, 1, 2] rfl) h
    · have h := i_no c192 h
      refine lv_iload_n hx hb dX9_call_194 rfl (lv_at hl 1 rfl) ?_
      refine lv_iconst (v := 2) hx hb dX9_call_195 (by decide) ?_
      refine lv_icmp_ne (tgt := 226) hx hb dX9_call_196 (by decide) (fun c193 => ?_) (fun c193 => ?_)
      · have h := i_no c193 h
        exact w_X9_call_226 hC hR o0 a0 x1 x4 _ _ _ _ hi0 hw (lv_sub hl [0, 1, 2] rfl) h
      · have h := i_yes c193 h
        refine lv_aload_n hx hb dX9_call_199 rfl (lv_at hl 0 rfl) ?_
        obtain ⟨o194, ho197, h⟩ := rq_i h
        refine r_getR hC hw kc_8 hi0 24 rfl lk_1096 dX9_call_200 rfl ho197 (fun a195 hi196 => ?_)
        refine lv_iload hx hb dX9_call_203 (lv_at hl 3 rfl) ?_
        refine lv_aload_n hx hb dX9_call_205 rfl (lv_at hl 0 rfl) ?_
        refine lv_aload_n hx hb dX9_call_206 rfl (lv_at hl 0 rfl) ?_
        obtain ⟨o198, ho201, h⟩ := rq_i h
        refine r_getR hC hw kc_8 hi0 21 rfl lk_1093 dX9_call_207 rfl ho201 (fun a199 hi200 => ?_)
        refine lv_iconst (v := 3) hx hb dX9_call_210 (by decide) ?_
        obtain ⟨hn202, h⟩ := ix_i h
        refine r_lald hC hw hi200 hn202 dX9_call_211 ?_
        refine lv_iload hx hb dX9_call_212 (lv_at hl 3 rfl) ?_
        refine lv_i2l (v := x5.toInt64) hx hb dX9_call_214 rfl ?_
        refine lv_ladd hx hb dX9_call_215 ?_
        obtain ⟨r204, hq203, h⟩ := pq_i h
        refine r_cV (st' := [.int r204, .int x5, .ref a195]) [.long ((gL D o198 (3 : Int32).toNatClampNeg) + x5.toInt64)] [.int x5, .ref a195] hC hw kc_8 hi0 (k_X9_octetAt _ hi0 hq203) mk_X9_octetAt lk_1278 ⟨Nat.le_trans (by decide) hR.1, Nat.le_trans (by decide) hR.2⟩ ⟨Nat.zero_le _, Nat.zero_le _⟩ rfl hl.1 rfl rfl (Nat.le_of_ble_eq_true rfl) dX9_call_216 (fun hP H locs hw => ?_)
        obtain ⟨hn205, h⟩ := ix_i h
        refine r_ias hC hw hi196 hn205 dX9_call_219 (fun D206 eD206 H locs hw => ?_)
        have h := nm_i h D206 eD206
        obtain ⟨y207, ey207⟩ : ∃ z : Int32, z = x5 + 1 := ⟨_, rfl⟩
        have h := nm_i h y207 ey207
        refine lv_iinc (v := y207) (lv' := [(5, .int y207), (0, .ref a0), (1, .int x1), (4, .int x4)]) hx hb dX9_call_220 hl (k := 3) rfl (by rw [ey207]; rfl) (by decide) rfl (fun ls hl => ?_)
        refine lv_goto (tgt := 182) hx hb dX9_call_223 (by decide) ?_
        exact ih o0 a0 x1 x4 y207 _ _ _ _ hi0 hw (lv_sub hl [1, 2, 3, 0] rfl) h
set_option maxHeartbeats 4000000 in
set_option maxRecDepth 100000 in
theorem w_X9_call_140 {r : Int32} {D' : dt} (hC : Cx RX9 cX9_call 7 (some .boolean) p s m args meth c) (hR : 3 ≤ R.frames ∧ 69 ≤ R.locals) : ∀ (n : Nat), ∀ (o0 a0 : Nat) (x1 : Int32) (x4 : Int32) (x5 : Int32) (D : dt) (H : Heap) (locs : List Loc) (ls : Array Slot), Is S ad o0 a0 8 → Wd G cA S D ad A s H locs → lv_has ls 7 [(0, .ref a0), (1, .int x1), (4, .int x4), (5, .int x5)] → f_X9_call_140 S n o0 x1 x4 x5 D = some (r, D') → W p l e R s m args below meth c H locs 0 0 (MQ below (Qn (some (.int r)) True (wpost G cA S D' ad A) A) args s 0 0 A) (F0 m 140 ls []) := by
  obtain ⟨hx, hb, -⟩ := id hC
  intro n
  induction n with
  | zero =>
    intro o0 a0 x1 x4 x5 D H locs ls hi0 hw hl h
    rw [f_X9_call_140.eq_1] at h
    cases h
  | succ n ih =>
    intro o0 a0 x1 x4 x5 D H locs ls hi0 hw hl h
    rw [f_X9_call_140.eq_2] at h
    refine lv_iload hx hb dX9_call_140 (lv_at hl 3 rfl) ?_
    refine lv_aload_n hx hb dX9_call_142 rfl (lv_at hl 0 rfl) ?_
    obtain ⟨o208, ho211, h⟩ := rq_i h
    refine r_getR hC hw kc_8 hi0 11 rfl lk_1083 dX9_call_143 rfl ho211 (fun a209 hi210 => ?_)
    refine lv_iload hx hb dX9_call_146 (lv_at hl 2 rfl) ?_
    obtain ⟨hn212, h⟩ := ix_i h
    refine r_iald hC hw hi210 hn212 dX9_call_148 ?_
    refine lv_icmp_ge (tgt := 179) hx hb dX9_call_149 (by decide) (fun c213 => ?_) (fun c213 => ?_)
    · have h := i_yes c213 h
      refine lv_iconst (v := 0) hx hb dX9_call_179 (by decide) ?_
      refine lv_topi (fun y214 ey214 => ?_)
      have h := nm_i h y214 ey214
      refine lv_istore (lv' := [(5, .int y214), (0, .ref a0), (1, .int x1), (4, .int x4)]) hx hb dX9_call_180 hl (by decide) rfl (fun ls hl => ?_)
      exact w_X9_call_182 hC hR LF o0 a0 x1 x4 y214 _ _ _ _ hi0 hw (lv_sub hl [1, 2, 3, 0] rfl) h
    · have h := i_no c213 h
      refine lv_aload_n hx hb dX9_call_152 rfl (lv_at hl 0 rfl) ?_
      obtain ⟨o215, ho218, h⟩ := rq_i h
      refine r_getR hC hw kc_8 hi0 25 rfl lk_1097 dX9_call_153 rfl ho218 (fun a216 hi217 => ?_)
      refine lv_iload hx hb dX9_call_156 (lv_at hl 3 rfl) ?_
      refine lv_aload_n hx hb dX9_call_158 rfl (lv_at hl 0 rfl) ?_
      refine lv_aload_n hx hb dX9_call_159 rfl (lv_at hl 0 rfl) ?_
      obtain ⟨o219, ho222, h⟩ := rq_i h
      refine r_getR hC hw kc_8 hi0 21 rfl lk_1093 dX9_call_160 rfl ho222 (fun a220 hi221 => ?_)
      refine lv_iconst (v := 2) hx hb dX9_call_163 (by decide) ?_
      obtain ⟨hn223, h⟩ := ix_i h
      refine r_lald hC hw hi221 hn223 dX9_call_164 ?_
      refine lv_iload hx hb dX9_call_165 (lv_at hl 3 rfl) ?_
      refine lv_i2l (v := x5.toInt64) hx hb dX9_call_167 rfl ?_
      refine lv_ladd hx hb dX9_call_168 ?_
      obtain ⟨r225, hq224, h⟩ := pq_i h
      refine r_cV (st' := [.int r225, .int x5, .ref a216]) [.long ((gL D o219 (2 : Int32).toNatClampNeg) + x5.toInt64)] [.int x5, .ref a216] hC hw kc_8 hi0 (k_X9_octetAt _ hi0 hq224) mk_X9_octetAt lk_1278 ⟨Nat.le_trans (by decide) hR.1, Nat.le_trans (by decide) hR.2⟩ ⟨Nat.zero_le _, Nat.zero_le _⟩ rfl hl.1 rfl rfl (Nat.le_of_ble_eq_true rfl) dX9_call_169 (fun hP H locs hw => ?_)
      obtain ⟨hn226, h⟩ := ix_i h
      refine r_ias hC hw hi217 hn226 dX9_call_172 (fun D227 eD227 H locs hw => ?_)
      have h := nm_i h D227 eD227
      obtain ⟨y228, ey228⟩ : ∃ z : Int32, z = x5 + 1 := ⟨_, rfl⟩
      have h := nm_i h y228 ey228
      refine lv_iinc (v := y228) (lv' := [(5, .int y228), (0, .ref a0), (1, .int x1), (4, .int x4)]) hx hb dX9_call_173 hl (k := 3) rfl (by rw [ey228]; rfl) (by decide) rfl (fun ls hl => ?_)
      refine lv_goto (tgt := 140) hx hb dX9_call_176 (by decide) ?_
      exact ih o0 a0 x1 x4 y228 _ _ _ _ hi0 hw (lv_sub hl [1, 2, 3, 0] rfl) h
set_option maxHeartbeats 4000000 in
set_option maxRecDepth 100000 in
theorem w_X9_call_137 {r : Int32} {D' : dt} (hC : Cx RX9 cX9_call 7 (some .boolean) p s m args meth c) (hR : 3 ≤ R.frames ∧ 69 ≤ R.locals) : ∀ (o0 a0 : Nat) (x1 : Int32) (x4 : Int32) (D : dt) (H : Heap) (locs : List Loc) (ls : Array Slot), Is S ad o0 a0 8 → Wd G cA S D ad A s H locs → lv_has ls 7 [(0, .ref a0), (1, .int x1), (4, .int x4)] → f_X9_call_137 S o0 x1 x4 D = some (r, D') → W p l e R s m args below meth c H locs 0 0 (MQ below (Qn (some (.int r)) True (wpost G cA S D' ad A) A) args s 0 0 A) (F0 m 137 ls []) := by
  obtain ⟨hx, hb, -⟩ := id hC
  intro o0 a0 x1 x4 D H locs ls hi0 hw hl h
  unfold f_X9_call_137 at h
  refine lv_iconst (v := 0) hx hb dX9_call_137 (by decide) ?_
  refine lv_topi (fun y229 ey229 => ?_)
  have h := nm_i h y229 ey229
  refine lv_istore (lv' := [(5, .int y229), (0, .ref a0), (1, .int x1), (4, .int x4)]) hx hb dX9_call_138 hl (by decide) rfl (fun ls hl => ?_)
  exact w_X9_call_140 hC hR LF o0 a0 x1 x4 y229 _ _ _ _ hi0 hw (lv_sub hl [1, 2, 3, 0] rfl) h
set_option maxHeartbeats 4000000 in
set_option maxRecDepth 100000 in
theorem w_X9_call_0 {r : Int32} {D' : dt} (hC : Cx RX9 cX9_call 7 (some .boolean) p s m args meth c) (hR : 3 ≤ R.frames ∧ 69 ≤ R.locals) : ∀ (o0 a0 : Nat) (x1 : Int32) (D : dt) (H : Heap) (locs : List Loc) (ls : Array Slot), Is S ad o0 a0 8 → Wd G cA S D ad A s H locs → lv_has ls 7 [(0, .ref a0), (1, .int x1)] → f_X9_call S o0 x1 D = some (r, D') → W p l e R s m args below meth c H locs 0 0 (MQ below (Qn (some (.int r)) True (wpost G cA S D' ad A) A) args s 0 0 A) (F0 m 0 ls []) := by
  obtain ⟨hx, hb, -⟩ := id hC
  intro o0 a0 x1 D H locs ls hi0 hw hl h
  unfold f_X9_call at h
  refine lv_aload_n hx hb dX9_call_0 rfl (lv_at hl 0 rfl) ?_
  refine r_gL hC hw kc_8 hi0 17 rfl lk_1089 dX9_call_1 ?_
  refine lv_topl (fun y230 ey230 => ?_)
  have h := nm_i h y230 ey230
  refine lv_lstore_n (lv' := [(2, .long y230), (0, .ref a0), (1, .int x1)]) hx hb dX9_call_4 rfl hl (by decide) rfl (fun ls hl => ?_)
  refine lv_iload_n hx hb dX9_call_5 rfl (lv_at hl 2 rfl) ?_
  refine lv_bipush (v := 6) hx hb dX9_call_6 (by decide) ?_
  refine lv_icmp_ne (tgt := 44) hx hb dX9_call_8 (by decide) (fun c231 => ?_) (fun c231 => ?_)
  · have h := i_no c231 h
    refine lv_iload_n hx hb dX9_call_44 rfl (lv_at hl 2 rfl) ?_
    refine lv_iconst (v := 4) hx hb dX9_call_45 (by decide) ?_
    refine lv_icmp_ge (tgt := 347) hx hb dX9_call_46 (by decide) (fun c232 => ?_) (fun c232 => ?_)
    · have h := i_yes c232 h
      exact w_X9_call_347 hC hR o0 a0 y230 _ _ _ _ hi0 hw (lv_sub hl [1, 0] rfl) h
    · have h := i_no c232 h
      refine lv_aload_n hx hb dX9_call_49 rfl (lv_at hl 1 rfl) ?_
      obtain ⟨o233, ho236, h⟩ := rq_i h
      refine r_getR hC hw kc_8 hi0 21 rfl lk_1093 dX9_call_50 rfl ho236 (fun a234 hi235 => ?_)
      refine lv_iconst (v := 1) hx hb dX9_call_53 (by decide) ?_
      obtain ⟨hn237, h⟩ := ix_i h
      refine r_lald hC hw hi235 hn237 dX9_call_54 ?_
      refine lv_ldc2 (v := 17179869184) hx hb hC.2.2.2.1 (hC.2.2.2.2.1 _ lk_1374) dX9_call_55 ?_
      refine lv_lsub hx hb dX9_call_58 ?_
      refine lv_l2i (v := ((gL D o233 (1 : Int32).toNatClampNeg) - (17179869184 : Int64)).toInt32) hx hb dX9_call_59 rfl ?_
      refine lv_topi (fun y238 ey238 => ?_)
      have h := nm_i h y238 ey238
      refine lv_istore (lv' := [(4, .int y238), (2, .long y230), (0, .ref a0), (1, .int x1)]) hx hb dX9_call_60 hl (by decide) rfl (fun ls hl => ?_)
      refine lv_aload_n hx hb dX9_call_62 rfl (lv_at hl 2 rfl) ?_
      obtain ⟨o239, ho242, h⟩ := rq_i h
      refine r_getR hC hw kc_8 hi0 21 rfl lk_1093 dX9_call_63 rfl ho242 (fun a240 hi241 => ?_)
      refine lv_iconst (v := 1) hx hb dX9_call_66 (by decide) ?_
      obtain ⟨hn243, h⟩ := ix_i h
      refine r_lald hC hw hi241 hn243 dX9_call_67 ?_
      refine lv_ldc2 (v := 17179869184) hx hb hC.2.2.2.1 (hC.2.2.2.2.1 _ lk_1374) dX9_call_68 ?_
      refine lv_ldc2 (v := 17179869184) hx hb hC.2.2.2.1 (hC.2.2.2.2.1 _ lk_1374) dX9_call_71 ?_
      refine lv_aload_n hx hb dX9_call_74 rfl (lv_at hl 2 rfl) ?_
      refine r_gI hC hw kc_8 hi0 9 rfl lk_1081 dX9_call_75 ?_
      refine lv_i2l (v := (gI D o0 9).toInt64) hx hb dX9_call_78 rfl ?_
      refine lv_ladd hx hb dX9_call_79 ?_
      refine lv_lconst (v := 1) hx hb dX9_call_80 (by decide) ?_
      refine lv_lsub hx hb dX9_call_81 ?_
      obtain ⟨r245, hq244, h⟩ := pq_i h
      refine r_cS (st' := [.int r245]) [.long (gL D o239 (1 : Int32).toNatClampNeg), .long (17179869184 : Int64), .long (((17179869184 : Int64) + ((gI D o0 9).toInt64)) - (1 : Int64))] [] hC hw (k_X9_in _ hq244) mk_X9_in lk_1243 ⟨Nat.le_trans (by decide) hR.1, Nat.le_trans (by decide) hR.2⟩ ⟨Nat.zero_le _, Nat.zero_le _⟩ rfl hl.1 rfl rfl (Nat.le_of_ble_eq_true rfl) dX9_call_82 (fun hP H locs hw => ?_)
      refine lv_if_eq (tgt := 135) hx hb dX9_call_85 (by decide) (fun c246 => ?_) (fun c246 => ?_)
      · have h := i_yes c246 h
        refine lv_iconst (v := 0) hx hb dX9_call_135 (by decide) ?_
        cases h
        exact r_zret hC hw (Or.inl rfl) dX9_call_136
      · have h := i_no c246 h
        refine lv_aload_n hx hb dX9_call_88 rfl (lv_at hl 2 rfl) ?_
        refine lv_aload_n hx hb dX9_call_89 rfl (lv_at hl 2 rfl) ?_
        obtain ⟨o247, ho250, h⟩ := rq_i h
        refine r_getR hC hw kc_8 hi0 21 rfl lk_1093 dX9_call_90 rfl ho250 (fun a248 hi249 => ?_)
        refine lv_iconst (v := 2) hx hb dX9_call_93 (by decide) ?_
        obtain ⟨hn251, h⟩ := ix_i h
        refine r_lald hC hw hi249 hn251 dX9_call_94 ?_
        refine lv_aload_n hx hb dX9_call_95 rfl (lv_at hl 2 rfl) ?_
        obtain ⟨o252, ho255, h⟩ := rq_i h
        refine r_getR hC hw kc_8 hi0 11 rfl lk_1083 dX9_call_96 rfl ho255 (fun a253 hi254 => ?_)
        refine lv_iload hx hb dX9_call_99 (lv_at hl 0 rfl) ?_
        obtain ⟨hn256, h⟩ := ix_i h
        refine r_iald hC hw hi254 hn256 dX9_call_101 ?_
        refine lv_iconst (v := 0) hx hb dX9_call_102 (by decide) ?_
        obtain ⟨r258, hq257, h⟩ := pq_i h
        refine r_cV (st' := [.int r258]) [.long (gL D o247 (2 : Int32).toNatClampNeg), .int (gI D o252 y238.toNatClampNeg), .int (0 : Int32)] [] hC hw kc_8 hi0 (k_X9_isThere _ hi0 hq257) mk_X9_isThere lk_1264 ⟨Nat.le_trans (by decide) hR.1, Nat.le_trans (by decide) hR.2⟩ ⟨Nat.zero_le _, Nat.zero_le _⟩ rfl hl.1 rfl rfl (Nat.le_of_ble_eq_true rfl) dX9_call_103 (fun hP H locs hw => ?_)
        refine lv_if_eq (tgt := 135) hx hb dX9_call_106 (by decide) (fun c259 => ?_) (fun c259 => ?_)
        · have h := i_yes c259 h
          refine lv_iconst (v := 0) hx hb dX9_call_135 (by decide) ?_
          cases h
          exact r_zret hC hw (Or.inl rfl) dX9_call_136
        · have h := i_no c259 h
          refine lv_iload_n hx hb dX9_call_109 rfl (lv_at hl 3 rfl) ?_
          refine lv_iconst (v := 2) hx hb dX9_call_110 (by decide) ?_
          refine lv_icmp_ne (tgt := 137) hx hb dX9_call_111 (by decide) (fun c260 => ?_) (fun c260 => ?_)
          · have h := i_no c260 h
            exact w_X9_call_137 hC hR o0 a0 x1 y238 _ _ _ _ hi0 hw (lv_sub hl [2, 3, 0] rfl) h
          · have h := i_yes c260 h
            refine lv_aload_n hx hb dX9_call_114 rfl (lv_at hl 2 rfl) ?_
            refine lv_aload_n hx hb dX9_call_115 rfl (lv_at hl 2 rfl) ?_
            obtain ⟨o261, ho264, h⟩ := rq_i h
            refine r_getR hC hw kc_8 hi0 21 rfl lk_1093 dX9_call_116 rfl ho264 (fun a262 hi263 => ?_)
            refine lv_iconst (v := 3) hx hb dX9_call_119 (by decide) ?_
            obtain ⟨hn265, h⟩ := ix_i h
            refine r_lald hC hw hi263 hn265 dX9_call_120 ?_
            refine lv_aload_n hx hb dX9_call_121 rfl (lv_at hl 2 rfl) ?_
            obtain ⟨o266, ho269, h⟩ := rq_i h
            refine r_getR hC hw kc_8 hi0 12 rfl lk_1084 dX9_call_122 rfl ho269 (fun a267 hi268 => ?_)
            refine lv_iload hx hb dX9_call_125 (lv_at hl 0 rfl) ?_
            obtain ⟨hn270, h⟩ := ix_i h
            refine r_iald hC hw hi268 hn270 dX9_call_127 ?_
            refine lv_iconst (v := 0) hx hb dX9_call_128 (by decide) ?_
            obtain ⟨r272, hq271, h⟩ := pq_i h
            refine r_cV (st' := [.int r272]) [.long (gL D o261 (3 : Int32).toNatClampNeg), .int (gI D o266 y238.toNatClampNeg), .int (0 : Int32)] [] hC hw kc_8 hi0 (k_X9_isThere _ hi0 hq271) mk_X9_isThere lk_1264 ⟨Nat.le_trans (by decide) hR.1, Nat.le_trans (by decide) hR.2⟩ ⟨Nat.zero_le _, Nat.zero_le _⟩ rfl hl.1 rfl rfl (Nat.le_of_ble_eq_true rfl) dX9_call_129 (fun hP H locs hw => ?_)
            refine lv_if_ne (tgt := 137) hx hb dX9_call_132 (by decide) (fun c273 => ?_) (fun c273 => ?_)
            · have h := i_no c273 h
              exact w_X9_call_137 hC hR o0 a0 x1 y238 _ _ _ _ hi0 hw (lv_sub hl [2, 3, 0] rfl) h
            · have h := i_yes c273 h
              refine lv_iconst (v := 0) hx hb dX9_call_135 (by decide) ?_
              cases h
              exact r_zret hC hw (Or.inl rfl) dX9_call_136
  · have h := i_yes c231 h
    refine lv_aload_n hx hb dX9_call_11 rfl (lv_at hl 1 rfl) ?_
    obtain ⟨o274, ho277, h⟩ := rq_i h
    refine r_getR hC hw kc_8 hi0 23 rfl lk_1095 dX9_call_12 rfl ho277 (fun a275 hi276 => ?_)
    refine lv_aload_n hx hb dX9_call_15 rfl (lv_at hl 1 rfl) ?_
    refine r_gI hC hw kc_8 hi0 22 rfl lk_1094 dX9_call_16 ?_
    refine lv_bipush (v := 32) hx hb dX9_call_19 (by decide) ?_
    refine lv_irem hx hb dX9_call_21 (by decide) ?_
    refine lv_aload_n hx hb dX9_call_22 rfl (lv_at hl 1 rfl) ?_
    obtain ⟨o278, ho281, h⟩ := rq_i h
    refine r_getR hC hw kc_8 hi0 21 rfl lk_1093 dX9_call_23 rfl ho281 (fun a279 hi280 => ?_)
    refine lv_iconst (v := 1) hx hb dX9_call_26 (by decide) ?_
    obtain ⟨hn282, h⟩ := ix_i h
    refine r_lald hC hw hi280 hn282 dX9_call_27 ?_
    obtain ⟨hn283, h⟩ := ix_i h
    refine r_las hC hw hi276 hn283 dX9_call_28 (fun D284 eD284 H locs hw => ?_)
    have h := nm_i h D284 eD284
    refine lv_aload_n hx hb dX9_call_29 rfl (lv_at hl 1 rfl) ?_
    refine lv_dup hx hb dX9_call_30 rfl ?_
    refine r_gI hC hw kc_8 hi0 22 rfl lk_1094 dX9_call_31 ?_
    refine lv_iconst (v := 1) hx hb dX9_call_34 (by decide) ?_
    refine lv_iadd hx hb dX9_call_35 ?_
    refine r_pI hC hw kc_8 hi0 22 rfl lk_1094 rfl rfl rfl dX9_call_36 (fun D285 eD285 H locs hw => ?_)
    have h := nm_i h D285 eD285
    refine lv_lconst (v := 0) hx hb dX9_call_39 (by decide) ?_
    refine lv_topl (fun y286 ey286 => ?_)
    have h := nm_i h y286 ey286
    refine lv_lstore_n (lv' := [(2, .long y286), (0, .ref a0), (1, .int x1)]) hx hb dX9_call_40 rfl hl (by decide) rfl (fun ls hl => ?_)
    refine lv_goto (tgt := 347) hx hb dX9_call_41 (by decide) ?_
    exact w_X9_call_347 hC hR o0 a0 y286 _ _ _ _ hi0 hw (lv_sub hl [1, 0] rfl) h
set_option maxHeartbeats 4000000 in
set_option maxRecDepth 100000 in
theorem k_X9_call {l : Launch} {G : va_G} {cA : Nat → ClassId} {S : sh} {D D' : dt} {ad : Nat → Nat} (sz : Nat) {o0 a0 : Nat} {x1 : Int32} {r : Int32} (hi0 : Is S ad o0 a0 8) (h : f_X9_call S o0 x1 D = some (r, D')) : Co l yX9_call (Cond.code yX9_call cX9_call 7 (some .boolean) :: tb0) 3 69 [.ref a0, .int x1] G cA S D ad sz (some (.int r)) True D' := by
  refine Met.ofW (cc := cX9_call) (maxL := 7) (ret := (some .boolean)) (by decide) rfl ?_
  intro p e s m args below meth c s₁ B hml hv
  obtain ⟨rfl, hsz, hP, hK, hD0, hT, hX⟩ := hv
  subst hsz
  have hts := atoms_spec (ws := Cond.code yX9_call cX9_call 7 (some .boolean) :: tb0) B.pre
  have hC : Cx RX9 cX9_call 7 (some .boolean) p s m _ meth c := ⟨B.exec, B.bytes, hml, findClass_of_methodNamed B.named, fun w q => hts w (List.mem_cons_of_mem _ q), B.returns, B.notSynchronized⟩
  have hw := Wd.entry hP hK hD0 hT hX
  have hl := lv_entry ([.ref a0, .int x1]) (n := 7) (Nat.le_of_ble_eq_true rfl)
  rw [lg_entry_eq]
  exact w_X9_call_0 hC ⟨Nat.le_refl _, Nat.le_refl _⟩ o0 a0 x1 D _ _ _ hi0 hw hl h
end
