-- JudgedCodeModel.lookJump
def f_X9_lookJump_354 (S : sh) (o0 : Nat) (x1 : Int32) (x9 : Int32) (D : dt) : Option (Int32 × dt) := cq (f_X9_copy S o0 (75 : Int32) (0 : Int32) D) fun _ D127 => if x9 = 0 then (some ((0 : Int32), D127)) else (cq (f_X9_goWay S o0 x1 (1 : Int32) D127) fun r130 D131 => if r130 = 0 then (some ((0 : Int32), D131)) else (rq (gR D131 o0 4) fun o133 => ix x1 (sA S o133) <| cq (f_X9_goTo S o0 ((x1 + (1 : Int32)) + (gI D131 o133 x1.toNatClampNeg)) D131) fun _ D139 => some ((0 : Int32), D139)))
def f_X9_lookJump_333 (S : sh) (o0 : Nat) (x1 : Int32) (x8 : Int32) (x9 : Int32) (D : dt) : Option (Int32 × dt) := if x8 = 0 then (f_X9_lookJump_354 S o0 x1 x9 D) else (cq (f_X9_goWay S o0 x1 (0 : Int32) D) fun r142 D143 => if r142 = 0 then (f_X9_lookJump_354 S o0 x1 x9 D143) else (cq (f_X9_goTo S o0 (x1 + (1 : Int32)) D143) fun _ D146 => f_X9_lookJump_354 S o0 x1 x9 D146))
def f_X9_lookJump_308 (S : sh) (o0 : Nat) (x1 : Int32) (x8 : Int32) (x9 : Int32) (D : dt) : Option (Int32 × dt) := if x9 = 0 then (f_X9_lookJump_333 S o0 x1 x8 x9 D) else (rq (gR D o0 4) fun o148 => ix x1 (sA S o148) <| pq (f_X9_isWay S D o0 ((x1 + (1 : Int32)) + (gI D o148 x1.toNatClampNeg))) fun r154 => if r154 = 0 then (some ((6 : Int32), D)) else (f_X9_lookJump_333 S o0 x1 x8 x9 D))
def f_X9_lookJump_253 (S : sh) (o0 : Nat) (x1 : Int32) (os0 : Nat) (xs1 : Int32) (D : dt) : Option (Int32 × dt) := nm (pI D os0 53 xs1) fun D156 => cq (f_X9_copy S o0 (0 : Int32) (75 : Int32) D156) fun _ D158 => cq (f_X9_goWay S o0 x1 (0 : Int32) D158) fun r160 D161 => cq (f_X9_copy S o0 (75 : Int32) (0 : Int32) D161) fun _ D163 => cq (f_X9_goWay S o0 x1 (1 : Int32) D163) fun r165 D166 => cq (f_X9_copy S o0 (75 : Int32) (0 : Int32) D166) fun _ D168 => if r160 = 0 then (f_X9_lookJump_308 S o0 x1 r160 r165 D168) else (pq (f_X9_isWay S D168 o0 (x1 + (1 : Int32))) fun r171 => if r171 = 0 then (some ((6 : Int32), D168)) else (f_X9_lookJump_308 S o0 x1 r160 r165 D168))
def f_X9_lookJump_210 (S : sh) (o0 : Nat) (x1 : Int32) (os0 : Nat) (D : dt) : Option (Int32 × dt) := f_X9_lookJump_253 S o0 x1 os0 (0 : Int32) D
def f_X9_lookJump_189 (S : sh) (o0 : Nat) (x1 : Int32) (x3 : Int32) (x5 : Int32) (x6 : Int32) (xs0 : Int32) (D : dt) : Option (Int32 × dt) := if x6 = 0 then (if x3 = 0 then (f_X9_lookJump_210 S o0 x1 o0 D) else (if xs0 = 0 then (f_X9_lookJump_210 S o0 x1 o0 D) else (if (lg_cmp (gL D o0 51) (gL D o0 52)) = 0 then (f_X9_lookJump_253 S o0 x1 o0 (1 : Int32) D) else (rq (gR D o0 41) fun o177 => ix x5 (sA S o177) <| rq (gR D o0 42) fun o182 => ix x5 (sA S o182) <| if (lg_cmp (gL D o177 x5.toNatClampNeg) (gL D o182 x5.toNatClampNeg)) = 0 then (f_X9_lookJump_253 S o0 x1 o0 (2 : Int32) D) else (f_X9_lookJump_253 S o0 x1 o0 (0 : Int32) D))))) else (f_X9_lookJump_253 S o0 x1 o0 (3 : Int32) D)
def f_X9_lookJump_184 (S : sh) (o0 : Nat) (x1 : Int32) (x3 : Int32) (x5 : Int32) (x6 : Int32) (D : dt) : Option (Int32 × dt) := f_X9_lookJump_189 S o0 x1 x3 x5 x6 (1 : Int32) D
def f_X9_lookJump_152 (S : sh) (o0 : Nat) (x1 : Int32) (x2 : Int32) (x3 : Int32) (x5 : Int32) (x6 : Int32) (D : dt) : Option (Int32 × dt) := if x2 = (1 : Int32) then (f_X9_lookJump_184 S o0 x1 x3 x5 x6 D) else (if x2 = (5 : Int32) then (f_X9_lookJump_184 S o0 x1 x3 x5 x6 D) else (if x2 = (2 : Int32) then (f_X9_lookJump_184 S o0 x1 x3 x5 x6 D) else (if x2 = (3 : Int32) then (f_X9_lookJump_184 S o0 x1 x3 x5 x6 D) else (if x2 = (10 : Int32) then (f_X9_lookJump_184 S o0 x1 x3 x5 x6 D) else (if x2 = (11 : Int32) then (f_X9_lookJump_184 S o0 x1 x3 x5 x6 D) else (f_X9_lookJump_189 S o0 x1 x3 x5 x6 (0 : Int32) D))))))
def f_X9_lookJump_124 (S : sh) (o0 : Nat) (x1 : Int32) (x2 : Int32) (x3 : Int32) (x5 : Int32) (xs0 : Int32) (D : dt) : Option (Int32 × dt) := if xs0 = 0 then (rq (gR D o0 40) fun o195 => ix x5 (sA S o195) <| if (gI D o195 x5.toNatClampNeg) = (1 : Int32) then (if (gI D o0 50) = (1 : Int32) then (f_X9_lookJump_152 S o0 x1 x2 x3 x5 xs0 D) else (some ((3 : Int32), D))) else (some ((3 : Int32), D))) else (f_X9_lookJump_152 S o0 x1 x2 x3 x5 xs0 D)
def f_X9_lookJump_123 (S : sh) (o0 : Nat) (x1 : Int32) (x2 : Int32) (x3 : Int32) (x5 : Int32) (D : dt) : Option (Int32 × dt) := f_X9_lookJump_124 S o0 x1 x2 x3 x5 (0 : Int32) D
def f_X9_lookJump_119 (S : sh) (o0 : Nat) (x1 : Int32) (x2 : Int32) (x3 : Int32) (x5 : Int32) (D : dt) : Option (Int32 × dt) := f_X9_lookJump_124 S o0 x1 x2 x3 x5 (1 : Int32) D
def f_X9_lookJump_45 (S : sh) (o0 : Nat) (x1 : Int32) (x2 : Int32) (x3 : Int32) (xs0 : Int32) (D : dt) : Option (Int32 × dt) := rq (gR D o0 2) fun o202 => ix x1 (sA S o202) <| nm (gI D o202 x1.toNatClampNeg) fun y207 => cq (f_X9_takeSecond S o0 x1 D) fun _ D209 => rq (gR D209 o0 40) fun o210 => ix y207 (sA S o210) <| if (gI D209 o210 y207.toNatClampNeg) = 0 then (some ((2 : Int32), D209)) else (if (gI D209 o0 50) = 0 then (some ((2 : Int32), D209)) else (rq (gR D209 o0 40) fun o217 => ix y207 (sA S o217) <| if (gI D209 o217 y207.toNatClampNeg) = (6 : Int32) then (if xs0 = 0 then (rq (gR D209 o0 5) fun o224 => ix x1 (sA S o224) <| if (gI D209 o224 x1.toNatClampNeg) = 0 then (if x3 = 0 then (f_X9_lookJump_123 S o0 x1 x2 x3 y207 D209) else (if x2 = (1 : Int32) then (f_X9_lookJump_119 S o0 x1 x2 x3 y207 D209) else (if x2 = (5 : Int32) then (f_X9_lookJump_119 S o0 x1 x2 x3 y207 D209) else (f_X9_lookJump_123 S o0 x1 x2 x3 y207 D209)))) else (f_X9_lookJump_123 S o0 x1 x2 x3 y207 D209)) else (f_X9_lookJump_123 S o0 x1 x2 x3 y207 D209)) else (f_X9_lookJump_123 S o0 x1 x2 x3 y207 D209)))
def f_X9_lookJump_27 (S : sh) (o0 : Nat) (x1 : Int32) (x2 : Int32) (xs0 : Int32) (D : dt) : Option (Int32 × dt) := rq (gR D o0 1) fun o233 => ix x1 (sA S o233) <| if ((gI D o233 x1.toNatClampNeg) &&& (8 : Int32)) = 0 then (f_X9_lookJump_45 S o0 x1 x2 xs0 (0 : Int32) D) else (f_X9_lookJump_45 S o0 x1 x2 xs0 (1 : Int32) D)
def f_X9_lookJump (S : sh) (o0 : Nat) (x1 : Int32) (D : dt) : Option (Int32 × dt) := rq (gR D o0 1) fun o239 => ix x1 (sA S o239) <| nm ((gI D o239 x1.toNatClampNeg) >>> ((4 : Int32) &&& 31)) fun y244 => rq (gR D o0 1) fun o245 => ix x1 (sA S o245) <| if ((gI D o245 x1.toNatClampNeg) &&& (7 : Int32)) = (5 : Int32) then (f_X9_lookJump_27 S o0 x1 y244 (1 : Int32) D) else (f_X9_lookJump_27 S o0 x1 y244 (0 : Int32) D)
theorem mk_X9_lookJump : MkV yX9_lookJump RX9 cX9_lookJump 10 (some .int) 1 := ⟨⟨lk_1529, lk_99, lk_121, (tb_in (i := 1530) (by decide +kernel) (by decide +kernel))⟩, by decide +kernel⟩
section
variable {p : Program} {l : Launch} {e : Env} {R : Room} {s : State} {m : MethodId} {args : Array Value} {below : List Frame} {meth : Method} {c : Code} {H : Heap} {locs : List Loc} {G : va_G} {cA : Nat → ClassId} {S : sh} {D : dt} {ad : Nat → Nat} {A : Nat → Prop}
set_option maxHeartbeats 4000000 in
set_option maxRecDepth 100000 in
theorem w_X9_lookJump_354 {r : Int32} {D' : dt} (hC : Cx RX9 cX9_lookJump 10 (some .int) p s m args meth c) (hR : 4 ≤ R.frames ∧ 99 ≤ R.locals) : ∀ (o0 a0 : Nat) (x1 : Int32) (x9 : Int32) (D : dt) (H : Heap) (locs : List Loc) (ls : Array Slot), Is S ad o0 a0 8 → Wd G cA S D ad A s H locs → lv_has ls 10 [(0, .ref a0), (1, .int x1), (9, .int x9)] → f_X9_lookJump_354 S o0 x1 x9 D = some (r, D') → W p l e R s m args below meth c H locs 0 0 (MQ below (Qn (some (.int r)) True (wpost G cA S D' ad A) A) args s 0 0 A) (F0 m 354 ls []) := by
  obtain ⟨hx, hb, -⟩ := id hC
  intro o0 a0 x1 x9 D H locs ls hi0 hw hl h
  unfold f_X9_lookJump_354 at h
  refine lv_aload_n hx hb dX9_lookJump_354 rfl (lv_at hl 0 rfl) ?_
  refine lv_bipush (v := 75) hx hb dX9_lookJump_355 (by decide) ?_
  refine lv_iconst (v := 0) hx hb dX9_lookJump_357 (by decide) ?_
  obtain ⟨_, D127, hq126, h⟩ := cq_i h
  refine r_cV (st' := []) [.int (75 : Int32), .int (0 : Int32)] [] hC hw kc_8 hi0 (k_X9_copy _ hi0 hq126) mk_X9_copy lk_1531 ⟨Nat.le_trans (by decide) hR.1, Nat.le_trans (by decide) hR.2⟩ ⟨Nat.zero_le _, Nat.zero_le _⟩ rfl hl.1 rfl rfl (Nat.le_of_ble_eq_true rfl) dX9_lookJump_358 (fun hP H locs hw => ?_)
  refine lv_iload hx hb dX9_lookJump_361 (lv_at hl 2 rfl) ?_
  refine lv_if_eq (tgt := 389) hx hb dX9_lookJump_363 (by decide) (fun c128 => ?_) (fun c128 => ?_)
  · have h := i_yes c128 h
    refine lv_iconst (v := 0) hx hb dX9_lookJump_389 (by decide) ?_
    cases h
    exact r_iret hC hw dX9_lookJump_390
  · have h := i_no c128 h
    refine lv_aload_n hx hb dX9_lookJump_366 rfl (lv_at hl 0 rfl) ?_
    refine lv_iload_n hx hb dX9_lookJump_367 rfl (lv_at hl 1 rfl) ?_
    refine lv_iconst (v := 1) hx hb dX9_lookJump_368 (by decide) ?_
    obtain ⟨r130, D131, hq129, h⟩ := cq_i h
    refine r_cV (st' := [.int r130]) [.int x1, .int (1 : Int32)] [] hC hw kc_8 hi0 (k_X9_goWay _ hi0 hq129) mk_X9_goWay lk_1535 ⟨Nat.le_trans (by decide) hR.1, Nat.le_trans (by decide) hR.2⟩ ⟨Nat.zero_le _, Nat.zero_le _⟩ rfl hl.1 rfl rfl (Nat.le_of_ble_eq_true rfl) dX9_lookJump_369 (fun hP H locs hw => ?_)
    refine lv_if_eq (tgt := 389) hx hb dX9_lookJump_372 (by decide) (fun c132 => ?_) (fun c132 => ?_)
    · have h := i_yes c132 h
      refine lv_iconst (v := 0) hx hb dX9_lookJump_389 (by decide) ?_
      cases h
      exact r_iret hC hw dX9_lookJump_390
    · have h := i_no c132 h
      refine lv_aload_n hx hb dX9_lookJump_375 rfl (lv_at hl 0 rfl) ?_
      refine lv_iload_n hx hb dX9_lookJump_376 rfl (lv_at hl 1 rfl) ?_
      refine lv_iconst (v := 1) hx hb dX9_lookJump_377 (by decide) ?_
      refine lv_iadd hx hb dX9_lookJump_378 ?_
      refine lv_aload_n hx hb dX9_lookJump_379 rfl (lv_at hl 0 rfl) ?_
      obtain ⟨o133, ho136, h⟩ := rq_i h
      refine r_getR hC hw kc_8 hi0 4 rfl lk_1076 dX9_lookJump_380 rfl ho136 (fun a134 hi135 => ?_)
      refine lv_iload_n hx hb dX9_lookJump_383 rfl (lv_at hl 1 rfl) ?_
      obtain ⟨hn137, h⟩ := ix_i h
      refine r_iald hC hw hi135 hn137 dX9_lookJump_384 ?_
      refine lv_iadd hx hb dX9_lookJump_385 ?_
      obtain ⟨_, D139, hq138, h⟩ := cq_i h
      refine r_cV (st' := []) [.int ((x1 + (1 : Int32)) + (gI D131 o133 x1.toNatClampNeg))] [] hC hw kc_8 hi0 (k_X9_goTo _ hi0 hq138) mk_X9_goTo lk_1458 ⟨Nat.le_trans (by decide) hR.1, Nat.le_trans (by decide) hR.2⟩ ⟨Nat.zero_le _, Nat.zero_le _⟩ rfl hl.1 rfl rfl (Nat.le_of_ble_eq_true rfl) dX9_lookJump_386 (fun hP H locs hw => ?_)
      refine lv_iconst (v := 0) hx hb dX9_lookJump_389 (by decide) ?_
      cases h
      exact r_iret hC hw dX9_lookJump_390
set_option maxHeartbeats 4000000 in
set_option maxRecDepth 100000 in
theorem w_X9_lookJump_333 {r : Int32} {D' : dt} (hC : Cx RX9 cX9_lookJump 10 (some .int) p s m args meth c) (hR : 4 ≤ R.frames ∧ 99 ≤ R.locals) : ∀ (o0 a0 : Nat) (x1 : Int32) (x8 : Int32) (x9 : Int32) (D : dt) (H : Heap) (locs : List Loc) (ls : Array Slot), Is S ad o0 a0 8 → Wd G cA S D ad A s H locs → lv_has ls 10 [(0, .ref a0), (1, .int x1), (8, .int x8), (9, .int x9)] → f_X9_lookJump_333 S o0 x1 x8 x9 D = some (r, D') → W p l e R s m args below meth c H locs 0 0 (MQ below (Qn (some (.int r)) True (wpost G cA S D' ad A) A) args s 0 0 A) (F0 m 333 ls []) := by
  obtain ⟨hx, hb, -⟩ := id hC
  intro o0 a0 x1 x8 x9 D H locs ls hi0 hw hl h
  unfold f_X9_lookJump_333 at h
  refine lv_iload hx hb dX9_lookJump_333 (lv_at hl 2 rfl) ?_
  refine lv_if_eq (tgt := 354) hx hb dX9_lookJump_335 (by decide) (fun c140 => ?_) (fun c140 => ?_)
  · have h := i_yes c140 h
    exact w_X9_lookJump_354 hC hR o0 a0 x1 x9 _ _ _ _ hi0 hw (lv_sub hl [0, 1, 3] rfl) h
  · have h := i_no c140 h
    refine lv_aload_n hx hb dX9_lookJump_338 rfl (lv_at hl 0 rfl) ?_
    refine lv_iload_n hx hb dX9_lookJump_339 rfl (lv_at hl 1 rfl) ?_
    refine lv_iconst (v := 0) hx hb dX9_lookJump_340 (by decide) ?_
    obtain ⟨r142, D143, hq141, h⟩ := cq_i h
    refine r_cV (st' := [.int r142]) [.int x1, .int (0 : Int32)] [] hC hw kc_8 hi0 (k_X9_goWay _ hi0 hq141) mk_X9_goWay lk_1535 ⟨Nat.le_trans (by decide) hR.1, Nat.le_trans (by decide) hR.2⟩ ⟨Nat.zero_le _, Nat.zero_le _⟩ rfl hl.1 rfl rfl (Nat.le_of_ble_eq_true rfl) dX9_lookJump_341 (fun hP H locs hw => ?_)
    refine lv_if_eq (tgt := 354) hx hb dX9_lookJump_344 (by decide) (fun c144 => ?_) (fun c144 => ?_)
    · have h := i_yes c144 h
      exact w_X9_lookJump_354 hC hR o0 a0 x1 x9 _ _ _ _ hi0 hw (lv_sub hl [0, 1, 3] rfl) h
    · have h := i_no c144 h
      refine lv_aload_n hx hb dX9_lookJump_347 rfl (lv_at hl 0 rfl) ?_
      refine lv_iload_n hx hb dX9_lookJump_348 rfl (lv_at hl 1 rfl) ?_
      refine lv_iconst (v := 1) hx hb dX9_lookJump_349 (by decide) ?_
      refine lv_iadd hx hb dX9_lookJump_350 ?_
      obtain ⟨_, D146, hq145, h⟩ := cq_i h
      refine r_cV (st' := []) [.int (x1 + (1 : Int32))] [] hC hw kc_8 hi0 (k_X9_goTo _ hi0 hq145) mk_X9_goTo lk_1458 ⟨Nat.le_trans (by decide) hR.1, Nat.le_trans (by decide) hR.2⟩ ⟨Nat.zero_le _, Nat.zero_le _⟩ rfl hl.1 rfl rfl (Nat.le_of_ble_eq_true rfl) dX9_lookJump_351 (fun hP H locs hw => ?_)
      exact w_X9_lookJump_354 hC hR o0 a0 x1 x9 _ _ _ _ hi0 hw (lv_sub hl [0, 1, 3] rfl) h
set_option maxHeartbeats 4000000 in
set_option maxRecDepth 100000 in
theorem w_X9_lookJump_308 {r : Int32} {D' : dt} (hC : Cx RX9 cX9_lookJump 10 (some .int) p s m args meth c) (hR : 4 ≤ R.frames ∧ 99 ≤ R.locals) : ∀ (o0 a0 : Nat) (x1 : Int32) (x8 : Int32) (x9 : Int32) (D : dt) (H : Heap) (locs : List Loc) (ls : Array Slot), Is S ad o0 a0 8 → Wd G cA S D ad A s H locs → lv_has ls 10 [(0, .ref a0), (1, .int x1), (8, .int x8), (9, .int x9)] → f_X9_lookJump_308 S o0 x1 x8 x9 D = some (r, D') → W p l e R s m args below meth c H locs 0 0 (MQ below (Qn (some (.int r)) True (wpost G cA S D' ad A) A) args s 0 0 A) (F0 m 308 ls []) := by
  obtain ⟨hx, hb, -⟩ := id hC
  intro o0 a0 x1 x8 x9 D H locs ls hi0 hw hl h
  unfold f_X9_lookJump_308 at h
  refine lv_iload hx hb dX9_lookJump_308 (lv_at hl 3 rfl) ?_
  refine lv_if_eq (tgt := 333) hx hb dX9_lookJump_310 (by decide) (fun c147 => ?_) (fun c147 => ?_)
  · have h := i_yes c147 h
    exact w_X9_lookJump_333 hC hR o0 a0 x1 x8 x9 _ _ _ _ hi0 hw (lv_sub hl [0, 1, 2, 3] rfl) h
  · have h := i_no c147 h
    refine lv_aload_n hx hb dX9_lookJump_313 rfl (lv_at hl 0 rfl) ?_
    refine lv_iload_n hx hb dX9_lookJump_314 rfl (lv_at hl 1 rfl) ?_
    refine lv_iconst (v := 1) hx hb dX9_lookJump_315 (by decide) ?_
    refine lv_iadd hx hb dX9_lookJump_316 ?_
    refine lv_aload_n hx hb dX9_lookJump_317 rfl (lv_at hl 0 rfl) ?_
    obtain ⟨o148, ho151, h⟩ := rq_i h
    refine r_getR hC hw kc_8 hi0 4 rfl lk_1076 dX9_lookJump_318 rfl ho151 (fun a149 hi150 => ?_)
    refine lv_iload_n hx hb dX9_lookJump_321 rfl (lv_at hl 1 rfl) ?_
    obtain ⟨hn152, h⟩ := ix_i h
    refine r_iald hC hw hi150 hn152 dX9_lookJump_322 ?_
    refine lv_iadd hx hb dX9_lookJump_323 ?_
    obtain ⟨r154, hq153, h⟩ := pq_i h
    refine r_cV (st' := [.int r154]) [.int ((x1 + (1 : Int32)) + (gI D o148 x1.toNatClampNeg))] [] hC hw kc_8 hi0 (k_X9_isWay _ hi0 hq153) mk_X9_isWay lk_1523 ⟨Nat.le_trans (by decide) hR.1, Nat.le_trans (by decide) hR.2⟩ ⟨Nat.zero_le _, Nat.zero_le _⟩ rfl hl.1 rfl rfl (Nat.le_of_ble_eq_true rfl) dX9_lookJump_324 (fun hP H locs hw => ?_)
    refine lv_if_ne (tgt := 333) hx hb dX9_lookJump_327 (by decide) (fun c155 => ?_) (fun c155 => ?_)
    · have h := i_no c155 h
      exact w_X9_lookJump_333 hC hR o0 a0 x1 x8 x9 _ _ _ _ hi0 hw (lv_sub hl [0, 1, 2, 3] rfl) h
    · have h := i_yes c155 h
      refine lv_bipush (v := 6) hx hb dX9_lookJump_330 (by decide) ?_
      cases h
      exact r_iret hC hw dX9_lookJump_332
set_option maxHeartbeats 4000000 in
set_option maxRecDepth 100000 in
theorem w_X9_lookJump_253 {r : Int32} {D' : dt} (hC : Cx RX9 cX9_lookJump 10 (some .int) p s m args meth c) (hR : 4 ≤ R.frames ∧ 99 ≤ R.locals) : ∀ (o0 a0 : Nat) (x1 : Int32) (os0 as0 : Nat) (xs1 : Int32) (D : dt) (H : Heap) (locs : List Loc) (ls : Array Slot), Is S ad o0 a0 8 → Is S ad os0 as0 8 → Wd G cA S D ad A s H locs → lv_has ls 10 [(0, .ref a0), (1, .int x1)] → f_X9_lookJump_253 S o0 x1 os0 xs1 D = some (r, D') → W p l e R s m args below meth c H locs 0 0 (MQ below (Qn (some (.int r)) True (wpost G cA S D' ad A) A) args s 0 0 A) (F0 m 253 ls [.int xs1, .ref as0]) := by
  obtain ⟨hx, hb, -⟩ := id hC
  intro o0 a0 x1 os0 as0 xs1 D H locs ls hi0 his0 hw hl h
  unfold f_X9_lookJump_253 at h
  refine r_pI hC hw kc_8 his0 53 rfl lk_1125 rfl rfl rfl dX9_lookJump_253 (fun D156 eD156 H locs hw => ?_)
  have h := nm_i h D156 eD156
  refine lv_aload_n hx hb dX9_lookJump_256 rfl (lv_at hl 0 rfl) ?_
  refine lv_iconst (v := 0) hx hb dX9_lookJump_257 (by decide) ?_
  refine lv_bipush (v := 75) hx hb dX9_lookJump_258 (by decide) ?_
  obtain ⟨_, D158, hq157, h⟩ := cq_i h
  refine r_cV (st' := []) [.int (0 : Int32), .int (75 : Int32)] [] hC hw kc_8 hi0 (k_X9_copy _ hi0 hq157) mk_X9_copy lk_1531 ⟨Nat.le_trans (by decide) hR.1, Nat.le_trans (by decide) hR.2⟩ ⟨Nat.zero_le _, Nat.zero_le _⟩ rfl hl.1 rfl rfl (Nat.le_of_ble_eq_true rfl) dX9_lookJump_260 (fun hP H locs hw => ?_)
  refine lv_aload_n hx hb dX9_lookJump_263 rfl (lv_at hl 0 rfl) ?_
  refine lv_iload_n hx hb dX9_lookJump_264 rfl (lv_at hl 1 rfl) ?_
  refine lv_iconst (v := 0) hx hb dX9_lookJump_265 (by decide) ?_
  obtain ⟨r160, D161, hq159, h⟩ := cq_i h
  refine r_cV (st' := [.int r160]) [.int x1, .int (0 : Int32)] [] hC hw kc_8 hi0 (k_X9_goWay _ hi0 hq159) mk_X9_goWay lk_1535 ⟨Nat.le_trans (by decide) hR.1, Nat.le_trans (by decide) hR.2⟩ ⟨Nat.zero_le _, Nat.zero_le _⟩ rfl hl.1 rfl rfl (Nat.le_of_ble_eq_true rfl) dX9_lookJump_266 (fun hP H locs hw => ?_)
  refine lv_istore (lv' := [(8, .int r160), (0, .ref a0), (1, .int x1)]) hx hb dX9_lookJump_269 hl (by decide) rfl (fun ls hl => ?_)
  refine lv_aload_n hx hb dX9_lookJump_271 rfl (lv_at hl 1 rfl) ?_
  refine lv_bipush (v := 75) hx hb dX9_lookJump_272 (by decide) ?_
  refine lv_iconst (v := 0) hx hb dX9_lookJump_274 (by decide) ?_
  obtain ⟨_, D163, hq162, h⟩ := cq_i h
  refine r_cV (st' := []) [.int (75 : Int32), .int (0 : Int32)] [] hC hw kc_8 hi0 (k_X9_copy _ hi0 hq162) mk_X9_copy lk_1531 ⟨Nat.le_trans (by decide) hR.1, Nat.le_trans (by decide) hR.2⟩ ⟨Nat.zero_le _, Nat.zero_le _⟩ rfl hl.1 rfl rfl (Nat.le_of_ble_eq_true rfl) dX9_lookJump_275 (fun hP H locs hw => ?_)
  refine lv_aload_n hx hb dX9_lookJump_278 rfl (lv_at hl 1 rfl) ?_
  refine lv_iload_n hx hb dX9_lookJump_279 rfl (lv_at hl 2 rfl) ?_
  refine lv_iconst (v := 1) hx hb dX9_lookJump_280 (by decide) ?_
  obtain ⟨r165, D166, hq164, h⟩ := cq_i h
  refine r_cV (st' := [.int r165]) [.int x1, .int (1 : Int32)] [] hC hw kc_8 hi0 (k_X9_goWay _ hi0 hq164) mk_X9_goWay lk_1535 ⟨Nat.le_trans (by decide) hR.1, Nat.le_trans (by decide) hR.2⟩ ⟨Nat.zero_le _, Nat.zero_le _⟩ rfl hl.1 rfl rfl (Nat.le_of_ble_eq_true rfl) dX9_lookJump_281 (fun hP H locs hw => ?_)
  refine lv_istore (lv' := [(9, .int r165), (8, .int r160), (0, .ref a0), (1, .int x1)]) hx hb dX9_lookJump_284 hl (by decide) rfl (fun ls hl => ?_)
  refine lv_aload_n hx hb dX9_lookJump_286 rfl (lv_at hl 2 rfl) ?_
  refine lv_bipush (v := 75) hx hb dX9_lookJump_287 (by decide) ?_
  refine lv_iconst (v := 0) hx hb dX9_lookJump_289 (by decide) ?_
  obtain ⟨_, D168, hq167, h⟩ := cq_i h
  refine r_cV (st' := []) [.int (75 : Int32), .int (0 : Int32)] [] hC hw kc_8 hi0 (k_X9_copy _ hi0 hq167) mk_X9_copy lk_1531 ⟨Nat.le_trans (by decide) hR.1, Nat.le_trans (by decide) hR.2⟩ ⟨Nat.zero_le _, Nat.zero_le _⟩ rfl hl.1 rfl rfl (Nat.le_of_ble_eq_true rfl) dX9_lookJump_290 (fun hP H locs hw => ?_)
  refine lv_iload hx hb dX9_lookJump_293 (lv_at hl 1 rfl) ?_
  refine lv_if_eq (tgt := 308) hx hb dX9_lookJump_295 (by decide) (fun c169 => ?_) (fun c169 => ?_)
  · have h := i_yes c169 h
    exact w_X9_lookJump_308 hC hR o0 a0 x1 r160 r165 _ _ _ _ hi0 hw (lv_sub hl [2, 3, 1, 0] rfl) h
  · have h := i_no c169 h
    refine lv_aload_n hx hb dX9_lookJump_298 rfl (lv_at hl 2 rfl) ?_
    refine lv_iload_n hx hb dX9_lookJump_299 rfl (lv_at hl 3 rfl) ?_
    refine lv_iconst (v := 1) hx hb dX9_lookJump_300 (by decide) ?_
    refine lv_iadd hx hb dX9_lookJump_301 ?_
    obtain ⟨r171, hq170, h⟩ := pq_i h
    refine r_cV (st' := [.int r171]) [.int (x1 + (1 : Int32))] [] hC hw kc_8 hi0 (k_X9_isWay _ hi0 hq170) mk_X9_isWay lk_1523 ⟨Nat.le_trans (by decide) hR.1, Nat.le_trans (by decide) hR.2⟩ ⟨Nat.zero_le _, Nat.zero_le _⟩ rfl hl.1 rfl rfl (Nat.le_of_ble_eq_true rfl) dX9_lookJump_302 (fun hP H locs hw => ?_)
    refine lv_if_eq (tgt := 330) hx hb dX9_lookJump_305 (by decide) (fun c172 => ?_) (fun c172 => ?_)
    · have h := i_yes c172 h
      refine lv_bipush (v := 6) hx hb dX9_lookJump_330 (by decide) ?_
      cases h
      exact r_iret hC hw dX9_lookJump_332
    · have h := i_no c172 h
      exact w_X9_lookJump_308 hC hR o0 a0 x1 r160 r165 _ _ _ _ hi0 hw (lv_sub hl [2, 3, 1, 0] rfl) h
set_option maxHeartbeats 4000000 in
set_option maxRecDepth 100000 in
theorem w_X9_lookJump_210 {r : Int32} {D' : dt} (hC : Cx RX9 cX9_lookJump 10 (some .int) p s m args meth c) (hR : 4 ≤ R.frames ∧ 99 ≤ R.locals) : ∀ (o0 a0 : Nat) (x1 : Int32) (os0 as0 : Nat) (D : dt) (H : Heap) (locs : List Loc) (ls : Array Slot), Is S ad o0 a0 8 → Is S ad os0 as0 8 → Wd G cA S D ad A s H locs → lv_has ls 10 [(0, .ref a0), (1, .int x1)] → f_X9_lookJump_210 S o0 x1 os0 D = some (r, D') → W p l e R s m args below meth c H locs 0 0 (MQ below (Qn (some (.int r)) True (wpost G cA S D' ad A) A) args s 0 0 A) (F0 m 210 ls [.ref as0]) := by
  obtain ⟨hx, hb, -⟩ := id hC
  intro o0 a0 x1 os0 as0 D H locs ls hi0 his0 hw hl h
  unfold f_X9_lookJump_210 at h
  refine lv_iconst (v := 0) hx hb dX9_lookJump_210 (by decide) ?_
  refine lv_goto (tgt := 253) hx hb dX9_lookJump_211 (by decide) ?_
  exact w_X9_lookJump_253 hC hR o0 a0 x1 os0 as0 (0 : Int32) _ _ _ _ hi0 his0 hw (lv_sub hl [0, 1] rfl) h
set_option maxHeartbeats 4000000 in
set_option maxRecDepth 100000 in
theorem w_X9_lookJump_189 {r : Int32} {D' : dt} (hC : Cx RX9 cX9_lookJump 10 (some .int) p s m args meth c) (hR : 4 ≤ R.frames ∧ 99 ≤ R.locals) : ∀ (o0 a0 : Nat) (x1 : Int32) (x3 : Int32) (x5 : Int32) (x6 : Int32) (xs0 : Int32) (D : dt) (H : Heap) (locs : List Loc) (ls : Array Slot), Is S ad o0 a0 8 → Wd G cA S D ad A s H locs → lv_has ls 10 [(0, .ref a0), (1, .int x1), (3, .int x3), (5, .int x5), (6, .int x6)] → f_X9_lookJump_189 S o0 x1 x3 x5 x6 xs0 D = some (r, D') → W p l e R s m args below meth c H locs 0 0 (MQ below (Qn (some (.int r)) True (wpost G cA S D' ad A) A) args s 0 0 A) (F0 m 189 ls [.int xs0]) := by
  obtain ⟨hx, hb, -⟩ := id hC
  intro o0 a0 x1 x3 x5 x6 xs0 D H locs ls hi0 hw hl h
  unfold f_X9_lookJump_189 at h
  refine lv_istore (lv' := [(7, .int xs0), (0, .ref a0), (1, .int x1), (3, .int x3), (5, .int x5), (6, .int x6)]) hx hb dX9_lookJump_189 hl (by decide) rfl (fun ls hl => ?_)
  refine lv_aload_n hx hb dX9_lookJump_191 rfl (lv_at hl 1 rfl) ?_
  refine lv_iload hx hb dX9_lookJump_192 (lv_at hl 5 rfl) ?_
  refine lv_if_eq (tgt := 201) hx hb dX9_lookJump_194 (by decide) (fun c173 => ?_) (fun c173 => ?_)
  · have h := i_yes c173 h
    refine lv_iload_n hx hb dX9_lookJump_201 rfl (lv_at hl 3 rfl) ?_
    refine lv_if_eq (tgt := 210) hx hb dX9_lookJump_202 (by decide) (fun c174 => ?_) (fun c174 => ?_)
    · have h := i_yes c174 h
      exact w_X9_lookJump_210 hC hR o0 a0 x1 o0 a0 _ _ _ _ hi0 hi0 hw (lv_sub hl [1, 2] rfl) h
    · have h := i_no c174 h
      refine lv_iload hx hb dX9_lookJump_205 (lv_at hl 0 rfl) ?_
      refine lv_if_ne (tgt := 214) hx hb dX9_lookJump_207 (by decide) (fun c175 => ?_) (fun c175 => ?_)
      · have h := i_no c175 h
        refine lv_aload_n hx hb dX9_lookJump_214 rfl (lv_at hl 1 rfl) ?_
        refine r_gL hC hw kc_8 hi0 51 rfl lk_1123 dX9_lookJump_215 ?_
        refine lv_aload_n hx hb dX9_lookJump_218 rfl (lv_at hl 1 rfl) ?_
        refine r_gL hC hw kc_8 hi0 52 rfl lk_1124 dX9_lookJump_219 ?_
        refine W.lcmp hx hb dX9_lookJump_222 ?_
        refine lv_if_ne (tgt := 230) hx hb dX9_lookJump_223 (by decide) (fun c176 => ?_) (fun c176 => ?_)
        · have h := i_no c176 h
          refine lv_aload_n hx hb dX9_lookJump_230 rfl (lv_at hl 1 rfl) ?_
          obtain ⟨o177, ho180, h⟩ := rq_i h
          refine r_getR hC hw kc_8 hi0 41 rfl lk_1113 dX9_lookJump_231 rfl ho180 (fun a178 hi179 => ?_)
          refine lv_iload hx hb dX9_lookJump_234 (lv_at hl 4 rfl) ?_
          obtain ⟨hn181, h⟩ := ix_i h
          refine r_lald hC hw hi179 hn181 dX9_lookJump_236 ?_
          refine lv_aload_n hx hb dX9_lookJump_237 rfl (lv_at hl 1 rfl) ?_
          obtain ⟨o182, ho185, h⟩ := rq_i h
          refine r_getR hC hw kc_8 hi0 42 rfl lk_1114 dX9_lookJump_238 rfl ho185 (fun a183 hi184 => ?_)
          refine lv_iload hx hb dX9_lookJump_241 (lv_at hl 4 rfl) ?_
          obtain ⟨hn186, h⟩ := ix_i h
          refine r_lald hC hw hi184 hn186 dX9_lookJump_243 ?_
          refine W.lcmp hx hb dX9_lookJump_244 ?_
          refine lv_if_ne (tgt := 252) hx hb dX9_lookJump_245 (by decide) (fun c187 => ?_) (fun c187 => ?_)
          · have h := i_no c187 h
            refine lv_iconst (v := 0) hx hb dX9_lookJump_252 (by decide) ?_
            exact w_X9_lookJump_253 hC hR o0 a0 x1 o0 a0 (0 : Int32) _ _ _ _ hi0 hi0 hw (lv_sub hl [1, 2] rfl) h
          · have h := i_yes c187 h
            refine lv_iconst (v := 2) hx hb dX9_lookJump_248 (by decide) ?_
            refine lv_goto (tgt := 253) hx hb dX9_lookJump_249 (by decide) ?_
            exact w_X9_lookJump_253 hC hR o0 a0 x1 o0 a0 (2 : Int32) _ _ _ _ hi0 hi0 hw (lv_sub hl [1, 2] rfl) h
        · have h := i_yes c176 h
          refine lv_iconst (v := 1) hx hb dX9_lookJump_226 (by decide) ?_
          refine lv_goto (tgt := 253) hx hb dX9_lookJump_227 (by decide) ?_
          exact w_X9_lookJump_253 hC hR o0 a0 x1 o0 a0 (1 : Int32) _ _ _ _ hi0 hi0 hw (lv_sub hl [1, 2] rfl) h
      · have h := i_yes c175 h
        exact w_X9_lookJump_210 hC hR o0 a0 x1 o0 a0 _ _ _ _ hi0 hi0 hw (lv_sub hl [1, 2] rfl) h
  · have h := i_no c173 h
    refine lv_iconst (v := 3) hx hb dX9_lookJump_197 (by decide) ?_
    refine lv_goto (tgt := 253) hx hb dX9_lookJump_198 (by decide) ?_
    exact w_X9_lookJump_253 hC hR o0 a0 x1 o0 a0 (3 : Int32) _ _ _ _ hi0 hi0 hw (lv_sub hl [1, 2] rfl) h
set_option maxHeartbeats 4000000 in
set_option maxRecDepth 100000 in
theorem w_X9_lookJump_184 {r : Int32} {D' : dt} (hC : Cx RX9 cX9_lookJump 10 (some .int) p s m args meth c) (hR : 4 ≤ R.frames ∧ 99 ≤ R.locals) : ∀ (o0 a0 : Nat) (x1 : Int32) (x3 : Int32) (x5 : Int32) (x6 : Int32) (D : dt) (H : Heap) (locs : List Loc) (ls : Array Slot), Is S ad o0 a0 8 → Wd G cA S D ad A s H locs → lv_has ls 10 [(0, .ref a0), (1, .int x1), (3, .int x3), (5, .int x5), (6, .int x6)] → f_X9_lookJump_184 S o0 x1 x3 x5 x6 D = some (r, D') → W p l e R s m args below meth c H locs 0 0 (MQ below (Qn (some (.int r)) True (wpost G cA S D' ad A) A) args s 0 0 A) (F0 m 184 ls []) := by
  obtain ⟨hx, hb, -⟩ := id hC
  intro o0 a0 x1 x3 x5 x6 D H locs ls hi0 hw hl h
  unfold f_X9_lookJump_184 at h
  refine lv_iconst (v := 1) hx hb dX9_lookJump_184 (by decide) ?_
  refine lv_goto (tgt := 189) hx hb dX9_lookJump_185 (by decide) ?_
  exact w_X9_lookJump_189 hC hR o0 a0 x1 x3 x5 x6 (1 : Int32) _ _ _ _ hi0 hw (lv_sub hl [0, 1, 2, 3, 4] rfl) h
set_option maxHeartbeats 4000000 in
set_option maxRecDepth 100000 in
theorem w_X9_lookJump_152 {r : Int32} {D' : dt} (hC : Cx RX9 cX9_lookJump 10 (some .int) p s m args meth c) (hR : 4 ≤ R.frames ∧ 99 ≤ R.locals) : ∀ (o0 a0 : Nat) (x1 : Int32) (x2 : Int32) (x3 : Int32) (x5 : Int32) (x6 : Int32) (D : dt) (H : Heap) (locs : List Loc) (ls : Array Slot), Is S ad o0 a0 8 → Wd G cA S D ad A s H locs → lv_has ls 10 [(0, .ref a0), (1, .int x1), (2, .int x2), (3, .int x3), (5, .int x5), (6, .int x6)] → f_X9_lookJump_152 S o0 x1 x2 x3 x5 x6 D = some (r, D') → W p l e R s m args below meth c H locs 0 0 (MQ below (Qn (some (.int r)) True (wpost G cA S D' ad A) A) args s 0 0 A) (F0 m 152 ls []) := by
  obtain ⟨hx, hb, -⟩ := id hC
  intro o0 a0 x1 x2 x3 x5 x6 D H locs ls hi0 hw hl h
  unfold f_X9_lookJump_152 at h
  refine lv_iload_n hx hb dX9_lookJump_152 rfl (lv_at hl 2 rfl) ?_
  refine lv_iconst (v := 1) hx hb dX9_lookJump_153 (by decide) ?_
  refine lv_icmp_eq (tgt := 184) hx hb dX9_lookJump_154 (by decide) (fun c188 => ?_) (fun c188 => ?_)
  · have h := i_yes c188 h
    exact w_X9_lookJump_184 hC hR o0 a0 x1 x3 x5 x6 _ _ _ _ hi0 hw (lv_sub hl [0, 1, 3, 4, 5] rfl) h
  · have h := i_no c188 h
    refine lv_iload_n hx hb dX9_lookJump_157 rfl (lv_at hl 2 rfl) ?_
    refine lv_iconst (v := 5) hx hb dX9_lookJump_158 (by decide) ?_
    refine lv_icmp_eq (tgt := 184) hx hb dX9_lookJump_159 (by decide) (fun c189 => ?_) (fun c189 => ?_)
    · have h := i_yes c189 h
      exact w_X9_lookJump_184 hC hR o0 a0 x1 x3 x5 x6 _ _ _ _ hi0 hw (lv_sub hl [0, 1, 3, 4, 5] rfl) h
    · have h := i_no c189 h
      refine lv_iload_n hx hb dX9_lookJump_162 rfl (lv_at hl 2 rfl) ?_
      refine lv_iconst (v := 2) hx hb dX9_lookJump_163 (by decide) ?_
      refine lv_icmp_eq (tgt := 184) hx hb dX9_lookJump_164 (by decide) (fun c190 => ?_) (fun c190 => ?_)
      · have h := i_yes c190 h
        exact w_X9_lookJump_184 hC hR o0 a0 x1 x3 x5 x6 _ _ _ _ hi0 hw (lv_sub hl [0, 1, 3, 4, 5] rfl) h
      · have h := i_no c190 h
        refine lv_iload_n hx hb dX9_lookJump_167 rfl (lv_at hl 2 rfl) ?_
        refine lv_iconst (v := 3) hx hb dX9_lookJump_168 (by decide) ?_
        refine lv_icmp_eq (tgt := 184) hx hb dX9_lookJump_169 (by decide) (fun c191 => ?_) (fun c191 => ?_)
        · have h := i_yes c191 h
          exact w_X9_lookJump_184 hC hR o0 a0 x1 x3 x5 x6 _ _ _ _ hi0 hw (lv_sub hl [0, 1, 3, 4, 5] rfl) h
        · have h := i_no c191 h
          refine lv_iload_n hx hb dX9_lookJump_172 rfl (lv_at hl 2 rfl) ?_
          refine lv_bipush (v := 10) hx hb dX9_lookJump_173 (by decide) ?_
          refine lv_icmp_eq (tgt := 184) hx hb dX9_lookJump_175 (by decide) (fun c192 => ?_) (fun c192 => ?_)
          · have h := i_yes c192 h
            exact w_X9_lookJump_184 hC hR o0 a0 x1 x3 x5 x6 _ _ _ _ hi0 hw (lv_sub hl [0, 1, 3, 4, 5] rfl) h
          · have h := i_no c192 h
            refine lv_iload_n hx hb dX9_lookJump_178 rfl (lv_at hl 2 rfl) ?_
            refine lv_bipush (v := 11) hx hb dX9_lookJump_179 (by decide) ?_
            refine lv_icmp_ne (tgt := 188) hx hb dX9_lookJump_181 (by decide) (fun c193 => ?_) (fun c193 => ?_)
            · have h := i_no c193 h
              refine lv_iconst (v := 0) hx hb dX9_lookJump_188 (by decide) ?_
              exact w_X9_lookJump_189 hC hR o0 a0 x1 x3 x5 x6 (0 : Int32) _ _ _ _ hi0 hw (lv_sub hl [0, 1, 3, 4, 5] rfl) h
            · have h := i_yes c193 h
              exact w_X9_lookJump_184 hC hR o0 a0 x1 x3 x5 x6 _ _ _ _ hi0 hw (lv_sub hl [0, 1, 3, 4, 5] rfl) h
set_option maxHeartbeats 4000000 in
set_option maxRecDepth 100000 in
theorem w_X9_lookJump_124 {r : Int32} {D' : dt} (hC : Cx RX9 cX9_lookJump 10 (some .int) p s m args meth c) (hR : 4 ≤ R.frames ∧ 99 ≤ R.locals) : ∀ (o0 a0 : Nat) (x1 : Int32) (x2 : Int32) (x3 : Int32) (x5 : Int32) (xs0 : Int32) (D : dt) (H : Heap) (locs : List Loc) (ls : Array Slot), Is S ad o0 a0 8 → Wd G cA S D ad A s H locs → lv_has ls 10 [(0, .ref a0), (1, .int x1), (2, .int x2), (3, .int x3), (5, .int x5)] → f_X9_lookJump_124 S o0 x1 x2 x3 x5 xs0 D = some (r, D') → W p l e R s m args below meth c H locs 0 0 (MQ below (Qn (some (.int r)) True (wpost G cA S D' ad A) A) args s 0 0 A) (F0 m 124 ls [.int xs0]) := by
  obtain ⟨hx, hb, -⟩ := id hC
  intro o0 a0 x1 x2 x3 x5 xs0 D H locs ls hi0 hw hl h
  unfold f_X9_lookJump_124 at h
  refine lv_istore (lv' := [(6, .int xs0), (0, .ref a0), (1, .int x1), (2, .int x2), (3, .int x3), (5, .int x5)]) hx hb dX9_lookJump_124 hl (by decide) rfl (fun ls hl => ?_)
  refine lv_iload hx hb dX9_lookJump_126 (lv_at hl 0 rfl) ?_
  refine lv_if_ne (tgt := 152) hx hb dX9_lookJump_128 (by decide) (fun c194 => ?_) (fun c194 => ?_)
  · have h := i_no c194 h
    exact w_X9_lookJump_152 hC hR o0 a0 x1 x2 x3 x5 xs0 _ _ _ _ hi0 hw (lv_sub hl [1, 2, 3, 4, 5, 0] rfl) h
  · have h := i_yes c194 h
    refine lv_aload_n hx hb dX9_lookJump_131 rfl (lv_at hl 1 rfl) ?_
    obtain ⟨o195, ho198, h⟩ := rq_i h
    refine r_getR hC hw kc_8 hi0 40 rfl lk_1112 dX9_lookJump_132 rfl ho198 (fun a196 hi197 => ?_)
    refine lv_iload hx hb dX9_lookJump_135 (lv_at hl 5 rfl) ?_
    obtain ⟨hn199, h⟩ := ix_i h
    refine r_iald hC hw hi197 hn199 dX9_lookJump_137 ?_
    refine lv_iconst (v := 1) hx hb dX9_lookJump_138 (by decide) ?_
    refine lv_icmp_ne (tgt := 150) hx hb dX9_lookJump_139 (by decide) (fun c200 => ?_) (fun c200 => ?_)
    · have h := i_no c200 h
      refine lv_iconst (v := 3) hx hb dX9_lookJump_150 (by decide) ?_
      cases h
      exact r_iret hC hw dX9_lookJump_151
    · have h := i_yes c200 h
      refine lv_aload_n hx hb dX9_lookJump_142 rfl (lv_at hl 1 rfl) ?_
      refine r_gI hC hw kc_8 hi0 50 rfl lk_1122 dX9_lookJump_143 ?_
      refine lv_iconst (v := 1) hx hb dX9_lookJump_146 (by decide) ?_
      refine lv_icmp_eq (tgt := 152) hx hb dX9_lookJump_147 (by decide) (fun c201 => ?_) (fun c201 => ?_)
      · have h := i_yes c201 h
        exact w_X9_lookJump_152 hC hR o0 a0 x1 x2 x3 x5 xs0 _ _ _ _ hi0 hw (lv_sub hl [1, 2, 3, 4, 5, 0] rfl) h
      · have h := i_no c201 h
        refine lv_iconst (v := 3) hx hb dX9_lookJump_150 (by decide) ?_
        cases h
        exact r_iret hC hw dX9_lookJump_151
set_option maxHeartbeats 4000000 in
set_option maxRecDepth 100000 in
theorem w_X9_lookJump_123 {r : Int32} {D' : dt} (hC : Cx RX9 cX9_lookJump 10 (some .int) p s m args meth c) (hR : 4 ≤ R.frames ∧ 99 ≤ R.locals) : ∀ (o0 a0 : Nat) (x1 : Int32) (x2 : Int32) (x3 : Int32) (x5 : Int32) (D : dt) (H : Heap) (locs : List Loc) (ls : Array Slot), Is S ad o0 a0 8 → Wd G cA S D ad A s H locs → lv_has ls 10 [(0, .ref a0), (1, .int x1), (2, .int x2), (3, .int x3), (5, .int x5)] → f_X9_lookJump_123 S o0 x1 x2 x3 x5 D = some (r, D') → W p l e R s m args below meth c H locs 0 0 (MQ below (Qn (some (.int r)) True (wpost G cA S D' ad A) A) args s 0 0 A) (F0 m 123 ls []) := by
  obtain ⟨hx, hb, -⟩ := id hC
  intro o0 a0 x1 x2 x3 x5 D H locs ls hi0 hw hl h
  unfold f_X9_lookJump_123 at h
  refine lv_iconst (v := 0) hx hb dX9_lookJump_123 (by decide) ?_
  exact w_X9_lookJump_124 hC hR o0 a0 x1 x2 x3 x5 (0 : Int32) _ _ _ _ hi0 hw (lv_sub hl [0, 1, 2, 3, 4] rfl) h
set_option maxHeartbeats 4000000 in
set_option maxRecDepth 100000 in
theorem w_X9_lookJump_119 {r : Int32} {D' : dt} (hC : Cx RX9 cX9_lookJump 10 (some .int) p s m args meth c) (hR : 4 ≤ R.frames ∧ 99 ≤ R.locals) : ∀ (o0 a0 : Nat) (x1 : Int32) (x2 : Int32) (x3 : Int32) (x5 : Int32) (D : dt) (H : Heap) (locs : List Loc) (ls : Array Slot), Is S ad o0 a0 8 → Wd G cA S D ad A s H locs → lv_has ls 10 [(0, .ref a0), (1, .int x1), (2, .int x2), (3, .int x3), (5, .int x5)] → f_X9_lookJump_119 S o0 x1 x2 x3 x5 D = some (r, D') → W p l e R s m args below meth c H locs 0 0 (MQ below (Qn (some (.int r)) True (wpost G cA S D' ad A) A) args s 0 0 A) (F0 m 119 ls []) := by
  obtain ⟨hx, hb, -⟩ := id hC
  intro o0 a0 x1 x2 x3 x5 D H locs ls hi0 hw hl h
  unfold f_X9_lookJump_119 at h
  refine lv_iconst (v := 1) hx hb dX9_lookJump_119 (by decide) ?_
  refine lv_goto (tgt := 124) hx hb dX9_lookJump_120 (by decide) ?_
  exact w_X9_lookJump_124 hC hR o0 a0 x1 x2 x3 x5 (1 : Int32) _ _ _ _ hi0 hw (lv_sub hl [0, 1, 2, 3, 4] rfl) h
set_option maxHeartbeats 4000000 in
set_option maxRecDepth 100000 in
theorem w_X9_lookJump_45 {r : Int32} {D' : dt} (hC : Cx RX9 cX9_lookJump 10 (some .int) p s m args meth c) (hR : 4 ≤ R.frames ∧ 99 ≤ R.locals) : ∀ (o0 a0 : Nat) (x1 : Int32) (x2 : Int32) (x3 : Int32) (xs0 : Int32) (D : dt) (H : Heap) (locs : List Loc) (ls : Array Slot), Is S ad o0 a0 8 → Wd G cA S D ad A s H locs → lv_has ls 10 [(0, .ref a0), (1, .int x1), (2, .int x2), (3, .int x3)] → f_X9_lookJump_45 S o0 x1 x2 x3 xs0 D = some (r, D') → W p l e R s m args below meth c H locs 0 0 (MQ below (Qn (some (.int r)) True (wpost G cA S D' ad A) A) args s 0 0 A) (F0 m 45 ls [.int xs0]) := by
  obtain ⟨hx, hb, -⟩ := id hC
  intro o0 a0 x1 x2 x3 xs0 D H locs ls hi0 hw hl h
  unfold f_X9_lookJump_45 at h
  refine lv_istore (lv' := [(4, .int xs0), (0, .ref a0), (1, .int x1), (2, .int x2), (3, .int x3)]) hx hb dX9_lookJump_45 hl (by decide) rfl (fun ls hl => ?_)
  refine lv_aload_n hx hb dX9_lookJump_47 rfl (lv_at hl 1 rfl) ?_
  obtain ⟨o202, ho205, h⟩ := rq_i h
  refine r_getR hC hw kc_8 hi0 2 rfl lk_1074 dX9_lookJump_48 rfl ho205 (fun a203 hi204 => ?_)
  refine lv_iload_n hx hb dX9_lookJump_51 rfl (lv_at hl 2 rfl) ?_
  obtain ⟨hn206, h⟩ := ix_i h
  refine r_iald hC hw hi204 hn206 dX9_lookJump_52 ?_
  refine lv_topi (fun y207 ey207 => ?_)
  have h := nm_i h y207 ey207
  refine lv_istore (lv' := [(5, .int y207), (4, .int xs0), (0, .ref a0), (1, .int x1), (2, .int x2), (3, .int x3)]) hx hb dX9_lookJump_53 hl (by decide) rfl (fun ls hl => ?_)
  refine lv_aload_n hx hb dX9_lookJump_55 rfl (lv_at hl 2 rfl) ?_
  refine lv_iload_n hx hb dX9_lookJump_56 rfl (lv_at hl 3 rfl) ?_
  obtain ⟨_, D209, hq208, h⟩ := cq_i h
  refine r_cV (st' := []) [.int x1] [] hC hw kc_8 hi0 (k_X9_takeSecond _ hi0 hq208) mk_X9_takeSecond lk_1484 ⟨Nat.le_trans (by decide) hR.1, Nat.le_trans (by decide) hR.2⟩ ⟨Nat.zero_le _, Nat.zero_le _⟩ rfl hl.1 rfl rfl (Nat.le_of_ble_eq_true rfl) dX9_lookJump_57 (fun hP H locs hw => ?_)
  refine lv_aload_n hx hb dX9_lookJump_60 rfl (lv_at hl 2 rfl) ?_
  obtain ⟨o210, ho213, h⟩ := rq_i h
  refine r_getR hC hw kc_8 hi0 40 rfl lk_1112 dX9_lookJump_61 rfl ho213 (fun a211 hi212 => ?_)
  refine lv_iload hx hb dX9_lookJump_64 (lv_at hl 0 rfl) ?_
  obtain ⟨hn214, h⟩ := ix_i h
  refine r_iald hC hw hi212 hn214 dX9_lookJump_66 ?_
  refine lv_if_eq (tgt := 77) hx hb dX9_lookJump_67 (by decide) (fun c215 => ?_) (fun c215 => ?_)
  · have h := i_yes c215 h
    refine lv_iconst (v := 2) hx hb dX9_lookJump_77 (by decide) ?_
    cases h
    exact r_iret hC hw dX9_lookJump_78
  · have h := i_no c215 h
    refine lv_aload_n hx hb dX9_lookJump_70 rfl (lv_at hl 2 rfl) ?_
    refine r_gI hC hw kc_8 hi0 50 rfl lk_1122 dX9_lookJump_71 ?_
    refine lv_if_ne (tgt := 79) hx hb dX9_lookJump_74 (by decide) (fun c216 => ?_) (fun c216 => ?_)
    · have h := i_no c216 h
      refine lv_aload_n hx hb dX9_lookJump_79 rfl (lv_at hl 2 rfl) ?_
      obtain ⟨o217, ho220, h⟩ := rq_i h
      refine r_getR hC hw kc_8 hi0 40 rfl lk_1112 dX9_lookJump_80 rfl ho220 (fun a218 hi219 => ?_)
      refine lv_iload hx hb dX9_lookJump_83 (lv_at hl 0 rfl) ?_
      obtain ⟨hn221, h⟩ := ix_i h
      refine r_iald hC hw hi219 hn221 dX9_lookJump_85 ?_
      refine lv_bipush (v := 6) hx hb dX9_lookJump_86 (by decide) ?_
      refine lv_icmp_ne (tgt := 123) hx hb dX9_lookJump_88 (by decide) (fun c222 => ?_) (fun c222 => ?_)
      · have h := i_no c222 h
        exact w_X9_lookJump_123 hC hR o0 a0 x1 x2 x3 y207 _ _ _ _ hi0 hw (lv_sub hl [2, 3, 4, 5, 0] rfl) h
      · have h := i_yes c222 h
        refine lv_iload hx hb dX9_lookJump_91 (lv_at hl 1 rfl) ?_
        refine lv_if_ne (tgt := 123) hx hb dX9_lookJump_93 (by decide) (fun c223 => ?_) (fun c223 => ?_)
        · have h := i_no c223 h
          exact w_X9_lookJump_123 hC hR o0 a0 x1 x2 x3 y207 _ _ _ _ hi0 hw (lv_sub hl [2, 3, 4, 5, 0] rfl) h
        · have h := i_yes c223 h
          refine lv_aload_n hx hb dX9_lookJump_96 rfl (lv_at hl 2 rfl) ?_
          obtain ⟨o224, ho227, h⟩ := rq_i h
          refine r_getR hC hw kc_8 hi0 5 rfl lk_1077 dX9_lookJump_97 rfl ho227 (fun a225 hi226 => ?_)
          refine lv_iload_n hx hb dX9_lookJump_100 rfl (lv_at hl 3 rfl) ?_
          obtain ⟨hn228, h⟩ := ix_i h
          refine r_iald hC hw hi226 hn228 dX9_lookJump_101 ?_
          refine lv_if_ne (tgt := 123) hx hb dX9_lookJump_102 (by decide) (fun c229 => ?_) (fun c229 => ?_)
          · have h := i_no c229 h
            exact w_X9_lookJump_123 hC hR o0 a0 x1 x2 x3 y207 _ _ _ _ hi0 hw (lv_sub hl [2, 3, 4, 5, 0] rfl) h
          · have h := i_yes c229 h
            refine lv_iload_n hx hb dX9_lookJump_105 rfl (lv_at hl 5 rfl) ?_
            refine lv_if_eq (tgt := 123) hx hb dX9_lookJump_106 (by decide) (fun c230 => ?_) (fun c230 => ?_)
            · have h := i_yes c230 h
              exact w_X9_lookJump_123 hC hR o0 a0 x1 x2 x3 y207 _ _ _ _ hi0 hw (lv_sub hl [2, 3, 4, 5, 0] rfl) h
            · have h := i_no c230 h
              refine lv_iload_n hx hb dX9_lookJump_109 rfl (lv_at hl 4 rfl) ?_
              refine lv_iconst (v := 1) hx hb dX9_lookJump_110 (by decide) ?_
              refine lv_icmp_eq (tgt := 119) hx hb dX9_lookJump_111 (by decide) (fun c231 => ?_) (fun c231 => ?_)
              · have h := i_yes c231 h
                exact w_X9_lookJump_119 hC hR o0 a0 x1 x2 x3 y207 _ _ _ _ hi0 hw (lv_sub hl [2, 3, 4, 5, 0] rfl) h
              · have h := i_no c231 h
                refine lv_iload_n hx hb dX9_lookJump_114 rfl (lv_at hl 4 rfl) ?_
                refine lv_iconst (v := 5) hx hb dX9_lookJump_115 (by decide) ?_
                refine lv_icmp_ne (tgt := 123) hx hb dX9_lookJump_116 (by decide) (fun c232 => ?_) (fun c232 => ?_)
                · have h := i_no c232 h
                  exact w_X9_lookJump_123 hC hR o0 a0 x1 x2 x3 y207 _ _ _ _ hi0 hw (lv_sub hl [2, 3, 4, 5, 0] rfl) h
                · have h := i_yes c232 h
                  exact w_X9_lookJump_119 hC hR o0 a0 x1 x2 x3 y207 _ _ _ _ hi0 hw (lv_sub hl [2, 3, 4, 5, 0] rfl) h
    · have h := i_yes c216 h
      refine lv_iconst (v := 2) hx hb dX9_lookJump_77 (by decide) ?_
      cases h
      exact r_iret hC hw dX9_lookJump_78
set_option maxHeartbeats 4000000 in
set_option maxRecDepth 100000 in
theorem w_X9_lookJump_27 {r : Int32} {D' : dt} (hC : Cx RX9 cX9_lookJump 10 (some .int) p s m args meth c) (hR : 4 ≤ R.frames ∧ 99 ≤ R.locals) : ∀ (o0 a0 : Nat) (x1 : Int32) (x2 : Int32) (xs0 : Int32) (D : dt) (H : Heap) (locs : List Loc) (ls : Array Slot), Is S ad o0 a0 8 → Wd G cA S D ad A s H locs → lv_has ls 10 [(0, .ref a0), (1, .int x1), (2, .int x2)] → f_X9_lookJump_27 S o0 x1 x2 xs0 D = some (r, D') → W p l e R s m args below meth c H locs 0 0 (MQ below (Qn (some (.int r)) True (wpost G cA S D' ad A) A) args s 0 0 A) (F0 m 27 ls [.int xs0]) := by
  obtain ⟨hx, hb, -⟩ := id hC
  intro o0 a0 x1 x2 xs0 D H locs ls hi0 hw hl h
  unfold f_X9_lookJump_27 at h
  refine lv_istore_n (lv' := [(3, .int xs0), (0, .ref a0), (1, .int x1), (2, .int x2)]) hx hb dX9_lookJump_27 rfl hl (by decide) rfl (fun ls hl => ?_)
  refine lv_aload_n hx hb dX9_lookJump_28 rfl (lv_at hl 1 rfl) ?_
  obtain ⟨o233, ho236, h⟩ := rq_i h
  refine r_getR hC hw kc_8 hi0 1 rfl lk_1073 dX9_lookJump_29 rfl ho236 (fun a234 hi235 => ?_)
  refine lv_iload_n hx hb dX9_lookJump_32 rfl (lv_at hl 2 rfl) ?_
  obtain ⟨hn237, h⟩ := ix_i h
  refine r_iald hC hw hi235 hn237 dX9_lookJump_33 ?_
  refine lv_bipush (v := 8) hx hb dX9_lookJump_34 (by decide) ?_
  refine lv_iand hx hb dX9_lookJump_36 ?_
  refine lv_if_eq (tgt := 44) hx hb dX9_lookJump_37 (by decide) (fun c238 => ?_) (fun c238 => ?_)
  · have h := i_yes c238 h
    refine lv_iconst (v := 0) hx hb dX9_lookJump_44 (by decide) ?_
    exact w_X9_lookJump_45 hC hR o0 a0 x1 x2 xs0 (0 : Int32) _ _ _ _ hi0 hw (lv_sub hl [1, 2, 3, 0] rfl) h
  · have h := i_no c238 h
    refine lv_iconst (v := 1) hx hb dX9_lookJump_40 (by decide) ?_
    refine lv_goto (tgt := 45) hx hb dX9_lookJump_41 (by decide) ?_
    exact w_X9_lookJump_45 hC hR o0 a0 x1 x2 xs0 (1 : Int32) _ _ _ _ hi0 hw (lv_sub hl [1, 2, 3, 0] rfl) h
set_option maxHeartbeats 4000000 in
set_option maxRecDepth 100000 in
theorem w_X9_lookJump_0 {r : Int32} {D' : dt} (hC : Cx RX9 cX9_lookJump 10 (some .int) p s m args meth c) (hR : 4 ≤ R.frames ∧ 99 ≤ R.locals) : ∀ (o0 a0 : Nat) (x1 : Int32) (D : dt) (H : Heap) (locs : List Loc) (ls : Array Slot), Is S ad o0 a0 8 → Wd G cA S D ad A s H locs → lv_has ls 10 [(0, .ref a0), (1, .int x1)] → f_X9_lookJump S o0 x1 D = some (r, D') → W p l e R s m args below meth c H locs 0 0 (MQ below (Qn (some (.int r)) True (wpost G cA S D' ad A) A) args s 0 0 A) (F0 m 0 ls []) := by
  obtain ⟨hx, hb, -⟩ := id hC
  intro o0 a0 x1 D H locs ls hi0 hw hl h
  unfold f_X9_lookJump at h
  refine lv_aload_n hx hb dX9_lookJump_0 rfl (lv_at hl 0 rfl) ?_
  obtain ⟨o239, ho242, h⟩ := rq_i h
  refine r_getR hC hw kc_8 hi0 1 rfl lk_1073 dX9_lookJump_1 rfl ho242 (fun a240 hi241 => ?_)
  refine lv_iload_n hx hb dX9_lookJump_4 rfl (lv_at hl 1 rfl) ?_
  obtain ⟨hn243, h⟩ := ix_i h
  refine r_iald hC hw hi241 hn243 dX9_lookJump_5 ?_
  refine lv_iconst (v := 4) hx hb dX9_lookJump_6 (by decide) ?_
  refine lv_ishr hx hb dX9_lookJump_7 ?_
  refine lv_topi (fun y244 ey244 => ?_)
  have h := nm_i h y244 ey244
  refine lv_istore_n (lv' := [(2, .int y244), (0, .ref a0), (1, .int x1)]) hx hb dX9_lookJump_8 rfl hl (by decide) rfl (fun ls hl => ?_)
  refine lv_aload_n hx hb dX9_lookJump_9 rfl (lv_at hl 1 rfl) ?_
  obtain ⟨o245, ho248, h⟩ := rq_i h
  refine r_getR hC hw kc_8 hi0 1 rfl lk_1073 dX9_lookJump_10 rfl ho248 (fun a246 hi247 => ?_)
  refine lv_iload_n hx hb dX9_lookJump_13 rfl (lv_at hl 2 rfl) ?_
  obtain ⟨hn249, h⟩ := ix_i h
  refine r_iald hC hw hi247 hn249 dX9_lookJump_14 ?_
  refine lv_bipush (v := 7) hx hb dX9_lookJump_15 (by decide) ?_
  refine lv_iand hx hb dX9_lookJump_17 ?_
  refine lv_iconst (v := 5) hx hb dX9_lookJump_18 (by decide) ?_
  refine lv_icmp_ne (tgt := 26) hx hb dX9_lookJump_19 (by decide) (fun c250 => ?_) (fun c250 => ?_)
  · have h := i_no c250 h
    refine lv_iconst (v := 0) hx hb dX9_lookJump_26 (by decide) ?_
    exact w_X9_lookJump_27 hC hR o0 a0 x1 y244 (0 : Int32) _ _ _ _ hi0 hw (lv_sub hl [1, 2, 0] rfl) h
  · have h := i_yes c250 h
    refine lv_iconst (v := 1) hx hb dX9_lookJump_22 (by decide) ?_
    refine lv_goto (tgt := 27) hx hb dX9_lookJump_23 (by decide) ?_
    exact w_X9_lookJump_27 hC hR o0 a0 x1 y244 (1 : Int32) _ _ _ _ hi0 hw (lv_sub hl [1, 2, 0] rfl) h
set_option maxHeartbeats 4000000 in
set_option maxRecDepth 100000 in
theorem k_X9_lookJump {l : Launch} {G : va_G} {cA : Nat → ClassId} {S : sh} {D D' : dt} {ad : Nat → Nat} (sz : Nat) {o0 a0 : Nat} {x1 : Int32} {r : Int32} (hi0 : Is S ad o0 a0 8) (h : f_X9_lookJump S o0 x1 D = some (r, D')) : Co l yX9_lookJump (Cond.code yX9_lookJump cX9_lookJump 10 (some .int) :: tb0) 4 99 [.ref a0, .int x1] G cA S D ad sz (some (.int r)) True D' := by
  refine Met.ofW (cc := cX9_lookJump) (maxL := 10) (ret := (some .int)) (by decide) rfl ?_
  intro p e s m args below meth c s₁ B hml hv
  obtain ⟨rfl, hsz, hP, hK, hD0, hT, hX⟩ := hv
  subst hsz
  have hts := atoms_spec (ws := Cond.code yX9_lookJump cX9_lookJump 10 (some .int) :: tb0) B.pre
  have hC : Cx RX9 cX9_lookJump 10 (some .int) p s m _ meth c := ⟨B.exec, B.bytes, hml, findClass_of_methodNamed B.named, fun w q => hts w (List.mem_cons_of_mem _ q), B.returns, B.notSynchronized⟩
  have hw := Wd.entry hP hK hD0 hT hX
  have hl := lv_entry ([.ref a0, .int x1]) (n := 10) (Nat.le_of_ble_eq_true rfl)
  rw [lg_entry_eq]
  exact w_X9_lookJump_0 hC ⟨Nat.le_refl _, Nat.le_refl _⟩ o0 a0 x1 D _ _ _ hi0 hw hl h
end
