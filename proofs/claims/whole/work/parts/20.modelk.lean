theorem dX9_may_0 : decode cX9_may 0 = .ok (.iload_n 1, 1) := by decide +kernel
theorem dX9_may_1 : decode cX9_may 1 = .ok (.i2l, 1) := by decide +kernel
theorem dX9_may_2 : decode cX9_may 2 = .ok (.lconst 0, 1) := by decide +kernel
theorem dX9_may_3 : decode cX9_may 3 = .ok (.aload_n 0, 1) := by decide +kernel
theorem dX9_may_4 : decode cX9_may 4 = .ok (.getfield 147, 3) := by decide +kernel
theorem dX9_may_7 : decode cX9_may 7 = .ok (.iconst 1, 1) := by decide +kernel
theorem dX9_may_8 : decode cX9_may 8 = .ok (.isub, 1) := by decide +kernel
theorem dX9_may_9 : decode cX9_may 9 = .ok (.i2l, 1) := by decide +kernel
theorem dX9_may_10 : decode cX9_may 10 = .ok (.invokestatic 132, 3) := by decide +kernel
theorem dX9_may_13 : decode cX9_may 13 = .ok (.ifCond .eq 15, 3) := by decide +kernel
theorem dX9_may_16 : decode cX9_may 16 = .ok (.iload_n 2, 1) := by decide +kernel
theorem dX9_may_17 : decode cX9_may 17 = .ok (.i2l, 1) := by decide +kernel
theorem dX9_may_18 : decode cX9_may 18 = .ok (.lconst 0, 1) := by decide +kernel
theorem dX9_may_19 : decode cX9_may 19 = .ok (.ldc2_w 327, 3) := by decide +kernel
theorem dX9_may_22 : decode cX9_may 22 = .ok (.invokestatic 132, 3) := by decide +kernel
theorem dX9_may_25 : decode cX9_may 25 = .ok (.ifCond .ne 7, 3) := by decide +kernel
theorem dX9_may_28 : decode cX9_may 28 = .ok (.ldc2_w 187, 3) := by decide +kernel
theorem dX9_may_31 : decode cX9_may 31 = .ok (.lreturn, 1) := by decide +kernel
theorem dX9_may_32 : decode cX9_may 32 = .ok (.iload_n 3, 1) := by decide +kernel
theorem dX9_may_33 : decode cX9_may 33 = .ok (.i2l, 1) := by decide +kernel
theorem dX9_may_34 : decode cX9_may 34 = .ok (.lconst 0, 1) := by decide +kernel
theorem dX9_may_35 : decode cX9_may 35 = .ok (.ldc2_w 485, 3) := by decide +kernel
theorem dX9_may_38 : decode cX9_may 38 = .ok (.invokestatic 132, 3) := by decide +kernel
theorem dX9_may_41 : decode cX9_may 41 = .ok (.ifCond .ne 7, 3) := by decide +kernel
theorem dX9_may_44 : decode cX9_may 44 = .ok (.ldc2_w 325, 3) := by decide +kernel
theorem dX9_may_47 : decode cX9_may 47 = .ok (.lreturn, 1) := by decide +kernel
theorem dX9_may_48 : decode cX9_may 48 = .ok (.bipush 11, 2) := by decide +kernel
theorem dX9_may_50 : decode cX9_may 50 = .ok (.iload_n 1, 1) := by decide +kernel
theorem dX9_may_51 : decode cX9_may 51 = .ok (.imul, 1) := by decide +kernel
theorem dX9_may_52 : decode cX9_may 52 = .ok (.iload_n 2, 1) := by decide +kernel
theorem dX9_may_53 : decode cX9_may 53 = .ok (.iadd, 1) := by decide +kernel
theorem dX9_may_54 : decode cX9_may 54 = .ok (.istore 4, 2) := by decide +kernel
theorem dX9_may_56 : decode cX9_may 56 = .ok (.aload_n 0, 1) := by decide +kernel
theorem dX9_may_57 : decode cX9_may 57 = .ok (.getfield 66, 3) := by decide +kernel
theorem dX9_may_60 : decode cX9_may 60 = .ok (.iload_n 1, 1) := by decide +kernel
theorem dX9_may_61 : decode cX9_may 61 = .ok (.baload, 1) := by decide +kernel
theorem dX9_may_62 : decode cX9_may 62 = .ok (.ifCond .ne 5, 3) := by decide +kernel
theorem dX9_may_65 : decode cX9_may 65 = .ok (.lconst 0, 1) := by decide +kernel
theorem dX9_may_66 : decode cX9_may 66 = .ok (.lreturn, 1) := by decide +kernel
theorem dX9_may_67 : decode cX9_may 67 = .ok (.iload_n 3, 1) := by decide +kernel
theorem dX9_may_68 : decode cX9_may 68 = .ok (.tableswitch 66 0 3 #[32, 41, 49, 57], 32) := by decide +kernel
theorem dX9_may_100 : decode cX9_may 100 = .ok (.aload_n 0, 1) := by decide +kernel
theorem dX9_may_101 : decode cX9_may 101 = .ok (.getfield 72, 3) := by decide +kernel
theorem dX9_may_104 : decode cX9_may 104 = .ok (.iload 4, 2) := by decide +kernel
theorem dX9_may_106 : decode cX9_may 106 = .ok (.iaload, 1) := by decide +kernel
theorem dX9_may_107 : decode cX9_may 107 = .ok (.i2l, 1) := by decide +kernel
theorem dX9_may_108 : decode cX9_may 108 = .ok (.lreturn, 1) := by decide +kernel
theorem dX9_may_109 : decode cX9_may 109 = .ok (.aload_n 0, 1) := by decide +kernel
theorem dX9_may_110 : decode cX9_may 110 = .ok (.getfield 75, 3) := by decide +kernel
theorem dX9_may_113 : decode cX9_may 113 = .ok (.iload 4, 2) := by decide +kernel
theorem dX9_may_115 : decode cX9_may 115 = .ok (.laload, 1) := by decide +kernel
theorem dX9_may_116 : decode cX9_may 116 = .ok (.lreturn, 1) := by decide +kernel
theorem dX9_may_117 : decode cX9_may 117 = .ok (.aload_n 0, 1) := by decide +kernel
theorem dX9_may_118 : decode cX9_may 118 = .ok (.getfield 78, 3) := by decide +kernel
theorem dX9_may_121 : decode cX9_may 121 = .ok (.iload 4, 2) := by decide +kernel
theorem dX9_may_123 : decode cX9_may 123 = .ok (.laload, 1) := by decide +kernel
theorem dX9_may_124 : decode cX9_may 124 = .ok (.lreturn, 1) := by decide +kernel
theorem dX9_may_125 : decode cX9_may 125 = .ok (.aload_n 0, 1) := by decide +kernel
theorem dX9_may_126 : decode cX9_may 126 = .ok (.getfield 81, 3) := by decide +kernel
theorem dX9_may_129 : decode cX9_may 129 = .ok (.iload 4, 2) := by decide +kernel
theorem dX9_may_131 : decode cX9_may 131 = .ok (.iaload, 1) := by decide +kernel
theorem dX9_may_132 : decode cX9_may 132 = .ok (.i2l, 1) := by decide +kernel
theorem dX9_may_133 : decode cX9_may 133 = .ok (.lreturn, 1) := by decide +kernel
theorem dX9_may_134 : decode cX9_may 134 = .ok (.aload_n 0, 1) := by decide +kernel
theorem dX9_may_135 : decode cX9_may 135 = .ok (.getfield 84, 3) := by decide +kernel
theorem dX9_may_138 : decode cX9_may 138 = .ok (.iload 4, 2) := by decide +kernel
theorem dX9_may_140 : decode cX9_may 140 = .ok (.iaload, 1) := by decide +kernel
theorem dX9_may_141 : decode cX9_may 141 = .ok (.i2l, 1) := by decide +kernel
theorem dX9_may_142 : decode cX9_may 142 = .ok (.lreturn, 1) := by decide +kernel
theorem dX9_cell_0 : decode cX9_cell 0 = .ok (.iload_n 1, 1) := by decide +kernel
theorem dX9_cell_1 : decode cX9_cell 1 = .ok (.i2l, 1) := by decide +kernel
theorem dX9_cell_2 : decode cX9_cell 2 = .ok (.lconst 0, 1) := by decide +kernel
theorem dX9_cell_3 : decode cX9_cell 3 = .ok (.aload_n 0, 1) := by decide +kernel
theorem dX9_cell_4 : decode cX9_cell 4 = .ok (.getfield 147, 3) := by decide +kernel
theorem dX9_cell_7 : decode cX9_cell 7 = .ok (.iconst 1, 1) := by decide +kernel
theorem dX9_cell_8 : decode cX9_cell 8 = .ok (.isub, 1) := by decide +kernel
theorem dX9_cell_9 : decode cX9_cell 9 = .ok (.i2l, 1) := by decide +kernel
theorem dX9_cell_10 : decode cX9_cell 10 = .ok (.invokestatic 132, 3) := by decide +kernel
theorem dX9_cell_13 : decode cX9_cell 13 = .ok (.ifCond .eq 17, 3) := by decide +kernel
theorem dX9_cell_16 : decode cX9_cell 16 = .ok (.iload_n 2, 1) := by decide +kernel
theorem dX9_cell_17 : decode cX9_cell 17 = .ok (.i2l, 1) := by decide +kernel
theorem dX9_cell_18 : decode cX9_cell 18 = .ok (.ldc2_w 464, 3) := by decide +kernel
theorem dX9_cell_21 : decode cX9_cell 21 = .ok (.ldc2_w 187, 3) := by decide +kernel
theorem dX9_cell_24 : decode cX9_cell 24 = .ok (.invokestatic 132, 3) := by decide +kernel
theorem dX9_cell_27 : decode cX9_cell 27 = .ok (.ifCond .ne 5, 3) := by decide +kernel
theorem dX9_cell_30 : decode cX9_cell 30 = .ok (.iconst (-1), 1) := by decide +kernel
theorem dX9_cell_31 : decode cX9_cell 31 = .ok (.ireturn, 1) := by decide +kernel
theorem dX9_cell_32 : decode cX9_cell 32 = .ok (.aload_n 0, 1) := by decide +kernel
theorem dX9_cell_33 : decode cX9_cell 33 = .ok (.getfield 66, 3) := by decide +kernel
theorem dX9_cell_36 : decode cX9_cell 36 = .ok (.iload_n 1, 1) := by decide +kernel
theorem dX9_cell_37 : decode cX9_cell 37 = .ok (.baload, 1) := by decide +kernel
theorem dX9_cell_38 : decode cX9_cell 38 = .ok (.ifCond .ne 5, 3) := by decide +kernel
theorem dX9_cell_41 : decode cX9_cell 41 = .ok (.iconst 0, 1) := by decide +kernel
theorem dX9_cell_42 : decode cX9_cell 42 = .ok (.ireturn, 1) := by decide +kernel
theorem dX9_cell_43 : decode cX9_cell 43 = .ok (.aload_n 0, 1) := by decide +kernel
theorem dX9_cell_44 : decode cX9_cell 44 = .ok (.getfield 91, 3) := by decide +kernel
theorem dX9_cell_47 : decode cX9_cell 47 = .ok (.bipush 64, 2) := by decide +kernel
theorem dX9_cell_49 : decode cX9_cell 49 = .ok (.iload_n 1, 1) := by decide +kernel
theorem dX9_cell_50 : decode cX9_cell 50 = .ok (.imul, 1) := by decide +kernel
theorem dX9_cell_51 : decode cX9_cell 51 = .ok (.iload_n 2, 1) := by decide +kernel
theorem dX9_cell_52 : decode cX9_cell 52 = .ok (.sipush 512, 3) := by decide +kernel
theorem dX9_cell_55 : decode cX9_cell 55 = .ok (.iadd, 1) := by decide +kernel
theorem dX9_cell_56 : decode cX9_cell 56 = .ok (.bipush 8, 2) := by decide +kernel
theorem dX9_cell_58 : decode cX9_cell 58 = .ok (.idiv, 1) := by decide +kernel
theorem dX9_cell_59 : decode cX9_cell 59 = .ok (.iadd, 1) := by decide +kernel
theorem dX9_cell_60 : decode cX9_cell 60 = .ok (.iaload, 1) := by decide +kernel
theorem dX9_cell_61 : decode cX9_cell 61 = .ok (.istore_n 3, 1) := by decide +kernel
theorem dX9_cell_62 : decode cX9_cell 62 = .ok (.iload_n 3, 1) := by decide +kernel
theorem dX9_cell_63 : decode cX9_cell 63 = .ok (.iconst 1, 1) := by decide +kernel
theorem dX9_cell_64 : decode cX9_cell 64 = .ok (.if_icmp .ne 7, 3) := by decide +kernel
theorem dX9_cell_67 : decode cX9_cell 67 = .ok (.iconst 2, 1) := by decide +kernel
theorem dX9_cell_68 : decode cX9_cell 68 = .ok (.goto 35, 3) := by decide +kernel
theorem dX9_cell_71 : decode cX9_cell 71 = .ok (.iload_n 3, 1) := by decide +kernel
theorem dX9_cell_72 : decode cX9_cell 72 = .ok (.ifCond .eq 7, 3) := by decide +kernel
theorem dX9_cell_75 : decode cX9_cell 75 = .ok (.iconst 3, 1) := by decide +kernel
theorem dX9_cell_76 : decode cX9_cell 76 = .ok (.goto 27, 3) := by decide +kernel
theorem dX9_cell_79 : decode cX9_cell 79 = .ok (.aload_n 0, 1) := by decide +kernel
theorem dX9_cell_80 : decode cX9_cell 80 = .ok (.getfield 88, 3) := by decide +kernel
theorem dX9_cell_83 : decode cX9_cell 83 = .ok (.sipush 512, 3) := by decide +kernel
theorem dX9_cell_86 : decode cX9_cell 86 = .ok (.iload_n 1, 1) := by decide +kernel
theorem dX9_cell_87 : decode cX9_cell 87 = .ok (.imul, 1) := by decide +kernel
theorem dX9_cell_88 : decode cX9_cell 88 = .ok (.iload_n 2, 1) := by decide +kernel
theorem dX9_cell_89 : decode cX9_cell 89 = .ok (.iadd, 1) := by decide +kernel
theorem dX9_cell_90 : decode cX9_cell 90 = .ok (.sipush 512, 3) := by decide +kernel
theorem dX9_cell_93 : decode cX9_cell 93 = .ok (.iadd, 1) := by decide +kernel
theorem dX9_cell_94 : decode cX9_cell 94 = .ok (.baload, 1) := by decide +kernel
theorem dX9_cell_95 : decode cX9_cell 95 = .ok (.ifCond .eq 7, 3) := by decide +kernel
theorem dX9_cell_98 : decode cX9_cell 98 = .ok (.iconst 1, 1) := by decide +kernel
theorem dX9_cell_99 : decode cX9_cell 99 = .ok (.goto 4, 3) := by decide +kernel
theorem dX9_cell_102 : decode cX9_cell 102 = .ok (.iconst 0, 1) := by decide +kernel
theorem dX9_cell_103 : decode cX9_cell 103 = .ok (.ireturn, 1) := by decide +kernel
-- JudgedCodeModel.may
def f_X9_may_28 (S : sh) (D : dt) : Option (Int64 × dt) := some ((-1 : Int64), D)
def f_X9_may (S : sh) (o0 : Nat) (x1 : Int32) (x2 : Int32) (x3 : Int32) (D : dt) : Option (Int64 × dt) := pq (f_X9_in x1.toInt64 (0 : Int64) (((gI D o0 0) - (1 : Int32)).toInt64)) fun r47 => if r47 = 0 then (f_X9_may_28 S D) else (pq (f_X9_in x2.toInt64 (0 : Int64) (10 : Int64)) fun r50 => if r50 = 0 then (f_X9_may_28 S D) else (pq (f_X9_in x3.toInt64 (0 : Int64) (4 : Int64)) fun r53 => if r53 = 0 then (some ((-2 : Int64), D)) else (nm (((11 : Int32) * x1) + x2) fun y55 => rq (gR D o0 27) fun o56 => ix x1 (sA S o56) <| if (gI D o56 x1.toNatClampNeg) = 0 then (some ((0 : Int64), D)) else (if x3 = 0 then (rq (gR D o0 29) fun o63 => ix y55 (sA S o63) <| some (((gI D o63 y55.toNatClampNeg).toInt64), D)) else if x3 = 1 then (rq (gR D o0 30) fun o69 => ix y55 (sA S o69) <| some ((gL D o69 y55.toNatClampNeg), D)) else if x3 = 2 then (rq (gR D o0 31) fun o75 => ix y55 (sA S o75) <| some ((gL D o75 y55.toNatClampNeg), D)) else if x3 = 3 then (rq (gR D o0 32) fun o81 => ix y55 (sA S o81) <| some (((gI D o81 y55.toNatClampNeg).toInt64), D)) else (rq (gR D o0 33) fun o86 => ix y55 (sA S o86) <| some (((gI D o86 y55.toNatClampNeg).toInt64), D))))))
-- JudgedCodeModel.cell
def f_X9_cell (S : sh) (o0 : Nat) (x1 : Int32) (x2 : Int32) (D : dt) : Option (Int32 × dt) := pq (f_X9_in x1.toInt64 (0 : Int64) (((gI D o0 0) - (1 : Int32)).toInt64)) fun r28 => if r28 = 0 then (some ((-1 : Int32), D)) else (pq (f_X9_in x2.toInt64 (-512 : Int64) (-1 : Int64)) fun r31 => if r31 = 0 then (some ((-1 : Int32), D)) else (rq (gR D o0 27) fun o33 => ix x1 (sA S o33) <| if (gI D o33 x1.toNatClampNeg) = 0 then (some ((0 : Int32), D)) else (rq (gR D o0 35) fun o39 => ix (((64 : Int32) * x1) + ((x2 + (512 : Int32)) / (8 : Int32))) (sA S o39) <| nm (gI D o39 (((64 : Int32) * x1) + ((x2 + (512 : Int32)) / (8 : Int32))).toNatClampNeg) fun y44 => if y44 = (1 : Int32) then (some ((2 : Int32), D)) else (if y44 = 0 then (rq (gR D o0 34) fun o47 => ix ((((512 : Int32) * x1) + x2) + (512 : Int32)) (sA S o47) <| if (gI D o47 ((((512 : Int32) * x1) + x2) + (512 : Int32)).toNatClampNeg) = 0 then (some ((0 : Int32), D)) else (some ((1 : Int32), D))) else (some ((3 : Int32), D))))))
theorem mk_X9_may : MkV yX9_may RX9 cX9_may 5 (some .long) 3 := ⟨⟨lk_1597, lk_1598, lk_121, (tb_in (i := 1599) (by decide +kernel) (by decide +kernel))⟩, by decide +kernel⟩
theorem mk_X9_cell : MkV yX9_cell RX9 cX9_cell 4 (some .int) 2 := ⟨⟨lk_1602, lk_1603, lk_121, (tb_in (i := 1604) (by decide +kernel) (by decide +kernel))⟩, by decide +kernel⟩
section
variable {p : Program} {l : Launch} {e : Env} {R : Room} {s : State} {m : MethodId} {args : Array Value} {below : List Frame} {meth : Method} {c : Code} {H : Heap} {locs : List Loc} {G : va_G} {cA : Nat → ClassId} {S : sh} {D : dt} {ad : Nat → Nat} {A : Nat → Prop}
set_option maxHeartbeats 4000000 in
set_option maxRecDepth 100000 in
theorem w_X9_may_28 {r : Int64} {D' : dt} (hC : Cx RX9 cX9_may 5 (some .long) p s m args meth c) (hR : 1 ≤ R.frames ∧ 25 ≤ R.locals) : ∀  (D : dt) (H : Heap) (locs : List Loc) (ls : Array Slot), Wd G cA S D ad A s H locs → lv_has ls 5 [] → f_X9_may_28 S D = some (r, D') → W p l e R s m args below meth c H locs 0 0 (MQ below (Qn (some (.long r)) True (wpost G cA S D' ad A) A) args s 0 0 A) (F0 m 28 ls []) := by
  obtain ⟨hx, hb, -⟩ := id hC
  intro D H locs ls  hw hl h
  unfold f_X9_may_28 at h
  refine lv_ldc2 (v := (-1)) hx hb hC.2.2.2.1 (hC.2.2.2.2.1 _ lk_1362) dX9_may_28 ?_
  cases h
  exact r_lret hC hw dX9_may_31
set_option maxHeartbeats 4000000 in
set_option maxRecDepth 100000 in
theorem w_X9_may_0 {r : Int64} {D' : dt} (hC : Cx RX9 cX9_may 5 (some .long) p s m args meth c) (hR : 1 ≤ R.frames ∧ 25 ≤ R.locals) : ∀ (o0 a0 : Nat) (x1 : Int32) (x2 : Int32) (x3 : Int32) (D : dt) (H : Heap) (locs : List Loc) (ls : Array Slot), Is S ad o0 a0 8 → Wd G cA S D ad A s H locs → lv_has ls 5 [(0, .ref a0), (1, .int x1), (2, .int x2), (3, .int x3)] → f_X9_may S o0 x1 x2 x3 D = some (r, D') → W p l e R s m args below meth c H locs 0 0 (MQ below (Qn (some (.long r)) True (wpost G cA S D' ad A) A) args s 0 0 A) (F0 m 0 ls []) := by
  obtain ⟨hx, hb, -⟩ := id hC
  intro o0 a0 x1 x2 x3 D H locs ls hi0 hw hl h
  unfold f_X9_may at h
  refine lv_iload_n hx hb dX9_may_0 rfl (lv_at hl 1 rfl) ?_
  refine lv_i2l (v := x1.toInt64) hx hb dX9_may_1 rfl ?_
  refine lv_lconst (v := 0) hx hb dX9_may_2 (by decide) ?_
  refine lv_aload_n hx hb dX9_may_3 rfl (lv_at hl 0 rfl) ?_
  refine r_gI hC hw kc_8 hi0 0 rfl lk_1069 dX9_may_4 ?_
  refine lv_iconst (v := 1) hx hb dX9_may_7 (by decide) ?_
  refine lv_isub hx hb dX9_may_8 ?_
  refine lv_i2l (v := ((gI D o0 0) - (1 : Int32)).toInt64) hx hb dX9_may_9 rfl ?_
  obtain ⟨r47, hq46, h⟩ := pq_i h
  refine r_cS (st' := [.int r47]) [.long x1.toInt64, .long (0 : Int64), .long (((gI D o0 0) - (1 : Int32)).toInt64)] [] hC hw (k_X9_in _ hq46) mk_X9_in lk_1240 ⟨Nat.le_trans (by decide) hR.1, Nat.le_trans (by decide) hR.2⟩ ⟨Nat.zero_le _, Nat.zero_le _⟩ rfl hl.1 rfl rfl (Nat.le_of_ble_eq_true rfl) dX9_may_10 (fun hP H locs hw => ?_)
  refine lv_if_eq (tgt := 28) hx hb dX9_may_13 (by decide) (fun c48 => ?_) (fun c48 => ?_)
  · have h := i_yes c48 h
    exact w_X9_may_28 hC hR _ _ _ _ hw (lv_sub hl [] rfl) h
  · have h := i_no c48 h
    refine lv_iload_n hx hb dX9_may_16 rfl (lv_at hl 2 rfl) ?_
    refine lv_i2l (v := x2.toInt64) hx hb dX9_may_17 rfl ?_
    refine lv_lconst (v := 0) hx hb dX9_may_18 (by decide) ?_
    refine lv_ldc2 (v := 10) hx hb hC.2.2.2.1 (hC.2.2.2.2.1 _ lk_1442) dX9_may_19 ?_
    obtain ⟨r50, hq49, h⟩ := pq_i h
    refine r_cS (st' := [.int r50]) [.long x2.toInt64, .long (0 : Int64), .long (10 : Int64)] [] hC hw (k_X9_in _ hq49) mk_X9_in lk_1240 ⟨Nat.le_trans (by decide) hR.1, Nat.le_trans (by decide) hR.2⟩ ⟨Nat.zero_le _, Nat.zero_le _⟩ rfl hl.1 rfl rfl (Nat.le_of_ble_eq_true rfl) dX9_may_22 (fun hP H locs hw => ?_)
    refine lv_if_ne (tgt := 32) hx hb dX9_may_25 (by decide) (fun c51 => ?_) (fun c51 => ?_)
    · have h := i_no c51 h
      refine lv_iload_n hx hb dX9_may_32 rfl (lv_at hl 3 rfl) ?_
      refine lv_i2l (v := x3.toInt64) hx hb dX9_may_33 rfl ?_
      refine lv_lconst (v := 0) hx hb dX9_may_34 (by decide) ?_
      refine lv_ldc2 (v := 4) hx hb hC.2.2.2.1 (hC.2.2.2.2.1 _ lk_1600) dX9_may_35 ?_
      obtain ⟨r53, hq52, h⟩ := pq_i h
      refine r_cS (st' := [.int r53]) [.long x3.toInt64, .long (0 : Int64), .long (4 : Int64)] [] hC hw (k_X9_in _ hq52) mk_X9_in lk_1240 ⟨Nat.le_trans (by decide) hR.1, Nat.le_trans (by decide) hR.2⟩ ⟨Nat.zero_le _, Nat.zero_le _⟩ rfl hl.1 rfl rfl (Nat.le_of_ble_eq_true rfl) dX9_may_38 (fun hP H locs hw => ?_)
      refine lv_if_ne (tgt := 48) hx hb dX9_may_41 (by decide) (fun c54 => ?_) (fun c54 => ?_)
      · have h := i_no c54 h
        refine lv_bipush (v := 11) hx hb dX9_may_48 (by decide) ?_
        refine lv_iload_n hx hb dX9_may_50 rfl (lv_at hl 1 rfl) ?_
        refine lv_imul hx hb dX9_may_51 ?_
        refine lv_iload_n hx hb dX9_may_52 rfl (lv_at hl 2 rfl) ?_
        refine lv_iadd hx hb dX9_may_53 ?_
        refine lv_topi (fun y55 ey55 => ?_)
        have h := nm_i h y55 ey55
        refine lv_istore (lv' := [(4, .int y55), (0, .ref a0), (1, .int x1), (2, .int x2), (3, .int x3)]) hx hb dX9_may_54 hl (by decide) rfl (fun ls hl => ?_)
        refine lv_aload_n hx hb dX9_may_56 rfl (lv_at hl 1 rfl) ?_
        obtain ⟨o56, ho59, h⟩ := rq_i h
        refine r_getR hC hw kc_8 hi0 27 rfl lk_1096 dX9_may_57 rfl ho59 (fun a57 hi58 => ?_)
        refine lv_iload_n hx hb dX9_may_60 rfl (lv_at hl 2 rfl) ?_
        obtain ⟨hn60, h⟩ := ix_i h
        refine r_zald hC hw hi58 hn60 dX9_may_61 ?_
        refine lv_if_ne (tgt := 67) hx hb dX9_may_62 (by decide) (fun c61 => ?_) (fun c61 => ?_)
        · have h := i_no c61 h
          refine lv_iload_n hx hb dX9_may_67 rfl (lv_at hl 4 rfl) ?_
          by_cases c62 : x3 = 0
          · have h := i_yes c62 h
            refine lv_tableIn (off := 32) (tgt := 100) hx hb dX9_may_68 (by rw [c62]; decide) (by rw [c62]; decide) (by rw [c62] <;> rfl) (by decide) ?_
            refine lv_aload_n hx hb dX9_may_100 rfl (lv_at hl 1 rfl) ?_
            obtain ⟨o63, ho66, h⟩ := rq_i h
            refine r_getR hC hw kc_8 hi0 29 rfl lk_1098 dX9_may_101 rfl ho66 (fun a64 hi65 => ?_)
            refine lv_iload hx hb dX9_may_104 (lv_at hl 0 rfl) ?_
            obtain ⟨hn67, h⟩ := ix_i h
            refine r_iald hC hw hi65 hn67 dX9_may_106 ?_
            refine lv_i2l (v := (gI D o63 y55.toNatClampNeg).toInt64) hx hb dX9_may_107 rfl ?_
            cases h
            exact r_lret hC hw dX9_may_108
          have h := i_no c62 h
          by_cases c68 : x3 = 1
          · have h := i_yes c68 h
            refine lv_tableIn (off := 41) (tgt := 109) hx hb dX9_may_68 (by rw [c68]; decide) (by rw [c68]; decide) (by rw [c68] <;> rfl) (by decide) ?_
            refine lv_aload_n hx hb dX9_may_109 rfl (lv_at hl 1 rfl) ?_
            obtain ⟨o69, ho72, h⟩ := rq_i h
            refine r_getR hC hw kc_8 hi0 30 rfl lk_1099 dX9_may_110 rfl ho72 (fun a70 hi71 => ?_)
            refine lv_iload hx hb dX9_may_113 (lv_at hl 0 rfl) ?_
            obtain ⟨hn73, h⟩ := ix_i h
            refine r_lald hC hw hi71 hn73 dX9_may_115 ?_
            cases h
            exact r_lret hC hw dX9_may_116
          have h := i_no c68 h
          by_cases c74 : x3 = 2
          · have h := i_yes c74 h
            refine lv_tableIn (off := 49) (tgt := 117) hx hb dX9_may_68 (by rw [c74]; decide) (by rw [c74]; decide) (by rw [c74] <;> rfl) (by decide) ?_
            refine lv_aload_n hx hb dX9_may_117 rfl (lv_at hl 1 rfl) ?_
            obtain ⟨o75, ho78, h⟩ := rq_i h
            refine r_getR hC hw kc_8 hi0 31 rfl lk_1100 dX9_may_118 rfl ho78 (fun a76 hi77 => ?_)
            refine lv_iload hx hb dX9_may_121 (lv_at hl 0 rfl) ?_
            obtain ⟨hn79, h⟩ := ix_i h
            refine r_lald hC hw hi77 hn79 dX9_may_123 ?_
            cases h
            exact r_lret hC hw dX9_may_124
          have h := i_no c74 h
          by_cases c80 : x3 = 3
          · have h := i_yes c80 h
            refine lv_tableIn (off := 57) (tgt := 125) hx hb dX9_may_68 (by rw [c80]; decide) (by rw [c80]; decide) (by rw [c80] <;> rfl) (by decide) ?_
            refine lv_aload_n hx hb dX9_may_125 rfl (lv_at hl 1 rfl) ?_
            obtain ⟨o81, ho84, h⟩ := rq_i h
            refine r_getR hC hw kc_8 hi0 32 rfl lk_1101 dX9_may_126 rfl ho84 (fun a82 hi83 => ?_)
            refine lv_iload hx hb dX9_may_129 (lv_at hl 0 rfl) ?_
            obtain ⟨hn85, h⟩ := ix_i h
            refine r_iald hC hw hi83 hn85 dX9_may_131 ?_
            refine lv_i2l (v := (gI D o81 y55.toNatClampNeg).toInt64) hx hb dX9_may_132 rfl ?_
            cases h
            exact r_lret hC hw dX9_may_133
          have h := i_no c80 h
          refine lv_tableOut (tgt := 134) hx hb dX9_may_68 (by have nc62 := lv_neT c62 (a := 0) rfl; have nc68 := lv_neT c68 (a := 1) rfl; have nc74 := lv_neT c74 (a := 2) rfl; have nc80 := lv_neT c80 (a := 3) rfl; omega) (by decide) ?_
          refine lv_aload_n hx hb dX9_may_134 rfl (lv_at hl 1 rfl) ?_
          obtain ⟨o86, ho89, h⟩ := rq_i h
          refine r_getR hC hw kc_8 hi0 33 rfl lk_1102 dX9_may_135 rfl ho89 (fun a87 hi88 => ?_)
          refine lv_iload hx hb dX9_may_138 (lv_at hl 0 rfl) ?_
          obtain ⟨hn90, h⟩ := ix_i h
          refine r_iald hC hw hi88 hn90 dX9_may_140 ?_
          refine lv_i2l (v := (gI D o86 y55.toNatClampNeg).toInt64) hx hb dX9_may_141 rfl ?_
          cases h
          exact r_lret hC hw dX9_may_142
        · have h := i_yes c61 h
          refine lv_lconst (v := 0) hx hb dX9_may_65 (by decide) ?_
          cases h
          exact r_lret hC hw dX9_may_66
      · have h := i_yes c54 h
        refine lv_ldc2 (v := (-2)) hx hb hC.2.2.2.1 (hC.2.2.2.2.1 _ lk_1433) dX9_may_44 ?_
        cases h
        exact r_lret hC hw dX9_may_47
    · have h := i_yes c51 h
      exact w_X9_may_28 hC hR _ _ _ _ hw (lv_sub hl [] rfl) h
set_option maxHeartbeats 4000000 in
set_option maxRecDepth 100000 in
theorem k_X9_may {l : Launch} {G : va_G} {cA : Nat → ClassId} {S : sh} {D D' : dt} {ad : Nat → Nat} (sz : Nat) {o0 a0 : Nat} {x1 : Int32} {x2 : Int32} {x3 : Int32} {r : Int64} (hi0 : Is S ad o0 a0 8) (h : f_X9_may S o0 x1 x2 x3 D = some (r, D')) : Co l yX9_may (Cond.code yX9_may cX9_may 5 (some .long) :: tb0) 1 25 [.ref a0, .int x1, .int x2, .int x3] G cA S D ad sz (some (.long r)) True D' := by
  refine Met.ofW (cc := cX9_may) (maxL := 5) (ret := (some .long)) (by decide) rfl ?_
  intro p e s m args below meth c s₁ B hml hv
  obtain ⟨rfl, hsz, hP, hK, hD0, hT, hX⟩ := hv
  subst hsz
  have hts := atoms_spec (ws := Cond.code yX9_may cX9_may 5 (some .long) :: tb0) B.pre
  have hC : Cx RX9 cX9_may 5 (some .long) p s m _ meth c := ⟨B.exec, B.bytes, hml, findClass_of_methodNamed B.named, fun w q => hts w (List.mem_cons_of_mem _ q), B.returns, B.notSynchronized⟩
  have hw := Wd.entry hP hK hD0 hT hX
  have hl := lv_entry ([.ref a0, .int x1, .int x2, .int x3]) (n := 5) (Nat.le_of_ble_eq_true rfl)
  rw [lg_entry_eq]
  exact w_X9_may_0 hC ⟨Nat.le_refl _, Nat.le_refl _⟩ o0 a0 x1 x2 x3 D _ _ _ hi0 hw hl h
set_option maxHeartbeats 4000000 in
set_option maxRecDepth 100000 in
theorem w_X9_cell_0 {r : Int32} {D' : dt} (hC : Cx RX9 cX9_cell 4 (some .int) p s m args meth c) (hR : 1 ≤ R.frames ∧ 25 ≤ R.locals) : ∀ (o0 a0 : Nat) (x1 : Int32) (x2 : Int32) (D : dt) (H : Heap) (locs : List Loc) (ls : Array Slot), Is S ad o0 a0 8 → Wd G cA S D ad A s H locs → lv_has ls 4 [(0, .ref a0), (1, .int x1), (2, .int x2)] → f_X9_cell S o0 x1 x2 D = some (r, D') → W p l e R s m args below meth c H locs 0 0 (MQ below (Qn (some (.int r)) True (wpost G cA S D' ad A) A) args s 0 0 A) (F0 m 0 ls []) := by
  obtain ⟨hx, hb, -⟩ := id hC
  intro o0 a0 x1 x2 D H locs ls hi0 hw hl h
  unfold f_X9_cell at h
  refine lv_iload_n hx hb dX9_cell_0 rfl (lv_at hl 1 rfl) ?_
  refine lv_i2l (v := x1.toInt64) hx hb dX9_cell_1 rfl ?_
  refine lv_lconst (v := 0) hx hb dX9_cell_2 (by decide) ?_
  refine lv_aload_n hx hb dX9_cell_3 rfl (lv_at hl 0 rfl) ?_
  refine r_gI hC hw kc_8 hi0 0 rfl lk_1069 dX9_cell_4 ?_
  refine lv_iconst (v := 1) hx hb dX9_cell_7 (by decide) ?_
  refine lv_isub hx hb dX9_cell_8 ?_
  refine lv_i2l (v := ((gI D o0 0) - (1 : Int32)).toInt64) hx hb dX9_cell_9 rfl ?_
  obtain ⟨r28, hq27, h⟩ := pq_i h
  refine r_cS (st' := [.int r28]) [.long x1.toInt64, .long (0 : Int64), .long (((gI D o0 0) - (1 : Int32)).toInt64)] [] hC hw (k_X9_in _ hq27) mk_X9_in lk_1240 ⟨Nat.le_trans (by decide) hR.1, Nat.le_trans (by decide) hR.2⟩ ⟨Nat.zero_le _, Nat.zero_le _⟩ rfl hl.1 rfl rfl (Nat.le_of_ble_eq_true rfl) dX9_cell_10 (fun hP H locs hw => ?_)
  refine lv_if_eq (tgt := 30) hx hb dX9_cell_13 (by decide) (fun c29 => ?_) (fun c29 => ?_)
  · have h := i_yes c29 h
    refine lv_iconst (v := (-1)) hx hb dX9_cell_30 (by decide) ?_
    cases h
    exact r_iret hC hw dX9_cell_31
  · have h := i_no c29 h
    refine lv_iload_n hx hb dX9_cell_16 rfl (lv_at hl 2 rfl) ?_
    refine lv_i2l (v := x2.toInt64) hx hb dX9_cell_17 rfl ?_
    refine lv_ldc2 (v := (-512)) hx hb hC.2.2.2.1 (hC.2.2.2.2.1 _ lk_1562) dX9_cell_18 ?_
    refine lv_ldc2 (v := (-1)) hx hb hC.2.2.2.1 (hC.2.2.2.2.1 _ lk_1362) dX9_cell_21 ?_
    obtain ⟨r31, hq30, h⟩ := pq_i h
    refine r_cS (st' := [.int r31]) [.long x2.toInt64, .long (-512 : Int64), .long (-1 : Int64)] [] hC hw (k_X9_in _ hq30) mk_X9_in lk_1240 ⟨Nat.le_trans (by decide) hR.1, Nat.le_trans (by decide) hR.2⟩ ⟨Nat.zero_le _, Nat.zero_le _⟩ rfl hl.1 rfl rfl (Nat.le_of_ble_eq_true rfl) dX9_cell_24 (fun hP H locs hw => ?_)
    refine lv_if_ne (tgt := 32) hx hb dX9_cell_27 (by decide) (fun c32 => ?_) (fun c32 => ?_)
    · have h := i_no c32 h
      refine lv_aload_n hx hb dX9_cell_32 rfl (lv_at hl 0 rfl) ?_
      obtain ⟨o33, ho36, h⟩ := rq_i h
      refine r_getR hC hw kc_8 hi0 27 rfl lk_1096 dX9_cell_33 rfl ho36 (fun a34 hi35 => ?_)
      refine lv_iload_n hx hb dX9_cell_36 rfl (lv_at hl 1 rfl) ?_
      obtain ⟨hn37, h⟩ := ix_i h
      refine r_zald hC hw hi35 hn37 dX9_cell_37 ?_
      refine lv_if_ne (tgt := 43) hx hb dX9_cell_38 (by decide) (fun c38 => ?_) (fun c38 => ?_)
      · have h := i_no c38 h
        refine lv_aload_n hx hb dX9_cell_43 rfl (lv_at hl 0 rfl) ?_
        obtain ⟨o39, ho42, h⟩ := rq_i h
        refine r_getR hC hw kc_8 hi0 35 rfl lk_1104 dX9_cell_44 rfl ho42 (fun a40 hi41 => ?_)
        refine lv_bipush (v := 64) hx hb dX9_cell_47 (by decide) ?_
        refine lv_iload_n hx hb dX9_cell_49 rfl (lv_at hl 1 rfl) ?_
        refine lv_imul hx hb dX9_cell_50 ?_
        refine lv_iload_n hx hb dX9_cell_51 rfl (lv_at hl 2 rfl) ?_
        refine lv_sipush (v := 512) hx hb dX9_cell_52 (by decide) ?_
        refine lv_iadd hx hb dX9_cell_55 ?_
        refine lv_bipush (v := 8) hx hb dX9_cell_56 (by decide) ?_
        refine lv_idiv hx hb dX9_cell_58 (by decide) ?_
        refine lv_iadd hx hb dX9_cell_59 ?_
        obtain ⟨hn43, h⟩ := ix_i h
        refine r_iald hC hw hi41 hn43 dX9_cell_60 ?_
        refine lv_topi (fun y44 ey44 => ?_)
        have h := nm_i h y44 ey44
        refine lv_istore_n (lv' := [(3, .int y44), (0, .ref a0), (1, .int x1), (2, .int x2)]) hx hb dX9_cell_61 rfl hl (by decide) rfl (fun ls hl => ?_)
        refine lv_iload_n hx hb dX9_cell_62 rfl (lv_at hl 0 rfl) ?_
        refine lv_iconst (v := 1) hx hb dX9_cell_63 (by decide) ?_
        refine lv_icmp_ne (tgt := 71) hx hb dX9_cell_64 (by decide) (fun c45 => ?_) (fun c45 => ?_)
        · have h := i_no c45 h
          refine lv_iload_n hx hb dX9_cell_71 rfl (lv_at hl 0 rfl) ?_
          refine lv_if_eq (tgt := 79) hx hb dX9_cell_72 (by decide) (fun c46 => ?_) (fun c46 => ?_)
          · have h := i_yes c46 h
            refine lv_aload_n hx hb dX9_cell_79 rfl (lv_at hl 1 rfl) ?_
            obtain ⟨o47, ho50, h⟩ := rq_i h
            refine r_getR hC hw kc_8 hi0 34 rfl lk_1103 dX9_cell_80 rfl ho50 (fun a48 hi49 => ?_)
            refine lv_sipush (v := 512) hx hb dX9_cell_83 (by decide) ?_
            refine lv_iload_n hx hb dX9_cell_86 rfl (lv_at hl 2 rfl) ?_
            refine lv_imul hx hb dX9_cell_87 ?_
            refine lv_iload_n hx hb dX9_cell_88 rfl (lv_at hl 3 rfl) ?_
            refine lv_iadd hx hb dX9_cell_89 ?_
            refine lv_sipush (v := 512) hx hb dX9_cell_90 (by decide) ?_
            refine lv_iadd hx hb dX9_cell_93 ?_
            obtain ⟨hn51, h⟩ := ix_i h
            refine r_zald hC hw hi49 hn51 dX9_cell_94 ?_
            refine lv_if_eq (tgt := 102) hx hb dX9_cell_95 (by decide) (fun c52 => ?_) (fun c52 => ?_)
            · have h := i_yes c52 h
              refine lv_iconst (v := 0) hx hb dX9_cell_102 (by decide) ?_
              cases h
              exact r_iret hC hw dX9_cell_103
            · have h := i_no c52 h
              refine lv_iconst (v := 1) hx hb dX9_cell_98 (by decide) ?_
              refine lv_goto (tgt := 103) hx hb dX9_cell_99 (by decide) ?_
              cases h
              exact r_iret hC hw dX9_cell_103
          · have h := i_no c46 h
            refine lv_iconst (v := 3) hx hb dX9_cell_75 (by decide) ?_
            refine lv_goto (tgt := 103) hx hb dX9_cell_76 (by decide) ?_
            cases h
            exact r_iret hC hw dX9_cell_103
        · have h := i_yes c45 h
          refine lv_iconst (v := 2) hx hb dX9_cell_67 (by decide) ?_
          refine lv_goto (tgt := 103) hx hb dX9_cell_68 (by decide) ?_
          cases h
          exact r_iret hC hw dX9_cell_103
      · have h := i_yes c38 h
        refine lv_iconst (v := 0) hx hb dX9_cell_41 (by decide) ?_
        cases h
        exact r_iret hC hw dX9_cell_42
    · have h := i_yes c32 h
      refine lv_iconst (v := (-1)) hx hb dX9_cell_30 (by decide) ?_
      cases h
      exact r_iret hC hw dX9_cell_31
set_option maxHeartbeats 4000000 in
set_option maxRecDepth 100000 in
theorem k_X9_cell {l : Launch} {G : va_G} {cA : Nat → ClassId} {S : sh} {D D' : dt} {ad : Nat → Nat} (sz : Nat) {o0 a0 : Nat} {x1 : Int32} {x2 : Int32} {r : Int32} (hi0 : Is S ad o0 a0 8) (h : f_X9_cell S o0 x1 x2 D = some (r, D')) : Co l yX9_cell (Cond.code yX9_cell cX9_cell 4 (some .int) :: tb0) 1 25 [.ref a0, .int x1, .int x2] G cA S D ad sz (some (.int r)) True D' := by
  refine Met.ofW (cc := cX9_cell) (maxL := 4) (ret := (some .int)) (by decide) rfl ?_
  intro p e s m args below meth c s₁ B hml hv
  obtain ⟨rfl, hsz, hP, hK, hD0, hT, hX⟩ := hv
  subst hsz
  have hts := atoms_spec (ws := Cond.code yX9_cell cX9_cell 4 (some .int) :: tb0) B.pre
  have hC : Cx RX9 cX9_cell 4 (some .int) p s m _ meth c := ⟨B.exec, B.bytes, hml, findClass_of_methodNamed B.named, fun w q => hts w (List.mem_cons_of_mem _ q), B.returns, B.notSynchronized⟩
  have hw := Wd.entry hP hK hD0 hT hX
  have hl := lv_entry ([.ref a0, .int x1, .int x2]) (n := 4) (Nat.le_of_ble_eq_true rfl)
  rw [lg_entry_eq]
  exact w_X9_cell_0 hC ⟨Nat.le_refl _, Nat.le_refl _⟩ o0 a0 x1 x2 D _ _ _ hi0 hw hl h
end
