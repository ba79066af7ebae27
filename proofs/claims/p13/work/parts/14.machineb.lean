theorem dX1_doSlot_0 : decode cX1_doSlot 0 = .ok (.aload_n 0, 1) := by decide +kernel
theorem dX1_doSlot_1 : decode cX1_doSlot 1 = .ok (.getfield 18, 3) := by decide +kernel
theorem dX1_doSlot_4 : decode cX1_doSlot 4 = .ok (.iload_n 1, 1) := by decide +kernel
theorem dX1_doSlot_5 : decode cX1_doSlot 5 = .ok (.invokevirtual 74, 3) := by decide +kernel
theorem dX1_doSlot_8 : decode cX1_doSlot 8 = .ok (.ifCond .eq 5, 3) := by decide +kernel
theorem dX1_doSlot_11 : decode cX1_doSlot 11 = .ok (.iconst 3, 1) := by decide +kernel
theorem dX1_doSlot_12 : decode cX1_doSlot 12 = .ok (.ireturn, 1) := by decide +kernel
theorem dX1_doSlot_13 : decode cX1_doSlot 13 = .ok (.aload_n 0, 1) := by decide +kernel
theorem dX1_doSlot_14 : decode cX1_doSlot 14 = .ok (.getfield 18, 3) := by decide +kernel
theorem dX1_doSlot_17 : decode cX1_doSlot 17 = .ok (.getfield 77, 3) := by decide +kernel
theorem dX1_doSlot_20 : decode cX1_doSlot 20 = .ok (.iload_n 1, 1) := by decide +kernel
theorem dX1_doSlot_21 : decode cX1_doSlot 21 = .ok (.iaload, 1) := by decide +kernel
theorem dX1_doSlot_22 : decode cX1_doSlot 22 = .ok (.bipush 7, 2) := by decide +kernel
theorem dX1_doSlot_24 : decode cX1_doSlot 24 = .ok (.iand, 1) := by decide +kernel
theorem dX1_doSlot_25 : decode cX1_doSlot 25 = .ok (.tableswitch 120 0 7 #[47, 53, 59, 75, 114, 120, 120, 114], 47) := by decide +kernel
theorem dX1_doSlot_72 : decode cX1_doSlot 72 = .ok (.aload_n 0, 1) := by decide +kernel
theorem dX1_doSlot_73 : decode cX1_doSlot 73 = .ok (.iload_n 1, 1) := by decide +kernel
theorem dX1_doSlot_74 : decode cX1_doSlot 74 = .ok (.invokevirtual 81, 3) := by decide +kernel
theorem dX1_doSlot_77 : decode cX1_doSlot 77 = .ok (.ireturn, 1) := by decide +kernel
theorem dX1_doSlot_78 : decode cX1_doSlot 78 = .ok (.aload_n 0, 1) := by decide +kernel
theorem dX1_doSlot_79 : decode cX1_doSlot 79 = .ok (.iload_n 1, 1) := by decide +kernel
theorem dX1_doSlot_80 : decode cX1_doSlot 80 = .ok (.invokevirtual 84, 3) := by decide +kernel
theorem dX1_doSlot_83 : decode cX1_doSlot 83 = .ok (.ireturn, 1) := by decide +kernel
theorem dX1_doSlot_84 : decode cX1_doSlot 84 = .ok (.aload_n 0, 1) := by decide +kernel
theorem dX1_doSlot_85 : decode cX1_doSlot 85 = .ok (.iload_n 1, 1) := by decide +kernel
theorem dX1_doSlot_86 : decode cX1_doSlot 86 = .ok (.aload_n 0, 1) := by decide +kernel
theorem dX1_doSlot_87 : decode cX1_doSlot 87 = .ok (.getfield 18, 3) := by decide +kernel
theorem dX1_doSlot_90 : decode cX1_doSlot 90 = .ok (.getfield 87, 3) := by decide +kernel
theorem dX1_doSlot_93 : decode cX1_doSlot 93 = .ok (.iload_n 1, 1) := by decide +kernel
theorem dX1_doSlot_94 : decode cX1_doSlot 94 = .ok (.iaload, 1) := by decide +kernel
theorem dX1_doSlot_95 : decode cX1_doSlot 95 = .ok (.i2l, 1) := by decide +kernel
theorem dX1_doSlot_96 : decode cX1_doSlot 96 = .ok (.invokevirtual 90, 3) := by decide +kernel
theorem dX1_doSlot_99 : decode cX1_doSlot 99 = .ok (.ireturn, 1) := by decide +kernel
theorem dX1_doSlot_100 : decode cX1_doSlot 100 = .ok (.aload_n 0, 1) := by decide +kernel
theorem dX1_doSlot_101 : decode cX1_doSlot 101 = .ok (.getfield 18, 3) := by decide +kernel
theorem dX1_doSlot_104 : decode cX1_doSlot 104 = .ok (.iload_n 1, 1) := by decide +kernel
theorem dX1_doSlot_105 : decode cX1_doSlot 105 = .ok (.invokevirtual 94, 3) := by decide +kernel
theorem dX1_doSlot_108 : decode cX1_doSlot 108 = .ok (.ifCond .eq 25, 3) := by decide +kernel
theorem dX1_doSlot_111 : decode cX1_doSlot 111 = .ok (.aload_n 0, 1) := by decide +kernel
theorem dX1_doSlot_112 : decode cX1_doSlot 112 = .ok (.iload_n 1, 1) := by decide +kernel
theorem dX1_doSlot_113 : decode cX1_doSlot 113 = .ok (.aload_n 0, 1) := by decide +kernel
theorem dX1_doSlot_114 : decode cX1_doSlot 114 = .ok (.getfield 9, 3) := by decide +kernel
theorem dX1_doSlot_117 : decode cX1_doSlot 117 = .ok (.aload_n 0, 1) := by decide +kernel
theorem dX1_doSlot_118 : decode cX1_doSlot 118 = .ok (.getfield 18, 3) := by decide +kernel
theorem dX1_doSlot_121 : decode cX1_doSlot 121 = .ok (.getfield 97, 3) := by decide +kernel
theorem dX1_doSlot_124 : decode cX1_doSlot 124 = .ok (.iload_n 1, 1) := by decide +kernel
theorem dX1_doSlot_125 : decode cX1_doSlot 125 = .ok (.iaload, 1) := by decide +kernel
theorem dX1_doSlot_126 : decode cX1_doSlot 126 = .ok (.laload, 1) := by decide +kernel
theorem dX1_doSlot_127 : decode cX1_doSlot 127 = .ok (.invokevirtual 90, 3) := by decide +kernel
theorem dX1_doSlot_130 : decode cX1_doSlot 130 = .ok (.goto 8, 3) := by decide +kernel
theorem dX1_doSlot_133 : decode cX1_doSlot 133 = .ok (.aload_n 0, 1) := by decide +kernel
theorem dX1_doSlot_134 : decode cX1_doSlot 134 = .ok (.iload_n 1, 1) := by decide +kernel
theorem dX1_doSlot_135 : decode cX1_doSlot 135 = .ok (.invokevirtual 100, 3) := by decide +kernel
theorem dX1_doSlot_138 : decode cX1_doSlot 138 = .ok (.ireturn, 1) := by decide +kernel
theorem dX1_doSlot_139 : decode cX1_doSlot 139 = .ok (.aload_n 0, 1) := by decide +kernel
theorem dX1_doSlot_140 : decode cX1_doSlot 140 = .ok (.iload_n 1, 1) := by decide +kernel
theorem dX1_doSlot_141 : decode cX1_doSlot 141 = .ok (.invokevirtual 103, 3) := by decide +kernel
theorem dX1_doSlot_144 : decode cX1_doSlot 144 = .ok (.ireturn, 1) := by decide +kernel
theorem dX1_doSlot_145 : decode cX1_doSlot 145 = .ok (.aload_n 0, 1) := by decide +kernel
theorem dX1_doSlot_146 : decode cX1_doSlot 146 = .ok (.getfield 18, 3) := by decide +kernel
theorem dX1_doSlot_149 : decode cX1_doSlot 149 = .ok (.iload_n 1, 1) := by decide +kernel
theorem dX1_doSlot_150 : decode cX1_doSlot 150 = .ok (.invokevirtual 106, 3) := by decide +kernel
theorem dX1_doSlot_153 : decode cX1_doSlot 153 = .ok (.bipush 8, 2) := by decide +kernel
theorem dX1_doSlot_155 : decode cX1_doSlot 155 = .ok (.if_icmp .ne 20, 3) := by decide +kernel
theorem dX1_doSlot_158 : decode cX1_doSlot 158 = .ok (.aload_n 0, 1) := by decide +kernel
theorem dX1_doSlot_159 : decode cX1_doSlot 159 = .ok (.iload_n 1, 1) := by decide +kernel
theorem dX1_doSlot_160 : decode cX1_doSlot 160 = .ok (.aload_n 0, 1) := by decide +kernel
theorem dX1_doSlot_161 : decode cX1_doSlot 161 = .ok (.getfield 18, 3) := by decide +kernel
theorem dX1_doSlot_164 : decode cX1_doSlot 164 = .ok (.getfield 87, 3) := by decide +kernel
theorem dX1_doSlot_167 : decode cX1_doSlot 167 = .ok (.iload_n 1, 1) := by decide +kernel
theorem dX1_doSlot_168 : decode cX1_doSlot 168 = .ok (.iaload, 1) := by decide +kernel
theorem dX1_doSlot_169 : decode cX1_doSlot 169 = .ok (.invokevirtual 109, 3) := by decide +kernel
theorem dX1_doSlot_172 : decode cX1_doSlot 172 = .ok (.goto 8, 3) := by decide +kernel
theorem dX1_doSlot_175 : decode cX1_doSlot 175 = .ok (.aload_n 0, 1) := by decide +kernel
theorem dX1_doSlot_176 : decode cX1_doSlot 176 = .ok (.iload_n 1, 1) := by decide +kernel
theorem dX1_doSlot_177 : decode cX1_doSlot 177 = .ok (.invokevirtual 112, 3) := by decide +kernel
theorem dX1_doSlot_180 : decode cX1_doSlot 180 = .ok (.ireturn, 1) := by decide +kernel
theorem dX1_advance_0 : decode cX1_advance 0 = .ok (.aload_n 0, 1) := by decide +kernel
theorem dX1_advance_1 : decode cX1_advance 1 = .ok (.getfield 18, 3) := by decide +kernel
theorem dX1_advance_4 : decode cX1_advance 4 = .ok (.aload_n 0, 1) := by decide +kernel
theorem dX1_advance_5 : decode cX1_advance 5 = .ok (.getfield 49, 3) := by decide +kernel
theorem dX1_advance_8 : decode cX1_advance 8 = .ok (.invokevirtual 64, 3) := by decide +kernel
theorem dX1_advance_11 : decode cX1_advance 11 = .ok (.ifCond .eq 14, 3) := by decide +kernel
theorem dX1_advance_14 : decode cX1_advance 14 = .ok (.aload_n 0, 1) := by decide +kernel
theorem dX1_advance_15 : decode cX1_advance 15 = .ok (.aload_n 0, 1) := by decide +kernel
theorem dX1_advance_16 : decode cX1_advance 16 = .ok (.getfield 49, 3) := by decide +kernel
theorem dX1_advance_19 : decode cX1_advance 19 = .ok (.invokevirtual 70, 3) := by decide +kernel
theorem dX1_advance_22 : decode cX1_advance 22 = .ok (.goto 4, 3) := by decide +kernel
theorem dX1_advance_25 : decode cX1_advance 25 = .ok (.iconst 5, 1) := by decide +kernel
theorem dX1_advance_26 : decode cX1_advance 26 = .ok (.istore_n 1, 1) := by decide +kernel
theorem dX1_advance_27 : decode cX1_advance 27 = .ok (.iload_n 1, 1) := by decide +kernel
theorem dX1_advance_28 : decode cX1_advance 28 = .ok (.iconst 1, 1) := by decide +kernel
theorem dX1_advance_29 : decode cX1_advance 29 = .ok (.if_icmp .eq 8, 3) := by decide +kernel
theorem dX1_advance_32 : decode cX1_advance 32 = .ok (.iload_n 1, 1) := by decide +kernel
theorem dX1_advance_33 : decode cX1_advance 33 = .ok (.iconst 2, 1) := by decide +kernel
theorem dX1_advance_34 : decode cX1_advance 34 = .ok (.if_icmp .ne 13, 3) := by decide +kernel
theorem dX1_advance_37 : decode cX1_advance 37 = .ok (.aload_n 0, 1) := by decide +kernel
theorem dX1_advance_38 : decode cX1_advance 38 = .ok (.dup, 1) := by decide +kernel
theorem dX1_advance_39 : decode cX1_advance 39 = .ok (.getfield 52, 3) := by decide +kernel
theorem dX1_advance_42 : decode cX1_advance 42 = .ok (.iconst 1, 1) := by decide +kernel
theorem dX1_advance_43 : decode cX1_advance 43 = .ok (.iadd, 1) := by decide +kernel
theorem dX1_advance_44 : decode cX1_advance 44 = .ok (.putfield 52, 3) := by decide +kernel
theorem dX1_advance_47 : decode cX1_advance 47 = .ok (.aload_n 0, 1) := by decide +kernel
theorem dX1_advance_48 : decode cX1_advance 48 = .ok (.iload_n 1, 1) := by decide +kernel
theorem dX1_advance_49 : decode cX1_advance 49 = .ok (.putfield 55, 3) := by decide +kernel
theorem dX1_advance_52 : decode cX1_advance 52 = .ok (.iload_n 1, 1) := by decide +kernel
theorem dX1_advance_53 : decode cX1_advance 53 = .ok (.ireturn, 1) := by decide +kernel
theorem dX1_keptPut_0 : decode cX1_keptPut 0 = .ok (.aload_n 0, 1) := by decide +kernel
theorem dX1_keptPut_1 : decode cX1_keptPut 1 = .ok (.getfield 45, 3) := by decide +kernel
theorem dX1_keptPut_4 : decode cX1_keptPut 4 = .ok (.bipush 32, 2) := by decide +kernel
theorem dX1_keptPut_6 : decode cX1_keptPut 6 = .ok (.invokestatic 58, 3) := by decide +kernel
theorem dX1_keptPut_9 : decode cX1_keptPut 9 = .ok (.istore_n 2, 1) := by decide +kernel
theorem dX1_keptPut_10 : decode cX1_keptPut 10 = .ok (.iload_n 1, 1) := by decide +kernel
theorem dX1_keptPut_11 : decode cX1_keptPut 11 = .ok (.ifCond .lt 8, 3) := by decide +kernel
theorem dX1_keptPut_14 : decode cX1_keptPut 14 = .ok (.iload_n 1, 1) := by decide +kernel
theorem dX1_keptPut_15 : decode cX1_keptPut 15 = .ok (.iload_n 2, 1) := by decide +kernel
theorem dX1_keptPut_16 : decode cX1_keptPut 16 = .ok (.if_icmp .lt 7, 3) := by decide +kernel
theorem dX1_keptPut_19 : decode cX1_keptPut 19 = .ok (.lconst 0, 1) := by decide +kernel
theorem dX1_keptPut_20 : decode cX1_keptPut 20 = .ok (.goto 19, 3) := by decide +kernel
theorem dX1_keptPut_23 : decode cX1_keptPut 23 = .ok (.aload_n 0, 1) := by decide +kernel
theorem dX1_keptPut_24 : decode cX1_keptPut 24 = .ok (.getfield 15, 3) := by decide +kernel
theorem dX1_keptPut_27 : decode cX1_keptPut 27 = .ok (.aload_n 0, 1) := by decide +kernel
theorem dX1_keptPut_28 : decode cX1_keptPut 28 = .ok (.getfield 45, 3) := by decide +kernel
theorem dX1_keptPut_31 : decode cX1_keptPut 31 = .ok (.iload_n 2, 1) := by decide +kernel
theorem dX1_keptPut_32 : decode cX1_keptPut 32 = .ok (.isub, 1) := by decide +kernel
theorem dX1_keptPut_33 : decode cX1_keptPut 33 = .ok (.iload_n 1, 1) := by decide +kernel
theorem dX1_keptPut_34 : decode cX1_keptPut 34 = .ok (.iadd, 1) := by decide +kernel
theorem dX1_keptPut_35 : decode cX1_keptPut 35 = .ok (.bipush 32, 2) := by decide +kernel
theorem dX1_keptPut_37 : decode cX1_keptPut 37 = .ok (.irem, 1) := by decide +kernel
theorem dX1_keptPut_38 : decode cX1_keptPut 38 = .ok (.laload, 1) := by decide +kernel
theorem dX1_keptPut_39 : decode cX1_keptPut 39 = .ok (.lreturn, 1) := by decide +kernel
-- JudgedCode$Machine.doSlot
def f_X1_doSlot_145 (S : sh) (o0 : Nat) (x1 : Int32) (D : dt) : Option (Int32 × dt) := rq (gR D o0 0) fun o95 => pq (f_X4_code S D o95 x1) fun r100 => if r100 = (8 : Int32) then (rq (gR D o0 0) fun o105 => rq (gR D o105 4) fun o109 => ix x1 (sA S o109) <| cq (f_X1_doCall S o0 x1 (gI D o109 x1.toNatClampNeg) D) fun r115 D116 => some (r115, D116)) else (cq (f_X1_doJump S o0 x1 D) fun r103 D104 => some (r103, D104))
def f_X1_doSlot_139 (S : sh) (o0 : Nat) (x1 : Int32) (D : dt) : Option (Int32 × dt) := cq (f_X1_doArithmetic S o0 x1 D) fun r118 D119 => some (r118, D119)
def f_X1_doSlot (S : sh) (o0 : Nat) (x1 : Int32) (D : dt) : Option (Int32 × dt) := rq (gR D o0 0) fun o120 => pq (f_X4_isBad S D o120 x1) fun r125 => if r125 = 0 then (rq (gR D o0 0) fun o127 => rq (gR D o127 0) fun o131 => ix x1 (sA S o131) <| if ((gI D o131 x1.toNatClampNeg) &&& (7 : Int32)) = 0 then (cq (f_X1_doPair S o0 x1 D) fun r138 D139 => some (r138, D139)) else if ((gI D o131 x1.toNatClampNeg) &&& (7 : Int32)) = 1 then (cq (f_X1_doLoad S o0 x1 D) fun r142 D143 => some (r142, D143)) else if ((gI D o131 x1.toNatClampNeg) &&& (7 : Int32)) = 2 then (rq (gR D o0 0) fun o145 => rq (gR D o145 4) fun o149 => ix x1 (sA S o149) <| cq (f_X1_doPut S o0 x1 ((gI D o149 x1.toNatClampNeg).toInt64) D) fun r155 D156 => some (r155, D156)) else if ((gI D o131 x1.toNatClampNeg) &&& (7 : Int32)) = 3 then (rq (gR D o0 0) fun o158 => pq (f_X4_isPlainPut S D o158 x1) fun r163 => if r163 = 0 then (cq (f_X1_doChange S o0 x1 D) fun r166 D167 => some (r166, D167)) else (rq (gR D o0 2) fun o168 => rq (gR D o0 0) fun o172 => rq (gR D o172 2) fun o176 => ix x1 (sA S o176) <| ix (gI D o176 x1.toNatClampNeg) (sA S o168) <| cq (f_X1_doPut S o0 x1 (gL D o168 (gI D o176 x1.toNatClampNeg).toNatClampNeg) D) fun r183 D184 => some (r183, D184))) else if ((gI D o131 x1.toNatClampNeg) &&& (7 : Int32)) = 4 then (f_X1_doSlot_139 S o0 x1 D) else if ((gI D o131 x1.toNatClampNeg) &&& (7 : Int32)) = 5 then (f_X1_doSlot_145 S o0 x1 D) else if ((gI D o131 x1.toNatClampNeg) &&& (7 : Int32)) = 6 then (f_X1_doSlot_145 S o0 x1 D) else if ((gI D o131 x1.toNatClampNeg) &&& (7 : Int32)) = 7 then (f_X1_doSlot_139 S o0 x1 D) else (f_X1_doSlot_145 S o0 x1 D)) else (some ((3 : Int32), D))
-- JudgedCode$Machine.advance
def f_X1_advance_47 (S : sh) (o0 : Nat) (x1 : Int32) (D : dt) : Option (Int32 × dt) := nm (pI D o0 5 x1) fun D15 => some (x1, D15)
def f_X1_advance_37 (S : sh) (o0 : Nat) (x1 : Int32) (D : dt) : Option (Int32 × dt) := nm (pI D o0 7 ((gI D o0 7) + (1 : Int32))) fun D16 => f_X1_advance_47 S o0 x1 D16
def f_X1_advance_26 (S : sh) (o0 : Nat) (xs0 : Int32) (D : dt) : Option (Int32 × dt) := if xs0 = (1 : Int32) then (f_X1_advance_37 S o0 xs0 D) else (if xs0 = (2 : Int32) then (f_X1_advance_37 S o0 xs0 D) else (f_X1_advance_47 S o0 xs0 D))
def f_X1_advance (S : sh) (o0 : Nat) (D : dt) : Option (Int32 × dt) := rq (gR D o0 0) fun o19 => pq (f_X4_has S D o19 (gI D o0 6)) fun r24 => if r24 = 0 then (f_X1_advance_26 S o0 (5 : Int32) D) else (cq (f_X1_doSlot S o0 (gI D o0 6) D) fun r27 D28 => f_X1_advance_26 S o0 r27 D28)
-- JudgedCode$Machine.keptPut
def f_X1_keptPut_19 (S : sh) (D : dt) : Option Int64 := some (0 : Int64)
def f_X1_keptPut (S : sh) (D : dt) (o0 : Nat) (x1 : Int32) : Option Int64 := nm ((if (32 : Int32) < (gI D o0 4) then (32 : Int32) else (gI D o0 4))) fun y9 => if x1 < 0 then (f_X1_keptPut_19 S D) else (if x1 < y9 then (rq (gR D o0 3) fun o12 => ix ((((gI D o0 4) - y9) + x1) - (((gI D o0 4) - y9) + x1) / (32 : Int32) * (32 : Int32)) (sA S o12) <| some (gL D o12 ((((gI D o0 4) - y9) + x1) - (((gI D o0 4) - y9) + x1) / (32 : Int32) * (32 : Int32)).toNatClampNeg)) else (f_X1_keptPut_19 S D))
theorem mk_X1_doSlot : MkV yX1_doSlot RX1 cX1_doSlot 2 (some .int) 1 := ⟨⟨lk_908, lk_44, lk_117, (tb_in (i := 909) (by decide +kernel) (by decide +kernel))⟩, by decide +kernel⟩
theorem mk_X1_advance : MkV yX1_advance RX1 cX1_advance 2 (some .int) 0 := ⟨⟨lk_902, lk_903, lk_117, (tb_in (i := 904) (by decide +kernel) (by decide +kernel))⟩, by decide +kernel⟩
theorem mk_X1_keptPut : MkV yX1_keptPut RX1 cX1_keptPut 3 (some .long) 1 := ⟨⟨lk_1050, lk_1051, lk_117, (tb_in (i := 1052) (by decide +kernel) (by decide +kernel))⟩, by decide +kernel⟩
section
variable {p : Program} {l : Launch} {e : Env} {R : Room} {s : State} {m : MethodId} {args : Array Value} {below : List Frame} {meth : Method} {c : Code} {H : Heap} {locs : List Loc} {G : va_G} {cA : Nat → ClassId} {S : sh} {D : dt} {ad : Nat → Nat} {A : Nat → Prop}
set_option maxHeartbeats 4000000 in
set_option maxRecDepth 100000 in
theorem w_X1_doSlot_145 {r : Int32} {D' : dt} (hC : Cx RX1 cX1_doSlot 2 (some .int) p s m args meth c) (hR : 4 ≤ R.frames ∧ 104 ≤ R.locals) : ∀ (o0 a0 : Nat) (x1 : Int32) (D : dt) (H : Heap) (locs : List Loc) (ls : Array Slot), Is S ad o0 a0 1 → Wd G cA S D ad A s H locs → lv_has ls 2 [(0, .ref a0), (1, .int x1)] → f_X1_doSlot_145 S o0 x1 D = some (r, D') → W p l e R s m args below meth c H locs 0 0 (MQ below (Qn (some (.int r)) True (wpost G cA S D' ad A) A) args s 0 0 A) (F0 m 145 ls []) := by
  obtain ⟨hx, hb, -⟩ := id hC
  intro o0 a0 x1 D H locs ls hi0 hw hl h
  unfold f_X1_doSlot_145 at h
  refine lv_aload_n hx hb dX1_doSlot_145 rfl (lv_at hl 0 rfl) ?_
  obtain ⟨o95, ho98, h⟩ := rq_i h
  refine r_getR hC hw kc_1 hi0 0 rfl lk_219 dX1_doSlot_146 rfl ho98 (fun a96 hi97 => ?_)
  refine lv_iload_n hx hb dX1_doSlot_149 rfl (lv_at hl 1 rfl) ?_
  obtain ⟨r100, hq99, h⟩ := pq_i h
  refine r_cV (st' := [.int r100]) [.int x1] [] hC hw kc_3 hi97 (k_X4_code _ hi97 hq99) mk_X4_code lk_967 ⟨Nat.le_trans (by decide) hR.1, Nat.le_trans (by decide) hR.2⟩ ⟨Nat.zero_le _, Nat.zero_le _⟩ rfl hl.1 rfl rfl (Nat.le_of_ble_eq_true rfl) dX1_doSlot_150 (fun hP H locs hw => ?_)
  refine lv_bipush (v := 8) hx hb dX1_doSlot_153 (by decide) ?_
  refine lv_icmp_ne (tgt := 175) hx hb dX1_doSlot_155 (by decide) (fun c101 => ?_) (fun c101 => ?_)
  · have h := i_no c101 h
    refine lv_aload_n hx hb dX1_doSlot_175 rfl (lv_at hl 0 rfl) ?_
    refine lv_iload_n hx hb dX1_doSlot_176 rfl (lv_at hl 1 rfl) ?_
    obtain ⟨r103, D104, hq102, h⟩ := cq_i h
    refine r_cV (st' := [.int r103]) [.int x1] [] hC hw kc_1 hi0 (k_X1_doJump _ hi0 hq102) mk_X1_doJump lk_1015 ⟨Nat.le_trans (by decide) hR.1, Nat.le_trans (by decide) hR.2⟩ ⟨Nat.zero_le _, Nat.zero_le _⟩ rfl hl.1 rfl rfl (Nat.le_of_ble_eq_true rfl) dX1_doSlot_177 (fun hP H locs hw => ?_)
    cases h
    exact r_iret hC hw dX1_doSlot_180
  · have h := i_yes c101 h
    refine lv_aload_n hx hb dX1_doSlot_158 rfl (lv_at hl 0 rfl) ?_
    refine lv_iload_n hx hb dX1_doSlot_159 rfl (lv_at hl 1 rfl) ?_
    refine lv_aload_n hx hb dX1_doSlot_160 rfl (lv_at hl 0 rfl) ?_
    obtain ⟨o105, ho108, h⟩ := rq_i h
    refine r_getR hC hw kc_1 hi0 0 rfl lk_219 dX1_doSlot_161 rfl ho108 (fun a106 hi107 => ?_)
    obtain ⟨o109, ho112, h⟩ := rq_i h
    refine r_getR hC hw kc_3 hi107 4 rfl lk_154 dX1_doSlot_164 rfl ho112 (fun a110 hi111 => ?_)
    refine lv_iload_n hx hb dX1_doSlot_167 rfl (lv_at hl 1 rfl) ?_
    obtain ⟨hn113, h⟩ := ix_i h
    refine r_iald hC hw hi111 hn113 dX1_doSlot_168 ?_
    obtain ⟨r115, D116, hq114, h⟩ := cq_i h
    refine r_cV (st' := [.int r115]) [.int x1, .int (gI D o109 x1.toNatClampNeg)] [] hC hw kc_1 hi0 (k_X1_doCall _ hi0 hq114) mk_X1_doCall lk_975 ⟨Nat.le_trans (by decide) hR.1, Nat.le_trans (by decide) hR.2⟩ ⟨Nat.zero_le _, Nat.zero_le _⟩ rfl hl.1 rfl rfl (Nat.le_of_ble_eq_true rfl) dX1_doSlot_169 (fun hP H locs hw => ?_)
    refine lv_goto (tgt := 180) hx hb dX1_doSlot_172 (by decide) ?_
    cases h
    exact r_iret hC hw dX1_doSlot_180
set_option maxHeartbeats 4000000 in
set_option maxRecDepth 100000 in
theorem w_X1_doSlot_139 {r : Int32} {D' : dt} (hC : Cx RX1 cX1_doSlot 2 (some .int) p s m args meth c) (hR : 4 ≤ R.frames ∧ 104 ≤ R.locals) : ∀ (o0 a0 : Nat) (x1 : Int32) (D : dt) (H : Heap) (locs : List Loc) (ls : Array Slot), Is S ad o0 a0 1 → Wd G cA S D ad A s H locs → lv_has ls 2 [(0, .ref a0), (1, .int x1)] → f_X1_doSlot_139 S o0 x1 D = some (r, D') → W p l e R s m args below meth c H locs 0 0 (MQ below (Qn (some (.int r)) True (wpost G cA S D' ad A) A) args s 0 0 A) (F0 m 139 ls []) := by
  obtain ⟨hx, hb, -⟩ := id hC
  intro o0 a0 x1 D H locs ls hi0 hw hl h
  unfold f_X1_doSlot_139 at h
  refine lv_aload_n hx hb dX1_doSlot_139 rfl (lv_at hl 0 rfl) ?_
  refine lv_iload_n hx hb dX1_doSlot_140 rfl (lv_at hl 1 rfl) ?_
  obtain ⟨r118, D119, hq117, h⟩ := cq_i h
  refine r_cV (st' := [.int r118]) [.int x1] [] hC hw kc_1 hi0 (k_X1_doArithmetic _ hi0 hq117) mk_X1_doArithmetic lk_963 ⟨Nat.le_trans (by decide) hR.1, Nat.le_trans (by decide) hR.2⟩ ⟨Nat.zero_le _, Nat.zero_le _⟩ rfl hl.1 rfl rfl (Nat.le_of_ble_eq_true rfl) dX1_doSlot_141 (fun hP H locs hw => ?_)
  cases h
  exact r_iret hC hw dX1_doSlot_144
set_option maxHeartbeats 4000000 in
set_option maxRecDepth 100000 in
theorem w_X1_doSlot_0 {r : Int32} {D' : dt} (hC : Cx RX1 cX1_doSlot 2 (some .int) p s m args meth c) (hR : 4 ≤ R.frames ∧ 104 ≤ R.locals) : ∀ (o0 a0 : Nat) (x1 : Int32) (D : dt) (H : Heap) (locs : List Loc) (ls : Array Slot), Is S ad o0 a0 1 → Wd G cA S D ad A s H locs → lv_has ls 2 [(0, .ref a0), (1, .int x1)] → f_X1_doSlot S o0 x1 D = some (r, D') → W p l e R s m args below meth c H locs 0 0 (MQ below (Qn (some (.int r)) True (wpost G cA S D' ad A) A) args s 0 0 A) (F0 m 0 ls []) := by
  obtain ⟨hx, hb, -⟩ := id hC
  intro o0 a0 x1 D H locs ls hi0 hw hl h
  unfold f_X1_doSlot at h
  refine lv_aload_n hx hb dX1_doSlot_0 rfl (lv_at hl 0 rfl) ?_
  obtain ⟨o120, ho123, h⟩ := rq_i h
  refine r_getR hC hw kc_1 hi0 0 rfl lk_219 dX1_doSlot_1 rfl ho123 (fun a121 hi122 => ?_)
  refine lv_iload_n hx hb dX1_doSlot_4 rfl (lv_at hl 1 rfl) ?_
  obtain ⟨r125, hq124, h⟩ := pq_i h
  refine r_cV (st' := [.int r125]) [.int x1] [] hC hw kc_3 hi122 (k_X4_isBad _ hi122 hq124) mk_X4_isBad lk_910 ⟨Nat.le_trans (by decide) hR.1, Nat.le_trans (by decide) hR.2⟩ ⟨Nat.zero_le _, Nat.zero_le _⟩ rfl hl.1 rfl rfl (Nat.le_of_ble_eq_true rfl) dX1_doSlot_5 (fun hP H locs hw => ?_)
  refine lv_if_eq (tgt := 13) hx hb dX1_doSlot_8 (by decide) (fun c126 => ?_) (fun c126 => ?_)
  · have h := i_yes c126 h
    refine lv_aload_n hx hb dX1_doSlot_13 rfl (lv_at hl 0 rfl) ?_
    obtain ⟨o127, ho130, h⟩ := rq_i h
    refine r_getR hC hw kc_1 hi0 0 rfl lk_219 dX1_doSlot_14 rfl ho130 (fun a128 hi129 => ?_)
    obtain ⟨o131, ho134, h⟩ := rq_i h
    refine r_getR hC hw kc_3 hi129 0 rfl lk_142 dX1_doSlot_17 rfl ho134 (fun a132 hi133 => ?_)
    refine lv_iload_n hx hb dX1_doSlot_20 rfl (lv_at hl 1 rfl) ?_
    obtain ⟨hn135, h⟩ := ix_i h
    refine r_iald hC hw hi133 hn135 dX1_doSlot_21 ?_
    refine lv_bipush (v := 7) hx hb dX1_doSlot_22 (by decide) ?_
    refine lv_iand hx hb dX1_doSlot_24 ?_
    by_cases c136 : ((gI D o131 x1.toNatClampNeg) &&& (7 : Int32)) = 0
    · have h := i_yes c136 h
      refine lv_tableIn (off := 47) (tgt := 72) hx hb dX1_doSlot_25 (by rw [c136]; decide) (by rw [c136]; decide) (by rw [c136] <;> rfl) (by decide) ?_
      refine lv_aload_n hx hb dX1_doSlot_72 rfl (lv_at hl 0 rfl) ?_
      refine lv_iload_n hx hb dX1_doSlot_73 rfl (lv_at hl 1 rfl) ?_
      obtain ⟨r138, D139, hq137, h⟩ := cq_i h
      refine r_cV (st' := [.int r138]) [.int x1] [] hC hw kc_1 hi0 (k_X1_doPair _ hi0 hq137) mk_X1_doPair lk_911 ⟨Nat.le_trans (by decide) hR.1, Nat.le_trans (by decide) hR.2⟩ ⟨Nat.zero_le _, Nat.zero_le _⟩ rfl hl.1 rfl rfl (Nat.le_of_ble_eq_true rfl) dX1_doSlot_74 (fun hP H locs hw => ?_)
      cases h
      exact r_iret hC hw dX1_doSlot_77
    have h := i_no c136 h
    by_cases c140 : ((gI D o131 x1.toNatClampNeg) &&& (7 : Int32)) = 1
    · have h := i_yes c140 h
      refine lv_tableIn (off := 53) (tgt := 78) hx hb dX1_doSlot_25 (by rw [c140]; decide) (by rw [c140]; decide) (by rw [c140] <;> rfl) (by decide) ?_
      refine lv_aload_n hx hb dX1_doSlot_78 rfl (lv_at hl 0 rfl) ?_
      refine lv_iload_n hx hb dX1_doSlot_79 rfl (lv_at hl 1 rfl) ?_
      obtain ⟨r142, D143, hq141, h⟩ := cq_i h
      refine r_cV (st' := [.int r142]) [.int x1] [] hC hw kc_1 hi0 (k_X1_doLoad _ hi0 hq141) mk_X1_doLoad lk_922 ⟨Nat.le_trans (by decide) hR.1, Nat.le_trans (by decide) hR.2⟩ ⟨Nat.zero_le _, Nat.zero_le _⟩ rfl hl.1 rfl rfl (Nat.le_of_ble_eq_true rfl) dX1_doSlot_80 (fun hP H locs hw => ?_)
      cases h
      exact r_iret hC hw dX1_doSlot_83
    have h := i_no c140 h
    by_cases c144 : ((gI D o131 x1.toNatClampNeg) &&& (7 : Int32)) = 2
    · have h := i_yes c144 h
      refine lv_tableIn (off := 59) (tgt := 84) hx hb dX1_doSlot_25 (by rw [c144]; decide) (by rw [c144]; decide) (by rw [c144] <;> rfl) (by decide) ?_
      refine lv_aload_n hx hb dX1_doSlot_84 rfl (lv_at hl 0 rfl) ?_
      refine lv_iload_n hx hb dX1_doSlot_85 rfl (lv_at hl 1 rfl) ?_
      refine lv_aload_n hx hb dX1_doSlot_86 rfl (lv_at hl 0 rfl) ?_
      obtain ⟨o145, ho148, h⟩ := rq_i h
      refine r_getR hC hw kc_1 hi0 0 rfl lk_219 dX1_doSlot_87 rfl ho148 (fun a146 hi147 => ?_)
      obtain ⟨o149, ho152, h⟩ := rq_i h
      refine r_getR hC hw kc_3 hi147 4 rfl lk_154 dX1_doSlot_90 rfl ho152 (fun a150 hi151 => ?_)
      refine lv_iload_n hx hb dX1_doSlot_93 rfl (lv_at hl 1 rfl) ?_
      obtain ⟨hn153, h⟩ := ix_i h
      refine r_iald hC hw hi151 hn153 dX1_doSlot_94 ?_
      refine lv_i2l (v := (gI D o149 x1.toNatClampNeg).toInt64) hx hb dX1_doSlot_95 rfl ?_
      obtain ⟨r155, D156, hq154, h⟩ := cq_i h
      refine r_cV (st' := [.int r155]) [.int x1, .long ((gI D o149 x1.toNatClampNeg).toInt64)] [] hC hw kc_1 hi0 (k_X1_doPut _ hi0 hq154) mk_X1_doPut lk_949 ⟨Nat.le_trans (by decide) hR.1, Nat.le_trans (by decide) hR.2⟩ ⟨Nat.zero_le _, Nat.zero_le _⟩ rfl hl.1 rfl rfl (Nat.le_of_ble_eq_true rfl) dX1_doSlot_96 (fun hP H locs hw => ?_)
      cases h
      exact r_iret hC hw dX1_doSlot_99
    have h := i_no c144 h
    by_cases c157 : ((gI D o131 x1.toNatClampNeg) &&& (7 : Int32)) = 3
    · have h := i_yes c157 h
      refine lv_tableIn (off := 75) (tgt := 100) hx hb dX1_doSlot_25 (by rw [c157]; decide) (by rw [c157]; decide) (by rw [c157] <;> rfl) (by decide) ?_
      refine lv_aload_n hx hb dX1_doSlot_100 rfl (lv_at hl 0 rfl) ?_
      obtain ⟨o158, ho161, h⟩ := rq_i h
      refine r_getR hC hw kc_1 hi0 0 rfl lk_219 dX1_doSlot_101 rfl ho161 (fun a159 hi160 => ?_)
      refine lv_iload_n hx hb dX1_doSlot_104 rfl (lv_at hl 1 rfl) ?_
      obtain ⟨r163, hq162, h⟩ := pq_i h
      refine r_cV (st' := [.int r163]) [.int x1] [] hC hw kc_3 hi160 (k_X4_isPlainPut _ hi160 hq162) mk_X4_isPlainPut lk_957 ⟨Nat.le_trans (by decide) hR.1, Nat.le_trans (by decide) hR.2⟩ ⟨Nat.zero_le _, Nat.zero_le _⟩ rfl hl.1 rfl rfl (Nat.le_of_ble_eq_true rfl) dX1_doSlot_105 (fun hP H locs hw => ?_)
      refine lv_if_eq (tgt := 133) hx hb dX1_doSlot_108 (by decide) (fun c164 => ?_) (fun c164 => ?_)
      · have h := i_yes c164 h
        refine lv_aload_n hx hb dX1_doSlot_133 rfl (lv_at hl 0 rfl) ?_
        refine lv_iload_n hx hb dX1_doSlot_134 rfl (lv_at hl 1 rfl) ?_
        obtain ⟨r166, D167, hq165, h⟩ := cq_i h
        refine r_cV (st' := [.int r166]) [.int x1] [] hC hw kc_1 hi0 (k_X1_doChange _ hi0 hq165) mk_X1_doChange lk_958 ⟨Nat.le_trans (by decide) hR.1, Nat.le_trans (by decide) hR.2⟩ ⟨Nat.zero_le _, Nat.zero_le _⟩ rfl hl.1 rfl rfl (Nat.le_of_ble_eq_true rfl) dX1_doSlot_135 (fun hP H locs hw => ?_)
        cases h
        exact r_iret hC hw dX1_doSlot_138
      · have h := i_no c164 h
        refine lv_aload_n hx hb dX1_doSlot_111 rfl (lv_at hl 0 rfl) ?_
        refine lv_iload_n hx hb dX1_doSlot_112 rfl (lv_at hl 1 rfl) ?_
        refine lv_aload_n hx hb dX1_doSlot_113 rfl (lv_at hl 0 rfl) ?_
        obtain ⟨o168, ho171, h⟩ := rq_i h
        refine r_getR hC hw kc_1 hi0 2 rfl lk_221 dX1_doSlot_114 rfl ho171 (fun a169 hi170 => ?_)
        refine lv_aload_n hx hb dX1_doSlot_117 rfl (lv_at hl 0 rfl) ?_
        obtain ⟨o172, ho175, h⟩ := rq_i h
        refine r_getR hC hw kc_1 hi0 0 rfl lk_219 dX1_doSlot_118 rfl ho175 (fun a173 hi174 => ?_)
        obtain ⟨o176, ho179, h⟩ := rq_i h
        refine r_getR hC hw kc_3 hi174 2 rfl lk_148 dX1_doSlot_121 rfl ho179 (fun a177 hi178 => ?_)
        refine lv_iload_n hx hb dX1_doSlot_124 rfl (lv_at hl 1 rfl) ?_
        obtain ⟨hn180, h⟩ := ix_i h
        refine r_iald hC hw hi178 hn180 dX1_doSlot_125 ?_
        obtain ⟨hn181, h⟩ := ix_i h
        refine r_lald hC hw hi170 hn181 dX1_doSlot_126 ?_
        obtain ⟨r183, D184, hq182, h⟩ := cq_i h
        refine r_cV (st' := [.int r183]) [.int x1, .long (gL D o168 (gI D o176 x1.toNatClampNeg).toNatClampNeg)] [] hC hw kc_1 hi0 (k_X1_doPut _ hi0 hq182) mk_X1_doPut lk_949 ⟨Nat.le_trans (by decide) hR.1, Nat.le_trans (by decide) hR.2⟩ ⟨Nat.zero_le _, Nat.zero_le _⟩ rfl hl.1 rfl rfl (Nat.le_of_ble_eq_true rfl) dX1_doSlot_127 (fun hP H locs hw => ?_)
        refine lv_goto (tgt := 138) hx hb dX1_doSlot_130 (by decide) ?_
        cases h
        exact r_iret hC hw dX1_doSlot_138
    have h := i_no c157 h
    by_cases c185 : ((gI D o131 x1.toNatClampNeg) &&& (7 : Int32)) = 4
    · have h := i_yes c185 h
      refine lv_tableIn (off := 114) (tgt := 139) hx hb dX1_doSlot_25 (by rw [c185]; decide) (by rw [c185]; decide) (by rw [c185] <;> rfl) (by decide) ?_
      exact w_X1_doSlot_139 hC hR o0 a0 x1 _ _ _ _ hi0 hw (lv_sub hl [0, 1] rfl) h
    have h := i_no c185 h
    by_cases c186 : ((gI D o131 x1.toNatClampNeg) &&& (7 : Int32)) = 5
    · have h := i_yes c186 h
      refine lv_tableIn (off := 120) (tgt := 145) hx hb dX1_doSlot_25 (by rw [c186]; decide) (by rw [c186]; decide) (by rw [c186] <;> rfl) (by decide) ?_
      exact w_X1_doSlot_145 hC hR o0 a0 x1 _ _ _ _ hi0 hw (lv_sub hl [0, 1] rfl) h
    have h := i_no c186 h
    by_cases c187 : ((gI D o131 x1.toNatClampNeg) &&& (7 : Int32)) = 6
    · have h := i_yes c187 h
      refine lv_tableIn (off := 120) (tgt := 145) hx hb dX1_doSlot_25 (by rw [c187]; decide) (by rw [c187]; decide) (by rw [c187] <;> rfl) (by decide) ?_
      exact w_X1_doSlot_145 hC hR o0 a0 x1 _ _ _ _ hi0 hw (lv_sub hl [0, 1] rfl) h
    have h := i_no c187 h
    by_cases c188 : ((gI D o131 x1.toNatClampNeg) &&& (7 : Int32)) = 7
    · have h := i_yes c188 h
      refine lv_tableIn (off := 114) (tgt := 139) hx hb dX1_doSlot_25 (by rw [c188]; decide) (by rw [c188]; decide) (by rw [c188] <;> rfl) (by decide) ?_
      exact w_X1_doSlot_139 hC hR o0 a0 x1 _ _ _ _ hi0 hw (lv_sub hl [0, 1] rfl) h
    have h := i_no c188 h
    refine lv_tableOut (tgt := 145) hx hb dX1_doSlot_25 (by have nc136 := lv_neT c136 (a := 0) rfl; have nc140 := lv_neT c140 (a := 1) rfl; have nc144 := lv_neT c144 (a := 2) rfl; have nc157 := lv_neT c157 (a := 3) rfl; have nc185 := lv_neT c185 (a := 4) rfl; have nc186 := lv_neT c186 (a := 5) rfl; have nc187 := lv_neT c187 (a := 6) rfl; have nc188 := lv_neT c188 (a := 7) rfl; omega) (by decide) ?_
    exact w_X1_doSlot_145 hC hR o0 a0 x1 _ _ _ _ hi0 hw (lv_sub hl [0, 1] rfl) h
  · have h := i_no c126 h
    refine lv_iconst (v := 3) hx hb dX1_doSlot_11 (by decide) ?_
    cases h
    exact r_iret hC hw dX1_doSlot_12
set_option maxHeartbeats 4000000 in
set_option maxRecDepth 100000 in
theorem k_X1_doSlot {l : Launch} {G : va_G} {cA : Nat → ClassId} {S : sh} {D D' : dt} {ad : Nat → Nat} (sz : Nat) {o0 a0 : Nat} {x1 : Int32} {r : Int32} (hi0 : Is S ad o0 a0 1) (h : f_X1_doSlot S o0 x1 D = some (r, D')) : Co l yX1_doSlot (Cond.code yX1_doSlot cX1_doSlot 2 (some .int) :: tb0) 4 104 [.ref a0, .int x1] G cA S D ad sz (some (.int r)) True D' := by
  refine Met.ofW (cc := cX1_doSlot) (maxL := 2) (ret := (some .int)) (by decide) rfl ?_
  intro p e s m args below meth c s₁ B hml hv
  obtain ⟨rfl, hsz, hP, hK, hD0, hT, hX⟩ := hv
  subst hsz
  have hts := atoms_spec (ws := Cond.code yX1_doSlot cX1_doSlot 2 (some .int) :: tb0) B.pre
  have hC : Cx RX1 cX1_doSlot 2 (some .int) p s m _ meth c := ⟨B.exec, B.bytes, hml, findClass_of_methodNamed B.named, fun w q => hts w (List.mem_cons_of_mem _ q), B.returns, B.notSynchronized⟩
  have hw := Wd.entry hP hK hD0 hT hX
  have hl := lv_entry ([.ref a0, .int x1]) (n := 2) (Nat.le_of_ble_eq_true rfl)
  rw [lg_entry_eq]
  exact w_X1_doSlot_0 hC ⟨Nat.le_refl _, Nat.le_refl _⟩ o0 a0 x1 D _ _ _ hi0 hw hl h
set_option maxHeartbeats 4000000 in
set_option maxRecDepth 100000 in
theorem w_X1_advance_47 {r : Int32} {D' : dt} (hC : Cx RX1 cX1_advance 2 (some .int) p s m args meth c) (hR : 5 ≤ R.frames ∧ 125 ≤ R.locals) : ∀ (o0 a0 : Nat) (x1 : Int32) (D : dt) (H : Heap) (locs : List Loc) (ls : Array Slot), Is S ad o0 a0 1 → Wd G cA S D ad A s H locs → lv_has ls 2 [(0, .ref a0), (1, .int x1)] → f_X1_advance_47 S o0 x1 D = some (r, D') → W p l e R s m args below meth c H locs 0 0 (MQ below (Qn (some (.int r)) True (wpost G cA S D' ad A) A) args s 0 0 A) (F0 m 47 ls []) := by
  obtain ⟨hx, hb, -⟩ := id hC
  intro o0 a0 x1 D H locs ls hi0 hw hl h
  unfold f_X1_advance_47 at h
  refine lv_aload_n hx hb dX1_advance_47 rfl (lv_at hl 0 rfl) ?_
  refine lv_iload_n hx hb dX1_advance_48 rfl (lv_at hl 1 rfl) ?_
  refine r_pI hC hw kc_1 hi0 5 rfl lk_226 rfl rfl rfl dX1_advance_49 (fun D15 eD15 H locs hw => ?_)
  have h := nm_i h D15 eD15
  refine lv_iload_n hx hb dX1_advance_52 rfl (lv_at hl 1 rfl) ?_
  cases h
  exact r_iret hC hw dX1_advance_53
set_option maxHeartbeats 4000000 in
set_option maxRecDepth 100000 in
theorem w_X1_advance_37 {r : Int32} {D' : dt} (hC : Cx RX1 cX1_advance 2 (some .int) p s m args meth c) (hR : 5 ≤ R.frames ∧ 125 ≤ R.locals) : ∀ (o0 a0 : Nat) (x1 : Int32) (D : dt) (H : Heap) (locs : List Loc) (ls : Array Slot), Is S ad o0 a0 1 → Wd G cA S D ad A s H locs → lv_has ls 2 [(0, .ref a0), (1, .int x1)] → f_X1_advance_37 S o0 x1 D = some (r, D') → W p l e R s m args below meth c H locs 0 0 (MQ below (Qn (some (.int r)) True (wpost G cA S D' ad A) A) args s 0 0 A) (F0 m 37 ls []) := by
  obtain ⟨hx, hb, -⟩ := id hC
  intro o0 a0 x1 D H locs ls hi0 hw hl h
  unfold f_X1_advance_37 at h
  refine lv_aload_n hx hb dX1_advance_37 rfl (lv_at hl 0 rfl) ?_
  refine lv_dup hx hb dX1_advance_38 rfl ?_
  refine r_gI hC hw kc_1 hi0 7 rfl lk_230 dX1_advance_39 ?_
  refine lv_iconst (v := 1) hx hb dX1_advance_42 (by decide) ?_
  refine lv_iadd hx hb dX1_advance_43 ?_
  refine r_pI hC hw kc_1 hi0 7 rfl lk_230 rfl rfl rfl dX1_advance_44 (fun D16 eD16 H locs hw => ?_)
  have h := nm_i h D16 eD16
  exact w_X1_advance_47 hC hR o0 a0 x1 _ _ _ _ hi0 hw (lv_sub hl [0, 1] rfl) h
set_option maxHeartbeats 4000000 in
set_option maxRecDepth 100000 in
theorem w_X1_advance_26 {r : Int32} {D' : dt} (hC : Cx RX1 cX1_advance 2 (some .int) p s m args meth c) (hR : 5 ≤ R.frames ∧ 125 ≤ R.locals) : ∀ (o0 a0 : Nat) (xs0 : Int32) (D : dt) (H : Heap) (locs : List Loc) (ls : Array Slot), Is S ad o0 a0 1 → Wd G cA S D ad A s H locs → lv_has ls 2 [(0, .ref a0)] → f_X1_advance_26 S o0 xs0 D = some (r, D') → W p l e R s m args below meth c H locs 0 0 (MQ below (Qn (some (.int r)) True (wpost G cA S D' ad A) A) args s 0 0 A) (F0 m 26 ls [.int xs0]) := by
  obtain ⟨hx, hb, -⟩ := id hC
  intro o0 a0 xs0 D H locs ls hi0 hw hl h
  unfold f_X1_advance_26 at h
  refine lv_istore_n (lv' := [(1, .int xs0), (0, .ref a0)]) hx hb dX1_advance_26 rfl hl (by decide) rfl (fun ls hl => ?_)
  refine lv_iload_n hx hb dX1_advance_27 rfl (lv_at hl 0 rfl) ?_
  refine lv_iconst (v := 1) hx hb dX1_advance_28 (by decide) ?_
  refine lv_icmp_eq (tgt := 37) hx hb dX1_advance_29 (by decide) (fun c17 => ?_) (fun c17 => ?_)
  · have h := i_yes c17 h
    exact w_X1_advance_37 hC hR o0 a0 xs0 _ _ _ _ hi0 hw (lv_sub hl [1, 0] rfl) h
  · have h := i_no c17 h
    refine lv_iload_n hx hb dX1_advance_32 rfl (lv_at hl 0 rfl) ?_
    refine lv_iconst (v := 2) hx hb dX1_advance_33 (by decide) ?_
    refine lv_icmp_ne (tgt := 47) hx hb dX1_advance_34 (by decide) (fun c18 => ?_) (fun c18 => ?_)
    · have h := i_no c18 h
      exact w_X1_advance_47 hC hR o0 a0 xs0 _ _ _ _ hi0 hw (lv_sub hl [1, 0] rfl) h
    · have h := i_yes c18 h
      exact w_X1_advance_37 hC hR o0 a0 xs0 _ _ _ _ hi0 hw (lv_sub hl [1, 0] rfl) h
set_option maxHeartbeats 4000000 in
set_option maxRecDepth 100000 in
theorem w_X1_advance_0 {r : Int32} {D' : dt} (hC : Cx RX1 cX1_advance 2 (some .int) p s m args meth c) (hR : 5 ≤ R.frames ∧ 125 ≤ R.locals) : ∀ (o0 a0 : Nat) (D : dt) (H : Heap) (locs : List Loc) (ls : Array Slot), Is S ad o0 a0 1 → Wd G cA S D ad A s H locs → lv_has ls 2 [(0, .ref a0)] → f_X1_advance S o0 D = some (r, D') → W p l e R s m args below meth c H locs 0 0 (MQ below (Qn (some (.int r)) True (wpost G cA S D' ad A) A) args s 0 0 A) (F0 m 0 ls []) := by
  obtain ⟨hx, hb, -⟩ := id hC
  intro o0 a0 D H locs ls hi0 hw hl h
  unfold f_X1_advance at h
  refine lv_aload_n hx hb dX1_advance_0 rfl (lv_at hl 0 rfl) ?_
  obtain ⟨o19, ho22, h⟩ := rq_i h
  refine r_getR hC hw kc_1 hi0 0 rfl lk_219 dX1_advance_1 rfl ho22 (fun a20 hi21 => ?_)
  refine lv_aload_n hx hb dX1_advance_4 rfl (lv_at hl 0 rfl) ?_
  refine r_gI hC hw kc_1 hi0 6 rfl lk_228 dX1_advance_5 ?_
  obtain ⟨r24, hq23, h⟩ := pq_i h
  refine r_cV (st' := [.int r24]) [.int (gI D o0 6)] [] hC hw kc_3 hi21 (k_X4_has _ hi21 hq23) mk_X4_has lk_905 ⟨Nat.le_trans (by decide) hR.1, Nat.le_trans (by decide) hR.2⟩ ⟨Nat.zero_le _, Nat.zero_le _⟩ rfl hl.1 rfl rfl (Nat.le_of_ble_eq_true rfl) dX1_advance_8 (fun hP H locs hw => ?_)
  refine lv_if_eq (tgt := 25) hx hb dX1_advance_11 (by decide) (fun c25 => ?_) (fun c25 => ?_)
  · have h := i_yes c25 h
    refine lv_iconst (v := 5) hx hb dX1_advance_25 (by decide) ?_
    exact w_X1_advance_26 hC hR o0 a0 (5 : Int32) _ _ _ _ hi0 hw (lv_sub hl [0] rfl) h
  · have h := i_no c25 h
    refine lv_aload_n hx hb dX1_advance_14 rfl (lv_at hl 0 rfl) ?_
    refine lv_aload_n hx hb dX1_advance_15 rfl (lv_at hl 0 rfl) ?_
    refine r_gI hC hw kc_1 hi0 6 rfl lk_228 dX1_advance_16 ?_
    obtain ⟨r27, D28, hq26, h⟩ := cq_i h
    refine r_cV (st' := [.int r27]) [.int (gI D o0 6)] [] hC hw kc_1 hi0 (k_X1_doSlot _ hi0 hq26) mk_X1_doSlot lk_906 ⟨Nat.le_trans (by decide) hR.1, Nat.le_trans (by decide) hR.2⟩ ⟨Nat.zero_le _, Nat.zero_le _⟩ rfl hl.1 rfl rfl (Nat.le_of_ble_eq_true rfl) dX1_advance_19 (fun hP H locs hw => ?_)
    refine lv_goto (tgt := 26) hx hb dX1_advance_22 (by decide) ?_
    exact w_X1_advance_26 hC hR o0 a0 r27 _ _ _ _ hi0 hw (lv_sub hl [0] rfl) h
set_option maxHeartbeats 4000000 in
set_option maxRecDepth 100000 in
theorem k_X1_advance {l : Launch} {G : va_G} {cA : Nat → ClassId} {S : sh} {D D' : dt} {ad : Nat → Nat} (sz : Nat) {o0 a0 : Nat} {r : Int32} (hi0 : Is S ad o0 a0 1) (h : f_X1_advance S o0 D = some (r, D')) : Co l yX1_advance (Cond.code yX1_advance cX1_advance 2 (some .int) :: tb0) 5 125 [.ref a0] G cA S D ad sz (some (.int r)) True D' := by
  refine Met.ofW (cc := cX1_advance) (maxL := 2) (ret := (some .int)) (by decide) rfl ?_
  intro p e s m args below meth c s₁ B hml hv
  obtain ⟨rfl, hsz, hP, hK, hD0, hT, hX⟩ := hv
  subst hsz
  have hts := atoms_spec (ws := Cond.code yX1_advance cX1_advance 2 (some .int) :: tb0) B.pre
  have hC : Cx RX1 cX1_advance 2 (some .int) p s m _ meth c := ⟨B.exec, B.bytes, hml, findClass_of_methodNamed B.named, fun w q => hts w (List.mem_cons_of_mem _ q), B.returns, B.notSynchronized⟩
  have hw := Wd.entry hP hK hD0 hT hX
  have hl := lv_entry ([.ref a0]) (n := 2) (Nat.le_of_ble_eq_true rfl)
  rw [lg_entry_eq]
  exact w_X1_advance_0 hC ⟨Nat.le_refl _, Nat.le_refl _⟩ o0 a0 D _ _ _ hi0 hw hl h
set_option maxHeartbeats 4000000 in
set_option maxRecDepth 100000 in
theorem w_X1_keptPut_19 {r : Int64} (hC : Cx RX1 cX1_keptPut 3 (some .long) p s m args meth c) (hR : 1 ≤ R.frames ∧ 30 ≤ R.locals) : ∀  (H : Heap) (locs : List Loc) (ls : Array Slot), Wd G cA S D ad A s H locs → lv_has ls 3 [] → f_X1_keptPut_19 S D = some r → W p l e R s m args below meth c H locs 0 0 (MQ below (Qn (some (.long r)) True (wpost G cA S D ad A) A) args s 0 0 A) (F0 m 19 ls []) := by
  obtain ⟨hx, hb, -⟩ := id hC
  intro H locs ls  hw hl h
  unfold f_X1_keptPut_19 at h
  refine lv_lconst (v := 0) hx hb dX1_keptPut_19 (by decide) ?_
  refine lv_goto (tgt := 39) hx hb dX1_keptPut_20 (by decide) ?_
  cases h
  exact r_lret hC hw dX1_keptPut_39
set_option maxHeartbeats 4000000 in
set_option maxRecDepth 100000 in
theorem w_X1_keptPut_0 {r : Int64} (hC : Cx RX1 cX1_keptPut 3 (some .long) p s m args meth c) (hR : 1 ≤ R.frames ∧ 30 ≤ R.locals) : ∀ (o0 a0 : Nat) (x1 : Int32) (H : Heap) (locs : List Loc) (ls : Array Slot), Is S ad o0 a0 1 → Wd G cA S D ad A s H locs → lv_has ls 3 [(0, .ref a0), (1, .int x1)] → f_X1_keptPut S D o0 x1 = some r → W p l e R s m args below meth c H locs 0 0 (MQ below (Qn (some (.long r)) True (wpost G cA S D ad A) A) args s 0 0 A) (F0 m 0 ls []) := by
  obtain ⟨hx, hb, -⟩ := id hC
  intro o0 a0 x1 H locs ls hi0 hw hl h
  unfold f_X1_keptPut at h
  refine lv_aload_n hx hb dX1_keptPut_0 rfl (lv_at hl 0 rfl) ?_
  refine r_gI hC hw kc_1 hi0 4 rfl lk_224 dX1_keptPut_1 ?_
  refine lv_bipush (v := 32) hx hb dX1_keptPut_4 (by decide) ?_
  refine va_mmin hx hb (by rw [hC.2.2.1]; exact hl.1.symm) hC.2.2.2.1 (hC.2.2.2.2.1 _ lk_1053) (hC.2.2.2.2.1 _ ms_min_i) (hC.2.2.2.2.1 _ ms_ini) (hC.2.2.2.2.1 _ mc_min_i) (Nat.le_trans (by decide) hR.1) (Nat.le_trans (Nat.le_of_ble_eq_true rfl) hR.2) (Nat.zero_le _) (Nat.zero_le _) dX1_keptPut_6 ?_
  refine lv_topi (fun y9 ey9 => ?_)
  have h := nm_i h y9 ey9
  refine lv_istore_n (lv' := [(2, .int y9), (0, .ref a0), (1, .int x1)]) hx hb dX1_keptPut_9 rfl hl (by decide) rfl (fun ls hl => ?_)
  refine lv_iload_n hx hb dX1_keptPut_10 rfl (lv_at hl 2 rfl) ?_
  refine lv_if_lt (tgt := 19) hx hb dX1_keptPut_11 (by decide) (fun c10 => ?_) (fun c10 => ?_)
  · have h := i_yes c10 h
    exact w_X1_keptPut_19 hC hR _ _ _ hw (lv_sub hl [] rfl) h
  · have h := i_no c10 h
    refine lv_iload_n hx hb dX1_keptPut_14 rfl (lv_at hl 2 rfl) ?_
    refine lv_iload_n hx hb dX1_keptPut_15 rfl (lv_at hl 0 rfl) ?_
    refine lv_icmp_lt (tgt := 23) hx hb dX1_keptPut_16 (by decide) (fun c11 => ?_) (fun c11 => ?_)
    · have h := i_yes c11 h
      refine lv_aload_n hx hb dX1_keptPut_23 rfl (lv_at hl 1 rfl) ?_
      obtain ⟨o12, ho15, h⟩ := rq_i h
      refine r_getR hC hw kc_1 hi0 3 rfl lk_223 dX1_keptPut_24 rfl ho15 (fun a13 hi14 => ?_)
      refine lv_aload_n hx hb dX1_keptPut_27 rfl (lv_at hl 1 rfl) ?_
      refine r_gI hC hw kc_1 hi0 4 rfl lk_224 dX1_keptPut_28 ?_
      refine lv_iload_n hx hb dX1_keptPut_31 rfl (lv_at hl 0 rfl) ?_
      refine lv_isub hx hb dX1_keptPut_32 ?_
      refine lv_iload_n hx hb dX1_keptPut_33 rfl (lv_at hl 2 rfl) ?_
      refine lv_iadd hx hb dX1_keptPut_34 ?_
      refine lv_bipush (v := 32) hx hb dX1_keptPut_35 (by decide) ?_
      refine lv_irem hx hb dX1_keptPut_37 (by decide) ?_
      obtain ⟨hn16, h⟩ := ix_i h
      refine r_lald hC hw hi14 hn16 dX1_keptPut_38 ?_
      cases h
      exact r_lret hC hw dX1_keptPut_39
    · have h := i_no c11 h
      exact w_X1_keptPut_19 hC hR _ _ _ hw (lv_sub hl [] rfl) h
set_option maxHeartbeats 4000000 in
set_option maxRecDepth 100000 in
theorem k_X1_keptPut {l : Launch} {G : va_G} {cA : Nat → ClassId} {S : sh} {D : dt} {ad : Nat → Nat} (sz : Nat) {o0 a0 : Nat} {x1 : Int32} {r : Int64} (hi0 : Is S ad o0 a0 1) (h : f_X1_keptPut S D o0 x1 = some r) : Co l yX1_keptPut (Cond.code yX1_keptPut cX1_keptPut 3 (some .long) :: tb0) 1 30 [.ref a0, .int x1] G cA S D ad sz (some (.long r)) True D := by
  refine Met.ofW (cc := cX1_keptPut) (maxL := 3) (ret := (some .long)) (by decide) rfl ?_
  intro p e s m args below meth c s₁ B hml hv
  obtain ⟨rfl, hsz, hP, hK, hD0, hT, hX⟩ := hv
  subst hsz
  have hts := atoms_spec (ws := Cond.code yX1_keptPut cX1_keptPut 3 (some .long) :: tb0) B.pre
  have hC : Cx RX1 cX1_keptPut 3 (some .long) p s m _ meth c := ⟨B.exec, B.bytes, hml, findClass_of_methodNamed B.named, fun w q => hts w (List.mem_cons_of_mem _ q), B.returns, B.notSynchronized⟩
  have hw := Wd.entry hP hK hD0 hT hX
  have hl := lv_entry ([.ref a0, .int x1]) (n := 3) (Nat.le_of_ble_eq_true rfl)
  rw [lg_entry_eq]
  exact w_X1_keptPut_0 hC ⟨Nat.le_refl _, Nat.le_refl _⟩ o0 a0 x1 _ _ _ hi0 hw hl h
end
