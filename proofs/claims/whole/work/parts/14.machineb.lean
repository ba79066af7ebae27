theorem dX1_doSlot_0 : decode cX1_doSlot 0 = .ok (.aload_n 0, 1) := by decide +kernel
theorem dX1_doSlot_1 : decode cX1_doSlot 1 = .ok (.getfield 18, 3) := by decide +kernel
theorem dX1_doSlot_4 : decode cX1_doSlot 4 = .ok (.iload_n 1, 1) := by decide +kernel
theorem dX1_doSlot_5 : decode cX1_doSlot 5 = .ok (.invokevirtual 74, 3) := by decide +kernel
theorem dX1_doSlot_8 : decode cX1_doSlot 8 = .ok (.ifCond .eq 5, 3) := by decide +kernel
theorem dX1_doSlot_11 : decode cX1_doSlot 11 = .ok (.iconst 3, 1) := by decide +kernel
theorem dX1_doSlot_12 : decode cX1_doSlot 12 = .ok (.ireturn, 1) := by decide +kernel
theorem dX1_doSlot_13 : decode cX1_doSlot 13 = .ok (.aload_n 0, 1) := by decide +kernel
theorem dX1_doSlot_14 : decode cX1_doSlot 14 = .ok (.getfield 18, 3) := by decide +kernel
theorem dX1_doSlot_17 : decode cX1_doSlot 17 = .ok (.getfield 77, 3) := by decide +kernel
theorem dX1_doSlot_20 : decode cX1_doSlot 20 = .ok (.iload_n 1, 1) := by decide +kernel
theorem dX1_doSlot_21 : decode cX1_doSlot 21 = .ok (.iaload, 1) := by decide +kernel
theorem dX1_doSlot_22 : decode cX1_doSlot 22 = .ok (.bipush 7, 2) := by decide +kernel
theorem dX1_doSlot_24 : decode cX1_doSlot 24 = .ok (.iand, 1) := by decide +kernel
theorem dX1_doSlot_25 : decode cX1_doSlot 25 = .ok (.tableswitch 120 0 7 #[47, 53, 59, 75, 114, 120, 120, 114], 47) := by decide +kernel
theorem dX1_doSlot_72 : decode cX1_doSlot 72 = .ok (.aload_n 0, 1) := by decide +kernel
theorem dX1_doSlot_73 : decode cX1_doSlot 73 = .ok (.iload_n 1, 1) := by decide +kernel
theorem dX1_doSlot_74 : decode cX1_doSlot 74 = .ok (.invokevirtual 81, 3) := by decide +kernel
theorem dX1_doSlot_77 : decode cX1_doSlot 77 = .ok (.ireturn, 1) := by decide +kernel
theorem dX1_doSlot_78 : decode cX1_doSlot 78 = .ok (.aload_n 0, 1) := by decide +kernel
theorem dX1_doSlot_79 : decode cX1_doSlot 79 = .ok (.iload_n 1, 1) := by decide +kernel
theorem dX1_doSlot_80 : decode cX1_doSlot 80 = .ok (.invokevirtual 84, 3) := by decide +kernel
theorem dX1_doSlot_83 : decode cX1_doSlot 83 = .ok (.ireturn, 1) := by decide +kernel
theorem dX1_doSlot_84 : decode cX1_doSlot 84 = .ok (.aload_n 0, 1) := by decide +kernel
theorem dX1_doSlot_85 : decode cX1_doSlot 85 = .ok (.iload_n 1, 1) := by decide +kernel
theorem dX1_doSlot_86 : decode cX1_doSlot 86 = .ok (.aload_n 0, 1) := by decide +kernel
theorem dX1_doSlot_87 : decode cX1_doSlot 87 = .ok (.getfield 18, 3) := by decide +kernel
theorem dX1_doSlot_90 : decode cX1_doSlot 90 = .ok (.getfield 87, 3) := by decide +kernel
theorem dX1_doSlot_93 : decode cX1_doSlot 93 = .ok (.iload_n 1, 1) := by decide +kernel
theorem dX1_doSlot_94 : decode cX1_doSlot 94 = .ok (.iaload, 1) := by decide +kernel
theorem dX1_doSlot_95 : decode cX1_doSlot 95 = .ok (.i2l, 1) := by decide +kernel
theorem dX1_doSlot_96 : decode cX1_doSlot 96 = .ok (.invokevirtual 90, 3) := by decide +kernel
theorem dX1_doSlot_99 : decode cX1_doSlot 99 = .ok (.ireturn, 1) := by decide +kernel
theorem dX1_doSlot_100 : decode cX1_doSlot 100 = .ok (.aload_n 0, 1) := by decide +kernel
theorem dX1_doSlot_101 : decode cX1_doSlot 101 = .ok (.getfield 18, 3) := by decide +kernel
theorem dX1_doSlot_104 : decode cX1_doSlot 104 = .ok (.iload_n 1, 1) := by decide +kernel
theorem dX1_doSlot_105 : decode cX1_doSlot 105 = .ok (.invokevirtual 94, 3) := by decide +kernel
theorem dX1_doSlot_108 : decode cX1_doSlot 108 = .ok (.ifCond .eq 25, 3) := by decide +kernel
theorem dX1_doSlot_111 : decode cX1_doSlot 111 = .ok (.aload_n 0, 1) := by decide +kernel
theorem dX1_doSlot_112 : decode cX1_doSlot 112 = .ok (.iload_n 1, 1) := by decide +kernel
theorem dX1_doSlot_113 : decode cX1_doSlot 113 = .ok (.aload_n 0, 1) := by decide +kernel
theorem dX1_doSlot_114 : decode cX1_doSlot 114 = .ok (.getfield 9, 3) := by decide +kernel
theorem dX1_doSlot_117 : decode cX1_doSlot 117 = .ok (.aload_n 0, 1) := by decide +kernel
theorem dX1_doSlot_118 : decode cX1_doSlot 118 = .ok (.getfield 18, 3) := by decide +kernel
theorem dX1_doSlot_121 : decode cX1_doSlot 121 = .ok (.getfield 97, 3) := by decide +kernel
theorem dX1_doSlot_124 : decode cX1_doSlot 124 = .ok (.iload_n 1, 1) := by decide +kernel
theorem dX1_doSlot_125 : decode cX1_doSlot 125 = .ok (.iaload, 1) := by decide +kernel
theorem dX1_doSlot_126 : decode cX1_doSlot 126 = .ok (.laload, 1) := by decide +kernel
theorem dX1_doSlot_127 : decode cX1_doSlot 127 = .ok (.invokevirtual 90, 3) := by decide +kernel
theorem dX1_doSlot_130 : decode cX1_doSlot 130 = .ok (.goto 8, 3) := by decide +kernel
theorem dX1_doSlot_133 : decode cX1_doSlot 133 = .ok (.aload_n 0, 1) := by decide +kernel
theorem dX1_doSlot_134 : decode cX1_doSlot 134 = .ok (.iload_n 1, 1) := by decide +kernel
theorem dX1_doSlot_135 : decode cX1_doSlot 135 = .ok (.invokevirtual 100, 3) := by decide +kernel
theorem dX1_doSlot_138 : decode cX1_doSlot 138 = .ok (.ireturn, 1) := by decide +kernel
theorem dX1_doSlot_139 : decode cX1_doSlot 139 = .ok (.aload_n 0, 1) := by decide +kernel
theorem dX1_doSlot_140 : decode cX1_doSlot 140 = .ok (.iload_n 1, 1) := by decide +kernel
theorem dX1_doSlot_141 : decode cX1_doSlot 141 = .ok (.invokevirtual 103, 3) := by decide +kernel
theorem dX1_doSlot_144 : decode cX1_doSlot 144 = .ok (.ireturn, 1) := by decide +kernel
theorem dX1_doSlot_145 : decode cX1_doSlot 145 = .ok (.aload_n 0, 1) := by decide +kernel
theorem dX1_doSlot_146 : decode cX1_doSlot 146 = .ok (.getfield 18, 3) := by decide +kernel
theorem dX1_doSlot_149 : decode cX1_doSlot 149 = .ok (.iload_n 1, 1) := by decide +kernel
theorem dX1_doSlot_150 : decode cX1_doSlot 150 = .ok (.invokevirtual 106, 3) := by decide +kernel
theorem dX1_doSlot_153 : decode cX1_doSlot 153 = .ok (.bipush 8, 2) := by decide +kernel
theorem dX1_doSlot_155 : decode cX1_doSlot 155 = .ok (.if_icmp .ne 20, 3) := by decide +kernel
theorem dX1_doSlot_158 : decode cX1_doSlot 158 = .ok (.aload_n 0, 1) := by decide +kernel
theorem dX1_doSlot_159 : decode cX1_doSlot 159 = .ok (.iload_n 1, 1) := by decide +kernel
theorem dX1_doSlot_160 : decode cX1_doSlot 160 = .ok (.aload_n 0, 1) := by decide +kernel
theorem dX1_doSlot_161 : decode cX1_doSlot 161 = .ok (.getfield 18, 3) := by decide +kernel
theorem dX1_doSlot_164 : decode cX1_doSlot 164 = .ok (.getfield 87, 3) := by decide +kernel
theorem dX1_doSlot_167 : decode cX1_doSlot 167 = .ok (.iload_n 1, 1) := by decide +kernel
theorem dX1_doSlot_168 : decode cX1_doSlot 168 = .ok (.iaload, 1) := by decide +kernel
theorem dX1_doSlot_169 : decode cX1_doSlot 169 = .ok (.invokevirtual 109, 3) := by decide +kernel
theorem dX1_doSlot_172 : decode cX1_doSlot 172 = .ok (.goto 8, 3) := by decide +kernel
theorem dX1_doSlot_175 : decode cX1_doSlot 175 = .ok (.aload_n 0, 1) := by decide +kernel
theorem dX1_doSlot_176 : decode cX1_doSlot 176 = .ok (.iload_n 1, 1) := by decide +kernel
theorem dX1_doSlot_177 : decode cX1_doSlot 177 = .ok (.invokevirtual 112, 3) := by decide +kernel
theorem dX1_doSlot_180 : decode cX1_doSlot 180 = .ok (.ireturn, 1) := by decide +kernel
theorem dX1_advance_0 : decode cX1_advance 0 = .ok (.aload_n 0, 1) := by decide +kernel
theorem dX1_advance_1 : decode cX1_advance 1 = .ok (.getfield 18, 3) := by decide +kernel
theorem dX1_advance_4 : decode cX1_advance 4 = .ok (.aload_n 0, 1) := by decide +kernel
theorem dX1_advance_5 : decode cX1_advance 5 = .ok (.getfield 49, 3) := by decide +kernel
theorem dX1_advance_8 : decode cX1_advance 8 = .ok (.invokevirtual 64, 3) := by decide +kernel
theorem dX1_advance_11 : decode cX1_advance 11 = .ok (.ifCond .eq 14, 3) := by decide +kernel
theorem dX1_advance_14 : decode cX1_advance 14 = .ok (.aload_n 0, 1) := by decide +kernel
theorem dX1_advance_15 : decode cX1_advance 15 = .ok (.aload_n 0, 1) := by decide +kernel
theorem dX1_advance_16 : decode cX1_advance 16 = .ok (.getfield 49, 3) := by decide +kernel
theorem dX1_advance_19 : decode cX1_advance 19 = .ok (.invokevirtual 70, 3) := by decide +kernel
theorem dX1_advance_22 : decode cX1_advance 22 = .ok (.goto 4, 3) := by decide +kernel
theorem dX1_advance_25 : decode cX1_advance 25 = .ok (.iconst 5, 1) := by decide +kernel
theorem dX1_advance_26 : decode cX1_advance 26 = .ok (.istore_n 1, 1) := by decide +kernel
theorem dX1_advance_27 : decode cX1_advance 27 = .ok (.iload_n 1, 1) := by decide +kernel
theorem dX1_advance_28 : decode cX1_advance 28 = .ok (.iconst 1, 1) := by decide +kernel
theorem dX1_advance_29 : decode cX1_advance 29 = .ok (.if_icmp .eq 8, 3) := by decide +kernel
theorem dX1_advance_32 : decode cX1_advance 32 = .ok (.iload_n 1, 1) := by decide +kernel
theorem dX1_advance_33 : decode cX1_advance 33 = .ok (.iconst 2, 1) := by decide +kernel
theorem dX1_advance_34 : decode cX1_advance 34 = .ok (.if_icmp .ne 13, 3) := by decide +kernel
theorem dX1_advance_37 : decode cX1_advance 37 = .ok (.aload_n 0, 1) := by decide +kernel
theorem dX1_advance_38 : decode cX1_advance 38 = .ok (.dup, 1) := by decide +kernel
theorem dX1_advance_39 : decode cX1_advance 39 = .ok (.getfield 52, 3) := by decide +kernel
theorem dX1_advance_42 : decode cX1_advance 42 = .ok (.iconst 1, 1) := by decide +kernel
theorem dX1_advance_43 : decode cX1_advance 43 = .ok (.iadd, 1) := by decide +kernel
theorem dX1_advance_44 : decode cX1_advance 44 = .ok (.putfield 52, 3) := by decide +kernel
theorem dX1_advance_47 : decode cX1_advance 47 = .ok (.aload_n 0, 1) := by decide +kernel
theorem dX1_advance_48 : decode cX1_advance 48 = .ok (.iload_n 1, 1) := by decide +kernel
theorem dX1_advance_49 : decode cX1_advance 49 = .ok (.putfield 55, 3) := by decide +kernel
theorem dX1_advance_52 : decode cX1_advance 52 = .ok (.iload_n 1, 1) := by decide +kernel
theorem dX1_advance_53 : decode cX1_advance 53 = .ok (.ireturn, 1) := by decide +kernel
theorem dX1_keptPut_0 : decode cX1_keptPut 0 = .ok (.aload_n 0, 1) := by decide +kernel
theorem dX1_keptPut_1 : decode cX1_keptPut 1 = .ok (.getfield 45, 3) := by decide +kernel
theorem dX1_keptPut_4 : decode cX1_keptPut 4 = .ok (.bipush 32, 2) := by decide +kernel
theorem dX1_keptPut_6 : decode cX1_keptPut 6 = .ok (.invokestatic 58, 3) := by decide +kernel
theorem dX1_keptPut_9 : decode cX1_keptPut 9 = .ok (.istore_n 2, 1) := by decide +kernel
theorem dX1_keptPut_10 : decode cX1_keptPut 10 = .ok (.iload_n 1, 1) := by decide +kernel
theorem dX1_keptPut_11 : decode cX1_keptPut 11 = .ok (.ifCond .lt 8, 3) := by decide +kernel
theorem dX1_keptPut_14 : decode cX1_keptPut 14 = .ok (.iload_n 1, 1) := by decide +kernel
theorem dX1_keptPut_15 : decode cX1_keptPut 15 = .ok (.iload_n 2, 1) := by decide +kernel
theorem dX1_keptPut_16 : decode cX1_keptPut 16 = .ok (.if_icmp .lt 7, 3) := by decide +kernel
theorem dX1_keptPut_19 : decode cX1_keptPut 19 = .ok (.lconst 0, 1) := by decide +kernel
theorem dX1_keptPut_20 : decode cX1_keptPut 20 = .ok (.goto 19, 3) := by decide +kernel
theorem dX1_keptPut_23 : decode cX1_keptPut 23 = .ok (.aload_n 0, 1) := by decide +kernel
theorem dX1_keptPut_24 : decode cX1_keptPut 24 = .ok (.getfield 15, 3) := by decide +kernel
theorem dX1_keptPut_27 : decode cX1_keptPut 27 = .ok (.aload_n 0, 1) := by decide +kernel
theorem dX1_keptPut_28 : decode cX1_keptPut 28 = .ok (.getfield 45, 3) := by decide +kernel
theorem dX1_keptPut_31 : decode cX1_keptPut 31 = .ok (.iload_n 2, 1) := by decide +kernel
theorem dX1_keptPut_32 : decode cX1_keptPut 32 = .ok (.isub, 1) := by decide +kernel
theorem dX1_keptPut_33 : decode cX1_keptPut 33 = .ok (.iload_n 1, 1) := by decide +kernel
theorem dX1_keptPut_34 : decode cX1_keptPut 34 = .ok (.iadd, 1) := by decide +kernel
theorem dX1_keptPut_35 : decode cX1_keptPut 35 = .ok (.bipush 32, 2) := by decide +kernel
theorem dX1_keptPut_37 : decode cX1_keptPut 37 = .ok (.irem, 1) := by decide +kernel
theorem dX1_keptPut_38 : decode cX1_keptPut 38 = .ok (.laload, 1) := by decide +kernel
theorem dX1_keptPut_39 : decode cX1_keptPut 39 = .ok (.lreturn, 1) := by decide +kernel
-- JudgedCode$Machine.doSlot
def f_X1_doSlot_145 (S : sh) (o0 : Nat) (x1 : Int32) (D : dt) : Option (Int32 × dt) := rq (gR D o0 0) fun o98 => cq (f_X4_code S o98 x1 D) fun r103 D104 => if r103 = (8 : Int32) then (rq (gR D104 o0 0) fun o109 => rq (gR D104 o109 4) fun o113 => ix x1 (sA S o113) <| cq (f_X1_doCall S o0 x1 (gI D104 o113 x1.toNatClampNeg) D104) fun r119 D120 => some (r119, D120)) else (cq (f_X1_doJump S o0 x1 D104) fun r107 D108 => some (r107, D108))
def f_X1_doSlot_139 (S : sh) (o0 : Nat) (x1 : Int32) (D : dt) : Option (Int32 × dt) := cq (f_X1_doArithmetic S o0 x1 D) fun r122 D123 => some (r122, D123)
def f_X1_doSlot (S : sh) (o0 : Nat) (x1 : Int32) (D : dt) : Option (Int32 × dt) := rq (gR D o0 0) fun o124 => cq (f_X4_isBad S o124 x1 D) fun r129 D130 => if r129 = 0 then (rq (gR D130 o0 0) fun o132 => rq (gR D130 o132 0) fun o136 => ix x1 (sA S o136) <| if ((gI D130 o136 x1.toNatClampNeg) &&& (7 : Int32)) = 0 then (cq (f_X1_doPair S o0 x1 D130) fun r143 D144 => some (r143, D144)) else if ((gI D130 o136 x1.toNatClampNeg) &&& (7 : Int32)) = 1 then (cq (f_X1_doLoad S o0 x1 D130) fun r147 D148 => some (r147, D148)) else if ((gI D130 o136 x1.toNatClampNeg) &&& (7 : Int32)) = 2 then (rq (gR D130 o0 0) fun o150 => rq (gR D130 o150 4) fun o154 => ix x1 (sA S o154) <| cq (f_X1_doPut S o0 x1 ((gI D130 o154 x1.toNatClampNeg).toInt64) D130) fun r160 D161 => some (r160, D161)) else if ((gI D130 o136 x1.toNatClampNeg) &&& (7 : Int32)) = 3 then (rq (gR D130 o0 0) fun o163 => cq (f_X4_isPlainPut S o163 x1 D130) fun r168 D169 => if r168 = 0 then (cq (f_X1_doChange S o0 x1 D169) fun r172 D173 => some (r172, D173)) else (rq (gR D169 o0 2) fun o174 => rq (gR D169 o0 0) fun o178 => rq (gR D169 o178 2) fun o182 => ix x1 (sA S o182) <| ix (gI D169 o182 x1.toNatClampNeg) (sA S o174) <| cq (f_X1_doPut S o0 x1 (gL D169 o174 (gI D169 o182 x1.toNatClampNeg).toNatClampNeg) D169) fun r189 D190 => some (r189, D190))) else if ((gI D130 o136 x1.toNatClampNeg) &&& (7 : Int32)) = 4 then (f_X1_doSlot_139 S o0 x1 D130) else if ((gI D130 o136 x1.toNatClampNeg) &&& (7 : Int32)) = 5 then (f_X1_doSlot_145 S o0 x1 D130) else if ((gI D130 o136 x1.toNatClampNeg) &&& (7 : Int32)) = 6 then (f_X1_doSlot_145 S o0 x1 D130) else if ((gI D130 o136 x1.toNatClampNeg) &&& (7 : Int32)) = 7 then (f_X1_doSlot_139 S o0 x1 D130) else (f_X1_doSlot_145 S o0 x1 D130)) else (some ((3 : Int32), D130))
-- JudgedCode$Machine.advance
def f_X1_advance_47 (S : sh) (o0 : Nat) (x1 : Int32) (D : dt) : Option (Int32 × dt) := nm (pI D o0 5 x1) fun D16 => some (x1, D16)
def f_X1_advance_37 (S : sh) (o0 : Nat) (x1 : Int32) (D : dt) : Option (Int32 × dt) := nm (pI D o0 7 ((gI D o0 7) + (1 : Int32))) fun D17 => f_X1_advance_47 S o0 x1 D17
def f_X1_advance_26 (S : sh) (o0 : Nat) (xs0 : Int32) (D : dt) : Option (Int32 × dt) := if xs0 = (1 : Int32) then (f_X1_advance_37 S o0 xs0 D) else (if xs0 = (2 : Int32) then (f_X1_advance_37 S o0 xs0 D) else (f_X1_advance_47 S o0 xs0 D))
def f_X1_advance (S : sh) (o0 : Nat) (D : dt) : Option (Int32 × dt) := rq (gR D o0 0) fun o20 => cq (f_X4_has S o20 (gI D o0 6) D) fun r25 D26 => if r25 = 0 then (f_X1_advance_26 S o0 (5 : Int32) D26) else (cq (f_X1_doSlot S o0 (gI D26 o0 6) D26) fun r29 D30 => f_X1_advance_26 S o0 r29 D30)
-- JudgedCode$Machine.keptPut
def f_X1_keptPut_19 (S : sh) (D : dt) : Option (Int64 × dt) := some ((0 : Int64), D)
def f_X1_keptPut (S : sh) (o0 : Nat) (x1 : Int32) (D : dt) : Option (Int64 × dt) := nm ((if (32 : Int32) < (gI D o0 4) then (32 : Int32) else (gI D o0 4))) fun y9 => if x1 < 0 then (f_X1_keptPut_19 S D) else (if x1 < y9 then (rq (gR D o0 3) fun o12 => ix ((((gI D o0 4) - y9) + x1) - (((gI D o0 4) - y9) + x1) / (32 : Int32) * (32 : Int32)) (sA S o12) <| some ((gL D o12 ((((gI D o0 4) - y9) + x1) - (((gI D o0 4) - y9) + x1) / (32 : Int32) * (32 : Int32)).toNatClampNeg), D)) else (f_X1_keptPut_19 S D))
theorem mk_X1_doSlot : MkV yX1_doSlot RX1 cX1_doSlot 2 (some .int) 1 := ⟨⟨lk_908, lk_44, lk_117, (tb_in (i := 909) (by decide +kernel) (by decide +kernel))⟩, by decide +kernel⟩
theorem mk_X1_advance : MkV yX1_advance RX1 cX1_advance 2 (some .int) 0 := ⟨⟨lk_902, lk_903, lk_117, (tb_in (i := 904) (by decide +kernel) (by decide +kernel))⟩, by decide +kernel⟩
theorem mk_X1_keptPut : MkV yX1_keptPut RX1 cX1_keptPut 3 (some .long) 1 := ⟨⟨lk_1047, lk_1048, lk_117, (tb_in (i := 1049) (by decide +kernel) (by decide +kernel))⟩, by decide +kernel⟩
section
variable {p : Program} {l : Launch} {e : Env} {R : Room} {s : State} {m : MethodId} {args : Array Value} {below : List Frame} {meth : Method} {c : Code} {H : Heap} {locs : List Loc} {G : va_G} {cA : Nat → ClassId} {S : sh} {D : dt} {ad : Nat → Nat} {A : Nat → Prop}
set_option maxHeartbeats 4000000 in
set_option maxRecDepth 100000 in
theorem w_X1_doSlot_145 {r : Int32} {D' : dt} (hC : Cx RX1 cX1_doSlot 2 (some .int) p s m args meth c) (hR : 4 ≤ R.frames ∧ 104 ≤ R.locals) : ∀ (o0 a0 : Nat) (x1 : Int32) (D : dt) (H : Heap) (locs : List Loc) (ls : Array Slot), Is S ad o0 a0 1 → Wd G cA S D ad A s H locs → lv_has ls 2 [(0, .ref a0), (1, .int x1)] → f_X1_doSlot_145 S o0 x1 D = some (r, D') → W p l e R s m args below meth c H locs 0 0 (MQ below (Qn (some (.int r)) True (wpost G cA S D' ad A) A) args s 0 0 A) (F0 m 145 ls []) := by
  obtain ⟨hx, hb, -⟩ := id hC
  intro o0 a0 x1 D H locs ls hi0 hw hl h
  unfold f_X1_doSlot_145 at h
  refine lv_aload_n hx hb dX1_doSlot_145 rfl (lv_at hl 0 rfl) ?_
  obtain ⟨o98, ho101, h⟩ := rq_i h
  refine r_getR hC hw kc_1 hi0 0 rfl lk_219 dX1_doSlot_146 rfl ho101 (fun a99 hi100 => ?_)
  refine lv_iload_n hx hb dX1_doSlot_149 rfl (lv_at hl 1 rfl) ?_
  obtain ⟨r103, D104, hq102, h⟩ := cq_i h
  refine r_cV (st' := [.int r103]) [.int x1] [] hC hw kc_3 hi100 (k_X4_code _ hi100 hq102) mk_X4_code lk_967 ⟨Nat.le_trans (by decide) hR.1, Nat.le_trans (by decide) hR.2⟩ ⟨Nat.zero_le _, Nat.zero_le _⟩ rfl hl.1 rfl rfl (Nat.le_of_ble_eq_true rfl) dX1_doSlot_150 (fun hP H locs hw => ?_)
  refine lv_bipush (v := 8) hx hb dX1_doSlot_153 (by decide) ?_
  refine lv_icmp_ne (tgt := 175) hx hb dX1_doSlot_155 (by decide) (fun c105 => ?_) (fun c105 => ?_)
  · have h := i_no c105 h
    refine lv_aload_n hx hb dX1_doSlot_175 rfl (lv_at hl 0 rfl) ?_
    refine lv_iload_n hx hb dX1_doSlot_176 rfl (lv_at hl 1 rfl) ?_
    obtain ⟨r107, D108, hq106, h⟩ := cq_i h
    refine r_cV (st' := [.int r107]) [.int x1] [] hC hw kc_1 hi0 (k_X1_doJump _ hi0 hq106) mk_X1_doJump lk_1012 ⟨Nat.le_trans (by decide) hR.1, Nat.le_trans (by decide) hR.2⟩ ⟨Nat.zero_le _, Nat.zero_le _⟩ rfl hl.1 rfl rfl (Nat.le_of_ble_eq_true rfl) dX1_doSlot_177 (fun hP H locs hw => ?_)
    cases h
    exact r_iret hC hw dX1_doSlot_180
  · have h := i_yes c105 h
    refine lv_aload_n hx hb dX1_doSlot_158 rfl (lv_at hl 0 rfl) ?_
    refine lv_iload_n hx hb dX1_doSlot_159 rfl (lv_at hl 1 rfl) ?_
    refine lv_aload_n hx hb dX1_doSlot_160 rfl (lv_at hl 0 rfl) ?_
    obtain ⟨o109, ho112, h⟩ := rq_i h
    refine r_getR hC hw kc_1 hi0 0 rfl lk_219 dX1_doSlot_161 rfl ho112 (fun a110 hi111 => ?_)
    obtain ⟨o113, ho116, h⟩ := rq_i h
    refine r_getR hC hw kc_3 hi111 4 rfl lk_154 dX1_doSlot_164 rfl ho116 (fun a114 hi115 => ?_)
    refine lv_iload_n hx hb dX1_doSlot_167 rfl (lv_at hl 1 rfl) ?_
    obtain ⟨hn117, h⟩ := ix_i h
    refine r_iald hC hw hi115 hn117 dX1_doSlot_168 ?_
    obtain ⟨r119, D120, hq118, h⟩ := cq_i h
    refine r_cV (st' := [.int r119]) [.int x1, .int (gI D104 o113 x1.toNatClampNeg)] [] hC hw kc_1 hi0 (k_X1_doCall _ hi0 hq118) mk_X1_doCall lk_975 ⟨Nat.le_trans (by decide) hR.1, Nat.le_trans (by decide) hR.2⟩ ⟨Nat.zero_le _, Nat.zero_le _⟩ rfl hl.1 rfl rfl (Nat.le_of_ble_eq_true rfl) dX1_doSlot_169 (fun hP H locs hw => ?_)
    refine lv_goto (tgt := 180) hx hb dX1_doSlot_172 (by decide) ?_
    cases h
    exact r_iret hC hw dX1_doSlot_180
set_option maxHeartbeats 4000000 in
set_option maxRecDepth 100000 in
theorem w_X1_doSlot_139 {r : Int32} {D' : dt} (hC : Cx RX1 cX1_doSlot 2 (some .int) p s m args meth c) (hR : 4 ≤ R.frames ∧ 104 ≤ R.locals) : ∀ (o0 a0 : Nat) (x1 : Int32) (D : dt) (H : Heap) (locs : List Loc) (ls : Array Slot), Is S ad o0 a0 1 → Wd G cA S D ad A s H locs → lv_has ls 2 [(0, .ref a0), (1, .int x1)] → f_X1_doSlot_139 S o0 x1 D = some (r, D') → W p l e R s m args below meth c H locs 0 0 (MQ below (Qn (some (.int r)) True (wpost G cA S D' ad A) A) args s 0 0 A) (F0 m 139 ls []) := by
  obtain ⟨hx, hb, -⟩ := id hC
  intro o0 a0 x1 D H locs ls hi0 hw hl h
  unfold f_X1_doSlot_139 at h
  refine lv_aload_n hx hb dX1_doSlot_139 rfl (lv_at hl 0 rfl) ?_
  refine lv_iload_n hx hb dX1_doSlot_140 rfl (lv_at hl 1 rfl) ?_
  obtain ⟨r122, D123, hq121, h⟩ := cq_i h
  refine r_cV (st' := [.int r122]) [.int x1] [] hC hw kc_1 hi0 (k_X1_doArithmetic _ hi0 hq121) mk_X1_doArithmetic lk_963 ⟨Nat.le_trans (by decide) hR.1, Nat.le_trans (by decide) hR.2⟩ ⟨Nat.zero_le _, Nat.zero_le _⟩ rfl hl.1 rfl rfl (Nat.le_of_ble_eq_true rfl) dX1_doSlot_141 (fun hP H locs hw => ?_)
  cases h
  exact r_iret hC hw dX1_doSlot_144
set_option maxHeartbeats 4000000 in
set_option maxRecDepth 100000 in
theorem w_X1_doSlot_0 {r : Int32} {D' : dt} (hC : Cx RX1 cX1_doSlot 2 (some .int) p s m args meth c) (hR : 4 ≤ R.frames ∧ 104 ≤ R.locals) : ∀ (o0 a0 : Nat) (x1 : Int32) (D : dt) (H : Heap) (locs : List Loc) (ls : Array Slot), Is S ad o0 a0 1 → Wd G cA S D ad A s H locs → lv_has ls 2 [(0, .ref a0), (1, .int x1)] → f_X1_doSlot S o0 x1 D = some (r, D') → W p l e R s m args below meth c H locs 0 0 (MQ below (Qn (some (.int r)) True (wpost G cA S D' ad A) A) args s 0 0 A) (F0 m 0 ls []) := by
  obtain ⟨hx, hb, -⟩ := id hC
  intro o0 a0 x1 D H locs ls hi0 hw hl h
  unfold f_X1_doSlot at h
  refine lv_aload_n hx hb dX1_doSlot_0 rfl (lv_at hl 0 rfl) ?_
  obtain ⟨o124, ho127, h⟩ := rq_i h
  refine r_getR hC hw kc_1 hi0 0 rfl lk_219 dX1_doSlot_1 rfl ho127 (fun a125 hi126 => ?_)
  refine lv_iload_n hx hb dX1_doSlot_4 rfl (lv_at hl 1 rfl) ?_
  obtain ⟨r129, D130, hq128, h⟩ := cq_i h
  refine r_cV (st' := [.int r129]) [.int x1] [] hC hw kc_3 hi126 (k_X4_isBad _ hi126 hq128) mk_X4_isBad lk_910 ⟨Nat.le_trans (by decide) hR.1, Nat.le_trans (by decide) hR.2⟩ ⟨Nat.zero_le _, Nat.zero_le _⟩ rfl hl.1 rfl rfl (Nat.le_of_ble_eq_true rfl) dX1_doSlot_5 (fun hP H locs hw => ?_)
  refine lv_if_eq (tgt := 13) hx hb dX1_doSlot_8 (by decide) (fun c131 => ?_) (fun c131 => ?_)
  · have h := i_yes c131 h
    refine lv_aload_n hx hb dX1_doSlot_13 rfl (lv_at hl 0 rfl) ?_
    obtain ⟨o132, ho135, h⟩ := rq_i h
    refine r_getR hC hw kc_1 hi0 0 rfl lk_219 dX1_doSlot_14 rfl ho135 (fun a133 hi134 => ?_)
    obtain ⟨o136, ho139, h⟩ := rq_i h
    refine r_getR hC hw kc_3 hi134 0 rfl lk_142 dX1_doSlot_17 rfl ho139 (fun a137 hi138 => ?_)
    refine lv_iload_n hx hb dX1_doSlot_20 rfl (lv_at hl 1 rfl) ?_
    obtain ⟨hn140, h⟩ := ix_i h
    refine r_iald hC hw hi138 hn140 dX1_doSlot_21 ?_
    refine lv_bipush (v := 7) hx hb dX1_doSlot_22 (by decide) ?_
    refine lv_iand hx hb dX1_doSlot_24 ?_
    by_cases c141 : ((gI D130 o136 x1.toNatClampNeg) &&& (7 : Int32)) = 0
    · have h := i_yes c141 h
      refine lv_tableIn (off := 47) (tgt := 72) hx hb dX1_doSlot_25 (by rw [c141]; decide) (by rw [c141]; decide) (by rw [c141] <;> rfl) (by decide) ?_
      refine lv_aload_n hx hb dX1_doSlot_72 rfl (lv_at hl 0 rfl) ?_
      refine lv_iload_n hx hb dX1_doSlot_73 rfl (lv_at hl 1 rfl) ?_
      obtain ⟨r143, D144, hq142, h⟩ := cq_i h
      refine r_cV (st' := [.int r143]) [.int x1] [] hC hw kc_1 hi0 (k_X1_doPair _ hi0 hq142) mk_X1_doPair lk_911 ⟨Nat.le_trans (by decide) hR.1, Nat.le_trans (by decide) hR.2⟩ ⟨Nat.zero_le _, Nat.zero_le _⟩ rfl hl.1 rfl rfl (Nat.le_of_ble_eq_true rfl) dX1_doSlot_74 (fun hP H locs hw => ?_)
      cases h
      exact r_iret hC hw dX1_doSlot_77
    have h := i_no c141 h
    by_cases c145 : ((gI D130 o136 x1.toNatClampNeg) &&& (7 : Int32)) = 1
    · have h := i_yes c145 h
      refine lv_tableIn (off := 53) (tgt := 78) hx hb dX1_doSlot_25 (by rw [c145]; decide) (by rw [c145]; decide) (by rw [c145] <;> rfl) (by decide) ?_
      refine lv_aload_n hx hb dX1_doSlot_78 rfl (lv_at hl 0 rfl) ?_
      refine lv_iload_n hx hb dX1_doSlot_79 rfl (lv_at hl 1 rfl) ?_
      obtain ⟨r147, D148, hq146, h⟩ := cq_i h
      refine r_cV (st' := [.int r147]) [.int x1] [] hC hw kc_1 hi0 (k_X1_doLoad _ hi0 hq146) mk_X1_doLoad lk_922 ⟨Nat.le_trans (by decide) hR.1, Nat.le_trans (by decide) hR.2⟩ ⟨Nat.zero_le _, Nat.zero_le _⟩ rfl hl.1 rfl rfl (Nat.le_of_ble_eq_true rfl) dX1_doSlot_80 (fun hP H locs hw => ?_)
      cases h
      exact r_iret hC hw dX1_doSlot_83
    have h := i_no c145 h
    by_cases c149 : ((gI D130 o136 x1.toNatClampNeg) &&& (7 : Int32)) = 2
    · have h := i_yes c149 h
      refine lv_tableIn (off := 59) (tgt := 84) hx hb dX1_doSlot_25 (by rw [c149]; decide) (by rw [c149]; decide) (by rw [c149] <;> rfl) (by decide) ?_
      refine lv_aload_n hx hb dX1_doSlot_84 rfl (lv_at hl 0 rfl) ?_
      refine lv_iload_n hx hb dX1_doSlot_85 rfl (lv_at hl 1 rfl) ?_
      refine lv_aload_n hx hb dX1_doSlot_86 rfl (lv_at hl 0 rfl) ?_
      obtain ⟨o150, ho153, h⟩ := rq_i h
      refine r_getR hC hw kc_1 hi0 0 rfl lk_219 dX1_doSlot_87 rfl ho153 (fun a151 hi152 => ?_)
      obtain ⟨o154, ho157, h⟩ := rq_i h
      refine r_getR hC hw kc_3 hi152 4 rfl lk_154 dX1_doSlot_90 rfl ho157 (fun a155 hi156 => ?_)
      refine lv_iload_n hx hb dX1_doSlot_93 rfl (lv_at hl 1 rfl) ?_
      obtain ⟨hn158, h⟩ := ix_i h
      refine r_iald hC hw hi156 hn158 dX1_doSlot_94 ?_
      refine lv_i2l (v := (gI D130 o154 x1.toNatClampNeg).toInt64) hx hb dX1_doSlot_95 rfl ?_
      obtain ⟨r160, D161, hq159, h⟩ := cq_i h
      refine r_cV (st' := [.int r160]) [.int x1, .long ((gI D130 o154 x1.toNatClampNeg).toInt64)] [] hC hw kc_1 hi0 (k_X1_doPut _ hi0 hq159) mk_X1_doPut lk_949 ⟨Nat.le_trans (by decide) hR.1, Nat.le_trans (by decide) hR.2⟩ ⟨Nat.zero_le _, Nat.zero_le _⟩ rfl hl.1 rfl rfl (Nat.le_of_ble_eq_true rfl) dX1_doSlot_96 (fun hP H locs hw => ?_)
      cases h
      exact r_iret hC hw dX1_doSlot_99
    have h := i_no c149 h
    by_cases c162 : ((gI D130 o136 x1.toNatClampNeg) &&& (7 : Int32)) = 3
    · have h := i_yes c162 h
      refine lv_tableIn (off := 75) (tgt := 100) hx hb dX1_doSlot_25 (by rw [c162]; decide) (by rw [c162]; decide) (by rw [c162] <;> rfl) (by decide) ?_
      refine lv_aload_n hx hb dX1_doSlot_100 rfl (lv_at hl 0 rfl) ?_
      obtain ⟨o163, ho166, h⟩ := rq_i h
      refine r_getR hC hw kc_1 hi0 0 rfl lk_219 dX1_doSlot_101 rfl ho166 (fun a164 hi165 => ?_)
      refine lv_iload_n hx hb dX1_doSlot_104 rfl (lv_at hl 1 rfl) ?_
      obtain ⟨r168, D169, hq167, h⟩ := cq_i h
      refine r_cV (st' := [.int r168]) [.int x1] [] hC hw kc_3 hi165 (k_X4_isPlainPut _ hi165 hq167) mk_X4_isPlainPut lk_957 ⟨Nat.le_trans (by decide) hR.1, Nat.le_trans (by decide) hR.2⟩ ⟨Nat.zero_le _, Nat.zero_le _⟩ rfl hl.1 rfl rfl (Nat.le_of_ble_eq_true rfl) dX1_doSlot_105 (fun hP H locs hw => ?_)
      refine lv_if_eq (tgt := 133) hx hb dX1_doSlot_108 (by decide) (fun c170 => ?_) (fun c170 => ?_)
      · have h := i_yes c170 h
        refine lv_aload_n hx hb dX1_doSlot_133 rfl (lv_at hl 0 rfl) ?_
        refine lv_iload_n hx hb dX1_doSlot_134 rfl (lv_at hl 1 rfl) ?_
        obtain ⟨r172, D173, hq171, h⟩ := cq_i h
        refine r_cV (st' := [.int r172]) [.int x1] [] hC hw kc_1 hi0 (k_X1_doChange _ hi0 hq171) mk_X1_doChange lk_958 ⟨Nat.le_trans (by decide) hR.1, Nat.le_trans (by decide) hR.2⟩ ⟨Nat.zero_le _, Nat.zero_le _⟩ rfl hl.1 rfl rfl (Nat.le_of_ble_eq_true rfl) dX1_doSlot_135 (fun hP H locs hw => ?_)
        cases h
        exact r_iret hC hw dX1_doSlot_138
      · have h := i_no c170 h
        refine lv_aload_n hx hb dX1_doSlot_111 rfl (lv_at hl 0 rfl) ?_
        refine lv_iload_n hx hb dX1_doSlot_112 rfl (lv_at hl 1 rfl) ?_
        refine lv_aload_n hx hb dX1_doSlot_113 rfl (lv_at hl 0 rfl) ?_
        obtain ⟨o174, ho177, h⟩ := rq_i h
        refine r_getR hC hw kc_1 hi0 2 rfl lk_221 dX1_doSlot_114 rfl ho177 (fun a175 hi176 => ?_)
        refine lv_aload_n hx hb dX1_doSlot_117 rfl (lv_at hl 0 rfl) ?_
        obtain ⟨o178, ho181, h⟩ := rq_i h
        refine r_getR hC hw kc_1 hi0 0 rfl lk_219 dX1_doSlot_118 rfl ho181 (fun a179 hi180 => ?_)
        obtain ⟨o182, ho185, h⟩ := rq_i h
        refine r_getR hC hw kc_3 hi180 2 rfl lk_148 dX1_doSlot_121 rfl ho185 (fun a183 hi184 => ?_)
        refine lv_iload_n hx hb dX1_doSlot_124 rfl (lv_at hl 1 rfl) ?_
        obtain ⟨hn186, h⟩ := ix_i h
        refine r_iald hC hw hi184 hn186 dX1_doSlot_125 ?_
        obtain ⟨hn187, h⟩ := ix_i h
        refine r_lald hC hw hi176 hn187 dX1_doSlot_126 ?_
        obtain ⟨r189, D190, hq188, h⟩ := cq_i h
        refine r_cV (st' := [.int r189]) [.int x1, .long (gL D169 o174 (gI D169 o182 x1.toNatClampNeg).toNatClampNeg)] [] hC hw kc_1 hi0 (k_X1_doPut _ hi0 hq188) mk_X1_doPut lk_949 ⟨Nat.le_trans (by decide) hR.1, Nat.le_trans (by decide) hR.2⟩ ⟨Nat.zero_le _, Nat.zero_le _⟩ rfl hl.1 rfl rfl (Nat.le_of_ble_eq_true rfl) dX1_doSlot_127 (fun hP H locs hw => ?_)
        refine lv_goto (tgt := 138) hx hb dX1_doSlot_130 (by decide) ?_
        cases h
        exact r_iret hC hw dX1_doSlot_138
    have h := i_no c162 h
    by_cases c191 : ((gI D130 o136 x1.toNatClampNeg) &&& (7 : Int32)) = 4
    · have h := i_yes c191 h
      refine lv_tableIn (off := 114) (tgt := 139) hx hb dX1_doSlot_25 (by rw [c191]; decide) (by rw [c191]; decide) (by rw [c191] <;> rfl) (by decide) ?_
      exact w_X1_doSlot_139 hC hR o0 a0 x1 _ _ _ _ hi0 hw (lv_sub hl [0, 1] rfl) h
    have h := i_no c191 h
    by_cases c192 : ((gI D130 o136 x1.toNatClampNeg) &&& (7 : Int32)) = 5
    · have h := i_yes c192 h
      refine lv_tableIn (off := 120) (tgt := 145) hx hb dX1_doSlot_25 (by rw [c192]; decide) (by rw [c192]; decide) (by rw [c192] <;> rfl) (by decide) ?_
      exact w_X1_doSlot_145 hC hR o0 a0 x1 _ _ _ _ hi0 hw (lv_sub hl [0, 1] rfl) h
    have h := i_no c192 h
    by_cases c193 : ((gI D130 o136 x1.toNatClampNeg) &&& (7 : Int32)) = 6
    · have h := i_yes c193 h
      refine lv_tableIn (off := 120) (tgt := 145) hx hb dX1_doSlot_25 (by rw [c193]; decide) (by rw [c193]; decide) (by rw [c193] <;> rfl) (by decide) ?_
      exact w_X1_doSlot_145 hC hR o0 a0 x1 _ _ _ _ hi0 hw (lv_sub hl [0, 1] rfl) h
    have h := i_no c193 h
    by_cases c194 : ((gI D130 o136 x1.toNatClampNeg) &&& (7 : Int32)) = 7
    · have h := i_yes c194 h
      refine lv_tableIn (off := 114) (tgt := 139) hx hb dX1_doSlot_25 (by rw [c194]; decide) (by rw [c194]; decide) (by rw [c194] <;> rfl) (by decide) ?_
      exact w_X1_doSlot_139 hC hR o0 a0 x1 _ _ _ _ hi0 hw (lv_sub hl [0, 1] rfl) h
    have h := i_no c194 h
    refine lv_tableOut (tgt := 145) hx hb dX1_doSlot_25 (by have nc141 := lv_neT c141 (a := 0) rfl; have nc145 := lv_neT c145 (a := 1) rfl; have nc149 := lv_neT c149 (a := 2) rfl; have nc162 := lv_neT c162 (a := 3) rfl; have nc191 := lv_neT c191 (a := 4) rfl; have nc192 := lv_neT c192 (a := 5) rfl; have nc193 := lv_neT c193 (a := 6) rfl; have nc194 := lv_neT c194 (a := 7) rfl; omega) (by decide) ?_
    exact w_X1_doSlot_145 hC hR o0 a0 x1 _ _ _ _ hi0 hw (lv_sub hl [0, 1] rfl) h
  · have h := i_no c131 h
    refine lv_iconst (v := 3) hx hb dX1_doSlot_11 (by decide) ?_
    cases h
    exact r_iret hC hw dX1_doSlot_12
set_option maxHeartbeats 4000000 in
set_option maxRecDepth 100000 in
theorem k_X1_doSlot {l : Launch} {G : va_G} {cA : Nat → ClassId} {S : sh} {D D' : dt} {ad : Nat → Nat} (sz : Nat) {o0 a0 : Nat} {x1 : Int32} {r : Int32} (hi0 : Is S ad o0 a0 1) (h : f_X1_doSlot S o0 x1 D = some (r, D')) : Co l yX1_doSlot (Cond.code yX1_doSlot cX1_doSlot 2 (some .int) :: tb0) 4 104 [.ref a0, .int x1] G cA S D ad sz (some (.int r)) True D' := by
  refine Met.ofW (cc := cX1_doSlot) (maxL := 2) (ret := (some .int)) (by decide) rfl ?_
  intro p e s m args below meth c s₁ B hml hv
  obtain ⟨rfl, hsz, hP, hK, hD0, hT, hX⟩ := hv
  subst hsz
  have hts := atoms_spec (ws := Cond.code yX1_doSlot cX1_doSlot 2 (some .int) :: tb0) B.pre
  have hC : Cx RX1 cX1_doSlot 2 (some .int) p s m _ meth c := ⟨B.exec, B.bytes, hml, findClass_of_methodNamed B.named, fun w q => hts w (List.mem_cons_of_mem _ q), B.returns, B.notSynchronized⟩
  have hw := Wd.entry hP hK hD0 hT hX
  have hl := lv_entry ([.ref a0, .int x1]) (n := 2) (Nat.le_of_ble_eq_true rfl)
  rw [lg_entry_eq]
  exact w_X1_doSlot_0 hC ⟨Nat.le_refl _, Nat.le_refl _⟩ o0 a0 x1 D _ _ _ hi0 hw hl h
set_option maxHeartbeats 4000000 in
set_option maxRecDepth 100000 in
theorem w_X1_advance_47 {r : Int32} {D' : dt} (hC : Cx RX1 cX1_advance 2 (some .int) p s m args meth c) (hR : 5 ≤ R.frames ∧ 125 ≤ R.locals) : ∀ (o0 a0 : Nat) (x1 : Int32) (D : dt) (H : Heap) (locs : List Loc) (ls : Array Slot), Is S ad o0 a0 1 → Wd G cA S D ad A s H locs → lv_has ls 2 [(0, .ref a0), (1, .int x1)] → f_X1_advance_47 S o0 x1 D = some (r, D') → W p l e R s m args below meth c H locs 0 0 (MQ below (Qn (some (.int r)) True (wpost G cA S D' ad A) A) args s 0 0 A) (F0 m 47 ls []) := by
  obtain ⟨hx, hb, -⟩ := id hC
  intro o0 a0 x1 D H locs ls hi0 hw hl h
  unfold f_X1_advance_47 at h
  refine lv_aload_n hx hb dX1_advance_47 rfl (lv_at hl 0 rfl) ?_
  refine lv_iload_n hx hb dX1_advance_48 rfl (lv_at hl 1 rfl) ?_
  refine r_pI hC hw kc_1 hi0 5 rfl lk_226 rfl rfl rfl dX1_advance_49 (fun D16 eD16 H locs hw => ?_)
  have h := nm_i h D16 eD16
  refine lv_iload_n hx hb dX1_advance_52 rfl (lv_at hl 1 rfl) ?_
  cases h
  exact r_iret hC hw dX1_advance_53
set_option maxHeartbeats 4000000 in
set_option maxRecDepth 100000 in
theorem w_X1_advance_37 {r : Int32} {D' : dt} (hC : Cx RX1 cX1_advance 2 (some .int) p s m args meth c) (hR : 5 ≤ R.frames ∧ 125 ≤ R.locals) : ∀ (o0 a0 : Nat) (x1 : Int32) (D : dt) (H : Heap) (locs : List Loc) (ls : Array Slot), Is S ad o0 a0 1 → Wd G cA S D ad A s H locs → lv_has ls 2 [(0, .ref a0), (1, .int x1)] → f_X1_advance_37 S o0 x1 D = some (r, D') → W p l e R s m args below meth c H locs 0 0 (MQ below (Qn (some (.int r)) True (wpost G cA S D' ad A) A) args s 0 0 A) (F0 m 37 ls []) := by
  obtain ⟨hx, hb, -⟩ := id hC
  intro o0 a0 x1 D H locs ls hi0 hw hl h
  unfold f_X1_advance_37 at h
  refine lv_aload_n hx hb dX1_advance_37 rfl (lv_at hl 0 rfl) ?_
  refine lv_dup hx hb dX1_advance_38 rfl ?_
  refine r_gI hC hw kc_1 hi0 7 rfl lk_230 dX1_advance_39 ?_
  refine lv_iconst (v := 1) hx hb dX1_advance_42 (by decide) ?_
  refine lv_iadd hx hb dX1_advance_43 ?_
  refine r_pI hC hw kc_1 hi0 7 rfl lk_230 rfl rfl rfl dX1_advance_44 (fun D17 eD17 H locs hw => ?_)
  have h := nm_i h D17 eD17
  exact w_X1_advance_47 hC hR o0 a0 x1 _ _ _ _ hi0 hw (lv_sub hl [0, 1] rfl) h
set_option maxHeartbeats 4000000 in
set_option maxRecDepth 100000 in
theorem w_X1_advance_26 {r : Int32} {D' : dt} (hC : Cx RX1 cX1_advance 2 (some .int) p s m args meth c) (hR : 5 ≤ R.frames ∧ 125 ≤ R.locals) : ∀ (o0 a0 : Nat) (xs0 : Int32) (D : dt) (H : Heap) (locs : List Loc) (ls : Array Slot), Is S ad o0 a0 1 → Wd G cA S D ad A s H locs → lv_has ls 2 [(0, .ref a0)] → f_X1_advance_26 S o0 xs0 D = some (r, D') → W p l e R s m args below meth c H locs 0 0 (MQ below (Qn (some (.int r)) True (wpost G cA S D' ad A) A) args s 0 0 A) (F0 m 26 ls [.int xs0]) := by
  obtain ⟨hx, hb, -⟩ := id hC
  intro o0 a0 xs0 D H locs ls hi0 hw hl h
  unfold f_X1_advance_26 at h
  refine lv_istore_n (lv' := [(1, .int xs0), (0, .ref a0)]) hx hb dX1_advance_26 rfl hl (by decide) rfl (fun ls hl => ?_)
  refine lv_iload_n hx hb dX1_advance_27 rfl (lv_at hl 0 rfl) ?_
  refine lv_iconst (v := 1) hx hb dX1_advance_28 (by decide) ?_
  refine lv_icmp_eq (tgt := 37) hx hb dX1_advance_29 (by decide) (fun c18 => ?_) (fun c18 => ?_)
  · have h := i_yes c18 h
    exact w_X1_advance_37 hC hR o0 a0 xs0 _ _ _ _ hi0 hw (lv_sub hl [1, 0] rfl) h
  · have h := i_no c18 h
    refine lv_iload_n hx hb dX1_advance_32 rfl (lv_at hl 0 rfl) ?_
    refine lv_iconst (v := 2) hx hb dX1_advance_33 (by decide) ?_
    refine lv_icmp_ne (tgt := 47) hx hb dX1_advance_34 (by decide) (fun c19 => ?_) (fun c19 => ?_)
    · have h := i_no c19 h
      exact w_X1_advance_47 hC hR o0 a0 xs0 _ _ _ _ hi0 hw (lv_sub hl [1, 0] rfl) h
    · have h := i_yes c19 h
      exact w_X1_advance_37 hC hR o0 a0 xs0 _ _ _ _ hi0 hw (lv_sub hl [1, 0] rfl) h
set_option maxHeartbeats 4000000 in
set_option maxRecDepth 100000 in
theorem w_X1_advance_0 {r : Int32} {D' : dt} (hC : Cx RX1 cX1_advance 2 (some .int) p s m args meth c) (hR : 5 ≤ R.frames ∧ 125 ≤ R.locals) : ∀ (o0 a0 : Nat) (D : dt) (H : Heap) (locs : List Loc) (ls : Array Slot), Is S ad o0 a0 1 → Wd G cA S D ad A s H locs → lv_has ls 2 [(0, .ref a0)] → f_X1_advance S o0 D = some (r, D') → W p l e R s m args below meth c H locs 0 0 (MQ below (Qn (some (.int r)) True (wpost G cA S D' ad A) A) args s 0 0 A) (F0 m 0 ls []) := by
  obtain ⟨hx, hb, -⟩ := id hC
  intro o0 a0 D H locs ls hi0 hw hl h
  unfold f_X1_advance at h
  refine lv_aload_n hx hb dX1_advance_0 rfl (lv_at hl 0 rfl) ?_
  obtain ⟨o20, ho23, h⟩ := rq_i h
  refine r_getR hC hw kc_1 hi0 0 rfl lk_219 dX1_advance_1 rfl ho23 (fun a21 hi22 => ?_)
  refine lv_aload_n hx hb dX1_advance_4 rfl (lv_at hl 0 rfl) ?_
  refine r_gI hC hw kc_1 hi0 6 rfl lk_228 dX1_advance_5 ?_
  obtain ⟨r25, D26, hq24, h⟩ := cq_i h
  refine r_cV (st' := [.int r25]) [.int (gI D o0 6)] [] hC hw kc_3 hi22 (k_X4_has _ hi22 hq24) mk_X4_has lk_905 ⟨Nat.le_trans (by decide) hR.1, Nat.le_trans (by decide) hR.2⟩ ⟨Nat.zero_le _, Nat.zero_le _⟩ rfl hl.1 rfl rfl (Nat.le_of_ble_eq_true rfl) dX1_advance_8 (fun hP H locs hw => ?_)
  refine lv_if_eq (tgt := 25) hx hb dX1_advance_11 (by decide) (fun c27 => ?_) (fun c27 => ?_)
  · have h := i_yes c27 h
    refine lv_iconst (v := 5) hx hb dX1_advance_25 (by decide) ?_
    exact w_X1_advance_26 hC hR o0 a0 (5 : Int32) _ _ _ _ hi0 hw (lv_sub hl [0] rfl) h
  · have h := i_no c27 h
    refine lv_aload_n hx hb dX1_advance_14 rfl (lv_at hl 0 rfl) ?_
    refine lv_aload_n hx hb dX1_advance_15 rfl (lv_at hl 0 rfl) ?_
    refine r_gI hC hw kc_1 hi0 6 rfl lk_228 dX1_advance_16 ?_
    obtain ⟨r29, D30, hq28, h⟩ := cq_i h
    refine r_cV (st' := [.int r29]) [.int (gI D26 o0 6)] [] hC hw kc_1 hi0 (k_X1_doSlot _ hi0 hq28) mk_X1_doSlot lk_906 ⟨Nat.le_trans (by decide) hR.1, Nat.le_trans (by decide) hR.2⟩ ⟨Nat.zero_le _, Nat.zero_le _⟩ rfl hl.1 rfl rfl (Nat.le_of_ble_eq_true rfl) dX1_advance_19 (fun hP H locs hw => ?_)
    refine lv_goto (tgt := 26) hx hb dX1_advance_22 (by decide) ?_
    exact w_X1_advance_26 hC hR o0 a0 r29 _ _ _ _ hi0 hw (lv_sub hl [0] rfl) h
set_option maxHeartbeats 4000000 in
set_option maxRecDepth 100000 in
theorem k_X1_advance {l : Launch} {G : va_G} {cA : Nat → ClassId} {S : sh} {D D' : dt} {ad : Nat → Nat} (sz : Nat) {o0 a0 : Nat} {r : Int32} (hi0 : Is S ad o0 a0 1) (h : f_X1_advance S o0 D = some (r, D')) : Co l yX1_advance (Cond.code yX1_advance cX1_advance 2 (some .int) :: tb0) 5 125 [.ref a0] G cA S D ad sz (some (.int r)) True D' := by
  refine Met.ofW (cc := cX1_advance) (maxL := 2) (ret := (some .int)) (by decide) rfl ?_
  intro p e s m args below meth c s₁ B hml hv
  obtain ⟨rfl, hsz, hP, hK, hD0, hT, hX⟩ := hv
  subst hsz
  have hts := atoms_spec (ws := Cond.code yX1_advance cX1_advance 2 (some .int) :: tb0) B.pre
  have hC : Cx RX1 cX1_advance 2 (some .int) p s m _ meth c := ⟨B.exec, B.bytes, hml, findClass_of_methodNamed B.named, fun w q => hts w (List.mem_cons_of_mem _ q), B.returns, B.notSynchronized⟩
  have hw := Wd.entry hP hK hD0 hT hX
  have hl := lv_entry ([.ref a0]) (n := 2) (Nat.le_of_ble_eq_true rfl)
  rw [lg_entry_eq]
  exact w_X1_advance_0 hC ⟨Nat.le_refl _, Nat.le_refl _⟩ o0 a0 D _ _ _ hi0 hw hl h
set_option maxHeartbeats 4000000 in
set_option maxRecDepth 100000 in
theorem w_X1_keptPut_19 {r : Int64} {D' : dt} (hC : Cx RX1 cX1_keptPut 3 (some .long) p s m args meth c) (hR : 1 ≤ R.frames ∧ 30 ≤ R.locals) : ∀  (D : dt) (H : Heap) (locs : List Loc) (ls : Array Slot), Wd G cA S D ad A s H locs → lv_has ls 3 [] → f_X1_keptPut_19 S D = some (r, D') → W p l e R s m args below meth c H locs 0 0 (MQ below (Qn (some (.long r)) True (wpost G cA S D' ad A) A) args s 0 0 A) (F0 m 19 ls []) := by
  obtain ⟨hx, hb, -⟩ := id hC
  intro D H locs ls  hw hl h
  unfold f_X1_keptPut_19 at h
  refine lv_lconst (v := 0) hx hb dX1_keptPut_19 (by decide) ?_
  refine lv_goto (tgt := 39) hx hb dX1_keptPut_20 (by decide) ?_
  cases h
  exact r_lret hC hw dX1_keptPut_39
set_option maxHeartbeats 4000000 in
set_option maxRecDepth 100000 in
theorem w_X1_keptPut_0 {r : Int64} {D' : dt} (hC : Cx RX1 cX1_keptPut 3 (some .long) p s m args meth c) (hR : 1 ≤ R.frames ∧ 30 ≤ R.locals) : ∀ (o0 a0 : Nat) (x1 : Int32) (D : dt) (H : Heap) (locs : List Loc) (ls : Array Slot), Is S ad o0 a0 1 → Wd G cA S D ad A s H locs → lv_has ls 3 [(0, .ref a0), (1, .int x1)] → f_X1_keptPut S o0 x1 D = some (r, D') → W p l e R s m args below meth c H locs 0 0 (MQ below (Qn (some (.long r)) True (wpost G cA S D' ad A) A) args s 0 0 A) (F0 m 0 ls []) := by
  obtain ⟨hx, hb, -⟩ := id hC
  intro o0 a0 x1 D H locs ls hi0 hw hl h
  unfold f_X1_keptPut at h
  refine lv_aload_n hx hb dX1_keptPut_0 rfl (lv_at hl 0 rfl) ?_
  refine r_gI hC hw kc_1 hi0 4 rfl lk_224 dX1_keptPut_1 ?_
  refine lv_bipush (v := 32) hx hb dX1_keptPut_4 (by decide) ?_
  refine va_mmin hx hb (by rw [hC.2.2.1]; exact hl.1.symm) hC.2.2.2.1 (hC.2.2.2.2.1 _ lk_1050) (hC.2.2.2.2.1 _ ms_min_i) (hC.2.2.2.2.1 _ ms_ini) (hC.2.2.2.2.1 _ mc_min_i) (Nat.le_trans (by decide) hR.1) (Nat.le_trans (Nat.le_of_ble_eq_true rfl) hR.2) (Nat.zero_le _) (Nat.zero_le _) dX1_keptPut_6 ?_
  refine lv_topi (fun y9 ey9 => ?_)
  have h := nm_i h y9 ey9
  refine lv_istore_n (lv' := [(2, .int y9), (0, .ref a0), (1, .int x1)]) hx hb dX1_keptPut_9 rfl hl (by decide) rfl (fun ls hl => ?_)
  refine lv_iload_n hx hb dX1_keptPut_10 rfl (lv_at hl 2 rfl) ?_
  refine lv_if_lt (tgt := 19) hx hb dX1_keptPut_11 (by decide) (fun c10 => ?_) (fun c10 => ?_)
  · have h := i_yes c10 h
    exact w_X1_keptPut_19 hC hR _ _ _ _ hw (lv_sub hl [] rfl) h
  · have h := i_no c10 h
    refine lv_iload_n hx hb dX1_keptPut_14 rfl (lv_at hl 2 rfl) ?_
    refine lv_iload_n hx hb dX1_keptPut_15 rfl (lv_at hl 0 rfl) ?_
    refine lv_icmp_lt (tgt := 23) hx hb dX1_keptPut_16 (by decide) (fun c11 => ?_) (fun c11 => ?_)
    · have h := i_yes c11 h
      refine lv_aload_n hx hb dX1_keptPut_23 rfl (lv_at hl 1 rfl) ?_
      obtain ⟨o12, ho15, h⟩ := rq_i h
      refine r_getR hC hw kc_1 hi0 3 rfl lk_223 dX1_keptPut_24 rfl ho15 (fun a13 hi14 => ?_)
      refine lv_aload_n hx hb dX1_keptPut_27 rfl (lv_at hl 1 rfl) ?_
      refine r_gI hC hw kc_1 hi0 4 rfl lk_224 dX1_keptPut_28 ?_
      refine lv_iload_n hx hb dX1_keptPut_31 rfl (lv_at hl 0 rfl) ?_
      refine lv_isub hx hb dX1_keptPut_32 ?_
      refine lv_iload_n hx hb dX1_keptPut_33 rfl (lv_at hl 2 rfl) ?_
      refine lv_iadd hx hb dX1_keptPut_34 ?_
      refine lv_bipush (v := 32) hx hb dX1_keptPut_35 (by decide) ?_
      refine lv_irem hx hb dX1_keptPut_37 (by decide) ?_
      obtain ⟨hn16, h⟩ := ix_i h
      refine r_lald hC hw hi14 hn16 dX1_keptPut_38 ?_
      cases h
      exact r_lret hC hw dX1_keptPut_39
    · have h := i_no c11 h
      exact w_X1_keptPut_19 hC hR _ _ _ _ hw (lv_sub hl [] rfl) h
set_option maxHeartbeats 4000000 in
set_option maxRecDepth 100000 in
theorem k_X1_keptPut {l : Launch} {G : va_G} {cA : Nat → ClassId} {S : sh} {D D' : dt} {ad : Nat → Nat} (sz : Nat) {o0 a0 : Nat} {x1 : Int32} {r : Int64} (hi0 : Is S ad o0 a0 1) (h : f_X1_keptPut S o0 x1 D = some (r, D')) : Co l yX1_keptPut (Cond.code yX1_keptPut cX1_keptPut 3 (some .long) :: tb0) 1 30 [.ref a0, .int x1] G cA S D ad sz (some (.long r)) True D' := by
  refine Met.ofW (cc := cX1_keptPut) (maxL := 3) (ret := (some .long)) (by decide) rfl ?_
  intro p e s m args below meth c s₁ B hml hv
  obtain ⟨rfl, hsz, hP, hK, hD0, hT, hX⟩ := hv
  subst hsz
  have hts := atoms_spec (ws := Cond.code yX1_keptPut cX1_keptPut 3 (some .long) :: tb0) B.pre
  have hC : Cx RX1 cX1_keptPut 3 (some .long) p s m _ meth c := ⟨B.exec, B.bytes, hml, findClass_of_methodNamed B.named, fun w q => hts w (List.mem_cons_of_mem _ q), B.returns, B.notSynchronized⟩
  have hw := Wd.entry hP hK hD0 hT hX
  have hl := lv_entry ([.ref a0, .int x1]) (n := 3) (Nat.le_of_ble_eq_true rfl)
  rw [lg_entry_eq]
  exact w_X1_keptPut_0 hC ⟨Nat.le_refl _, Nat.le_refl _⟩ o0 a0 x1 D _ _ _ hi0 hw hl h
end
