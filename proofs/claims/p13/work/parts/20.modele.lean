theorem dX9_change_0 : decode cX9_change 0 = .ok (.lload_n 3, 1) := by decide +kernel
theorem dX9_change_1 : decode cX9_change 1 = .ok (.lconst 0, 1) := by decide +kernel
theorem dX9_change_2 : decode cX9_change 2 = .ok (.ldc2_w 242, 3) := by decide +kernel
theorem dX9_change_5 : decode cX9_change 5 = .ok (.invokestatic 132, 3) := by decide +kernel
theorem dX9_change_8 : decode cX9_change 8 = .ok (.ifCond .eq 44, 3) := by decide +kernel
theorem dX9_change_11 : decode cX9_change 11 = .ok (.aload_n 0, 1) := by decide +kernel
theorem dX9_change_12 : decode cX9_change 12 = .ok (.getfield 31, 3) := by decide +kernel
theorem dX9_change_15 : decode cX9_change 15 = .ok (.iload_n 1, 1) := by decide +kernel
theorem dX9_change_16 : decode cX9_change 16 = .ok (.iaload, 1) := by decide +kernel
theorem dX9_change_17 : decode cX9_change 17 = .ok (.ifCond .ne 13, 3) := by decide +kernel
theorem dX9_change_20 : decode cX9_change 20 = .ok (.lload_n 3, 1) := by decide +kernel
theorem dX9_change_21 : decode cX9_change 21 = .ok (.lconst 1, 1) := by decide +kernel
theorem dX9_change_22 : decode cX9_change 22 = .ok (.lcmp, 1) := by decide +kernel
theorem dX9_change_23 : decode cX9_change 23 = .ok (.ifCond .eq 29, 3) := by decide +kernel
theorem dX9_change_26 : decode cX9_change 26 = .ok (.iload_n 2, 1) := by decide +kernel
theorem dX9_change_27 : decode cX9_change 27 = .ok (.ifCond .lt 25, 3) := by decide +kernel
theorem dX9_change_30 : decode cX9_change 30 = .ok (.lload_n 3, 1) := by decide +kernel
theorem dX9_change_31 : decode cX9_change 31 = .ok (.lconst 1, 1) := by decide +kernel
theorem dX9_change_32 : decode cX9_change 32 = .ok (.lcmp, 1) := by decide +kernel
theorem dX9_change_33 : decode cX9_change 33 = .ok (.ifCond .ne 7, 3) := by decide +kernel
theorem dX9_change_36 : decode cX9_change 36 = .ok (.iload_n 2, 1) := by decide +kernel
theorem dX9_change_37 : decode cX9_change 37 = .ok (.ifCond .ge 15, 3) := by decide +kernel
theorem dX9_change_40 : decode cX9_change 40 = .ok (.lload_n 3, 1) := by decide +kernel
theorem dX9_change_41 : decode cX9_change 41 = .ok (.ldc2_w 242, 3) := by decide +kernel
theorem dX9_change_44 : decode cX9_change 44 = .ok (.lcmp, 1) := by decide +kernel
theorem dX9_change_45 : decode cX9_change 45 = .ok (.ifCond .ne 11, 3) := by decide +kernel
theorem dX9_change_48 : decode cX9_change 48 = .ok (.iload_n 2, 1) := by decide +kernel
theorem dX9_change_49 : decode cX9_change 49 = .ok (.ifCond .ge 7, 3) := by decide +kernel
theorem dX9_change_52 : decode cX9_change 52 = .ok (.ldc2_w 187, 3) := by decide +kernel
theorem dX9_change_55 : decode cX9_change 55 = .ok (.lreturn, 1) := by decide +kernel
theorem dX9_change_56 : decode cX9_change 56 = .ok (.iload_n 2, 1) := by decide +kernel
theorem dX9_change_57 : decode cX9_change 57 = .ok (.istore 5, 2) := by decide +kernel
theorem dX9_change_59 : decode cX9_change 59 = .ok (.aload_n 0, 1) := by decide +kernel
theorem dX9_change_60 : decode cX9_change 60 = .ok (.getfield 40, 3) := by decide +kernel
theorem dX9_change_63 : decode cX9_change 63 = .ok (.iload_n 1, 1) := by decide +kernel
theorem dX9_change_64 : decode cX9_change 64 = .ok (.iaload, 1) := by decide +kernel
theorem dX9_change_65 : decode cX9_change 65 = .ok (.iconst 1, 1) := by decide +kernel
theorem dX9_change_66 : decode cX9_change 66 = .ok (.isub, 1) := by decide +kernel
theorem dX9_change_67 : decode cX9_change 67 = .ok (.istore 6, 2) := by decide +kernel
theorem dX9_change_69 : decode cX9_change 69 = .ok (.iload 6, 2) := by decide +kernel
theorem dX9_change_71 : decode cX9_change 71 = .ok (.ifCond .lt 37, 3) := by decide +kernel
theorem dX9_change_74 : decode cX9_change 74 = .ok (.iload_n 2, 1) := by decide +kernel
theorem dX9_change_75 : decode cX9_change 75 = .ok (.ifCond .ge 33, 3) := by decide +kernel
theorem dX9_change_78 : decode cX9_change 78 = .ok (.aload_n 0, 1) := by decide +kernel
theorem dX9_change_79 : decode cX9_change 79 = .ok (.getfield 46, 3) := by decide +kernel
theorem dX9_change_82 : decode cX9_change 82 = .ok (.bipush 32, 2) := by decide +kernel
theorem dX9_change_84 : decode cX9_change 84 = .ok (.iload_n 1, 1) := by decide +kernel
theorem dX9_change_85 : decode cX9_change 85 = .ok (.imul, 1) := by decide +kernel
theorem dX9_change_86 : decode cX9_change 86 = .ok (.iload 6, 2) := by decide +kernel
theorem dX9_change_88 : decode cX9_change 88 = .ok (.iadd, 1) := by decide +kernel
theorem dX9_change_89 : decode cX9_change 89 = .ok (.baload, 1) := by decide +kernel
theorem dX9_change_90 : decode cX9_change 90 = .ok (.ifCond .eq 8, 3) := by decide +kernel
theorem dX9_change_93 : decode cX9_change 93 = .ok (.iload 5, 2) := by decide +kernel
theorem dX9_change_95 : decode cX9_change 95 = .ok (.goto 5, 3) := by decide +kernel
theorem dX9_change_98 : decode cX9_change 98 = .ok (.iload 6, 2) := by decide +kernel
theorem dX9_change_100 : decode cX9_change 100 = .ok (.istore 5, 2) := by decide +kernel
theorem dX9_change_102 : decode cX9_change 102 = .ok (.iinc 6 (-1), 3) := by decide +kernel
theorem dX9_change_105 : decode cX9_change 105 = .ok (.goto (-36), 3) := by decide +kernel
theorem dX9_change_108 : decode cX9_change 108 = .ok (.iload 5, 2) := by decide +kernel
theorem dX9_change_110 : decode cX9_change 110 = .ok (.ifCond .ge 7, 3) := by decide +kernel
theorem dX9_change_113 : decode cX9_change 113 = .ok (.ldc2_w 187, 3) := by decide +kernel
theorem dX9_change_116 : decode cX9_change 116 = .ok (.lreturn, 1) := by decide +kernel
theorem dX9_change_117 : decode cX9_change 117 = .ok (.bipush 32, 2) := by decide +kernel
theorem dX9_change_119 : decode cX9_change 119 = .ok (.iload_n 1, 1) := by decide +kernel
theorem dX9_change_120 : decode cX9_change 120 = .ok (.imul, 1) := by decide +kernel
theorem dX9_change_121 : decode cX9_change 121 = .ok (.iload 5, 2) := by decide +kernel
theorem dX9_change_123 : decode cX9_change 123 = .ok (.iadd, 1) := by decide +kernel
theorem dX9_change_124 : decode cX9_change 124 = .ok (.istore 6, 2) := by decide +kernel
theorem dX9_change_126 : decode cX9_change 126 = .ok (.iload_n 2, 1) := by decide +kernel
theorem dX9_change_127 : decode cX9_change 127 = .ok (.ifCond .ge 51, 3) := by decide +kernel
theorem dX9_change_130 : decode cX9_change 130 = .ok (.aload_n 0, 1) := by decide +kernel
theorem dX9_change_131 : decode cX9_change 131 = .ok (.getfield 46, 3) := by decide +kernel
theorem dX9_change_134 : decode cX9_change 134 = .ok (.iload 6, 2) := by decide +kernel
theorem dX9_change_136 : decode cX9_change 136 = .ok (.iconst 1, 1) := by decide +kernel
theorem dX9_change_137 : decode cX9_change 137 = .ok (.bastore, 1) := by decide +kernel
theorem dX9_change_138 : decode cX9_change 138 = .ok (.iconst 0, 1) := by decide +kernel
theorem dX9_change_139 : decode cX9_change 139 = .ok (.istore 7, 2) := by decide +kernel
theorem dX9_change_141 : decode cX9_change 141 = .ok (.iload 7, 2) := by decide +kernel
theorem dX9_change_143 : decode cX9_change 143 = .ok (.aload_n 0, 1) := by decide +kernel
theorem dX9_change_144 : decode cX9_change 144 = .ok (.getfield 34, 3) := by decide +kernel
theorem dX9_change_147 : decode cX9_change 147 = .ok (.iload_n 1, 1) := by decide +kernel
theorem dX9_change_148 : decode cX9_change 148 = .ok (.iaload, 1) := by decide +kernel
theorem dX9_change_149 : decode cX9_change 149 = .ok (.if_icmp .ge 29, 3) := by decide +kernel
theorem dX9_change_152 : decode cX9_change 152 = .ok (.aload_n 0, 1) := by decide +kernel
theorem dX9_change_153 : decode cX9_change 153 = .ok (.getfield 50, 3) := by decide +kernel
theorem dX9_change_156 : decode cX9_change 156 = .ok (.bipush 8, 2) := by decide +kernel
theorem dX9_change_158 : decode cX9_change 158 = .ok (.iload 6, 2) := by decide +kernel
theorem dX9_change_160 : decode cX9_change 160 = .ok (.imul, 1) := by decide +kernel
theorem dX9_change_161 : decode cX9_change 161 = .ok (.iload 7, 2) := by decide +kernel
theorem dX9_change_163 : decode cX9_change 163 = .ok (.iadd, 1) := by decide +kernel
theorem dX9_change_164 : decode cX9_change 164 = .ok (.aload_n 0, 1) := by decide +kernel
theorem dX9_change_165 : decode cX9_change 165 = .ok (.getfield 63, 3) := by decide +kernel
theorem dX9_change_168 : decode cX9_change 168 = .ok (.iload 7, 2) := by decide +kernel
theorem dX9_change_170 : decode cX9_change 170 = .ok (.iaload, 1) := by decide +kernel
theorem dX9_change_171 : decode cX9_change 171 = .ok (.iastore, 1) := by decide +kernel
theorem dX9_change_172 : decode cX9_change 172 = .ok (.iinc 7 1, 3) := by decide +kernel
theorem dX9_change_175 : decode cX9_change 175 = .ok (.goto (-34), 3) := by decide +kernel
theorem dX9_change_178 : decode cX9_change 178 = .ok (.iconst 0, 1) := by decide +kernel
theorem dX9_change_179 : decode cX9_change 179 = .ok (.istore 7, 2) := by decide +kernel
theorem dX9_change_181 : decode cX9_change 181 = .ok (.iload 7, 2) := by decide +kernel
theorem dX9_change_183 : decode cX9_change 183 = .ok (.aload_n 0, 1) := by decide +kernel
theorem dX9_change_184 : decode cX9_change 184 = .ok (.getfield 37, 3) := by decide +kernel
theorem dX9_change_187 : decode cX9_change 187 = .ok (.iload_n 1, 1) := by decide +kernel
theorem dX9_change_188 : decode cX9_change 188 = .ok (.iaload, 1) := by decide +kernel
theorem dX9_change_189 : decode cX9_change 189 = .ok (.if_icmp .ge 29, 3) := by decide +kernel
theorem dX9_change_192 : decode cX9_change 192 = .ok (.aload_n 0, 1) := by decide +kernel
theorem dX9_change_193 : decode cX9_change 193 = .ok (.getfield 43, 3) := by decide +kernel
theorem dX9_change_196 : decode cX9_change 196 = .ok (.bipush 32, 2) := by decide +kernel
theorem dX9_change_198 : decode cX9_change 198 = .ok (.iload 6, 2) := by decide +kernel
theorem dX9_change_200 : decode cX9_change 200 = .ok (.imul, 1) := by decide +kernel
theorem dX9_change_201 : decode cX9_change 201 = .ok (.iload 7, 2) := by decide +kernel
theorem dX9_change_203 : decode cX9_change 203 = .ok (.iadd, 1) := by decide +kernel
theorem dX9_change_204 : decode cX9_change 204 = .ok (.aload_n 0, 1) := by decide +kernel
theorem dX9_change_205 : decode cX9_change 205 = .ok (.getfield 60, 3) := by decide +kernel
theorem dX9_change_208 : decode cX9_change 208 = .ok (.iload 7, 2) := by decide +kernel
theorem dX9_change_210 : decode cX9_change 210 = .ok (.iaload, 1) := by decide +kernel
theorem dX9_change_211 : decode cX9_change 211 = .ok (.iastore, 1) := by decide +kernel
theorem dX9_change_212 : decode cX9_change 212 = .ok (.iinc 7 1, 3) := by decide +kernel
theorem dX9_change_215 : decode cX9_change 215 = .ok (.goto (-34), 3) := by decide +kernel
theorem dX9_change_218 : decode cX9_change 218 = .ok (.lconst 0, 1) := by decide +kernel
theorem dX9_change_219 : decode cX9_change 219 = .ok (.lreturn, 1) := by decide +kernel
-- JudgedCodeModel.change
def f_X9_change_52 (S : sh) (D : dt) : Option (Int64 × dt) := some ((-1 : Int64), D)
def f_X9_change_181 (S : sh) : Nat → Nat → Int32 → Int32 → Int32 → dt → Option (Int64 × dt)
  | 0, _, _, _, _, _ => none
  | n + 1, o0, x1, x6, x7, D => rq (gR D o0 12) fun o78 => ix x1 (sA S o78) <| if (gI D o78 x1.toNatClampNeg) ≤ x7 then (some ((0 : Int64), D)) else (rq (gR D o0 14) fun o84 => rq (gR D o0 24) fun o88 => ix x7 (sA S o88) <| ix (((32 : Int32) * x6) + x7) (sA S o84) <| nm (pI D o84 (((32 : Int32) * x6) + x7).toNatClampNeg (gI D o88 x7.toNatClampNeg)) fun D94 => nm (x7 + 1) fun y95 => f_X9_change_181 S n o0 x1 x6 y95 D94)
def f_X9_change_178 (S : sh) (o0 : Nat) (x1 : Int32) (x6 : Int32) (D : dt) : Option (Int64 × dt) := nm ((0 : Int32)) fun y96 => f_X9_change_181 S LF o0 x1 x6 y96 D
def f_X9_change_141 (S : sh) : Nat → Nat → Int32 → Int32 → Int32 → dt → Option (Int64 × dt)
  | 0, _, _, _, _, _ => none
  | n + 1, o0, x1, x6, x7, D => rq (gR D o0 11) fun o97 => ix x1 (sA S o97) <| if (gI D o97 x1.toNatClampNeg) ≤ x7 then (f_X9_change_178 S o0 x1 x6 D) else (rq (gR D o0 16) fun o103 => rq (gR D o0 25) fun o107 => ix x7 (sA S o107) <| ix (((8 : Int32) * x6) + x7) (sA S o103) <| nm (pI D o103 (((8 : Int32) * x6) + x7).toNatClampNeg (gI D o107 x7.toNatClampNeg)) fun D113 => nm (x7 + 1) fun y114 => f_X9_change_141 S n o0 x1 x6 y114 D113)
def f_X9_change_108 (S : sh) (o0 : Nat) (x1 : Int32) (x2 : Int32) (x5 : Int32) (D : dt) : Option (Int64 × dt) := if 0 ≤ x5 then (nm (((32 : Int32) * x1) + x5) fun y116 => if 0 ≤ x2 then (f_X9_change_178 S o0 x1 y116 D) else (rq (gR D o0 15) fun o118 => ix y116 (sA S o118) <| nm (pI D o118 y116.toNatClampNeg (vp_nar .boolean (1 : Int32))) fun D123 => nm ((0 : Int32)) fun y124 => f_X9_change_141 S LF o0 x1 y116 y124 D123)) else (some ((-1 : Int64), D))
def f_X9_change_100 (S : sh) (k69 : Nat → Int32 → Int32 → Int32 → Int32 → dt → Option (Int64 × dt)) (o0 : Nat) (x1 : Int32) (x2 : Int32) (x6 : Int32) (xs0 : Int32) (D : dt) : Option (Int64 × dt) := nm (x6 + (-1)) fun y125 => k69 o0 x1 x2 xs0 y125 D
def f_X9_change_69 (S : sh) : Nat → Nat → Int32 → Int32 → Int32 → Int32 → dt → Option (Int64 × dt)
  | 0, _, _, _, _, _, _ => none
  | n + 1, o0, x1, x2, x5, x6, D => if x6 < 0 then (f_X9_change_108 S o0 x1 x2 x5 D) else (if 0 ≤ x2 then (f_X9_change_108 S o0 x1 x2 x5 D) else (rq (gR D o0 15) fun o128 => ix (((32 : Int32) * x1) + x6) (sA S o128) <| if (gI D o128 (((32 : Int32) * x1) + x6).toNatClampNeg) = 0 then (f_X9_change_100 S (f_X9_change_69 S n) o0 x1 x2 x6 x6 D) else (f_X9_change_100 S (f_X9_change_69 S n) o0 x1 x2 x6 x5 D)))
def f_X9_change_56 (S : sh) (o0 : Nat) (x1 : Int32) (x2 : Int32) (D : dt) : Option (Int64 × dt) := rq (gR D o0 13) fun o134 => ix x1 (sA S o134) <| nm ((gI D o134 x1.toNatClampNeg) - (1 : Int32)) fun y139 => f_X9_change_69 S LF o0 x1 x2 x2 y139 D
def f_X9_change_40 (S : sh) (o0 : Nat) (x1 : Int32) (x2 : Int32) (x3 : Int64) (D : dt) : Option (Int64 × dt) := if (lg_cmp x3 (2 : Int64)) = 0 then (if 0 ≤ x2 then (f_X9_change_56 S o0 x1 x2 D) else (f_X9_change_52 S D)) else (f_X9_change_56 S o0 x1 x2 D)
def f_X9_change_30 (S : sh) (o0 : Nat) (x1 : Int32) (x2 : Int32) (x3 : Int64) (D : dt) : Option (Int64 × dt) := if (lg_cmp x3 (1 : Int64)) = 0 then (if 0 ≤ x2 then (f_X9_change_52 S D) else (f_X9_change_40 S o0 x1 x2 x3 D)) else (f_X9_change_40 S o0 x1 x2 x3 D)
def f_X9_change (S : sh) (o0 : Nat) (x1 : Int32) (x2 : Int32) (x3 : Int64) (D : dt) : Option (Int64 × dt) := pq (f_X9_in x3 (0 : Int64) (2 : Int64)) fun r145 => if r145 = 0 then (f_X9_change_52 S D) else (rq (gR D o0 10) fun o147 => ix x1 (sA S o147) <| if (gI D o147 x1.toNatClampNeg) = 0 then (if (lg_cmp x3 (1 : Int64)) = 0 then (f_X9_change_52 S D) else (if x2 < 0 then (f_X9_change_52 S D) else (f_X9_change_30 S o0 x1 x2 x3 D))) else (f_X9_change_30 S o0 x1 x2 x3 D))
theorem mk_X9_change : MkV yX9_change RX9 cX9_change 8 (some .long) 3 := ⟨⟨lk_1381, lk_76, lk_121, (tb_in (i := 1382) (by decide +kernel) (by decide +kernel))⟩, by decide +kernel⟩
section
variable {p : Program} {l : Launch} {e : Env} {R : Room} {s : State} {m : MethodId} {args : Array Value} {below : List Frame} {meth : Method} {c : Code} {H : Heap} {locs : List Loc} {G : va_G} {cA : Nat → ClassId} {S : sh} {D : dt} {ad : Nat → Nat} {A : Nat → Prop}
set_option maxHeartbeats 4000000 in
set_option maxRecDepth 100000 in
theorem w_X9_change_52 {r : Int64} {D' : dt} (hC : Cx RX9 cX9_change 8 (some .long) p s m args meth c) (hR : 1 ≤ R.frames ∧ 25 ≤ R.locals) : ∀  (D : dt) (H : Heap) (locs : List Loc) (ls : Array Slot), Wd G cA S D ad A s H locs → lv_has ls 8 [] → f_X9_change_52 S D = some (r, D') → W p l e R s m args below meth c H locs 0 0 (MQ below (Qn (some (.long r)) True (wpost G cA S D' ad A) A) args s 0 0 A) (F0 m 52 ls []) := by
  obtain ⟨hx, hb, -⟩ := id hC
  intro D H locs ls  hw hl h
  unfold f_X9_change_52 at h
  refine lv_ldc2 (v := (-1)) hx hb hC.2.2.2.1 (hC.2.2.2.2.1 _ lk_1365) dX9_change_52 ?_
  cases h
  exact r_lret hC hw dX9_change_55
set_option maxHeartbeats 4000000 in
set_option maxRecDepth 100000 in
theorem w_X9_change_181 {r : Int64} {D' : dt} (hC : Cx RX9 cX9_change 8 (some .long) p s m args meth c) (hR : 1 ≤ R.frames ∧ 25 ≤ R.locals) : ∀ (n : Nat), ∀ (o0 a0 : Nat) (x1 : Int32) (x6 : Int32) (x7 : Int32) (D : dt) (H : Heap) (locs : List Loc) (ls : Array Slot), Is S ad o0 a0 8 → Wd G cA S D ad A s H locs → lv_has ls 8 [(0, .ref a0), (1, .int x1), (6, .int x6), (7, .int x7)] → f_X9_change_181 S n o0 x1 x6 x7 D = some (r, D') → W p l e R s m args below meth c H locs 0 0 (MQ below (Qn (some (.long r)) True (wpost G cA S D' ad A) A) args s 0 0 A) (F0 m 181 ls []) := by
  obtain ⟨hx, hb, -⟩ := id hC
  intro n
  induction n with
  | zero =>
    intro o0 a0 x1 x6 x7 D H locs ls hi0 hw hl h
    rw [f_X9_change_181.eq_1] at h
    cases h
  | succ n ih =>
    intro o0 a0 x1 x6 x7 D H locs ls hi0 hw hl h
    rw [f_X9_change_181.eq_2] at h
    refine lv_iload hx hb dX9_change_181 (lv_at hl 3 rfl) ?_
    refine lv_aload_n hx hb dX9_change_183 rfl (lv_at hl 0 rfl) ?_
    obtain ⟨o78, ho81, h⟩ := rq_i h
    refine r_getR hC hw kc_8 hi0 12 rfl lk_1084 dX9_change_184 rfl ho81 (fun a79 hi80 => ?_)
    refine lv_iload_n hx hb dX9_change_187 rfl (lv_at hl 1 rfl) ?_
    obtain ⟨hn82, h⟩ := ix_i h
    refine r_iald hC hw hi80 hn82 dX9_change_188 ?_
    refine lv_icmp_ge (tgt := 218) hx hb dX9_change_189 (by decide) (fun c83 => ?_) (fun c83 => ?_)
    · have h := i_yes c83 h
      refine lv_lconst (v := 0) hx hb dX9_change_218 (by decide) ?_
      cases h
      exact r_lret hC hw dX9_change_219
    · have h := i_no c83 h
      refine lv_aload_n hx hb dX9_change_192 rfl (lv_at hl 0 rfl) ?_
      obtain ⟨o84, ho87, h⟩ := rq_i h
      refine r_getR hC hw kc_8 hi0 14 rfl lk_1086 dX9_change_193 rfl ho87 (fun a85 hi86 => ?_)
      refine lv_bipush (v := 32) hx hb dX9_change_196 (by decide) ?_
      refine lv_iload hx hb dX9_change_198 (lv_at hl 2 rfl) ?_
      refine lv_imul hx hb dX9_change_200 ?_
      refine lv_iload hx hb dX9_change_201 (lv_at hl 3 rfl) ?_
      refine lv_iadd hx hb dX9_change_203 ?_
      refine lv_aload_n hx hb dX9_change_204 rfl (lv_at hl 0 rfl) ?_
      obtain ⟨o88, ho91, h⟩ := rq_i h
      refine r_getR hC hw kc_8 hi0 24 rfl lk_1096 dX9_change_205 rfl ho91 (fun a89 hi90 => ?_)
      refine lv_iload hx hb dX9_change_208 (lv_at hl 3 rfl) ?_
      obtain ⟨hn92, h⟩ := ix_i h
      refine r_iald hC hw hi90 hn92 dX9_change_210 ?_
      obtain ⟨hn93, h⟩ := ix_i h
      refine r_ias hC hw hi86 hn93 dX9_change_211 (fun D94 eD94 H locs hw => ?_)
      have h := nm_i h D94 eD94
      obtain ⟨y95, ey95⟩ : ∃ z : Int32, z = x7 + 1 := ⟨_, rfl⟩
      have h := nm_i h y95 ey95
      refine lv_iinc (v := y95) (lv' := [(7, .int y95), (0, .ref a0), (1, .int x1), (6, .int x6)]) hx hb dX9_change_212 hl (k := 3) rfl (by rw [ey95]; rfl) (by decide) rfl (fun ls hl => ?_)
      refine lv_goto (tgt := 181) hx hb dX9_change_215 (by decide) ?_
      exact ih o0 a0 x1 x6 y95 _ _ _ _ hi0 hw (lv_sub hl [1, 2, 3, 0] rfl) h
set_option maxHeartbeats 4000000 in
set_option maxRecDepth 100000 in
theorem w_X9_change_178 {r : Int64} {D' : dt} (hC : Cx RX9 cX9_change 8 (some .long) p s m args meth c) (hR : 1 ≤ R.frames ∧ 25 ≤ R.locals) : ∀ (o0 a0 : Nat) (x1 : Int32) (x6 : Int32) (D : dt) (H : Heap) (locs : List Loc) (ls : Array Slot), Is S ad o0 a0 8 → Wd G cA S D ad A s H locs → lv_has ls 8 [(0, .ref a0), (1, .int x1), (6, .int x6)] → f_X9_change_178 S o0 x1 x6 D = some (r, D') → W p l e R s m args below meth c H locs 0 0 (MQ below (Qn (some (.long r)) True (wpost G cA S D' ad A) A) args s 0 0 A) (F0 m 178 ls []) := by
  obtain ⟨hx, hb, -⟩ := id hC
  intro o0 a0 x1 x6 D H locs ls hi0 hw hl h
  unfold f_X9_change_178 at h
  refine lv_iconst (v := 0) hx hb dX9_change_178 (by decide) ?_
  refine lv_topi (fun y96 ey96 => ?_)
  have h := nm_i h y96 ey96
  refine lv_istore (lv' := [(7, .int y96), (0, .ref a0), (1, .int x1), (6, .int x6)]) hx hb dX9_change_179 hl (by decide) rfl (fun ls hl => ?_)
  exact w_X9_change_181 hC hR LF o0 a0 x1 x6 y96 _ _ _ _ hi0 hw (lv_sub hl [1, 2, 3, 0] rfl) h
set_option maxHeartbeats 4000000 in
set_option maxRecDepth 100000 in
theorem w_X9_change_141 {r : Int64} {D' : dt} (hC : Cx RX9 cX9_change 8 (some .long) p s m args meth c) (hR : 1 ≤ R.frames ∧ 25 ≤ R.locals) : ∀ (n : Nat), ∀ (o0 a0 : Nat) (x1 : Int32) (x6 : Int32) (x7 : Int32) (D : dt) (H : Heap) (locs : List Loc) (ls : Array Slot), Is S ad o0 a0 8 → Wd G cA S D ad A s H locs → lv_has ls 8 [(0, .ref a0), (1, .int x1), (6, .int x6), (7, .int x7)] → f_X9_change_141 S n o0 x1 x6 x7 D = some (r, D') → W p l e R s m args below meth c H locs 0 0 (MQ below (Qn (some (.long r)) True (wpost G cA S D' ad A) A) args s 0 0 A) (F0 m 141 ls []) := by
  obtain ⟨hx, hb, -⟩ := id hC
  intro n
  induction n with
  | zero =>
    intro o0 a0 x1 x6 x7 D H locs ls hi0 hw hl h
    rw [f_X9_change_141.eq_1] at h
    cases h
  | succ n ih =>
    intro o0 a0 x1 x6 x7 D H locs ls hi0 hw hl h
    rw [f_X9_change_141.eq_2] at h
    refine lv_iload hx hb dX9_change_141 (lv_at hl 3 rfl) ?_
    refine lv_aload_n hx hb dX9_change_143 rfl (lv_at hl 0 rfl) ?_
    obtain ⟨o97, ho100, h⟩ := rq_i h
    refine r_getR hC hw kc_8 hi0 11 rfl lk_1083 dX9_change_144 rfl ho100 (fun a98 hi99 => ?_)
    refine lv_iload_n hx hb dX9_change_147 rfl (lv_at hl 1 rfl) ?_
    obtain ⟨hn101, h⟩ := ix_i h
    refine r_iald hC hw hi99 hn101 dX9_change_148 ?_
    refine lv_icmp_ge (tgt := 178) hx hb dX9_change_149 (by decide) (fun c102 => ?_) (fun c102 => ?_)
    · have h := i_yes c102 h
      exact w_X9_change_178 hC hR o0 a0 x1 x6 _ _ _ _ hi0 hw (lv_sub hl [0, 1, 2] rfl) h
    · have h := i_no c102 h
      refine lv_aload_n hx hb dX9_change_152 rfl (lv_at hl 0 rfl) ?_
      obtain ⟨o103, ho106, h⟩ := rq_i h
      refine r_getR hC hw kc_8 hi0 16 rfl lk_1088 dX9_change_153 rfl ho106 (fun a104 hi105 => ?_)
      refine lv_bipush (v := 8) hx hb dX9_change_156 (by decide) ?_
      refine lv_iload hx hb dX9_change_158 (lv_at hl 2 rfl) ?_
      refine lv_imul hx hb dX9_change_160 ?_
      refine lv_iload hx hb dX9_change_161 (lv_at hl 3 rfl) ?_
      refine lv_iadd hx hb dX9_change_163 ?_
      refine lv_aload_n hx hb dX9_change_164 rfl (lv_at hl 0 rfl) ?_
      obtain ⟨o107, ho110, h⟩ := rq_i h
      refine r_getR hC hw kc_8 hi0 25 rfl lk_1097 dX9_change_165 rfl ho110 (fun a108 hi109 => ?_)
      refine lv_iload hx hb dX9_change_168 (lv_at hl 3 rfl) ?_
      obtain ⟨hn111, h⟩ := ix_i h
      refine r_iald hC hw hi109 hn111 dX9_change_170 ?_
      obtain ⟨hn112, h⟩ := ix_i h
      refine r_ias hC hw hi105 hn112 dX9_change_171 (fun D113 eD113 H locs hw => ?_)
      have h := nm_i h D113 eD113
      obtain ⟨y114, ey114⟩ : ∃ z : Int32, z = x7 + 1 := ⟨_, rfl⟩
      have h := nm_i h y114 ey114
      refine lv_iinc (v := y114) (lv' := [(7, .int y114), (0, .ref a0), (1, .int x1), (6, .int x6)]) hx hb dX9_change_172 hl (k := 3) rfl (by rw [ey114]; rfl) (by decide) rfl (fun ls hl => ?_)
      refine lv_goto (tgt := 141) hx hb dX9_change_175 (by decide) ?_
      exact ih o0 a0 x1 x6 y114 _ _ _ _ hi0 hw (lv_sub hl [1, 2, 3, 0] rfl) h
set_option maxHeartbeats 4000000 in
set_option maxRecDepth 100000 in
theorem w_X9_change_108 {r : Int64} {D' : dt} (hC : Cx RX9 cX9_change 8 (some .long) p s m args meth c) (hR : 1 ≤ R.frames ∧ 25 ≤ R.locals) : ∀ (o0 a0 : Nat) (x1 : Int32) (x2 : Int32) (x5 : Int32) (D : dt) (H : Heap) (locs : List Loc) (ls : Array Slot), Is S ad o0 a0 8 → Wd G cA S D ad A s H locs → lv_has ls 8 [(0, .ref a0), (1, .int x1), (2, .int x2), (5, .int x5)] → f_X9_change_108 S o0 x1 x2 x5 D = some (r, D') → W p l e R s m args below meth c H locs 0 0 (MQ below (Qn (some (.long r)) True (wpost G cA S D' ad A) A) args s 0 0 A) (F0 m 108 ls []) := by
  obtain ⟨hx, hb, -⟩ := id hC
  intro o0 a0 x1 x2 x5 D H locs ls hi0 hw hl h
  unfold f_X9_change_108 at h
  refine lv_iload hx hb dX9_change_108 (lv_at hl 3 rfl) ?_
  refine lv_if_ge (tgt := 117) hx hb dX9_change_110 (by decide) (fun c115 => ?_) (fun c115 => ?_)
  · have h := i_yes c115 h
    refine lv_bipush (v := 32) hx hb dX9_change_117 (by decide) ?_
    refine lv_iload_n hx hb dX9_change_119 rfl (lv_at hl 1 rfl) ?_
    refine lv_imul hx hb dX9_change_120 ?_
    refine lv_iload hx hb dX9_change_121 (lv_at hl 3 rfl) ?_
    refine lv_iadd hx hb dX9_change_123 ?_
    refine lv_topi (fun y116 ey116 => ?_)
    have h := nm_i h y116 ey116
    refine lv_istore (lv' := [(6, .int y116), (0, .ref a0), (1, .int x1), (2, .int x2), (5, .int x5)]) hx hb dX9_change_124 hl (by decide) rfl (fun ls hl => ?_)
    refine lv_iload_n hx hb dX9_change_126 rfl (lv_at hl 3 rfl) ?_
    refine lv_if_ge (tgt := 178) hx hb dX9_change_127 (by decide) (fun c117 => ?_) (fun c117 => ?_)
    · have h := i_yes c117 h
      exact w_X9_change_178 hC hR o0 a0 x1 y116 _ _ _ _ hi0 hw (lv_sub hl [1, 2, 0] rfl) h
    · have h := i_no c117 h
      refine lv_aload_n hx hb dX9_change_130 rfl (lv_at hl 1 rfl) ?_
      obtain ⟨o118, ho121, h⟩ := rq_i h
      refine r_getR hC hw kc_8 hi0 15 rfl lk_1087 dX9_change_131 rfl ho121 (fun a119 hi120 => ?_)
      refine lv_iload hx hb dX9_change_134 (lv_at hl 0 rfl) ?_
      refine lv_iconst (v := 1) hx hb dX9_change_136 (by decide) ?_
      obtain ⟨hn122, h⟩ := ix_i h
      refine r_zas hC hw hi120 hn122 dX9_change_137 (fun D123 eD123 H locs hw => ?_)
      have h := nm_i h D123 eD123
      refine lv_iconst (v := 0) hx hb dX9_change_138 (by decide) ?_
      refine lv_topi (fun y124 ey124 => ?_)
      have h := nm_i h y124 ey124
      refine lv_istore (lv' := [(7, .int y124), (6, .int y116), (0, .ref a0), (1, .int x1), (2, .int x2), (5, .int x5)]) hx hb dX9_change_139 hl (by decide) rfl (fun ls hl => ?_)
      exact w_X9_change_141 hC hR LF o0 a0 x1 y116 y124 _ _ _ _ hi0 hw (lv_sub hl [2, 3, 1, 0] rfl) h
  · have h := i_no c115 h
    refine lv_ldc2 (v := (-1)) hx hb hC.2.2.2.1 (hC.2.2.2.2.1 _ lk_1365) dX9_change_113 ?_
    cases h
    exact r_lret hC hw dX9_change_116
set_option maxHeartbeats 4000000 in
set_option maxRecDepth 100000 in
theorem w_X9_change_100 {r : Int64} {D' : dt} (hC : Cx RX9 cX9_change 8 (some .long) p s m args meth c) (hR : 1 ≤ R.frames ∧ 25 ≤ R.locals) {k69 : Nat → Int32 → Int32 → Int32 → Int32 → dt → Option (Int64 × dt)} (hk69 : ∀ (o0 a0 : Nat) (x1 : Int32) (x2 : Int32) (x5 : Int32) (x6 : Int32) (D : dt) (H : Heap) (locs : List Loc) (ls : Array Slot), Is S ad o0 a0 8 → Wd G cA S D ad A s H locs → lv_has ls 8 [(0, .ref a0), (1, .int x1), (2, .int x2), (5, .int x5), (6, .int x6)] → k69 o0 x1 x2 x5 x6 D = some (r, D') → W p l e R s m args below meth c H locs 0 0 (MQ below (Qn (some (.long r)) True (wpost G cA S D' ad A) A) args s 0 0 A) (F0 m 69 ls [])) : ∀ (o0 a0 : Nat) (x1 : Int32) (x2 : Int32) (x6 : Int32) (xs0 : Int32) (D : dt) (H : Heap) (locs : List Loc) (ls : Array Slot), Is S ad o0 a0 8 → Wd G cA S D ad A s H locs → lv_has ls 8 [(0, .ref a0), (1, .int x1), (2, .int x2), (6, .int x6)] → f_X9_change_100 S k69 o0 x1 x2 x6 xs0 D = some (r, D') → W p l e R s m args below meth c H locs 0 0 (MQ below (Qn (some (.long r)) True (wpost G cA S D' ad A) A) args s 0 0 A) (F0 m 100 ls [.int xs0]) := by
  obtain ⟨hx, hb, -⟩ := id hC
  intro o0 a0 x1 x2 x6 xs0 D H locs ls hi0 hw hl h
  unfold f_X9_change_100 at h
  refine lv_istore (lv' := [(5, .int xs0), (0, .ref a0), (1, .int x1), (2, .int x2), (6, .int x6)]) hx hb dX9_change_100 hl (by decide) rfl (fun ls hl => ?_)
  obtain ⟨y125, ey125⟩ : ∃ z : Int32, z = x6 + (-1) := ⟨_, rfl⟩
  have h := nm_i h y125 ey125
  refine lv_iinc (v := y125) (lv' := [(6, .int y125), (5, .int xs0), (0, .ref a0), (1, .int x1), (2, .int x2)]) hx hb dX9_change_102 hl (k := 4) rfl (by rw [ey125]; rfl) (by decide) rfl (fun ls hl => ?_)
  refine lv_goto (tgt := 69) hx hb dX9_change_105 (by decide) ?_
  exact hk69 o0 a0 x1 x2 xs0 y125 _ _ _ _ hi0 hw (lv_sub hl [2, 3, 4, 1, 0] rfl) h
set_option maxHeartbeats 4000000 in
set_option maxRecDepth 100000 in
theorem w_X9_change_69 {r : Int64} {D' : dt} (hC : Cx RX9 cX9_change 8 (some .long) p s m args meth c) (hR : 1 ≤ R.frames ∧ 25 ≤ R.locals) : ∀ (n : Nat), ∀ (o0 a0 : Nat) (x1 : Int32) (x2 : Int32) (x5 : Int32) (x6 : Int32) (D : dt) (H : Heap) (locs : List Loc) (ls : Array Slot), Is S ad o0 a0 8 → Wd G cA S D ad A s H locs → lv_has ls 8 [(0, .ref a0), (1, .int x1), (2, .int x2), (5, .int x5), (6, .int x6)] → f_X9_change_69 S n o0 x1 x2 x5 x6 D = some (r, D') → W p l e R s m args below meth c H locs 0 0 (MQ below (Qn (some (.long r)) True (wpost G cA S D' ad A) A) args s 0 0 A) (F0 m 69 ls []) := by
  obtain ⟨hx, hb, -⟩ := id hC
  intro n
  induction n with
  | zero =>
    intro o0 a0 x1 x2 x5 x6 D H locs ls hi0 hw hl h
    rw [f_X9_change_69.eq_1] at h
    cases h
  | succ n ih =>
    intro o0 a0 x1 x2 x5 x6 D H locs ls hi0 hw hl h
    rw [f_X9_change_69.eq_2] at h
    refine lv_iload hx hb dX9_change_69 (lv_at hl 4 rfl) ?_
    refine lv_if_lt (tgt := 108) hx hb dX9_change_71 (by decide) (fun c126 => ?_) (fun c126 => ?_)
    · have h := i_yes c126 h
      exact w_X9_change_108 hC hR o0 a0 x1 x2 x5 _ _ _ _ hi0 hw (lv_sub hl [0, 1, 2, 3] rfl) h
    · have h := i_no c126 h
      refine lv_iload_n hx hb dX9_change_74 rfl (lv_at hl 2 rfl) ?_
      refine lv_if_ge (tgt := 108) hx hb dX9_change_75 (by decide) (fun c127 => ?_) (fun c127 => ?_)
      · have h := i_yes c127 h
        exact w_X9_change_108 hC hR o0 a0 x1 x2 x5 _ _ _ _ hi0 hw (lv_sub hl [0, 1, 2, 3] rfl) h
      · have h := i_no c127 h
        refine lv_aload_n hx hb dX9_change_78 rfl (lv_at hl 0 rfl) ?_
        obtain ⟨o128, ho131, h⟩ := rq_i h
        refine r_getR hC hw kc_8 hi0 15 rfl lk_1087 dX9_change_79 rfl ho131 (fun a129 hi130 => ?_)
        refine lv_bipush (v := 32) hx hb dX9_change_82 (by decide) ?_
        refine lv_iload_n hx hb dX9_change_84 rfl (lv_at hl 1 rfl) ?_
        refine lv_imul hx hb dX9_change_85 ?_
        refine lv_iload hx hb dX9_change_86 (lv_at hl 4 rfl) ?_
        refine lv_iadd hx hb dX9_change_88 ?_
        obtain ⟨hn132, h⟩ := ix_i h
        refine r_zald hC hw hi130 hn132 dX9_change_89 ?_
        refine lv_if_eq (tgt := 98) hx hb dX9_change_90 (by decide) (fun c133 => ?_) (fun c133 => ?_)
        · have h := i_yes c133 h
          refine lv_iload hx hb dX9_change_98 (lv_at hl 4 rfl) ?_
          exact w_X9_change_100 hC hR ih o0 a0 x1 x2 x6 x6 _ _ _ _ hi0 hw (lv_sub hl [0, 1, 2, 4] rfl) h
        · have h := i_no c133 h
          refine lv_iload hx hb dX9_change_93 (lv_at hl 3 rfl) ?_
          refine lv_goto (tgt := 100) hx hb dX9_change_95 (by decide) ?_
          exact w_X9_change_100 hC hR ih o0 a0 x1 x2 x6 x5 _ _ _ _ hi0 hw (lv_sub hl [0, 1, 2, 4] rfl) h
set_option maxHeartbeats 4000000 in
set_option maxRecDepth 100000 in
theorem w_X9_change_56 {r : Int64} {D' : dt} (hC : Cx RX9 cX9_change 8 (some .long) p s m args meth c) (hR : 1 ≤ R.frames ∧ 25 ≤ R.locals) : ∀ (o0 a0 : Nat) (x1 : Int32) (x2 : Int32) (D : dt) (H : Heap) (locs : List Loc) (ls : Array Slot), Is S ad o0 a0 8 → Wd G cA S D ad A s H locs → lv_has ls 8 [(0, .ref a0), (1, .int x1), (2, .int x2)] → f_X9_change_56 S o0 x1 x2 D = some (r, D') → W p l e R s m args below meth c H locs 0 0 (MQ below (Qn (some (.long r)) True (wpost G cA S D' ad A) A) args s 0 0 A) (F0 m 56 ls []) := by
  obtain ⟨hx, hb, -⟩ := id hC
  intro o0 a0 x1 x2 D H locs ls hi0 hw hl h
  unfold f_X9_change_56 at h
  refine lv_iload_n hx hb dX9_change_56 rfl (lv_at hl 2 rfl) ?_
  refine lv_istore (lv' := [(5, .int x2), (0, .ref a0), (1, .int x1), (2, .int x2)]) hx hb dX9_change_57 hl (by decide) rfl (fun ls hl => ?_)
  refine lv_aload_n hx hb dX9_change_59 rfl (lv_at hl 1 rfl) ?_
  obtain ⟨o134, ho137, h⟩ := rq_i h
  refine r_getR hC hw kc_8 hi0 13 rfl lk_1085 dX9_change_60 rfl ho137 (fun a135 hi136 => ?_)
  refine lv_iload_n hx hb dX9_change_63 rfl (lv_at hl 2 rfl) ?_
  obtain ⟨hn138, h⟩ := ix_i h
  refine r_iald hC hw hi136 hn138 dX9_change_64 ?_
  refine lv_iconst (v := 1) hx hb dX9_change_65 (by decide) ?_
  refine lv_isub hx hb dX9_change_66 ?_
  refine lv_topi (fun y139 ey139 => ?_)
  have h := nm_i h y139 ey139
  refine lv_istore (lv' := [(6, .int y139), (5, .int x2), (0, .ref a0), (1, .int x1), (2, .int x2)]) hx hb dX9_change_67 hl (by decide) rfl (fun ls hl => ?_)
  exact w_X9_change_69 hC hR LF o0 a0 x1 x2 x2 y139 _ _ _ _ hi0 hw (lv_sub hl [2, 3, 4, 1, 0] rfl) h
set_option maxHeartbeats 4000000 in
set_option maxRecDepth 100000 in
theorem w_X9_change_40 {r : Int64} {D' : dt} (hC : Cx RX9 cX9_change 8 (some .long) p s m args meth c) (hR : 1 ≤ R.frames ∧ 25 ≤ R.locals) : ∀ (o0 a0 : Nat) (x1 : Int32) (x2 : Int32) (x3 : Int64) (D : dt) (H : Heap) (locs : List Loc) (ls : Array Slot), Is S ad o0 a0 8 → Wd G cA S D ad A s H locs → lv_has ls 8 [(0, .ref a0), (1, .int x1), (2, .int x2), (3, .long x3)] → f_X9_change_40 S o0 x1 x2 x3 D = some (r, D') → W p l e R s m args below meth c H locs 0 0 (MQ below (Qn (some (.long r)) True (wpost G cA S D' ad A) A) args s 0 0 A) (F0 m 40 ls []) := by
  obtain ⟨hx, hb, -⟩ := id hC
  intro o0 a0 x1 x2 x3 D H locs ls hi0 hw hl h
  unfold f_X9_change_40 at h
  refine lv_lload_n hx hb dX9_change_40 rfl (lv_at hl 3 rfl) ?_
  refine lv_ldc2 (v := 2) hx hb hC.2.2.2.1 (hC.2.2.2.2.1 _ lk_1383) dX9_change_41 ?_
  refine W.lcmp hx hb dX9_change_44 ?_
  refine lv_if_ne (tgt := 56) hx hb dX9_change_45 (by decide) (fun c140 => ?_) (fun c140 => ?_)
  · have h := i_no c140 h
    exact w_X9_change_56 hC hR o0 a0 x1 x2 _ _ _ _ hi0 hw (lv_sub hl [0, 1, 2] rfl) h
  · have h := i_yes c140 h
    refine lv_iload_n hx hb dX9_change_48 rfl (lv_at hl 2 rfl) ?_
    refine lv_if_ge (tgt := 56) hx hb dX9_change_49 (by decide) (fun c141 => ?_) (fun c141 => ?_)
    · have h := i_yes c141 h
      exact w_X9_change_56 hC hR o0 a0 x1 x2 _ _ _ _ hi0 hw (lv_sub hl [0, 1, 2] rfl) h
    · have h := i_no c141 h
      exact w_X9_change_52 hC hR _ _ _ _ hw (lv_sub hl [] rfl) h
set_option maxHeartbeats 4000000 in
set_option maxRecDepth 100000 in
theorem w_X9_change_30 {r : Int64} {D' : dt} (hC : Cx RX9 cX9_change 8 (some .long) p s m args meth c) (hR : 1 ≤ R.frames ∧ 25 ≤ R.locals) : ∀ (o0 a0 : Nat) (x1 : Int32) (x2 : Int32) (x3 : Int64) (D : dt) (H : Heap) (locs : List Loc) (ls : Array Slot), Is S ad o0 a0 8 → Wd G cA S D ad A s H locs → lv_has ls 8 [(0, .ref a0), (1, .int x1), (2, .int x2), (3, .long x3)] → f_X9_change_30 S o0 x1 x2 x3 D = some (r, D') → W p l e R s m args below meth c H locs 0 0 (MQ below (Qn (some (.long r)) True (wpost G cA S D' ad A) A) args s 0 0 A) (F0 m 30 ls []) := by
  obtain ⟨hx, hb, -⟩ := id hC
  intro o0 a0 x1 x2 x3 D H locs ls hi0 hw hl h
  unfold f_X9_change_30 at h
  refine lv_lload_n hx hb dX9_change_30 rfl (lv_at hl 3 rfl) ?_
  refine lv_lconst (v := 1) hx hb dX9_change_31 (by decide) ?_
  refine W.lcmp hx hb dX9_change_32 ?_
  refine lv_if_ne (tgt := 40) hx hb dX9_change_33 (by decide) (fun c142 => ?_) (fun c142 => ?_)
  · have h := i_no c142 h
    exact w_X9_change_40 hC hR o0 a0 x1 x2 x3 _ _ _ _ hi0 hw (lv_sub hl [0, 1, 2, 3] rfl) h
  · have h := i_yes c142 h
    refine lv_iload_n hx hb dX9_change_36 rfl (lv_at hl 2 rfl) ?_
    refine lv_if_ge (tgt := 52) hx hb dX9_change_37 (by decide) (fun c143 => ?_) (fun c143 => ?_)
    · have h := i_yes c143 h
      exact w_X9_change_52 hC hR _ _ _ _ hw (lv_sub hl [] rfl) h
    · have h := i_no c143 h
      exact w_X9_change_40 hC hR o0 a0 x1 x2 x3 _ _ _ _ hi0 hw (lv_sub hl [0, 1, 2, 3] rfl) h
set_option maxHeartbeats 4000000 in
set_option maxRecDepth 100000 in
theorem w_X9_change_0 {r : Int64} {D' : dt} (hC : Cx RX9 cX9_change 8 (some .long) p s m args meth c) (hR : 1 ≤ R.frames ∧ 25 ≤ R.locals) : ∀ (o0 a0 : Nat) (x1 : Int32) (x2 : Int32) (x3 : Int64) (D : dt) (H : Heap) (locs : List Loc) (ls : Array Slot), Is S ad o0 a0 8 → Wd G cA S D ad A s H locs → lv_has ls 8 [(0, .ref a0), (1, .int x1), (2, .int x2), (3, .long x3)] → f_X9_change S o0 x1 x2 x3 D = some (r, D') → W p l e R s m args below meth c H locs 0 0 (MQ below (Qn (some (.long r)) True (wpost G cA S D' ad A) A) args s 0 0 A) (F0 m 0 ls []) := by
  obtain ⟨hx, hb, -⟩ := id hC
  intro o0 a0 x1 x2 x3 D H locs ls hi0 hw hl h
  unfold f_X9_change at h
  refine lv_lload_n hx hb dX9_change_0 rfl (lv_at hl 3 rfl) ?_
  refine lv_lconst (v := 0) hx hb dX9_change_1 (by decide) ?_
  refine lv_ldc2 (v := 2) hx hb hC.2.2.2.1 (hC.2.2.2.2.1 _ lk_1383) dX9_change_2 ?_
  obtain ⟨r145, hq144, h⟩ := pq_i h
  refine r_cS (st' := [.int r145]) [.long x3, .long (0 : Int64), .long (2 : Int64)] [] hC hw (k_X9_in _ hq144) mk_X9_in lk_1243 ⟨Nat.le_trans (by decide) hR.1, Nat.le_trans (by decide) hR.2⟩ ⟨Nat.zero_le _, Nat.zero_le _⟩ rfl hl.1 rfl rfl (Nat.le_of_ble_eq_true rfl) dX9_change_5 (fun hP H locs hw => ?_)
  refine lv_if_eq (tgt := 52) hx hb dX9_change_8 (by decide) (fun c146 => ?_) (fun c146 => ?_)
  · have h := i_yes c146 h
    exact w_X9_change_52 hC hR _ _ _ _ hw (lv_sub hl [] rfl) h
  · have h := i_no c146 h
    refine lv_aload_n hx hb dX9_change_11 rfl (lv_at hl 0 rfl) ?_
    obtain ⟨o147, ho150, h⟩ := rq_i h
    refine r_getR hC hw kc_8 hi0 10 rfl lk_1082 dX9_change_12 rfl ho150 (fun a148 hi149 => ?_)
    refine lv_iload_n hx hb dX9_change_15 rfl (lv_at hl 1 rfl) ?_
    obtain ⟨hn151, h⟩ := ix_i h
    refine r_iald hC hw hi149 hn151 dX9_change_16 ?_
    refine lv_if_ne (tgt := 30) hx hb dX9_change_17 (by decide) (fun c152 => ?_) (fun c152 => ?_)
    · have h := i_no c152 h
      exact w_X9_change_30 hC hR o0 a0 x1 x2 x3 _ _ _ _ hi0 hw (lv_sub hl [0, 1, 2, 3] rfl) h
    · have h := i_yes c152 h
      refine lv_lload_n hx hb dX9_change_20 rfl (lv_at hl 3 rfl) ?_
      refine lv_lconst (v := 1) hx hb dX9_change_21 (by decide) ?_
      refine W.lcmp hx hb dX9_change_22 ?_
      refine lv_if_eq (tgt := 52) hx hb dX9_change_23 (by decide) (fun c153 => ?_) (fun c153 => ?_)
      · have h := i_yes c153 h
        exact w_X9_change_52 hC hR _ _ _ _ hw (lv_sub hl [] rfl) h
      · have h := i_no c153 h
        refine lv_iload_n hx hb dX9_change_26 rfl (lv_at hl 2 rfl) ?_
        refine lv_if_lt (tgt := 52) hx hb dX9_change_27 (by decide) (fun c154 => ?_) (fun c154 => ?_)
        · have h := i_yes c154 h
          exact w_X9_change_52 hC hR _ _ _ _ hw (lv_sub hl [] rfl) h
        · have h := i_no c154 h
          exact w_X9_change_30 hC hR o0 a0 x1 x2 x3 _ _ _ _ hi0 hw (lv_sub hl [0, 1, 2, 3] rfl) h
set_option maxHeartbeats 4000000 in
set_option maxRecDepth 100000 in
theorem k_X9_change {l : Launch} {G : va_G} {cA : Nat → ClassId} {S : sh} {D D' : dt} {ad : Nat → Nat} (sz : Nat) {o0 a0 : Nat} {x1 : Int32} {x2 : Int32} {x3 : Int64} {r : Int64} (hi0 : Is S ad o0 a0 8) (h : f_X9_change S o0 x1 x2 x3 D = some (r, D')) : Co l yX9_change (Cond.code yX9_change cX9_change 8 (some .long) :: tb0) 1 25 [.ref a0, .int x1, .int x2, .long x3] G cA S D ad sz (some (.long r)) True D' := by
  refine Met.ofW (cc := cX9_change) (maxL := 8) (ret := (some .long)) (by decide) rfl ?_
  intro p e s m args below meth c s₁ B hml hv
  obtain ⟨rfl, hsz, hP, hK, hD0, hT, hX⟩ := hv
  subst hsz
  have hts := atoms_spec (ws := Cond.code yX9_change cX9_change 8 (some .long) :: tb0) B.pre
  have hC : Cx RX9 cX9_change 8 (some .long) p s m _ meth c := ⟨B.exec, B.bytes, hml, findClass_of_methodNamed B.named, fun w q => hts w (List.mem_cons_of_mem _ q), B.returns, B.notSynchronized⟩
  have hw := Wd.entry hP hK hD0 hT hX
  have hl := lv_entry ([.ref a0, .int x1, .int x2, .long x3]) (n := 8) (Nat.le_of_ble_eq_true rfl)
  rw [lg_entry_eq]
  exact w_X9_change_0 hC ⟨Nat.le_refl _, Nat.le_refl _⟩ o0 a0 x1 x2 x3 D _ _ _ hi0 hw hl h
end
