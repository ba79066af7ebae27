/-! the world of two new objects: 0 .. 27 the class', 28 .. 65 the reference's -/
def RC0 : Option (Unit × sh × dt) := f_X8_init 0 (aS S00 7 0 4) (aD S00 D00)
theorem RC0_is : RC0.isSome = true := by decide +kernel
def SC0 : sh := (RC0.get RC0_is).2.1
def DC0 : dt := (RC0.get RC0_is).2.2
theorem RC0_eq : RC0 = some ((), SC0, DC0) := (Option.some_get RC0_is).symm
theorem SC0_n : sN SC0 = 28 := by decide +kernel
def RM0 : Option (Unit × sh × dt) := f_X9_init 28 (aS SC0 8 0 54) (aD SC0 DC0)
theorem RM0_is : RM0.isSome = true := by decide +kernel
def SM : sh := (RM0.get RM0_is).2.1
def DM : dt := (RM0.get RM0_is).2.2
theorem RM0_eq : RM0 = some ((), SM, DM) := (Option.some_get RM0_is).symm
theorem SM_n : sN SM = 66 := by decide +kernel
theorem SM_z : sZ SM ≤ 300000 := by decide +kernel
theorem c3_some {α γ : Type} {x : α} {S : sh} {D : dt} {k : α → sh → dt → Option γ} : c3 (some (x, S, D)) k = k x S D := rfl
theorem nm_eq {α β : Type} {e : α} {k : α → Option β} : nm e k = k e := rfl
theorem law_a (xs : Nat → Int32) (L : Nat) : f_law xs L S00 D00 = c3 RC0 (fun _ S D => f_law_7 xs L 0 S D) := rfl
theorem law_b (xs : Nat → Int32) (L : Nat) : f_law_11 xs L 0 28 (aS SC0 8 0 54) (aD SC0 DC0) = c3 RM0 (fun _ S D => f_law_15 xs L 0 28 S D) := rfl
theorem law_15 (xs : Nat → Int32) (L : Nat) : f_law xs L S00 D00 = f_law_18 xs L LF 0 28 0 SM DM := by
  rw [law_a, RC0_eq, c3_some]
  unfold f_law_7
  rw [SC0_n, law_b, RM0_eq, c3_some]
  unfold f_law_15
  rw [nm_eq]
theorem r0_0 : gR DM 0 0 = some 1 := by decide +kernel
theorem r0_1 : gR DM 0 1 = some 7 := by decide +kernel
theorem r0_2 : gR DM 0 2 = some 11 := by decide +kernel
theorem r0_3 : gR DM 0 3 = some 14 := by decide +kernel
theorem r1_0 : gR DM 1 0 = some 2 := by decide +kernel
theorem r1_1 : gR DM 1 1 = some 3 := by decide +kernel
theorem r1_2 : gR DM 1 2 = some 4 := by decide +kernel
theorem r1_3 : gR DM 1 3 = some 5 := by decide +kernel
theorem r1_4 : gR DM 1 4 = some 6 := by decide +kernel
theorem r7_0 : gR DM 7 0 = some 8 := by decide +kernel
theorem r7_2 : gR DM 7 2 = some 9 := by decide +kernel
theorem r7_3 : gR DM 7 3 = some 10 := by decide +kernel
theorem r7_6 : gR DM 7 6 = some 9 := by decide +kernel
theorem r11_0 : gR DM 11 0 = some 1 := by decide +kernel
theorem r11_1 : gR DM 11 1 = some 7 := by decide +kernel
theorem r11_2 : gR DM 11 2 = some 12 := by decide +kernel
theorem r11_3 : gR DM 11 3 = some 13 := by decide +kernel
theorem r14_0 : gR DM 14 0 = some 1 := by decide +kernel
theorem r14_1 : gR DM 14 1 = some 7 := by decide +kernel
theorem r14_2 : gR DM 14 2 = some 15 := by decide +kernel
theorem r14_3 : gR DM 14 3 = some 16 := by decide +kernel
theorem r14_4 : gR DM 14 4 = some 17 := by decide +kernel
theorem r14_5 : gR DM 14 5 = some 22 := by decide +kernel
theorem r14_6 : gR DM 14 6 = some 27 := by decide +kernel
theorem r28_1 : gR DM 28 1 = some 29 := by decide +kernel
theorem r28_2 : gR DM 28 2 = some 30 := by decide +kernel
theorem r28_3 : gR DM 28 3 = some 31 := by decide +kernel
theorem r28_4 : gR DM 28 4 = some 32 := by decide +kernel
theorem r28_5 : gR DM 28 5 = some 33 := by decide +kernel
theorem r28_6 : gR DM 28 6 = some 34 := by decide +kernel
theorem r28_8 : gR DM 28 8 = some 35 := by decide +kernel
theorem r28_10 : gR DM 28 10 = some 36 := by decide +kernel
theorem r28_11 : gR DM 28 11 = some 37 := by decide +kernel
theorem r28_12 : gR DM 28 12 = some 38 := by decide +kernel
theorem r28_13 : gR DM 28 13 = some 39 := by decide +kernel
theorem r28_14 : gR DM 28 14 = some 40 := by decide +kernel
theorem r28_15 : gR DM 28 15 = some 41 := by decide +kernel
theorem r28_16 : gR DM 28 16 = some 42 := by decide +kernel
theorem r28_21 : gR DM 28 21 = some 43 := by decide +kernel
theorem r28_23 : gR DM 28 23 = some 44 := by decide +kernel
theorem r28_24 : gR DM 28 24 = some 45 := by decide +kernel
theorem r28_25 : gR DM 28 25 = some 46 := by decide +kernel
theorem r28_27 : gR DM 28 27 = some 47 := by decide +kernel
theorem r28_28 : gR DM 28 28 = some 48 := by decide +kernel
theorem r28_29 : gR DM 28 29 = some 49 := by decide +kernel
theorem r28_30 : gR DM 28 30 = some 50 := by decide +kernel
theorem r28_31 : gR DM 28 31 = some 51 := by decide +kernel
theorem r28_32 : gR DM 28 32 = some 52 := by decide +kernel
theorem r28_33 : gR DM 28 33 = some 53 := by decide +kernel
theorem r28_34 : gR DM 28 34 = some 54 := by decide +kernel
theorem r28_35 : gR DM 28 35 = some 55 := by decide +kernel
theorem r28_36 : gR DM 28 36 = some 56 := by decide +kernel
theorem r28_37 : gR DM 28 37 = some 57 := by decide +kernel
theorem r28_38 : gR DM 28 38 = some 58 := by decide +kernel
theorem r28_39 : gR DM 28 39 = some 59 := by decide +kernel
theorem r28_40 : gR DM 28 40 = some 60 := by decide +kernel
theorem r28_41 : gR DM 28 41 = some 61 := by decide +kernel
theorem r28_42 : gR DM 28 42 = some 62 := by decide +kernel
theorem r28_43 : gR DM 28 43 = some 63 := by decide +kernel
theorem r28_44 : gR DM 28 44 = some 64 := by decide +kernel
theorem r28_45 : gR DM 28 45 = some 65 := by decide +kernel
theorem l_2 : sA SM 2 = 200 := by decide +kernel
theorem l_3 : sA SM 3 = 200 := by decide +kernel
theorem l_4 : sA SM 4 = 200 := by decide +kernel
theorem l_5 : sA SM 5 = 200 := by decide +kernel
theorem l_6 : sA SM 6 = 200 := by decide +kernel
theorem l_8 : sA SM 8 = 256 := by decide +kernel
theorem l_9 : sA SM 9 = 512 := by decide +kernel
theorem l_10 : sA SM 10 = 4 := by decide +kernel
theorem l_12 : sA SM 12 = 11 := by decide +kernel
theorem l_13 : sA SM 13 = 32 := by decide +kernel
theorem l_15 : sA SM 15 = 200 := by decide +kernel
theorem l_16 : sA SM 16 = 200 := by decide +kernel
theorem l_29 : sA SM 29 = 200 := by decide +kernel
theorem l_30 : sA SM 30 = 200 := by decide +kernel
theorem l_31 : sA SM 31 = 200 := by decide +kernel
theorem l_32 : sA SM 32 = 200 := by decide +kernel
theorem l_33 : sA SM 33 = 200 := by decide +kernel
theorem l_34 : sA SM 34 = 256 := by decide +kernel
theorem l_35 : sA SM 35 = 512 := by decide +kernel
theorem l_36 : sA SM 36 = 4 := by decide +kernel
theorem l_37 : sA SM 37 = 4 := by decide +kernel
theorem l_38 : sA SM 38 = 4 := by decide +kernel
theorem l_39 : sA SM 39 = 4 := by decide +kernel
theorem l_43 : sA SM 43 = 11 := by decide +kernel
theorem l_44 : sA SM 44 = 32 := by decide +kernel
theorem i1_5 : gI DM 1 5 = 0 := by decide +kernel
theorem i7_1 : gI DM 7 1 = 0 := by decide +kernel
theorem i7_4 : gI DM 7 4 = 0 := by decide +kernel
theorem i11_4 : gI DM 11 4 = 0 := by decide +kernel
theorem i11_5 : gI DM 11 5 = 0 := by decide +kernel
theorem i11_6 : gI DM 11 6 = 0 := by decide +kernel
theorem i11_7 : gI DM 11 7 = 0 := by decide +kernel
theorem i28_0 : gI DM 28 0 = 0 := by decide +kernel
theorem i28_7 : gI DM 28 7 = 0 := by decide +kernel
theorem i28_9 : gI DM 28 9 = 0 := by decide +kernel
theorem i28_18 : gI DM 28 18 = 0 := by decide +kernel
theorem i28_19 : gI DM 28 19 = 0 := by decide +kernel
theorem i28_20 : gI DM 28 20 = 0 := by decide +kernel
theorem i28_22 : gI DM 28 22 = 0 := by decide +kernel
theorem i14_7 : gI DM 14 7 = -1 := by decide +kernel
theorem i28_26 : gI DM 28 26 = -1 := by decide +kernel
theorem g7_5 : gL DM 7 5 = 0 := by decide +kernel
theorem g28_17 : gL DM 28 17 = 0 := by decide +kernel
theorem z_9 : ∀ j, gI DM 9 j = 0 := fun _ => rfl
theorem z_35 : ∀ j, gI DM 35 j = 0 := fun _ => rfl
theorem z_12 : ∀ j, gL DM 12 j = 0 := fun _ => rfl
theorem z_43 : ∀ j, gL DM 43 j = 0 := fun _ => rfl
