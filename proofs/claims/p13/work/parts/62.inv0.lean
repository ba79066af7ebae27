/-! the invariant of two new objects -/
def g0 : gh := (fun n => if n = 9 then 1 else 0, fun o j => gI DM o j)
set_option maxRecDepth 1000000 in
theorem zz_2 : ∀ j, gI DM 2 j = 0 := fun _ => rfl
set_option maxRecDepth 1000000 in
theorem zz_3 : ∀ j, gI DM 3 j = 0 := fun _ => rfl
set_option maxRecDepth 1000000 in
theorem zz_4 : ∀ j, gI DM 4 j = 0 := fun _ => rfl
set_option maxRecDepth 1000000 in
theorem zz_5 : ∀ j, gI DM 5 j = 0 := fun _ => rfl
set_option maxRecDepth 1000000 in
theorem zz_18 : ∀ j, gI DM 18 j = 0 := fun _ => rfl
set_option maxRecDepth 1000000 in
theorem zz_23 : ∀ j, gI DM 23 j = 0 := fun _ => rfl
set_option maxRecDepth 1000000 in
theorem zz_29 : ∀ j, gI DM 29 j = 0 := fun _ => rfl
set_option maxRecDepth 1000000 in
theorem zz_30 : ∀ j, gI DM 30 j = 0 := fun _ => rfl
set_option maxRecDepth 1000000 in
theorem zz_31 : ∀ j, gI DM 31 j = 0 := fun _ => rfl
set_option maxRecDepth 1000000 in
theorem zz_32 : ∀ j, gI DM 32 j = 0 := fun _ => rfl
set_option maxRecDepth 1000000 in
theorem zz_34 : ∀ j, gI DM 34 j = 0 := fun _ => rfl
set_option maxRecDepth 1000000 in
theorem zz_35 : ∀ j, gI DM 35 j = 0 := fun _ => rfl
set_option maxRecDepth 1000000 in
theorem zz_36 : ∀ j, gI DM 36 j = 0 := fun _ => rfl
set_option maxRecDepth 1000000 in
theorem zz_37 : ∀ j, gI DM 37 j = 0 := fun _ => rfl
set_option maxRecDepth 1000000 in
theorem zz_38 : ∀ j, gI DM 38 j = 0 := fun _ => rfl
set_option maxRecDepth 1000000 in
theorem zz_39 : ∀ j, gI DM 39 j = 0 := fun _ => rfl
set_option maxRecDepth 1000000 in
theorem zz_40 : ∀ j, gI DM 40 j = 0 := fun _ => rfl
set_option maxRecDepth 1000000 in
theorem zz_45 : ∀ j, gI DM 45 j = 0 := fun _ => rfl
set_option maxRecDepth 1000000 in
theorem zz_46 : ∀ j, gI DM 46 j = 0 := fun _ => rfl
set_option maxRecDepth 1000000 in
theorem zz_49 : ∀ j, gI DM 49 j = 0 := fun _ => rfl
set_option maxRecDepth 1000000 in
theorem zz_52 : ∀ j, gI DM 52 j = 0 := fun _ => rfl
set_option maxRecDepth 1000000 in
theorem zz_55 : ∀ j, gI DM 55 j = 0 := fun _ => rfl
set_option maxRecDepth 1000000 in
theorem zz_58 : ∀ j, gI DM 58 j = 0 := fun _ => rfl
set_option maxRecDepth 1000000 in
theorem zz_60 : ∀ j, gI DM 60 j = 0 := fun _ => rfl
set_option maxRecDepth 1000000 in
theorem zz_63 : ∀ j, gI DM 63 j = 0 := fun _ => rfl
set_option maxRecDepth 1000000 in
theorem nn_10 : ∀ j, gR DM 10 j = none := fun _ => rfl
set_option maxRecDepth 1000000 in
theorem nn_15 : ∀ j, gR DM 15 j = none := fun _ => rfl
set_option maxRecDepth 1000000 in
theorem kz66 (i : Nat) : sK SM (i + 66) = 0 := rfl
theorem kA66 : ∀ k, k < 66 → sK SM k = K0 k ∧ sA SM k = A0 k := by decide +kernel
theorem lt66 {o : Nat} (n : sK SM o ≠ 0) : o < 66 := by
  rcases Nat.lt_or_ge o 66 with w | w
  · exact w
  · obtain ⟨i, rfl⟩ : ∃ i, o = i + 66 := ⟨o - 66, by omega⟩
    exact absurd (kz66 i) n
theorem sc0 (o : Nat) (k : sK SM o = 4) : o = 17 ∨ o = 22 := by
  have w := lt66 (o := o) (by rw [k]; decide)
  exact k_sc o w ((kA66 o w).1.symm.trans k)
theorem tbl0 (o : Nat) : sK SM o ≠ 6 := fun k => by
  have w := lt66 (o := o) (by rw [k]; decide)
  exact k_tb o w ((kA66 o w).1.symm.trans k)
theorem nul0 : nul DM = 200 := by decide +kernel
theorem shp0 : Shp SM := by
  refine ⟨by rw [SM_n]; decide, kA66, fun k hk => ?_, fun o k => ?_, fun o k => absurd k (tbl0 o)⟩
  · rw [SM_n] at hk
    obtain ⟨i, rfl⟩ : ∃ i, k = i + 66 := ⟨k - 66, by omega⟩
    exact kz66 i
  · rcases sc0 o k with rfl | rfl
    · decide +kernel
    · decide +kernel
theorem bI28_ (g : gh) (j : Nat) (q0 : j ≠ 0) (q7 : j ≠ 7) (q9 : j ≠ 9) (q22 : j ≠ 22) (q46 : j ≠ 46) : bI g 28 j = tp := by
  show (match (generalizing := false) j with | 0 => (g.1 2, g.1 2) | 7 => (0, 256) | 9 => (g.1 3, g.1 3) | 22 => (0, g.1 6) | 46 => (0, 199) | _ => tp) = tp
  split
  · exact absurd rfl q0
  · exact absurd rfl q7
  · exact absurd rfl q9
  · exact absurd rfl q22
  · exact absurd rfl q46
  · rfl
theorem j28 (j : Nat) : Rg (bI g0 28 j).1 (bI g0 28 j).2 (gI DM 28 j) := by
  by_cases q0 : j = 0
  · subst q0
    exact (show Rg 0 0 (gI DM 28 0) by rw [i28_0]; decide)
  by_cases q7 : j = 7
  · subst q7
    exact (show Rg 0 256 (gI DM 28 7) by rw [i28_7]; decide)
  by_cases q9 : j = 9
  · subst q9
    exact (show Rg 0 0 (gI DM 28 9) by rw [i28_9]; decide)
  by_cases q22 : j = 22
  · subst q22
    exact (show Rg 0 0 (gI DM 28 22) by rw [i28_22]; decide)
  by_cases q46 : j = 46
  · subst q46
    exact (show Rg 0 199 (gI DM 28 46) by rw [show gI DM 28 46 = 0 by decide +kernel]; decide)
  rw [bI28_ g0 j q0 q7 q9 q22 q46]
  exact rg_top _
theorem bI7_ (g : gh) (j : Nat) (q1 : j ≠ 1) (q4 : j ≠ 4) : bI g 7 j = tp := by
  show (match (generalizing := false) j with | 1 => (0, 256) | 4 => (g.1 1, g.1 1) | _ => tp) = tp
  split
  · exact absurd rfl q1
  · exact absurd rfl q4
  · rfl
theorem j7 (j : Nat) : Rg (bI g0 7 j).1 (bI g0 7 j).2 (gI DM 7 j) := by
  by_cases q1 : j = 1
  · subst q1
    exact (show Rg 0 256 (gI DM 7 1) by rw [i7_1]; decide)
  by_cases q4 : j = 4
  · subst q4
    exact (show Rg 0 0 (gI DM 7 4) by rw [i7_4]; decide)
  rw [bI7_ g0 j q1 q4]
  exact rg_top _
theorem bI1_ (g : gh) (j : Nat) (q5 : j ≠ 5) : bI g 1 j = tp := by
  show (match (generalizing := false) j with | 5 => (g.1 0, g.1 0) | _ => tp) = tp
  split
  · exact absurd rfl q5
  · rfl
theorem j1 (j : Nat) : Rg (bI g0 1 j).1 (bI g0 1 j).2 (gI DM 1 j) := by
  by_cases q5 : j = 5
  · subst q5
    exact (show Rg 0 0 (gI DM 1 5) by rw [i1_5]; decide)
  rw [bI1_ g0 j q5]
  exact rg_top _
theorem vI0 : vI g0 DM := by
  intro o j ho
  rcases (by omega : o = 0 ∨ o = 1 ∨ o = 2 ∨ o = 3 ∨ o = 4 ∨ o = 5 ∨ o = 6 ∨ o = 7 ∨ o = 8 ∨ o = 9 ∨ o = 10 ∨ o = 11 ∨ o = 12 ∨ o = 13 ∨ o = 14 ∨ o = 15 ∨ o = 16 ∨ o = 17 ∨ o = 18 ∨ o = 19 ∨ o = 20 ∨ o = 21 ∨ o = 22 ∨ o = 23 ∨ o = 24 ∨ o = 25 ∨ o = 26 ∨ o = 27 ∨ o = 28 ∨ o = 29 ∨ o = 30 ∨ o = 31 ∨ o = 32 ∨ o = 33 ∨ o = 34 ∨ o = 35 ∨ o = 36 ∨ o = 37 ∨ o = 38 ∨ o = 39 ∨ o = 40 ∨ o = 41 ∨ o = 42 ∨ o = 43 ∨ o = 44 ∨ o = 45 ∨ o = 46 ∨ o = 47 ∨ o = 48 ∨ o = 49 ∨ o = 50 ∨ o = 51 ∨ o = 52 ∨ o = 53 ∨ o = 54 ∨ o = 55 ∨ o = 56 ∨ o = 57 ∨ o = 58 ∨ o = 59 ∨ o = 60 ∨ o = 61 ∨ o = 62 ∨ o = 63 ∨ o = 64 ∨ o = 65) with rfl | rfl | rfl | rfl | rfl | rfl | rfl | rfl | rfl | rfl | rfl | rfl | rfl | rfl | rfl | rfl | rfl | rfl | rfl | rfl | rfl | rfl | rfl | rfl | rfl | rfl | rfl | rfl | rfl | rfl | rfl | rfl | rfl | rfl | rfl | rfl | rfl | rfl | rfl | rfl | rfl | rfl | rfl | rfl | rfl | rfl | rfl | rfl | rfl | rfl | rfl | rfl | rfl | rfl | rfl | rfl | rfl | rfl | rfl | rfl | rfl | rfl | rfl | rfl | rfl | rfl
  · exact rg_top _
  · exact j1 j
  · rw [zz_2]
    exact (by decide : Rg (0) (255) (0 : Int32))
  · rw [zz_3]
    exact (by decide : Rg (0) (15) (0 : Int32))
  · rw [zz_4]
    exact (by decide : Rg (0) (15) (0 : Int32))
  · rw [zz_5]
    exact (by decide : Rg (-32768) (32767) (0 : Int32))
  · exact rg_top _
  · exact j7 j
  · exact rg_top _
  · exact rg_top _
  · exact rg_top _
  · exact rg_top _
  · exact rg_top _
  · exact rg_top _
  · exact rg_top _
  · exact rg_top _
  · exact rg_top _
  · exact rg_top _
  · exact rg_top _
  · exact rg_top _
  · exact rg_top _
  · exact rg_top _
  · exact rg_top _
  · exact rg_top _
  · exact rg_top _
  · exact rg_top _
  · exact rg_top _
  · exact rg_top _
  · exact j28 j
  · rw [zz_29]
    exact (by decide : Rg (0) (255) (0 : Int32))
  · rw [zz_30]
    exact (by decide : Rg (0) (15) (0 : Int32))
  · rw [zz_31]
    exact (by decide : Rg (0) (15) (0 : Int32))
  · rw [zz_32]
    exact (by decide : Rg (-32768) (32767) (0 : Int32))
  · exact rg_top _
  · rw [zz_34]
    exact (by decide : Rg (0) (255) (0 : Int32))
  · rw [zz_35]
    exact (by decide : Rg (0) (255) (0 : Int32))
  · rw [zz_36]
    exact (by decide : Rg (0) (1) (0 : Int32))
  · rw [zz_37]
    exact (by decide : Rg (0) (8) (0 : Int32))
  · rw [zz_38]
    exact (by decide : Rg (0) (32) (0 : Int32))
  · rw [zz_39]
    exact (by decide : Rg (0) (32) (0 : Int32))
  · rw [zz_40]
    exact (by decide : Rg (0) (255) (0 : Int32))
  · exact rg_top _
  · exact rg_top _
  · exact rg_top _
  · exact rg_top _
  · rw [zz_45]
    exact (by decide : Rg (0) (255) (0 : Int32))
  · rw [zz_46]
    exact (by decide : Rg (0) (255) (0 : Int32))
  · exact rg_top _
  · exact rg_top _
  · exact rg_top _
  · exact rg_top _
  · exact rg_top _
  · rw [zz_52]
    exact (by decide : Rg (0) (3) (0 : Int32))
  · exact rg_top _
  · exact rg_top _
  · exact rg_top _
  · exact rg_top _
  · exact rg_top _
  · rw [zz_58]
    exact (by decide : Rg (0) (3) (0 : Int32))
  · exact rg_top _
  · exact rg_top _
  · exact rg_top _
  · exact rg_top _
  · rw [zz_63]
    exact (by decide : Rg (0) (3) (0 : Int32))
  · exact rg_top _
  · exact rg_top _
theorem oR0_0 (j : Nat) : oR SM 0 j (gR DM 0 j) := by
  show (match (generalizing := false) j with | 0 => gR DM 0 j = some 1 | 1 => gR DM 0 j = some 7 | 2 => gR DM 0 j = some 11 | 3 => gR DM 0 j = some 14 | _ => True)
  split
  all_goals first
    | decide +kernel
    | exact ⟨9, r7_6, by decide +kernel⟩
theorem oR0_1 (j : Nat) : oR SM 1 j (gR DM 1 j) := by
  show (match (generalizing := false) j with | 0 => gR DM 1 j = some 2 | 1 => gR DM 1 j = some 3 | 2 => gR DM 1 j = some 4 | 3 => gR DM 1 j = some 5 | 4 => gR DM 1 j = some 6 | _ => True)
  split
  all_goals first
    | decide +kernel
    | exact ⟨9, r7_6, by decide +kernel⟩
theorem oR0_7 (j : Nat) : oR SM 7 j (gR DM 7 j) := by
  show (match (generalizing := false) j with | 0 => gR DM 7 j = some 8 | 2 => gR DM 7 j = some 9 | 3 => gR DM 7 j = some 10 | 6 => ∃ x, gR DM 7 j = some x ∧ sK SM x = 102 | _ => True)
  split
  all_goals first
    | decide +kernel
    | exact ⟨9, r7_6, by decide +kernel⟩
theorem oR0_11 (j : Nat) : oR SM 11 j (gR DM 11 j) := by
  show (match (generalizing := false) j with | 0 => gR DM 11 j = some 1 | 1 => gR DM 11 j = some 7 | 2 => gR DM 11 j = some 12 | 3 => gR DM 11 j = some 13 | _ => True)
  split
  all_goals first
    | decide +kernel
    | exact ⟨9, r7_6, by decide +kernel⟩
theorem oR0_14 (j : Nat) : oR SM 14 j (gR DM 14 j) := by
  show (match (generalizing := false) j with | 0 => gR DM 14 j = some 1 | 1 => gR DM 14 j = some 7 | 2 => gR DM 14 j = some 15 | 3 => gR DM 14 j = some 16 | 4 => gR DM 14 j = some 17 | 5 => gR DM 14 j = some 22 | 6 => gR DM 14 j = some 27 | _ => True)
  split
  all_goals first
    | decide +kernel
    | exact ⟨9, r7_6, by decide +kernel⟩
theorem oR0_28 (j : Nat) : oR SM 28 j (gR DM 28 j) := by
  show (match (generalizing := false) j with | 1 => gR DM 28 j = some 29 | 2 => gR DM 28 j = some 30 | 3 => gR DM 28 j = some 31 | 4 => gR DM 28 j = some 32 | 5 => gR DM 28 j = some 33 | 6 => gR DM 28 j = some 34 | 8 => gR DM 28 j = some 35 | 10 => gR DM 28 j = some 36 | 11 => gR DM 28 j = some 37 | 12 => gR DM 28 j = some 38 | 13 => gR DM 28 j = some 39 | 14 => gR DM 28 j = some 40 | 15 => gR DM 28 j = some 41 | 16 => gR DM 28 j = some 42 | 21 => gR DM 28 j = some 43 | 23 => gR DM 28 j = some 44 | 24 => gR DM 28 j = some 45 | 25 => gR DM 28 j = some 46 | 27 => gR DM 28 j = some 47 | 28 => gR DM 28 j = some 48 | 29 => gR DM 28 j = some 49 | 30 => gR DM 28 j = some 50 | 31 => gR DM 28 j = some 51 | 32 => gR DM 28 j = some 52 | 33 => gR DM 28 j = some 53 | 34 => gR DM 28 j = some 54 | 35 => gR DM 28 j = some 55 | 36 => gR DM 28 j = some 56 | 37 => gR DM 28 j = some 57 | 38 => gR DM 28 j = some 58 | 39 => gR DM 28 j = some 59 | 40 => gR DM 28 j = some 60 | 41 => gR DM 28 j = some 61 | 42 => gR DM 28 j = some 62 | 43 => gR DM 28 j = some 63 | 44 => gR DM 28 j = some 64 | 45 => gR DM 28 j = some 65 | _ => True)
  split
  all_goals first
    | decide +kernel
    | exact ⟨9, r7_6, by decide +kernel⟩
theorem vR0 : vR SM DM := by
  intro o j ho
  rcases (by omega : o = 0 ∨ o = 1 ∨ o = 2 ∨ o = 3 ∨ o = 4 ∨ o = 5 ∨ o = 6 ∨ o = 7 ∨ o = 8 ∨ o = 9 ∨ o = 10 ∨ o = 11 ∨ o = 12 ∨ o = 13 ∨ o = 14 ∨ o = 15 ∨ o = 16 ∨ o = 17 ∨ o = 18 ∨ o = 19 ∨ o = 20 ∨ o = 21 ∨ o = 22 ∨ o = 23 ∨ o = 24 ∨ o = 25 ∨ o = 26 ∨ o = 27 ∨ o = 28 ∨ o = 29 ∨ o = 30 ∨ o = 31 ∨ o = 32 ∨ o = 33 ∨ o = 34 ∨ o = 35 ∨ o = 36 ∨ o = 37 ∨ o = 38 ∨ o = 39 ∨ o = 40 ∨ o = 41 ∨ o = 42 ∨ o = 43 ∨ o = 44 ∨ o = 45 ∨ o = 46 ∨ o = 47 ∨ o = 48 ∨ o = 49 ∨ o = 50 ∨ o = 51 ∨ o = 52 ∨ o = 53 ∨ o = 54 ∨ o = 55 ∨ o = 56 ∨ o = 57 ∨ o = 58 ∨ o = 59 ∨ o = 60 ∨ o = 61 ∨ o = 62 ∨ o = 63 ∨ o = 64 ∨ o = 65) with rfl | rfl | rfl | rfl | rfl | rfl | rfl | rfl | rfl | rfl | rfl | rfl | rfl | rfl | rfl | rfl | rfl | rfl | rfl | rfl | rfl | rfl | rfl | rfl | rfl | rfl | rfl | rfl | rfl | rfl | rfl | rfl | rfl | rfl | rfl | rfl | rfl | rfl | rfl | rfl | rfl | rfl | rfl | rfl | rfl | rfl | rfl | rfl | rfl | rfl | rfl | rfl | rfl | rfl | rfl | rfl | rfl | rfl | rfl | rfl | rfl | rfl | rfl | rfl | rfl | rfl
  · exact oR0_0 j
  · exact oR0_1 j
  · exact trivial
  · exact trivial
  · exact trivial
  · exact trivial
  · exact trivial
  · exact oR0_7 j
  · exact trivial
  · exact trivial
  · intro x e
    rw [nn_10] at e
    cases e
  · exact oR0_11 j
  · exact trivial
  · exact trivial
  · exact oR0_14 j
  · intro x e
    rw [nn_15] at e
    cases e
  · exact trivial
  · exact trivial
  · exact trivial
  · exact trivial
  · exact trivial
  · exact trivial
  · exact trivial
  · exact trivial
  · exact trivial
  · exact trivial
  · exact trivial
  · exact trivial
  · exact oR0_28 j
  · exact trivial
  · exact trivial
  · exact trivial
  · exact trivial
  · exact trivial
  · exact trivial
  · exact trivial
  · exact trivial
  · exact trivial
  · exact trivial
  · exact trivial
  · exact trivial
  · exact trivial
  · exact trivial
  · exact trivial
  · exact trivial
  · exact trivial
  · exact trivial
  · exact trivial
  · exact trivial
  · exact trivial
  · exact trivial
  · exact trivial
  · exact trivial
  · exact trivial
  · exact trivial
  · exact trivial
  · exact trivial
  · exact trivial
  · exact trivial
  · exact trivial
  · exact trivial
  · exact trivial
  · exact trivial
  · exact trivial
  · exact trivial
  · exact trivial
theorem vS0 : vS g0 SM DM := by
  intro o k
  rcases sc0 o k with rfl | rfl
  · refine ⟨⟨by decide +kernel, by decide +kernel, by decide +kernel, by decide +kernel⟩, fun p _ e => ?_⟩
    rw [zz_18] at e
    exact absurd e (by decide)
  · refine ⟨⟨by decide +kernel, by decide +kernel, by decide +kernel, by decide +kernel⟩, fun p _ e => ?_⟩
    rw [zz_23] at e
    exact absurd e (by decide)
theorem vM0 : vM g0 SM DM := by
  unfold vM
  rw [nul0, SM_n]
  have := SM_z
  have e : g0.1 1 = 0 := rfl
  rw [e]
  omega
theorem inv0 : Inv g0 SM DM := by
  refine ⟨shp0, vI0, ⟨by rw [g7_5]; rfl, by rw [g28_17]; rfl⟩, vR0, fun o k => absurd k (tbl0 o), vS0, by unfold vG; decide, fun _ _ _ => rfl, vM0, ⟨fun j e => ?_, fun j e => ?_, fun j e => ?_, fun e => ?_⟩, fun hz => absurd rfl hz⟩
  · rw [zz_60] at e
    exact absurd e (by decide)
  · rw [zz_49] at e
    exact absurd e (by decide)
  · rw [zz_55] at e
    exact absurd e (by decide)
  · rw [show gI DM 28 47 = 0 by decide +kernel] at e
    exact absurd e (by decide)
