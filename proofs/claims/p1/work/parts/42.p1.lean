theorem rI {D : dt} {o j a b : Nat} {x : Int32} {v : Option Nat} (h : gR D a b = v) : gR (pI D o j x) a b = v := (gR_pI D o j x a b).trans h
theorem rL {D : dt} {o j a b : Nat} {x : Int64} {v : Option Nat} (h : gR D a b = v) : gR (pL D o j x) a b = v := (gR_pL D o j x a b).trans h
/-- the reference's objects are as they were made -/
def Ag (D : dt) : Prop := ∀ o j, 28 ≤ o → o < 66 → gI D o j = gI DM o j ∧ gL D o j = gL DM o j ∧ gR D o j = gR DM o j
theorem Ag.rf : Ag DM := fun _ _ _ _ => ⟨rfl, rfl, rfl⟩
theorem Ag.pI {D : dt} (h : Ag D) {o j : Nat} {x : Int32} (ho : o < 28 ∨ 66 ≤ o) : Ag (pI D o j x) := fun a b h1 h2 => by
  rw [gI_pI, gL_pI, gR_pI, if_neg (fun q => by omega)]; exact h a b h1 h2
theorem Ag.pL {D : dt} (h : Ag D) {o j : Nat} {x : Int64} (ho : o < 28 ∨ 66 ≤ o) : Ag (pL D o j x) := fun a b h1 h2 => by
  rw [gI_pL, gL_pL, gR_pL, if_neg (fun q => by omega)]; exact h a b h1 h2
theorem Ag.pR {D : dt} (h : Ag D) {o j : Nat} {x : Option Nat} (ho : o < 28 ∨ 66 ≤ o) : Ag (pR D o j x) := fun a b h1 h2 => by
  rw [gI_pR, gL_pR, gR_pR, if_neg (fun q => by omega)]; exact h a b h1 h2
theorem Ag.aD {S : sh} {D : dt} (h : Ag D) (ho : 66 ≤ sN S) : Ag (aD S D) := fun a b h1 h2 => by
  rw [gI_aD, gL_aD, gR_aD, if_neg (by omega), if_neg (by omega), if_neg (by omega)]; exact h a b h1 h2
theorem Ag.i {D : dt} (h : Ag D) {o j : Nat} {v : Int32} (e : gI DM o j = v) (h1 : 28 ≤ o := by decide) (h2 : o < 66 := by decide) : gI D o j = v := ((h o j h1 h2).1).trans e
theorem Ag.l {D : dt} (h : Ag D) {o j : Nat} {v : Int64} (e : gL DM o j = v) (h1 : 28 ≤ o := by decide) (h2 : o < 66 := by decide) : gL D o j = v := ((h o j h1 h2).2.1).trans e
theorem Ag.r {D : dt} (h : Ag D) {o j : Nat} {v : Option Nat} (e : gR DM o j = v) (h1 : 28 ≤ o := by decide) (h2 : o < 66 := by decide) : gR D o j = v := ((h o j h1 h2).2.2).trans e
/-- 'in' of the reference -/
theorem s_in (a b c : Int64) : f_X9_in a b c = some (if b ≤ a ∧ a ≤ c then 1 else 0) := by
  unfold f_X9_in
  by_cases h1 : lg_cmp a b < 0
  · rw [if_pos h1, if_neg]
    rw [lg_cmp_lt] at h1
    exact fun q => absurd (Int64.lt_iff_toInt_lt.mp h1) (by have := Int64.le_iff_toInt_le.mp q.1; omega)
  · rw [if_neg h1]
    by_cases h2 : 0 < lg_cmp a c
    · rw [if_pos h2, if_neg]
      rw [lg_cmp_gt] at h2
      exact fun q => absurd (Int64.lt_iff_toInt_lt.mp h2) (by have := Int64.le_iff_toInt_le.mp q.2; omega)
    · rw [if_neg h2, if_pos]
      rw [lg_cmp_lt] at h1
      rw [lg_cmp_gt] at h2
      exact ⟨Int64.not_lt.mp h1, Int64.not_lt.mp h2⟩
theorem i64 (x : Int32) : x.toInt64.toInt = x.toInt := Int32.toInt_toInt64 x
theorem s_fits (a b c : Int32) : f_X8_fitsSlot a b c = some (if (0 ≤ a.toInt ∧ a.toInt ≤ 255) ∧ (0 ≤ b.toInt ∧ b.toInt ≤ 255) ∧ (-32768 ≤ c.toInt ∧ c.toInt ≤ 32767) then 1 else 0) := by
  unfold f_X8_fitsSlot
  simp only [Int32.lt_iff_toInt_lt]
  have e0 : (0 : Int32).toInt = 0 := by decide
  have e1 : (255 : Int32).toInt = 255 := by decide
  have e2 : (-32768 : Int32).toInt = -32768 := by decide
  have e3 : (32767 : Int32).toInt = 32767 := by decide
  rw [e0, e1, e2, e3]
  (repeat' split) <;> first | rfl | omega
theorem s_isSlot (a b c : Int32) : f_X9_isSlot a b c = some (if (0 ≤ a.toInt ∧ a.toInt ≤ 255) ∧ (0 ≤ b.toInt ∧ b.toInt ≤ 255) ∧ (-32768 ≤ c.toInt ∧ c.toInt ≤ 32767) then 1 else 0) := by
  unfold f_X9_isSlot
  simp only [s_in, pq, Int64.le_iff_toInt_le, i64]
  have e0 : (0 : Int64).toInt = 0 := by decide
  have e1 : (255 : Int64).toInt = 255 := by decide
  have e2 : (-32768 : Int64).toInt = -32768 := by decide
  have e3 : (32767 : Int64).toInt = 32767 := by decide
  rw [e0, e1, e2, e3]
  (repeat' split) <;> first | rfl | omega | (exfalso; simp_all; done) | simp_all
theorem in_b (x : Int32) (a b : Int64) : f_X9_in x.toInt64 a b = some (if a.toInt ≤ x.toInt ∧ x.toInt ≤ b.toInt then 1 else 0) := by
  rw [s_in]
  simp only [Int64.le_iff_toInt_le, i64]
theorem in_yes {x : Int32} {a b : Int64} (h : a.toInt ≤ x.toInt ∧ x.toInt ≤ b.toInt) : f_X9_in x.toInt64 a b = some 1 := by rw [in_b, if_pos h]
theorem in_no {x : Int32} {a b : Int64} (h : ¬ (a.toInt ≤ x.toInt ∧ x.toInt ≤ b.toInt)) : f_X9_in x.toInt64 a b = some 0 := by rw [in_b, if_neg h]
