/-! pure rows: a mirror's answer by what must hold of it -/
def wp {α : Type} (m : Option α) (P : α → Prop) : Prop := ∃ x, m = some x ∧ P x
theorem wp_some {α : Type} {x : α} {P : α → Prop} (h : P x) : wp (some x) P := ⟨x, rfl, h⟩
theorem wp_nm {α β : Type} {e : α} {k : α → Option β} {P : β → Prop} (h : wp (k e) P) : wp (nm e k) P := h
theorem wp_mono {α : Type} {m : Option α} {P Q : α → Prop} (h : wp m P) (hpq : ∀ x, P x → Q x) : wp m Q := by
  obtain ⟨x, e, p⟩ := h
  exact ⟨x, e, hpq x p⟩
theorem wp_cq {α β γ : Type} {f : Option (α × β)} {k : α → β → Option γ} {P : γ → Prop} (h : wp f (fun q => wp (k q.1 q.2) P)) : wp (cq f k) P := by
  obtain ⟨x, e, p⟩ := h
  subst e
  exact p
theorem wp_c3 {α γ : Type} {f : Option (α × sh × dt)} {k : α → sh → dt → Option γ} {P : γ → Prop} (h : wp f (fun q => wp (k q.1 q.2.1 q.2.2) P)) : wp (c3 f k) P := by
  obtain ⟨x, e, p⟩ := h
  subst e
  exact p
theorem wp_pq {α γ : Type} {f : Option α} {k : α → Option γ} {P : γ → Prop} (h : wp f (fun q => wp (k q) P)) : wp (pq f k) P := by
  obtain ⟨x, e, p⟩ := h
  subst e
  exact p
theorem wp_rq {γ : Type} {o : Option Nat} {k : Nat → Option γ} {P : γ → Prop} {x : Nat} (e : o = some x) (h : wp (k x) P) : wp (rq o k) P := by
  subst e
  exact h
theorem wp_oq {γ : Type} {o : Option Nat} {a : Option γ} {k : Nat → Option γ} {P : γ → Prop} (h0 : o = none → wp a P) (h1 : ∀ x, o = some x → wp (k x) P) : wp (oq o a k) P := by
  cases o with
  | none => exact h0 rfl
  | some x => exact h1 x rfl
theorem wp_ix {γ : Type} {i : Int32} {n : Nat} {k : Option γ} {P : γ → Prop} (hi : vp_in i n) (h : wp k P) : wp (ix i n k) P := by
  unfold ix
  rw [if_neg hi]
  exact h
theorem wp_ck {γ : Type} {c : Prop} [Decidable c] {k : Option γ} {P : γ → Prop} (hc : c) (h : wp k P) : wp (ck c k) P := by
  unfold ck
  rw [if_pos hc]
  exact h
theorem wp_if {γ : Type} {c : Prop} [Decidable c] {a b : Option γ} {P : γ → Prop} (h1 : c → wp a P) (h2 : ¬ c → wp b P) : wp (if c then a else b) P := by
  by_cases h : c
  · rw [if_pos h]; exact h1 h
  · rw [if_neg h]; exact h2 h
theorem in_lt {i : Int32} {n : Nat} (h0 : ¬ i < 0) (h : i.toInt < n) : vp_in i n := by
  rw [vp_in_iff]
  have : ¬ i.toInt < 0 := fun q => h0 (Int32.lt_iff_toInt_lt.mpr q)
  exact ⟨by omega, h⟩
theorem in_of {i : Int32} {n : Nat} (h : decide (¬ (i < 0 ∨ n ≤ i.toNatClampNeg)) = true) : vp_in i n := fun q => (of_decide_eq_true h) q
theorem i64_lo (x : Int64) : -9223372036854775808 ≤ x.toInt := Int64.le_toInt x
theorem i64_hi (x : Int64) : x.toInt < 9223372036854775808 := Int64.toInt_lt x
theorem i64_sub (a b : Int64) : (a - b).toInt = a.toInt - b.toInt ∨ (a - b).toInt = a.toInt - b.toInt + 18446744073709551616 ∨ (a - b).toInt = a.toInt - b.toInt - 18446744073709551616 := by
  have h := Int64.toInt_sub a b
  have h1 := i64_lo a
  have h2 := i64_hi a
  have h3 := i64_lo b
  have h4 := i64_hi b
  rw [h]
  unfold Int.bmod
  simp only
  split <;> omega
