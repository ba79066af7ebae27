/-! RANGES of ints and longs -/
abbrev Rg (l h : Int) (x : Int32) : Prop := l ≤ x.toInt ∧ x.toInt ≤ h
abbrev RgL (l h : Int) (x : Int64) : Prop := l ≤ x.toInt ∧ x.toInt ≤ h
theorem i32_lo (x : Int32) : -2147483648 ≤ x.toInt := Int32.le_toInt x
theorem i32_hi (x : Int32) : x.toInt ≤ 2147483647 := by have := Int32.toInt_lt x; omega
theorem rg_top (x : Int32) : Rg (-2147483648) 2147483647 x := ⟨i32_lo x, i32_hi x⟩
theorem rgl_top (x : Int64) : RgL (-9223372036854775808) 9223372036854775807 x := ⟨i64_lo x, by have := i64_hi x; omega⟩
theorem rg_w {a b l h : Int} {x : Int32} (p : Rg a b x) (w : l ≤ a ∧ b ≤ h) : Rg l h x := ⟨Int.le_trans w.1 p.1, Int.le_trans p.2 w.2⟩
theorem rgl_w {a b l h : Int} {x : Int64} (p : RgL a b x) (w : l ≤ a ∧ b ≤ h) : RgL l h x := ⟨Int.le_trans w.1 p.1, Int.le_trans p.2 w.2⟩
theorem rg_lit {l h : Int} {x : Int32} (e : x.toInt = l) (f : x.toInt = h) : Rg l h x := ⟨Int.le_of_eq e.symm, Int.le_of_eq f⟩
theorem rgl_lit {l h : Int} {x : Int64} (e : x.toInt = l) (f : x.toInt = h) : RgL l h x := ⟨Int.le_of_eq e.symm, Int.le_of_eq f⟩
theorem rg_eq {l h : Int} {x y : Int32} (e : y = x) (p : Rg l h x) : Rg l h y := by rw [e]; exact p
theorem rgl_eq {l h : Int} {x y : Int64} (e : y = x) (p : RgL l h x) : RgL l h y := by rw [e]; exact p
theorem bm32 {n : Int} (h1 : -2147483648 ≤ n) (h2 : n ≤ 2147483647) : n.bmod (2 ^ 32) = n := Int.bmod_eq_of_le (by omega) (by omega)
theorem bm64 {n : Int} (h1 : -9223372036854775808 ≤ n) (h2 : n ≤ 9223372036854775807) : n.bmod (2 ^ 64) = n := Int.bmod_eq_of_le (by omega) (by omega)
theorem i32_add {a b c d : Int} {x y : Int32} (p : Rg a b x) (q : Rg c d y) (w : -2147483648 ≤ a + c ∧ b + d ≤ 2147483647) : (x + y).toInt = x.toInt + y.toInt := by
  obtain ⟨p1, p2⟩ := p
  obtain ⟨q1, q2⟩ := q
  rw [Int32.toInt_add]
  exact bm32 (by omega) (by omega)
theorem rg_add {a b c d l h : Int} {x y : Int32} (p : Rg a b x) (q : Rg c d y) (w : l ≤ a + c ∧ b + d ≤ h ∧ -2147483648 ≤ a + c ∧ b + d ≤ 2147483647) : Rg l h (x + y) := by
  have e := i32_add p q w.2.2
  obtain ⟨p1, p2⟩ := p
  obtain ⟨q1, q2⟩ := q
  obtain ⟨w1, w2, -⟩ := w
  unfold Rg
  rw [e]
  omega
theorem i32_sub {a b c d : Int} {x y : Int32} (p : Rg a b x) (q : Rg c d y) (w : -2147483648 ≤ a - d ∧ b - c ≤ 2147483647) : (x - y).toInt = x.toInt - y.toInt := by
  obtain ⟨p1, p2⟩ := p
  obtain ⟨q1, q2⟩ := q
  rw [Int32.toInt_sub]
  exact bm32 (by omega) (by omega)
theorem rg_sub {a b c d l h : Int} {x y : Int32} (p : Rg a b x) (q : Rg c d y) (w : l ≤ a - d ∧ b - c ≤ h ∧ -2147483648 ≤ a - d ∧ b - c ≤ 2147483647) : Rg l h (x - y) := by
  have e := i32_sub p q w.2.2
  obtain ⟨p1, p2⟩ := p
  obtain ⟨q1, q2⟩ := q
  obtain ⟨w1, w2, -⟩ := w
  unfold Rg
  rw [e]
  omega
theorem rgl_add {a b c d l h : Int} {x y : Int64} (p : RgL a b x) (q : RgL c d y) (w : l ≤ a + c ∧ b + d ≤ h ∧ -9223372036854775808 ≤ a + c ∧ b + d ≤ 9223372036854775807) : RgL l h (x + y) := by
  obtain ⟨p1, p2⟩ := p
  obtain ⟨q1, q2⟩ := q
  obtain ⟨w1, w2, w3, w4⟩ := w
  unfold RgL
  rw [Int64.toInt_add, bm64 (by omega) (by omega)]
  omega
theorem rgl_sub {a b c d l h : Int} {x y : Int64} (p : RgL a b x) (q : RgL c d y) (w : l ≤ a - d ∧ b - c ≤ h ∧ -9223372036854775808 ≤ a - d ∧ b - c ≤ 9223372036854775807) : RgL l h (x - y) := by
  obtain ⟨p1, p2⟩ := p
  obtain ⟨q1, q2⟩ := q
  obtain ⟨w1, w2, w3, w4⟩ := w
  unfold RgL
  rw [Int64.toInt_sub, bm64 (by omega) (by omega)]
  omega
theorem mul_hi {a b c d x y h : Int} (h1 : a ≤ x) (h2 : x ≤ b) (h3 : c ≤ y) (h4 : y ≤ d) (w : a * c ≤ h ∧ a * d ≤ h ∧ b * c ≤ h ∧ b * d ≤ h) : x * y ≤ h := by
  obtain ⟨w1, w2, w3, w4⟩ := w
  rcases Int.le_total 0 y with hy | hy
  · have e1 : x * y ≤ b * y := Int.mul_le_mul_of_nonneg_right h2 hy
    rcases Int.le_total 0 b with hb | hb
    · have e2 : b * y ≤ b * d := Int.mul_le_mul_of_nonneg_left h4 hb
      omega
    · have e2 : b * y ≤ b * c := Int.mul_le_mul_of_nonpos_left hb h3
      omega
  · have e1 : x * y ≤ a * y := Int.mul_le_mul_of_nonpos_right h1 hy
    rcases Int.le_total 0 a with hb | hb
    · have e2 : a * y ≤ a * d := Int.mul_le_mul_of_nonneg_left h4 hb
      omega
    · have e2 : a * y ≤ a * c := Int.mul_le_mul_of_nonpos_left hb h3
      omega
theorem mul_lo {a b c d x y l : Int} (h1 : a ≤ x) (h2 : x ≤ b) (h3 : c ≤ y) (h4 : y ≤ d) (w : l ≤ a * c ∧ l ≤ a * d ∧ l ≤ b * c ∧ l ≤ b * d) : l ≤ x * y := by
  have := mul_hi (h := -l) (Int.neg_le_neg h2) (Int.neg_le_neg h1) h3 h4 (by simp only [Int.neg_mul]; omega)
  rw [Int.neg_mul] at this
  omega
theorem rg_mul {a b c d l h : Int} {x y : Int32} (p : Rg a b x) (q : Rg c d y) (w : (l ≤ a * c ∧ l ≤ a * d ∧ l ≤ b * c ∧ l ≤ b * d) ∧ (a * c ≤ h ∧ a * d ≤ h ∧ b * c ≤ h ∧ b * d ≤ h) ∧ -2147483648 ≤ l ∧ h ≤ 2147483647) : Rg l h (x * y) := by
  have e1 := mul_lo p.1 p.2 q.1 q.2 w.1
  have e2 := mul_hi p.1 p.2 q.1 q.2 w.2.1
  unfold Rg
  rw [Int32.toInt_mul, bm32 (by omega) (by omega)]
  exact ⟨e1, e2⟩
theorem rgl_mul {a b c d l h : Int} {x y : Int64} (p : RgL a b x) (q : RgL c d y) (w : (l ≤ a * c ∧ l ≤ a * d ∧ l ≤ b * c ∧ l ≤ b * d) ∧ (a * c ≤ h ∧ a * d ≤ h ∧ b * c ≤ h ∧ b * d ≤ h) ∧ -9223372036854775808 ≤ l ∧ h ≤ 9223372036854775807) : RgL l h (x * y) := by
  have e1 := mul_lo p.1 p.2 q.1 q.2 w.1
  have e2 := mul_hi p.1 p.2 q.1 q.2 w.2.1
  unfold RgL
  rw [Int64.toInt_mul, bm64 (by omega) (by omega)]
  exact ⟨e1, e2⟩
theorem bv_and_lo {n : Nat} {x m : BitVec n} (hm : 0 ≤ m.toInt) : (x &&& m).toInt = ((x.toNat &&& m.toNat : Nat) : Int) ∧ ((x.toNat &&& m.toNat : Nat) : Int) ≤ m.toInt := by
  have h0 : 2 * m.toNat < 2 ^ n := by
    have := BitVec.toInt_eq_toNat_cond m
    have h2 := m.isLt
    rw [this] at hm
    split at hm
    · assumption
    · omega
  have h1 : x.toNat &&& m.toNat ≤ m.toNat := Nat.and_le_right
  have h3 : m.toInt = m.toNat := BitVec.toInt_eq_toNat_of_lt h0
  constructor
  · rw [BitVec.toInt_eq_toNat_of_lt (by rw [BitVec.toNat_and]; omega), BitVec.toNat_and]
  · omega
theorem rg_andr (x : Int32) {m : Int32} {l h : Int} (w : l ≤ 0 ∧ 0 ≤ m.toInt ∧ m.toInt ≤ h) : Rg l h (x &&& m) := by
  have := bv_and_lo (x := x.toBitVec) (m := m.toBitVec) w.2.1
  have e : (x &&& m).toInt = (x.toBitVec &&& m.toBitVec).toInt := rfl
  obtain ⟨w1, w2, w3⟩ := w
  have e2 : m.toInt = m.toBitVec.toInt := rfl
  unfold Rg
  rw [e, this.1]
  omega
theorem rgl_andr (x : Int64) {m : Int64} {l h : Int} (w : l ≤ 0 ∧ 0 ≤ m.toInt ∧ m.toInt ≤ h) : RgL l h (x &&& m) := by
  have := bv_and_lo (x := x.toBitVec) (m := m.toBitVec) w.2.1
  have e : (x &&& m).toInt = (x.toBitVec &&& m.toBitVec).toInt := rfl
  obtain ⟨w1, w2, w3⟩ := w
  have e2 : m.toInt = m.toBitVec.toInt := rfl
  unfold RgL
  rw [e, this.1]
  omega
theorem rg_andl (x : Int32) {m : Int32} {l h : Int} (w : l ≤ 0 ∧ 0 ≤ m.toInt ∧ m.toInt ≤ h) : Rg l h (m &&& x) := by rw [Int32.and_comm]; exact rg_andr x w
theorem rgl_andl (x : Int64) {m : Int64} {l h : Int} (w : l ≤ 0 ∧ 0 ≤ m.toInt ∧ m.toInt ≤ h) : RgL l h (m &&& x) := by rw [Int64.and_comm]; exact rgl_andr x w
theorem rgl_of {l h : Int} {x : Int32} (p : Rg l h x) : RgL l h x.toInt64 := by
  unfold RgL
  rw [Int32.toInt_toInt64]
  exact p
theorem rg_of {a b l h : Int} {x : Int64} (p : RgL a b x) (w : l ≤ a ∧ b ≤ h ∧ -2147483648 ≤ a ∧ b ≤ 2147483647) : Rg l h x.toInt32 := by
  obtain ⟨p1, p2⟩ := p
  unfold Rg
  rw [Int64.toInt_toInt32, bm32 (by omega) (by omega)]
  omega
theorem rg_of32 {l h : Int} {x : Int32} (p : RgL l h x.toInt64) : Rg l h x := by
  unfold RgL at p
  rw [Int32.toInt_toInt64] at p
  exact p
theorem rg_cmp {l h : Int} (x y : Int64) (w : l ≤ -1 ∧ 1 ≤ h) : Rg l h (lg_cmp x y) := by
  unfold lg_cmp
  split
  · exact rg_w (rg_lit (l := 1) (h := 1) rfl rfl) ⟨by omega, w.2⟩
  · split
    · exact rg_w (rg_lit (l := 0) (h := 0) rfl rfl) (by omega)
    · exact rg_w (rg_lit (l := -1) (h := -1) rfl rfl) ⟨w.1, by omega⟩
theorem rg_len {S : sh} {o n : Nat} {l h : Int} (e : sA S o = n) (w : l ≤ n ∧ (n : Int) ≤ h ∧ (n : Int) ≤ 2147483647) : Rg l h (Int32.ofNat (sA S o)) := by
  rw [e]
  unfold Rg
  rw [Int32.toInt_ofNat_of_lt (by omega)]
  omega
theorem rg_ite {l h : Int} {c : Prop} [Decidable c] {x y : Int32} (p : Rg l h x) (q : Rg l h y) : Rg l h (if c then x else y) := by split <;> assumption
theorem rgl_ite {l h : Int} {c : Prop} [Decidable c] {x y : Int64} (p : RgL l h x) (q : RgL l h y) : RgL l h (if c then x else y) := by split <;> assumption
theorem rg_false {l h : Int} {x : Int32} (p : Rg l h x) (w : h < l) : False := by
  obtain ⟨p1, p2⟩ := p
  omega
theorem rgl_false {l h : Int} {x : Int64} (p : RgL l h x) (w : h < l) : False := by
  obtain ⟨p1, p2⟩ := p
  omega
-- what a comparison says
theorem rg_lt1 {a b c d l h : Int} {x y : Int32} (p : Rg a b x) (q : Rg c d y) (k : x < y) (w : l ≤ a ∧ (b ≤ h ∨ d - 1 ≤ h)) : Rg l h x := by
  have := Int32.lt_iff_toInt_lt.mp k
  obtain ⟨p1, p2⟩ := p
  obtain ⟨q1, q2⟩ := q
  unfold Rg
  omega
theorem rg_lt2 {a b c d l h : Int} {x y : Int32} (p : Rg a b x) (q : Rg c d y) (k : x < y) (w : (l ≤ c ∨ l ≤ a + 1) ∧ d ≤ h) : Rg l h y := by
  have := Int32.lt_iff_toInt_lt.mp k
  obtain ⟨p1, p2⟩ := p
  obtain ⟨q1, q2⟩ := q
  unfold Rg
  omega
theorem rg_le1 {a b c d l h : Int} {x y : Int32} (p : Rg a b x) (q : Rg c d y) (k : x ≤ y) (w : l ≤ a ∧ (b ≤ h ∨ d ≤ h)) : Rg l h x := by
  have := Int32.le_iff_toInt_le.mp k
  obtain ⟨p1, p2⟩ := p
  obtain ⟨q1, q2⟩ := q
  unfold Rg
  omega
theorem rg_le2 {a b c d l h : Int} {x y : Int32} (p : Rg a b x) (q : Rg c d y) (k : x ≤ y) (w : (l ≤ c ∨ l ≤ a) ∧ d ≤ h) : Rg l h y := by
  have := Int32.le_iff_toInt_le.mp k
  obtain ⟨p1, p2⟩ := p
  obtain ⟨q1, q2⟩ := q
  unfold Rg
  omega
theorem rg_eq1 {a b c d l h : Int} {x y : Int32} (p : Rg a b x) (q : Rg c d y) (k : x = y) (w : (l ≤ a ∨ l ≤ c) ∧ (b ≤ h ∨ d ≤ h)) : Rg l h x := by
  subst k
  obtain ⟨p1, p2⟩ := p
  obtain ⟨q1, q2⟩ := q
  unfold Rg
  omega
theorem rg_eq2 {a b c d l h : Int} {x y : Int32} (p : Rg a b x) (q : Rg c d y) (k : x = y) (w : (l ≤ a ∨ l ≤ c) ∧ (b ≤ h ∨ d ≤ h)) : Rg l h y := by
  subst k
  exact rg_eq1 p q rfl w
theorem rg_ne1 {a b c d l h : Int} {x y : Int32} (p : Rg a b x) (q : Rg c d y) (k : ¬ x = y) (w : c = d ∧ (l ≤ a ∨ (c = a ∧ l ≤ a + 1)) ∧ (b ≤ h ∨ (c = b ∧ b - 1 ≤ h))) : Rg l h x := by
  have : ¬ x.toInt = y.toInt := fun e => k (Int32.toInt_inj.mp e)
  obtain ⟨p1, p2⟩ := p
  obtain ⟨q1, q2⟩ := q
  unfold Rg
  omega
theorem rgl_lt1 {a b c d l h : Int} {x y : Int64} (p : RgL a b x) (q : RgL c d y) (k : x < y) (w : l ≤ a ∧ (b ≤ h ∨ d - 1 ≤ h)) : RgL l h x := by
  have := Int64.lt_iff_toInt_lt.mp k
  obtain ⟨p1, p2⟩ := p
  obtain ⟨q1, q2⟩ := q
  unfold RgL
  omega
theorem rgl_lt2 {a b c d l h : Int} {x y : Int64} (p : RgL a b x) (q : RgL c d y) (k : x < y) (w : (l ≤ c ∨ l ≤ a + 1) ∧ d ≤ h) : RgL l h y := by
  have := Int64.lt_iff_toInt_lt.mp k
  obtain ⟨p1, p2⟩ := p
  obtain ⟨q1, q2⟩ := q
  unfold RgL
  omega
theorem rgl_le1 {a b c d l h : Int} {x y : Int64} (p : RgL a b x) (q : RgL c d y) (k : x ≤ y) (w : l ≤ a ∧ (b ≤ h ∨ d ≤ h)) : RgL l h x := by
  have := Int64.le_iff_toInt_le.mp k
  obtain ⟨p1, p2⟩ := p
  obtain ⟨q1, q2⟩ := q
  unfold RgL
  omega
theorem rgl_le2 {a b c d l h : Int} {x y : Int64} (p : RgL a b x) (q : RgL c d y) (k : x ≤ y) (w : (l ≤ c ∨ l ≤ a) ∧ d ≤ h) : RgL l h y := by
  have := Int64.le_iff_toInt_le.mp k
  obtain ⟨p1, p2⟩ := p
  obtain ⟨q1, q2⟩ := q
  unfold RgL
  omega
theorem rgl_eq1 {a b c d l h : Int} {x y : Int64} (p : RgL a b x) (q : RgL c d y) (k : x = y) (w : (l ≤ a ∨ l ≤ c) ∧ (b ≤ h ∨ d ≤ h)) : RgL l h x := by
  subst k
  obtain ⟨p1, p2⟩ := p
  obtain ⟨q1, q2⟩ := q
  unfold RgL
  omega
theorem rgl_eq2 {a b c d l h : Int} {x y : Int64} (p : RgL a b x) (q : RgL c d y) (k : x = y) (w : (l ≤ a ∨ l ≤ c) ∧ (b ≤ h ∨ d ≤ h)) : RgL l h y := by
  subst k
  exact rgl_eq1 p q rfl w
theorem rgl_ne1 {a b c d l h : Int} {x y : Int64} (p : RgL a b x) (q : RgL c d y) (k : ¬ x = y) (w : c = d ∧ (l ≤ a ∨ (c = a ∧ l ≤ a + 1)) ∧ (b ≤ h ∨ (c = b ∧ b - 1 ≤ h))) : RgL l h x := by
  have : ¬ x.toInt = y.toInt := fun e => k (Int64.toInt_inj.mp e)
  obtain ⟨p1, p2⟩ := p
  obtain ⟨q1, q2⟩ := q
  unfold RgL
  omega
theorem nlt32 {x y : Int32} (k : ¬ x < y) : y ≤ x := Int32.not_lt.mp k
theorem nle32 {x y : Int32} (k : ¬ x ≤ y) : y < x := Int32.not_le.mp k
theorem nlt64 {x y : Int64} (k : ¬ x < y) : y ≤ x := Int64.not_lt.mp k
theorem nle64 {x y : Int64} (k : ¬ x ≤ y) : y < x := Int64.not_le.mp k
theorem in_rg {a b : Int} {i : Int32} {S : sh} {o n : Nat} (p : Rg a b i) (e : sA S o = n) (w : 0 ≤ a ∧ b < n) : vp_in i (sA S o) := by
  obtain ⟨p1, p2⟩ := p
  rw [vp_in_iff, e]
  omega
theorem rg_vp {i : Int32} {n : Nat} (p : vp_in i n) : Rg 0 (n - 1) i := by
  rw [vp_in_iff] at p
  unfold Rg
  omega
-- what a program must answer
theorem wp_nmI {α β : Type} {e : α} {k : α → Option β} {P : β → Prop} (h : ∀ y, y = e → wp (k y) P) : wp (nm e k) P := h e rfl
theorem wp_cqs {α β γ : Type} {f : Option (α × β)} {k : α → β → Option γ} {P : γ → Prop} {Q : α × β → Prop} (hf : wp f Q) (h : ∀ r D, Q (r, D) → wp (k r D) P) : wp (cq f k) P := by
  obtain ⟨⟨r, D⟩, e, p⟩ := hf
  subst e
  exact h r D p
theorem wp_pqs {α γ : Type} {f : Option α} {k : α → Option γ} {P : γ → Prop} {Q : α → Prop} (hf : wp f Q) (h : ∀ r, Q r → wp (k r) P) : wp (pq f k) P := by
  obtain ⟨r, e, p⟩ := hf
  subst e
  exact h r p
theorem wp_c3s {α γ : Type} {f : Option (α × sh × dt)} {k : α → sh → dt → Option γ} {P : γ → Prop} {Q : α × sh × dt → Prop} (hf : wp f Q) (h : ∀ r S D, Q (r, S, D) → wp (k r S D) P) : wp (c3 f k) P := by
  obtain ⟨⟨r, S, D⟩, e, p⟩ := hf
  subst e
  exact h r S D p
-- a loop's turns
theorem ms_up {a b B : Int} {v s : Int32} {n : Nat} (p : Rg a b v) (w : b + s.toInt ≤ 2147483647 ∧ -2147483648 ≤ a + s.toInt ∧ 1 ≤ s.toInt) (m : B - v.toInt < ((n + 1 : Nat) : Int)) : B - (v + s).toInt < (n : Int) := by
  have e := i32_add p (c := s.toInt) (d := s.toInt) (y := s) ⟨Int.le_refl _, Int.le_refl _⟩ ⟨w.2.1, w.1⟩
  rw [e]
  omega
theorem ms_dn {a b B : Int} {v s : Int32} {n : Nat} (p : Rg a b v) (w : b + s.toInt ≤ 2147483647 ∧ -2147483648 ≤ a + s.toInt ∧ s.toInt ≤ -1) (m : v.toInt - B < ((n + 1 : Nat) : Int)) : (v + s).toInt - B < (n : Int) := by
  have e := i32_add p (c := s.toInt) (d := s.toInt) (y := s) ⟨Int.le_refl _, Int.le_refl _⟩ ⟨w.2.1, w.1⟩
  rw [e]
  omega
theorem ms_0 {a b : Int} {v : Int32} {B : Int} (p : Rg a b v) (w : b ≤ B) (m : B - v.toInt < ((0 : Nat) : Int)) : False := by
  obtain ⟨p1, p2⟩ := p
  omega
theorem ms_d0 {a b : Int} {v : Int32} {B : Int} (p : Rg a b v) (w : B ≤ a) (m : v.toInt - B < ((0 : Nat) : Int)) : False := by
  obtain ⟨p1, p2⟩ := p
  omega
theorem ms_in {a b : Int} {v : Int32} {B : Int} {n : Nat} (p : Rg a b v) (w : B - a < (n : Int)) : B - v.toInt < (n : Int) := by
  obtain ⟨p1, p2⟩ := p
  omega
theorem ms_din {a b : Int} {v : Int32} {B : Int} {n : Nat} (p : Rg a b v) (w : b - B < (n : Int)) : v.toInt - B < (n : Int) := by
  obtain ⟨p1, p2⟩ := p
  omega
