theorem rg_01 {a b : Int} {x : Int32} (p : Rg a b x) (w : 0 ≤ a ∧ b ≤ 1) : x = 0 ∨ x = 1 := by
  obtain ⟨p1, p2⟩ := p
  have : x.toInt = 0 ∨ x.toInt = 1 := by omega
  rcases this with e | e
  · exact Or.inl (Int32.toInt_inj.mp e)
  · exact Or.inr (Int32.toInt_inj.mp e)
theorem rg_ne3 {a b : Int} {x : Int32} (p : Rg a b x) (w : 3 < a ∨ b < 3) : x ≠ 3 := by
  rintro rfl
  obtain ⟨p1, p2⟩ := p
  have : (3 : Int32).toInt = 3 := rfl
  omega
theorem rg_nz {a b : Int} {x : Int32} (p : Rg a b x) (w : 0 < a ∨ b < 0) : ¬ x = 0 := by
  rintro rfl
  obtain ⟨p1, p2⟩ := p
  have : (0 : Int32).toInt = 0 := rfl
  omega
theorem rgl_nz {a b : Int} {x : Int64} (p : RgL a b x) (w : 0 < a ∨ b < 0) : ¬ x = 0 := by
  rintro rfl
  obtain ⟨p1, p2⟩ := p
  have : (0 : Int64).toInt = 0 := rfl
  omega
theorem rgl_in {a b c d e f l h : Int} {v x y : Int64} (p : RgL a b v) (q : RgL c d x) (r : RgL e f y) (k : x.toInt ≤ v.toInt ∧ v.toInt ≤ y.toInt) (w : (l ≤ a ∨ l ≤ c) ∧ (b ≤ h ∨ f ≤ h)) : RgL l h v := by
  obtain ⟨p1, p2⟩ := p
  obtain ⟨q1, q2⟩ := q
  obtain ⟨r1, r2⟩ := r
  unfold RgL
  omega
theorem rg_unadd {a b l h l' h' : Int} {x s : Int32} (p : Rg a b x) (q : Rg l h (x + s)) (w : -2147483648 ≤ a + s.toInt ∧ b + s.toInt ≤ 2147483647 ∧ (l' ≤ a ∨ l' ≤ l - s.toInt) ∧ (b ≤ h' ∨ h - s.toInt ≤ h')) : Rg l' h' x := by
  have e := i32_add p (c := s.toInt) (d := s.toInt) (y := s) ⟨Int.le_refl _, Int.le_refl _⟩ ⟨w.1, w.2.1⟩
  unfold Rg at q
  rw [e] at q
  obtain ⟨p1, p2⟩ := p
  unfold Rg
  omega
theorem rg_unsub {a b l h l' h' : Int} {x s : Int32} (p : Rg a b x) (q : Rg l h (x - s)) (w : -2147483648 ≤ a - s.toInt ∧ b - s.toInt ≤ 2147483647 ∧ (l' ≤ a ∨ l' ≤ l + s.toInt) ∧ (b ≤ h' ∨ h + s.toInt ≤ h')) : Rg l' h' x := by
  have e := i32_sub p (c := s.toInt) (d := s.toInt) (y := s) ⟨Int.le_refl _, Int.le_refl _⟩ ⟨w.1, w.2.1⟩
  unfold Rg at q
  rw [e] at q
  obtain ⟨p1, p2⟩ := p
  unfold Rg
  omega
theorem wp_oqs {γ : Type} {o : Option Nat} {a : Option γ} {k : Nat → Option γ} {P : γ → Prop} {x : Nat} (e : o = some x) (h : wp (k x) P) : wp (oq o a k) P := by
  subst e
  exact h
theorem rg_shr {a b l h : Int} {x c : Int32} (p : Rg a b x) (w : 0 ≤ c.toInt ∧ c.toInt < 32 ∧ l ≤ a / 2 ^ c.toInt.toNat ∧ b / 2 ^ c.toInt.toNat ≤ h) : Rg l h (x >>> (c &&& 31)) := by
  obtain ⟨p1, p2⟩ := p
  obtain ⟨w1, w2, w3, w4⟩ := w
  have e : (x >>> (c &&& 31)).toInt = x.toInt / 2 ^ c.toInt.toNat := by
    have hc : ((c &&& 31).toBitVec.smod 32).toNat = c.toInt.toNat := by
      have h1 : (c &&& 31) = c := by
        apply Int32.toInt_inj.mp
        have := bv_and_lo (x := c.toBitVec) (m := (31 : Int32).toBitVec) (by decide)
        have e1 : (c &&& 31).toInt = (c.toBitVec &&& (31 : Int32).toBitVec).toInt := rfl
        have e2 : c.toInt = c.toBitVec.toInt := rfl
        have e4 : c.toBitVec.toInt = c.toBitVec.toNat := by
          rw [BitVec.toInt_eq_toNat_cond]
          split
          · rfl
          · rename_i q
            rw [e2, BitVec.toInt_eq_toNat_cond, if_neg q] at w1
            have := c.toBitVec.isLt
            omega
        have e3 : c.toBitVec.toNat &&& (31 : Int32).toBitVec.toNat = c.toBitVec.toNat := by
          show c.toBitVec.toNat &&& 31 = _
          rw [show (31 : Nat) = 2 ^ 5 - 1 from rfl, Nat.and_two_pow_sub_one_eq_mod]
          exact Nat.mod_eq_of_lt (by omega)
        rw [e1, this.1, e3, e2, e4]
      rw [h1]
      have e2 : c.toInt = c.toBitVec.toInt := rfl
      have e4 : c.toBitVec.toInt = c.toBitVec.toNat := by
        rw [BitVec.toInt_eq_toNat_cond]
        split
        · rfl
        · rename_i q
          rw [e2, BitVec.toInt_eq_toNat_cond, if_neg q] at w1
          have := c.toBitVec.isLt
          omega
      have m1 : c.toBitVec.msb = false := by
        rw [BitVec.msb_eq_false_iff_two_mul_lt]
        omega
      rw [BitVec.smod_eq, m1]
      show (c.toBitVec.umod 32).toNat = _
      rw [BitVec.umod_eq, BitVec.toNat_umod]
      rw [e2, e4]
      show c.toBitVec.toNat % 32 = _
      rw [Nat.mod_eq_of_lt (by omega)]
      rfl
    have e0 : (x >>> (c &&& 31)).toInt = (x.toBitVec.sshiftRight ((c &&& 31).toBitVec.smod 32).toNat).toInt := rfl
    rw [e0, hc, BitVec.toInt_sshiftRight, Int.shiftRight_eq_div_pow]
    rfl
  have hp : (0 : Int) < 2 ^ c.toInt.toNat := Int.pow_pos (by decide)
  unfold Rg
  rw [e]
  exact ⟨Int.le_trans w3 (Int.ediv_le_ediv hp p1), Int.le_trans (Int.ediv_le_ediv hp p2) w4⟩
theorem rg_div {a b l h : Int} {x m : Int32} (p : Rg a b x) (w : 0 ≤ a ∧ 0 < m.toInt ∧ l ≤ a / m.toInt ∧ b / m.toInt ≤ h) : Rg l h (x / m) := by
  obtain ⟨p1, p2⟩ := p
  obtain ⟨w1, w2, w3, w4⟩ := w
  have e : (x / m).toInt = x.toInt / m.toInt := by
    rw [Int32.toInt_div]
    have h1 : x.toInt.tdiv m.toInt = x.toInt / m.toInt := Int.tdiv_eq_ediv_of_nonneg (by omega)
    have h2 : x.toInt / m.toInt ≤ x.toInt := Int.ediv_le_self _ (by omega)
    have h3 : 0 ≤ x.toInt / m.toInt := Int.ediv_nonneg (by omega) (by omega)
    have := i32_hi x
    rw [h1]
    exact bm32 (by omega) (by omega)
  unfold Rg
  rw [e]
  exact ⟨Int.le_trans w3 (Int.ediv_le_ediv w2 p1), Int.le_trans (Int.ediv_le_ediv w2 p2) w4⟩
theorem rg_i8 {l h : Int} (x : Int8) (w : l ≤ -128 ∧ 127 ≤ h) : Rg l h x.toInt32 := by
  have h1 := Int8.le_toInt x
  have h2 := Int8.toInt_lt x
  unfold Rg
  rw [Int8.toInt_toInt32]
  omega
section SCN
variable {g : gh} {S : sh} {D D' : dt} {o : Nat}
/-- a change of one scene's own rows -/
theorem inv_scene (h : Inv g S D) (k : sK S o = 4) (hI : ∀ a b, a ≠ o + 1 → gI D' a b = gI D a b) (hL : ∀ a b, a ≠ o + 2 → a ≠ o + 3 → a ≠ o + 4 → gL D' a b = gL D a b) (hR : ∀ a b, gR D' a b = gR D a b) (hs : ∀ p, p < 75 → stk g o (gI D' (o + 1) p) (gL D' (o + 2) p) (gL D' (o + 3) p)) : Inv g S D' := by
  have q := h.shp.2.2.2.1 o k
  obtain ⟨q1, q2, q3, q4, -⟩ := q
  have kn : ∀ a, a < 66 → sK S a = K0 a := fun a ha => (h.shp.2.1 a ha).1
  refine ⟨h.shp, fun a b ha => ?_, ?_, fun a b ha => by rw [hR]; exact h.r a b ha, fun a ha => ?_, fun a ha => ?_, h.gg, fun a b ha => ?_, ?_, ?_, ?_⟩
  · by_cases e : a = o + 1
    · subst e
      rcases sc_at h (by omega) k with rfl | rfl <;> exact rg_top _
    · rw [hI a b e]
      exact h.i a b ha
  · have n7 : ∀ j, sK S (o + j) = 101 → 7 ≠ o + j := fun j e q => by
      rw [← q, kn 7 (by decide)] at e
      revert e
      decide
    have n8 : ∀ j, sK S (o + j) = 101 → 28 ≠ o + j := fun j e q => by
      rw [← q, kn 28 (by decide)] at e
      revert e
      decide
    unfold vL
    rw [hL 7 5 (n7 2 q2) (n7 3 q3) (n7 4 q4), hL 28 17 (n8 2 q2) (n8 3 q3) (n8 4 q4)]
    exact h.l
  · have ne : a ≠ o + 1 := by
      rintro rfl
      omega
    simp only [hI a _ ne, hR]
    exact h.t a ha
  · simp only [hR]
    refine ⟨(h.s a ha).1, fun p => ?_⟩
    by_cases e : a = o
    · subst e
      exact hs p
    · have w := h.shp.2.2.2.1 a ha
      obtain ⟨w1, w2, w3, w4, -⟩ := w
      have m : ∀ i j, 1 ≤ i → i ≤ 4 → 1 ≤ j → j ≤ 4 → a + i ≠ o + j := by
        intro i j i1 i2 j1 j2 e2
        have : a = o + 1 ∨ a = o + 2 ∨ a = o + 3 ∨ o = a + 1 ∨ o = a + 2 ∨ o = a + 3 := by omega
        rcases this with r | r | r | r | r | r <;> (subst r; omega)
      rw [hI _ _ (m 1 1 (by omega) (by omega) (by omega) (by omega)), hL _ _ (m 2 2 (by omega) (by omega) (by omega) (by omega)) (m 2 3 (by omega) (by omega) (by omega) (by omega)) (m 2 4 (by omega) (by omega) (by omega) (by omega)), hL _ _ (m 3 2 (by omega) (by omega) (by omega) (by omega)) (m 3 3 (by omega) (by omega) (by omega) (by omega)) (m 3 4 (by omega) (by omega) (by omega) (by omega))]
      exact (h.s a ha).2 p
  · have ne : a ≠ o + 1 := by
      rintro rfl
      have hb : o + 1 < 66 := by
        unfold isP at ha
        simp only [Bool.or_eq_true, Bool.and_eq_true] at ha
        rcases ha with ⟨-, x⟩ | ⟨-, x⟩
        · have := Nat.le_of_ble_eq_true x
          omega
        · have := Nat.le_of_ble_eq_true x
          omega
      rcases sc_at h (by omega) k with rfl | rfl <;> cases ha
    rw [hI a b ne]
    exact h.p a b ha
  · have : nul D' = nul D := nul_same (fun j => hR 15 j)
    unfold vM
    rw [this]
    exact h.m
  · have nn : ∀ a j, a < 66 → 1 ≤ j → j ≤ 4 → (a < 18 ∨ 26 < a) → a ≠ o + j := fun a j ha j1 j2 r e => by
      rcases sc_at h (by omega) k with rfl | rfl <;> omega
    have i1 : ∀ a b, a < 66 → (a < 18 ∨ 26 < a) → gI D' a b = gI D a b := fun a b ha r => hI a b (nn a 1 ha (by omega) (by omega) r)
    have l1 : ∀ a b, a < 66 → (a < 18 ∨ 26 < a) → gL D' a b = gL D a b := fun a b ha r => hL a b (nn a 2 ha (by omega) (by omega) r) (nn a 3 ha (by omega) (by omega) r) (nn a 4 ha (by omega) (by omega) r)
    refine ⟨fun j => ?_, fun j => ?_, fun j => ?_, ?_⟩
    · rw [i1 60 j (by decide) (by decide), l1 61 j (by decide) (by decide)]
      exact h.k.1 j
    · rw [i1 49 j (by decide) (by decide), l1 50 j (by decide) (by decide)]
      exact h.k.2.1 j
    · rw [i1 55 j (by decide) (by decide), l1 56 j (by decide) (by decide)]
      exact h.k.2.2.1 j
    · rw [i1 28 47 (by decide) (by decide), l1 28 48 (by decide) (by decide)]
      exact h.k.2.2.2
  · have nn : ∀ j, 1 ≤ j → j ≤ 4 → 14 ≠ o + j := fun j j1 j2 e => by
      rcases sc_at h (by omega) k with rfl | rfl <;> omega
    intro hz
    have n60 : 60 ≠ o + 1 := fun e => by
      rcases sc_at h (by omega) k with rfl | rfl <;> omega
    have n28 : 28 ≠ o + 1 := fun e => by
      rcases sc_at h (by omega) k with rfl | rfl <;> omega
    rw [hI 14 8 (nn 1 (by omega) (by omega)), hI 14 10 (nn 1 (by omega) (by omega)), hL 14 9 (nn 2 (by omega) (by omega)) (nn 3 (by omega) (by omega)) (nn 4 (by omega) (by omega)), hL 14 11 (nn 2 (by omega) (by omega)) (nn 3 (by omega) (by omega)) (nn 4 (by omega) (by omega)), hI 28 53 n28]
    obtain ⟨f1, f2, f3, f4, f5, f6⟩ := h.f hz
    exact ⟨f1, f2, f3, f4, fun b q => f5 b ((hI 60 b n60).symm.trans q), f6⟩
end SCN
theorem rcl_m1048576 : RgL (-1048576) (-1048576) ((-1048576) : Int64) := ⟨by decide, by decide⟩
theorem rcl_m65536 : RgL (-65536) (-65536) ((-65536) : Int64) := ⟨by decide, by decide⟩
theorem rc_m32768 : Rg (-32768) (-32768) ((-32768) : Int32) := ⟨by decide, by decide⟩
theorem rcl_m32768 : RgL (-32768) (-32768) ((-32768) : Int64) := ⟨by decide, by decide⟩
theorem rc_m512 : Rg (-512) (-512) ((-512) : Int32) := ⟨by decide, by decide⟩
theorem rcl_m512 : RgL (-512) (-512) ((-512) : Int64) := ⟨by decide, by decide⟩
theorem rc_m4 : Rg (-4) (-4) ((-4) : Int32) := ⟨by decide, by decide⟩
theorem rc_m3 : Rg (-3) (-3) ((-3) : Int32) := ⟨by decide, by decide⟩
theorem rc_m2 : Rg (-2) (-2) ((-2) : Int32) := ⟨by decide, by decide⟩
theorem rcl_m2 : RgL (-2) (-2) ((-2) : Int64) := ⟨by decide, by decide⟩
theorem rc_m1 : Rg (-1) (-1) ((-1) : Int32) := ⟨by decide, by decide⟩
theorem rcl_m1 : RgL (-1) (-1) ((-1) : Int64) := ⟨by decide, by decide⟩
theorem rc_0 : Rg 0 0 (0 : Int32) := ⟨by decide, by decide⟩
theorem rcl_0 : RgL 0 0 (0 : Int64) := ⟨by decide, by decide⟩
theorem rc_1 : Rg 1 1 (1 : Int32) := ⟨by decide, by decide⟩
theorem rcl_1 : RgL 1 1 (1 : Int64) := ⟨by decide, by decide⟩
theorem rc_2 : Rg 2 2 (2 : Int32) := ⟨by decide, by decide⟩
theorem rcl_2 : RgL 2 2 (2 : Int64) := ⟨by decide, by decide⟩
theorem rc_3 : Rg 3 3 (3 : Int32) := ⟨by decide, by decide⟩
theorem rcl_3 : RgL 3 3 (3 : Int64) := ⟨by decide, by decide⟩
theorem rc_4 : Rg 4 4 (4 : Int32) := ⟨by decide, by decide⟩
theorem rcl_4 : RgL 4 4 (4 : Int64) := ⟨by decide, by decide⟩
theorem rc_5 : Rg 5 5 (5 : Int32) := ⟨by decide, by decide⟩
theorem rc_6 : Rg 6 6 (6 : Int32) := ⟨by decide, by decide⟩
theorem rc_7 : Rg 7 7 (7 : Int32) := ⟨by decide, by decide⟩
theorem rc_8 : Rg 8 8 (8 : Int32) := ⟨by decide, by decide⟩
theorem rcl_8 : RgL 8 8 (8 : Int64) := ⟨by decide, by decide⟩
theorem rc_9 : Rg 9 9 (9 : Int32) := ⟨by decide, by decide⟩
theorem rc_10 : Rg 10 10 (10 : Int32) := ⟨by decide, by decide⟩
theorem rcl_10 : RgL 10 10 (10 : Int64) := ⟨by decide, by decide⟩
theorem rc_11 : Rg 11 11 (11 : Int32) := ⟨by decide, by decide⟩
theorem rc_12 : Rg 12 12 (12 : Int32) := ⟨by decide, by decide⟩
theorem rc_13 : Rg 13 13 (13 : Int32) := ⟨by decide, by decide⟩
theorem rc_16 : Rg 16 16 (16 : Int32) := ⟨by decide, by decide⟩
theorem rc_24 : Rg 24 24 (24 : Int32) := ⟨by decide, by decide⟩
theorem rc_31 : Rg 31 31 (31 : Int32) := ⟨by decide, by decide⟩
theorem rc_32 : Rg 32 32 (32 : Int32) := ⟨by decide, by decide⟩
theorem rcl_32 : RgL 32 32 (32 : Int64) := ⟨by decide, by decide⟩
theorem rc_63 : Rg 63 63 (63 : Int32) := ⟨by decide, by decide⟩
theorem rc_64 : Rg 64 64 (64 : Int32) := ⟨by decide, by decide⟩
theorem rc_65 : Rg 65 65 (65 : Int32) := ⟨by decide, by decide⟩
theorem rc_75 : Rg 75 75 (75 : Int32) := ⟨by decide, by decide⟩
theorem rc_80 : Rg 80 80 (80 : Int32) := ⟨by decide, by decide⟩
theorem rc_81 : Rg 81 81 (81 : Int32) := ⟨by decide, by decide⟩
theorem rc_97 : Rg 97 97 (97 : Int32) := ⟨by decide, by decide⟩
theorem rc_98 : Rg 98 98 (98 : Int32) := ⟨by decide, by decide⟩
theorem rc_99 : Rg 99 99 (99 : Int32) := ⟨by decide, by decide⟩
theorem rc_123 : Rg 123 123 (123 : Int32) := ⟨by decide, by decide⟩
theorem rc_129 : Rg 129 129 (129 : Int32) := ⟨by decide, by decide⟩
theorem rc_153 : Rg 153 153 (153 : Int32) := ⟨by decide, by decide⟩
theorem rc_160 : Rg 160 160 (160 : Int32) := ⟨by decide, by decide⟩
theorem rc_161 : Rg 161 161 (161 : Int32) := ⟨by decide, by decide⟩
theorem rc_195 : Rg 195 195 (195 : Int32) := ⟨by decide, by decide⟩
theorem rc_200 : Rg 200 200 (200 : Int32) := ⟨by decide, by decide⟩
theorem rc_219 : Rg 219 219 (219 : Int32) := ⟨by decide, by decide⟩
theorem rc_225 : Rg 225 225 (225 : Int32) := ⟨by decide, by decide⟩
theorem rc_241 : Rg 241 241 (241 : Int32) := ⟨by decide, by decide⟩
theorem rc_255 : Rg 255 255 (255 : Int32) := ⟨by decide, by decide⟩
theorem rcl_255 : RgL 255 255 (255 : Int64) := ⟨by decide, by decide⟩
theorem rc_256 : Rg 256 256 (256 : Int32) := ⟨by decide, by decide⟩
theorem rcl_256 : RgL 256 256 (256 : Int64) := ⟨by decide, by decide⟩
theorem rc_512 : Rg 512 512 (512 : Int32) := ⟨by decide, by decide⟩
theorem rcl_512 : RgL 512 512 (512 : Int64) := ⟨by decide, by decide⟩
theorem rc_10000 : Rg 10000 10000 (10000 : Int32) := ⟨by decide, by decide⟩
theorem rcl_10000 : RgL 10000 10000 (10000 : Int64) := ⟨by decide, by decide⟩
theorem rc_32767 : Rg 32767 32767 (32767 : Int32) := ⟨by decide, by decide⟩
theorem rcl_32767 : RgL 32767 32767 (32767 : Int64) := ⟨by decide, by decide⟩
theorem rcl_65536 : RgL 65536 65536 (65536 : Int64) := ⟨by decide, by decide⟩
theorem rcl_1048576 : RgL 1048576 1048576 (1048576 : Int64) := ⟨by decide, by decide⟩
theorem rcl_2147483648 : RgL 2147483648 2147483648 (2147483648 : Int64) := ⟨by decide, by decide⟩
theorem rcl_4294967295 : RgL 4294967295 4294967295 (4294967295 : Int64) := ⟨by decide, by decide⟩
theorem rcl_4294967296 : RgL 4294967296 4294967296 (4294967296 : Int64) := ⟨by decide, by decide⟩
theorem rcl_8589934080 : RgL 8589934080 8589934080 (8589934080 : Int64) := ⟨by decide, by decide⟩
theorem rcl_8589934591 : RgL 8589934591 8589934591 (8589934591 : Int64) := ⟨by decide, by decide⟩
theorem rcl_8589934592 : RgL 8589934592 8589934592 (8589934592 : Int64) := ⟨by decide, by decide⟩
theorem rcl_17179869184 : RgL 17179869184 17179869184 (17179869184 : Int64) := ⟨by decide, by decide⟩
theorem rcl_34359738368 : RgL 34359738368 34359738368 (34359738368 : Int64) := ⟨by decide, by decide⟩
theorem rcl_4611686018427387904 : RgL 4611686018427387904 4611686018427387904 (4611686018427387904 : Int64) := ⟨by decide, by decide⟩
