theorem r01_0 : Rg 0 1 (0 : Int32) := by decide
theorem r01_1 : Rg 0 1 (1 : Int32) := by decide
theorem rm31 : Rg (-1) 31 (-1 : Int32) := by decide
theorem nonn {x : Int32} (e : x = -1) {P : Prop} : 0 ≤ x.toInt → P := by
  subst e
  exact fun q => absurd q (by decide)
theorem tnc {x : Int32} (h : 0 ≤ x.toInt) : (x.toNatClampNeg : Int) = x.toInt := Int.toNat_of_nonneg h
theorem len32 {n : Nat} (h : n ≤ 1000000) : (Int32.ofNat n).toInt = n := Int32.toInt_ofNat_of_lt (by omega)
theorem in_len {x : Int32} {n : Nat} (h0 : 0 ≤ x.toInt) (hn : n ≤ 1000000) (c : ¬ Int32.ofNat n ≤ x) : vp_in x n ∧ x.toInt < n := by
  have := Int32.lt_iff_toInt_lt.mp (nle32 c)
  rw [len32 hn] at this
  exact ⟨vp_in_iff.mpr ⟨h0, this⟩, this⟩
theorem tn_lt {x : Int32} {b : Int} {n : Nat} (p : Rg 0 b x) (w : b < n) : x.toNatClampNeg < n := by
  have := tnc p.1
  have := p.2
  omega
theorem tag_one {x : Int32} (p : Rg 1 1 x) : ¬ x &&& 15 = 3 := by
  obtain rfl : x = 1 := by
    apply Int32.toInt_inj.mp
    have e1 : (1 : Int32).toInt = 1 := rfl
    have := p.1
    have := p.2
    omega
  decide
/-- an access of the reference's judge lies in the STACK -/
def InM (D : dt) (p : Nat) (off n : Int) : Prop := -512 ≤ (gL D 61 p).toInt + off ∧ (gL D 61 p).toInt + off + n ≤ 0
theorem le_z {x : Int32} (c : x ≤ 0) : x.toInt ≤ 0 := Int32.le_iff_toInt_le.mp c
theorem eq_z {x : Int32} (c : x = 0) : x.toInt ≤ 0 := by
  rw [c]
  decide
theorem to32 {x : Int64} {a b : Int} (p : RgL a b x) (w : -2147483648 ≤ a ∧ b ≤ 2147483647) : x.toInt32.toInt = x.toInt := by
  obtain ⟨p1, p2⟩ := p
  rw [Int64.toInt_toInt32, bm32 (by omega) (by omega)]
theorem inm_rg {g : gh} {S : sh} {D : dt} {p : Nat} {off : Int32} {n : Int} (h : Inv g S D) (hk : gI D 60 p = 3) (hi : InM D p off.toInt n) (ho : Rg (-32768) 32767 off) (hn : 1 ≤ n) : Rg 0 511 ((gL D 61 p).toInt32 + off + 512) := by
  have l : RgL (-1048576) 1048576 (gL D 61 p) := h.k.1 p hk
  have e := to32 l (by decide)
  have r1 : Rg (-1048576) 1048576 (gL D 61 p).toInt32 := by
    unfold Rg
    rw [e]
    exact l
  have e1 : ((gL D 61 p).toInt32 + off).toInt = (gL D 61 p).toInt + off.toInt := by rw [i32_add r1 ho (by decide), e]
  have r2 : Rg (-1081344) 1081343 ((gL D 61 p).toInt32 + off) := rg_add r1 ho (by decide)
  have l5 : (512 : Int32).toInt = 512 := rfl
  have e2 : ((gL D 61 p).toInt32 + off + 512).toInt = (gL D 61 p).toInt + off.toInt + 512 := by rw [i32_add r2 (by decide : Rg 512 512 (512 : Int32)) (by decide), e1, l5]
  obtain ⟨i1, i2⟩ := hi
  unfold Rg
  rw [e2]
  omega
theorem inm_rd {g : gh} {S : sh} {D : dt} {p : Nat} {n : Int} (h : Inv g S D) (hk : gI D 60 p = 3) (hi : InM D p (0 : Int32).toInt n) (hn : 0 ≤ n) : Rg 0 512 ((gL D 61 p).toInt32 + 512) := by
  have l : RgL (-1048576) 1048576 (gL D 61 p) := h.k.1 p hk
  have e := to32 l (by decide)
  have r1 : Rg (-1048576) 1048576 (gL D 61 p).toInt32 := by
    unfold Rg
    rw [e]
    exact l
  have l0 : (0 : Int32).toInt = 0 := rfl
  have l5 : (512 : Int32).toInt = 512 := rfl
  have e2 : ((gL D 61 p).toInt32 + 512).toInt = (gL D 61 p).toInt + 512 := by rw [i32_add r1 (by decide : Rg 512 512 (512 : Int32)) (by decide), e, l5]
  obtain ⟨i1, i2⟩ := hi
  unfold Rg
  rw [e2]
  omega
theorem inm_x6 {g : gh} {S : sh} {D : dt} {p : Nat} {off : Int32} {n : Int} {x : Int64} (h : Inv g S D) (hv : x = gL D 61 p + off.toInt64 + 512) (hk : gI D 60 p = 3) (hi : InM D p off.toInt n) (ho : Rg (-32768) 32767 off) (hn : 1 ≤ n) : Rg 0 511 x.toInt32 := by
  have l : RgL (-1048576) 1048576 (gL D 61 p) := h.k.1 p hk
  obtain ⟨l1, l2⟩ := l
  obtain ⟨o1, o2⟩ := ho
  obtain ⟨i1, i2⟩ := hi
  have l5 : (512 : Int64).toInt = 512 := rfl
  have e1 : (gL D 61 p + off.toInt64).toInt = (gL D 61 p).toInt + off.toInt := by rw [Int64.toInt_add, Int32.toInt_toInt64, bm64 (by omega) (by omega)]
  have e2 : x.toInt = (gL D 61 p).toInt + off.toInt + 512 := by rw [hv, Int64.toInt_add, e1, l5, bm64 (by omega) (by omega)]
  exact rg_of (a := 0) (b := 511) ⟨by omega, by omega⟩ (by decide)
theorem imm_t {g : gh} {S : sh} {D : dt} {j : Nat} (h : Inv g S D) (p : (0 : Int64).toInt ≤ (gI D 33 j).toInt64.toInt ∧ (gI D 33 j).toInt64.toInt ≤ (gI D 28 9 - 1).toInt64.toInt) : Rg 0 3 (g.2 33 j) := by
  have hc := iF_28_9 h
  have l0 : (0 : Int64).toInt = 0 := rfl
  have l1 : (1 : Int32).toInt = 1 := rfl
  rw [Int32.toInt_toInt64, Int32.toInt_toInt64, i32_sub hc (by decide : Rg 1 1 (1 : Int32)) (by decide), l0, l1] at p
  obtain ⟨c1, c2⟩ := hc
  rw [← h.p 33 j rfl]
  exact ⟨p.1, by omega⟩
theorem cnt_lt {g : gh} {S : sh} {D : dt} {y : Int32} (h : Inv g S D) (p : (0 : Int64).toInt ≤ y.toInt64.toInt ∧ y.toInt64.toInt ≤ (gI D 28 0 - 1).toInt64.toInt) : y.toInt < g.1 2 := by
  have hc := iF_28_0 h
  have ec := iG_28_0 h
  have l1 : (1 : Int32).toInt = 1 := rfl
  rw [Int32.toInt_toInt64, Int32.toInt_toInt64, i32_sub hc (by decide : Rg 1 1 (1 : Int32)) (by decide), l1, ec] at p
  omega
theorem gw_k {g : gh} {S : sh} {D : dt} {o j : Nat} (h : Inv g S D) (hf : g.1 12 ≠ 0) (hp : isP o = true) (w : gI D 28 53 = g.2 28 53 → g.2 60 (g.2 o j).toNatClampNeg ≠ 3) : gI D 60 (gI D o j).toNatClampNeg ≠ 3 := by
  obtain ⟨-, -, -, -, f5, f6⟩ := h.f hf
  rw [h.p o j hp]
  exact fun e => w f6 (f5 _ e)
theorem way_32 {g : gh} {S : sh} {D : dt} {x : Int32} {j : Nat} (h : Inv g S D) (w : Rg 0 199 (x + g.2 32 j)) : Rg 0 199 (x + gI D 32 j) := by
  rw [h.p 32 j rfl]
  exact w
theorem way_g {g : gh} {S : sh} {D : dt} {x : Int32} {j : Nat} (h : Inv g S D) (w : Rg 0 199 (x + gI D 32 j)) : Rg 0 199 (x + g.2 32 j) := by
  rw [← h.p 32 j rfl]
  exact w
theorem pL_self (X : dt) (o j : Nat) : pL X o j (gL X o j) = X := by
  obtain ⟨a, b, c⟩ := X
  show (a, p2 b o j (b o j), c) = (a, b, c)
  have : p2 b o j (b o j) = b := by
    funext u v
    show (if u = o ∧ v = j then b o j else b u v) = b u v
    split
    · rename_i q
      rw [q.1, q.2]
    · rfl
  rw [this]
theorem inv_k60 {g : gh} {S : sh} {D : dt} {j : Nat} {K : Int32} (h : Inv g S D) (hK : K = 3 → g.1 12 = 0 ∨ g.2 60 j = 3) (hs : stm K (gL D 61 j)) : Inv g S (pI D 60 j K) := by
  have := inv_kl60 (L := gL D 61 j) h hK hs
  rw [show pL (pI D 60 j K) 61 j (gL D 61 j) = pI D 60 j K from pL_self (pI D 60 j K) 61 j] at this
  exact this
theorem to75 {x3 : Int32} (h3 : Rg 0 74 x3) : ((75 : Int32) + x3).toNatClampNeg = 75 + x3.toNatClampNeg := by
  have l7 : (75 : Int32).toInt = 75 := rfl
  have a : ((75 : Int32) + x3).toInt = 75 + x3.toInt := by rw [i32_add (by decide : Rg 75 75 (75 : Int32)) h3 (by decide), l7]
  obtain ⟨r1, r2⟩ := h3
  have t3 := tnc (x := x3) r1
  have := tnc (x := (75 : Int32) + x3) (by omega)
  omega
theorem cpK {g : gh} {S : sh} {D : dt} {x1 x2 x3 : Int32} (h : Inv g S D) (hcp : g.1 12 = 0 ∨ ∀ j, j < 75 → g.2 60 (75 + j) = g.2 60 j) (hab : (x1 = 0 ∧ x2 = 75) ∨ (x1 = 75 ∧ x2 = 0)) (h3 : Rg 0 74 x3) : gI D 60 (x1 + x3).toNatClampNeg = 3 → g.1 12 = 0 ∨ g.2 60 (x2 + x3).toNatClampNeg = 3 := by
  intro e
  rcases hcp with z | p
  · exact Or.inl z
  · by_cases z : g.1 12 = 0
    · exact Or.inl z
    · refine Or.inr ?_
      have f5 := (h.f z).2.2.2.2.1 _ e
      obtain ⟨r1, r2⟩ := h3
      have t3 := tnc (x := x3) r1
      have l : x3.toNatClampNeg < 75 := by omega
      have e75 := to75 (x3 := x3) ⟨r1, r2⟩
      have e0 : ((0 : Int32) + x3).toNatClampNeg = x3.toNatClampNeg := by rw [Int32.zero_add]
      rcases hab with ⟨rfl, rfl⟩ | ⟨rfl, rfl⟩
      · rw [e75, p _ l]
        rw [e0] at f5
        exact f5
      · rw [e0, ← p _ l]
        rw [e75] at f5
        exact f5
theorem fillI {S : sh} {o N : Nat} {v : Int32} {Q : dt → Nat → Prop} (hN : N ≤ 10000) (hl : sA S o = N) (hQ : ∀ D p, p < N → Q D p → Q (pI D o p v) (p + 1)) : ∀ (n : Nat) (x2 x3 : Int32) (D : dt), 0 ≤ x2.toInt → x2.toInt ≤ N → x3.toInt = N → N - x2.toInt < n → Q D x2.toNatClampNeg → wp (f_J7_fill_53178_5 S n o v x2 x3 D) (fun q => Q q.2 N) := by
  intro n
  induction n with
  | zero =>
    intro x2 x3 D h0 h1 h2 hm hq
    omega
  | succ n ih =>
    intro x2 x3 D h0 h1 h2 hm hq
    rw [f_J7_fill_53178_5.eq_2]
    refine wp_if (fun c => ?_) (fun c => ?_)
    · have := Int32.le_iff_toInt_le.mp c
      refine ⟨_, rfl, ?_⟩
      have e : x2.toNatClampNeg = N := by
        have := tnc h0
        omega
      rw [e] at hq
      exact hq
    · have c := Int32.lt_iff_toInt_lt.mp (nle32 c)
      have e1 := tnc h0
      have ad : (x2 + 1).toInt = x2.toInt + 1 := i32_add (c := 1) (d := 1) (y := 1) ⟨h0, (by omega : x2.toInt ≤ 10000)⟩ (by decide) (by decide)
      refine wp_ix (vp_in_iff.mpr ⟨h0, by omega⟩) ?_
      refine wp_nmI (fun D9 e9 => ?_)
      refine wp_nmI (fun y ey => ?_)
      subst ey
      subst e9
      refine ih _ _ _ (by omega) (by omega) h2 (by omega) ?_
      have e2 : (x2 + 1).toNatClampNeg = x2.toNatClampNeg + 1 := by
        have := tnc (x := x2 + 1) (by omega)
        omega
      rw [e2]
      exact hQ D _ (by omega) hq
theorem fillL {S : sh} {o N : Nat} {v : Int64} {Q : dt → Prop} (hN : N ≤ 10000) (hl : sA S o = N) (hQ : ∀ D p, p < N → Q D → Q (pL D o p v)) : ∀ (n : Nat) (x2 x3 : Int32) (D : dt), 0 ≤ x2.toInt → x2.toInt ≤ N → x3.toInt = N → N - x2.toInt < n → Q D → wp (f_J7_fill_d0a16_6 S n o v x2 x3 D) (fun q => Q q.2) := by
  intro n
  induction n with
  | zero =>
    intro x2 x3 D h0 h1 h2 hm hq
    omega
  | succ n ih =>
    intro x2 x3 D h0 h1 h2 hm hq
    rw [f_J7_fill_d0a16_6.eq_2]
    refine wp_if (fun c => ?_) (fun c => ?_)
    · exact ⟨_, rfl, hq⟩
    · have c := Int32.lt_iff_toInt_lt.mp (nle32 c)
      have e1 := tnc h0
      have ad : (x2 + 1).toInt = x2.toInt + 1 := i32_add (c := 1) (d := 1) (y := 1) ⟨h0, (by omega : x2.toInt ≤ 10000)⟩ (by decide) (by decide)
      refine wp_ix (vp_in_iff.mpr ⟨h0, by omega⟩) ?_
      refine wp_nmI (fun D9 e9 => ?_)
      refine wp_nmI (fun y ey => ?_)
      subst ey
      subst e9
      exact ih _ _ _ (by omega) (by omega) h2 (by omega) (hQ D _ (by omega) hq)
theorem fillI0 {S : sh} {o N : Nat} {v : Int32} {D : dt} {Q : dt → Nat → Prop} (hN : N ≤ 10000) (hl : sA S o = N) (hQ : ∀ D p, p < N → Q D p → Q (pI D o p v) (p + 1)) (hq : Q D 0) : wp (f_J7_fill_53178 S o v D) (fun q => Q q.2 N) := by
  unfold f_J7_fill_53178
  refine wp_nmI (fun y ey => wp_nmI (fun z ez => ?_))
  subst ey
  have e : z.toInt = N := by rw [ez, hl]; exact len32 (by omega)
  refine fillI hN hl hQ LF 0 z D (by decide) (by show (0 : Int) ≤ N; omega) e ?_ hq
  show (N : Int) - 0 < 20000
  omega
theorem fillL0 {S : sh} {o N : Nat} {v : Int64} {D : dt} {Q : dt → Prop} (hN : N ≤ 10000) (hl : sA S o = N) (hQ : ∀ D p, p < N → Q D → Q (pL D o p v)) (hq : Q D) : wp (f_J7_fill_d0a16 S o v D) (fun q => Q q.2) := by
  unfold f_J7_fill_d0a16
  refine wp_nmI (fun y ey => wp_nmI (fun z ez => ?_))
  subst ey
  have e : z.toInt = N := by rw [ez, hl]; exact len32 (by omega)
  refine fillL hN hl hQ LF 0 z D (by decide) (by show (0 : Int) ≤ N; omega) e ?_ hq
  show (N : Int) - 0 < 20000
  omega
theorem inv_tag {g : gh} {S : sh} {D : dt} {o p : Nat} {v : Int32} (h : Inv g S D) (k : sK S o = 4) (hv : ¬ v &&& 15 = 3) : Inv g S (pI D (o + 1) p v) := by
  refine inv_scene h k (fun a b n => by rw [gI_pI, if_neg (fun q => n q.1)]) (fun _ _ _ _ _ => rfl) (fun _ _ => rfl) (fun q hq => ?_)
  rw [gI_pI]
  split
  · exact fun e => absurd e hv
  · exact (h.s o k).2 q hq
theorem inv_low {g : gh} {S : sh} {D : dt} {o p : Nat} {v : Int64} (h : Inv g S D) (k : sK S o = 4) (hv : ¬ gI D (o + 1) p &&& 15 = 3) : Inv g S (pL D (o + 2) p v) := by
  refine inv_scene h k (fun _ _ _ => rfl) (fun a b n _ _ => by rw [gL_pL, if_neg (fun q => n q.1)]) (fun _ _ => rfl) (fun q hq e => ?_)
  have e : gI D (o + 1) q &&& 15 = 3 := e
  have ne : q ≠ p := by
    rintro rfl
    exact hv e
  rw [gL_pL, if_neg (fun z => ne z.2), gL_pL, if_neg (fun z => ne z.2)]
  exact (h.s o k).2 q hq e
theorem inv_high {g : gh} {S : sh} {D : dt} {o p : Nat} {v : Int64} (h : Inv g S D) (k : sK S o = 4) (hv : ¬ gI D (o + 1) p &&& 15 = 3) : Inv g S (pL D (o + 3) p v) := by
  refine inv_scene h k (fun _ _ _ => rfl) (fun a b _ n _ => by rw [gL_pL, if_neg (fun q => n q.1)]) (fun _ _ => rfl) (fun q hq e => ?_)
  have e : gI D (o + 1) q &&& 15 = 3 := e
  have ne : q ≠ p := by
    rintro rfl
    exact hv e
  rw [gL_pL, if_neg (fun z => ne z.2), gL_pL, if_neg (fun z => ne z.2)]
  exact (h.s o k).2 q hq e
theorem s_J7_fillL12 {g : gh} {S : sh} {D : dt} (h : Inv g S D) : wp (f_J7_fill_d0a16 S 12 0 D) (fun q => Inv g S q.2) := fillL0 (by decide) (iA_12 h) (fun D p _ h => inv_l12 h) h
set_option maxRecDepth 100000 in
theorem s_X3_turn_28  : ∀ (n : Nat) (x0 : Int64) (x2 : Int32) (x4 : Int64) (x6 : Int32), Rg 0 64 x2 → Rg 0 71 x6 → 71 - x6.toInt < (n : Int) → wp (f_X3_turn_28 n x0 x2 x4 x6) (fun q => True) := by
  intro n
  induction n with
  | zero =>
    intro x0 x2 x4 x6 hx2 hx6 hm
    exact (ms_0 hx6 (by decide) hm).elim
  | succ n ih =>
    intro x0 x2 x4 x6 hx2 hx6 hm
    rw [f_X3_turn_28.eq_2]
    refine wp_if (fun c_1 => ?_) (fun c_1 => ?_)
    ·
      exact ⟨_, rfl, trivial⟩
    ·
      have h_2 : Rg 0 63 _ := rg_lt1 hx6 hx2 (nle32 c_1) (by decide)
      have h_3 : Rg 1 64 _ := rg_lt2 hx6 hx2 (nle32 c_1) (by decide)
      refine wp_nmI (fun y9 e_y9 => ?_)
      refine wp_nmI (fun y10 e_y10 => ?_)
      have h_y10 : Rg 8 71 y10 := rg_eq e_y10 (rg_add h_2 rc_8 (by decide) : Rg 8 71 _)
      exact ih _ _ _ _ (rg_w h_3 (by decide)) (rg_w h_y10 (by decide)) (by rw [e_y10]; exact ms_up h_2 (by decide) hm)
set_option maxRecDepth 100000 in
theorem s_X3_turn  {x0 : Int64} {x2 : Int32} {x3 : Int32} (hx2 : Rg 0 64 x2) (hx3 : Rg 0 1 x3) : wp (f_X3_turn x0 x2 x3) (fun q => True) := by
  unfold f_X3_turn
  refine wp_if (fun c_1 => ?_) (fun c_1 => ?_)
  ·
    have h_2 : Rg 0 0 _ := rg_eq1 hx3 rc_0 c_1 (by decide)
    refine wp_if (fun c_3 => ?_) (fun c_3 => ?_)
    ·
      have h_4 : Rg 64 64 _ := rg_eq1 hx2 rc_64 c_3 (by decide)
      exact ⟨_, rfl, trivial⟩
    ·
      have h_5 : Rg 0 63 _ := rg_ne1 hx2 rc_64 c_3 (by decide)
      exact ⟨_, rfl, trivial⟩
  ·
    have h_6 : Rg 1 1 _ := rg_ne1 hx3 rc_0 c_1 (by decide)
    refine wp_nmI (fun y12 e_y12 => ?_)
    have h_y12 : RgL 0 0 y12 := rgl_eq e_y12 rcl_0
    refine wp_nmI (fun y13 e_y13 => ?_)
    have h_y13 : Rg 0 0 y13 := rg_eq e_y13 rc_0
    exact s_X3_turn_28  LF _ _ _ _ hx2 (rg_w h_y13 (by decide)) (ms_in h_y13 (by decide))
set_option maxRecDepth 100000 in
theorem s_X3_below  {x0 : Int64} {x2 : Int64}  : wp (f_X3_below x0 x2) (fun q => Rg 0 1 q) := by
  unfold f_X3_below
  refine wp_if (fun c_1 => ?_) (fun c_1 => ?_)
  ·
    exact ⟨_, rfl, (rg_w rc_0 (by decide))⟩
  ·
    have h_2 : RgL (-9223372036854775808) 9223372036854775806 _ := rgl_lt1 (rgl_top _) (rgl_top _) (nle64 (fun q => c_1 ((lg_cmp_ge _ _).mpr q))) (by decide)
    have h_3 : RgL (-9223372036854775807) 9223372036854775807 _ := rgl_lt2 (rgl_top _) (rgl_top _) (nle64 (fun q => c_1 ((lg_cmp_ge _ _).mpr q))) (by decide)
    exact ⟨_, rfl, (rg_w rc_1 (by decide))⟩
set_option maxRecDepth 100000 in
theorem s_X3_half  {x0 : Int64} {x2 : Int32} (hx2 : Rg 0 1 x2) : wp (f_X3_half x0 x2) (fun q => RgL (-2147483648) 4294967295 q) := by
  unfold f_X3_half
  refine wp_if (fun c_1 => ?_) (fun c_1 => ?_)
  ·
    have h_2 : Rg 0 0 _ := rg_eq1 hx2 rc_0 c_1 (by decide)
    exact ⟨_, rfl, (rgl_w (rgl_andr _ (by decide) : RgL 0 4294967295 _) (by decide))⟩
  ·
    have h_3 : Rg 1 1 _ := rg_ne1 hx2 rc_0 c_1 (by decide)
    exact ⟨_, rfl, (rgl_w (rgl_of (rg_top _) : RgL (-2147483648) 2147483647 _) (by decide))⟩
set_option maxRecDepth 100000 in
theorem s_X3_signedQuotient  {x0 : Int64} {x2 : Int64}  : wp (f_X3_signedQuotient x0 x2) (fun q => True) := by
  unfold f_X3_signedQuotient
  refine wp_if (fun c_1 => ?_) (fun c_1 => ?_)
  ·
    have h_2 : RgL 0 0 _ := rgl_eq1 (rgl_top _) rcl_0 ((lg_cmp_eq _ _).mp c_1) (by decide)
    exact ⟨_, rfl, trivial⟩
  ·
    refine wp_if (fun c_3 => ?_) (fun c_3 => ?_)
    ·
      have h_4 : RgL (-1) (-1) _ := rgl_eq1 (rgl_top _) rcl_m1 ((lg_cmp_eq _ _).mp c_3) (by decide)
      exact ⟨_, rfl, trivial⟩
    ·
      refine wp_ck (fun q => c_1 ((lg_cmp_eq _ _).mpr q)) ?_
      exact ⟨_, rfl, trivial⟩
set_option maxRecDepth 100000 in
theorem s_X3_quotient_26    : wp (f_X3_quotient_26) (fun q => True) := by
  unfold f_X3_quotient_26
  exact ⟨_, rfl, trivial⟩
set_option maxRecDepth 100000 in
theorem s_X3_quotient_78  {x4 : Int64}  : wp (f_X3_quotient_78 x4) (fun q => True) := by
  unfold f_X3_quotient_78
  exact ⟨_, rfl, trivial⟩
set_option maxRecDepth 100000 in
theorem s_X3_quotient  {x0 : Int64} {x2 : Int64}  : wp (f_X3_quotient x0 x2) (fun q => True) := by
  unfold f_X3_quotient
  refine wp_if (fun c_1 => ?_) (fun c_1 => ?_)
  ·
    have h_2 : RgL 0 0 _ := rgl_eq1 (rgl_top _) rcl_0 ((lg_cmp_eq _ _).mp c_1) (by decide)
    exact ⟨_, rfl, trivial⟩
  ·
    refine wp_if (fun c_3 => ?_) (fun c_3 => ?_)
    ·
      have h_4 : RgL 0 9223372036854775807 _ := rgl_le2 rcl_0 (rgl_top _) ((lg_cmp_ge _ _).mp c_3) (by decide)
      refine wp_if (fun c_5 => ?_) (fun c_5 => ?_)
      ·
        have h_6 : RgL (-9223372036854775808) (-1) _ := rgl_lt1 (rgl_top _) rcl_0 ((lg_cmp_lt _ _).mp c_5) (by decide)
        refine wp_ck (fun q => c_1 ((lg_cmp_eq _ _).mpr q)) ?_
        refine wp_nmI (fun y16 e_y16 => ?_)
        refine wp_nmI (fun y17 e_y17 => ?_)
        refine wp_if (fun c_7 => ?_) (fun c_7 => ?_)
        ·
          have h_8 : RgL (-9223372036854775808) (-1) _ := rgl_lt1 (rgl_top _) rcl_0 ((lg_cmp_lt _ _).mp c_7) (by decide)
          exact s_X3_quotient_78 
        ·
          have h_9 : RgL 0 9223372036854775807 _ := rgl_le2 rcl_0 (rgl_top _) (nlt64 (fun q => c_7 ((lg_cmp_lt _ _).mpr q))) (by decide)
          refine wp_if (fun c_10 => ?_) (fun c_10 => ?_)
          ·
            exact s_X3_quotient_78 
          ·
            have h_11 : RgL 0 9223372036854775806 _ := rgl_lt1 h_9 h_4 (nle64 (fun q => c_10 ((lg_cmp_ge _ _).mpr q))) (by decide)
            have h_12 : RgL 1 9223372036854775807 _ := rgl_lt2 h_9 h_4 (nle64 (fun q => c_10 ((lg_cmp_ge _ _).mpr q))) (by decide)
            exact ⟨_, rfl, trivial⟩
      ·
        have h_13 : RgL 0 9223372036854775807 _ := rgl_le2 rcl_0 (rgl_top _) (nlt64 (fun q => c_5 ((lg_cmp_lt _ _).mpr q))) (by decide)
        refine wp_ck (fun q => c_1 ((lg_cmp_eq _ _).mpr q)) ?_
        exact ⟨_, rfl, trivial⟩
    ·
      have h_14 : RgL (-9223372036854775808) (-1) _ := rgl_lt1 (rgl_top _) rcl_0 (nle64 (fun q => c_3 ((lg_cmp_ge _ _).mpr q))) (by decide)
      refine wp_if (fun c_15 => ?_) (fun c_15 => ?_)
      ·
        have h_16 : RgL 0 9223372036854775807 _ := rgl_le2 rcl_0 (rgl_top _) ((lg_cmp_ge _ _).mp c_15) (by decide)
        exact s_X3_quotient_26 
      ·
        have h_17 : RgL (-9223372036854775808) (-1) _ := rgl_lt1 (rgl_top _) rcl_0 (nle64 (fun q => c_15 ((lg_cmp_ge _ _).mpr q))) (by decide)
        refine wp_if (fun c_18 => ?_) (fun c_18 => ?_)
        ·
          exact ⟨_, rfl, trivial⟩
        ·
          have h_19 : RgL (-9223372036854775808) (-2) _ := rgl_lt1 h_17 h_14 (nle64 (fun q => c_18 ((lg_cmp_ge _ _).mpr q))) (by decide)
          have h_20 : RgL (-9223372036854775807) (-1) _ := rgl_lt2 h_17 h_14 (nle64 (fun q => c_18 ((lg_cmp_ge _ _).mpr q))) (by decide)
          exact s_X3_quotient_26 
set_option maxRecDepth 100000 in
theorem s_X3_withSign  {x0 : Int64} {x2 : Int32} (hx2 : Rg (-32768) 32767 x2) : wp (f_X3_withSign x0 x2) (fun q => True) := by
  unfold f_X3_withSign
  refine wp_nmI (fun y2 e_y2 => ?_)
  have h_y2 : Rg (-32703) 32832 y2 := rg_eq e_y2 (rg_sub rc_64 hx2 (by decide) : Rg (-32703) 32832 _)
  exact ⟨_, rfl, trivial⟩
set_option maxRecDepth 100000 in
theorem s_X3_makeOther  {x0 : Int32} {x1 : Int64} {x3 : Int64} {x5 : Int32} (hx0 : Rg (-134217728) 134217727 x0) (hx5 : Rg 31 63 x5) : wp (f_X3_makeOther x0 x1 x3 x5) (fun q => True) := by
  unfold f_X3_makeOther
  refine wp_if (fun c_1 => ?_) (fun c_1 => ?_)
  ·
    have h_2 : Rg 0 0 _ := rg_eq1 hx0 rc_0 c_1 (by decide)
    exact ⟨_, rfl, trivial⟩
  ·
    refine wp_if (fun c_3 => ?_) (fun c_3 => ?_)
    ·
      have h_4 : Rg 1 1 _ := rg_eq1 hx0 rc_1 c_3 (by decide)
      exact ⟨_, rfl, trivial⟩
    ·
      refine wp_if (fun c_5 => ?_) (fun c_5 => ?_)
      ·
        have h_6 : Rg 2 2 _ := rg_eq1 hx0 rc_2 c_5 (by decide)
        exact ⟨_, rfl, trivial⟩
      ·
        refine wp_if (fun c_7 => ?_) (fun c_7 => ?_)
        ·
          have h_8 : Rg 3 3 _ := rg_eq1 hx0 rc_3 c_7 (by decide)
          exact ⟨_, rfl, trivial⟩
        ·
          refine wp_if (fun c_9 => ?_) (fun c_9 => ?_)
          ·
            have h_10 : Rg 4 4 _ := rg_eq1 hx0 rc_4 c_9 (by decide)
            exact ⟨_, rfl, trivial⟩
          ·
            refine wp_if (fun c_11 => ?_) (fun c_11 => ?_)
            ·
              have h_12 : Rg 5 5 _ := rg_eq1 hx0 rc_5 c_11 (by decide)
              exact ⟨_, rfl, trivial⟩
            ·
              refine wp_if (fun c_13 => ?_) (fun c_13 => ?_)
              ·
                have h_14 : Rg 6 6 _ := rg_eq1 hx0 rc_6 c_13 (by decide)
                exact ⟨_, rfl, trivial⟩
              ·
                refine wp_if (fun c_15 => ?_) (fun c_15 => ?_)
                ·
                  have h_16 : Rg 7 7 _ := rg_eq1 hx0 rc_7 c_15 (by decide)
                  exact ⟨_, rfl, trivial⟩
                ·
                  refine wp_if (fun c_17 => ?_) (fun c_17 => ?_)
                  ·
                    have h_18 : Rg 8 8 _ := rg_eq1 hx0 rc_8 c_17 (by decide)
                    exact ⟨_, rfl, trivial⟩
                  ·
                    refine wp_if (fun c_19 => ?_) (fun c_19 => ?_)
                    ·
                      have h_20 : Rg 9 9 _ := rg_eq1 hx0 rc_9 c_19 (by decide)
                      exact ⟨_, rfl, trivial⟩
                    ·
                      refine wp_if (fun c_21 => ?_) (fun c_21 => ?_)
                      ·
                        have h_22 : Rg 10 10 _ := rg_eq1 hx0 rc_10 c_21 (by decide)
                        exact ⟨_, rfl, trivial⟩
                      ·
                        refine wp_if (fun c_23 => ?_) (fun c_23 => ?_)
                        ·
                          have h_24 : Rg 11 11 _ := rg_eq1 hx0 rc_11 c_23 (by decide)
                          exact ⟨_, rfl, trivial⟩
                        ·
                          refine wp_if (fun c_25 => ?_) (fun c_25 => ?_)
                          ·
                            have h_26 : Rg 12 12 _ := rg_eq1 hx0 rc_12 c_25 (by decide)
                            exact ⟨_, rfl, trivial⟩
                          ·
                            exact ⟨_, rfl, trivial⟩
set_option maxRecDepth 100000 in
theorem s_X3_make_169  {x1 : Int32} {x13 : Int64} (hx1 : Rg 0 1 x1) : wp (f_X3_make_169 x1 x13) (fun q => True) := by
  unfold f_X3_make_169
  refine wp_if (fun c_1 => ?_) (fun c_1 => ?_)
  ·
    have h_2 : Rg 0 0 _ := rg_eq1 hx1 rc_0 c_1 (by decide)
    exact ⟨_, rfl, trivial⟩
  ·
    have h_3 : Rg 1 1 _ := rg_ne1 hx1 rc_0 c_1 (by decide)
    exact ⟨_, rfl, trivial⟩
set_option maxRecDepth 100000 in
theorem s_X3_make_164  {x1 : Int32} {xs0 : Int32} {xs1 : Int64} {xs2 : Int64} {xs3 : Int32} (hx1 : Rg 0 1 x1) (hxs0 : Rg (-134217728) 134217727 xs0) (hxs3 : Rg 31 63 xs3) : wp (f_X3_make_164 x1 xs0 xs1 xs2 xs3) (fun q => True) := by
  unfold f_X3_make_164
  refine wp_pqs (s_X3_makeOther hxs0 hxs3) (fun r29 _ => ?_)
  exact s_X3_make_169 hx1
set_option maxRecDepth 100000 in
theorem s_X3_make_148  {x0 : Int32} {x1 : Int32} {x9 : Int64} {x11 : Int64} (hx0 : Rg (-134217728) 134217727 x0) (hx1 : Rg 0 1 x1) : wp (f_X3_make_148 x0 x1 x9 x11) (fun q => True) := by
  unfold f_X3_make_148
  refine wp_if (fun c_1 => ?_) (fun c_1 => ?_)
  ·
    have h_2 : Rg 0 0 _ := rg_eq1 hx1 rc_0 c_1 (by decide)
    exact s_X3_make_164 (rg_w h_2 (by decide)) hx0 (rg_w rc_31 (by decide))
  ·
    have h_3 : Rg 1 1 _ := rg_ne1 hx1 rc_0 c_1 (by decide)
    exact s_X3_make_164 (rg_w h_3 (by decide)) hx0 (rg_w rc_63 (by decide))
set_option maxRecDepth 100000 in
theorem s_X3_make_122  {x1 : Int32} {xs0 : Int64} (hx1 : Rg 0 1 x1) : wp (f_X3_make_122 x1 xs0) (fun q => True) := by
  unfold f_X3_make_122
  exact s_X3_make_169 hx1
set_option maxRecDepth 100000 in
theorem s_X3_make_102  {x0 : Int32} {x1 : Int32} {x9 : Int64} {x11 : Int64} {xs0 : Int64} (hx0 : Rg (-134217728) 134217727 x0) (hx1 : Rg 0 1 x1) : wp (f_X3_make_102 x0 x1 x9 x11 xs0) (fun q => True) := by
  unfold f_X3_make_102
  refine wp_if (fun c_1 => ?_) (fun c_1 => ?_)
  ·
    have h_2 : Rg 3 3 _ := rg_eq1 hx0 rc_3 c_1 (by decide)
    exact s_X3_make_122 hx1
  ·
    exact s_X3_make_122 hx1
set_option maxRecDepth 100000 in
theorem s_X3_make_73  {x0 : Int32} {x1 : Int32} {x2 : Int32} {x7 : Int32} {x8 : Int32} {x9 : Int64} {xs0 : Int64} (hx0 : Rg (-134217728) 134217727 x0) (hx1 : Rg 0 1 x1) (hx2 : Rg (-32768) 32767 x2) (hx7 : Rg 0 1 x7) (hx8 : Rg 0 1 x8) : wp (f_X3_make_73 x0 x1 x2 x7 x8 x9 xs0) (fun q => True) := by
  unfold f_X3_make_73
  refine wp_if (fun c_1 => ?_) (fun c_1 => ?_)
  ·
    have h_2 : Rg 0 0 _ := rg_eq1 hx7 rc_0 c_1 (by decide)
    refine wp_if (fun c_3 => ?_) (fun c_3 => ?_)
    ·
      have h_4 : Rg 11 11 _ := rg_eq1 hx0 rc_11 c_3 (by decide)
      refine wp_if (fun c_5 => ?_) (fun c_5 => ?_)
      ·
        have h_6 : Rg 0 0 _ := rg_eq1 hx2 rc_0 c_5 (by decide)
        exact s_X3_make_148 (rg_w h_4 (by decide)) hx1
      ·
        refine wp_pqs (s_X3_withSign hx2) (fun r36 _ => ?_)
        exact s_X3_make_169 hx1
    ·
      exact s_X3_make_148 hx0 hx1
  ·
    have h_7 : Rg 1 1 _ := rg_ne1 hx7 rc_0 c_1 (by decide)
    refine wp_if (fun c_8 => ?_) (fun c_8 => ?_)
    ·
      have h_9 : Rg 0 0 _ := rg_eq1 hx8 rc_0 c_8 (by decide)
      refine wp_pqs (s_X3_quotient ) (fun r39 _ => ?_)
      exact s_X3_make_102 hx0 hx1
    ·
      have h_10 : Rg 1 1 _ := rg_ne1 hx8 rc_0 c_8 (by decide)
      refine wp_pqs (s_X3_signedQuotient ) (fun r41 _ => ?_)
      exact s_X3_make_102 hx0 hx1
set_option maxRecDepth 100000 in
theorem s_X3_make_55  {x0 : Int32} {x1 : Int32} {x2 : Int32} {x5 : Int64} {x7 : Int32} {x8 : Int32} {xs0 : Int64} (hx0 : Rg (-134217728) 134217727 x0) (hx1 : Rg 0 1 x1) (hx2 : Rg (-32768) 32767 x2) (hx7 : Rg 0 1 x7) (hx8 : Rg 0 1 x8) : wp (f_X3_make_55 x0 x1 x2 x5 x7 x8 xs0) (fun q => True) := by
  unfold f_X3_make_55
  refine wp_if (fun c_1 => ?_) (fun c_1 => ?_)
  ·
    have h_2 : Rg 0 0 _ := rg_eq1 hx1 rc_0 c_1 (by decide)
    refine wp_pqs (s_X3_half hx8) (fun r44 h_r44 => ?_)
    exact s_X3_make_73 hx0 (rg_w h_2 (by decide)) hx2 hx7 hx8
  ·
    have h_3 : Rg 1 1 _ := rg_ne1 hx1 rc_0 c_1 (by decide)
    exact s_X3_make_73 hx0 (rg_w h_3 (by decide)) hx2 hx7 hx8
set_option maxRecDepth 100000 in
theorem s_X3_make_39  {x0 : Int32} {x1 : Int32} {x2 : Int32} {x3 : Int64} {x5 : Int64} {x7 : Int32} {xs0 : Int32} (hx0 : Rg (-134217728) 134217727 x0) (hx1 : Rg 0 1 x1) (hx2 : Rg (-32768) 32767 x2) (hx7 : Rg 0 1 x7) (hxs0 : Rg 0 1 xs0) : wp (f_X3_make_39 x0 x1 x2 x3 x5 x7 xs0) (fun q => True) := by
  unfold f_X3_make_39
  refine wp_if (fun c_1 => ?_) (fun c_1 => ?_)
  ·
    have h_2 : Rg 0 0 _ := rg_eq1 hx1 rc_0 c_1 (by decide)
    refine wp_pqs (s_X3_half hxs0) (fun r47 h_r47 => ?_)
    exact s_X3_make_55 hx0 (rg_w h_2 (by decide)) hx2 hx7 hxs0
  ·
    have h_3 : Rg 1 1 _ := rg_ne1 hx1 rc_0 c_1 (by decide)
    exact s_X3_make_55 hx0 (rg_w h_3 (by decide)) hx2 hx7 hxs0
set_option maxRecDepth 100000 in
theorem s_X3_make_34  {x0 : Int32} {x1 : Int32} {x2 : Int32} {x3 : Int64} {x5 : Int64} {x7 : Int32} (hx0 : Rg (-134217728) 134217727 x0) (hx1 : Rg 0 1 x1) (hx2 : Rg (-32768) 32767 x2) (hx7 : Rg 0 1 x7) : wp (f_X3_make_34 x0 x1 x2 x3 x5 x7) (fun q => True) := by
  unfold f_X3_make_34
  exact s_X3_make_39 hx0 hx1 hx2 hx7 (rg_w rc_1 (by decide))
set_option maxRecDepth 100000 in
theorem s_X3_make_38  {x0 : Int32} {x1 : Int32} {x2 : Int32} {x3 : Int64} {x5 : Int64} {x7 : Int32} (hx0 : Rg (-134217728) 134217727 x0) (hx1 : Rg 0 1 x1) (hx2 : Rg (-32768) 32767 x2) (hx7 : Rg 0 1 x7) : wp (f_X3_make_38 x0 x1 x2 x3 x5 x7) (fun q => True) := by
  unfold f_X3_make_38
  exact s_X3_make_39 hx0 hx1 hx2 hx7 (rg_w rc_0 (by decide))
set_option maxRecDepth 100000 in
theorem s_X3_make_16  {x0 : Int32} {x1 : Int32} {x2 : Int32} {x3 : Int64} {x5 : Int64} {xs0 : Int32} (hx0 : Rg (-134217728) 134217727 x0) (hx1 : Rg 0 1 x1) (hx2 : Rg (-32768) 32767 x2) (hxs0 : Rg 0 1 xs0) : wp (f_X3_make_16 x0 x1 x2 x3 x5 xs0) (fun q => True) := by
  unfold f_X3_make_16
  refine wp_if (fun c_1 => ?_) (fun c_1 => ?_)
  ·
    have h_2 : Rg 12 12 _ := rg_eq1 hx0 rc_12 c_1 (by decide)
    exact s_X3_make_34 (rg_w h_2 (by decide)) hx1 hx2 hxs0
  ·
    refine wp_if (fun c_3 => ?_) (fun c_3 => ?_)
    ·
      have h_4 : Rg 0 0 _ := rg_eq1 hxs0 rc_0 c_3 (by decide)
      exact s_X3_make_38 hx0 hx1 hx2 (rg_w h_4 (by decide))
    ·
      have h_5 : Rg 1 1 _ := rg_ne1 hxs0 rc_0 c_3 (by decide)
      refine wp_if (fun c_6 => ?_) (fun c_6 => ?_)
      ·
        have h_7 : Rg 1 1 _ := rg_eq1 hx2 rc_1 c_6 (by decide)
        exact s_X3_make_34 hx0 hx1 (rg_w h_7 (by decide)) (rg_w h_5 (by decide))
      ·
        exact s_X3_make_38 hx0 hx1 hx2 (rg_w h_5 (by decide))
set_option maxRecDepth 100000 in
theorem s_X3_make_11  {x0 : Int32} {x1 : Int32} {x2 : Int32} {x3 : Int64} {x5 : Int64} (hx0 : Rg 3 9 x0) (hx1 : Rg 0 1 x1) (hx2 : Rg (-32768) 32767 x2) : wp (f_X3_make_11 x0 x1 x2 x3 x5) (fun q => True) := by
  unfold f_X3_make_11
  exact s_X3_make_16 (rg_w hx0 (by decide)) hx1 hx2 (rg_w rc_1 (by decide))
set_option maxRecDepth 100000 in
theorem s_X3_make  {x0 : Int32} {x1 : Int32} {x2 : Int32} {x3 : Int64} {x5 : Int64} (hx0 : Rg (-134217728) 134217727 x0) (hx1 : Rg 0 1 x1) (hx2 : Rg (-32768) 32767 x2) : wp (f_X3_make x0 x1 x2 x3 x5) (fun q => True) := by
  unfold f_X3_make
  refine wp_if (fun c_1 => ?_) (fun c_1 => ?_)
  ·
    have h_2 : Rg 3 3 _ := rg_eq1 hx0 rc_3 c_1 (by decide)
    exact s_X3_make_11 (rg_w h_2 (by decide)) hx1 hx2
  ·
    refine wp_if (fun c_3 => ?_) (fun c_3 => ?_)
    ·
      have h_4 : Rg 9 9 _ := rg_eq1 hx0 rc_9 c_3 (by decide)
      exact s_X3_make_11 (rg_w h_4 (by decide)) hx1 hx2
    ·
      exact s_X3_make_16 hx0 hx1 hx2 (rg_w rc_0 (by decide))
set_option maxRecDepth 100000 in
theorem s_J7_fill_031fb_5 {g : gh} {S : sh}  : ∀ (n : Nat) (x1 : Int32) (x2 : Int32) (x3 : Int32) (D : dt), Rg 0 0 x1 → Rg 0 512 x2 → Rg 512 512 x3 → 512 - x2.toInt < (n : Int) → Inv g S D → wp (f_J7_fill_031fb_5 S n 9 x1 x2 x3 D) (fun q => Inv g S q.2) := by
  intro n
  induction n with
  | zero =>
    intro x1 x2 x3 D hx1 hx2 hx3 hm h
    exact (ms_0 hx2 (by decide) hm).elim
  | succ n ih =>
    intro x1 x2 x3 D hx1 hx2 hx3 hm h
    rw [f_J7_fill_031fb_5.eq_2]
    refine wp_if (fun c_1 => ?_) (fun c_1 => ?_)
    ·
      have h_2 : Rg 512 512 _ := rg_le2 hx3 hx2 c_1 (by decide)
      exact ⟨_, rfl, h⟩
    ·
      have h_3 : Rg 0 511 _ := rg_lt1 hx2 hx3 (nle32 c_1) (by decide)
      refine wp_ix (in_rg h_3 (iA_9 h) (by decide)) ?_
      refine wp_nmI (fun D9 e_D9 => ?_)
      have h_D9 : Inv g S D9 := by rw [e_D9]; exact inv_i9 h (rg_top _)
      refine wp_nmI (fun y10 e_y10 => ?_)
      have h_y10 : Rg 1 512 y10 := rg_eq e_y10 (rg_add h_3 rc_1 (by decide) : Rg 1 512 _)
      exact ih _ _ _ _ hx1 (rg_w h_y10 (by decide)) hx3 (by rw [e_y10]; exact ms_up h_3 (by decide) hm) h_D9
set_option maxRecDepth 100000 in
theorem s_J7_fill_031fb {g : gh} {S : sh}  {x1 : Int32} {D : dt} (hx1 : Rg 0 0 x1) (h : Inv g S D) : wp (f_J7_fill_031fb S 9 x1 D) (fun q => Inv g S q.2) := by
  unfold f_J7_fill_031fb
  refine wp_nmI (fun y11 e_y11 => ?_)
  have h_y11 : Rg 0 0 y11 := rg_eq e_y11 rc_0
  refine wp_nmI (fun y12 e_y12 => ?_)
  have h_y12 : Rg 512 512 y12 := rg_eq e_y12 (rg_len (iA_9 h) (by decide) : Rg 512 512 _)
  exact s_J7_fill_031fb_5  LF _ _ _ _ hx1 (rg_w h_y11 (by decide)) h_y12 (ms_in h_y11 (by decide)) h
theorem msb_xor32 {x : Int32} : 0 ≤ (x ^^^ 32) → 0 ≤ x.toInt := by
  intro h
  have h := Int32.le_iff_toInt_le.mp h
  have e : (x ^^^ 32).toInt = (x.toBitVec ^^^ 32#32).toInt := rfl
  have e0 : (0 : Int32).toInt = 0 := rfl
  rw [e0, e] at h
  have m : (x.toBitVec ^^^ 32#32).msb = false := by
    rw [BitVec.msb_eq_toInt]
    exact decide_eq_false (by omega)
  rw [BitVec.msb_xor, show (32#32 : BitVec 32).msb = false from rfl, Bool.xor_false, BitVec.msb_eq_toInt] at m
  have m := of_decide_eq_false m
  show 0 ≤ x.toBitVec.toInt
  omega
theorem msb_xor32' {x : Int32} : ¬ 0 ≤ (x ^^^ 32) → x.toInt < 0 := by
  intro h
  have h := Int32.lt_iff_toInt_lt.mp (nle32 h)
  have e : (x ^^^ 32).toInt = (x.toBitVec ^^^ 32#32).toInt := rfl
  have e0 : (0 : Int32).toInt = 0 := rfl
  rw [e0, e] at h
  have m : (x.toBitVec ^^^ 32#32).msb = true := by
    rw [BitVec.msb_eq_toInt]
    exact decide_eq_true (by omega)
  rw [BitVec.msb_xor, show (32#32 : BitVec 32).msb = false from rfl, Bool.xor_false, BitVec.msb_eq_toInt] at m
  have m := of_decide_eq_true m
  show x.toBitVec.toInt < 0
  omega
theorem tmod_s (x : Int) : (0 ≤ x → 0 ≤ x.tmod 32) ∧ (x ≤ 0 → x.tmod 32 ≤ 0) ∧ -32 < x.tmod 32 ∧ x.tmod 32 < 32 ∧ x.tdiv 32 * 32 + x.tmod 32 = x := by
  refine ⟨fun h => Int.tmod_nonneg 32 h, fun h => ?_, ?_, Int.tmod_lt_of_pos x (b := 32) (by decide), Int.tdiv_mul_add_tmod _ _⟩
  · have e : (-x).tmod 32 = -(x.tmod 32) := Int.neg_tmod _ _
    have w := Int.tmod_nonneg 32 (a := -x) (by omega)
    omega
  · have := Int.lt_tmod_of_pos x (b := 32) (by decide)
    omega
theorem rem32 (x : Int32) : (x - x / 32 * 32).toInt = x.toInt.tmod 32 := by
  have h1 := i32_lo x
  have h2 := i32_hi x
  obtain ⟨t1, t2, t3, t4, t5⟩ := tmod_s x.toInt
  have e32 : (32 : Int32).toInt = 32 := rfl
  have d : (x / 32).toInt = x.toInt.tdiv 32 := by
    rw [Int32.toInt_div, e32]
    exact bm32 (by omega) (by omega)
  have hm : -2147483648 ≤ x.toInt.tdiv 32 * 32 ∧ x.toInt.tdiv 32 * 32 ≤ 2147483647 := by
    rcases Int.le_total 0 x.toInt with q | q
    · have := t1 q
      omega
    · have := t2 q
      omega
  have m : (x / 32 * 32).toInt = x.toInt.tdiv 32 * 32 := by
    rw [Int32.toInt_mul, d, e32]
    exact bm32 hm.1 hm.2
  rw [Int32.toInt_sub, m, bm32 (by omega) (by omega)]
  omega
theorem s_J9_floorMod_7cf53 {x0 x1 : Int32} (hx1 : Rg 32 32 x1) : wp (f_J9_floorMod_7cf53 x0 x1) (fun q => Rg 0 31 q) := by
  obtain rfl : x1 = 32 := by
    apply Int32.toInt_inj.mp
    have : (32 : Int32).toInt = 32 := rfl
    unfold Rg at hx1
    omega
  unfold f_J9_floorMod_7cf53
  refine wp_ck (by decide) (wp_nmI (fun y ey => ?_))
  have e := rem32 x0
  rw [← ey] at e
  have b := Int.tmod_lt_of_pos x0.toInt (b := 32) (by decide)
  have b2 : -32 < x0.toInt.tmod 32 := by
    have := Int.lt_tmod_of_pos x0.toInt (b := 32) (by decide)
    omega
  refine wp_if (fun c => ?_) (fun c => wp_if (fun c2 => ?_) (fun c2 => ?_))
  · have := msb_xor32 c
    have := Int.tmod_nonneg 32 this
    refine ⟨_, rfl, ?_⟩
    unfold Rg
    omega
  · subst c2
    exact ⟨_, rfl, by unfold Rg; decide⟩
  · have n0 := msb_xor32' c
    have np : x0.toInt.tmod 32 ≤ 0 := by
      have : (-(x0.toInt)).tmod 32 = -(x0.toInt.tmod 32) := Int.neg_tmod _ _
      have w := Int.tmod_nonneg 32 (a := -(x0.toInt)) (by omega)
      omega
    have nz : y.toInt ≠ 0 := fun q => c2 (Int32.toInt_inj.mp q)
    have a : (y + 32).toInt = y.toInt + 32 := i32_add (a := -32) (b := 32) (c := 32) (d := 32) ⟨by omega, by omega⟩ (by decide) (by decide)
    refine ⟨_, rfl, ?_⟩
    unfold Rg
    omega
set_option maxRecDepth 100000 in
theorem s_X3_holdsSigned  {x0 : Int32} {x1 : Int64} {x3 : Int64} (hx0 : Rg 6 15 x0) : wp (f_X3_holdsSigned x0 x1 x3) (fun q => Rg 0 1 q) := by
  unfold f_X3_holdsSigned
  refine wp_if (fun c_1 => ?_) (fun c_1 => ?_)
  ·
    have h_2 : Rg 6 6 _ := rg_eq1 hx0 rc_6 c_1 (by decide)
    refine wp_if (fun c_3 => ?_) (fun c_3 => ?_)
    ·
      exact ⟨_, rfl, (rg_w rc_0 (by decide))⟩
    ·
      have h_4 : RgL (-9223372036854775808) 9223372036854775806 _ := rgl_lt1 (rgl_top _) (rgl_top _) (nle64 (fun q => c_3 ((lg_cmp_le _ _).mpr q))) (by decide)
      have h_5 : RgL (-9223372036854775807) 9223372036854775807 _ := rgl_lt2 (rgl_top _) (rgl_top _) (nle64 (fun q => c_3 ((lg_cmp_le _ _).mpr q))) (by decide)
      exact ⟨_, rfl, (rg_w rc_1 (by decide))⟩
  ·
    have h_6 : Rg 7 15 _ := rg_ne1 hx0 rc_6 c_1 (by decide)
    refine wp_if (fun c_7 => ?_) (fun c_7 => ?_)
    ·
      have h_8 : Rg 7 7 _ := rg_eq1 h_6 rc_7 c_7 (by decide)
      refine wp_if (fun c_9 => ?_) (fun c_9 => ?_)
      ·
        have h_10 : RgL (-9223372036854775808) 9223372036854775806 _ := rgl_lt1 (rgl_top _) (rgl_top _) ((lg_cmp_lt _ _).mp c_9) (by decide)
        have h_11 : RgL (-9223372036854775807) 9223372036854775807 _ := rgl_lt2 (rgl_top _) (rgl_top _) ((lg_cmp_lt _ _).mp c_9) (by decide)
        exact ⟨_, rfl, (rg_w rc_0 (by decide))⟩
      ·
        exact ⟨_, rfl, (rg_w rc_1 (by decide))⟩
    ·
      have h_12 : Rg 8 15 _ := rg_ne1 h_6 rc_7 c_7 (by decide)
      refine wp_if (fun c_13 => ?_) (fun c_13 => ?_)
      ·
        have h_14 : Rg 12 12 _ := rg_eq1 h_12 rc_12 c_13 (by decide)
        refine wp_if (fun c_15 => ?_) (fun c_15 => ?_)
        ·
          exact ⟨_, rfl, (rg_w rc_0 (by decide))⟩
        ·
          have h_16 : RgL (-9223372036854775808) 9223372036854775806 _ := rgl_lt1 (rgl_top _) (rgl_top _) (nle64 (fun q => c_15 ((lg_cmp_ge _ _).mpr q))) (by decide)
          have h_17 : RgL (-9223372036854775807) 9223372036854775807 _ := rgl_lt2 (rgl_top _) (rgl_top _) (nle64 (fun q => c_15 ((lg_cmp_ge _ _).mpr q))) (by decide)
          exact ⟨_, rfl, (rg_w rc_1 (by decide))⟩
      ·
        refine wp_if (fun c_18 => ?_) (fun c_18 => ?_)
        ·
          have h_19 : RgL (-9223372036854775808) 9223372036854775806 _ := rgl_lt1 (rgl_top _) (rgl_top _) ((lg_cmp_gt _ _).mp c_18) (by decide)
          have h_20 : RgL (-9223372036854775807) 9223372036854775807 _ := rgl_lt2 (rgl_top _) (rgl_top _) ((lg_cmp_gt _ _).mp c_18) (by decide)
          exact ⟨_, rfl, (rg_w rc_0 (by decide))⟩
        ·
          exact ⟨_, rfl, (rg_w rc_1 (by decide))⟩
set_option maxRecDepth 100000 in
theorem s_X3_holds_184  {x0 : Int32} {x1 : Int32} {x6 : Int64} {x8 : Int64} (hx0 : Rg 6 15 x0) (hx1 : Rg 0 1 x1) : wp (f_X3_holds_184 x0 x1 x6 x8) (fun q => Rg 0 1 q) := by
  unfold f_X3_holds_184
  refine wp_if (fun c_1 => ?_) (fun c_1 => ?_)
  ·
    have h_2 : Rg 0 0 _ := rg_eq1 hx1 rc_0 c_1 (by decide)
    refine wp_pqs (s_X3_holdsSigned hx0) (fun r38 h_r38 => ?_)
    refine wp_ck (rg_01 h_r38 (by decide)) ?_
    exact ⟨_, rfl, h_r38⟩
  ·
    have h_3 : Rg 1 1 _ := rg_ne1 hx1 rc_0 c_1 (by decide)
    refine wp_pqs (s_X3_holdsSigned hx0) (fun r41 h_r41 => ?_)
    refine wp_ck (rg_01 h_r41 (by decide)) ?_
    exact ⟨_, rfl, h_r41⟩
set_option maxRecDepth 100000 in
theorem s_X3_holds_30  {x0 : Int32} {x1 : Int32} {x6 : Int64} {xs0 : Int64} (hx0 : Rg 1 15 x0) (hx1 : Rg 0 1 x1) : wp (f_X3_holds_30 x0 x1 x6 xs0) (fun q => Rg 0 1 q) := by
  unfold f_X3_holds_30
  refine wp_if (fun c_1 => ?_) (fun c_1 => ?_)
  ·
    have h_2 : Rg 1 1 _ := rg_eq1 hx0 rc_1 c_1 (by decide)
    refine wp_if (fun c_3 => ?_) (fun c_3 => ?_)
    ·
      exact ⟨_, rfl, (rg_w rc_1 (by decide))⟩
    ·
      exact ⟨_, rfl, (rg_w rc_0 (by decide))⟩
  ·
    have h_4 : Rg 2 15 _ := rg_ne1 hx0 rc_1 c_1 (by decide)
    refine wp_if (fun c_5 => ?_) (fun c_5 => ?_)
    ·
      have h_6 : Rg 2 2 _ := rg_eq1 h_4 rc_2 c_5 (by decide)
      refine wp_pqs (s_X3_below ) (fun r47 h_r47 => ?_)
      refine wp_ck (rg_01 h_r47 (by decide)) ?_
      exact ⟨_, rfl, h_r47⟩
    ·
      have h_7 : Rg 3 15 _ := rg_ne1 h_4 rc_2 c_5 (by decide)
      refine wp_if (fun c_8 => ?_) (fun c_8 => ?_)
      ·
        have h_9 : Rg 3 3 _ := rg_eq1 h_7 rc_3 c_8 (by decide)
        refine wp_pqs (s_X3_below ) (fun r51 h_r51 => ?_)
        refine wp_if (fun c_10 => ?_) (fun c_10 => ?_)
        ·
          have h_11 : Rg 0 0 _ := rg_eq1 h_r51 rc_0 c_10 (by decide)
          exact ⟨_, rfl, (rg_w rc_1 (by decide))⟩
        ·
          have h_12 : Rg 1 1 _ := rg_ne1 h_r51 rc_0 c_10 (by decide)
          exact ⟨_, rfl, (rg_w rc_0 (by decide))⟩
      ·
        have h_13 : Rg 4 15 _ := rg_ne1 h_7 rc_3 c_8 (by decide)
        refine wp_if (fun c_14 => ?_) (fun c_14 => ?_)
        ·
          have h_15 : Rg 4 4 _ := rg_eq1 h_13 rc_4 c_14 (by decide)
          refine wp_if (fun c_16 => ?_) (fun c_16 => ?_)
          ·
            have h_17 : RgL 0 0 _ := rgl_eq1 (rgl_top _) rcl_0 ((lg_cmp_eq _ _).mp c_16) (by decide)
            exact ⟨_, rfl, (rg_w rc_0 (by decide))⟩
          ·
            exact ⟨_, rfl, (rg_w rc_1 (by decide))⟩
        ·
          have h_18 : Rg 5 15 _ := rg_ne1 h_13 rc_4 c_14 (by decide)
          refine wp_if (fun c_19 => ?_) (fun c_19 => ?_)
          ·
            have h_20 : Rg 5 5 _ := rg_eq1 h_18 rc_5 c_19 (by decide)
            refine wp_if (fun c_21 => ?_) (fun c_21 => ?_)
            ·
              exact ⟨_, rfl, (rg_w rc_0 (by decide))⟩
            ·
              exact ⟨_, rfl, (rg_w rc_1 (by decide))⟩
          ·
            have h_22 : Rg 6 15 _ := rg_ne1 h_18 rc_5 c_19 (by decide)
            refine wp_if (fun c_23 => ?_) (fun c_23 => ?_)
            ·
              have h_24 : Rg 6 6 _ := rg_eq1 h_22 rc_6 c_23 (by decide)
              exact s_X3_holds_184 (rg_w h_24 (by decide)) hx1
            ·
              have h_25 : Rg 7 15 _ := rg_ne1 h_22 rc_6 c_23 (by decide)
              refine wp_if (fun c_26 => ?_) (fun c_26 => ?_)
              ·
                have h_27 : Rg 7 7 _ := rg_eq1 h_25 rc_7 c_26 (by decide)
                exact s_X3_holds_184 (rg_w h_27 (by decide)) hx1
              ·
                have h_28 : Rg 8 15 _ := rg_ne1 h_25 rc_7 c_26 (by decide)
                refine wp_if (fun c_29 => ?_) (fun c_29 => ?_)
                ·
                  have h_30 : Rg 8 8 _ := rg_eq1 h_28 rc_8 c_29 (by decide)
                  exact s_X3_holds_184 (rg_w h_30 (by decide)) hx1
                ·
                  have h_31 : Rg 9 15 _ := rg_ne1 h_28 rc_8 c_29 (by decide)
                  refine wp_if (fun c_32 => ?_) (fun c_32 => ?_)
                  ·
                    have h_33 : Rg 9 9 _ := rg_eq1 h_31 rc_9 c_32 (by decide)
                    exact s_X3_holds_184 (rg_w h_33 (by decide)) hx1
                  ·
                    have h_34 : Rg 10 15 _ := rg_ne1 h_31 rc_9 c_32 (by decide)
                    refine wp_if (fun c_35 => ?_) (fun c_35 => ?_)
                    ·
                      have h_36 : Rg 10 10 _ := rg_eq1 h_34 rc_10 c_35 (by decide)
                      refine wp_pqs (s_X3_below ) (fun r63 h_r63 => ?_)
                      refine wp_ck (rg_01 h_r63 (by decide)) ?_
                      exact ⟨_, rfl, h_r63⟩
                    ·
                      have h_37 : Rg 11 15 _ := rg_ne1 h_34 rc_10 c_35 (by decide)
                      refine wp_if (fun c_38 => ?_) (fun c_38 => ?_)
                      ·
                        have h_39 : Rg 11 11 _ := rg_eq1 h_37 rc_11 c_38 (by decide)
                        refine wp_pqs (s_X3_below ) (fun r67 h_r67 => ?_)
                        refine wp_if (fun c_40 => ?_) (fun c_40 => ?_)
                        ·
                          have h_41 : Rg 0 0 _ := rg_eq1 h_r67 rc_0 c_40 (by decide)
                          exact ⟨_, rfl, (rg_w rc_1 (by decide))⟩
                        ·
                          have h_42 : Rg 1 1 _ := rg_ne1 h_r67 rc_0 c_40 (by decide)
                          exact ⟨_, rfl, (rg_w rc_0 (by decide))⟩
                      ·
                        have h_43 : Rg 12 15 _ := rg_ne1 h_37 rc_11 c_38 (by decide)
                        exact s_X3_holds_184 (rg_w h_43 (by decide)) hx1
set_option maxRecDepth 100000 in
theorem s_X3_holds_13  {x0 : Int32} {x1 : Int32} {x4 : Int64} {xs0 : Int64} (hx0 : Rg 1 15 x0) (hx1 : Rg 0 1 x1) : wp (f_X3_holds_13 x0 x1 x4 xs0) (fun q => Rg 0 1 q) := by
  unfold f_X3_holds_13
  refine wp_if (fun c_1 => ?_) (fun c_1 => ?_)
  ·
    have h_2 : Rg 0 0 _ := rg_eq1 hx1 rc_0 c_1 (by decide)
    exact s_X3_holds_30 hx0 (rg_w h_2 (by decide))
  ·
    have h_3 : Rg 1 1 _ := rg_ne1 hx1 rc_0 c_1 (by decide)
    exact s_X3_holds_30 hx0 (rg_w h_3 (by decide))
set_option maxRecDepth 100000 in
theorem s_X3_holds  {x0 : Int32} {x1 : Int32} {x2 : Int64} {x4 : Int64} (hx0 : Rg 1 15 x0) (hx1 : Rg 0 1 x1) : wp (f_X3_holds x0 x1 x2 x4) (fun q => Rg 0 1 q) := by
  unfold f_X3_holds
  refine wp_if (fun c_1 => ?_) (fun c_1 => ?_)
  ·
    have h_2 : Rg 0 0 _ := rg_eq1 hx1 rc_0 c_1 (by decide)
    exact s_X3_holds_13 hx0 (rg_w h_2 (by decide))
  ·
    have h_3 : Rg 1 1 _ := rg_ne1 hx1 rc_0 c_1 (by decide)
    exact s_X3_holds_13 hx0 (rg_w h_3 (by decide))
set_option maxRecDepth 100000 in
theorem s_X4_has {g : gh} {S : sh} {D : dt}  {x1 : Int32}  (h : Inv g S D) : wp (f_X4_has S D 1 x1) (fun q => Rg 0 1 q ∧ (q ≠ 0 → Rg 0 199 x1)) := by
  unfold f_X4_has
  refine wp_if (fun c_1 => ?_) (fun c_1 => ?_)
  ·
    have h_2 : Rg (-2147483648) (-1) _ := rg_lt1 (rg_top _) rc_0 c_1 (by decide)
    exact ⟨_, rfl, (rg_w rc_0 (by decide)), (fun ne => absurd rfl ne)⟩
  ·
    have h_3 : Rg 0 2147483647 _ := rg_le2 rc_0 (rg_top _) (nlt32 c_1) (by decide)
    refine wp_if (fun c_4 => ?_) (fun c_4 => ?_)
    ·
      exact ⟨_, rfl, (rg_w rc_0 (by decide)), (fun ne => absurd rfl ne)⟩
    ·
      have h_5 : Rg 0 199 _ := rg_lt1 h_3 (iF_1_5 h) (nle32 c_4) (by decide)
      have h_6 : Rg 1 200 _ := rg_lt2 h_3 (iF_1_5 h) (nle32 c_4) (by decide)
      exact ⟨_, rfl, (rg_w rc_1 (by decide)), (fun _ => h_5)⟩
/-- the ghosts after a write of a slot's row -/
def upP (g : gh) (o j : Nat) (v : Int32) : gh := (g.1, fun a b => if a = o ∧ b = j then v else g.2 a b)
theorem inv_pP {g : gh} {S : sh} {D : dt} {o j : Nat} {v : Int32} (h : Inv g S D) (ho : isP o = true) (hv : Rg (bI g o j).1 (bI g o j).2 v) : Inv (upP g o j v) S (pI D o j v) := by
  have lt : (2 ≤ o ∧ o ≤ 6) ∨ (29 ≤ o ∧ o ≤ 33) := by
    unfold isP at ho
    simp only [Bool.or_eq_true, Bool.and_eq_true] at ho
    rcases ho with ⟨x, y⟩ | ⟨x, y⟩
    · exact Or.inl ⟨Nat.le_of_ble_eq_true x, Nat.le_of_ble_eq_true y⟩
    · exact Or.inr ⟨Nat.le_of_ble_eq_true x, Nat.le_of_ble_eq_true y⟩
  have lt66 : o < 66 := by omega
  have e : ∀ a b, a ≠ o → gI (pI D o j v) a b = gI D a b := fun a b n => by rw [gI_pI, if_neg (fun q => n q.1)]
  obtain ⟨a1, a2, a3, a4, a5, a6, a7, a8, a9, a10, a11⟩ := id h
  refine ⟨a1, fun a b ha => ?_, a3, a4, fun a k => ?_, fun a k => ?_, a7, fun a b ha => ?_, a9, ⟨fun b => ?_, fun b => ?_, fun b => ?_, ?_⟩, fun hz => ?_⟩
  · show Rg (bI g a b).1 (bI g a b).2 _
    rw [gI_pI]
    split
    · rename_i q
      obtain ⟨rfl, rfl⟩ := q
      exact hv
    · exact a2 a b ha
  · have n : a ≠ o := by
      rintro rfl
      exact tb_ne h lt66 k
    simp only [e a _ n]
    exact a5 a k
  · have n : a + 1 ≠ o := sc_ne h k lt66 (by omega) (by omega)
    refine ⟨(a6 a k).1, fun p hp => ?_⟩
    rw [e (a + 1) p n]
    exact (a6 a k).2 p hp
  · show gI (pI D o j v) a b = if a = o ∧ b = j then v else g.2 a b
    rw [gI_pI]
    split
    · rfl
    · exact a8 a b ha
  · rw [e 60 b (by omega)]
    exact a10.1 b
  · rw [e 49 b (by omega)]
    exact a10.2.1 b
  · rw [e 55 b (by omega)]
    exact a10.2.2.1 b
  · rw [e 28 47 (by omega)]
    exact a10.2.2.2
  · obtain ⟨f1, f2, f3, f4, f5, f6⟩ := a11 hz
    have u : ∀ x y, x ≠ o → (upP g o j v).2 x y = g.2 x y := fun x y n => by
      show (if x = o ∧ y = j then v else g.2 x y) = g.2 x y
      rw [if_neg (fun q => n q.1)]
    refine ⟨?_, ?_, f3, f4, fun b q => ?_, ?_⟩
    · rw [e 14 8 (by omega), u 14 8 (by omega)]
      exact f1
    · rw [e 14 10 (by omega), u 14 10 (by omega)]
      exact f2
    · rw [u 60 b (by omega)]
      rw [e 60 b (by omega)] at q
      exact f5 b q
    · rw [e 28 53 (by omega), u 28 53 (by omega)]
      exact f6
/-- the same ghosts but for the programs' rows -/
def Gs (g g' : gh) : Prop := g'.1 = g.1
theorem q_write4 {g : gh} {S : sh} {x1 x2 x3 x4 x5 : Int32} {D : dt} (hx1 : Rg 0 199 x1) (hx2 : Rg 0 255 x2) (hx4 : Rg (-32768) 32767 x4) (h : Inv g S D) : wp (f_X4_write S 1 x1 x2 x3 x4 x5 D) (fun q => ∃ g', Inv g' S q.2 ∧ Gs g g') := by
  unfold f_X4_write
  have i : ∀ {o : Nat}, sA S o = 200 → vp_in x1 (sA S o) := fun e => in_rg hx1 e (by decide)
  refine wp_pqs (s_X4_has h) (fun r _ => wp_if (fun _ => ⟨_, rfl, g, h, rfl⟩) (fun _ => ?_))
  refine wp_rq (iR_1_0 h) (wp_ix (i (iA_2 h)) (wp_nmI (fun D1 e1 => ?_)))
  have h1 : Inv (upP g 2 x1.toNatClampNeg x2) S D1 := by rw [e1]; exact inv_pP h rfl hx2
  refine wp_rq (iR_1_1 h1) (wp_ix (i (iA_3 h)) (wp_nmI (fun D2 e2 => ?_)))
  have h2 : Inv (upP (upP g 2 x1.toNatClampNeg x2) 3 x1.toNatClampNeg (x3 &&& 15)) S D2 := by rw [e2]; exact inv_pP h1 rfl (rg_andr (l := 0) (h := 15) _ (by decide))
  refine wp_rq (iR_1_2 h2) (wp_ix (i (iA_4 h)) (wp_nmI (fun D3 e3 => ?_)))
  have h3 : Inv (upP (upP (upP g 2 x1.toNatClampNeg x2) 3 x1.toNatClampNeg (x3 &&& 15)) 4 x1.toNatClampNeg ((x3 >>> ((4 : Int32) &&& 31)) &&& 15)) S D3 := by rw [e3]; exact inv_pP h2 rfl (rg_andr (l := 0) (h := 15) _ (by decide))
  refine wp_rq (iR_1_3 h3) (wp_ix (i (iA_5 h)) (wp_nmI (fun D4 e4 => ?_)))
  have h4 : Inv (upP (upP (upP (upP g 2 x1.toNatClampNeg x2) 3 x1.toNatClampNeg (x3 &&& 15)) 4 x1.toNatClampNeg ((x3 >>> ((4 : Int32) &&& 31)) &&& 15)) 5 x1.toNatClampNeg x4) S D4 := by rw [e4]; exact inv_pP h3 rfl hx4
  refine wp_rq (iR_1_4 h4) (wp_ix (i (iA_6 h)) (wp_nmI (fun D5 e5 => ⟨_, rfl, upP (upP (upP (upP (upP g 2 x1.toNatClampNeg x2) 3 x1.toNatClampNeg (x3 &&& 15)) 4 x1.toNatClampNeg ((x3 >>> ((4 : Int32) &&& 31)) &&& 15)) 5 x1.toNatClampNeg x4) 6 x1.toNatClampNeg x5, ?_, rfl⟩)))
  show Inv _ S D5
  rw [e5]
  exact inv_pP h4 rfl (rg_top _)
set_option maxRecDepth 100000 in
theorem s_X4_isBadPair_122 {g : gh} {S : sh} {D : dt}    (h : Inv g S D) : wp (f_X4_isBadPair_122 S D) (fun q => Rg 0 1 q) := by
  unfold f_X4_isBadPair_122
  exact ⟨_, rfl, (rg_w rc_1 (by decide))⟩
set_option maxRecDepth 100000 in
theorem s_X4_isBadPair_98 {g : gh} {S : sh} {D : dt}  {x1 : Int32} {x2 : Int32} {xs0 : Int32} (hx1 : Rg 0 199 x1) (hx2 : Rg 1 199 x2) (hxs0 : Rg 0 1 xs0) (h3_x1 : Rg 0 9 (g.2 3 x1.toNatClampNeg)) (h4_x1 : Rg 0 1 (g.2 4 x1.toNatClampNeg)) (h : Inv g S D) : wp (f_X4_isBadPair_98 S D 1 x1 x2 xs0) (fun q => Rg 0 1 q) := by
  unfold f_X4_isBadPair_98
  refine wp_if (fun c_1 => ?_) (fun c_1 => ?_)
  ·
    have h_2 : Rg 0 0 _ := rg_eq1 hxs0 rc_0 c_1 (by decide)
    exact s_X4_isBadPair_122 h
  ·
    have h_3 : Rg 1 1 _ := rg_ne1 hxs0 rc_0 c_1 (by decide)
    refine wp_rq (iR_1_2 h) ?_
    refine wp_ix (in_rg hx1 (iA_4 h) (by decide)) ?_
    refine wp_if (fun c_4 => ?_) (fun c_4 => ?_)
    ·
      have h_5 : Rg 1 1 _ := rg_eq1 (rg_eq (h.p 4 _ rfl) h4_x1) rc_1 c_4 (by decide)
      refine wp_rq (iR_1_4 h) ?_
      refine wp_ix (in_rg hx2 (iA_6 h) (by decide)) ?_
      refine wp_if (fun c_6 => ?_) (fun c_6 => ?_)
      ·
        have h_7 : Rg 0 0 _ := rg_eq1 (rg_top _) rc_0 c_6 (by decide)
        exact ⟨_, rfl, (rg_w rc_0 (by decide))⟩
      ·
        exact s_X4_isBadPair_122 h
    ·
      have h_8 : Rg 0 0 _ := rg_ne1 (rg_eq (h.p 4 _ rfl) h4_x1) rc_1 c_4 (by decide)
      exact ⟨_, rfl, (rg_w rc_0 (by decide))⟩
set_option maxRecDepth 100000 in
theorem s_X4_isBadPair_97 {g : gh} {S : sh} {D : dt}  {x1 : Int32} {x2 : Int32} (hx1 : Rg 0 199 x1) (hx2 : Rg 1 199 x2) (h3_x1 : Rg 0 9 (g.2 3 x1.toNatClampNeg)) (h4_x1 : Rg 0 1 (g.2 4 x1.toNatClampNeg)) (h : Inv g S D) : wp (f_X4_isBadPair_97 S D 1 x1 x2) (fun q => Rg 0 1 q) := by
  unfold f_X4_isBadPair_97
  exact s_X4_isBadPair_98 hx1 hx2 (rg_w rc_0 (by decide)) h3_x1 h4_x1 h
set_option maxRecDepth 100000 in
theorem s_X4_isBadPair {g : gh} {S : sh} {D : dt}  {x1 : Int32} (hx1 : Rg 0 199 x1) (h3_x1 : Rg 0 10 (g.2 3 x1.toNatClampNeg)) (h4_x1 : Rg 0 10 (g.2 4 x1.toNatClampNeg)) (h : Inv g S D) : wp (f_X4_isBadPair S D 1 x1) (fun q => Rg 0 1 q) := by
  unfold f_X4_isBadPair
  refine wp_rq (iR_1_0 h) ?_
  refine wp_ix (in_rg hx1 (iA_2 h) (by decide)) ?_
  refine wp_if (fun c_1 => ?_) (fun c_1 => ?_)
  ·
    have h_2 : Rg 24 24 _ := rg_eq1 (iI_2 h _) rc_24 c_1 (by decide)
    refine wp_rq (iR_1_1 h) ?_
    refine wp_ix (in_rg hx1 (iA_3 h) (by decide)) ?_
    refine wp_if (fun c_3 => ?_) (fun c_3 => ?_)
    ·
      have h_4 : Rg 10 10 _ := rg_le2 rc_10 (rg_eq (h.p 3 _ rfl) h3_x1) c_3 (by decide)
      exact ⟨_, rfl, (rg_w rc_1 (by decide))⟩
    ·
      have h_5 : Rg 0 9 _ := rg_lt1 (rg_eq (h.p 3 _ rfl) h3_x1) rc_10 (nle32 c_3) (by decide)
      refine wp_rq (iR_1_2 h) ?_
      refine wp_ix (in_rg hx1 (iA_4 h) (by decide)) ?_
      refine wp_if (fun c_6 => ?_) (fun c_6 => ?_)
      ·
        have h_7 : Rg 2 10 _ := rg_lt2 rc_1 (rg_eq (h.p 4 _ rfl) h4_x1) c_6 (by decide)
        exact ⟨_, rfl, (rg_w rc_1 (by decide))⟩
      ·
        have h_8 : Rg 0 1 _ := rg_le1 (rg_eq (h.p 4 _ rfl) h4_x1) rc_1 (nlt32 c_6) (by decide)
        refine wp_rq (iR_1_3 h) ?_
        refine wp_ix (in_rg hx1 (iA_5 h) (by decide)) ?_
        refine wp_if (fun c_9 => ?_) (fun c_9 => ?_)
        ·
          have h_10 : Rg 0 0 _ := rg_eq1 (iI_5 h _) rc_0 c_9 (by decide)
          refine wp_nmI (fun y103 e_y103 => ?_)
          have h_y103 : Rg 1 200 y103 := rg_eq e_y103 (rg_add hx1 rc_1 (by decide) : Rg 1 200 _)
          refine wp_pqs (s_X4_has h) (fun r105 q_r105 => ?_)
          obtain ⟨h_r105, x_r105⟩ := q_r105
          refine wp_if (fun c_11 => ?_) (fun c_11 => ?_)
          ·
            have h_12 : Rg 0 0 _ := rg_eq1 h_r105 rc_0 c_11 (by decide)
            exact ⟨_, rfl, (rg_w rc_0 (by decide))⟩
          ·
            have h_13 := x_r105 c_11
            have h_14 : Rg 1 199 _ := rg_eq1 h_13 h_y103 rfl (by decide)
            have h_15 : Rg 1 1 _ := rg_ne1 h_r105 rc_0 c_11 (by decide)
            refine wp_rq (iR_1_0 h) ?_
            refine wp_ix (in_rg h_14 (iA_2 h) (by decide)) ?_
            refine wp_if (fun c_16 => ?_) (fun c_16 => ?_)
            ·
              have h_17 : Rg 0 0 _ := rg_eq1 (iI_2 h _) rc_0 c_16 (by decide)
              refine wp_rq (iR_1_1 h) ?_
              refine wp_ix (in_rg h_14 (iA_3 h) (by decide)) ?_
              refine wp_if (fun c_18 => ?_) (fun c_18 => ?_)
              ·
                have h_19 : Rg 0 0 _ := rg_eq1 (iI_3 h _) rc_0 c_18 (by decide)
                refine wp_rq (iR_1_2 h) ?_
                refine wp_ix (in_rg h_14 (iA_4 h) (by decide)) ?_
                refine wp_if (fun c_20 => ?_) (fun c_20 => ?_)
                ·
                  have h_21 : Rg 0 0 _ := rg_eq1 (iI_4 h _) rc_0 c_20 (by decide)
                  refine wp_rq (iR_1_3 h) ?_
                  refine wp_ix (in_rg h_14 (iA_5 h) (by decide)) ?_
                  refine wp_if (fun c_22 => ?_) (fun c_22 => ?_)
                  ·
                    have h_23 : Rg 0 0 _ := rg_eq1 (iI_5 h _) rc_0 c_22 (by decide)
                    exact s_X4_isBadPair_98 hx1 h_14 (rg_w rc_1 (by decide)) (rg_eq (h.p 3 _ rfl).symm h_5) (rg_eq (h.p 4 _ rfl).symm h_8) h
                  ·
                    exact s_X4_isBadPair_97 hx1 h_14 (rg_eq (h.p 3 _ rfl).symm h_5) (rg_eq (h.p 4 _ rfl).symm h_8) h
                ·
                  have h_24 : Rg 1 15 _ := rg_ne1 (iI_4 h _) rc_0 c_20 (by decide)
                  exact s_X4_isBadPair_97 hx1 h_14 (rg_eq (h.p 3 _ rfl).symm h_5) (rg_eq (h.p 4 _ rfl).symm h_8) h
              ·
                have h_25 : Rg 1 15 _ := rg_ne1 (iI_3 h _) rc_0 c_18 (by decide)
                exact s_X4_isBadPair_97 hx1 h_14 (rg_eq (h.p 3 _ rfl).symm h_5) (rg_eq (h.p 4 _ rfl).symm h_8) h
            ·
              have h_26 : Rg 1 255 _ := rg_ne1 (iI_2 h _) rc_0 c_16 (by decide)
              exact s_X4_isBadPair_97 hx1 h_14 (rg_eq (h.p 3 _ rfl).symm h_5) (rg_eq (h.p 4 _ rfl).symm h_8) h
        ·
          exact ⟨_, rfl, (rg_w rc_1 (by decide))⟩
  ·
    exact ⟨_, rfl, (rg_w rc_1 (by decide))⟩
set_option maxRecDepth 100000 in
theorem s_X4_isSignedLoad {g : gh} {S : sh} {D : dt}  {x1 : Int32} (hx1 : Rg 0 199 x1) (h : Inv g S D) : wp (f_X4_isSignedLoad S D 1 x1) (fun q => Rg 0 1 q) := by
  unfold f_X4_isSignedLoad
  refine wp_rq (iR_1_0 h) ?_
  refine wp_ix (in_rg hx1 (iA_2 h) (by decide)) ?_
  refine wp_if (fun c_1 => ?_) (fun c_1 => ?_)
  ·
    have h_2 : Rg 129 129 _ := rg_eq1 (rg_top _) rc_129 c_1 (by decide)
    exact ⟨_, rfl, (rg_w rc_1 (by decide))⟩
  ·
    exact ⟨_, rfl, (rg_w rc_0 (by decide))⟩
set_option maxRecDepth 100000 in
theorem s_X4_width {g : gh} {S : sh} {D : dt}  {x1 : Int32} (hx1 : Rg 0 199 x1) (h : Inv g S D) : wp (f_X4_width S D 1 x1) (fun q => Rg 1 8 q) := by
  unfold f_X4_width
  refine wp_rq (iR_1_0 h) ?_
  refine wp_ix (in_rg hx1 (iA_2 h) (by decide)) ?_
  refine wp_if (fun c_1 => ?_) (fun c_1 => ?_)
  ·
    have h_2 : Rg 0 0 _ := rg_eq1 (rg_top _) rc_0 c_1 (by decide)
    exact ⟨_, rfl, (rg_w rc_4 (by decide))⟩
  ·
    refine wp_if (fun c_3 => ?_) (fun c_3 => ?_)
    ·
      have h_4 : Rg 8 8 _ := rg_eq1 (rg_top _) rc_8 c_3 (by decide)
      exact ⟨_, rfl, (rg_w rc_2 (by decide))⟩
    ·
      refine wp_if (fun c_5 => ?_) (fun c_5 => ?_)
      ·
        have h_6 : Rg 16 16 _ := rg_eq1 (rg_top _) rc_16 c_5 (by decide)
        exact ⟨_, rfl, (rg_w rc_1 (by decide))⟩
      ·
        exact ⟨_, rfl, (rg_w rc_8 (by decide))⟩
set_option maxRecDepth 100000 in
theorem s_X4_isBadLoad_72 {g : gh} {S : sh} {D : dt}    (h : Inv g S D) : wp (f_X4_isBadLoad_72 S D) (fun q => Rg 0 1 q) := by
  unfold f_X4_isBadLoad_72
  exact ⟨_, rfl, (rg_w rc_1 (by decide))⟩
set_option maxRecDepth 100000 in
theorem s_X4_isBadLoad_52 {g : gh} {S : sh} {D : dt}  {x1 : Int32} (hx1 : Rg 0 199 x1) (h3_x1 : Rg 0 10 (g.2 3 x1.toNatClampNeg)) (h4_x1 : Rg 0 10 (g.2 4 x1.toNatClampNeg)) (h : Inv g S D) : wp (f_X4_isBadLoad_52 S D 1 x1) (fun q => Rg 0 1 q) := by
  unfold f_X4_isBadLoad_52
  refine wp_rq (iR_1_4 h) ?_
  refine wp_ix (in_rg hx1 (iA_6 h) (by decide)) ?_
  refine wp_if (fun c_1 => ?_) (fun c_1 => ?_)
  ·
    have h_2 : Rg 0 0 _ := rg_eq1 (rg_top _) rc_0 c_1 (by decide)
    refine wp_rq (iR_1_1 h) ?_
    refine wp_ix (in_rg hx1 (iA_3 h) (by decide)) ?_
    refine wp_if (fun c_3 => ?_) (fun c_3 => ?_)
    ·
      have h_4 : Rg 0 9 _ := rg_lt1 (rg_eq (h.p 3 _ rfl) h3_x1) rc_10 c_3 (by decide)
      exact ⟨_, rfl, (rg_w rc_0 (by decide))⟩
    ·
      have h_5 : Rg 10 10 _ := rg_le2 rc_10 (rg_eq (h.p 3 _ rfl) h3_x1) (nlt32 c_3) (by decide)
      exact s_X4_isBadLoad_72 h
  ·
    exact s_X4_isBadLoad_72 h
set_option maxRecDepth 100000 in
theorem s_X4_isBadLoad_43 {g : gh} {S : sh} {D : dt}  {x1 : Int32} {x2 : Int32} {xs0 : Int32} (hx1 : Rg 0 199 x1) (hx2 : Rg 0 1 x2) (hxs0 : Rg 0 1 xs0) (h3_x1 : Rg 0 10 (g.2 3 x1.toNatClampNeg)) (h4_x1 : Rg 0 10 (g.2 4 x1.toNatClampNeg)) (h : Inv g S D) : wp (f_X4_isBadLoad_43 S D 1 x1 x2 xs0) (fun q => Rg 0 1 q) := by
  unfold f_X4_isBadLoad_43
  refine wp_if (fun c_1 => ?_) (fun c_1 => ?_)
  ·
    have h_2 : Rg 0 0 _ := rg_eq1 hx2 rc_0 c_1 (by decide)
    refine wp_if (fun c_3 => ?_) (fun c_3 => ?_)
    ·
      have h_4 : Rg 0 0 _ := rg_eq1 hxs0 rc_0 c_3 (by decide)
      exact s_X4_isBadLoad_72 h
    ·
      have h_5 : Rg 1 1 _ := rg_ne1 hxs0 rc_0 c_3 (by decide)
      exact s_X4_isBadLoad_52 hx1 h3_x1 h4_x1 h
  ·
    have h_6 : Rg 1 1 _ := rg_ne1 hx2 rc_0 c_1 (by decide)
    exact s_X4_isBadLoad_52 hx1 h3_x1 h4_x1 h
set_option maxRecDepth 100000 in
theorem s_X4_isBadLoad_42 {g : gh} {S : sh} {D : dt}  {x1 : Int32} {x2 : Int32} (hx1 : Rg 0 199 x1) (hx2 : Rg 0 1 x2) (h3_x1 : Rg 0 10 (g.2 3 x1.toNatClampNeg)) (h4_x1 : Rg 0 10 (g.2 4 x1.toNatClampNeg)) (h : Inv g S D) : wp (f_X4_isBadLoad_42 S D 1 x1 x2) (fun q => Rg 0 1 q) := by
  unfold f_X4_isBadLoad_42
  exact s_X4_isBadLoad_43 hx1 hx2 (rg_w rc_0 (by decide)) h3_x1 h4_x1 h
set_option maxRecDepth 100000 in
theorem s_X4_isBadLoad_19 {g : gh} {S : sh} {D : dt}  {x1 : Int32} {xs0 : Int32} (hx1 : Rg 0 199 x1) (hxs0 : Rg 0 1 xs0) (h3_x1 : Rg 0 10 (g.2 3 x1.toNatClampNeg)) (h4_x1 : Rg 0 10 (g.2 4 x1.toNatClampNeg)) (h : Inv g S D) : wp (f_X4_isBadLoad_19 S D 1 x1 xs0) (fun q => Rg 0 1 q) := by
  unfold f_X4_isBadLoad_19
  refine wp_pqs (s_X4_isSignedLoad hx1 h) (fun r42 h_r42 => ?_)
  refine wp_if (fun c_1 => ?_) (fun c_1 => ?_)
  ·
    have h_2 : Rg 0 0 _ := rg_eq1 h_r42 rc_0 c_1 (by decide)
    exact s_X4_isBadLoad_42 hx1 hxs0 h3_x1 h4_x1 h
  ·
    have h_3 : Rg 1 1 _ := rg_ne1 h_r42 rc_0 c_1 (by decide)
    refine wp_pqs (s_X4_width hx1 h) (fun r45 h_r45 => ?_)
    refine wp_if (fun c_4 => ?_) (fun c_4 => ?_)
    ·
      have h_5 : Rg 8 8 _ := rg_eq1 h_r45 rc_8 c_4 (by decide)
      exact s_X4_isBadLoad_42 hx1 hxs0 h3_x1 h4_x1 h
    ·
      have h_6 : Rg 1 7 _ := rg_ne1 h_r45 rc_8 c_4 (by decide)
      exact s_X4_isBadLoad_43 hx1 hxs0 (rg_w rc_1 (by decide)) h3_x1 h4_x1 h
set_option maxRecDepth 100000 in
theorem s_X4_isBadLoad {g : gh} {S : sh} {D : dt}  {x1 : Int32} (hx1 : Rg 0 199 x1) (h3_x1 : Rg 0 10 (g.2 3 x1.toNatClampNeg)) (h4_x1 : Rg 0 10 (g.2 4 x1.toNatClampNeg)) (h : Inv g S D) : wp (f_X4_isBadLoad S D 1 x1) (fun q => Rg 0 1 q) := by
  unfold f_X4_isBadLoad
  refine wp_rq (iR_1_0 h) ?_
  refine wp_ix (in_rg hx1 (iA_2 h) (by decide)) ?_
  refine wp_if (fun c_1 => ?_) (fun c_1 => ?_)
  ·
    have h_2 : Rg 97 97 _ := rg_eq1 (rg_top _) rc_97 c_1 (by decide)
    exact s_X4_isBadLoad_19 hx1 (rg_w rc_1 (by decide)) h3_x1 h4_x1 h
  ·
    exact s_X4_isBadLoad_19 hx1 (rg_w rc_0 (by decide)) h3_x1 h4_x1 h
set_option maxRecDepth 100000 in
theorem s_X4_isBadChange  {x0 : Int32}  : wp (f_X4_isBadChange x0) (fun q => Rg 0 1 q) := by
  unfold f_X4_isBadChange
  refine wp_if (fun c_1 => ?_) (fun c_1 => ?_)
  ·
    have h_2 : Rg 0 0 _ := rg_eq1 (rg_top _) rc_0 c_1 (by decide)
    exact ⟨_, rfl, (rg_w rc_0 (by decide))⟩
  ·
    refine wp_if (fun c_3 => ?_) (fun c_3 => ?_)
    ·
      have h_4 : Rg 1 1 _ := rg_eq1 (rg_top _) rc_1 c_3 (by decide)
      exact ⟨_, rfl, (rg_w rc_0 (by decide))⟩
    ·
      refine wp_if (fun c_5 => ?_) (fun c_5 => ?_)
      ·
        have h_6 : Rg 64 64 _ := rg_eq1 (rg_top _) rc_64 c_5 (by decide)
        exact ⟨_, rfl, (rg_w rc_0 (by decide))⟩
      ·
        refine wp_if (fun c_7 => ?_) (fun c_7 => ?_)
        ·
          have h_8 : Rg 65 65 _ := rg_eq1 (rg_top _) rc_65 c_7 (by decide)
          exact ⟨_, rfl, (rg_w rc_0 (by decide))⟩
        ·
          refine wp_if (fun c_9 => ?_) (fun c_9 => ?_)
          ·
            have h_10 : Rg 80 80 _ := rg_eq1 (rg_top _) rc_80 c_9 (by decide)
            exact ⟨_, rfl, (rg_w rc_0 (by decide))⟩
          ·
            refine wp_if (fun c_11 => ?_) (fun c_11 => ?_)
            ·
              have h_12 : Rg 81 81 _ := rg_eq1 (rg_top _) rc_81 c_11 (by decide)
              exact ⟨_, rfl, (rg_w rc_0 (by decide))⟩
            ·
              refine wp_if (fun c_13 => ?_) (fun c_13 => ?_)
              ·
                have h_14 : Rg 160 160 _ := rg_eq1 (rg_top _) rc_160 c_13 (by decide)
                exact ⟨_, rfl, (rg_w rc_0 (by decide))⟩
              ·
                refine wp_if (fun c_15 => ?_) (fun c_15 => ?_)
                ·
                  have h_16 : Rg 161 161 _ := rg_eq1 (rg_top _) rc_161 c_15 (by decide)
                  exact ⟨_, rfl, (rg_w rc_0 (by decide))⟩
                ·
                  refine wp_if (fun c_17 => ?_) (fun c_17 => ?_)
                  ·
                    have h_18 : Rg 225 225 _ := rg_eq1 (rg_top _) rc_225 c_17 (by decide)
                    exact ⟨_, rfl, (rg_w rc_0 (by decide))⟩
                  ·
                    refine wp_if (fun c_19 => ?_) (fun c_19 => ?_)
                    ·
                      have h_20 : Rg 241 241 _ := rg_eq1 (rg_top _) rc_241 c_19 (by decide)
                      exact ⟨_, rfl, (rg_w rc_0 (by decide))⟩
                    ·
                      exact ⟨_, rfl, (rg_w rc_1 (by decide))⟩
set_option maxRecDepth 100000 in
theorem s_X4_isPlainPut {g : gh} {S : sh} {D : dt}  {x1 : Int32} (hx1 : Rg 0 199 x1) (h : Inv g S D) : wp (f_X4_isPlainPut S D 1 x1) (fun q => Rg 0 1 q) := by
  unfold f_X4_isPlainPut
  refine wp_rq (iR_1_0 h) ?_
  refine wp_ix (in_rg hx1 (iA_2 h) (by decide)) ?_
  refine wp_if (fun c_1 => ?_) (fun c_1 => ?_)
  ·
    have h_2 : Rg 99 99 _ := rg_eq1 (rg_top _) rc_99 c_1 (by decide)
    exact ⟨_, rfl, (rg_w rc_1 (by decide))⟩
  ·
    exact ⟨_, rfl, (rg_w rc_0 (by decide))⟩
set_option maxRecDepth 100000 in
theorem s_X4_isBadPut_24 {g : gh} {S : sh} {D : dt}  {x1 : Int32} (hx1 : Rg 0 199 x1) (h3_x1 : Rg 0 10 (g.2 3 x1.toNatClampNeg)) (h4_x1 : Rg 0 10 (g.2 4 x1.toNatClampNeg)) (h : Inv g S D) : wp (f_X4_isBadPut_24 S D 1 x1) (fun q => Rg 0 1 q) := by
  unfold f_X4_isBadPut_24
  refine wp_rq (iR_1_4 h) ?_
  refine wp_ix (in_rg hx1 (iA_6 h) (by decide)) ?_
  refine wp_pqs (s_X4_isBadChange ) (fun r36 h_r36 => ?_)
  refine wp_ck (rg_01 h_r36 (by decide)) ?_
  exact ⟨_, rfl, h_r36⟩
set_option maxRecDepth 100000 in
theorem s_X4_isBadPut_51 {g : gh} {S : sh} {D : dt}    (h : Inv g S D) : wp (f_X4_isBadPut_51 S D) (fun q => Rg 0 1 q) := by
  unfold f_X4_isBadPut_51
  exact ⟨_, rfl, (rg_w rc_1 (by decide))⟩
set_option maxRecDepth 100000 in
theorem s_X4_isBadPut {g : gh} {S : sh} {D : dt}  {x1 : Int32} (hx1 : Rg 0 199 x1) (h3_x1 : Rg 0 10 (g.2 3 x1.toNatClampNeg)) (h4_x1 : Rg 0 10 (g.2 4 x1.toNatClampNeg)) (h : Inv g S D) : wp (f_X4_isBadPut S D 1 x1) (fun q => Rg 0 1 q) := by
  unfold f_X4_isBadPut
  refine wp_rq (iR_1_0 h) ?_
  refine wp_ix (in_rg hx1 (iA_2 h) (by decide)) ?_
  refine wp_if (fun c_1 => ?_) (fun c_1 => ?_)
  ·
    have h_2 : Rg 195 195 _ := rg_eq1 (iI_2 h _) rc_195 c_1 (by decide)
    exact s_X4_isBadPut_24 hx1 h3_x1 h4_x1 h
  ·
    refine wp_rq (iR_1_0 h) ?_
    refine wp_ix (in_rg hx1 (iA_2 h) (by decide)) ?_
    refine wp_if (fun c_3 => ?_) (fun c_3 => ?_)
    ·
      have h_4 : Rg 219 219 _ := rg_eq1 (iI_2 h _) rc_219 c_3 (by decide)
      exact s_X4_isBadPut_24 hx1 h3_x1 h4_x1 h
    ·
      refine wp_pqs (s_X4_isPlainPut hx1 h) (fun r51 h_r51 => ?_)
      refine wp_if (fun c_5 => ?_) (fun c_5 => ?_)
      ·
        have h_6 : Rg 0 0 _ := rg_eq1 h_r51 rc_0 c_5 (by decide)
        exact s_X4_isBadPut_51 h
      ·
        have h_7 : Rg 1 1 _ := rg_ne1 h_r51 rc_0 c_5 (by decide)
        refine wp_rq (iR_1_4 h) ?_
        refine wp_ix (in_rg hx1 (iA_6 h) (by decide)) ?_
        refine wp_if (fun c_8 => ?_) (fun c_8 => ?_)
        ·
          have h_9 : Rg 0 0 _ := rg_eq1 (rg_top _) rc_0 c_8 (by decide)
          exact ⟨_, rfl, (rg_w rc_0 (by decide))⟩
        ·
          exact s_X4_isBadPut_51 h
theorem s_X4_code {g : gh} {S : sh} {D : dt} {x1 : Int32} (hx1 : Rg 0 199 x1) (h : Inv g S D) : wp (f_X4_code S D 1 x1) (fun q => Rg 0 15 q ∧ q = g.2 2 x1.toNatClampNeg >>> ((4 : Int32) &&& 31)) := by
  unfold f_X4_code
  refine wp_rq (iR_1_0 h) (wp_ix (in_rg hx1 (iA_2 h) (by decide)) ⟨_, rfl, rg_shr (iI_2 h _) (by decide), ?_⟩)
  rw [h.p 2 _ rfl]
set_option maxRecDepth 100000 in
theorem s_X4_isWide_21 {g : gh} {S : sh} {D : dt}    (h : Inv g S D) : wp (f_X4_isWide_21 S D) (fun q => Rg 0 1 q) := by
  unfold f_X4_isWide_21
  exact ⟨_, rfl, (rg_w rc_1 (by decide))⟩
set_option maxRecDepth 100000 in
theorem s_X4_isWide {g : gh} {S : sh} {D : dt}  {x1 : Int32} (hx1 : Rg 0 199 x1) (h : Inv g S D) : wp (f_X4_isWide S D 1 x1) (fun q => Rg 0 1 q) := by
  unfold f_X4_isWide
  refine wp_rq (iR_1_0 h) ?_
  refine wp_ix (in_rg hx1 (iA_2 h) (by decide)) ?_
  refine wp_nmI (fun y14 e_y14 => ?_)
  have h_y14 : Rg 0 7 y14 := rg_eq e_y14 (rg_andr _ (by decide) : Rg 0 7 _)
  refine wp_if (fun c_1 => ?_) (fun c_1 => ?_)
  ·
    have h_2 : Rg 7 7 _ := rg_eq1 h_y14 rc_7 c_1 (by decide)
    exact s_X4_isWide_21 h
  ·
    have h_3 : Rg 0 6 _ := rg_ne1 h_y14 rc_7 c_1 (by decide)
    refine wp_if (fun c_4 => ?_) (fun c_4 => ?_)
    ·
      have h_5 : Rg 5 5 _ := rg_eq1 h_3 rc_5 c_4 (by decide)
      exact s_X4_isWide_21 h
    ·
      exact ⟨_, rfl, (rg_w rc_0 (by decide))⟩
set_option maxRecDepth 100000 in
theorem s_X4_byRegister {g : gh} {S : sh} {D : dt}  {x1 : Int32} (hx1 : Rg 0 199 x1) (h : Inv g S D) : wp (f_X4_byRegister S D 1 x1) (fun q => Rg 0 1 q) := by
  unfold f_X4_byRegister
  refine wp_rq (iR_1_0 h) ?_
  refine wp_ix (in_rg hx1 (iA_2 h) (by decide)) ?_
  refine wp_if (fun c_1 => ?_) (fun c_1 => ?_)
  ·
    have h_2 : Rg 0 0 _ := rg_eq1 (rg_top _) rc_0 c_1 (by decide)
    exact ⟨_, rfl, (rg_w rc_0 (by decide))⟩
  ·
    exact ⟨_, rfl, (rg_w rc_1 (by decide))⟩
set_option maxRecDepth 100000 in
theorem s_X4_hasBadX {g : gh} {S : sh} {D : dt}  {x1 : Int32} (hx1 : Rg 0 199 x1) (h3_x1 : Rg 0 10 (g.2 3 x1.toNatClampNeg)) (h4_x1 : Rg 0 10 (g.2 4 x1.toNatClampNeg)) (h : Inv g S D) : wp (f_X4_hasBadX S D 1 x1) (fun q => Rg 0 1 q) := by
  unfold f_X4_hasBadX
  refine wp_pqs (s_X4_byRegister hx1 h) (fun r17 h_r17 => ?_)
  refine wp_if (fun c_1 => ?_) (fun c_1 => ?_)
  ·
    have h_2 : Rg 0 0 _ := rg_eq1 h_r17 rc_0 c_1 (by decide)
    refine wp_rq (iR_1_2 h) ?_
    refine wp_ix (in_rg hx1 (iA_4 h) (by decide)) ?_
    refine wp_if (fun c_3 => ?_) (fun c_3 => ?_)
    ·
      have h_4 : Rg 0 0 _ := rg_eq1 (rg_eq (h.p 4 _ rfl) h4_x1) rc_0 c_3 (by decide)
      exact ⟨_, rfl, (rg_w rc_0 (by decide))⟩
    ·
      have h_5 : Rg 1 10 _ := rg_ne1 (rg_eq (h.p 4 _ rfl) h4_x1) rc_0 c_3 (by decide)
      exact ⟨_, rfl, (rg_w rc_1 (by decide))⟩
  ·
    have h_6 : Rg 1 1 _ := rg_ne1 h_r17 rc_0 c_1 (by decide)
    refine wp_rq (iR_1_4 h) ?_
    refine wp_ix (in_rg hx1 (iA_6 h) (by decide)) ?_
    refine wp_if (fun c_7 => ?_) (fun c_7 => ?_)
    ·
      have h_8 : Rg 0 0 _ := rg_eq1 (rg_top _) rc_0 c_7 (by decide)
      exact ⟨_, rfl, (rg_w rc_0 (by decide))⟩
    ·
      exact ⟨_, rfl, (rg_w rc_1 (by decide))⟩
set_option maxRecDepth 100000 in
theorem s_X4_hasBadOffset_93 {g : gh} {S : sh} {D : dt}    (h : Inv g S D) : wp (f_X4_hasBadOffset_93 S D) (fun q => Rg 0 1 q) := by
  unfold f_X4_hasBadOffset_93
  exact ⟨_, rfl, (rg_w rc_1 (by decide))⟩
set_option maxRecDepth 100000 in
theorem s_X4_hasBadOffset_72 {g : gh} {S : sh} {D : dt}  {x1 : Int32} {x2 : Int32} {xs0 : Int32} (hx1 : Rg 0 199 x1) (hx2 : Rg 0 15 x2) (hxs0 : Rg 0 1 xs0) (h3_x1 : Rg 0 9 (g.2 3 x1.toNatClampNeg)) (h4_x1 : Rg 0 10 (g.2 4 x1.toNatClampNeg)) (h : Inv g S D) : wp (f_X4_hasBadOffset_72 S D 1 x1 x2 xs0) (fun q => Rg 0 1 q) := by
  unfold f_X4_hasBadOffset_72
  refine wp_if (fun c_1 => ?_) (fun c_1 => ?_)
  ·
    have h_2 : Rg 11 11 _ := rg_eq1 hx2 rc_11 c_1 (by decide)
    refine wp_pqs (s_X4_byRegister hx1 h) (fun r26 h_r26 => ?_)
    refine wp_if (fun c_3 => ?_) (fun c_3 => ?_)
    ·
      have h_4 : Rg 0 0 _ := rg_eq1 h_r26 rc_0 c_3 (by decide)
      exact s_X4_hasBadOffset_93 h
    ·
      have h_5 : Rg 1 1 _ := rg_ne1 h_r26 rc_0 c_3 (by decide)
      refine wp_if (fun c_6 => ?_) (fun c_6 => ?_)
      ·
        have h_7 : Rg 0 0 _ := rg_eq1 hxs0 rc_0 c_6 (by decide)
        exact s_X4_hasBadOffset_93 h
      ·
        have h_8 : Rg 1 1 _ := rg_ne1 hxs0 rc_0 c_6 (by decide)
        exact ⟨_, rfl, (rg_w rc_0 (by decide))⟩
  ·
    exact s_X4_hasBadOffset_93 h
set_option maxRecDepth 100000 in
theorem s_X4_hasBadOffset_67 {g : gh} {S : sh} {D : dt}  {x1 : Int32} {x2 : Int32} (hx1 : Rg 0 199 x1) (hx2 : Rg 0 15 x2) (h3_x1 : Rg 0 9 (g.2 3 x1.toNatClampNeg)) (h4_x1 : Rg 0 10 (g.2 4 x1.toNatClampNeg)) (h : Inv g S D) : wp (f_X4_hasBadOffset_67 S D 1 x1 x2) (fun q => Rg 0 1 q) := by
  unfold f_X4_hasBadOffset_67
  exact s_X4_hasBadOffset_72 hx1 hx2 (rg_w rc_1 (by decide)) h3_x1 h4_x1 h
set_option maxRecDepth 100000 in
theorem s_X4_hasBadOffset_30 {g : gh} {S : sh} {D : dt}  {x3 : Int32} (hx3 : Rg (-32768) 32767 x3) (h : Inv g S D) : wp (f_X4_hasBadOffset_30 S D x3) (fun q => Rg 0 1 q) := by
  unfold f_X4_hasBadOffset_30
  refine wp_if (fun c_1 => ?_) (fun c_1 => ?_)
  ·
    have h_2 : Rg 1 1 _ := rg_eq1 hx3 rc_1 c_1 (by decide)
    exact ⟨_, rfl, (rg_w rc_0 (by decide))⟩
  ·
    exact ⟨_, rfl, (rg_w rc_1 (by decide))⟩
set_option maxRecDepth 100000 in
theorem s_X4_hasBadOffset_71 {g : gh} {S : sh} {D : dt}  {x1 : Int32} {x2 : Int32} (hx1 : Rg 0 199 x1) (hx2 : Rg 0 15 x2) (h3_x1 : Rg 0 9 (g.2 3 x1.toNatClampNeg)) (h4_x1 : Rg 0 10 (g.2 4 x1.toNatClampNeg)) (h : Inv g S D) : wp (f_X4_hasBadOffset_71 S D 1 x1 x2) (fun q => Rg 0 1 q) := by
  unfold f_X4_hasBadOffset_71
  exact s_X4_hasBadOffset_72 hx1 hx2 (rg_w rc_0 (by decide)) h3_x1 h4_x1 h
set_option maxRecDepth 100000 in
theorem s_X4_hasBadOffset {g : gh} {S : sh} {D : dt}  {x1 : Int32} (hx1 : Rg 0 199 x1) (h3_x1 : Rg 0 9 (g.2 3 x1.toNatClampNeg)) (h4_x1 : Rg 0 10 (g.2 4 x1.toNatClampNeg)) (h : Inv g S D) : wp (f_X4_hasBadOffset S D 1 x1) (fun q => Rg 0 1 q) := by
  unfold f_X4_hasBadOffset
  refine wp_pqs (s_X4_code hx1 h) (fun r31 q_r31 => ?_)
  obtain ⟨h_r31, p_r31⟩ := q_r31
  refine wp_rq (iR_1_3 h) ?_
  refine wp_ix (in_rg hx1 (iA_5 h) (by decide)) ?_
  refine wp_nmI (fun y37 e_y37 => ?_)
  have h_y37 : Rg (-32768) 32767 y37 := rg_eq e_y37 (iI_5 h _)
  refine wp_if (fun c_1 => ?_) (fun c_1 => ?_)
  ·
    have h_2 : Rg 0 0 _ := rg_eq1 h_y37 rc_0 c_1 (by decide)
    exact ⟨_, rfl, (rg_w rc_0 (by decide))⟩
  ·
    refine wp_if (fun c_3 => ?_) (fun c_3 => ?_)
    ·
      have h_4 : Rg 3 3 _ := rg_eq1 h_r31 rc_3 c_3 (by decide)
      exact s_X4_hasBadOffset_30 h_y37 h
    ·
      refine wp_if (fun c_5 => ?_) (fun c_5 => ?_)
      ·
        have h_6 : Rg 9 9 _ := rg_eq1 h_r31 rc_9 c_5 (by decide)
        exact s_X4_hasBadOffset_30 h_y37 h
      ·
        refine wp_if (fun c_7 => ?_) (fun c_7 => ?_)
        ·
          have h_8 : Rg 8 8 _ := rg_eq1 h_y37 rc_8 c_7 (by decide)
          exact s_X4_hasBadOffset_67 hx1 h_r31 h3_x1 h4_x1 h
        ·
          refine wp_if (fun c_9 => ?_) (fun c_9 => ?_)
          ·
            have h_10 : Rg 16 16 _ := rg_eq1 h_y37 rc_16 c_9 (by decide)
            exact s_X4_hasBadOffset_67 hx1 h_r31 h3_x1 h4_x1 h
          ·
            refine wp_if (fun c_11 => ?_) (fun c_11 => ?_)
            ·
              have h_12 : Rg 32 32 _ := rg_eq1 h_y37 rc_32 c_11 (by decide)
              refine wp_pqs (s_X4_isWide hx1 h) (fun r45 h_r45 => ?_)
              refine wp_if (fun c_13 => ?_) (fun c_13 => ?_)
              ·
                have h_14 : Rg 0 0 _ := rg_eq1 h_r45 rc_0 c_13 (by decide)
                exact s_X4_hasBadOffset_71 hx1 h_r31 h3_x1 h4_x1 h
              ·
                have h_15 : Rg 1 1 _ := rg_ne1 h_r45 rc_0 c_13 (by decide)
                exact s_X4_hasBadOffset_67 hx1 h_r31 h3_x1 h4_x1 h
            ·
              exact s_X4_hasBadOffset_71 hx1 h_r31 h3_x1 h4_x1 h
set_option maxRecDepth 100000 in
theorem s_X4_isBadArithmetic_108 {g : gh} {S : sh} {D : dt}    (h : Inv g S D) : wp (f_X4_isBadArithmetic_108 S D) (fun q => Rg 0 1 q) := by
  unfold f_X4_isBadArithmetic_108
  exact ⟨_, rfl, (rg_w rc_1 (by decide))⟩
set_option maxRecDepth 100000 in
theorem s_X4_isBadArithmetic_69 {g : gh} {S : sh} {D : dt}  {x1 : Int32} {xs0 : Int32} (hx1 : Rg 0 199 x1) (hxs0 : Rg 0 1 xs0) (h3_x1 : Rg 0 9 (g.2 3 x1.toNatClampNeg)) (h4_x1 : Rg 0 10 (g.2 4 x1.toNatClampNeg)) (h : Inv g S D) : wp (f_X4_isBadArithmetic_69 S D 1 x1 xs0) (fun q => Rg 0 1 q) := by
  unfold f_X4_isBadArithmetic_69
  refine wp_if (fun c_1 => ?_) (fun c_1 => ?_)
  ·
    have h_2 : Rg 0 0 _ := rg_eq1 hxs0 rc_0 c_1 (by decide)
    exact s_X4_isBadArithmetic_108 h
  ·
    have h_3 : Rg 1 1 _ := rg_ne1 hxs0 rc_0 c_1 (by decide)
    refine wp_rq (iR_1_2 h) ?_
    refine wp_ix (in_rg hx1 (iA_4 h) (by decide)) ?_
    refine wp_if (fun c_4 => ?_) (fun c_4 => ?_)
    ·
      have h_5 : Rg 0 0 _ := rg_eq1 (rg_eq (h.p 4 _ rfl) h4_x1) rc_0 c_4 (by decide)
      refine wp_rq (iR_1_3 h) ?_
      refine wp_ix (in_rg hx1 (iA_5 h) (by decide)) ?_
      refine wp_if (fun c_6 => ?_) (fun c_6 => ?_)
      ·
        have h_7 : Rg 0 0 _ := rg_eq1 (iI_5 h _) rc_0 c_6 (by decide)
        refine wp_pqs (s_X4_isWide hx1 h) (fun r78 h_r78 => ?_)
        refine wp_if (fun c_8 => ?_) (fun c_8 => ?_)
        ·
          have h_9 : Rg 0 0 _ := rg_eq1 h_r78 rc_0 c_8 (by decide)
          exact ⟨_, rfl, (rg_w rc_0 (by decide))⟩
        ·
          have h_10 : Rg 1 1 _ := rg_ne1 h_r78 rc_0 c_8 (by decide)
          refine wp_pqs (s_X4_byRegister hx1 h) (fun r81 h_r81 => ?_)
          refine wp_if (fun c_11 => ?_) (fun c_11 => ?_)
          ·
            have h_12 : Rg 0 0 _ := rg_eq1 h_r81 rc_0 c_11 (by decide)
            exact ⟨_, rfl, (rg_w rc_0 (by decide))⟩
          ·
            have h_13 : Rg 1 1 _ := rg_ne1 h_r81 rc_0 c_11 (by decide)
            exact s_X4_isBadArithmetic_108 h
      ·
        exact s_X4_isBadArithmetic_108 h
    ·
      have h_14 : Rg 1 10 _ := rg_ne1 (rg_eq (h.p 4 _ rfl) h4_x1) rc_0 c_4 (by decide)
      exact s_X4_isBadArithmetic_108 h
set_option maxRecDepth 100000 in
theorem s_X4_isBadArithmetic_64 {g : gh} {S : sh} {D : dt}  {x1 : Int32} (hx1 : Rg 0 199 x1) (h3_x1 : Rg 0 9 (g.2 3 x1.toNatClampNeg)) (h4_x1 : Rg 0 10 (g.2 4 x1.toNatClampNeg)) (h : Inv g S D) : wp (f_X4_isBadArithmetic_64 S D 1 x1) (fun q => Rg 0 1 q) := by
  unfold f_X4_isBadArithmetic_64
  exact s_X4_isBadArithmetic_69 hx1 (rg_w rc_1 (by decide)) h3_x1 h4_x1 h
set_option maxRecDepth 100000 in
theorem s_X4_isBadArithmetic_155 {g : gh} {S : sh} {D : dt}    (h : Inv g S D) : wp (f_X4_isBadArithmetic_155 S D) (fun q => Rg 0 1 q) := by
  unfold f_X4_isBadArithmetic_155
  exact ⟨_, rfl, (rg_w rc_1 (by decide))⟩
set_option maxRecDepth 100000 in
theorem s_X4_isBadArithmetic_139 {g : gh} {S : sh} {D : dt}  {x1 : Int32} (hx1 : Rg 0 199 x1) (h3_x1 : Rg 0 9 (g.2 3 x1.toNatClampNeg)) (h4_x1 : Rg 0 10 (g.2 4 x1.toNatClampNeg)) (h : Inv g S D) : wp (f_X4_isBadArithmetic_139 S D 1 x1) (fun q => Rg 0 1 q) := by
  unfold f_X4_isBadArithmetic_139
  refine wp_pqs (s_X4_hasBadX hx1 (rg_w h3_x1 (by decide)) h4_x1 h) (fun r84 h_r84 => ?_)
  refine wp_if (fun c_1 => ?_) (fun c_1 => ?_)
  ·
    have h_2 : Rg 0 0 _ := rg_eq1 h_r84 rc_0 c_1 (by decide)
    refine wp_pqs (s_X4_hasBadOffset hx1 h3_x1 h4_x1 h) (fun r87 h_r87 => ?_)
    refine wp_if (fun c_3 => ?_) (fun c_3 => ?_)
    ·
      have h_4 : Rg 0 0 _ := rg_eq1 h_r87 rc_0 c_3 (by decide)
      exact ⟨_, rfl, (rg_w rc_0 (by decide))⟩
    ·
      have h_5 : Rg 1 1 _ := rg_ne1 h_r87 rc_0 c_3 (by decide)
      exact s_X4_isBadArithmetic_155 h
  ·
    have h_6 : Rg 1 1 _ := rg_ne1 h_r84 rc_0 c_1 (by decide)
    exact s_X4_isBadArithmetic_155 h
set_option maxRecDepth 100000 in
theorem s_X4_isBadArithmetic {g : gh} {S : sh} {D : dt}  {x1 : Int32} (hx1 : Rg 0 199 x1) (h3_x1 : Rg 0 10 (g.2 3 x1.toNatClampNeg)) (h4_x1 : Rg 0 10 (g.2 4 x1.toNatClampNeg)) (h : Inv g S D) : wp (f_X4_isBadArithmetic S D 1 x1) (fun q => Rg 0 1 q) := by
  unfold f_X4_isBadArithmetic
  refine wp_pqs (s_X4_code hx1 h) (fun r90 q_r90 => ?_)
  obtain ⟨h_r90, p_r90⟩ := q_r90
  refine wp_rq (iR_1_1 h) ?_
  refine wp_ix (in_rg hx1 (iA_3 h) (by decide)) ?_
  refine wp_if (fun c_1 => ?_) (fun c_1 => ?_)
  ·
    have h_2 : Rg 10 10 _ := rg_le2 rc_10 (rg_eq (h.p 3 _ rfl) h3_x1) c_1 (by decide)
    exact ⟨_, rfl, (rg_w rc_1 (by decide))⟩
  ·
    have h_3 : Rg 0 9 _ := rg_lt1 (rg_eq (h.p 3 _ rfl) h3_x1) rc_10 (nle32 c_1) (by decide)
    refine wp_if (fun c_4 => ?_) (fun c_4 => ?_)
    ·
      have h_5 : Rg 0 13 _ := rg_le1 h_r90 rc_13 c_4 (by decide)
      refine wp_if (fun c_6 => ?_) (fun c_6 => ?_)
      ·
        have h_7 : Rg 13 13 _ := rg_eq1 h_5 rc_13 c_6 (by decide)
        refine wp_rq (iR_1_4 h) ?_
        refine wp_ix (in_rg hx1 (iA_6 h) (by decide)) ?_
        refine wp_if (fun c_8 => ?_) (fun c_8 => ?_)
        ·
          have h_9 : Rg 16 16 _ := rg_eq1 (rg_top _) rc_16 c_8 (by decide)
          exact s_X4_isBadArithmetic_64 hx1 (rg_eq (h.p 3 _ rfl).symm h_3) h4_x1 h
        ·
          refine wp_rq (iR_1_4 h) ?_
          refine wp_ix (in_rg hx1 (iA_6 h) (by decide)) ?_
          refine wp_if (fun c_10 => ?_) (fun c_10 => ?_)
          ·
            have h_11 : Rg 32 32 _ := rg_eq1 (rg_top _) rc_32 c_10 (by decide)
            exact s_X4_isBadArithmetic_64 hx1 (rg_eq (h.p 3 _ rfl).symm h_3) h4_x1 h
          ·
            refine wp_rq (iR_1_4 h) ?_
            refine wp_ix (in_rg hx1 (iA_6 h) (by decide)) ?_
            refine wp_if (fun c_12 => ?_) (fun c_12 => ?_)
            ·
              have h_13 : Rg 64 64 _ := rg_eq1 (rg_top _) rc_64 c_12 (by decide)
              exact s_X4_isBadArithmetic_64 hx1 (rg_eq (h.p 3 _ rfl).symm h_3) h4_x1 h
            ·
              exact s_X4_isBadArithmetic_69 hx1 (rg_w rc_0 (by decide)) (rg_eq (h.p 3 _ rfl).symm h_3) h4_x1 h
      ·
        have h_14 : Rg 0 12 _ := rg_ne1 h_5 rc_13 c_6 (by decide)
        refine wp_if (fun c_15 => ?_) (fun c_15 => ?_)
        ·
          have h_16 : Rg 8 8 _ := rg_eq1 h_14 rc_8 c_15 (by decide)
          refine wp_pqs (s_X4_byRegister hx1 h) (fun r101 h_r101 => ?_)
          refine wp_if (fun c_17 => ?_) (fun c_17 => ?_)
          ·
            have h_18 : Rg 0 0 _ := rg_eq1 h_r101 rc_0 c_17 (by decide)
            refine wp_rq (iR_1_4 h) ?_
            refine wp_ix (in_rg hx1 (iA_6 h) (by decide)) ?_
            refine wp_if (fun c_19 => ?_) (fun c_19 => ?_)
            ·
              have h_20 : Rg 0 0 _ := rg_eq1 (rg_top _) rc_0 c_19 (by decide)
              exact s_X4_isBadArithmetic_139 hx1 (rg_eq (h.p 3 _ rfl).symm h_3) h4_x1 h
            ·
              exact ⟨_, rfl, (rg_w rc_1 (by decide))⟩
          ·
            have h_21 : Rg 1 1 _ := rg_ne1 h_r101 rc_0 c_17 (by decide)
            exact ⟨_, rfl, (rg_w rc_1 (by decide))⟩
        ·
          exact s_X4_isBadArithmetic_139 hx1 (rg_eq (h.p 3 _ rfl).symm h_3) h4_x1 h
    ·
      have h_22 : Rg 14 15 _ := rg_lt2 rc_13 h_r90 (nle32 c_4) (by decide)
      exact ⟨_, rfl, (rg_w rc_1 (by decide))⟩
set_option maxRecDepth 100000 in
theorem s_X4_isBadHelper_16    : wp (f_X4_isBadHelper_16) (fun q => Rg 0 1 q) := by
  unfold f_X4_isBadHelper_16
  exact ⟨_, rfl, (rg_w rc_1 (by decide))⟩
set_option maxRecDepth 100000 in
theorem s_X4_isBadHelper  {x0 : Int32}  : wp (f_X4_isBadHelper x0) (fun q => Rg 0 1 q) := by
  unfold f_X4_isBadHelper
  refine wp_if (fun c_1 => ?_) (fun c_1 => ?_)
  ·
    have h_2 : Rg (-2147483648) 0 _ := rg_lt1 (rg_top _) rc_1 c_1 (by decide)
    exact s_X4_isBadHelper_16 
  ·
    have h_3 : Rg 1 2147483647 _ := rg_le2 rc_1 (rg_top _) (nlt32 c_1) (by decide)
    refine wp_if (fun c_4 => ?_) (fun c_4 => ?_)
    ·
      have h_5 : Rg 7 2147483647 _ := rg_lt2 rc_6 h_3 c_4 (by decide)
      exact s_X4_isBadHelper_16 
    ·
      have h_6 : Rg 1 6 _ := rg_le1 h_3 rc_6 (nlt32 c_4) (by decide)
      refine wp_if (fun c_7 => ?_) (fun c_7 => ?_)
      ·
        have h_8 : Rg 4 4 _ := rg_eq1 h_6 rc_4 c_7 (by decide)
        exact s_X4_isBadHelper_16 
      ·
        exact ⟨_, rfl, (rg_w rc_0 (by decide))⟩
set_option maxRecDepth 100000 in
theorem s_X4_isBadJump_42 {g : gh} {S : sh} {D : dt}  {x1 : Int32} {x2 : Int32} (hx1 : Rg 0 199 x1) (hx2 : Rg 0 9 x2) (h3_x1 : Rg 0 10 (g.2 3 x1.toNatClampNeg)) (h4_x1 : Rg 0 10 (g.2 4 x1.toNatClampNeg)) (h : Inv g S D) : wp (f_X4_isBadJump_42 S D 1 x1 x2) (fun q => Rg 0 1 q) := by
  unfold f_X4_isBadJump_42
  refine wp_pqs (s_X4_byRegister hx1 h) (fun r66 h_r66 => ?_)
  refine wp_if (fun c_1 => ?_) (fun c_1 => ?_)
  ·
    have h_2 : Rg 0 0 _ := rg_eq1 h_r66 rc_0 c_1 (by decide)
    refine wp_rq (iR_1_1 h) ?_
    refine wp_ix (in_rg hx1 (iA_3 h) (by decide)) ?_
    refine wp_if (fun c_3 => ?_) (fun c_3 => ?_)
    ·
      have h_4 : Rg 0 0 _ := rg_eq1 (rg_eq (h.p 3 _ rfl) h3_x1) rc_0 c_3 (by decide)
      refine wp_rq (iR_1_2 h) ?_
      refine wp_ix (in_rg hx1 (iA_4 h) (by decide)) ?_
      refine wp_if (fun c_5 => ?_) (fun c_5 => ?_)
      ·
        have h_6 : Rg 0 0 _ := rg_eq1 (rg_eq (h.p 4 _ rfl) h4_x1) rc_0 c_5 (by decide)
        refine wp_if (fun c_7 => ?_) (fun c_7 => ?_)
        ·
          have h_8 : Rg 0 0 _ := rg_eq1 hx2 rc_0 c_7 (by decide)
          refine wp_pqs (s_X4_isWide hx1 h) (fun r106 h_r106 => ?_)
          refine wp_if (fun c_9 => ?_) (fun c_9 => ?_)
          ·
            have h_10 : Rg 0 0 _ := rg_eq1 h_r106 rc_0 c_9 (by decide)
            refine wp_rq (iR_1_3 h) ?_
            refine wp_ix (in_rg hx1 (iA_5 h) (by decide)) ?_
            refine wp_if (fun c_11 => ?_) (fun c_11 => ?_)
            ·
              have h_12 : Rg 0 0 _ := rg_eq1 (iI_5 h _) rc_0 c_11 (by decide)
              exact ⟨_, rfl, (rg_w rc_0 (by decide))⟩
            ·
              exact ⟨_, rfl, (rg_w rc_1 (by decide))⟩
          ·
            have h_13 : Rg 1 1 _ := rg_ne1 h_r106 rc_0 c_9 (by decide)
            refine wp_rq (iR_1_4 h) ?_
            refine wp_ix (in_rg hx1 (iA_6 h) (by decide)) ?_
            refine wp_if (fun c_14 => ?_) (fun c_14 => ?_)
            ·
              have h_15 : Rg 0 0 _ := rg_eq1 (rg_top _) rc_0 c_14 (by decide)
              exact ⟨_, rfl, (rg_w rc_0 (by decide))⟩
            ·
              exact ⟨_, rfl, (rg_w rc_1 (by decide))⟩
        ·
          have h_16 : Rg 1 9 _ := rg_ne1 hx2 rc_0 c_7 (by decide)
          refine wp_pqs (s_X4_isWide hx1 h) (fun r82 h_r82 => ?_)
          refine wp_if (fun c_17 => ?_) (fun c_17 => ?_)
          ·
            have h_18 : Rg 0 0 _ := rg_eq1 h_r82 rc_0 c_17 (by decide)
            exact ⟨_, rfl, (rg_w rc_1 (by decide))⟩
          ·
            have h_19 : Rg 1 1 _ := rg_ne1 h_r82 rc_0 c_17 (by decide)
            refine wp_rq (iR_1_3 h) ?_
            refine wp_ix (in_rg hx1 (iA_5 h) (by decide)) ?_
            refine wp_if (fun c_20 => ?_) (fun c_20 => ?_)
            ·
              have h_21 : Rg 0 0 _ := rg_eq1 (iI_5 h _) rc_0 c_20 (by decide)
              refine wp_if (fun c_22 => ?_) (fun c_22 => ?_)
              ·
                have h_23 : Rg 8 8 _ := rg_eq1 h_16 rc_8 c_22 (by decide)
                refine wp_rq (iR_1_4 h) ?_
                refine wp_ix (in_rg hx1 (iA_6 h) (by decide)) ?_
                refine wp_pqs (s_X4_isBadHelper ) (fun r103 h_r103 => ?_)
                refine wp_ck (rg_01 h_r103 (by decide)) ?_
                exact ⟨_, rfl, h_r103⟩
              ·
                refine wp_rq (iR_1_4 h) ?_
                refine wp_ix (in_rg hx1 (iA_6 h) (by decide)) ?_
                refine wp_if (fun c_24 => ?_) (fun c_24 => ?_)
                ·
                  have h_25 : Rg 0 0 _ := rg_eq1 (rg_top _) rc_0 c_24 (by decide)
                  exact ⟨_, rfl, (rg_w rc_0 (by decide))⟩
                ·
                  exact ⟨_, rfl, (rg_w rc_1 (by decide))⟩
            ·
              exact ⟨_, rfl, (rg_w rc_1 (by decide))⟩
      ·
        have h_26 : Rg 1 10 _ := rg_ne1 (rg_eq (h.p 4 _ rfl) h4_x1) rc_0 c_5 (by decide)
        exact ⟨_, rfl, (rg_w rc_1 (by decide))⟩
    ·
      have h_27 : Rg 1 10 _ := rg_ne1 (rg_eq (h.p 3 _ rfl) h3_x1) rc_0 c_3 (by decide)
      exact ⟨_, rfl, (rg_w rc_1 (by decide))⟩
  ·
    have h_28 : Rg 1 1 _ := rg_ne1 h_r66 rc_0 c_1 (by decide)
    exact ⟨_, rfl, (rg_w rc_1 (by decide))⟩
set_option maxRecDepth 100000 in
theorem s_X4_isBadJump_36 {g : gh} {S : sh} {D : dt}    (h : Inv g S D) : wp (f_X4_isBadJump_36 S D) (fun q => Rg 0 1 q) := by
  unfold f_X4_isBadJump_36
  exact ⟨_, rfl, (rg_w rc_1 (by decide))⟩
set_option maxRecDepth 100000 in
theorem s_X4_isBadJump {g : gh} {S : sh} {D : dt}  {x1 : Int32} (hx1 : Rg 0 199 x1) (h3_x1 : Rg 0 10 (g.2 3 x1.toNatClampNeg)) (h4_x1 : Rg 0 10 (g.2 4 x1.toNatClampNeg)) (h : Inv g S D) : wp (f_X4_isBadJump S D 1 x1) (fun q => Rg 0 1 q) := by
  unfold f_X4_isBadJump
  refine wp_pqs (s_X4_code hx1 h) (fun r121 q_r121 => ?_)
  obtain ⟨h_r121, p_r121⟩ := q_r121
  refine wp_if (fun c_1 => ?_) (fun c_1 => ?_)
  ·
    have h_2 : Rg 0 0 _ := rg_eq1 h_r121 rc_0 c_1 (by decide)
    exact s_X4_isBadJump_42 hx1 (rg_w h_2 (by decide)) h3_x1 h4_x1 h
  ·
    have h_3 : Rg 1 15 _ := rg_ne1 h_r121 rc_0 c_1 (by decide)
    refine wp_if (fun c_4 => ?_) (fun c_4 => ?_)
    ·
      have h_5 : Rg 8 8 _ := rg_eq1 h_3 rc_8 c_4 (by decide)
      exact s_X4_isBadJump_42 hx1 (rg_w h_5 (by decide)) h3_x1 h4_x1 h
    ·
      refine wp_if (fun c_6 => ?_) (fun c_6 => ?_)
      ·
        have h_7 : Rg 9 9 _ := rg_eq1 h_3 rc_9 c_6 (by decide)
        exact s_X4_isBadJump_42 hx1 (rg_w h_7 (by decide)) h3_x1 h4_x1 h
      ·
        refine wp_if (fun c_8 => ?_) (fun c_8 => ?_)
        ·
          have h_9 : Rg 14 15 _ := rg_lt2 rc_13 h_3 c_8 (by decide)
          exact s_X4_isBadJump_36 h
        ·
          have h_10 : Rg 1 13 _ := rg_le1 h_3 rc_13 (nlt32 c_8) (by decide)
          refine wp_pqs (s_X4_hasBadX hx1 h3_x1 h4_x1 h) (fun r127 h_r127 => ?_)
          refine wp_if (fun c_11 => ?_) (fun c_11 => ?_)
          ·
            have h_12 : Rg 0 0 _ := rg_eq1 h_r127 rc_0 c_11 (by decide)
            exact ⟨_, rfl, (rg_w rc_0 (by decide))⟩
          ·
            have h_13 : Rg 1 1 _ := rg_ne1 h_r127 rc_0 c_11 (by decide)
            exact s_X4_isBadJump_36 h
set_option maxRecDepth 100000 in
theorem s0_X4_isBad_141 {g : gh} {S : sh} {D : dt}  {x1 : Int32} (hx1 : Rg 0 199 x1) (h3_x1 : Rg 0 10 (g.2 3 x1.toNatClampNeg)) (h4_x1 : Rg 0 10 (g.2 4 x1.toNatClampNeg)) (h : Inv g S D) : wp (f_X4_isBad_141 S D 1 x1) (fun q => Rg 0 1 q ∧ (q = 0 → Rg 0 10 (g.2 3 x1.toNatClampNeg) ∧ Rg 0 10 (g.2 4 x1.toNatClampNeg))) := by
  unfold f_X4_isBad_141
  refine wp_pqs (s_X4_isBadJump hx1 h3_x1 h4_x1 h) (fun r57 h_r57 => ?_)
  refine wp_ck (rg_01 h_r57 (by decide)) ?_
  exact ⟨_, rfl, h_r57, (fun _ => ⟨h3_x1, h4_x1⟩)⟩
set_option maxRecDepth 100000 in
theorem s0_X4_isBad_135 {g : gh} {S : sh} {D : dt}  {x1 : Int32} (hx1 : Rg 0 199 x1) (h3_x1 : Rg 0 10 (g.2 3 x1.toNatClampNeg)) (h4_x1 : Rg 0 10 (g.2 4 x1.toNatClampNeg)) (h : Inv g S D) : wp (f_X4_isBad_135 S D 1 x1) (fun q => Rg 0 1 q ∧ (q = 0 → Rg 0 10 (g.2 3 x1.toNatClampNeg) ∧ Rg 0 10 (g.2 4 x1.toNatClampNeg))) := by
  unfold f_X4_isBad_135
  refine wp_pqs (s_X4_isBadArithmetic hx1 h3_x1 h4_x1 h) (fun r60 h_r60 => ?_)
  refine wp_ck (rg_01 h_r60 (by decide)) ?_
  exact ⟨_, rfl, h_r60, (fun _ => ⟨h3_x1, h4_x1⟩)⟩
set_option maxRecDepth 100000 in
theorem s0_X4_isBad {g : gh} {S : sh} {D : dt}  {x1 : Int32} (hx1 : Rg 0 199 x1) (h : Inv g S D) : wp (f_X4_isBad S D 1 x1) (fun q => Rg 0 1 q ∧ (q = 0 → Rg 0 10 (g.2 3 x1.toNatClampNeg) ∧ Rg 0 10 (g.2 4 x1.toNatClampNeg))) := by
  unfold f_X4_isBad
  refine wp_pqs (s_X4_has h) (fun r63 q_r63 => ?_)
  obtain ⟨h_r63, x_r63⟩ := q_r63
  refine wp_if (fun c_1 => ?_) (fun c_1 => ?_)
  ·
    have h_2 : Rg 0 0 _ := rg_eq1 h_r63 rc_0 c_1 (by decide)
    exact ⟨_, rfl, (rg_w rc_1 (by decide)), (fun e => (rg_false (rg_eq1 rc_1 rc_0 e (by decide) : Rg 1 0 _) (by decide)).elim)⟩
  ·
    have h_3 := x_r63 c_1
    have h_4 : Rg 1 1 _ := rg_ne1 h_r63 rc_0 c_1 (by decide)
    refine wp_rq (iR_1_1 h) ?_
    refine wp_ix (in_rg hx1 (iA_3 h) (by decide)) ?_
    refine wp_if (fun c_5 => ?_) (fun c_5 => ?_)
    ·
      have h_6 : Rg 11 15 _ := rg_le2 rc_11 (iI_3 h _) c_5 (by decide)
      exact ⟨_, rfl, (rg_w rc_1 (by decide)), (fun e => (rg_false (rg_eq1 rc_1 rc_0 e (by decide) : Rg 1 0 _) (by decide)).elim)⟩
    ·
      have h_7 : Rg 0 10 _ := rg_lt1 (iI_3 h _) rc_11 (nle32 c_5) (by decide)
      refine wp_rq (iR_1_2 h) ?_
      refine wp_ix (in_rg hx1 (iA_4 h) (by decide)) ?_
      refine wp_if (fun c_8 => ?_) (fun c_8 => ?_)
      ·
        have h_9 : Rg 0 10 _ := rg_lt1 (iI_4 h _) rc_11 c_8 (by decide)
        refine wp_rq (iR_1_0 h) ?_
        refine wp_ix (in_rg hx1 (iA_2 h) (by decide)) ?_
        refine wp_if (fun c_10 => ?_) (fun c_10 => ?_)
        ·
          have h_11 : Rg 0 0 _ := rg_eq1 (rg_andr _ (by decide) : Rg 0 7 _) rc_0 c_10 (by decide)
          refine wp_pqs (s_X4_isBadPair hx1 (rg_eq (h.p 3 _ rfl).symm h_7) (rg_eq (h.p 4 _ rfl).symm h_9) h) (fun r84 h_r84 => ?_)
          refine wp_ck (rg_01 h_r84 (by decide)) ?_
          exact ⟨_, rfl, h_r84, (fun _ => ⟨(rg_eq (h.p 3 _ rfl).symm h_7), (rg_eq (h.p 4 _ rfl).symm h_9)⟩)⟩
        ·
          have h_12 : Rg 1 7 _ := rg_ne1 (rg_andr _ (by decide) : Rg 0 7 _) rc_0 c_10 (by decide)
          refine wp_if (fun c_13 => ?_) (fun c_13 => ?_)
          ·
            have h_14 : Rg 1 1 _ := rg_eq1 h_12 rc_1 c_13 (by decide)
            refine wp_pqs (s_X4_isBadLoad hx1 (rg_eq (h.p 3 _ rfl).symm h_7) (rg_eq (h.p 4 _ rfl).symm h_9) h) (fun r88 h_r88 => ?_)
            refine wp_ck (rg_01 h_r88 (by decide)) ?_
            exact ⟨_, rfl, h_r88, (fun _ => ⟨(rg_eq (h.p 3 _ rfl).symm h_7), (rg_eq (h.p 4 _ rfl).symm h_9)⟩)⟩
          ·
            have h_15 : Rg 2 7 _ := rg_ne1 h_12 rc_1 c_13 (by decide)
            refine wp_if (fun c_16 => ?_) (fun c_16 => ?_)
            ·
              have h_17 : Rg 2 2 _ := rg_eq1 h_15 rc_2 c_16 (by decide)
              refine wp_rq (iR_1_0 h) ?_
              refine wp_ix (in_rg hx1 (iA_2 h) (by decide)) ?_
              refine wp_if (fun c_18 => ?_) (fun c_18 => ?_)
              ·
                have h_19 : Rg 98 98 _ := rg_eq1 (rg_top _) rc_98 c_18 (by decide)
                refine wp_rq (iR_1_2 h) ?_
                refine wp_ix (in_rg hx1 (iA_4 h) (by decide)) ?_
                refine wp_if (fun c_20 => ?_) (fun c_20 => ?_)
                ·
                  have h_21 : Rg 0 0 _ := rg_eq1 (rg_eq (h.p 4 _ rfl) (rg_eq (h.p 4 _ rfl).symm h_9)) rc_0 c_20 (by decide)
                  exact ⟨_, rfl, (rg_w rc_0 (by decide)), (fun _ => ⟨(rg_eq (h.p 3 _ rfl).symm h_7), (rg_w (rg_eq (h.p 4 _ rfl).symm h_21) (by decide))⟩)⟩
                ·
                  have h_22 : Rg 1 10 _ := rg_ne1 (rg_eq (h.p 4 _ rfl) (rg_eq (h.p 4 _ rfl).symm h_9)) rc_0 c_20 (by decide)
                  unfold f_X4_isBad_123
                  exact ⟨_, rfl, (rg_w rc_1 (by decide)), (fun e => (rg_false (rg_eq1 rc_1 rc_0 e (by decide) : Rg 1 0 _) (by decide)).elim)⟩
              ·
                unfold f_X4_isBad_123
                exact ⟨_, rfl, (rg_w rc_1 (by decide)), (fun e => (rg_false (rg_eq1 rc_1 rc_0 e (by decide) : Rg 1 0 _) (by decide)).elim)⟩
            ·
              have h_23 : Rg 3 7 _ := rg_ne1 h_15 rc_2 c_16 (by decide)
              refine wp_if (fun c_24 => ?_) (fun c_24 => ?_)
              ·
                have h_25 : Rg 3 3 _ := rg_eq1 h_23 rc_3 c_24 (by decide)
                refine wp_pqs (s_X4_isBadPut hx1 (rg_eq (h.p 3 _ rfl).symm h_7) (rg_eq (h.p 4 _ rfl).symm h_9) h) (fun r105 h_r105 => ?_)
                refine wp_ck (rg_01 h_r105 (by decide)) ?_
                exact ⟨_, rfl, h_r105, (fun _ => ⟨(rg_eq (h.p 3 _ rfl).symm h_7), (rg_eq (h.p 4 _ rfl).symm h_9)⟩)⟩
              ·
                have h_26 : Rg 4 7 _ := rg_ne1 h_23 rc_3 c_24 (by decide)
                refine wp_if (fun c_27 => ?_) (fun c_27 => ?_)
                ·
                  have h_28 : Rg 4 4 _ := rg_eq1 h_26 rc_4 c_27 (by decide)
                  exact s0_X4_isBad_135 hx1 (rg_eq (h.p 3 _ rfl).symm h_7) (rg_eq (h.p 4 _ rfl).symm h_9) h
                ·
                  have h_29 : Rg 5 7 _ := rg_ne1 h_26 rc_4 c_27 (by decide)
                  refine wp_if (fun c_30 => ?_) (fun c_30 => ?_)
                  ·
                    have h_31 : Rg 5 5 _ := rg_eq1 h_29 rc_5 c_30 (by decide)
                    exact s0_X4_isBad_141 hx1 (rg_eq (h.p 3 _ rfl).symm h_7) (rg_eq (h.p 4 _ rfl).symm h_9) h
                  ·
                    have h_32 : Rg 6 7 _ := rg_ne1 h_29 rc_5 c_30 (by decide)
                    refine wp_if (fun c_33 => ?_) (fun c_33 => ?_)
                    ·
                      have h_34 : Rg 6 6 _ := rg_eq1 h_32 rc_6 c_33 (by decide)
                      exact s0_X4_isBad_141 hx1 (rg_eq (h.p 3 _ rfl).symm h_7) (rg_eq (h.p 4 _ rfl).symm h_9) h
                    ·
                      have h_35 : Rg 7 7 _ := rg_ne1 h_32 rc_6 c_33 (by decide)
                      refine wp_if (fun c_36 => ?_) (fun c_36 => ?_)
                      ·
                        exact s0_X4_isBad_135 hx1 (rg_eq (h.p 3 _ rfl).symm h_7) (rg_eq (h.p 4 _ rfl).symm h_9) h
                      ·
                        have h_37 : Rg 8 6 _ := rg_ne1 h_35 rc_7 c_36 (by decide)
                        exact (rg_false h_37 (by decide)).elim
      ·
        have h_38 : Rg 11 15 _ := rg_le2 rc_11 (iI_4 h _) (nlt32 c_8) (by decide)
        exact ⟨_, rfl, (rg_w rc_1 (by decide)), (fun e => (rg_false (rg_eq1 rc_1 rc_0 e (by decide) : Rg 1 0 _) (by decide)).elim)⟩
theorem q_isBadA13 {g : gh} {S : sh} {D : dt} {x1 : Int32} (hx1 : Rg 0 199 x1) (h3_x1 : Rg 0 10 (g.2 3 x1.toNatClampNeg)) (h4_x1 : Rg 0 10 (g.2 4 x1.toNatClampNeg)) (h : Inv g S D) : wp (f_X4_isBadArithmetic S D 1 x1) (fun q => Rg 0 1 q ∧ (q = 0 → g.2 2 x1.toNatClampNeg >>> ((4 : Int32) &&& 31) = 13 → Rg 0 64 (g.2 6 x1.toNatClampNeg))) := by
  have i1 := in_rg hx1 (iA_3 h) (by decide)
  have i4 := in_rg hx1 (iA_6 h) (by decide)
  have one : ∀ {P : Prop}, (1 : Int32) = 0 → P := fun e => absurd e (by decide)
  unfold f_X4_isBadArithmetic
  refine wp_pqs (s_X4_code hx1 h) (fun r p => wp_rq (iR_1_1 h) (wp_ix i1 (wp_if (fun _ => ⟨_, rfl, r01_1, one⟩) (fun c => ?_))))
  have h3' : Rg 0 9 (g.2 3 x1.toNatClampNeg) := rg_eq (h.p 3 _ rfl).symm (rg_lt1 (rg_eq (h.p 3 _ rfl) h3_x1) (by decide : Rg 10 10 (10 : Int32)) (nle32 c) (by decide))
  refine wp_if (fun _ => wp_if (fun c13 => ?_) (fun n13 => ?_)) (fun _ => ⟨_, rfl, r01_1, one⟩)
  · have im : ∀ v : Int32, gI D 6 x1.toNatClampNeg = v → Rg 0 64 v → wp (f_X4_isBadArithmetic_64 S D 1 x1) (fun q => Rg 0 1 q ∧ (q = 0 → g.2 2 x1.toNatClampNeg >>> ((4 : Int32) &&& 31) = 13 → Rg 0 64 (g.2 6 x1.toNatClampNeg))) := by
      intro v e hv
      refine wp_mono (s_X4_isBadArithmetic_64 hx1 h3' h4_x1 h) (fun _ q => ⟨q, fun _ _ => ?_⟩)
      rw [← h.p 6 _ rfl, e]
      exact hv
    refine wp_rq (iR_1_4 h) (wp_ix i4 (wp_if (fun c => im _ c (by decide)) (fun _ => wp_rq (iR_1_4 h) (wp_ix i4 (wp_if (fun c => im _ c (by decide)) (fun _ => wp_rq (iR_1_4 h) (wp_ix i4 (wp_if (fun c => im _ c (by decide)) (fun _ => ?_)))))))))
    unfold f_X4_isBadArithmetic_69 f_X4_isBadArithmetic_108
    exact wp_if (fun _ => ⟨_, rfl, r01_1, one⟩) (fun c => absurd rfl c)
  · have no : ∀ {q : Int32}, q = 0 → g.2 2 x1.toNatClampNeg >>> ((4 : Int32) &&& 31) = 13 → Rg 0 64 (g.2 6 x1.toNatClampNeg) := fun _ e => absurd (p.2.trans e) n13
    have w139 := wp_mono (s_X4_isBadArithmetic_139 hx1 h3' h4_x1 h) (Q := fun q => Rg 0 1 q ∧ (q = 0 → g.2 2 x1.toNatClampNeg >>> ((4 : Int32) &&& 31) = 13 → Rg 0 64 (g.2 6 x1.toNatClampNeg))) (fun _ q => ⟨q, no⟩)
    exact wp_if (fun _ => wp_pqs (s_X4_byRegister hx1 h) (fun r2 _ => wp_if (fun _ => wp_rq (iR_1_4 h) (wp_ix i4 (wp_if (fun _ => w139) (fun _ => ⟨_, rfl, r01_1, one⟩)))) (fun _ => ⟨_, rfl, r01_1, one⟩))) (fun _ => w139)
theorem q_isBad13 {g : gh} {S : sh} {D : dt} {x1 : Int32} (hx1 : Rg 0 199 x1) (h : Inv g S D) : wp (f_X4_isBad S D 1 x1) (fun q => q = 0 → (g.2 2 x1.toNatClampNeg &&& 7 = 4 ∨ g.2 2 x1.toNatClampNeg &&& 7 = 7) → (g.2 2 x1.toNatClampNeg >>> ((4 : Int32) &&& 31) = 13 → Rg 0 64 (g.2 6 x1.toNatClampNeg))) := by
  have i0 := in_rg hx1 (iA_2 h) (by decide)
  have i1 := in_rg hx1 (iA_3 h) (by decide)
  have i2 := in_rg hx1 (iA_4 h) (by decide)
  have one : ∀ {P : Prop}, (1 : Int32) = 0 → P := fun e => absurd e (by decide)
  have hp := h.p 2 x1.toNatClampNeg rfl
  unfold f_X4_isBad
  refine wp_pqs (s_X4_has h) (fun r p => wp_if (fun _ => ⟨_, rfl, one⟩) (fun _ => wp_rq (iR_1_1 h) (wp_ix i1 (wp_if (fun _ => ⟨_, rfl, one⟩) (fun c3 => wp_rq (iR_1_2 h) (wp_ix i2 (wp_if (fun c4 => ?_) (fun _ => ⟨_, rfl, one⟩))))))))
  have h3 : Rg 0 10 (g.2 3 x1.toNatClampNeg) := rg_eq (h.p 3 _ rfl).symm (rg_lt1 (iI_3 h _) (by decide : Rg 11 11 (11 : Int32)) (nle32 c3) (by decide))
  have h4 : Rg 0 10 (g.2 4 x1.toNatClampNeg) := rg_eq (h.p 4 _ rfl).symm (rg_lt1 (iI_4 h _) (by decide : Rg 11 11 (11 : Int32)) c4 (by decide))
  have no : ∀ (k : Int32), (gI D 2 x1.toNatClampNeg) &&& 7 = k → k ≠ 4 → k ≠ 7 → ∀ {q : Int32}, q = 0 → (g.2 2 x1.toNatClampNeg &&& 7 = 4 ∨ g.2 2 x1.toNatClampNeg &&& 7 = 7) → (g.2 2 x1.toNatClampNeg >>> ((4 : Int32) &&& 31) = 13 → Rg 0 64 (g.2 6 x1.toNatClampNeg)) := by
    intro k e n4 n7 q _ o
    rw [hp] at e
    rcases o with o | o
    · exact absurd (e.symm.trans o) n4
    · exact absurd (e.symm.trans o) n7
  have ar : wp (f_X4_isBad_135 S D 1 x1) (fun q => q = 0 → (g.2 2 x1.toNatClampNeg &&& 7 = 4 ∨ g.2 2 x1.toNatClampNeg &&& 7 = 7) → (g.2 2 x1.toNatClampNeg >>> ((4 : Int32) &&& 31) = 13 → Rg 0 64 (g.2 6 x1.toNatClampNeg))) := by
    unfold f_X4_isBad_135
    exact wp_pqs (q_isBadA13 hx1 h3 h4 h) (fun r p => wp_ck (rg_01 p.1 (by decide)) ⟨_, rfl, fun e _ => p.2 e⟩)
  have ju : ((gI D 2 x1.toNatClampNeg) &&& 7 ≠ 4) → ((gI D 2 x1.toNatClampNeg) &&& 7 ≠ 7) → wp (f_X4_isBad_141 S D 1 x1) (fun q => q = 0 → (g.2 2 x1.toNatClampNeg &&& 7 = 4 ∨ g.2 2 x1.toNatClampNeg &&& 7 = 7) → (g.2 2 x1.toNatClampNeg >>> ((4 : Int32) &&& 31) = 13 → Rg 0 64 (g.2 6 x1.toNatClampNeg))) := by
    intro n4 n7
    unfold f_X4_isBad_141
    exact wp_pqs (s_X4_isBadJump hx1 h3 h4 h) (fun r p => wp_ck (rg_01 p (by decide)) ⟨_, rfl, no _ rfl n4 n7⟩)
  refine wp_rq (iR_1_0 h) (wp_ix i0 (wp_if (fun c => ?_) (fun _ => wp_if (fun c => ?_) (fun _ => wp_if (fun c => ?_) (fun _ => wp_if (fun c => ?_) (fun _ => wp_if (fun _ => ar) (fun n4 => wp_if (fun c => ju n4 (by rw [c]; decide)) (fun _ => wp_if (fun c => ju n4 (by rw [c]; decide)) (fun _ => wp_if (fun _ => ar) (fun n7 => ju n4 n7)))))))))) 
  · exact wp_pqs (s_X4_isBadPair hx1 h3 h4 h) (fun r p => wp_ck (rg_01 p (by decide)) ⟨_, rfl, no _ c (by decide) (by decide)⟩)
  · exact wp_pqs (s_X4_isBadLoad hx1 h3 h4 h) (fun r p => wp_ck (rg_01 p (by decide)) ⟨_, rfl, no _ c (by decide) (by decide)⟩)
  · unfold f_X4_isBad_123
    exact wp_rq (iR_1_0 h) (wp_ix i0 (wp_if (fun _ => wp_rq (iR_1_2 h) (wp_ix i2 (wp_if (fun _ => ⟨_, rfl, no _ c (by decide) (by decide)⟩) (fun _ => ⟨_, rfl, one⟩)))) (fun _ => ⟨_, rfl, one⟩)))
  · exact wp_pqs (s_X4_isBadPut hx1 h3 h4 h) (fun r p => wp_ck (rg_01 p (by decide)) ⟨_, rfl, no _ c (by decide) (by decide)⟩)
theorem s_X4_isBad {g : gh} {S : sh} {D : dt} {x1 : Int32} (hx1 : Rg 0 199 x1) (h : Inv g S D) : wp (f_X4_isBad S D 1 x1) (fun q => Rg 0 1 q ∧ (q = 0 → Rg 0 10 (g.2 3 x1.toNatClampNeg) ∧ Rg 0 10 (g.2 4 x1.toNatClampNeg)) ∧ (q = 0 → (g.2 2 x1.toNatClampNeg &&& 7 = 4 ∨ g.2 2 x1.toNatClampNeg &&& 7 = 7) → (g.2 2 x1.toNatClampNeg >>> ((4 : Int32) &&& 31) = 13 → Rg 0 64 (g.2 6 x1.toNatClampNeg)))) := by
  obtain ⟨q, e, p1, p2⟩ := s0_X4_isBad (S := S) (D := D) hx1 h
  obtain ⟨q', e', p3⟩ := q_isBad13 (S := S) (D := D) hx1 h
  rw [e] at e'
  cases e'
  exact ⟨q, e, p1, p2, p3⟩
set_option maxRecDepth 100000 in
theorem s_X4_distance_25 {g : gh} {S : sh} {D : dt}  {x1 : Int32} (hx1 : Rg 0 199 x1) (h : Inv g S D) : wp (f_X4_distance_25 S D 1 x1) (fun q => True) := by
  unfold f_X4_distance_25
  refine wp_rq (iR_1_3 h) ?_
  refine wp_ix (in_rg hx1 (iA_5 h) (by decide)) ?_
  exact ⟨_, rfl, trivial⟩
set_option maxRecDepth 100000 in
theorem s_X4_distance {g : gh} {S : sh} {D : dt}  {x1 : Int32} (hx1 : Rg 0 199 x1) (h : Inv g S D) : wp (f_X4_distance S D 1 x1) (fun q => True) := by
  unfold f_X4_distance
  refine wp_pqs (s_X4_code hx1 h) (fun r23 q_r23 => ?_)
  obtain ⟨h_r23, p_r23⟩ := q_r23
  refine wp_if (fun c_1 => ?_) (fun c_1 => ?_)
  ·
    have h_2 : Rg 0 0 _ := rg_eq1 h_r23 rc_0 c_1 (by decide)
    refine wp_pqs (s_X4_isWide hx1 h) (fun r26 h_r26 => ?_)
    refine wp_if (fun c_3 => ?_) (fun c_3 => ?_)
    ·
      have h_4 : Rg 0 0 _ := rg_eq1 h_r26 rc_0 c_3 (by decide)
      refine wp_rq (iR_1_4 h) ?_
      refine wp_ix (in_rg hx1 (iA_6 h) (by decide)) ?_
      exact ⟨_, rfl, trivial⟩
    ·
      have h_5 : Rg 1 1 _ := rg_ne1 h_r26 rc_0 c_3 (by decide)
      exact s_X4_distance_25 hx1 h
  ·
    have h_6 : Rg 1 15 _ := rg_ne1 h_r23 rc_0 c_1 (by decide)
    exact s_X4_distance_25 hx1 h
def noP (S : sh) (D : dt) (o : Nat) (q : Int32) : Prop := Rg (-1) 31 q ∧ (0 ≤ q.toInt → q.toInt < (gI D o 3).toInt) ∧ (gI D o 0 = 0 → 0 ≤ q.toInt → q.toInt < sA S (o + 2))
theorem q_numberOf_32 {g : gh} {S : sh} {D : dt} {o0 : Nat} {x1 : Int64} (k : sK S o0 = 6) (h : Inv g S D) : ∀ (n : Nat) (x3 : Int32), Rg 0 32 x3 → 32 - x3.toInt < n → wp (f_X7_numberOf_32 S D n o0 x1 x3) (noP S D o0) := by
  intro n
  have t := iTE h k
  have u := iTU h k
  induction n with
  | zero =>
    intro x3 hx hm
    exact (ms_0 hx (by decide) hm).elim
  | succ n ih =>
    intro x3 hx hm
    have nx : x3.toInt < sA S (o0 + 2) → wp (f_X7_numberOf_63 S D (f_X7_numberOf_32 S D n) o0 x1 x3) (noP S D o0) := by
      intro lt
      unfold f_X7_numberOf_63
      refine wp_nmI (fun y ey => ?_)
      have hx' : Rg 0 31 x3 := ⟨hx.1, by omega⟩
      exact ih y (rg_eq ey (rg_add hx' (c := 1) (d := 1) (y := 1) (by decide) (by decide))) (by rw [ey]; exact ms_up hx' (by decide) hm)
    rw [f_X7_numberOf_32.eq_2]
    refine wp_rq (iTR2 h k) (wp_if (fun c => ?_) (fun c => ?_))
    · exact ⟨_, rfl, rm31, nonn rfl, fun _ => nonn rfl⟩
    · obtain ⟨i, lt⟩ := in_len hx.1 (by omega) c
      refine wp_rq (iTR2 h k) (wp_ix i (wp_if (fun _ => nx lt) (fun _ => ?_)))
      refine wp_rq (iTR1 h k) (wp_ix (by rw [t.1]; exact i) (wp_if (fun _ => ?_) (fun _ => nx lt)))
      exact ⟨_, rfl, (show Rg (-1) 31 x3 from ⟨by have := hx.1; omega, by omega⟩), (show 0 ≤ x3.toInt → x3.toInt < _ from fun _ => by omega), fun _ _ => lt⟩
theorem q_numberOf {g : gh} {S : sh} {D : dt} {o0 : Nat} {x1 : Int64} (k : sK S o0 = 6) (h : Inv g S D) : wp (f_X7_numberOf S D o0 x1) (noP S D o0) := by
  unfold f_X7_numberOf
  refine wp_if (fun c => ?_) (fun c => wp_if (fun c2 => ?_) (fun c2 => wp_if (fun c3 => ?_) (fun c3 => ?_)))
  · refine wp_nmI (fun y ey => ?_)
    subst ey
    exact q_numberOf_32 k h LF 0 (by unfold Rg; decide) (by decide)
  · exact ⟨_, rfl, rm31, nonn rfl, fun _ => nonn rfl⟩
  · exact ⟨_, rfl, rm31, nonn rfl, fun _ => nonn rfl⟩
  · have a := Int64.le_iff_toInt_le.mp (nlt64 (fun q => c2 ((lg_cmp_lt _ _).mpr q)))
    have b := Int64.lt_iff_toInt_lt.mp (nle64 (fun q => c3 ((lg_cmp_ge _ _).mpr q)))
    rw [Int32.toInt_toInt64] at b
    have e0 : (0 : Int64).toInt = 0 := rfl
    have t := iT3 h k
    unfold Rg at t
    have e : x1.toInt32.toInt = x1.toInt := by
      rw [Int64.toInt_toInt32]
      exact bm32 (by omega) (by omega)
    refine ⟨_, rfl, (show Rg (-1) 31 x1.toInt32 from ⟨by omega, by omega⟩), (show 0 ≤ x1.toInt32.toInt → x1.toInt32.toInt < _ from fun _ => by omega), fun q => absurd q c⟩
theorem s_X7_numberOf {g : gh} {S : sh} {D : dt} {o0 : Nat} {x1 : Int64} (ho0 : sK S o0 = 6) (h : Inv g S D) : wp (f_X7_numberOf S D o0 x1) (fun q => Rg (-1) 31 q) := wp_mono (q_numberOf ho0 h) (fun _ p => p.1)
theorem q_used {g : gh} {S : sh} {D : dt} {o0 p : Nat} {v : Int32} (k : sK S o0 = 6) (h : Inv g S D) : Inv g S (pI D (o0 + 2) p v) := inv_pI_by h (Or.inr (h.shp.2.2.2.2 o0 k).2.1)
theorem s_X7_removeKey {g : gh} {S : sh} {o0 : Nat} {x1 : Int64} {D : dt} (ho0 : sK S o0 = 6) (h : Inv g S D) : wp (f_X7_removeKey S o0 x1 D) (fun q => Rg 0 1 q.1 ∧ Inv g S q.2) := by
  unfold f_X7_removeKey
  refine wp_if (fun c => ?_) (fun c => ?_)
  · refine wp_pqs (q_numberOf ho0 h) (fun r p => ?_)
    unfold f_X7_removeKey_16
    refine wp_if (fun c2 => ?_) (fun c2 => ⟨_, rfl, r01_0, h⟩)
    have a := Int32.le_iff_toInt_le.mp c2
    have e0 : (0 : Int32).toInt = 0 := rfl
    refine wp_rq (iTR2 h ho0) (wp_ix (vp_in_iff.mpr ⟨by omega, p.2.2 c (by omega)⟩) (wp_nmI (fun D1 e1 => ?_)))
    subst e1
    exact ⟨_, rfl, r01_1, q_used ho0 h⟩
  · unfold f_X7_removeKey_16
    refine wp_if (fun c2 => absurd c2 (by decide)) (fun c2 => ⟨_, rfl, r01_0, h⟩)
def akP (g : gh) (S : sh) (D : dt) (o : Nat) (q : Int32 × dt) : Prop := Rg (-1) 31 q.1 ∧ (0 ≤ q.1.toInt → q.1.toInt < (gI D o 3).toInt) ∧ gI q.2 7 7 = gI D 7 7 ∧ gI q.2 o 2 = gI D o 2 ∧ gI q.2 o 3 = gI D o 3 ∧ gR q.2 7 6 = gR D 7 6 ∧ Inv g S q.2
theorem q_addKey_2 {g : gh} {S : sh} {D : dt} {o0 : Nat} {x1 : Int64} (k : sK S o0 = 6) (h : Inv g S D) : ∀ (n : Nat) (x3 : Int32), Rg 0 32 x3 → 32 - x3.toInt < n → wp (f_X7_addKey_2 S n o0 x1 x3 D) (akP g S D o0) := by
  intro n
  have t := iTE h k
  have u := iTU h k
  induction n with
  | zero =>
    intro x3 hx hm
    exact (ms_0 hx (by decide) hm).elim
  | succ n ih =>
    intro x3 hx hm
    rw [f_X7_addKey_2.eq_2]
    refine wp_rq (iTR2 h k) (wp_if (fun c => ?_) (fun c => ?_))
    · exact ⟨_, rfl, rm31, nonn rfl, rfl, rfl, rfl, rfl, h⟩
    · obtain ⟨i, lt⟩ := in_len hx.1 (by omega) c
      have hx' : Rg 0 31 x3 := ⟨hx.1, by omega⟩
      have k3 := (h.shp.2.2.2.2 o0 k).2.1
      refine wp_rq (iTR2 h k) (wp_ix i (wp_if (fun _ => ?_) (fun _ => ?_)))
      · refine wp_rq (iTR2 h k) (wp_ix i (wp_nmI (fun D1 e1 => ?_)))
        have h1 : Inv g S D1 := by rw [e1]; exact q_used k h
        refine wp_rq (iTR1 h1 k) (wp_ix (by rw [t.1]; exact i) (wp_nmI (fun D2 e2 => ?_)))
        have h2 : Inv g S D2 := by rw [e2]; exact inv_pL_tk h1 k
        have n7 : 7 ≠ o0 + 2 := by
          intro e
          rw [← e, (h.shp.2.1 7 (by decide)).1] at k3
          revert k3
          decide
        refine ⟨_, rfl, (show Rg (-1) 31 x3 from ⟨by have := hx.1; omega, by omega⟩), (show 0 ≤ x3.toInt → x3.toInt < _ from fun _ => by omega), ?_, ?_, ?_, ?_, h2⟩
        · show gI D2 7 7 = _
          rw [e2, gI_pL, e1, gI_pI, if_neg (fun q => n7 q.1)]
        · show gI D2 o0 2 = _
          rw [e2, gI_pL, e1, gI_pI, if_neg (fun q => by omega)]
        · show gI D2 o0 3 = _
          rw [e2, gI_pL, e1, gI_pI, if_neg (fun q => by omega)]
        · show gR D2 7 6 = _
          rw [e2, gR_pL, e1, gR_pI]
      · refine wp_nmI (fun y ey => ?_)
        exact ih y (rg_eq ey (rg_add hx' (c := 1) (d := 1) (y := 1) (by decide) (by decide))) (by rw [ey]; exact ms_up hx' (by decide) hm)
theorem q_addKey {g : gh} {S : sh} {D : dt} {o0 : Nat} {x1 : Int64} (k : sK S o0 = 6) (h : Inv g S D) : wp (f_X7_addKey S o0 x1 D) (akP g S D o0) := by
  unfold f_X7_addKey
  refine wp_nmI (fun y ey => ?_)
  subst ey
  exact q_addKey_2 k h LF 0 (by unfold Rg; decide) (by decide)
theorem q_numberToPut_29 {g : gh} {S : sh} {D : dt} {o0 : Nat} {x1 x3 : Int64} (k : sK S o0 = 6) (h : Inv g S D) : wp (f_X7_numberToPut_29 S o0 x1 x3 D) (akP g S D o0) := by
  unfold f_X7_numberToPut_29
  have no : akP g S D o0 ((-1 : Int32), D) := ⟨rm31, nonn rfl, rfl, rfl, rfl, rfl, h⟩
  refine wp_pqs (q_numberOf k h) (fun r p => wp_if (fun _ => wp_if (fun _ => ⟨_, rfl, no⟩) (fun _ => ?_)) (fun _ => wp_if (fun _ => ⟨_, rfl, no⟩) (fun _ => ⟨_, rfl, p.1, p.2.1, rfl, rfl, rfl, rfl, h⟩)))
  exact wp_cqs (q_addKey k h) (fun r D1 p => ⟨_, rfl, p⟩)
theorem q_numberToPut {g : gh} {S : sh} {D : dt} {o0 : Nat} {x1 x3 : Int64} (k : sK S o0 = 6) (h : Inv g S D) : wp (f_X7_numberToPut S o0 x1 x3 D) (akP g S D o0) := by
  unfold f_X7_numberToPut
  have no : akP g S D o0 ((-1 : Int32), D) := ⟨rm31, nonn rfl, rfl, rfl, rfl, rfl, h⟩
  exact wp_if (fun _ => ⟨_, rfl, no⟩) (fun _ => wp_if (fun _ => ⟨_, rfl, no⟩) (fun _ => wp_if (fun _ => q_numberToPut_29 k h) (fun _ => wp_if (fun _ => ⟨_, rfl, no⟩) (fun _ => q_numberToPut_29 k h))))
theorem q_keyCount_4 {g : gh} {S : sh} {D : dt} {o0 : Nat} (k : sK S o0 = 6) (h : Inv g S D) : ∀ (n : Nat) (x1 x2 : Int32), Rg 0 32 x2 → 32 - x2.toInt < n → wp (f_X7_keyCount_4 S D n o0 x1 x2) (fun _ => True) := by
  intro n
  have t := iTE h k
  induction n with
  | zero =>
    intro x1 x2 hx hm
    exact (ms_0 hx (by decide) hm).elim
  | succ n ih =>
    intro x1 x2 hx hm
    rw [f_X7_keyCount_4.eq_2]
    refine wp_rq (iTR2 h k) (wp_if (fun c => wp_if (fun _ => ⟨_, rfl, trivial⟩) (fun _ => ⟨_, rfl, trivial⟩)) (fun c => ?_))
    obtain ⟨i, lt⟩ := in_len hx.1 (by omega) c
    have hx' : Rg 0 31 x2 := ⟨hx.1, by omega⟩
    have nx : ∀ v, wp (f_X7_keyCount_28 S D (f_X7_keyCount_4 S D n) o0 x2 x1 v) (fun _ => True) := by
      intro v
      unfold f_X7_keyCount_28
      refine wp_nmI (fun z _ => wp_nmI (fun y ey => ?_))
      exact ih z y (rg_eq ey (rg_add hx' (c := 1) (d := 1) (y := 1) (by decide) (by decide))) (by rw [ey]; exact ms_up hx' (by decide) hm)
    exact wp_rq (iTR2 h k) (wp_ix i (wp_if (fun _ => nx 0) (fun _ => nx 1)))
theorem s_X7_keyCount {g : gh} {S : sh} {D : dt} {o0 : Nat} (ho0 : sK S o0 = 6) (h : Inv g S D) : wp (f_X7_keyCount S D o0) (fun q => True) := by
  unfold f_X7_keyCount
  refine wp_nmI (fun y ey => wp_nmI (fun z ez => ?_))
  subst ez
  exact q_keyCount_4 ho0 h LF y 0 (by unfold Rg; decide) (by decide)
set_option maxRecDepth 100000 in
theorem s_X2_resizeContext_7 {g : gh} {S : sh}  : ∀ (n : Nat) (x1 : Int32) (x2 : Int32) (x3 : Int32) (D : dt), Rg 0 256 x1 → Rg 0 256 x2 → Rg 0 256 x3 → 256 - x3.toInt < (n : Int) → Inv g S D → wp (f_X2_resizeContext_7 S n 7 x1 x2 x3 D) (fun q => Rg 0 256 q.1 ∧ Inv g S q.2) := by
  intro n
  induction n with
  | zero =>
    intro x1 x2 x3 D hx1 hx2 hx3 hm h
    exact (ms_0 hx3 (by decide) hm).elim
  | succ n ih =>
    intro x1 x2 x3 D hx1 hx2 hx3 hm h
    rw [f_X2_resizeContext_7.eq_2]
    refine wp_if (fun c_1 => ?_) (fun c_1 => ?_)
    ·
      refine wp_nmI (fun D12 e_D12 => ?_)
      have h_D12 : Inv g S D12 := by rw [e_D12]; exact inv_i7 h hx1
      exact ⟨_, rfl, hx2, h_D12⟩
    ·
      have h_2 : Rg 0 255 _ := rg_lt1 hx3 hx1 (nle32 c_1) (by decide)
      have h_3 : Rg 1 256 _ := rg_lt2 hx3 hx1 (nle32 c_1) (by decide)
      refine wp_rq (iR_7_0 h) ?_
      refine wp_ix (in_rg h_2 (iA_8 h) (by decide)) ?_
      refine wp_nmI (fun D18 e_D18 => ?_)
      have h_D18 : Inv g S D18 := by rw [e_D18]; exact inv_i8 h (rg_top _)
      refine wp_nmI (fun y19 e_y19 => ?_)
      have h_y19 : Rg 1 256 y19 := rg_eq e_y19 (rg_add h_2 rc_1 (by decide) : Rg 1 256 _)
      exact ih _ _ _ _ (rg_w h_3 (by decide)) hx2 (rg_w h_y19 (by decide)) (by rw [e_y19]; exact ms_up h_2 (by decide) hm) h_D18
set_option maxRecDepth 100000 in
theorem s_X2_resizeContext {g : gh} {S : sh}  {x1 : Int32} {D : dt} (hx1 : Rg 0 256 x1) (h : Inv g S D) : wp (f_X2_resizeContext S 7 x1 D) (fun q => Rg 0 256 q.1 ∧ Inv g S q.2) := by
  unfold f_X2_resizeContext
  refine wp_nmI (fun y20 e_y20 => ?_)
  have h_y20 : Rg 0 256 y20 := rg_eq e_y20 (iF_7_1 h)
  exact s_X2_resizeContext_7  LF _ _ _ _ hx1 h_y20 h_y20 (ms_in h_y20 (by decide)) h
set_option maxRecDepth 100000 in
theorem s_X2_tableNumbered_12 {g : gh} {S : sh} {D : dt}    (h : Inv g S D) : wp (f_X2_tableNumbered_12 S D) (fun q => (∀ x, q = some x → sK S x = 6)) := by
  unfold f_X2_tableNumbered_12
  exact ⟨_, rfl, (fun _ q => nomatch q)⟩
set_option maxRecDepth 100000 in
theorem s_X2_tableNumbered {g : gh} {S : sh} {D : dt}  {x1 : Int32}  (h : Inv g S D) : wp (f_X2_tableNumbered S D 7 x1) (fun q => (∀ x, q = some x → sK S x = 6)) := by
  unfold f_X2_tableNumbered
  refine wp_if (fun c_1 => ?_) (fun c_1 => ?_)
  ·
    have h_2 : Rg (-2147483648) (-1) _ := rg_lt1 (rg_top _) rc_0 c_1 (by decide)
    exact s_X2_tableNumbered_12 h
  ·
    have h_3 : Rg 0 2147483647 _ := rg_le2 rc_0 (rg_top _) (nlt32 c_1) (by decide)
    refine wp_if (fun c_4 => ?_) (fun c_4 => ?_)
    ·
      have h_5 : Rg 0 3 _ := rg_lt1 h_3 (iF_7_4 h) c_4 (by decide)
      have h_6 : Rg 1 4 _ := rg_lt2 h_3 (iF_7_4 h) c_4 (by decide)
      refine wp_rq (iR_7_3 h) ?_
      refine wp_ix (in_rg h_5 (iA_10 h) (by decide)) ?_
      refine wp_oq (fun e_z_7 => ?_) (fun z_7 e_z_7 => ?_)
      ·
        exact ⟨_, rfl, (fun _ q => nomatch q)⟩
      ·
        have k_z_7 := iTab h e_z_7
        exact ⟨_, rfl, (fun _ q => by cases q; exact k_z_7)⟩
    ·
      exact s_X2_tableNumbered_12 h
/-- find() has found n octets -/
def FdN (S : sh) (D : dt) (n : Int) : Prop := ∃ x, gR D 7 6 = some x ∧ sK S x = 102 ∧ 0 ≤ (gI D 7 7).toInt ∧ (gI D 7 7).toInt + n ≤ sA S x ∧ sA S x ≤ 1024
def fiP (g : gh) (S : sh) (D0 : dt) (n : Int) (q : Int32 × dt) : Prop := Rg 0 1 q.1 ∧ ((q.1 ≠ 0 → FdN S q.2 n) ∧ (∀ a b, a ≠ 7 → gI q.2 a b = gI D0 a b)) ∧ Inv g S q.2
theorem fi_no {g : gh} {S : sh} {D : dt} {n : Int} (h : Inv g S D) : fiP g S D n ((0 : Int32), D) := ⟨r01_0, ⟨fun q => absurd rfl q, fun _ _ _ => rfl⟩, h⟩
theorem fi_yes {g : gh} {S : sh} {D D0 : dt} {n : Int} {r : Int32} (e : r = 1) (f : FdN S D n) (fr : ∀ a b, a ≠ 7 → gI D a b = gI D0 a b) (h : Inv g S D) : fiP g S D0 n (r, D) := ⟨by subst e; exact r01_1, ⟨fun _ => f, fr⟩, h⟩
theorem tb_oct {g : gh} {S : sh} {D : dt} {o : Nat} (h : Inv g S D) (k : sK S o = 6) : sA S (o + 3) ≤ 1024 := by
  have e := iTL h k
  have a := iT2 h k
  have b := iT3 h k
  have : (gI D o 2).toInt * (gI D o 3).toInt ≤ 1024 := mul_hi a.1 a.2 b.1 b.2 (by decide)
  omega
theorem q_findValue_28 {g : gh} {S : sh} {D : dt} {x1 : Int64} {x3 : Int32} {os0 : Option Nat} (hx3 : Rg 1 32 x3) (hos : ∀ x, os0 = some x → sK S x = 6) (h : Inv g S D) : wp (f_X2_findValue_28 S 7 x1 x3 os0 D) (fiP g S D x3.toInt) := by
  unfold f_X2_findValue_28
  refine wp_oq (fun _ => wp_nm (wp_nm ⟨_, rfl, fi_no h⟩)) (fun o e => ?_)
  have k := hos o e
  refine wp_nmI (fun y1 e1 => wp_nmI (fun y2 e2 => ?_))
  have h1 : Rg 0 4095 y1 := rg_eq e1 (rg_andr _ (by decide))
  have h2 : Rg 0 4095 y2 := rg_eq e2 (rg_andr _ (by decide))
  have v2 := iT2 h k
  have v3 := iT3 h k
  refine wp_if (fun _ => ⟨_, rfl, fi_no h⟩) (fun c => wp_if (fun c2 => ?_) (fun _ => ⟨_, rfl, fi_no h⟩))
  have c := Int32.lt_iff_toInt_lt.mp (nle32 c)
  have c2 := Int32.le_iff_toInt_le.mp c2
  rw [i32_sub v2 hx3 (by decide)] at c2
  refine wp_rq (iTR3 h k) (wp_nmI (fun D1 d1 => wp_nmI (fun D2 d2 => ⟨_, rfl, fi_yes rfl ?_ (fun a b n => by rw [d2, gI_pI, if_neg (fun q => n q.1), d1, gI_pR]) ?_⟩)))
  · have g7 : gI D1 o 2 = gI D o 2 := by rw [d1, gI_pR]
    have hm : Rg 0 992 (y1 * gI D o 2) := rg_mul (a := 0) (b := 31) ⟨h1.1, by have := v3.2; omega⟩ v2 (by decide)
    have em : (y1 * gI D o 2).toInt = y1.toInt * (gI D o 2).toInt := by
      rw [Int32.toInt_mul]
      have q1 : 0 ≤ y1.toInt * (gI D o 2).toInt := Int.mul_nonneg h1.1 (by have := v2.1; omega)
      have q2 : y1.toInt * (gI D o 2).toInt ≤ 992 := mul_hi (a := 0) (b := 31) (c := 1) (d := 32) h1.1 (by have := v3.2; omega) v2.1 v2.2 (by decide)
      exact bm32 (by omega) (by omega)
    have ea : (y1 * gI D o 2 + y2).toInt = y1.toInt * (gI D o 2).toInt + y2.toInt := by rw [i32_add hm h2 (by decide), em]
    have hb : (y1.toInt + 1) * (gI D o 2).toInt ≤ (gI D o 2).toInt * (gI D o 3).toInt := by
      rw [Int.mul_comm (gI D o 2).toInt]
      exact Int.mul_le_mul_of_nonneg_right (by omega) (by have := v2.1; omega)
    rw [Int.add_mul, Int.one_mul] at hb
    have el := iTL h k
    refine ⟨o + 3, ?_, (h.shp.2.2.2.2 o k).2.2.1, ?_, ?_, tb_oct h k⟩
    · show gR D2 7 6 = _
      rw [d2, gR_pI, d1, gR_pR, if_pos ⟨rfl, rfl⟩]
    · show 0 ≤ (gI D2 7 7).toInt
      rw [d2, gI_pI, if_pos ⟨rfl, rfl⟩, g7, ea]
      have := h2.1
      have q1 : 0 ≤ y1.toInt * (gI D o 2).toInt := Int.mul_nonneg h1.1 (by have := v2.1; omega)
      omega
    · show (gI D2 7 7).toInt + x3.toInt ≤ _
      rw [d2, gI_pI, if_pos ⟨rfl, rfl⟩, g7, ea, el]
      omega
  · have i1 : Inv g S D1 := by rw [d1]; exact inv_fnd h (h.shp.2.2.2.2 o k).2.2.1
    show Inv g S D2
    rw [d2]
    exact inv_i7 i1 (rg_top _)
theorem q_findValue {g : gh} {S : sh} {D : dt} {x1 : Int64} {x3 : Int32} (hx3 : Rg 1 32 x3) (h : Inv g S D) : wp (f_X2_findValue S 7 x1 x3 D) (fiP g S D x3.toInt) := by
  unfold f_X2_findValue
  refine wp_nmI (fun y ey => wp_if (fun _ => q_findValue_28 hx3 (fun _ q => nomatch q) h) (fun _ => ?_))
  refine wp_pqs (s_X2_tableNumbered h) (fun r p => wp_oq (fun _ => q_findValue_28 hx3 (fun _ q => nomatch q) h) (fun o e => ?_))
  exact q_findValue_28 hx3 (fun x q => by cases q; exact p _ e) h
theorem q_findIn {g : gh} {S : sh} {D : dt} {o1 : Nat} {x2 : Int64} {x4 x5 : Int32} (k : sK S o1 = 102) (h4 : Rg 0 512 x4) (hl : x4.toInt ≤ sA S o1) (hm : sA S o1 ≤ 1024) (hx5 : Rg 1 32 x5) (h : Inv g S D) : wp (f_X2_findIn S 7 o1 x2 x4 x5 D) (fiP g S D x5.toInt) := by
  unfold f_X2_findIn
  refine wp_if (fun _ => ⟨_, rfl, fi_no h⟩) (fun c => wp_if (fun c2 => ?_) (fun _ => ⟨_, rfl, fi_no h⟩))
  have c := Int64.le_iff_toInt_le.mp (nlt64 (fun q => c ((lg_cmp_lt _ _).mpr q)))
  have c2 := Int64.le_iff_toInt_le.mp ((lg_cmp_le _ _).mp c2)
  rw [Int32.toInt_toInt64, i32_sub h4 hx5 (by decide)] at c2
  have e0 : (0 : Int64).toInt = 0 := rfl
  have e : x2.toInt32.toInt = x2.toInt := by
    rw [Int64.toInt_toInt32]
    have := h4.2
    have := hx5.1
    exact bm32 (by omega) (by omega)
  refine wp_nmI (fun D1 d1 => wp_nmI (fun D2 d2 => ⟨_, rfl, fi_yes rfl ⟨o1, ?_, k, ?_, ?_, hm⟩ (fun a b n => by rw [d2, gI_pI, if_neg (fun q => n q.1), d1, gI_pR]) ?_⟩))
  · show gR D2 7 6 = _
    rw [d2, gR_pI, d1, gR_pR, if_pos ⟨rfl, rfl⟩]
  · show 0 ≤ (gI D2 7 7).toInt
    rw [d2, gI_pI, if_pos ⟨rfl, rfl⟩, e]
    omega
  · show (gI D2 7 7).toInt + x5.toInt ≤ _
    rw [d2, gI_pI, if_pos ⟨rfl, rfl⟩, e]
    omega
  · have i1 : Inv g S D1 := by rw [d1]; exact inv_fnd h k
    show Inv g S D2
    rw [d2]
    exact inv_i7 i1 (rg_top _)
theorem s_X2_find {g : gh} {S : sh} {x1 : Int64} {x3 : Int32} {x4 : Int32} {D : dt} (hx3 : Rg 1 32 x3) (hx4 : Rg 0 1 x4) (h : Inv g S D) : wp (f_X2_find S 7 x1 x3 x4 D) (fun q => Rg 0 1 q.1 ∧ ((q.1 ≠ 0 → FdN S q.2 x3.toInt) ∧ (∀ a b, a ≠ 7 → gI q.2 a b = gI D a b)) ∧ Inv g S q.2) := by
  unfold f_X2_find
  have k8 : sK S 8 = 102 := (h.shp.2.1 8 (by decide)).1
  have k9 : sK S 9 = 102 := (h.shp.2.1 9 (by decide)).1
  refine wp_if (fun _ => wp_nmI (fun y ey => wp_if (fun _ => wp_if (fun _ => ?_) (fun _ => ⟨_, rfl, fi_no h⟩)) (fun _ => ?_))) (fun _ => ?_)
  · refine wp_rq (iR_7_0 h) (wp_cqs (q_findIn k8 (rg_w (iF_7_1 h) (by decide)) (by rw [iA_8 h]; exact (iF_7_1 h).2) (by rw [iA_8 h]; decide) hx3 h) (fun r D1 p => wp_if (fun _ => ⟨_, rfl, r01_0, ⟨fun q => absurd rfl q, p.2.1.2⟩, p.2.2⟩) (fun c => ⟨_, rfl, fi_yes rfl (p.2.1.1 c) p.2.1.2 p.2.2⟩)))
  · refine wp_rq (iR_7_2 h) (wp_cqs (q_findIn k9 (by decide) (by rw [iA_9 h]; decide) (by rw [iA_9 h]; decide) hx3 h) (fun r D1 p => wp_ck (rg_01 p.1 (by decide)) ⟨_, rfl, p⟩))
  · exact wp_cqs (q_findValue hx3 h) (fun r D1 p => wp_ck (rg_01 p.1 (by decide)) ⟨_, rfl, p⟩)
theorem q_foundNumber_7 {g : gh} {S : sh} {D : dt} {m : Int} (hfd : FdN S D m) (h : Inv g S D) : ∀ (n : Nat) (x2 : Int64) (x4 : Int32), Rg (-1) 31 x4 → x4.toInt < m → x4.toInt - (-1) < n → wp (f_X2_foundNumber_7 S D n 7 x2 x4) (fun _ => True) := by
  obtain ⟨x, e1, e2, e3, e4, e5⟩ := hfd
  intro n
  induction n with
  | zero =>
    intro x2 x4 hx hl hm
    exact (ms_d0 hx (by decide) hm).elim
  | succ n ih =>
    intro x2 x4 hx hl hm
    rw [f_X2_foundNumber_7.eq_2]
    refine wp_if (fun _ => ⟨_, rfl, trivial⟩) (fun c => ?_)
    have hx' : Rg 0 31 x4 := rg_le2 (by decide : Rg 0 0 (0 : Int32)) hx (nlt32 c) (by decide)
    have ea := i32_add (x := gI D 7 7) (y := x4) (a := 0) (b := 1024) ⟨e3, by have := hx'.1; omega⟩ hx' (by decide)
    refine wp_rq e1 (wp_ix (vp_in_iff.mpr ⟨by have := hx'.1; omega, by omega⟩) (wp_nmI (fun y _ => wp_nmI (fun z ez => ?_))))
    have ez1 : z.toInt = x4.toInt + -1 := by
      rw [ez]
      exact i32_add hx' (by decide : Rg (-1) (-1) (-1 : Int32)) (by decide)
    exact ih y z ⟨by have := hx'.1; omega, by have := hx'.2; omega⟩ (by omega) (by omega)
theorem s_X2_foundNumber {g : gh} {S : sh} {D : dt} {x1 : Int32} (hx1 : Rg 1 32 x1) (hfd : FdN S D x1.toInt) (h : Inv g S D) : wp (f_X2_foundNumber S D 7 x1) (fun q => True) := by
  unfold f_X2_foundNumber
  refine wp_nmI (fun y _ => wp_nmI (fun z ez => ?_))
  have e : z.toInt = x1.toInt - 1 := by
    rw [ez]
    exact i32_sub hx1 (by decide : Rg 1 1 (1 : Int32)) (by decide)
  have a := hx1.1
  have b := hx1.2
  refine q_foundNumber_7 hfd h LF y z ⟨by omega, by omega⟩ (by omega) ?_
  show z.toInt - -1 < 20000
  omega
theorem FdN.put {g : gh} {S : sh} {D : dt} {m : Int} {x p : Nat} {v : Int32} (h : Inv g S D) (k : sK S x = 102) (f : FdN S D m) : FdN S (pI D x p v) m := by
  have n7 : 7 ≠ x := by
    intro e
    rw [← e, (h.shp.2.1 7 (by decide)).1] at k
    revert k
    decide
  obtain ⟨y, e1, e2, e3, e4, e5⟩ := f
  refine ⟨y, e1, e2, ?_, ?_, e5⟩
  · rw [gI_pI, if_neg (fun q => n7 q.1)]
    exact e3
  · rw [gI_pI, if_neg (fun q => n7 q.1)]
    exact e4
theorem q_writeFound_3 {g : gh} {S : sh} {x1 : Int64} {x3 : Int32} (hx3 : Rg 1 8 x3) : ∀ (n : Nat) (x4 : Int32) (D : dt), Rg 0 8 x4 → 8 - x4.toInt < n → FdN S D x3.toInt → Inv g S D → wp (f_X2_writeFound_3 S n 7 x1 x3 x4 D) (fun q => Inv g S q.2) := by
  intro n
  induction n with
  | zero =>
    intro x4 D hx hm hf h
    exact (ms_0 hx (by decide) hm).elim
  | succ n ih =>
    intro x4 D hx hm hf h
    rw [f_X2_writeFound_3.eq_2]
    refine wp_if (fun _ => ⟨_, rfl, h⟩) (fun c => ?_)
    have lt := Int32.lt_iff_toInt_lt.mp (nle32 c)
    have hx' : Rg 0 7 x4 := ⟨hx.1, by have := hx3.2; omega⟩
    have hf0 := hf
    obtain ⟨x, e1, e2, e3, e4, e5⟩ := hf
    have ea := i32_add (x := gI D 7 7) (y := x4) (a := 0) (b := 1024) ⟨e3, by have := hx'.1; omega⟩ hx' (by decide)
    refine wp_rq e1 (wp_ix (vp_in_iff.mpr ⟨by have := hx'.1; omega, by omega⟩) (wp_nmI (fun D1 d1 => wp_nmI (fun y ey => ?_))))
    subst d1
    exact ih y _ (rg_eq ey (rg_add hx' (by decide : Rg 1 1 (1 : Int32)) (by decide))) (by rw [ey]; exact ms_up hx' (by decide) hm) (hf0.put h e2) (inv_pI_by h (Or.inl e2))
theorem s_X2_writeFound {g : gh} {S : sh} {x1 : Int64} {x3 : Int32} {D : dt} (hx3 : Rg 1 8 x3) (hfd : FdN S D x3.toInt) (h : Inv g S D) : wp (f_X2_writeFound S 7 x1 x3 D) (fun q => Inv g S q.2) := by
  unfold f_X2_writeFound
  refine wp_nmI (fun y ey => ?_)
  subst ey
  exact q_writeFound_3 hx3 LF 0 D (by decide) (by decide) hfd h
set_option maxRecDepth 100000 in
theorem s_X2_tableAt_22 {g : gh} {S : sh} {D : dt}    (h : Inv g S D) : wp (f_X2_tableAt_22 S D) (fun q => Rg (-1) 3 q) := by
  unfold f_X2_tableAt_22
  exact ⟨_, rfl, (rg_w rc_m1 (by decide))⟩
set_option maxRecDepth 100000 in
theorem s_X2_tableAt {g : gh} {S : sh} {D : dt}  {x1 : Int64}  (h : Inv g S D) : wp (f_X2_tableAt S D 7 x1) (fun q => Rg (-1) 3 q) := by
  unfold f_X2_tableAt
  refine wp_nmI (fun y4 e_y4 => ?_)
  refine wp_if (fun c_1 => ?_) (fun c_1 => ?_)
  ·
    have h_2 : RgL (-9223372036854775808) (-1) _ := rgl_lt1 (rgl_top _) rcl_0 ((lg_cmp_lt _ _).mp c_1) (by decide)
    exact s_X2_tableAt_22 h
  ·
    have h_3 : RgL 0 9223372036854775807 _ := rgl_le2 rcl_0 (rgl_top _) (nlt64 (fun q => c_1 ((lg_cmp_lt _ _).mpr q))) (by decide)
    refine wp_if (fun c_4 => ?_) (fun c_4 => ?_)
    ·
      have h_5 : RgL 0 3 _ := rgl_lt1 h_3 (rgl_of (iF_7_4 h) : RgL 0 4 _) ((lg_cmp_lt _ _).mp c_4) (by decide)
      have h_6 : RgL 1 4 _ := rgl_lt2 h_3 (rgl_of (iF_7_4 h) : RgL 0 4 _) ((lg_cmp_lt _ _).mp c_4) (by decide)
      have h_7 : Rg 1 4 _ := rg_of32 h_6
      exact ⟨_, rfl, (rg_w (rg_of h_5 (by decide) : Rg 0 3 _) (by decide))⟩
    ·
      exact s_X2_tableAt_22 h
theorem q_copyFoundTo_2 {g : gh} {S : sh} {o1 : Nat} {x2 : Int32} {vs : Int} (k : sK S o1 = 6) (he : 0 ≤ x2.toInt) : ∀ (n : Nat) (x3 : Int32) (D : dt), (gI D o1 2).toInt = vs → x2.toInt < (gI D o1 3).toInt → Rg 0 32 x3 → 32 - x3.toInt < n → FdN S D vs → Inv g S D → wp (f_X2_copyFoundTo_2 S n 7 o1 x2 x3 D) (fun q => Inv g S q.2) := by
  intro n
  induction n with
  | zero =>
    intro x3 D hv hl hx hm hf h
    exact (ms_0 hx (by decide) hm).elim
  | succ n ih =>
    intro x3 D hv hl hx hm hf h
    have v2 := iT2 h k
    have v3 := iT3 h k
    rw [f_X2_copyFoundTo_2.eq_2]
    refine wp_if (fun _ => ⟨_, rfl, h⟩) (fun c => ?_)
    have lt := Int32.lt_iff_toInt_lt.mp (nle32 c)
    have hx' : Rg 0 31 x3 := ⟨hx.1, by have := v2.2; omega⟩
    have hf0 := hf
    obtain ⟨x, e1, e2, e3, e4, e5⟩ := hf
    have ea := i32_add (x := gI D 7 7) (y := x3) (a := 0) (b := 1024) ⟨e3, by have := hx'.1; omega⟩ hx' (by decide)
    have r2 : Rg 0 31 x2 := ⟨he, by have := v3.2; omega⟩
    have hm2 : Rg 0 992 (x2 * gI D o1 2) := rg_mul r2 v2 (by decide)
    have em : (x2 * gI D o1 2).toInt = x2.toInt * (gI D o1 2).toInt := by
      rw [Int32.toInt_mul]
      have q1 : 0 ≤ x2.toInt * (gI D o1 2).toInt := Int.mul_nonneg he (by have := v2.1; omega)
      have q2 : x2.toInt * (gI D o1 2).toInt ≤ 992 := mul_hi r2.1 r2.2 v2.1 v2.2 (by decide)
      exact bm32 (by omega) (by omega)
    have eb := i32_add hm2 hx' (by decide)
    have hb : (x2.toInt + 1) * (gI D o1 2).toInt ≤ (gI D o1 2).toInt * (gI D o1 3).toInt := by
      rw [Int.mul_comm (gI D o1 2).toInt]
      exact Int.mul_le_mul_of_nonneg_right (by omega) (by have := v2.1; omega)
    rw [Int.add_mul, Int.one_mul] at hb
    have el := iTL h k
    have q1 : 0 ≤ x2.toInt * (gI D o1 2).toInt := Int.mul_nonneg he (by have := v2.1; omega)
    have k3 := (h.shp.2.2.2.2 o1 k).2.2.1
    refine wp_rq (iTR3 h k) (wp_rq e1 (wp_ix (vp_in_iff.mpr ⟨by have := hx'.1; omega, by omega⟩) (wp_ix (vp_in_iff.mpr ⟨by have := hx'.1; omega, by omega⟩) (wp_nmI (fun D1 d1 => wp_nmI (fun y ey => ?_))))))
    have no : o1 ≠ o1 + 3 := by omega
    subst d1
    refine ih y _ ?_ ?_ (rg_eq ey (rg_add hx' (by decide : Rg 1 1 (1 : Int32)) (by decide))) (by rw [ey]; exact ms_up hx' (by decide) hm) (hf0.put h k3) (inv_pI_by h (Or.inl k3))
    · rw [gI_pI, if_neg (fun q => no q.1)]
      exact hv
    · rw [gI_pI, if_neg (fun q => no q.1)]
      exact hl
