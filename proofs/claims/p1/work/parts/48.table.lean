def Lo (D : dt) : Prop := ∀ o j, o < 66 → gI D o j = gI DM o j ∧ gL D o j = gL DM o j ∧ gR D o j = gR DM o j
theorem Lo.ag {D : dt} (h : Lo D) : Ag D := fun o j _ h2 => h o j h2
theorem Lo.pI {D : dt} (h : Lo D) {o j : Nat} {x : Int32} (ho : 66 ≤ o) : Lo (pI D o j x) := fun a b h2 => by
  rw [gI_pI, gL_pI, gR_pI, if_neg (fun q => by omega)]; exact h a b h2
theorem Lo.pR {D : dt} (h : Lo D) {o j : Nat} {x : Option Nat} (ho : 66 ≤ o) : Lo (pR D o j x) := fun a b h2 => by
  rw [gI_pR, gL_pR, gR_pR, if_neg (fun q => by omega)]; exact h a b h2
theorem Lo.aD {S : sh} {D : dt} (h : Lo D) (ho : 66 ≤ sN S) : Lo (aD S D) := fun a b h2 => by
  rw [gI_aD, gL_aD, gR_aD, if_neg (by omega), if_neg (by omega), if_neg (by omega)]; exact h a b h2
/-- the world behind a table's making: the old part as it was, not much more room taken -/
def Fr (S : sh) (D : dt) (z : Nat) : Prop := Lo D ∧ Ext SM S ∧ sN S ≤ 100 ∧ sZ S ≤ sZ SM + z
theorem Fr.new {S : sh} {D : dt} {z : Nat} (h : Fr S D z) (hn : sN S < 100) (κ n y : Nat) : Fr (aS S κ n y) (aD S D) (z + y) := by
  obtain ⟨h1, h2, h3, h4⟩ := h
  have e := h2.1
  rw [SM_n] at e
  exact ⟨h1.aD e, h2.tr (Ext.aS _ _ _ _), by rw [sN_aS]; omega, by rw [sZ_aS]; omega⟩
theorem Fr.pI {S : sh} {D : dt} {z : Nat} (h : Fr S D z) {o j : Nat} {x : Int32} (ho : 66 ≤ o) : Fr S (pI D o j x) z := ⟨h.1.pI ho, h.2⟩
theorem Fr.pR {S : sh} {D : dt} {z : Nat} (h : Fr S D z) {o j : Nat} {x : Option Nat} (ho : 66 ≤ o) : Fr S (pR D o j x) z := ⟨h.1.pR ho, h.2⟩
theorem Fr.mono {S : sh} {D : dt} {z z' : Nat} (h : Fr S D z) (hz : z ≤ z') : Fr S D z' := ⟨h.1, h.2.1, h.2.2.1, Nat.le_trans h.2.2.2 (Nat.add_le_add_left hz _)⟩
theorem i32_mul {v n : Int32} (hv : 1 ≤ v.toInt ∧ v.toInt ≤ 32) (hn : 1 ≤ n.toInt ∧ n.toInt ≤ 32) : 0 ≤ (v * n).toInt ∧ (v * n).toInt ≤ 1024 := by
  have e1 : 0 ≤ v.toInt * n.toInt := Int.mul_nonneg (by omega) (by omega)
  have e2 : v.toInt * n.toInt ≤ 32 * 32 := Int.mul_le_mul hv.2 hn.2 (by omega) (by omega)
  rw [Int32.toInt_mul]
  have e3 : (v.toInt * n.toInt).bmod (2 ^ 32) = v.toInt * n.toInt := by
    generalize v.toInt * n.toInt = y at e1 e2
    unfold Int.bmod
    simp only
    split <;> omega
  rw [e3]
  omega
theorem clamp_le {x : Int32} {k : Nat} (h : x.toInt ≤ k) : x.toNatClampNeg ≤ k := by
  rw [← Int32.toNat_toInt]
  omega
theorem nneg {x : Int32} (h : 0 ≤ x.toInt) : ¬ x < 0 := fun q => by
  have := Int32.lt_iff_toInt_lt.mp q
  have e : (0 : Int32).toInt = 0 := by decide
  omega
set_option maxHeartbeats 4000000 in
theorem c_tinit (b key v n : Int32) (hb : b = 0 ∨ b = 1) (hv : 1 ≤ v.toInt ∧ v.toInt ≤ 32) (hn : 1 ≤ n.toInt ∧ n.toInt ≤ 32) {S : sh} {D : dt} {z : Nat} (hF : Fr S D z) (hN : sN S = 67) : wp (f_X7_init 66 b key v n S D) (fun q => Fr q.2.1 q.2.2 (z + 2000)) := by
  have last : ∀ (o5 : Nat) (S : sh) (D : dt) (z : Nat), Fr S D z → sN S < 90 → wp (f_X7_init_54 66 v n 66 o5 S D) (fun q => Fr q.2.1 q.2.2 (z + 1100)) := by
    intro o5 S D z hF hN
    unfold f_X7_init_54
    have hm := i32_mul hv hn
    refine wp_nm (wp_ck ⟨nneg hm.1, Nat.le_trans (clamp_le (k := 1024) (by omega)) (by decide)⟩ ?_)
    unfold f_X7_init_64
    have hc := clamp_le (x := v * n) (k := 1024) (by omega)
    have h1 := ((hF.pR (o := 66) (j := 5) (x := some o5) (by decide)).new (by omega) 102 (v * n).toNatClampNeg (v * n).toNatClampNeg).pR (o := 66) (j := 6) (x := some (sN S)) (by decide)
    exact wp_nm (wp_some (h1.mono (by omega)))
  have mid : ∀ (w : Int32) (S : sh) (D : dt) (z : Nat), 0 ≤ w.toInt ∧ w.toInt ≤ 32 → Fr S D z → sN S < 80 → wp (f_X7_init_52 66 v n 66 w S D) (fun q => Fr q.2.1 q.2.2 (z + 1200)) := by
    intro w S D z hw hF hN
    unfold f_X7_init_52
    refine wp_ck ⟨nneg hw.1, Nat.le_trans (clamp_le (k := 32) (by omega)) (by decide)⟩ ?_
    have hc := clamp_le (x := w) (k := 32) (by omega)
    have h1 := hF.new (by omega) 103 w.toNatClampNeg w.toNatClampNeg
    exact wp_mono (last _ _ _ _ h1 (by rw [sN_aS]; omega)) (fun q hq => hq.mono (by omega))
  have fst : ∀ (w : Int32) (S : sh) (D : dt) (z : Nat), 0 ≤ w.toInt ∧ w.toInt ≤ 32 → Fr S D z → sN S < 70 → wp (f_X7_init_36 66 b v n 66 w S D) (fun q => Fr q.2.1 q.2.2 (z + 1300)) := by
    intro w S D z hw hF hN
    unfold f_X7_init_36
    refine wp_ck ⟨nneg hw.1, Nat.le_trans (clamp_le (k := 32) (by omega)) (by decide)⟩ ?_
    have hc := clamp_le (x := w) (k := 32) (by omega)
    have h1 := hF.new (by omega) 101 w.toNatClampNeg w.toNatClampNeg
    unfold f_X7_init_38
    refine wp_nm ?_
    have h2 := h1.pR (o := 66) (j := 4) (x := some (sN S)) (by decide)
    exact wp_if (fun _ => wp_mono (mid n _ _ _ (by omega) h2 (by rw [sN_aS]; omega)) (fun q hq => hq.mono (by omega))) (fun _ => wp_mono (mid 0 _ _ _ (by decide) h2 (by rw [sN_aS]; omega)) (fun q hq => hq.mono (by omega)))
  unfold f_X7_init
  refine wp_ck hb (wp_nm (wp_nm (wp_nm (wp_nm ?_))))
  have h1 := (((hF.pI (o := 66) (j := 0) (x := b) (by decide)).pI (o := 66) (j := 1) (x := key) (by decide)).pI (o := 66) (j := 2) (x := v) (by decide)).pI (o := 66) (j := 3) (x := n) (by decide)
  exact wp_if (fun _ => wp_mono (fst n _ _ _ (by omega) h1 (by omega)) (fun q hq => hq.mono (by omega))) (fun _ => wp_mono (fst 0 _ _ _ (by decide) h1 (by omega)) (fun q hq => hq.mono (by omega)))
def okT (k key v n : Int32) : Prop := (k = 0 ∨ k = 1) ∧ (1 ≤ v.toInt ∧ v.toInt ≤ 32) ∧ (1 ≤ n.toInt ∧ n.toInt ≤ 32) ∧ (k = 0 → key = 4) ∧ (1 ≤ key.toInt ∧ key.toInt ≤ 8)
def Tpost (k key v n : Int32) (q : Int32 × sh × dt) : Prop := ((okT k key v n → q.1 = 0) ∧ (¬ okT k key v n → q.1 = -2)) ∧ Ag q.2.2 ∧ Ext SM q.2.1 ∧ sN q.2.1 ≤ 100 ∧ sZ q.2.1 ≤ sZ SM + 3000
theorem tp_no {k key v n : Int32} (h : ¬ okT k key v n) : Tpost k key v n (-2, SM, DM) := ⟨⟨fun q => absurd q h, fun _ => rfl⟩, Ag.rf, Ext.rf _, by show sN SM ≤ 100; rw [SM_n]; decide, Nat.le_add_right _ _⟩
set_option maxHeartbeats 4000000 in
theorem c_table (k key v n : Int32) : wp (f_X8_table 0 k key v n SM DM) (Tpost k key v n) := by
  have e1 : (1 : Int32).toInt = 1 := by decide
  have e8 : (8 : Int32).toInt = 8 := by decide
  have e32 : (32 : Int32).toInt = 32 := by decide
  have go : (k = 0 ∨ k = 1) → (1 ≤ v.toInt ∧ v.toInt ≤ 32) → (1 ≤ n.toInt ∧ n.toInt ≤ 32) → (k = 0 → key = 4) → wp (f_X8_table_45 0 k key v n SM DM) (Tpost k key v n) := by
    intro hk hv hn h4
    unfold f_X8_table_45
    refine wp_if (fun h => wp_some (tp_no fun q => ?_)) (fun h => wp_if (fun h2 => ?_) (fun h2 => wp_some (tp_no fun q => h2 (Int32.le_iff_toInt_le.mpr (by have := q.2.2.2.2; omega)))))
    · have := Int32.lt_iff_toInt_lt.mp h
      have := q.2.2.2.2
      omega
    · have h2' := Int32.le_iff_toInt_le.mp h2
      have h' : ¬ key.toInt < (1 : Int32).toInt := fun z => h (Int32.lt_iff_toInt_lt.mpr z)
      have hok : okT k key v n := ⟨hk, hv, hn, h4, by omega⟩
      refine wp_rq r0_1 ?_
      rw [i7_4]
      refine wp_if (fun _ => wp_rq r0_1 ?_) (fun q => absurd (by decide) q)
      have fin : ∀ b : Int32, b = 0 ∨ b = 1 → wp (f_X8_table_90 key v n 7 (sN SM) (sN SM) b (aS SM 6 0 7) (aD SM DM)) (Tpost k key v n) := by
        intro b hb
        rw [SM_n]
        unfold f_X8_table_90
        have hF : Fr (aS SM 6 0 7) (aD SM DM) 7 := by
          have h0 : Fr SM DM 0 := ⟨fun _ _ _ => ⟨rfl, rfl, rfl⟩, Ext.rf _, by rw [SM_n]; decide, by omega⟩
          exact (h0.new (by rw [SM_n]; decide) 6 0 7).mono (by omega)
        refine wp_c3 (wp_mono (c_tinit b key v n hb hv hn hF (by rw [sN_aS, SM_n])) (fun q hq => ?_))
        obtain ⟨h1, h3, h5, h6⟩ := hq
        unfold f_X8_table_97 f_X2_addTable
        refine wp_cq (wp_nm (wp_rq ((h1 7 3 (by decide)).2.2.trans r7_3) (wp_ix ?_ (wp_nm (wp_nm (wp_some (wp_some ⟨⟨fun _ => (h1 7 4 (by decide)).1.trans i7_4, fun q => absurd hok q⟩, ?_, h3, h5, Nat.le_trans h6 (Nat.add_le_add_left (by decide) _)⟩)))))))
        · rw [(h1 7 4 (by decide)).1, i7_4, (h3.2.2 10 (by rw [SM_n]; decide)).2, l_10]
          exact in_of rfl
        · exact (h1.ag.pR (by decide)).pI (by decide)
      unfold f_X8_table_80
      exact wp_if (fun _ => fin 1 (Or.inr rfl)) (fun _ => fin 0 (Or.inl rfl))
  have all : (k = 0 ∨ k = 1) → wp (f_X8_table_9 0 k key v n SM DM) (Tpost k key v n) := by
    intro hk
    unfold f_X8_table_9
    refine wp_if (fun h => wp_some (tp_no fun q => ?_)) (fun h1 => wp_if (fun h => wp_some (tp_no fun q => ?_)) (fun h2 => wp_if (fun h => wp_some (tp_no fun q => ?_)) (fun h3 => wp_if (fun h4 => ?_) (fun h => wp_some (tp_no fun q => ?_)))))
    · have := Int32.lt_iff_toInt_lt.mp h; have := q.2.1; omega
    · have := Int32.lt_iff_toInt_lt.mp h; have := q.2.1; omega
    · have := Int32.lt_iff_toInt_lt.mp h; have := q.2.2.1; omega
    · have a1 : ¬ v.toInt < (1 : Int32).toInt := fun z => h1 (Int32.lt_iff_toInt_lt.mpr z)
      have a2 : ¬ (32 : Int32).toInt < v.toInt := fun z => h2 (Int32.lt_iff_toInt_lt.mpr z)
      have a3 : ¬ n.toInt < (1 : Int32).toInt := fun z => h3 (Int32.lt_iff_toInt_lt.mpr z)
      have a4 := Int32.le_iff_toInt_le.mp h4
      exact wp_if (fun hz => wp_if (fun h5 => go hk (by omega) (by omega) (fun _ => h5)) (fun h5 => wp_some (tp_no fun q => h5 (q.2.2.2.1 hz)))) (fun hz => go hk (by omega) (by omega) (fun q => absurd q hz))
    · exact h (Int32.le_iff_toInt_le.mpr (by have := q.2.2.1; omega))
  unfold f_X8_table
  exact wp_if (fun h => all (Or.inl h)) (fun h0 => wp_if (fun h => all (Or.inr h)) (fun h => wp_some (tp_no fun q => by rcases q.1 with z | z <;> contradiction)))
set_option maxHeartbeats 4000000 in
theorem m_table (k key v n : Int32) {S : sh} {D : dt} (hS : Ext SM S) (hD : Ag D) : wp (f_X9_table S 28 k key v n D) (fun q => (okT k key v n → q.1 = 0) ∧ (¬ okT k key v n → q.1 = -2)) := by
  have e0 : (0 : Int64).toInt = 0 := by decide
  have e1 : (1 : Int64).toInt = 1 := by decide
  have e8 : (8 : Int64).toInt = 8 := by decide
  have e32 : (32 : Int64).toInt = 32 := by decide
  have f0 : (0 : Int32).toInt = 0 := by decide
  have f1 : (1 : Int32).toInt = 1 := by decide
  have f4 : (4 : Int32).toInt = 4 := by decide
  have hl : ∀ o, o < 66 → sA S o = sA SM o := fun o ho => (hS.2.2 o (by rw [SM_n]; exact ho)).2
  have go : (k = 0 ∨ k = 1) → (k = 0 → key = 4) → (1 ≤ key.toInt ∧ key.toInt ≤ 8) → wp (f_X9_table_34 S 28 k key v n D) (fun q => (okT k key v n → q.1 = 0) ∧ (¬ okT k key v n → q.1 = -2)) := by
    intro hk h4 hkey
    unfold f_X9_table_34
    by_cases hv : 1 ≤ v.toInt ∧ v.toInt ≤ 32
    · rw [in_yes (x := v) (by omega)]
      refine wp_pq (wp_some (wp_if (fun q => absurd q (by decide)) (fun _ => ?_)))
      by_cases hn : 1 ≤ n.toInt ∧ n.toInt ≤ 32
      · rw [in_yes (x := n) (by omega), hD.i i28_9]
        refine wp_pq (wp_some (wp_if (fun q => absurd q (by decide)) (fun _ => wp_if (fun q => absurd q (by decide)) (fun _ => ?_))))
        refine wp_rq (hD.r r28_10) (wp_ix (by rw [hl 36 (by decide), l_36]; exact in_of rfl) (wp_nm ?_))
        refine wp_rq (rI (hD.r r28_11)) (wp_ix (by rw [gI_pI, if_neg (by decide), hD.i i28_9, hl 37 (by decide), l_37]; exact in_of rfl) (wp_nm ?_))
        refine wp_rq (rI (rI (hD.r r28_12))) (wp_ix (by rw [gI_pI, if_neg (fun q => by omega), gI_pI, if_neg (fun q => by omega), hD.i i28_9, hl 38 (by decide), l_38]; exact in_of rfl) (wp_nm ?_))
        refine wp_rq (rI (rI (rI (hD.r r28_13)))) (wp_ix (by rw [gI_pI, if_neg (fun q => by omega), gI_pI, if_neg (fun q => by omega), gI_pI, if_neg (fun q => by omega), hD.i i28_9, hl 39 (by decide), l_39]; exact in_of rfl) (wp_nm (wp_nm (wp_some ⟨fun _ => ?_, fun q => absurd ⟨hk, hv, hn, h4, hkey⟩ q⟩))))
        simp [gI_pI, hD.i i28_9]
      · rw [in_no (x := n) (by omega)]
        exact wp_pq (wp_some (wp_if (fun _ => wp_some ⟨fun q => absurd q.2.2.1 hn, fun _ => rfl⟩) (fun q => absurd rfl q)))
    · rw [in_no (x := v) (by omega)]
      exact wp_pq (wp_some (wp_if (fun _ => wp_some ⟨fun q => absurd q.2.1 hv, fun _ => rfl⟩) (fun q => absurd rfl q)))
  unfold f_X9_table
  by_cases hk : 0 ≤ k.toInt ∧ k.toInt ≤ 1
  · rw [in_yes (x := k) (by omega)]
    have hk' : k = 0 ∨ k = 1 := by
      by_cases z : k.toInt = 0
      · exact Or.inl (Int32.toInt_inj.mp (by omega))
      · exact Or.inr (Int32.toInt_inj.mp (by omega))
    refine wp_pq (wp_some (wp_if (fun q => absurd q (by decide)) (fun _ => wp_if (fun hz => wp_if (fun h4 => go hk' (fun _ => h4) (by rw [h4]; omega)) (fun h4 => wp_some ⟨fun q => absurd (q.2.2.2.1 hz) h4, fun _ => rfl⟩)) (fun hz => ?_))))
    by_cases hkey : 1 ≤ key.toInt ∧ key.toInt ≤ 8
    · rw [in_yes (x := key) (by omega)]
      exact wp_pq (wp_some (wp_if (fun q => absurd q (by decide)) (fun _ => go hk' (fun q => absurd q hz) hkey)))
    · rw [in_no (x := key) (by omega)]
      exact wp_pq (wp_some (wp_if (fun _ => wp_some ⟨fun q => absurd q.2.2.2.2 hkey, fun _ => rfl⟩) (fun q => absurd rfl q)))
  · rw [in_no (x := k) (by omega)]
    refine wp_pq (wp_some (wp_if (fun _ => wp_some ⟨fun q => absurd ?_ hk, fun _ => rfl⟩) (fun q => absurd rfl q)))
    rcases q.1 with z | z
    · rw [z]; omega
    · rw [z]; omega
