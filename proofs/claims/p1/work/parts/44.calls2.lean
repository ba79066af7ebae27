theorem s_has0 (i : Int32) : f_X4_has SM DM 1 i = some 0 := by
  unfold f_X4_has
  rw [i1_5]
  by_cases h : i < 0
  · rw [if_pos h]
  · rw [if_neg h, if_pos (Int32.not_lt.mp h)]
theorem in_none (i : Int32) : f_X9_in i.toInt64 0 (((0 : Int32) - 1).toInt64) = some 0 := by
  rw [s_in, if_neg]
  intro q
  have h1 := Int64.le_iff_toInt_le.mp q.1
  have h2 := Int64.le_iff_toInt_le.mp q.2
  have e1 : ((0 : Int32) - 1).toInt64.toInt = -1 := by decide
  have e0 : (0 : Int64).toInt = 0 := by decide
  omega
theorem c_alter (i a b c d : Int32) : wp (f_X8_alter SM 0 i a b c d DM) (fun q => q.1 = -1 ∧ Ag q.2) := by
  unfold f_X8_alter
  refine wp_rq r0_0 ?_
  rw [s_has0]
  exact wp_pq (wp_some (wp_if (fun _ => wp_some ⟨rfl, Ag.rf⟩) (fun q => absurd rfl q)))
theorem m_alter (i a b c d : Int32) {D : dt} (hD : Ag D) : wp (f_X9_alter SM 28 i a b c d D) (fun q => q.1 = -1) := by
  unfold f_X9_alter
  rw [hD.i i28_0, in_none]
  exact wp_pq (wp_some (wp_if (fun _ => wp_some rfl) (fun q => absurd rfl q)))
theorem c_cut (n : Int32) : wp (f_X8_cut SM 0 n DM) (fun q => ((n = 0 → q.1 = 0) ∧ (¬ n = 0 → q.1 = -2)) ∧ Ag q.2) := by
  unfold f_X8_cut
  refine wp_rq r0_0 (wp_nm ?_)
  rw [i1_5]
  refine wp_if (fun h => wp_some ⟨⟨fun q => ?_, fun _ => rfl⟩, Ag.rf⟩) (fun h => wp_if (fun h2 => ?_) (fun h2 => wp_some ⟨⟨fun q => ?_, fun _ => rfl⟩, Ag.rf⟩))
  · subst q; exact absurd h (by decide)
  · have e : n = 0 := Int32.le_antisymm h2 (Int32.not_lt.mp h)
    refine wp_rq r0_0 (wp_nm (wp_rq (rI r0_2) (wp_nm (wp_some ⟨⟨fun _ => rfl, fun q => absurd e q⟩, ?_⟩))))
    exact (Ag.rf.pI (by decide)).pI (by decide)
  · subst q; exact absurd (by decide) h2
theorem m_cut (n : Int32) {D : dt} (hD : Ag D) : wp (f_X9_cut SM 28 n D) (fun q => (n = 0 → q.1 = 0) ∧ (¬ n = 0 → q.1 = -2)) := by
  have e0 : (0 : Int64).toInt = 0 := by decide
  have e1 : (0 : Int32).toInt = 0 := by decide
  have e2 : (0 : Int32).toInt64.toInt = 0 := by decide
  unfold f_X9_cut
  rw [hD.i i28_0]
  by_cases h : n = 0
  · rw [in_yes (by rw [h]; omega)]
    exact wp_pq (wp_some (wp_if (fun q => absurd q (by decide)) (fun _ => wp_nm (wp_nm (wp_nm (wp_some ⟨fun _ => rfl, fun q => absurd h q⟩))))))
  · rw [in_no (fun q => h (Int32.toInt_inj.mp (by omega)))]
    exact wp_pq (wp_some (wp_if (fun _ => wp_some ⟨fun q => absurd q h, fun _ => rfl⟩) (fun q => absurd rfl q)))
theorem c_poke (i v : Int32) : wp (f_X8_poke SM 0 i v DM) (fun q => q.1 = -1 ∧ Ag q.2) := by
  unfold f_X8_poke
  refine wp_if (fun h => wp_some ⟨rfl, Ag.rf⟩) (fun h => wp_rq r0_1 ?_)
  rw [i7_1]
  exact wp_if (fun q => absurd q h) (fun _ => wp_some ⟨rfl, Ag.rf⟩)
theorem m_poke (i v : Int32) {D : dt} (hD : Ag D) : wp (f_X9_poke SM 28 i v D) (fun q => q.1 = -1) := by
  unfold f_X9_poke
  rw [hD.i i28_7, in_none]
  exact wp_pq (wp_some (wp_if (fun _ => wp_some rfl) (fun q => absurd rfl q)))
theorem c_tick (n : Int64) : wp (f_X8_tick SM 0 n DM) (fun q => ((n < 0 ∨ 4611686018427387904 < n → q.1 = -2) ∧ (¬ (n < 0 ∨ 4611686018427387904 < n) → q.1 = n)) ∧ Ag q.2) := by
  unfold f_X8_tick f_X8_tick_22
  refine wp_if (fun h => wp_some ⟨⟨fun _ => rfl, fun q => absurd (Or.inl ((lg_cmp_lt _ _).mp h)) q⟩, Ag.rf⟩) (fun h => wp_rq r0_1 ?_)
  rw [g7_5]
  refine wp_if (fun h2 => wp_rq r0_1 (wp_nm (wp_rq (rL r0_1) (wp_some ⟨⟨fun q => ?_, fun _ => ?_⟩, Ag.rf.pL (by decide)⟩)))) (fun h2 => wp_some ⟨⟨fun _ => rfl, fun q => ?_⟩, Ag.rf⟩)
  · rcases q with q | q
    · exact absurd ((lg_cmp_lt _ _).mpr q) h
    · exact absurd q (Int64.not_lt.mpr ((lg_cmp_le _ _).mp h2))
  · rw [gL_pL, if_pos ⟨rfl, rfl⟩, g7_5, Int64.zero_add]
  · exact absurd (Or.inr (Int64.not_le.mp fun z => h2 ((lg_cmp_le _ _).mpr z))) q
theorem m_tick (n : Int64) {D : dt} (hD : Ag D) : wp (f_X9_tick SM 28 n D) (fun q => (n < 0 ∨ 4611686018427387904 < n → q.1 = -2) ∧ (¬ (n < 0 ∨ 4611686018427387904 < n) → q.1 = n)) := by
  unfold f_X9_tick f_X9_tick_19
  rw [hD.l g28_17]
  refine wp_if (fun h => wp_some ⟨fun _ => rfl, fun q => absurd (Or.inl ((lg_cmp_lt _ _).mp h)) q⟩) (fun h => ?_)
  refine wp_if (fun h2 => wp_nm (wp_some ⟨fun q => ?_, fun _ => ?_⟩)) (fun h2 => wp_some ⟨fun _ => rfl, fun q => ?_⟩)
  · rcases q with q | q
    · exact absurd ((lg_cmp_lt _ _).mpr q) h
    · exact absurd q (Int64.not_lt.mpr ((lg_cmp_le _ _).mp h2))
  · rw [gL_pL, if_pos ⟨rfl, rfl⟩, Int64.zero_add]
  · exact absurd (Or.inr (Int64.not_le.mp fun z => h2 ((lg_cmp_le _ _).mpr z))) q
theorem c_place : wp (f_X8_place SM DM 0) (fun r => r = -1) := by
  unfold f_X8_place
  exact wp_rq r0_3 (wp_some i14_7)
theorem m_place : wp (f_X9_place SM DM 28) (fun r => r = -1) := wp_some i28_26
theorem c_may (i r w : Int32) : wp (f_X8_may SM DM 0 i r w) (fun r => r = -1) := by
  unfold f_X8_may f_X8_may_21
  refine wp_rq r0_0 ?_
  rw [s_has0]
  exact wp_pq (wp_some (wp_if (fun _ => wp_some rfl) (fun q => absurd rfl q)))
theorem m_may (i r w : Int32) : wp (f_X9_may SM DM 28 i r w) (fun r => r = -1) := by
  unfold f_X9_may f_X9_may_28
  rw [i28_0, in_none]
  exact wp_pq (wp_some (wp_if (fun _ => wp_some rfl) (fun q => absurd rfl q)))
theorem c_cell (i a : Int32) : wp (f_X8_cell SM DM 0 i a) (fun r => r = -1) := by
  unfold f_X8_cell
  refine wp_rq r0_0 ?_
  rw [s_has0]
  exact wp_pq (wp_some (wp_if (fun _ => wp_some rfl) (fun q => absurd rfl q)))
theorem m_cell (i a : Int32) : wp (f_X9_cell SM DM 28 i a) (fun r => r = -1) := by
  unfold f_X9_cell
  rw [i28_0, in_none]
  exact wp_pq (wp_some (wp_if (fun _ => wp_some rfl) (fun q => absurd rfl q)))
theorem c_start : wp (f_X8_start SM 0 DM) (fun q => q.1 = -3 ∧ Ag q.2) := by
  unfold f_X8_start
  refine wp_rq r0_0 ?_
  rw [i1_5]
  exact wp_if (fun _ => wp_some ⟨rfl, Ag.rf⟩) (fun q => absurd rfl q)
theorem m_start {D : dt} (hD : Ag D) : wp (f_X9_start SM 28 D) (fun q => q.1 = -3) := by
  unfold f_X9_start
  rw [hD.i i28_0]
  exact wp_if (fun _ => wp_some rfl) (fun q => absurd rfl q)
theorem c_step : wp (f_X8_step SM 0 DM) (fun q => q.1 = -3 ∧ Ag q.2) := by
  unfold f_X8_step
  refine wp_rq r0_2 ?_
  rw [i11_5]
  exact wp_if (fun q => absurd q (by decide)) (fun _ => wp_some ⟨rfl, Ag.rf⟩)
theorem m_step {D : dt} (hD : Ag D) : wp (f_X9_step SM 28 D) (fun q => q.1 = -3) := by
  unfold f_X9_step
  rw [hD.i i28_18]
  exact wp_if (fun q => absurd q (by decide)) (fun _ => wp_some rfl)
theorem c_run (n : Int32) : wp (f_X8_run SM 0 n DM) (fun q => ((0 ≤ n.toInt ∧ n.toInt ≤ 10000 → q.1 = -3) ∧ (¬ (0 ≤ n.toInt ∧ n.toInt ≤ 10000) → q.1 = -2)) ∧ Ag q.2) := by
  unfold f_X8_run
  have e0 : (0 : Int32).toInt = 0 := by decide
  have e1 : (10000 : Int32).toInt = 10000 := by decide
  refine wp_if (fun h => wp_some ⟨⟨fun q => ?_, fun _ => rfl⟩, Ag.rf⟩) (fun h => wp_if (fun h2 => wp_rq r0_2 ?_) (fun h2 => wp_some ⟨⟨fun q => ?_, fun _ => rfl⟩, Ag.rf⟩))
  · have := Int32.lt_iff_toInt_lt.mp h; omega
  · rw [i11_5]
    refine wp_if (fun q => absurd q (by decide)) (fun _ => wp_some ⟨⟨fun _ => rfl, fun q => absurd ?_ q⟩, Ag.rf⟩)
    have h3 := Int32.le_iff_toInt_le.mp h2
    have h4 : ¬ n.toInt < (0 : Int32).toInt := fun z => h (Int32.lt_iff_toInt_lt.mpr z)
    omega
  · exact absurd (Int32.le_iff_toInt_le.mpr (by omega)) h2
theorem m_run (n : Int32) {D : dt} (hD : Ag D) : wp (f_X9_run SM 28 n D) (fun q => (0 ≤ n.toInt ∧ n.toInt ≤ 10000 → q.1 = -3) ∧ (¬ (0 ≤ n.toInt ∧ n.toInt ≤ 10000) → q.1 = -2)) := by
  have e0 : (0 : Int64).toInt = 0 := by decide
  have e1 : (10000 : Int64).toInt = 10000 := by decide
  unfold f_X9_run
  by_cases h : 0 ≤ n.toInt ∧ n.toInt ≤ 10000
  · rw [in_yes (by omega), hD.i i28_18]
    exact wp_pq (wp_some (wp_if (fun q => absurd q (by decide)) (fun _ => wp_if (fun q => absurd q (by decide)) (fun _ => wp_some ⟨fun _ => rfl, fun q => absurd h q⟩))))
  · rw [in_no (by omega)]
    exact wp_pq (wp_some (wp_if (fun _ => wp_some ⟨fun q => absurd q h, fun _ => rfl⟩) (fun q => absurd rfl q)))
