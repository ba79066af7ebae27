def okSlot (a b c : Int32) : Prop := (0 ≤ a.toInt ∧ a.toInt ≤ 255) ∧ (0 ≤ b.toInt ∧ b.toInt ≤ 255) ∧ (-32768 ≤ c.toInt ∧ c.toInt ≤ 32767)
set_option maxHeartbeats 4000000 in
theorem c_feed (a b c d : Int32) : wp (f_X8_feed SM 0 a b c d DM) (fun q => ((okSlot a b c → q.1 = 0) ∧ (¬ okSlot a b c → q.1 = -2)) ∧ Ag q.2) := by
  unfold f_X8_feed
  rw [s_fits]
  refine wp_pq (wp_some ?_)
  by_cases hP : okSlot a b c
  · have hP' := hP
    unfold okSlot at hP'
    rw [if_pos hP']
    refine wp_if (fun q => absurd q (by decide)) (fun _ => ?_)
    refine wp_rq r0_0 (wp_if (fun _ => ?_) (fun q => absurd (by rw [i1_5]; decide) q))
    refine wp_rq r0_0 (wp_nm (wp_rq r0_0 (wp_nm ?_)))
    rw [i1_5]
    refine wp_rq (rI r0_0) (wp_cq ?_)
    unfold f_X4_write
    have hh : f_X4_has SM (pI DM 1 5 (0 + 1)) 1 0 = some 1 := by
      unfold f_X4_has
      have e : gI (pI DM 1 5 (0 + 1)) 1 5 = 1 := by rw [gI_pI]; rfl
      rw [e]
      rfl
    rw [hh]
    refine wp_pq (wp_some (wp_if (fun q => absurd q (by decide)) (fun _ => ?_)))
    refine wp_rq (rI r1_0) (wp_ix (by rw [l_2]; exact in_of rfl) (wp_nm ?_))
    refine wp_rq (rI (rI r1_1)) (wp_ix (by rw [l_3]; exact in_of rfl) (wp_nm ?_))
    refine wp_rq (rI (rI (rI r1_2))) (wp_ix (by rw [l_4]; exact in_of rfl) (wp_nm ?_))
    refine wp_rq (rI (rI (rI (rI r1_3)))) (wp_ix (by rw [l_5]; exact in_of rfl) (wp_nm ?_))
    refine wp_rq (rI (rI (rI (rI (rI r1_4))))) (wp_ix (by rw [l_6]; exact in_of rfl) (wp_nm (wp_some ?_)))
    refine wp_rq (rI (rI (rI (rI (rI (rI r0_2)))))) (wp_nm (wp_some ⟨⟨fun _ => rfl, fun q => absurd hP q⟩, ?_⟩))
    exact (((((((Ag.rf.pI (by decide)).pI (by decide)).pI (by decide)).pI (by decide)).pI (by decide)).pI (by decide)).pI (by decide))
  · have hP' := hP
    unfold okSlot at hP'
    rw [if_neg hP']
    exact wp_if (fun _ => wp_some ⟨⟨fun q => absurd q hP, fun _ => rfl⟩, Ag.rf⟩) (fun q => absurd rfl q)
set_option maxHeartbeats 4000000 in
theorem m_feed (a b c d : Int32) {D : dt} (hD : Ag D) : wp (f_X9_feed SM 28 a b c d D) (fun q => (okSlot a b c → q.1 = 0) ∧ (¬ okSlot a b c → q.1 = -2)) := by
  unfold f_X9_feed
  rw [s_isSlot]
  refine wp_pq (wp_some ?_)
  by_cases hP : okSlot a b c
  · have hP' := hP
    unfold okSlot at hP'
    rw [if_pos hP']
    refine wp_if (fun q => absurd q (by decide)) (fun _ => ?_)
    rw [hD.i i28_0]
    refine wp_if (fun q => absurd q (by decide)) (fun _ => wp_cq ?_)
    unfold f_X9_set
    refine wp_rq (hD.r r28_1) (wp_ix (by rw [l_29]; exact in_of rfl) (wp_nm ?_))
    refine wp_rq (rI (hD.r r28_2)) (wp_ix (by rw [l_30]; exact in_of rfl) (wp_nm ?_))
    refine wp_rq (rI (rI (hD.r r28_3))) (wp_ix (by rw [l_31]; exact in_of rfl) (wp_nm ?_))
    refine wp_rq (rI (rI (rI (hD.r r28_4)))) (wp_ix (by rw [l_32]; exact in_of rfl) (wp_nm ?_))
    refine wp_rq (rI (rI (rI (rI (hD.r r28_5))))) (wp_ix (by rw [l_33]; exact in_of rfl) (wp_nm (wp_nm (wp_some (wp_nm (wp_some ?_))))))
    refine ⟨fun _ => ?_, fun q => absurd hP q⟩
    simp [gI_pI, hD.i i28_0]
  · have hP' := hP
    unfold okSlot at hP'
    rw [if_neg hP']
    exact wp_if (fun _ => wp_some ⟨fun q => absurd q hP, fun _ => rfl⟩) (fun q => absurd rfl q)
